theorem dX6_init_0 : decode cX6_init 0 = .ok (.aload_n 0, 1) := by decide +kernel
theorem dX6_init_1 : decode cX6_init 1 = .ok (.invokespecial 1, 3) := by decide +kernel
theorem dX6_init_4 : decode cX6_init 4 = .ok (.aload_n 0, 1) := by decide +kernel
theorem dX6_init_5 : decode cX6_init 5 = .ok (.iconst 5, 1) := by decide +kernel
theorem dX6_init_6 : decode cX6_init 6 = .ok (.putfield 7, 3) := by decide +kernel
theorem dX6_init_9 : decode cX6_init 9 = .ok (.aload_n 0, 1) := by decide +kernel
theorem dX6_init_10 : decode cX6_init 10 = .ok (.bipush 8, 2) := by decide +kernel
theorem dX6_init_12 : decode cX6_init 12 = .ok (.putfield 13, 3) := by decide +kernel
theorem dX6_init_15 : decode cX6_init 15 = .ok (.aload_n 0, 1) := by decide +kernel
theorem dX6_init_16 : decode cX6_init 16 = .ok (.bipush 24, 2) := by decide +kernel
theorem dX6_init_18 : decode cX6_init 18 = .ok (.newarray .int, 2) := by decide +kernel
theorem dX6_init_20 : decode cX6_init 20 = .ok (.putfield 16, 3) := by decide +kernel
theorem dX6_init_23 : decode cX6_init 23 = .ok (.aload_n 0, 1) := by decide +kernel
theorem dX6_init_24 : decode cX6_init 24 = .ok (.bipush 24, 2) := by decide +kernel
theorem dX6_init_26 : decode cX6_init 26 = .ok (.newarray .int, 2) := by decide +kernel
theorem dX6_init_28 : decode cX6_init 28 = .ok (.putfield 20, 3) := by decide +kernel
theorem dX6_init_31 : decode cX6_init 31 = .ok (.aload_n 0, 1) := by decide +kernel
theorem dX6_init_32 : decode cX6_init 32 = .ok (.bipush 24, 2) := by decide +kernel
theorem dX6_init_34 : decode cX6_init 34 = .ok (.newarray .int, 2) := by decide +kernel
theorem dX6_init_36 : decode cX6_init 36 = .ok (.putfield 23, 3) := by decide +kernel
theorem dX6_init_39 : decode cX6_init 39 = .ok (.aload_n 0, 1) := by decide +kernel
theorem dX6_init_40 : decode cX6_init 40 = .ok (.bipush 24, 2) := by decide +kernel
theorem dX6_init_42 : decode cX6_init 42 = .ok (.newarray .int, 2) := by decide +kernel
theorem dX6_init_44 : decode cX6_init 44 = .ok (.putfield 26, 3) := by decide +kernel
theorem dX6_init_47 : decode cX6_init 47 = .ok (.aload_n 0, 1) := by decide +kernel
theorem dX6_init_48 : decode cX6_init 48 = .ok (.bipush 24, 2) := by decide +kernel
theorem dX6_init_50 : decode cX6_init 50 = .ok (.newarray .int, 2) := by decide +kernel
theorem dX6_init_52 : decode cX6_init 52 = .ok (.putfield 29, 3) := by decide +kernel
theorem dX6_init_55 : decode cX6_init 55 = .ok (.aload_n 0, 1) := by decide +kernel
theorem dX6_init_56 : decode cX6_init 56 = .ok (.bipush 24, 2) := by decide +kernel
theorem dX6_init_58 : decode cX6_init 58 = .ok (.newarray .int, 2) := by decide +kernel
theorem dX6_init_60 : decode cX6_init 60 = .ok (.putfield 32, 3) := by decide +kernel
theorem dX6_init_63 : decode cX6_init 63 = .ok (.aload_n 0, 1) := by decide +kernel
theorem dX6_init_64 : decode cX6_init 64 = .ok (.bipush 24, 2) := by decide +kernel
theorem dX6_init_66 : decode cX6_init 66 = .ok (.newarray .int, 2) := by decide +kernel
theorem dX6_init_68 : decode cX6_init 68 = .ok (.putfield 35, 3) := by decide +kernel
theorem dX6_init_71 : decode cX6_init 71 = .ok (.aload_n 0, 1) := by decide +kernel
theorem dX6_init_72 : decode cX6_init 72 = .ok (.bipush 24, 2) := by decide +kernel
theorem dX6_init_74 : decode cX6_init 74 = .ok (.newarray .int, 2) := by decide +kernel
theorem dX6_init_76 : decode cX6_init 76 = .ok (.putfield 38, 3) := by decide +kernel
theorem dX6_init_79 : decode cX6_init 79 = .ok (.aload_n 0, 1) := by decide +kernel
theorem dX6_init_80 : decode cX6_init 80 = .ok (.bipush 24, 2) := by decide +kernel
theorem dX6_init_82 : decode cX6_init 82 = .ok (.newarray .int, 2) := by decide +kernel
theorem dX6_init_84 : decode cX6_init 84 = .ok (.putfield 41, 3) := by decide +kernel
theorem dX6_init_87 : decode cX6_init 87 = .ok (.aload_n 0, 1) := by decide +kernel
theorem dX6_init_88 : decode cX6_init 88 = .ok (.bipush 24, 2) := by decide +kernel
theorem dX6_init_90 : decode cX6_init 90 = .ok (.newarray .int, 2) := by decide +kernel
theorem dX6_init_92 : decode cX6_init 92 = .ok (.putfield 44, 3) := by decide +kernel
theorem dX6_init_95 : decode cX6_init 95 = .ok (.aload_n 0, 1) := by decide +kernel
theorem dX6_init_96 : decode cX6_init 96 = .ok (.bipush 24, 2) := by decide +kernel
theorem dX6_init_98 : decode cX6_init 98 = .ok (.newarray .int, 2) := by decide +kernel
theorem dX6_init_100 : decode cX6_init 100 = .ok (.putfield 47, 3) := by decide +kernel
theorem dX6_init_103 : decode cX6_init 103 = .ok (.aload_n 0, 1) := by decide +kernel
theorem dX6_init_104 : decode cX6_init 104 = .ok (.bipush 24, 2) := by decide +kernel
theorem dX6_init_106 : decode cX6_init 106 = .ok (.newarray .int, 2) := by decide +kernel
theorem dX6_init_108 : decode cX6_init 108 = .ok (.putfield 50, 3) := by decide +kernel
theorem dX6_init_111 : decode cX6_init 111 = .ok (.aload_n 0, 1) := by decide +kernel
theorem dX6_init_112 : decode cX6_init 112 = .ok (.bipush 24, 2) := by decide +kernel
theorem dX6_init_114 : decode cX6_init 114 = .ok (.newarray .int, 2) := by decide +kernel
theorem dX6_init_116 : decode cX6_init 116 = .ok (.putfield 53, 3) := by decide +kernel
theorem dX6_init_119 : decode cX6_init 119 = .ok (.aload_n 0, 1) := by decide +kernel
theorem dX6_init_120 : decode cX6_init 120 = .ok (.bipush 64, 2) := by decide +kernel
theorem dX6_init_122 : decode cX6_init 122 = .ok (.newarray .int, 2) := by decide +kernel
theorem dX6_init_124 : decode cX6_init 124 = .ok (.putfield 56, 3) := by decide +kernel
theorem dX6_init_127 : decode cX6_init 127 = .ok (.aload_n 0, 1) := by decide +kernel
theorem dX6_init_128 : decode cX6_init 128 = .ok (.bipush 64, 2) := by decide +kernel
theorem dX6_init_130 : decode cX6_init 130 = .ok (.newarray .int, 2) := by decide +kernel
theorem dX6_init_132 : decode cX6_init 132 = .ok (.putfield 59, 3) := by decide +kernel
theorem dX6_init_135 : decode cX6_init 135 = .ok (.aload_n 0, 1) := by decide +kernel
theorem dX6_init_136 : decode cX6_init 136 = .ok (.bipush 64, 2) := by decide +kernel
theorem dX6_init_138 : decode cX6_init 138 = .ok (.newarray .int, 2) := by decide +kernel
theorem dX6_init_140 : decode cX6_init 140 = .ok (.putfield 62, 3) := by decide +kernel
theorem dX6_init_143 : decode cX6_init 143 = .ok (.aload_n 0, 1) := by decide +kernel
theorem dX6_init_144 : decode cX6_init 144 = .ok (.bipush 64, 2) := by decide +kernel
theorem dX6_init_146 : decode cX6_init 146 = .ok (.newarray .int, 2) := by decide +kernel
theorem dX6_init_148 : decode cX6_init 148 = .ok (.putfield 65, 3) := by decide +kernel
theorem dX6_init_151 : decode cX6_init 151 = .ok (.aload_n 0, 1) := by decide +kernel
theorem dX6_init_152 : decode cX6_init 152 = .ok (.sipush 512, 3) := by decide +kernel
theorem dX6_init_155 : decode cX6_init 155 = .ok (.newarray .int, 2) := by decide +kernel
theorem dX6_init_157 : decode cX6_init 157 = .ok (.putfield 68, 3) := by decide +kernel
theorem dX6_init_160 : decode cX6_init 160 = .ok (.aload_n 0, 1) := by decide +kernel
theorem dX6_init_161 : decode cX6_init 161 = .ok (.sipush 256, 3) := by decide +kernel
theorem dX6_init_164 : decode cX6_init 164 = .ok (.newarray .int, 2) := by decide +kernel
theorem dX6_init_166 : decode cX6_init 166 = .ok (.putfield 71, 3) := by decide +kernel
theorem dX6_init_169 : decode cX6_init 169 = .ok (.aload_n 0, 1) := by decide +kernel
theorem dX6_init_170 : decode cX6_init 170 = .ok (.sipush 256, 3) := by decide +kernel
theorem dX6_init_173 : decode cX6_init 173 = .ok (.newarray .int, 2) := by decide +kernel
theorem dX6_init_175 : decode cX6_init 175 = .ok (.putfield 74, 3) := by decide +kernel
theorem dX6_init_178 : decode cX6_init 178 = .ok (.aload_n 0, 1) := by decide +kernel
theorem dX6_init_179 : decode cX6_init 179 = .ok (.sipush 256, 3) := by decide +kernel
theorem dX6_init_182 : decode cX6_init 182 = .ok (.newarray .int, 2) := by decide +kernel
theorem dX6_init_184 : decode cX6_init 184 = .ok (.putfield 77, 3) := by decide +kernel
theorem dX6_init_187 : decode cX6_init 187 = .ok (.aload_n 0, 1) := by decide +kernel
theorem dX6_init_188 : decode cX6_init 188 = .ok (.sipush 256, 3) := by decide +kernel
theorem dX6_init_191 : decode cX6_init 191 = .ok (.newarray .int, 2) := by decide +kernel
theorem dX6_init_193 : decode cX6_init 193 = .ok (.putfield 80, 3) := by decide +kernel
theorem dX6_init_196 : decode cX6_init 196 = .ok (.aload_n 0, 1) := by decide +kernel
theorem dX6_init_197 : decode cX6_init 197 = .ok (.bipush 16, 2) := by decide +kernel
theorem dX6_init_199 : decode cX6_init 199 = .ok (.newarray .boolean, 2) := by decide +kernel
theorem dX6_init_201 : decode cX6_init 201 = .ok (.putfield 83, 3) := by decide +kernel
theorem dX6_init_204 : decode cX6_init 204 = .ok (.aload_n 0, 1) := by decide +kernel
theorem dX6_init_205 : decode cX6_init 205 = .ok (.bipush 16, 2) := by decide +kernel
theorem dX6_init_207 : decode cX6_init 207 = .ok (.newarray .int, 2) := by decide +kernel
theorem dX6_init_209 : decode cX6_init 209 = .ok (.putfield 87, 3) := by decide +kernel
theorem dX6_init_212 : decode cX6_init 212 = .ok (.aload_n 0, 1) := by decide +kernel
theorem dX6_init_213 : decode cX6_init 213 = .ok (.bipush 16, 2) := by decide +kernel
theorem dX6_init_215 : decode cX6_init 215 = .ok (.newarray .int, 2) := by decide +kernel
theorem dX6_init_217 : decode cX6_init 217 = .ok (.putfield 90, 3) := by decide +kernel
theorem dX6_init_220 : decode cX6_init 220 = .ok (.aload_n 0, 1) := by decide +kernel
theorem dX6_init_221 : decode cX6_init 221 = .ok (.bipush 16, 2) := by decide +kernel
theorem dX6_init_223 : decode cX6_init 223 = .ok (.newarray .int, 2) := by decide +kernel
theorem dX6_init_225 : decode cX6_init 225 = .ok (.putfield 93, 3) := by decide +kernel
theorem dX6_init_228 : decode cX6_init 228 = .ok (.aload_n 0, 1) := by decide +kernel
theorem dX6_init_229 : decode cX6_init 229 = .ok (.bipush 64, 2) := by decide +kernel
theorem dX6_init_231 : decode cX6_init 231 = .ok (.newarray .int, 2) := by decide +kernel
theorem dX6_init_233 : decode cX6_init 233 = .ok (.putfield 96, 3) := by decide +kernel
theorem dX6_init_236 : decode cX6_init 236 = .ok (.aload_n 0, 1) := by decide +kernel
theorem dX6_init_237 : decode cX6_init 237 = .ok (.bipush 64, 2) := by decide +kernel
theorem dX6_init_239 : decode cX6_init 239 = .ok (.newarray .int, 2) := by decide +kernel
theorem dX6_init_241 : decode cX6_init 241 = .ok (.putfield 99, 3) := by decide +kernel
theorem dX6_init_244 : decode cX6_init 244 = .ok (.aload_n 0, 1) := by decide +kernel
theorem dX6_init_245 : decode cX6_init 245 = .ok (.bipush 64, 2) := by decide +kernel
theorem dX6_init_247 : decode cX6_init 247 = .ok (.newarray .int, 2) := by decide +kernel
theorem dX6_init_249 : decode cX6_init 249 = .ok (.putfield 102, 3) := by decide +kernel
theorem dX6_init_252 : decode cX6_init 252 = .ok (.aload_n 0, 1) := by decide +kernel
theorem dX6_init_253 : decode cX6_init 253 = .ok (.bipush 64, 2) := by decide +kernel
theorem dX6_init_255 : decode cX6_init 255 = .ok (.newarray .int, 2) := by decide +kernel
theorem dX6_init_257 : decode cX6_init 257 = .ok (.putfield 105, 3) := by decide +kernel
theorem dX6_init_260 : decode cX6_init 260 = .ok (.aload_n 0, 1) := by decide +kernel
theorem dX6_init_261 : decode cX6_init 261 = .ok (.invokevirtual 108, 3) := by decide +kernel
theorem dX6_init_264 : decode cX6_init 264 = .ok (.return_, 1) := by decide +kernel
theorem dX6_thrown_0 : decode cX6_thrown 0 = .ok (.aload_n 0, 1) := by decide +kernel
theorem dX6_thrown_1 : decode cX6_thrown 1 = .ok (.getfield 111, 3) := by decide +kernel
theorem dX6_thrown_4 : decode cX6_thrown 4 = .ok (.ireturn, 1) := by decide +kernel
theorem dX6_goes_0 : decode cX6_goes 0 = .ok (.aload_n 0, 1) := by decide +kernel
theorem dX6_goes_1 : decode cX6_goes 1 = .ok (.iload_n 1, 1) := by decide +kernel
theorem dX6_goes_2 : decode cX6_goes 2 = .ok (.putfield 111, 3) := by decide +kernel
theorem dX6_goes_5 : decode cX6_goes 5 = .ok (.iload_n 1, 1) := by decide +kernel
theorem dX6_goes_6 : decode cX6_goes 6 = .ok (.ifCond .ne 7, 3) := by decide +kernel
theorem dX6_goes_9 : decode cX6_goes 9 = .ok (.iconst 1, 1) := by decide +kernel
theorem dX6_goes_10 : decode cX6_goes 10 = .ok (.goto 4, 3) := by decide +kernel
theorem dX6_goes_13 : decode cX6_goes 13 = .ok (.iconst 0, 1) := by decide +kernel
theorem dX6_goes_14 : decode cX6_goes 14 = .ok (.ireturn, 1) := by decide +kernel
theorem dX6_isIn_0 : decode cX6_isIn 0 = .ok (.iload_n 0, 1) := by decide +kernel
theorem dX6_isIn_1 : decode cX6_isIn 1 = .ok (.iload_n 1, 1) := by decide +kernel
theorem dX6_isIn_2 : decode cX6_isIn 2 = .ok (.if_icmp .lt 12, 3) := by decide +kernel
theorem dX6_isIn_5 : decode cX6_isIn 5 = .ok (.iload_n 0, 1) := by decide +kernel
theorem dX6_isIn_6 : decode cX6_isIn 6 = .ok (.iload_n 2, 1) := by decide +kernel
theorem dX6_isIn_7 : decode cX6_isIn 7 = .ok (.if_icmp .gt 7, 3) := by decide +kernel
theorem dX6_isIn_10 : decode cX6_isIn 10 = .ok (.iconst 1, 1) := by decide +kernel
theorem dX6_isIn_11 : decode cX6_isIn 11 = .ok (.goto 4, 3) := by decide +kernel
theorem dX6_isIn_14 : decode cX6_isIn 14 = .ok (.iconst 0, 1) := by decide +kernel
theorem dX6_isIn_15 : decode cX6_isIn 15 = .ok (.ireturn, 1) := by decide +kernel
set_option maxRecDepth 20000 in
theorem ggX6_isHost_X6_isIn : GoodIn wsX6_isHost wsX6_isIn := goodIn_r _ [4] (by decide +kernel) (by decide +kernel)
set_option maxRecDepth 20000 in
theorem gX6_isHost_X6_isIn : GoodIn wsX6_isHost (va_wsS RX6 114 yX6_isIn wsX6_isIn) := goodIn_app (goodIn_of _ (by decide +kernel)) ggX6_isHost_X6_isIn
theorem dX6_isHost_0 : decode cX6_isHost 0 = .ok (.iload_n 0, 1) := by decide +kernel
theorem dX6_isHost_1 : decode cX6_isHost 1 = .ok (.iconst 0, 1) := by decide +kernel
theorem dX6_isHost_2 : decode cX6_isHost 2 = .ok (.bipush 15, 2) := by decide +kernel
theorem dX6_isHost_4 : decode cX6_isHost 4 = .ok (.invokestatic 114, 3) := by decide +kernel
theorem dX6_isHost_7 : decode cX6_isHost 7 = .ok (.ireturn, 1) := by decide +kernel
set_option maxRecDepth 20000 in
theorem ggX6_areFour_X6_isIn : GoodIn wsX6_areFour wsX6_isIn := goodIn_r _ [4] (by decide +kernel) (by decide +kernel)
set_option maxRecDepth 20000 in
theorem gX6_areFour_X6_isIn : GoodIn wsX6_areFour (va_wsS RX6 114 yX6_isIn wsX6_isIn) := goodIn_app (goodIn_of _ (by decide +kernel)) ggX6_areFour_X6_isIn
theorem dX6_areFour_0 : decode cX6_areFour 0 = .ok (.iload_n 0, 1) := by decide +kernel
theorem dX6_areFour_1 : decode cX6_areFour 1 = .ok (.iconst 0, 1) := by decide +kernel
theorem dX6_areFour_2 : decode cX6_areFour 2 = .ok (.iconst 3, 1) := by decide +kernel
theorem dX6_areFour_3 : decode cX6_areFour 3 = .ok (.invokestatic 114, 3) := by decide +kernel
theorem dX6_areFour_6 : decode cX6_areFour 6 = .ok (.ifCond .eq 16, 3) := by decide +kernel
theorem dX6_areFour_9 : decode cX6_areFour 9 = .ok (.iload_n 1, 1) := by decide +kernel
theorem dX6_areFour_10 : decode cX6_areFour 10 = .ok (.iconst 0, 1) := by decide +kernel
theorem dX6_areFour_11 : decode cX6_areFour 11 = .ok (.iconst 3, 1) := by decide +kernel
theorem dX6_areFour_12 : decode cX6_areFour 12 = .ok (.invokestatic 114, 3) := by decide +kernel
theorem dX6_areFour_15 : decode cX6_areFour 15 = .ok (.ifCond .eq 7, 3) := by decide +kernel
theorem dX6_areFour_18 : decode cX6_areFour 18 = .ok (.iconst 1, 1) := by decide +kernel
theorem dX6_areFour_19 : decode cX6_areFour 19 = .ok (.goto 4, 3) := by decide +kernel
theorem dX6_areFour_22 : decode cX6_areFour 22 = .ok (.iconst 0, 1) := by decide +kernel
theorem dX6_areFour_23 : decode cX6_areFour 23 = .ok (.ireturn, 1) := by decide +kernel
set_option maxRecDepth 20000 in
theorem ggX6_isFlow_X6_isIn : GoodIn wsX6_isFlow wsX6_isIn := goodIn_r _ [5] (by decide +kernel) (by decide +kernel)
set_option maxRecDepth 20000 in
theorem gX6_isFlow_X6_isIn : GoodIn wsX6_isFlow (va_wsS RX6 114 yX6_isIn wsX6_isIn) := goodIn_app (goodIn_of _ (by decide +kernel)) ggX6_isFlow_X6_isIn
theorem dX6_isFlow_0 : decode cX6_isFlow 0 = .ok (.iload_n 1, 1) := by decide +kernel
theorem dX6_isFlow_1 : decode cX6_isFlow 1 = .ok (.iconst 0, 1) := by decide +kernel
theorem dX6_isFlow_2 : decode cX6_isFlow 2 = .ok (.aload_n 0, 1) := by decide +kernel
theorem dX6_isFlow_3 : decode cX6_isFlow 3 = .ok (.getfield 118, 3) := by decide +kernel
theorem dX6_isFlow_6 : decode cX6_isFlow 6 = .ok (.iconst 1, 1) := by decide +kernel
theorem dX6_isFlow_7 : decode cX6_isFlow 7 = .ok (.isub, 1) := by decide +kernel
theorem dX6_isFlow_8 : decode cX6_isFlow 8 = .ok (.invokestatic 114, 3) := by decide +kernel
theorem dX6_isFlow_11 : decode cX6_isFlow 11 = .ok (.ireturn, 1) := by decide +kernel
theorem dX6_begins_0 : decode cX6_begins 0 = .ok (.aload_n 0, 1) := by decide +kernel
theorem dX6_begins_1 : decode cX6_begins 1 = .ok (.iconst 0, 1) := by decide +kernel
theorem dX6_begins_2 : decode cX6_begins 2 = .ok (.putfield 121, 3) := by decide +kernel
theorem dX6_begins_5 : decode cX6_begins 5 = .ok (.aload_n 0, 1) := by decide +kernel
theorem dX6_begins_6 : decode cX6_begins 6 = .ok (.iconst 0, 1) := by decide +kernel
theorem dX6_begins_7 : decode cX6_begins 7 = .ok (.putfield 118, 3) := by decide +kernel
theorem dX6_begins_10 : decode cX6_begins 10 = .ok (.iconst 0, 1) := by decide +kernel
theorem dX6_begins_11 : decode cX6_begins 11 = .ok (.istore_n 1, 1) := by decide +kernel
theorem dX6_begins_12 : decode cX6_begins 12 = .ok (.iload_n 1, 1) := by decide +kernel
theorem dX6_begins_13 : decode cX6_begins 13 = .ok (.bipush 64, 2) := by decide +kernel
theorem dX6_begins_15 : decode cX6_begins 15 = .ok (.if_icmp .ge 30, 3) := by decide +kernel
theorem dX6_begins_18 : decode cX6_begins 18 = .ok (.aload_n 0, 1) := by decide +kernel
theorem dX6_begins_19 : decode cX6_begins 19 = .ok (.getfield 56, 3) := by decide +kernel
theorem dX6_begins_22 : decode cX6_begins 22 = .ok (.iload_n 1, 1) := by decide +kernel
theorem dX6_begins_23 : decode cX6_begins 23 = .ok (.iconst 4, 1) := by decide +kernel
theorem dX6_begins_24 : decode cX6_begins 24 = .ok (.iastore, 1) := by decide +kernel
theorem dX6_begins_25 : decode cX6_begins 25 = .ok (.aload_n 0, 1) := by decide +kernel
theorem dX6_begins_26 : decode cX6_begins 26 = .ok (.getfield 59, 3) := by decide +kernel
theorem dX6_begins_29 : decode cX6_begins 29 = .ok (.iload_n 1, 1) := by decide +kernel
theorem dX6_begins_30 : decode cX6_begins 30 = .ok (.iconst 0, 1) := by decide +kernel
theorem dX6_begins_31 : decode cX6_begins 31 = .ok (.iastore, 1) := by decide +kernel
theorem dX6_begins_32 : decode cX6_begins 32 = .ok (.aload_n 0, 1) := by decide +kernel
theorem dX6_begins_33 : decode cX6_begins 33 = .ok (.getfield 62, 3) := by decide +kernel
theorem dX6_begins_36 : decode cX6_begins 36 = .ok (.iload_n 1, 1) := by decide +kernel
theorem dX6_begins_37 : decode cX6_begins 37 = .ok (.iconst (-1), 1) := by decide +kernel
theorem dX6_begins_38 : decode cX6_begins 38 = .ok (.iastore, 1) := by decide +kernel
theorem dX6_begins_39 : decode cX6_begins 39 = .ok (.iinc 1 1, 3) := by decide +kernel
theorem dX6_begins_42 : decode cX6_begins 42 = .ok (.goto (-30), 3) := by decide +kernel
theorem dX6_begins_45 : decode cX6_begins 45 = .ok (.iconst 0, 1) := by decide +kernel
theorem dX6_begins_46 : decode cX6_begins 46 = .ok (.istore_n 1, 1) := by decide +kernel
theorem dX6_begins_47 : decode cX6_begins 47 = .ok (.iload_n 1, 1) := by decide +kernel
theorem dX6_begins_48 : decode cX6_begins 48 = .ok (.sipush 512, 3) := by decide +kernel
theorem dX6_begins_51 : decode cX6_begins 51 = .ok (.if_icmp .ge 16, 3) := by decide +kernel
theorem dX6_begins_54 : decode cX6_begins 54 = .ok (.aload_n 0, 1) := by decide +kernel
theorem dX6_begins_55 : decode cX6_begins 55 = .ok (.getfield 68, 3) := by decide +kernel
theorem dX6_begins_58 : decode cX6_begins 58 = .ok (.iload_n 1, 1) := by decide +kernel
theorem dX6_begins_59 : decode cX6_begins 59 = .ok (.iconst 0, 1) := by decide +kernel
theorem dX6_begins_60 : decode cX6_begins 60 = .ok (.iastore, 1) := by decide +kernel
theorem dX6_begins_61 : decode cX6_begins 61 = .ok (.iinc 1 1, 3) := by decide +kernel
theorem dX6_begins_64 : decode cX6_begins 64 = .ok (.goto (-17), 3) := by decide +kernel
theorem dX6_begins_67 : decode cX6_begins 67 = .ok (.iconst 0, 1) := by decide +kernel
theorem dX6_begins_68 : decode cX6_begins 68 = .ok (.istore_n 1, 1) := by decide +kernel
theorem dX6_begins_69 : decode cX6_begins 69 = .ok (.iload_n 1, 1) := by decide +kernel
theorem dX6_begins_70 : decode cX6_begins 70 = .ok (.bipush 16, 2) := by decide +kernel
theorem dX6_begins_72 : decode cX6_begins 72 = .ok (.if_icmp .ge 30, 3) := by decide +kernel
theorem dX6_begins_75 : decode cX6_begins 75 = .ok (.aload_n 0, 1) := by decide +kernel
theorem dX6_begins_76 : decode cX6_begins 76 = .ok (.getfield 83, 3) := by decide +kernel
theorem dX6_begins_79 : decode cX6_begins 79 = .ok (.iload_n 1, 1) := by decide +kernel
theorem dX6_begins_80 : decode cX6_begins 80 = .ok (.iconst 0, 1) := by decide +kernel
theorem dX6_begins_81 : decode cX6_begins 81 = .ok (.bastore, 1) := by decide +kernel
theorem dX6_begins_82 : decode cX6_begins 82 = .ok (.aload_n 0, 1) := by decide +kernel
theorem dX6_begins_83 : decode cX6_begins 83 = .ok (.getfield 87, 3) := by decide +kernel
theorem dX6_begins_86 : decode cX6_begins 86 = .ok (.iload_n 1, 1) := by decide +kernel
theorem dX6_begins_87 : decode cX6_begins 87 = .ok (.iconst (-1), 1) := by decide +kernel
theorem dX6_begins_88 : decode cX6_begins 88 = .ok (.iastore, 1) := by decide +kernel
theorem dX6_begins_89 : decode cX6_begins 89 = .ok (.aload_n 0, 1) := by decide +kernel
theorem dX6_begins_90 : decode cX6_begins 90 = .ok (.getfield 93, 3) := by decide +kernel
theorem dX6_begins_93 : decode cX6_begins 93 = .ok (.iload_n 1, 1) := by decide +kernel
theorem dX6_begins_94 : decode cX6_begins 94 = .ok (.iconst 0, 1) := by decide +kernel
theorem dX6_begins_95 : decode cX6_begins 95 = .ok (.iastore, 1) := by decide +kernel
theorem dX6_begins_96 : decode cX6_begins 96 = .ok (.iinc 1 1, 3) := by decide +kernel
theorem dX6_begins_99 : decode cX6_begins 99 = .ok (.goto (-30), 3) := by decide +kernel
theorem dX6_begins_102 : decode cX6_begins 102 = .ok (.return_, 1) := by decide +kernel
set_option maxRecDepth 20000 in
theorem ggX6_reset_X6_isIn : GoodIn wsX6_reset wsX6_isIn := goodIn_r _ [7] (by decide +kernel) (by decide +kernel)
set_option maxRecDepth 20000 in
theorem gX6_reset_X6_isIn : GoodIn wsX6_reset (va_wsS RX6 114 yX6_isIn wsX6_isIn) := goodIn_app (goodIn_of _ (by decide +kernel)) ggX6_reset_X6_isIn
set_option maxRecDepth 20000 in
theorem ggX6_reset_X6_goes : GoodIn wsX6_reset wsX6_goes := goodIn_r _ [11, 12, 26, 27, 28, 29, 30, 31, 32, 33, 34, 35, 36, 37, 38, 39, 40, 41, 42, 43, 44, 45, 46, 47, 48, 49, 50, 51, 52, 53, 54, 55, 56, 57, 58, 59, 60, 61] (by decide +kernel) (by decide +kernel)
set_option maxRecDepth 20000 in
theorem gX6_reset_X6_goes : GoodIn wsX6_reset (wsV RX6 124 RX6 yX6_goes wsX6_goes) := goodIn_app (goodIn_of _ (by decide +kernel)) ggX6_reset_X6_goes
set_option maxRecDepth 20000 in
theorem ggX6_reset_X6_begins : GoodIn wsX6_reset wsX6_begins := goodIn_r _ [16, 17, 18, 19, 20, 21, 22, 23, 24, 25, 26, 27, 28, 29, 30, 31, 32, 33, 34, 35, 36, 37, 38, 39, 40, 41, 42, 43, 44, 45, 46, 47, 48, 49, 50, 51, 52, 53, 54, 55, 56, 57, 58, 59, 60, 61] (by decide +kernel) (by decide +kernel)
set_option maxRecDepth 20000 in
theorem gX6_reset_X6_begins : GoodIn wsX6_reset (wsV RX6 108 RX6 yX6_begins wsX6_begins) := goodIn_app (goodIn_of _ (by decide +kernel)) ggX6_reset_X6_begins
theorem dX6_reset_0 : decode cX6_reset 0 = .ok (.aload_n 0, 1) := by decide +kernel
theorem dX6_reset_1 : decode cX6_reset 1 = .ok (.iload_n 1, 1) := by decide +kernel
theorem dX6_reset_2 : decode cX6_reset 2 = .ok (.iconst 0, 1) := by decide +kernel
theorem dX6_reset_3 : decode cX6_reset 3 = .ok (.iconst 5, 1) := by decide +kernel
theorem dX6_reset_4 : decode cX6_reset 4 = .ok (.invokestatic 114, 3) := by decide +kernel
theorem dX6_reset_7 : decode cX6_reset 7 = .ok (.ifCond .eq 27, 3) := by decide +kernel
theorem dX6_reset_10 : decode cX6_reset 10 = .ok (.iload_n 2, 1) := by decide +kernel
theorem dX6_reset_11 : decode cX6_reset 11 = .ok (.iconst 1, 1) := by decide +kernel
theorem dX6_reset_12 : decode cX6_reset 12 = .ok (.bipush 50, 2) := by decide +kernel
theorem dX6_reset_14 : decode cX6_reset 14 = .ok (.invokestatic 114, 3) := by decide +kernel
theorem dX6_reset_17 : decode cX6_reset 17 = .ok (.ifCond .eq 17, 3) := by decide +kernel
theorem dX6_reset_20 : decode cX6_reset 20 = .ok (.iload_n 3, 1) := by decide +kernel
theorem dX6_reset_21 : decode cX6_reset 21 = .ok (.iconst 1, 1) := by decide +kernel
theorem dX6_reset_22 : decode cX6_reset 22 = .ok (.bipush 16, 2) := by decide +kernel
theorem dX6_reset_24 : decode cX6_reset 24 = .ok (.invokestatic 114, 3) := by decide +kernel
theorem dX6_reset_27 : decode cX6_reset 27 = .ok (.ifCond .eq 7, 3) := by decide +kernel
theorem dX6_reset_30 : decode cX6_reset 30 = .ok (.iconst 0, 1) := by decide +kernel
theorem dX6_reset_31 : decode cX6_reset 31 = .ok (.goto 4, 3) := by decide +kernel
theorem dX6_reset_34 : decode cX6_reset 34 = .ok (.iconst 1, 1) := by decide +kernel
theorem dX6_reset_35 : decode cX6_reset 35 = .ok (.invokevirtual 124, 3) := by decide +kernel
theorem dX6_reset_38 : decode cX6_reset 38 = .ok (.ifCond .eq 22, 3) := by decide +kernel
theorem dX6_reset_41 : decode cX6_reset 41 = .ok (.aload_n 0, 1) := by decide +kernel
theorem dX6_reset_42 : decode cX6_reset 42 = .ok (.iload_n 1, 1) := by decide +kernel
theorem dX6_reset_43 : decode cX6_reset 43 = .ok (.putfield 128, 3) := by decide +kernel
theorem dX6_reset_46 : decode cX6_reset 46 = .ok (.aload_n 0, 1) := by decide +kernel
theorem dX6_reset_47 : decode cX6_reset 47 = .ok (.iload_n 2, 1) := by decide +kernel
theorem dX6_reset_48 : decode cX6_reset 48 = .ok (.putfield 7, 3) := by decide +kernel
theorem dX6_reset_51 : decode cX6_reset 51 = .ok (.aload_n 0, 1) := by decide +kernel
theorem dX6_reset_52 : decode cX6_reset 52 = .ok (.iload_n 3, 1) := by decide +kernel
theorem dX6_reset_53 : decode cX6_reset 53 = .ok (.putfield 13, 3) := by decide +kernel
theorem dX6_reset_56 : decode cX6_reset 56 = .ok (.aload_n 0, 1) := by decide +kernel
theorem dX6_reset_57 : decode cX6_reset 57 = .ok (.invokevirtual 108, 3) := by decide +kernel
theorem dX6_reset_60 : decode cX6_reset 60 = .ok (.return_, 1) := by decide +kernel
set_option maxRecDepth 20000 in
theorem ggX6_addFlow_X6_isHost : GoodIn wsX6_addFlow wsX6_isHost := goodIn_r _ [19, 20, 21, 18, 22] (by decide +kernel) (by decide +kernel)
set_option maxRecDepth 20000 in
theorem gX6_addFlow_X6_isHost : GoodIn wsX6_addFlow (va_wsS RX6 131 yX6_isHost wsX6_isHost) := goodIn_app (goodIn_of _ (by decide +kernel)) ggX6_addFlow_X6_isHost
set_option maxRecDepth 20000 in
theorem ggX6_addFlow_X6_isIn : GoodIn wsX6_addFlow wsX6_isIn := goodIn_r _ [22] (by decide +kernel) (by decide +kernel)
set_option maxRecDepth 20000 in
theorem gX6_addFlow_X6_isIn : GoodIn wsX6_addFlow (va_wsS RX6 114 yX6_isIn wsX6_isIn) := goodIn_app (goodIn_of _ (by decide +kernel)) ggX6_addFlow_X6_isIn
set_option maxRecDepth 20000 in
theorem ggX6_addFlow_X6_goes : GoodIn wsX6_addFlow wsX6_goes := goodIn_r _ [26, 27, 28, 29, 30, 31, 32, 33, 34, 35, 36, 37, 38, 39, 40, 41, 42, 43, 44, 45, 46, 47, 48, 49, 50, 51, 52, 53, 54, 55, 56, 57, 58, 59, 60, 61, 62, 63] (by decide +kernel) (by decide +kernel)
set_option maxRecDepth 20000 in
theorem gX6_addFlow_X6_goes : GoodIn wsX6_addFlow (wsV RX6 124 RX6 yX6_goes wsX6_goes) := goodIn_app (goodIn_of _ (by decide +kernel)) ggX6_addFlow_X6_goes
theorem dX6_addFlow_0 : decode cX6_addFlow 0 = .ok (.iload_n 1, 1) := by decide +kernel
theorem dX6_addFlow_1 : decode cX6_addFlow 1 = .ok (.invokestatic 131, 3) := by decide +kernel
theorem dX6_addFlow_4 : decode cX6_addFlow 4 = .ok (.ifCond .eq 40, 3) := by decide +kernel
theorem dX6_addFlow_7 : decode cX6_addFlow 7 = .ok (.iload_n 2, 1) := by decide +kernel
theorem dX6_addFlow_8 : decode cX6_addFlow 8 = .ok (.invokestatic 131, 3) := by decide +kernel
theorem dX6_addFlow_11 : decode cX6_addFlow 11 = .ok (.ifCond .eq 33, 3) := by decide +kernel
theorem dX6_addFlow_14 : decode cX6_addFlow 14 = .ok (.iload_n 1, 1) := by decide +kernel
theorem dX6_addFlow_15 : decode cX6_addFlow 15 = .ok (.iload_n 2, 1) := by decide +kernel
theorem dX6_addFlow_16 : decode cX6_addFlow 16 = .ok (.if_icmp .eq 28, 3) := by decide +kernel
theorem dX6_addFlow_19 : decode cX6_addFlow 19 = .ok (.iload_n 3, 1) := by decide +kernel
theorem dX6_addFlow_20 : decode cX6_addFlow 20 = .ok (.iconst 1, 1) := by decide +kernel
theorem dX6_addFlow_21 : decode cX6_addFlow 21 = .ok (.bipush 100, 2) := by decide +kernel
theorem dX6_addFlow_23 : decode cX6_addFlow 23 = .ok (.invokestatic 114, 3) := by decide +kernel
theorem dX6_addFlow_26 : decode cX6_addFlow 26 = .ok (.ifCond .eq 18, 3) := by decide +kernel
theorem dX6_addFlow_29 : decode cX6_addFlow 29 = .ok (.iload 4, 2) := by decide +kernel
theorem dX6_addFlow_31 : decode cX6_addFlow 31 = .ok (.iconst 0, 1) := by decide +kernel
theorem dX6_addFlow_32 : decode cX6_addFlow 32 = .ok (.bipush 100, 2) := by decide +kernel
theorem dX6_addFlow_34 : decode cX6_addFlow 34 = .ok (.invokestatic 114, 3) := by decide +kernel
theorem dX6_addFlow_37 : decode cX6_addFlow 37 = .ok (.ifCond .eq 7, 3) := by decide +kernel
theorem dX6_addFlow_40 : decode cX6_addFlow 40 = .ok (.iconst 1, 1) := by decide +kernel
theorem dX6_addFlow_41 : decode cX6_addFlow 41 = .ok (.goto 4, 3) := by decide +kernel
theorem dX6_addFlow_44 : decode cX6_addFlow 44 = .ok (.iconst 0, 1) := by decide +kernel
theorem dX6_addFlow_45 : decode cX6_addFlow 45 = .ok (.istore 5, 2) := by decide +kernel
theorem dX6_addFlow_47 : decode cX6_addFlow 47 = .ok (.aload_n 0, 1) := by decide +kernel
theorem dX6_addFlow_48 : decode cX6_addFlow 48 = .ok (.iload 5, 2) := by decide +kernel
theorem dX6_addFlow_50 : decode cX6_addFlow 50 = .ok (.ifCond .ne 7, 3) := by decide +kernel
theorem dX6_addFlow_53 : decode cX6_addFlow 53 = .ok (.iconst 1, 1) := by decide +kernel
theorem dX6_addFlow_54 : decode cX6_addFlow 54 = .ok (.goto 17, 3) := by decide +kernel
theorem dX6_addFlow_57 : decode cX6_addFlow 57 = .ok (.aload_n 0, 1) := by decide +kernel
theorem dX6_addFlow_58 : decode cX6_addFlow 58 = .ok (.getfield 118, 3) := by decide +kernel
theorem dX6_addFlow_61 : decode cX6_addFlow 61 = .ok (.bipush 24, 2) := by decide +kernel
theorem dX6_addFlow_63 : decode cX6_addFlow 63 = .ok (.if_icmp .ne 7, 3) := by decide +kernel
theorem dX6_addFlow_66 : decode cX6_addFlow 66 = .ok (.iconst 2, 1) := by decide +kernel
theorem dX6_addFlow_67 : decode cX6_addFlow 67 = .ok (.goto 4, 3) := by decide +kernel
theorem dX6_addFlow_70 : decode cX6_addFlow 70 = .ok (.iconst 0, 1) := by decide +kernel
theorem dX6_addFlow_71 : decode cX6_addFlow 71 = .ok (.invokevirtual 124, 3) := by decide +kernel
theorem dX6_addFlow_74 : decode cX6_addFlow 74 = .ok (.ifCond .ne 5, 3) := by decide +kernel
theorem dX6_addFlow_77 : decode cX6_addFlow 77 = .ok (.iconst 0, 1) := by decide +kernel
theorem dX6_addFlow_78 : decode cX6_addFlow 78 = .ok (.ireturn, 1) := by decide +kernel
theorem dX6_addFlow_79 : decode cX6_addFlow 79 = .ok (.aload_n 0, 1) := by decide +kernel
theorem dX6_addFlow_80 : decode cX6_addFlow 80 = .ok (.getfield 16, 3) := by decide +kernel
theorem dX6_addFlow_83 : decode cX6_addFlow 83 = .ok (.aload_n 0, 1) := by decide +kernel
theorem dX6_addFlow_84 : decode cX6_addFlow 84 = .ok (.getfield 118, 3) := by decide +kernel
theorem dX6_addFlow_87 : decode cX6_addFlow 87 = .ok (.iload_n 1, 1) := by decide +kernel
theorem dX6_addFlow_88 : decode cX6_addFlow 88 = .ok (.iastore, 1) := by decide +kernel
theorem dX6_addFlow_89 : decode cX6_addFlow 89 = .ok (.aload_n 0, 1) := by decide +kernel
theorem dX6_addFlow_90 : decode cX6_addFlow 90 = .ok (.getfield 20, 3) := by decide +kernel
theorem dX6_addFlow_93 : decode cX6_addFlow 93 = .ok (.aload_n 0, 1) := by decide +kernel
theorem dX6_addFlow_94 : decode cX6_addFlow 94 = .ok (.getfield 118, 3) := by decide +kernel
theorem dX6_addFlow_97 : decode cX6_addFlow 97 = .ok (.iload_n 2, 1) := by decide +kernel
theorem dX6_addFlow_98 : decode cX6_addFlow 98 = .ok (.iastore, 1) := by decide +kernel
theorem dX6_addFlow_99 : decode cX6_addFlow 99 = .ok (.aload_n 0, 1) := by decide +kernel
theorem dX6_addFlow_100 : decode cX6_addFlow 100 = .ok (.getfield 23, 3) := by decide +kernel
theorem dX6_addFlow_103 : decode cX6_addFlow 103 = .ok (.aload_n 0, 1) := by decide +kernel
theorem dX6_addFlow_104 : decode cX6_addFlow 104 = .ok (.getfield 118, 3) := by decide +kernel
theorem dX6_addFlow_107 : decode cX6_addFlow 107 = .ok (.iload_n 3, 1) := by decide +kernel
theorem dX6_addFlow_108 : decode cX6_addFlow 108 = .ok (.iastore, 1) := by decide +kernel
theorem dX6_addFlow_109 : decode cX6_addFlow 109 = .ok (.aload_n 0, 1) := by decide +kernel
theorem dX6_addFlow_110 : decode cX6_addFlow 110 = .ok (.getfield 26, 3) := by decide +kernel
theorem dX6_addFlow_113 : decode cX6_addFlow 113 = .ok (.aload_n 0, 1) := by decide +kernel
theorem dX6_addFlow_114 : decode cX6_addFlow 114 = .ok (.getfield 118, 3) := by decide +kernel
theorem dX6_addFlow_117 : decode cX6_addFlow 117 = .ok (.aload_n 0, 1) := by decide +kernel
theorem dX6_addFlow_118 : decode cX6_addFlow 118 = .ok (.getfield 121, 3) := by decide +kernel
theorem dX6_addFlow_121 : decode cX6_addFlow 121 = .ok (.iload 4, 2) := by decide +kernel
theorem dX6_addFlow_123 : decode cX6_addFlow 123 = .ok (.iadd, 1) := by decide +kernel
theorem dX6_addFlow_124 : decode cX6_addFlow 124 = .ok (.iastore, 1) := by decide +kernel
theorem dX6_addFlow_125 : decode cX6_addFlow 125 = .ok (.aload_n 0, 1) := by decide +kernel
theorem dX6_addFlow_126 : decode cX6_addFlow 126 = .ok (.getfield 29, 3) := by decide +kernel
theorem dX6_addFlow_129 : decode cX6_addFlow 129 = .ok (.aload_n 0, 1) := by decide +kernel
theorem dX6_addFlow_130 : decode cX6_addFlow 130 = .ok (.getfield 118, 3) := by decide +kernel
theorem dX6_addFlow_133 : decode cX6_addFlow 133 = .ok (.iconst 0, 1) := by decide +kernel
theorem dX6_addFlow_134 : decode cX6_addFlow 134 = .ok (.iastore, 1) := by decide +kernel
theorem dX6_addFlow_135 : decode cX6_addFlow 135 = .ok (.aload_n 0, 1) := by decide +kernel
theorem dX6_addFlow_136 : decode cX6_addFlow 136 = .ok (.getfield 32, 3) := by decide +kernel
theorem dX6_addFlow_139 : decode cX6_addFlow 139 = .ok (.aload_n 0, 1) := by decide +kernel
theorem dX6_addFlow_140 : decode cX6_addFlow 140 = .ok (.getfield 118, 3) := by decide +kernel
theorem dX6_addFlow_143 : decode cX6_addFlow 143 = .ok (.iconst 0, 1) := by decide +kernel
theorem dX6_addFlow_144 : decode cX6_addFlow 144 = .ok (.iastore, 1) := by decide +kernel
theorem dX6_addFlow_145 : decode cX6_addFlow 145 = .ok (.aload_n 0, 1) := by decide +kernel
theorem dX6_addFlow_146 : decode cX6_addFlow 146 = .ok (.getfield 35, 3) := by decide +kernel
theorem dX6_addFlow_149 : decode cX6_addFlow 149 = .ok (.aload_n 0, 1) := by decide +kernel
theorem dX6_addFlow_150 : decode cX6_addFlow 150 = .ok (.getfield 118, 3) := by decide +kernel
theorem dX6_addFlow_153 : decode cX6_addFlow 153 = .ok (.iconst 0, 1) := by decide +kernel
theorem dX6_addFlow_154 : decode cX6_addFlow 154 = .ok (.iastore, 1) := by decide +kernel
theorem dX6_addFlow_155 : decode cX6_addFlow 155 = .ok (.aload_n 0, 1) := by decide +kernel
theorem dX6_addFlow_156 : decode cX6_addFlow 156 = .ok (.getfield 38, 3) := by decide +kernel
theorem dX6_addFlow_159 : decode cX6_addFlow 159 = .ok (.aload_n 0, 1) := by decide +kernel
theorem dX6_addFlow_160 : decode cX6_addFlow 160 = .ok (.getfield 118, 3) := by decide +kernel
theorem dX6_addFlow_163 : decode cX6_addFlow 163 = .ok (.iconst 0, 1) := by decide +kernel
theorem dX6_addFlow_164 : decode cX6_addFlow 164 = .ok (.iastore, 1) := by decide +kernel
theorem dX6_addFlow_165 : decode cX6_addFlow 165 = .ok (.aload_n 0, 1) := by decide +kernel
theorem dX6_addFlow_166 : decode cX6_addFlow 166 = .ok (.getfield 41, 3) := by decide +kernel
theorem dX6_addFlow_169 : decode cX6_addFlow 169 = .ok (.aload_n 0, 1) := by decide +kernel
theorem dX6_addFlow_170 : decode cX6_addFlow 170 = .ok (.getfield 118, 3) := by decide +kernel
theorem dX6_addFlow_173 : decode cX6_addFlow 173 = .ok (.iconst (-1), 1) := by decide +kernel
theorem dX6_addFlow_174 : decode cX6_addFlow 174 = .ok (.iastore, 1) := by decide +kernel
theorem dX6_addFlow_175 : decode cX6_addFlow 175 = .ok (.aload_n 0, 1) := by decide +kernel
theorem dX6_addFlow_176 : decode cX6_addFlow 176 = .ok (.getfield 44, 3) := by decide +kernel
theorem dX6_addFlow_179 : decode cX6_addFlow 179 = .ok (.aload_n 0, 1) := by decide +kernel
theorem dX6_addFlow_180 : decode cX6_addFlow 180 = .ok (.getfield 118, 3) := by decide +kernel
theorem dX6_addFlow_183 : decode cX6_addFlow 183 = .ok (.iconst (-1), 1) := by decide +kernel
theorem dX6_addFlow_184 : decode cX6_addFlow 184 = .ok (.iastore, 1) := by decide +kernel
theorem dX6_addFlow_185 : decode cX6_addFlow 185 = .ok (.aload_n 0, 1) := by decide +kernel
theorem dX6_addFlow_186 : decode cX6_addFlow 186 = .ok (.getfield 47, 3) := by decide +kernel
theorem dX6_addFlow_189 : decode cX6_addFlow 189 = .ok (.aload_n 0, 1) := by decide +kernel
theorem dX6_addFlow_190 : decode cX6_addFlow 190 = .ok (.getfield 118, 3) := by decide +kernel
theorem dX6_addFlow_193 : decode cX6_addFlow 193 = .ok (.iconst 0, 1) := by decide +kernel
theorem dX6_addFlow_194 : decode cX6_addFlow 194 = .ok (.iastore, 1) := by decide +kernel
theorem dX6_addFlow_195 : decode cX6_addFlow 195 = .ok (.aload_n 0, 1) := by decide +kernel
theorem dX6_addFlow_196 : decode cX6_addFlow 196 = .ok (.getfield 50, 3) := by decide +kernel
theorem dX6_addFlow_199 : decode cX6_addFlow 199 = .ok (.aload_n 0, 1) := by decide +kernel
theorem dX6_addFlow_200 : decode cX6_addFlow 200 = .ok (.getfield 118, 3) := by decide +kernel
theorem dX6_addFlow_203 : decode cX6_addFlow 203 = .ok (.iconst (-1), 1) := by decide +kernel
theorem dX6_addFlow_204 : decode cX6_addFlow 204 = .ok (.iastore, 1) := by decide +kernel
theorem dX6_addFlow_205 : decode cX6_addFlow 205 = .ok (.aload_n 0, 1) := by decide +kernel
theorem dX6_addFlow_206 : decode cX6_addFlow 206 = .ok (.getfield 53, 3) := by decide +kernel
theorem dX6_addFlow_209 : decode cX6_addFlow 209 = .ok (.aload_n 0, 1) := by decide +kernel
theorem dX6_addFlow_210 : decode cX6_addFlow 210 = .ok (.getfield 118, 3) := by decide +kernel
theorem dX6_addFlow_213 : decode cX6_addFlow 213 = .ok (.iconst (-1), 1) := by decide +kernel
theorem dX6_addFlow_214 : decode cX6_addFlow 214 = .ok (.iastore, 1) := by decide +kernel
theorem dX6_addFlow_215 : decode cX6_addFlow 215 = .ok (.aload_n 0, 1) := by decide +kernel
theorem dX6_addFlow_216 : decode cX6_addFlow 216 = .ok (.dup, 1) := by decide +kernel
theorem dX6_addFlow_217 : decode cX6_addFlow 217 = .ok (.getfield 118, 3) := by decide +kernel
theorem dX6_addFlow_220 : decode cX6_addFlow 220 = .ok (.iconst 1, 1) := by decide +kernel
theorem dX6_addFlow_221 : decode cX6_addFlow 221 = .ok (.iadd, 1) := by decide +kernel
theorem dX6_addFlow_222 : decode cX6_addFlow 222 = .ok (.putfield 118, 3) := by decide +kernel
theorem dX6_addFlow_225 : decode cX6_addFlow 225 = .ok (.aload_n 0, 1) := by decide +kernel
theorem dX6_addFlow_226 : decode cX6_addFlow 226 = .ok (.getfield 118, 3) := by decide +kernel
theorem dX6_addFlow_229 : decode cX6_addFlow 229 = .ok (.iconst 1, 1) := by decide +kernel
theorem dX6_addFlow_230 : decode cX6_addFlow 230 = .ok (.isub, 1) := by decide +kernel
theorem dX6_addFlow_231 : decode cX6_addFlow 231 = .ok (.ireturn, 1) := by decide +kernel
theorem dX6_north_0 : decode cX6_north 0 = .ok (.bipush 32, 2) := by decide +kernel
theorem dX6_north_2 : decode cX6_north 2 = .ok (.iconst 4, 1) := by decide +kernel
theorem dX6_north_3 : decode cX6_north 3 = .ok (.iload_n 0, 1) := by decide +kernel
theorem dX6_north_4 : decode cX6_north 4 = .ok (.imul, 1) := by decide +kernel
theorem dX6_north_5 : decode cX6_north 5 = .ok (.iadd, 1) := by decide +kernel
theorem dX6_north_6 : decode cX6_north 6 = .ok (.iload_n 1, 1) := by decide +kernel
theorem dX6_north_7 : decode cX6_north 7 = .ok (.iadd, 1) := by decide +kernel
theorem dX6_north_8 : decode cX6_north 8 = .ok (.ireturn, 1) := by decide +kernel
theorem dX6_south_0 : decode cX6_south 0 = .ok (.bipush 48, 2) := by decide +kernel
theorem dX6_south_2 : decode cX6_south 2 = .ok (.iconst 4, 1) := by decide +kernel
theorem dX6_south_3 : decode cX6_south 3 = .ok (.iload_n 0, 1) := by decide +kernel
theorem dX6_south_4 : decode cX6_south 4 = .ok (.imul, 1) := by decide +kernel
theorem dX6_south_5 : decode cX6_south 5 = .ok (.iadd, 1) := by decide +kernel
theorem dX6_south_6 : decode cX6_south 6 = .ok (.iload_n 1, 1) := by decide +kernel
theorem dX6_south_7 : decode cX6_south 7 = .ok (.iadd, 1) := by decide +kernel
theorem dX6_south_8 : decode cX6_south 8 = .ok (.ireturn, 1) := by decide +kernel
set_option maxRecDepth 20000 in
theorem ggX6_cut_X6_areFour : GoodIn wsX6_cut wsX6_areFour := goodIn_r _ [6, 7, 8, 5, 9] (by decide +kernel) (by decide +kernel)
set_option maxRecDepth 20000 in
theorem gX6_cut_X6_areFour : GoodIn wsX6_cut (va_wsS RX6 134 yX6_areFour wsX6_areFour) := goodIn_app (goodIn_of _ (by decide +kernel)) ggX6_cut_X6_areFour
set_option maxRecDepth 20000 in
theorem ggX6_cut_X6_goes : GoodIn wsX6_cut wsX6_goes := goodIn_r _ [13, 14, 21, 22, 23, 24, 25, 26, 27, 28, 29, 30, 31, 32, 33, 34, 35, 36, 37, 38, 39, 40, 41, 42, 43, 44, 45, 46, 47, 48, 49, 50, 51, 52, 53, 54, 55, 56] (by decide +kernel) (by decide +kernel)
set_option maxRecDepth 20000 in
theorem gX6_cut_X6_goes : GoodIn wsX6_cut (wsV RX6 124 RX6 yX6_goes wsX6_goes) := goodIn_app (goodIn_of _ (by decide +kernel)) ggX6_cut_X6_goes
set_option maxRecDepth 20000 in
theorem ggX6_cut_X6_north : GoodIn wsX6_cut wsX6_north := goodIn_r _ [17] (by decide +kernel) (by decide +kernel)
set_option maxRecDepth 20000 in
theorem gX6_cut_X6_north : GoodIn wsX6_cut (va_wsS RX6 138 yX6_north wsX6_north) := goodIn_app (goodIn_of _ (by decide +kernel)) ggX6_cut_X6_north
set_option maxRecDepth 20000 in
theorem ggX6_cut_X6_south : GoodIn wsX6_cut wsX6_south := goodIn_r _ [20] (by decide +kernel) (by decide +kernel)
set_option maxRecDepth 20000 in
theorem gX6_cut_X6_south : GoodIn wsX6_cut (va_wsS RX6 142 yX6_south wsX6_south) := goodIn_app (goodIn_of _ (by decide +kernel)) ggX6_cut_X6_south
theorem dX6_cut_0 : decode cX6_cut 0 = .ok (.aload_n 0, 1) := by decide +kernel
theorem dX6_cut_1 : decode cX6_cut 1 = .ok (.iload_n 1, 1) := by decide +kernel
theorem dX6_cut_2 : decode cX6_cut 2 = .ok (.iload_n 2, 1) := by decide +kernel
theorem dX6_cut_3 : decode cX6_cut 3 = .ok (.invokestatic 134, 3) := by decide +kernel
theorem dX6_cut_6 : decode cX6_cut 6 = .ok (.ifCond .ne 7, 3) := by decide +kernel
theorem dX6_cut_9 : decode cX6_cut 9 = .ok (.iconst 1, 1) := by decide +kernel
theorem dX6_cut_10 : decode cX6_cut 10 = .ok (.goto 21, 3) := by decide +kernel
theorem dX6_cut_13 : decode cX6_cut 13 = .ok (.aload_n 0, 1) := by decide +kernel
theorem dX6_cut_14 : decode cX6_cut 14 = .ok (.getfield 83, 3) := by decide +kernel
theorem dX6_cut_17 : decode cX6_cut 17 = .ok (.iconst 4, 1) := by decide +kernel
theorem dX6_cut_18 : decode cX6_cut 18 = .ok (.iload_n 1, 1) := by decide +kernel
theorem dX6_cut_19 : decode cX6_cut 19 = .ok (.imul, 1) := by decide +kernel
theorem dX6_cut_20 : decode cX6_cut 20 = .ok (.iload_n 2, 1) := by decide +kernel
theorem dX6_cut_21 : decode cX6_cut 21 = .ok (.iadd, 1) := by decide +kernel
theorem dX6_cut_22 : decode cX6_cut 22 = .ok (.baload, 1) := by decide +kernel
theorem dX6_cut_23 : decode cX6_cut 23 = .ok (.ifCond .eq 7, 3) := by decide +kernel
theorem dX6_cut_26 : decode cX6_cut 26 = .ok (.iconst 2, 1) := by decide +kernel
theorem dX6_cut_27 : decode cX6_cut 27 = .ok (.goto 4, 3) := by decide +kernel
theorem dX6_cut_30 : decode cX6_cut 30 = .ok (.iconst 0, 1) := by decide +kernel
theorem dX6_cut_31 : decode cX6_cut 31 = .ok (.invokevirtual 124, 3) := by decide +kernel
theorem dX6_cut_34 : decode cX6_cut 34 = .ok (.ifCond .ne 5, 3) := by decide +kernel
theorem dX6_cut_37 : decode cX6_cut 37 = .ok (.iconst 0, 1) := by decide +kernel
theorem dX6_cut_38 : decode cX6_cut 38 = .ok (.ireturn, 1) := by decide +kernel
theorem dX6_cut_39 : decode cX6_cut 39 = .ok (.aload_n 0, 1) := by decide +kernel
theorem dX6_cut_40 : decode cX6_cut 40 = .ok (.getfield 83, 3) := by decide +kernel
theorem dX6_cut_43 : decode cX6_cut 43 = .ok (.iconst 4, 1) := by decide +kernel
theorem dX6_cut_44 : decode cX6_cut 44 = .ok (.iload_n 1, 1) := by decide +kernel
theorem dX6_cut_45 : decode cX6_cut 45 = .ok (.imul, 1) := by decide +kernel
theorem dX6_cut_46 : decode cX6_cut 46 = .ok (.iload_n 2, 1) := by decide +kernel
theorem dX6_cut_47 : decode cX6_cut 47 = .ok (.iadd, 1) := by decide +kernel
theorem dX6_cut_48 : decode cX6_cut 48 = .ok (.iconst 1, 1) := by decide +kernel
theorem dX6_cut_49 : decode cX6_cut 49 = .ok (.bastore, 1) := by decide +kernel
theorem dX6_cut_50 : decode cX6_cut 50 = .ok (.aload_n 0, 1) := by decide +kernel
theorem dX6_cut_51 : decode cX6_cut 51 = .ok (.getfield 59, 3) := by decide +kernel
theorem dX6_cut_54 : decode cX6_cut 54 = .ok (.iload_n 1, 1) := by decide +kernel
theorem dX6_cut_55 : decode cX6_cut 55 = .ok (.iload_n 2, 1) := by decide +kernel
theorem dX6_cut_56 : decode cX6_cut 56 = .ok (.invokestatic 138, 3) := by decide +kernel
theorem dX6_cut_59 : decode cX6_cut 59 = .ok (.iaload, 1) := by decide +kernel
theorem dX6_cut_60 : decode cX6_cut 60 = .ok (.aload_n 0, 1) := by decide +kernel
theorem dX6_cut_61 : decode cX6_cut 61 = .ok (.getfield 59, 3) := by decide +kernel
theorem dX6_cut_64 : decode cX6_cut 64 = .ok (.iload_n 2, 1) := by decide +kernel
theorem dX6_cut_65 : decode cX6_cut 65 = .ok (.iload_n 1, 1) := by decide +kernel
theorem dX6_cut_66 : decode cX6_cut 66 = .ok (.invokestatic 142, 3) := by decide +kernel
theorem dX6_cut_69 : decode cX6_cut 69 = .ok (.iaload, 1) := by decide +kernel
theorem dX6_cut_70 : decode cX6_cut 70 = .ok (.iadd, 1) := by decide +kernel
theorem dX6_cut_71 : decode cX6_cut 71 = .ok (.ireturn, 1) := by decide +kernel
set_option maxRecDepth 20000 in
theorem ggX6_restore_X6_areFour : GoodIn wsX6_restore wsX6_areFour := goodIn_r _ [5, 6, 7, 4, 8] (by decide +kernel) (by decide +kernel)
set_option maxRecDepth 20000 in
theorem gX6_restore_X6_areFour : GoodIn wsX6_restore (va_wsS RX6 134 yX6_areFour wsX6_areFour) := goodIn_app (goodIn_of _ (by decide +kernel)) ggX6_restore_X6_areFour
set_option maxRecDepth 20000 in
theorem ggX6_restore_X6_goes : GoodIn wsX6_restore wsX6_goes := goodIn_r _ [12, 13, 14, 15, 16, 17, 18, 19, 20, 21, 22, 23, 24, 25, 26, 27, 28, 29, 30, 31, 32, 33, 34, 35, 36, 37, 38, 39, 40, 41, 42, 43, 44, 45, 46, 47, 48, 49] (by decide +kernel) (by decide +kernel)
set_option maxRecDepth 20000 in
theorem gX6_restore_X6_goes : GoodIn wsX6_restore (wsV RX6 124 RX6 yX6_goes wsX6_goes) := goodIn_app (goodIn_of _ (by decide +kernel)) ggX6_restore_X6_goes
theorem dX6_restore_0 : decode cX6_restore 0 = .ok (.aload_n 0, 1) := by decide +kernel
theorem dX6_restore_1 : decode cX6_restore 1 = .ok (.iload_n 1, 1) := by decide +kernel
theorem dX6_restore_2 : decode cX6_restore 2 = .ok (.iload_n 2, 1) := by decide +kernel
theorem dX6_restore_3 : decode cX6_restore 3 = .ok (.invokestatic 134, 3) := by decide +kernel
theorem dX6_restore_6 : decode cX6_restore 6 = .ok (.ifCond .ne 7, 3) := by decide +kernel
theorem dX6_restore_9 : decode cX6_restore 9 = .ok (.iconst 1, 1) := by decide +kernel
theorem dX6_restore_10 : decode cX6_restore 10 = .ok (.goto 21, 3) := by decide +kernel
theorem dX6_restore_13 : decode cX6_restore 13 = .ok (.aload_n 0, 1) := by decide +kernel
theorem dX6_restore_14 : decode cX6_restore 14 = .ok (.getfield 83, 3) := by decide +kernel
theorem dX6_restore_17 : decode cX6_restore 17 = .ok (.iconst 4, 1) := by decide +kernel
theorem dX6_restore_18 : decode cX6_restore 18 = .ok (.iload_n 1, 1) := by decide +kernel
theorem dX6_restore_19 : decode cX6_restore 19 = .ok (.imul, 1) := by decide +kernel
theorem dX6_restore_20 : decode cX6_restore 20 = .ok (.iload_n 2, 1) := by decide +kernel
theorem dX6_restore_21 : decode cX6_restore 21 = .ok (.iadd, 1) := by decide +kernel
theorem dX6_restore_22 : decode cX6_restore 22 = .ok (.baload, 1) := by decide +kernel
theorem dX6_restore_23 : decode cX6_restore 23 = .ok (.ifCond .eq 7, 3) := by decide +kernel
theorem dX6_restore_26 : decode cX6_restore 26 = .ok (.iconst 0, 1) := by decide +kernel
theorem dX6_restore_27 : decode cX6_restore 27 = .ok (.goto 4, 3) := by decide +kernel
theorem dX6_restore_30 : decode cX6_restore 30 = .ok (.iconst 2, 1) := by decide +kernel
theorem dX6_restore_31 : decode cX6_restore 31 = .ok (.invokevirtual 124, 3) := by decide +kernel
theorem dX6_restore_34 : decode cX6_restore 34 = .ok (.ifCond .ne 5, 3) := by decide +kernel
theorem dX6_restore_37 : decode cX6_restore 37 = .ok (.iconst 0, 1) := by decide +kernel
theorem dX6_restore_38 : decode cX6_restore 38 = .ok (.ireturn, 1) := by decide +kernel
theorem dX6_restore_39 : decode cX6_restore 39 = .ok (.aload_n 0, 1) := by decide +kernel
theorem dX6_restore_40 : decode cX6_restore 40 = .ok (.getfield 83, 3) := by decide +kernel
theorem dX6_restore_43 : decode cX6_restore 43 = .ok (.iconst 4, 1) := by decide +kernel
theorem dX6_restore_44 : decode cX6_restore 44 = .ok (.iload_n 1, 1) := by decide +kernel
theorem dX6_restore_45 : decode cX6_restore 45 = .ok (.imul, 1) := by decide +kernel
theorem dX6_restore_46 : decode cX6_restore 46 = .ok (.iload_n 2, 1) := by decide +kernel
theorem dX6_restore_47 : decode cX6_restore 47 = .ok (.iadd, 1) := by decide +kernel
theorem dX6_restore_48 : decode cX6_restore 48 = .ok (.iconst 0, 1) := by decide +kernel
theorem dX6_restore_49 : decode cX6_restore 49 = .ok (.bastore, 1) := by decide +kernel
theorem dX6_restore_50 : decode cX6_restore 50 = .ok (.iconst 0, 1) := by decide +kernel
theorem dX6_restore_51 : decode cX6_restore 51 = .ok (.istore_n 3, 1) := by decide +kernel
theorem dX6_restore_52 : decode cX6_restore 52 = .ok (.iconst 0, 1) := by decide +kernel
theorem dX6_restore_53 : decode cX6_restore 53 = .ok (.istore 4, 2) := by decide +kernel
theorem dX6_restore_55 : decode cX6_restore 55 = .ok (.iload 4, 2) := by decide +kernel
theorem dX6_restore_57 : decode cX6_restore 57 = .ok (.bipush 16, 2) := by decide +kernel
theorem dX6_restore_59 : decode cX6_restore 59 = .ok (.if_icmp .ge 27, 3) := by decide +kernel
theorem dX6_restore_62 : decode cX6_restore 62 = .ok (.iload_n 3, 1) := by decide +kernel
theorem dX6_restore_63 : decode cX6_restore 63 = .ok (.aload_n 0, 1) := by decide +kernel
theorem dX6_restore_64 : decode cX6_restore 64 = .ok (.getfield 83, 3) := by decide +kernel
theorem dX6_restore_67 : decode cX6_restore 67 = .ok (.iload 4, 2) := by decide +kernel
theorem dX6_restore_69 : decode cX6_restore 69 = .ok (.baload, 1) := by decide +kernel
theorem dX6_restore_70 : decode cX6_restore 70 = .ok (.ifCond .eq 7, 3) := by decide +kernel
theorem dX6_restore_73 : decode cX6_restore 73 = .ok (.iconst 1, 1) := by decide +kernel
theorem dX6_restore_74 : decode cX6_restore 74 = .ok (.goto 4, 3) := by decide +kernel
theorem dX6_restore_77 : decode cX6_restore 77 = .ok (.iconst 0, 1) := by decide +kernel
theorem dX6_restore_78 : decode cX6_restore 78 = .ok (.iadd, 1) := by decide +kernel
theorem dX6_restore_79 : decode cX6_restore 79 = .ok (.istore_n 3, 1) := by decide +kernel
theorem dX6_restore_80 : decode cX6_restore 80 = .ok (.iinc 4 1, 3) := by decide +kernel
theorem dX6_restore_83 : decode cX6_restore 83 = .ok (.goto (-28), 3) := by decide +kernel
theorem dX6_restore_86 : decode cX6_restore 86 = .ok (.iload_n 3, 1) := by decide +kernel
theorem dX6_restore_87 : decode cX6_restore 87 = .ok (.ireturn, 1) := by decide +kernel
theorem dX6_isUsable_0 : decode cX6_isUsable 0 = .ok (.aload_n 0, 1) := by decide +kernel
theorem dX6_isUsable_1 : decode cX6_isUsable 1 = .ok (.getfield 83, 3) := by decide +kernel
theorem dX6_isUsable_4 : decode cX6_isUsable 4 = .ok (.iconst 4, 1) := by decide +kernel
theorem dX6_isUsable_5 : decode cX6_isUsable 5 = .ok (.iload_n 1, 1) := by decide +kernel
theorem dX6_isUsable_6 : decode cX6_isUsable 6 = .ok (.imul, 1) := by decide +kernel
theorem dX6_isUsable_7 : decode cX6_isUsable 7 = .ok (.iload_n 3, 1) := by decide +kernel
theorem dX6_isUsable_8 : decode cX6_isUsable 8 = .ok (.iadd, 1) := by decide +kernel
theorem dX6_isUsable_9 : decode cX6_isUsable 9 = .ok (.baload, 1) := by decide +kernel
theorem dX6_isUsable_10 : decode cX6_isUsable 10 = .ok (.ifCond .ne 20, 3) := by decide +kernel
theorem dX6_isUsable_13 : decode cX6_isUsable 13 = .ok (.aload_n 0, 1) := by decide +kernel
theorem dX6_isUsable_14 : decode cX6_isUsable 14 = .ok (.getfield 83, 3) := by decide +kernel
theorem dX6_isUsable_17 : decode cX6_isUsable 17 = .ok (.iconst 4, 1) := by decide +kernel
theorem dX6_isUsable_18 : decode cX6_isUsable 18 = .ok (.iload_n 2, 1) := by decide +kernel
theorem dX6_isUsable_19 : decode cX6_isUsable 19 = .ok (.imul, 1) := by decide +kernel
theorem dX6_isUsable_20 : decode cX6_isUsable 20 = .ok (.iload_n 3, 1) := by decide +kernel
theorem dX6_isUsable_21 : decode cX6_isUsable 21 = .ok (.iadd, 1) := by decide +kernel
theorem dX6_isUsable_22 : decode cX6_isUsable 22 = .ok (.baload, 1) := by decide +kernel
theorem dX6_isUsable_23 : decode cX6_isUsable 23 = .ok (.ifCond .ne 7, 3) := by decide +kernel
theorem dX6_isUsable_26 : decode cX6_isUsable 26 = .ok (.iconst 1, 1) := by decide +kernel
theorem dX6_isUsable_27 : decode cX6_isUsable 27 = .ok (.goto 4, 3) := by decide +kernel
theorem dX6_isUsable_30 : decode cX6_isUsable 30 = .ok (.iconst 0, 1) := by decide +kernel
theorem dX6_isUsable_31 : decode cX6_isUsable 31 = .ok (.ireturn, 1) := by decide +kernel
set_option maxRecDepth 20000 in
theorem ggX6_usableSet_X6_isUsable : GoodIn wsX6_usableSet wsX6_isUsable := goodIn_r _ [5, 6, 7, 8, 9, 10, 11, 12, 13, 14, 15, 16, 17, 18, 19, 20, 21, 22, 23, 24, 25, 26, 27, 28, 29, 30, 31, 32, 33, 34, 35, 36, 37, 38, 39, 40, 41, 42] (by decide +kernel) (by decide +kernel)
set_option maxRecDepth 20000 in
theorem gX6_usableSet_X6_isUsable : GoodIn wsX6_usableSet (wsV RX6 145 RX6 yX6_isUsable wsX6_isUsable) := goodIn_app (goodIn_of _ (by decide +kernel)) ggX6_usableSet_X6_isUsable
theorem dX6_usableSet_0 : decode cX6_usableSet 0 = .ok (.iconst 0, 1) := by decide +kernel
theorem dX6_usableSet_1 : decode cX6_usableSet 1 = .ok (.istore_n 3, 1) := by decide +kernel
theorem dX6_usableSet_2 : decode cX6_usableSet 2 = .ok (.iconst 0, 1) := by decide +kernel
theorem dX6_usableSet_3 : decode cX6_usableSet 3 = .ok (.istore 4, 2) := by decide +kernel
theorem dX6_usableSet_5 : decode cX6_usableSet 5 = .ok (.iload 4, 2) := by decide +kernel
theorem dX6_usableSet_7 : decode cX6_usableSet 7 = .ok (.iconst 4, 1) := by decide +kernel
theorem dX6_usableSet_8 : decode cX6_usableSet 8 = .ok (.if_icmp .ge 31, 3) := by decide +kernel
theorem dX6_usableSet_11 : decode cX6_usableSet 11 = .ok (.iload_n 3, 1) := by decide +kernel
theorem dX6_usableSet_12 : decode cX6_usableSet 12 = .ok (.aload_n 0, 1) := by decide +kernel
theorem dX6_usableSet_13 : decode cX6_usableSet 13 = .ok (.iload_n 1, 1) := by decide +kernel
theorem dX6_usableSet_14 : decode cX6_usableSet 14 = .ok (.iload_n 2, 1) := by decide +kernel
theorem dX6_usableSet_15 : decode cX6_usableSet 15 = .ok (.iload 4, 2) := by decide +kernel
theorem dX6_usableSet_17 : decode cX6_usableSet 17 = .ok (.invokevirtual 145, 3) := by decide +kernel
theorem dX6_usableSet_20 : decode cX6_usableSet 20 = .ok (.ifCond .eq 10, 3) := by decide +kernel
theorem dX6_usableSet_23 : decode cX6_usableSet 23 = .ok (.iconst 1, 1) := by decide +kernel
theorem dX6_usableSet_24 : decode cX6_usableSet 24 = .ok (.iload 4, 2) := by decide +kernel
theorem dX6_usableSet_26 : decode cX6_usableSet 26 = .ok (.ishl, 1) := by decide +kernel
theorem dX6_usableSet_27 : decode cX6_usableSet 27 = .ok (.goto 4, 3) := by decide +kernel
theorem dX6_usableSet_30 : decode cX6_usableSet 30 = .ok (.iconst 0, 1) := by decide +kernel
theorem dX6_usableSet_31 : decode cX6_usableSet 31 = .ok (.ior, 1) := by decide +kernel
theorem dX6_usableSet_32 : decode cX6_usableSet 32 = .ok (.istore_n 3, 1) := by decide +kernel
theorem dX6_usableSet_33 : decode cX6_usableSet 33 = .ok (.iinc 4 1, 3) := by decide +kernel
theorem dX6_usableSet_36 : decode cX6_usableSet 36 = .ok (.goto (-31), 3) := by decide +kernel
theorem dX6_usableSet_39 : decode cX6_usableSet 39 = .ok (.iload_n 3, 1) := by decide +kernel
theorem dX6_usableSet_40 : decode cX6_usableSet 40 = .ok (.ireturn, 1) := by decide +kernel
set_option maxRecDepth 20000 in
theorem ggX6_chosen_X6_isUsable : GoodIn wsX6_chosen wsX6_isUsable := goodIn_r _ [7, 8, 9, 10, 11, 12, 13, 14, 15, 16, 17, 18, 19, 20, 21, 22, 23, 24, 25, 26, 27, 28, 29, 30, 31, 32, 33, 34, 35, 36, 37, 38, 39, 40, 41, 42, 43, 44] (by decide +kernel) (by decide +kernel)
set_option maxRecDepth 20000 in
theorem gX6_chosen_X6_isUsable : GoodIn wsX6_chosen (wsV RX6 145 RX6 yX6_isUsable wsX6_isUsable) := goodIn_app (goodIn_of _ (by decide +kernel)) ggX6_chosen_X6_isUsable
theorem dX6_chosen_0 : decode cX6_chosen 0 = .ok (.aload_n 0, 1) := by decide +kernel
theorem dX6_chosen_1 : decode cX6_chosen 1 = .ok (.getfield 16, 3) := by decide +kernel
theorem dX6_chosen_4 : decode cX6_chosen 4 = .ok (.iload_n 1, 1) := by decide +kernel
theorem dX6_chosen_5 : decode cX6_chosen 5 = .ok (.iaload, 1) := by decide +kernel
theorem dX6_chosen_6 : decode cX6_chosen 6 = .ok (.iconst 4, 1) := by decide +kernel
theorem dX6_chosen_7 : decode cX6_chosen 7 = .ok (.idiv, 1) := by decide +kernel
theorem dX6_chosen_8 : decode cX6_chosen 8 = .ok (.istore_n 3, 1) := by decide +kernel
theorem dX6_chosen_9 : decode cX6_chosen 9 = .ok (.aload_n 0, 1) := by decide +kernel
theorem dX6_chosen_10 : decode cX6_chosen 10 = .ok (.getfield 20, 3) := by decide +kernel
theorem dX6_chosen_13 : decode cX6_chosen 13 = .ok (.iload_n 1, 1) := by decide +kernel
theorem dX6_chosen_14 : decode cX6_chosen 14 = .ok (.iaload, 1) := by decide +kernel
theorem dX6_chosen_15 : decode cX6_chosen 15 = .ok (.iconst 4, 1) := by decide +kernel
theorem dX6_chosen_16 : decode cX6_chosen 16 = .ok (.idiv, 1) := by decide +kernel
theorem dX6_chosen_17 : decode cX6_chosen 17 = .ok (.istore 4, 2) := by decide +kernel
theorem dX6_chosen_19 : decode cX6_chosen 19 = .ok (.iconst 0, 1) := by decide +kernel
theorem dX6_chosen_20 : decode cX6_chosen 20 = .ok (.istore 5, 2) := by decide +kernel
theorem dX6_chosen_22 : decode cX6_chosen 22 = .ok (.iconst 0, 1) := by decide +kernel
theorem dX6_chosen_23 : decode cX6_chosen 23 = .ok (.istore 6, 2) := by decide +kernel
theorem dX6_chosen_25 : decode cX6_chosen 25 = .ok (.iload 6, 2) := by decide +kernel
theorem dX6_chosen_27 : decode cX6_chosen 27 = .ok (.iconst 4, 1) := by decide +kernel
theorem dX6_chosen_28 : decode cX6_chosen 28 = .ok (.if_icmp .ge 31, 3) := by decide +kernel
theorem dX6_chosen_31 : decode cX6_chosen 31 = .ok (.iload 5, 2) := by decide +kernel
theorem dX6_chosen_33 : decode cX6_chosen 33 = .ok (.aload_n 0, 1) := by decide +kernel
theorem dX6_chosen_34 : decode cX6_chosen 34 = .ok (.iload_n 3, 1) := by decide +kernel
theorem dX6_chosen_35 : decode cX6_chosen 35 = .ok (.iload 4, 2) := by decide +kernel
theorem dX6_chosen_37 : decode cX6_chosen 37 = .ok (.iload 6, 2) := by decide +kernel
theorem dX6_chosen_39 : decode cX6_chosen 39 = .ok (.invokevirtual 145, 3) := by decide +kernel
theorem dX6_chosen_42 : decode cX6_chosen 42 = .ok (.ifCond .eq 7, 3) := by decide +kernel
theorem dX6_chosen_45 : decode cX6_chosen 45 = .ok (.iconst 1, 1) := by decide +kernel
theorem dX6_chosen_46 : decode cX6_chosen 46 = .ok (.goto 4, 3) := by decide +kernel
theorem dX6_chosen_49 : decode cX6_chosen 49 = .ok (.iconst 0, 1) := by decide +kernel
theorem dX6_chosen_50 : decode cX6_chosen 50 = .ok (.iadd, 1) := by decide +kernel
theorem dX6_chosen_51 : decode cX6_chosen 51 = .ok (.istore 5, 2) := by decide +kernel
theorem dX6_chosen_53 : decode cX6_chosen 53 = .ok (.iinc 6 1, 3) := by decide +kernel
theorem dX6_chosen_56 : decode cX6_chosen 56 = .ok (.goto (-31), 3) := by decide +kernel
theorem dX6_chosen_59 : decode cX6_chosen 59 = .ok (.iload 5, 2) := by decide +kernel
theorem dX6_chosen_61 : decode cX6_chosen 61 = .ok (.ifCond .ne 7, 3) := by decide +kernel
theorem dX6_chosen_64 : decode cX6_chosen 64 = .ok (.iconst 0, 1) := by decide +kernel
theorem dX6_chosen_65 : decode cX6_chosen 65 = .ok (.goto 33, 3) := by decide +kernel
theorem dX6_chosen_68 : decode cX6_chosen 68 = .ok (.bipush 7, 2) := by decide +kernel
theorem dX6_chosen_70 : decode cX6_chosen 70 = .ok (.iload_n 1, 1) := by decide +kernel
theorem dX6_chosen_71 : decode cX6_chosen 71 = .ok (.imul, 1) := by decide +kernel
theorem dX6_chosen_72 : decode cX6_chosen 72 = .ok (.bipush 13, 2) := by decide +kernel
theorem dX6_chosen_74 : decode cX6_chosen 74 = .ok (.iload_n 2, 1) := by decide +kernel
theorem dX6_chosen_75 : decode cX6_chosen 75 = .ok (.imul, 1) := by decide +kernel
theorem dX6_chosen_76 : decode cX6_chosen 76 = .ok (.iadd, 1) := by decide +kernel
theorem dX6_chosen_77 : decode cX6_chosen 77 = .ok (.iconst 3, 1) := by decide +kernel
theorem dX6_chosen_78 : decode cX6_chosen 78 = .ok (.aload_n 0, 1) := by decide +kernel
theorem dX6_chosen_79 : decode cX6_chosen 79 = .ok (.getfield 16, 3) := by decide +kernel
theorem dX6_chosen_82 : decode cX6_chosen 82 = .ok (.iload_n 1, 1) := by decide +kernel
theorem dX6_chosen_83 : decode cX6_chosen 83 = .ok (.iaload, 1) := by decide +kernel
theorem dX6_chosen_84 : decode cX6_chosen 84 = .ok (.imul, 1) := by decide +kernel
theorem dX6_chosen_85 : decode cX6_chosen 85 = .ok (.iadd, 1) := by decide +kernel
theorem dX6_chosen_86 : decode cX6_chosen 86 = .ok (.iconst 5, 1) := by decide +kernel
theorem dX6_chosen_87 : decode cX6_chosen 87 = .ok (.aload_n 0, 1) := by decide +kernel
theorem dX6_chosen_88 : decode cX6_chosen 88 = .ok (.getfield 20, 3) := by decide +kernel
theorem dX6_chosen_91 : decode cX6_chosen 91 = .ok (.iload_n 1, 1) := by decide +kernel
theorem dX6_chosen_92 : decode cX6_chosen 92 = .ok (.iaload, 1) := by decide +kernel
theorem dX6_chosen_93 : decode cX6_chosen 93 = .ok (.imul, 1) := by decide +kernel
theorem dX6_chosen_94 : decode cX6_chosen 94 = .ok (.iadd, 1) := by decide +kernel
theorem dX6_chosen_95 : decode cX6_chosen 95 = .ok (.iload 5, 2) := by decide +kernel
theorem dX6_chosen_97 : decode cX6_chosen 97 = .ok (.irem, 1) := by decide +kernel
theorem dX6_chosen_98 : decode cX6_chosen 98 = .ok (.istore 6, 2) := by decide +kernel
theorem dX6_chosen_100 : decode cX6_chosen 100 = .ok (.iconst (-1), 1) := by decide +kernel
theorem dX6_chosen_101 : decode cX6_chosen 101 = .ok (.istore 7, 2) := by decide +kernel
theorem dX6_chosen_103 : decode cX6_chosen 103 = .ok (.iconst 3, 1) := by decide +kernel
theorem dX6_chosen_104 : decode cX6_chosen 104 = .ok (.istore 8, 2) := by decide +kernel
theorem dX6_chosen_106 : decode cX6_chosen 106 = .ok (.iload 8, 2) := by decide +kernel
theorem dX6_chosen_108 : decode cX6_chosen 108 = .ok (.ifCond .lt 56, 3) := by decide +kernel
theorem dX6_chosen_111 : decode cX6_chosen 111 = .ok (.aload_n 0, 1) := by decide +kernel
theorem dX6_chosen_112 : decode cX6_chosen 112 = .ok (.iload_n 3, 1) := by decide +kernel
theorem dX6_chosen_113 : decode cX6_chosen 113 = .ok (.iload 4, 2) := by decide +kernel
theorem dX6_chosen_115 : decode cX6_chosen 115 = .ok (.iload 8, 2) := by decide +kernel
theorem dX6_chosen_117 : decode cX6_chosen 117 = .ok (.invokevirtual 145, 3) := by decide +kernel
theorem dX6_chosen_120 : decode cX6_chosen 120 = .ok (.istore 9, 2) := by decide +kernel
theorem dX6_chosen_122 : decode cX6_chosen 122 = .ok (.iload 5, 2) := by decide +kernel
theorem dX6_chosen_124 : decode cX6_chosen 124 = .ok (.iload 9, 2) := by decide +kernel
theorem dX6_chosen_126 : decode cX6_chosen 126 = .ok (.ifCond .eq 7, 3) := by decide +kernel
theorem dX6_chosen_129 : decode cX6_chosen 129 = .ok (.iconst 1, 1) := by decide +kernel
theorem dX6_chosen_130 : decode cX6_chosen 130 = .ok (.goto 4, 3) := by decide +kernel
theorem dX6_chosen_133 : decode cX6_chosen 133 = .ok (.iconst 0, 1) := by decide +kernel
theorem dX6_chosen_134 : decode cX6_chosen 134 = .ok (.isub, 1) := by decide +kernel
theorem dX6_chosen_135 : decode cX6_chosen 135 = .ok (.istore 5, 2) := by decide +kernel
theorem dX6_chosen_137 : decode cX6_chosen 137 = .ok (.iload 9, 2) := by decide +kernel
theorem dX6_chosen_139 : decode cX6_chosen 139 = .ok (.ifCond .eq 15, 3) := by decide +kernel
theorem dX6_chosen_142 : decode cX6_chosen 142 = .ok (.iload 5, 2) := by decide +kernel
theorem dX6_chosen_144 : decode cX6_chosen 144 = .ok (.iload 6, 2) := by decide +kernel
theorem dX6_chosen_146 : decode cX6_chosen 146 = .ok (.if_icmp .ne 8, 3) := by decide +kernel
theorem dX6_chosen_149 : decode cX6_chosen 149 = .ok (.iload 8, 2) := by decide +kernel
theorem dX6_chosen_151 : decode cX6_chosen 151 = .ok (.goto 5, 3) := by decide +kernel
theorem dX6_chosen_154 : decode cX6_chosen 154 = .ok (.iload 7, 2) := by decide +kernel
theorem dX6_chosen_156 : decode cX6_chosen 156 = .ok (.istore 7, 2) := by decide +kernel
theorem dX6_chosen_158 : decode cX6_chosen 158 = .ok (.iinc 8 (-1), 3) := by decide +kernel
theorem dX6_chosen_161 : decode cX6_chosen 161 = .ok (.goto (-55), 3) := by decide +kernel
theorem dX6_chosen_164 : decode cX6_chosen 164 = .ok (.iload 7, 2) := by decide +kernel
theorem dX6_chosen_166 : decode cX6_chosen 166 = .ok (.ireturn, 1) := by decide +kernel
theorem dX6_isFar_0 : decode cX6_isFar 0 = .ok (.aload_n 0, 1) := by decide +kernel
theorem dX6_isFar_1 : decode cX6_isFar 1 = .ok (.getfield 16, 3) := by decide +kernel
theorem dX6_isFar_4 : decode cX6_isFar 4 = .ok (.iload_n 1, 1) := by decide +kernel
theorem dX6_isFar_5 : decode cX6_isFar 5 = .ok (.iaload, 1) := by decide +kernel
theorem dX6_isFar_6 : decode cX6_isFar 6 = .ok (.iconst 4, 1) := by decide +kernel
theorem dX6_isFar_7 : decode cX6_isFar 7 = .ok (.idiv, 1) := by decide +kernel
theorem dX6_isFar_8 : decode cX6_isFar 8 = .ok (.aload_n 0, 1) := by decide +kernel
theorem dX6_isFar_9 : decode cX6_isFar 9 = .ok (.getfield 20, 3) := by decide +kernel
theorem dX6_isFar_12 : decode cX6_isFar 12 = .ok (.iload_n 1, 1) := by decide +kernel
theorem dX6_isFar_13 : decode cX6_isFar 13 = .ok (.iaload, 1) := by decide +kernel
theorem dX6_isFar_14 : decode cX6_isFar 14 = .ok (.iconst 4, 1) := by decide +kernel
theorem dX6_isFar_15 : decode cX6_isFar 15 = .ok (.idiv, 1) := by decide +kernel
theorem dX6_isFar_16 : decode cX6_isFar 16 = .ok (.if_icmp .eq 7, 3) := by decide +kernel
theorem dX6_isFar_19 : decode cX6_isFar 19 = .ok (.iconst 1, 1) := by decide +kernel
theorem dX6_isFar_20 : decode cX6_isFar 20 = .ok (.goto 4, 3) := by decide +kernel
theorem dX6_isFar_23 : decode cX6_isFar 23 = .ok (.iconst 0, 1) := by decide +kernel
theorem dX6_isFar_24 : decode cX6_isFar 24 = .ok (.ireturn, 1) := by decide +kernel
theorem dX6_leaves_0 : decode cX6_leaves 0 = .ok (.aload_n 0, 1) := by decide +kernel
theorem dX6_leaves_1 : decode cX6_leaves 1 = .ok (.getfield 59, 3) := by decide +kernel
theorem dX6_leaves_4 : decode cX6_leaves 4 = .ok (.iload_n 1, 1) := by decide +kernel
theorem dX6_leaves_5 : decode cX6_leaves 5 = .ok (.dup2, 1) := by decide +kernel
theorem dX6_leaves_6 : decode cX6_leaves 6 = .ok (.iaload, 1) := by decide +kernel
theorem dX6_leaves_7 : decode cX6_leaves 7 = .ok (.iconst 1, 1) := by decide +kernel
theorem dX6_leaves_8 : decode cX6_leaves 8 = .ok (.isub, 1) := by decide +kernel
theorem dX6_leaves_9 : decode cX6_leaves 9 = .ok (.iastore, 1) := by decide +kernel
theorem dX6_leaves_10 : decode cX6_leaves 10 = .ok (.iconst 4, 1) := by decide +kernel
theorem dX6_leaves_11 : decode cX6_leaves 11 = .ok (.iload_n 1, 1) := by decide +kernel
theorem dX6_leaves_12 : decode cX6_leaves 12 = .ok (.imul, 1) := by decide +kernel
theorem dX6_leaves_13 : decode cX6_leaves 13 = .ok (.istore_n 2, 1) := by decide +kernel
theorem dX6_leaves_14 : decode cX6_leaves 14 = .ok (.iload_n 2, 1) := by decide +kernel
theorem dX6_leaves_15 : decode cX6_leaves 15 = .ok (.iconst 4, 1) := by decide +kernel
theorem dX6_leaves_16 : decode cX6_leaves 16 = .ok (.iload_n 1, 1) := by decide +kernel
theorem dX6_leaves_17 : decode cX6_leaves 17 = .ok (.imul, 1) := by decide +kernel
theorem dX6_leaves_18 : decode cX6_leaves 18 = .ok (.aload_n 0, 1) := by decide +kernel
theorem dX6_leaves_19 : decode cX6_leaves 19 = .ok (.getfield 59, 3) := by decide +kernel
theorem dX6_leaves_22 : decode cX6_leaves 22 = .ok (.iload_n 1, 1) := by decide +kernel
theorem dX6_leaves_23 : decode cX6_leaves 23 = .ok (.iaload, 1) := by decide +kernel
theorem dX6_leaves_24 : decode cX6_leaves 24 = .ok (.iadd, 1) := by decide +kernel
theorem dX6_leaves_25 : decode cX6_leaves 25 = .ok (.if_icmp .ge 65, 3) := by decide +kernel
theorem dX6_leaves_28 : decode cX6_leaves 28 = .ok (.aload_n 0, 1) := by decide +kernel
theorem dX6_leaves_29 : decode cX6_leaves 29 = .ok (.getfield 71, 3) := by decide +kernel
theorem dX6_leaves_32 : decode cX6_leaves 32 = .ok (.iload_n 2, 1) := by decide +kernel
theorem dX6_leaves_33 : decode cX6_leaves 33 = .ok (.aload_n 0, 1) := by decide +kernel
theorem dX6_leaves_34 : decode cX6_leaves 34 = .ok (.getfield 71, 3) := by decide +kernel
theorem dX6_leaves_37 : decode cX6_leaves 37 = .ok (.iload_n 2, 1) := by decide +kernel
theorem dX6_leaves_38 : decode cX6_leaves 38 = .ok (.iconst 1, 1) := by decide +kernel
theorem dX6_leaves_39 : decode cX6_leaves 39 = .ok (.iadd, 1) := by decide +kernel
theorem dX6_leaves_40 : decode cX6_leaves 40 = .ok (.iaload, 1) := by decide +kernel
theorem dX6_leaves_41 : decode cX6_leaves 41 = .ok (.iastore, 1) := by decide +kernel
theorem dX6_leaves_42 : decode cX6_leaves 42 = .ok (.aload_n 0, 1) := by decide +kernel
theorem dX6_leaves_43 : decode cX6_leaves 43 = .ok (.getfield 74, 3) := by decide +kernel
theorem dX6_leaves_46 : decode cX6_leaves 46 = .ok (.iload_n 2, 1) := by decide +kernel
theorem dX6_leaves_47 : decode cX6_leaves 47 = .ok (.aload_n 0, 1) := by decide +kernel
theorem dX6_leaves_48 : decode cX6_leaves 48 = .ok (.getfield 74, 3) := by decide +kernel
theorem dX6_leaves_51 : decode cX6_leaves 51 = .ok (.iload_n 2, 1) := by decide +kernel
theorem dX6_leaves_52 : decode cX6_leaves 52 = .ok (.iconst 1, 1) := by decide +kernel
theorem dX6_leaves_53 : decode cX6_leaves 53 = .ok (.iadd, 1) := by decide +kernel
theorem dX6_leaves_54 : decode cX6_leaves 54 = .ok (.iaload, 1) := by decide +kernel
theorem dX6_leaves_55 : decode cX6_leaves 55 = .ok (.iastore, 1) := by decide +kernel
theorem dX6_leaves_56 : decode cX6_leaves 56 = .ok (.aload_n 0, 1) := by decide +kernel
theorem dX6_leaves_57 : decode cX6_leaves 57 = .ok (.getfield 77, 3) := by decide +kernel
theorem dX6_leaves_60 : decode cX6_leaves 60 = .ok (.iload_n 2, 1) := by decide +kernel
theorem dX6_leaves_61 : decode cX6_leaves 61 = .ok (.aload_n 0, 1) := by decide +kernel
theorem dX6_leaves_62 : decode cX6_leaves 62 = .ok (.getfield 77, 3) := by decide +kernel
theorem dX6_leaves_65 : decode cX6_leaves 65 = .ok (.iload_n 2, 1) := by decide +kernel
theorem dX6_leaves_66 : decode cX6_leaves 66 = .ok (.iconst 1, 1) := by decide +kernel
theorem dX6_leaves_67 : decode cX6_leaves 67 = .ok (.iadd, 1) := by decide +kernel
theorem dX6_leaves_68 : decode cX6_leaves 68 = .ok (.iaload, 1) := by decide +kernel
theorem dX6_leaves_69 : decode cX6_leaves 69 = .ok (.iastore, 1) := by decide +kernel
theorem dX6_leaves_70 : decode cX6_leaves 70 = .ok (.aload_n 0, 1) := by decide +kernel
theorem dX6_leaves_71 : decode cX6_leaves 71 = .ok (.getfield 80, 3) := by decide +kernel
theorem dX6_leaves_74 : decode cX6_leaves 74 = .ok (.iload_n 2, 1) := by decide +kernel
theorem dX6_leaves_75 : decode cX6_leaves 75 = .ok (.aload_n 0, 1) := by decide +kernel
theorem dX6_leaves_76 : decode cX6_leaves 76 = .ok (.getfield 80, 3) := by decide +kernel
theorem dX6_leaves_79 : decode cX6_leaves 79 = .ok (.iload_n 2, 1) := by decide +kernel
theorem dX6_leaves_80 : decode cX6_leaves 80 = .ok (.iconst 1, 1) := by decide +kernel
theorem dX6_leaves_81 : decode cX6_leaves 81 = .ok (.iadd, 1) := by decide +kernel
theorem dX6_leaves_82 : decode cX6_leaves 82 = .ok (.iaload, 1) := by decide +kernel
theorem dX6_leaves_83 : decode cX6_leaves 83 = .ok (.iastore, 1) := by decide +kernel
theorem dX6_leaves_84 : decode cX6_leaves 84 = .ok (.iinc 2 1, 3) := by decide +kernel
theorem dX6_leaves_87 : decode cX6_leaves 87 = .ok (.goto (-73), 3) := by decide +kernel
theorem dX6_leaves_90 : decode cX6_leaves 90 = .ok (.aload_n 0, 1) := by decide +kernel
theorem dX6_leaves_91 : decode cX6_leaves 91 = .ok (.getfield 68, 3) := by decide +kernel
theorem dX6_leaves_94 : decode cX6_leaves 94 = .ok (.bipush 8, 2) := by decide +kernel
theorem dX6_leaves_96 : decode cX6_leaves 96 = .ok (.iload_n 1, 1) := by decide +kernel
theorem dX6_leaves_97 : decode cX6_leaves 97 = .ok (.imul, 1) := by decide +kernel
theorem dX6_leaves_98 : decode cX6_leaves 98 = .ok (.aload_n 0, 1) := by decide +kernel
theorem dX6_leaves_99 : decode cX6_leaves 99 = .ok (.getfield 121, 3) := by decide +kernel
theorem dX6_leaves_102 : decode cX6_leaves 102 = .ok (.iconst 1, 1) := by decide +kernel
theorem dX6_leaves_103 : decode cX6_leaves 103 = .ok (.iadd, 1) := by decide +kernel
theorem dX6_leaves_104 : decode cX6_leaves 104 = .ok (.aload_n 0, 1) := by decide +kernel
theorem dX6_leaves_105 : decode cX6_leaves 105 = .ok (.getfield 128, 3) := by decide +kernel
theorem dX6_leaves_108 : decode cX6_leaves 108 = .ok (.iadd, 1) := by decide +kernel
theorem dX6_leaves_109 : decode cX6_leaves 109 = .ok (.bipush 8, 2) := by decide +kernel
theorem dX6_leaves_111 : decode cX6_leaves 111 = .ok (.irem, 1) := by decide +kernel
theorem dX6_leaves_112 : decode cX6_leaves 112 = .ok (.iadd, 1) := by decide +kernel
theorem dX6_leaves_113 : decode cX6_leaves 113 = .ok (.dup2, 1) := by decide +kernel
theorem dX6_leaves_114 : decode cX6_leaves 114 = .ok (.iaload, 1) := by decide +kernel
theorem dX6_leaves_115 : decode cX6_leaves 115 = .ok (.iconst 1, 1) := by decide +kernel
theorem dX6_leaves_116 : decode cX6_leaves 116 = .ok (.iadd, 1) := by decide +kernel
theorem dX6_leaves_117 : decode cX6_leaves 117 = .ok (.iastore, 1) := by decide +kernel
theorem dX6_leaves_118 : decode cX6_leaves 118 = .ok (.return_, 1) := by decide +kernel
theorem dX6_targetOf_0 : decode cX6_targetOf 0 = .ok (.aload_n 0, 1) := by decide +kernel
theorem dX6_targetOf_1 : decode cX6_targetOf 1 = .ok (.getfield 20, 3) := by decide +kernel
theorem dX6_targetOf_4 : decode cX6_targetOf 4 = .ok (.aload_n 0, 1) := by decide +kernel
theorem dX6_targetOf_5 : decode cX6_targetOf 5 = .ok (.getfield 71, 3) := by decide +kernel
theorem dX6_targetOf_8 : decode cX6_targetOf 8 = .ok (.iconst 4, 1) := by decide +kernel
theorem dX6_targetOf_9 : decode cX6_targetOf 9 = .ok (.iload_n 1, 1) := by decide +kernel
theorem dX6_targetOf_10 : decode cX6_targetOf 10 = .ok (.imul, 1) := by decide +kernel
theorem dX6_targetOf_11 : decode cX6_targetOf 11 = .ok (.iaload, 1) := by decide +kernel
theorem dX6_targetOf_12 : decode cX6_targetOf 12 = .ok (.iaload, 1) := by decide +kernel
theorem dX6_targetOf_13 : decode cX6_targetOf 13 = .ok (.ireturn, 1) := by decide +kernel
set_option maxRecDepth 20000 in
theorem ggX6_wanted_X6_targetOf : GoodIn wsX6_wanted wsX6_targetOf := goodIn_r _ [7, 8, 9, 21, 22, 23, 24, 25, 26, 27, 28, 29, 30, 31, 32, 33, 34, 35, 36, 37, 38, 39, 40, 41, 42, 43, 44, 45, 46, 47, 48, 49, 50, 51, 52, 53, 54, 55, 56] (by decide +kernel) (by decide +kernel)
set_option maxRecDepth 20000 in
theorem gX6_wanted_X6_targetOf : GoodIn wsX6_wanted (wsV RX6 148 RX6 yX6_targetOf wsX6_targetOf) := goodIn_app (goodIn_of _ (by decide +kernel)) ggX6_wanted_X6_targetOf
set_option maxRecDepth 20000 in
theorem ggX6_wanted_X6_south : GoodIn wsX6_wanted wsX6_south := goodIn_r _ [12] (by decide +kernel) (by decide +kernel)
set_option maxRecDepth 20000 in
theorem gX6_wanted_X6_south : GoodIn wsX6_wanted (va_wsS RX6 142 yX6_south wsX6_south) := goodIn_app (goodIn_of _ (by decide +kernel)) ggX6_wanted_X6_south
set_option maxRecDepth 20000 in
theorem ggX6_wanted_X6_isUsable : GoodIn wsX6_wanted wsX6_isUsable := goodIn_r _ [16, 17, 21, 22, 23, 24, 25, 26, 27, 28, 29, 30, 31, 32, 33, 34, 35, 36, 37, 38, 39, 40, 41, 42, 43, 44, 45, 46, 47, 48, 49, 50, 51, 52, 53, 54, 55, 56] (by decide +kernel) (by decide +kernel)
set_option maxRecDepth 20000 in
theorem gX6_wanted_X6_isUsable : GoodIn wsX6_wanted (wsV RX6 145 RX6 yX6_isUsable wsX6_isUsable) := goodIn_app (goodIn_of _ (by decide +kernel)) ggX6_wanted_X6_isUsable
set_option maxRecDepth 20000 in
theorem ggX6_wanted_X6_north : GoodIn wsX6_wanted wsX6_north := goodIn_r _ [20] (by decide +kernel) (by decide +kernel)
set_option maxRecDepth 20000 in
theorem gX6_wanted_X6_north : GoodIn wsX6_wanted (va_wsS RX6 138 yX6_north wsX6_north) := goodIn_app (goodIn_of _ (by decide +kernel)) ggX6_wanted_X6_north
theorem dX6_wanted_0 : decode cX6_wanted 0 = .ok (.aload_n 0, 1) := by decide +kernel
theorem dX6_wanted_1 : decode cX6_wanted 1 = .ok (.getfield 59, 3) := by decide +kernel
theorem dX6_wanted_4 : decode cX6_wanted 4 = .ok (.iload_n 1, 1) := by decide +kernel
theorem dX6_wanted_5 : decode cX6_wanted 5 = .ok (.iaload, 1) := by decide +kernel
theorem dX6_wanted_6 : decode cX6_wanted 6 = .ok (.ifCond .eq 15, 3) := by decide +kernel
theorem dX6_wanted_9 : decode cX6_wanted 9 = .ok (.iload_n 1, 1) := by decide +kernel
theorem dX6_wanted_10 : decode cX6_wanted 10 = .ok (.bipush 16, 2) := by decide +kernel
theorem dX6_wanted_12 : decode cX6_wanted 12 = .ok (.if_icmp .lt 11, 3) := by decide +kernel
theorem dX6_wanted_15 : decode cX6_wanted 15 = .ok (.iload_n 1, 1) := by decide +kernel
theorem dX6_wanted_16 : decode cX6_wanted 16 = .ok (.bipush 32, 2) := by decide +kernel
theorem dX6_wanted_18 : decode cX6_wanted 18 = .ok (.if_icmp .ge 5, 3) := by decide +kernel
theorem dX6_wanted_21 : decode cX6_wanted 21 = .ok (.iconst (-1), 1) := by decide +kernel
theorem dX6_wanted_22 : decode cX6_wanted 22 = .ok (.ireturn, 1) := by decide +kernel
theorem dX6_wanted_23 : decode cX6_wanted 23 = .ok (.aload_n 0, 1) := by decide +kernel
theorem dX6_wanted_24 : decode cX6_wanted 24 = .ok (.iload_n 1, 1) := by decide +kernel
theorem dX6_wanted_25 : decode cX6_wanted 25 = .ok (.invokevirtual 148, 3) := by decide +kernel
theorem dX6_wanted_28 : decode cX6_wanted 28 = .ok (.istore_n 2, 1) := by decide +kernel
theorem dX6_wanted_29 : decode cX6_wanted 29 = .ok (.iload_n 1, 1) := by decide +kernel
theorem dX6_wanted_30 : decode cX6_wanted 30 = .ok (.bipush 48, 2) := by decide +kernel
theorem dX6_wanted_32 : decode cX6_wanted 32 = .ok (.if_icmp .lt 8, 3) := by decide +kernel
theorem dX6_wanted_35 : decode cX6_wanted 35 = .ok (.bipush 16, 2) := by decide +kernel
theorem dX6_wanted_37 : decode cX6_wanted 37 = .ok (.iload_n 2, 1) := by decide +kernel
theorem dX6_wanted_38 : decode cX6_wanted 38 = .ok (.iadd, 1) := by decide +kernel
theorem dX6_wanted_39 : decode cX6_wanted 39 = .ok (.ireturn, 1) := by decide +kernel
theorem dX6_wanted_40 : decode cX6_wanted 40 = .ok (.iload_n 1, 1) := by decide +kernel
theorem dX6_wanted_41 : decode cX6_wanted 41 = .ok (.bipush 32, 2) := by decide +kernel
theorem dX6_wanted_43 : decode cX6_wanted 43 = .ok (.if_icmp .lt 16, 3) := by decide +kernel
theorem dX6_wanted_46 : decode cX6_wanted 46 = .ok (.iload_n 1, 1) := by decide +kernel
theorem dX6_wanted_47 : decode cX6_wanted 47 = .ok (.bipush 32, 2) := by decide +kernel
theorem dX6_wanted_49 : decode cX6_wanted 49 = .ok (.isub, 1) := by decide +kernel
theorem dX6_wanted_50 : decode cX6_wanted 50 = .ok (.iconst 4, 1) := by decide +kernel
theorem dX6_wanted_51 : decode cX6_wanted 51 = .ok (.irem, 1) := by decide +kernel
theorem dX6_wanted_52 : decode cX6_wanted 52 = .ok (.iload_n 2, 1) := by decide +kernel
theorem dX6_wanted_53 : decode cX6_wanted 53 = .ok (.iconst 4, 1) := by decide +kernel
theorem dX6_wanted_54 : decode cX6_wanted 54 = .ok (.idiv, 1) := by decide +kernel
theorem dX6_wanted_55 : decode cX6_wanted 55 = .ok (.invokestatic 142, 3) := by decide +kernel
theorem dX6_wanted_58 : decode cX6_wanted 58 = .ok (.ireturn, 1) := by decide +kernel
theorem dX6_wanted_59 : decode cX6_wanted 59 = .ok (.aload_n 0, 1) := by decide +kernel
theorem dX6_wanted_60 : decode cX6_wanted 60 = .ok (.getfield 77, 3) := by decide +kernel
theorem dX6_wanted_63 : decode cX6_wanted 63 = .ok (.iconst 4, 1) := by decide +kernel
theorem dX6_wanted_64 : decode cX6_wanted 64 = .ok (.iload_n 1, 1) := by decide +kernel
theorem dX6_wanted_65 : decode cX6_wanted 65 = .ok (.imul, 1) := by decide +kernel
theorem dX6_wanted_66 : decode cX6_wanted 66 = .ok (.iaload, 1) := by decide +kernel
theorem dX6_wanted_67 : decode cX6_wanted 67 = .ok (.istore_n 3, 1) := by decide +kernel
theorem dX6_wanted_68 : decode cX6_wanted 68 = .ok (.iload_n 1, 1) := by decide +kernel
theorem dX6_wanted_69 : decode cX6_wanted 69 = .ok (.iconst 4, 1) := by decide +kernel
theorem dX6_wanted_70 : decode cX6_wanted 70 = .ok (.idiv, 1) := by decide +kernel
theorem dX6_wanted_71 : decode cX6_wanted 71 = .ok (.iload_n 2, 1) := by decide +kernel
theorem dX6_wanted_72 : decode cX6_wanted 72 = .ok (.iconst 4, 1) := by decide +kernel
theorem dX6_wanted_73 : decode cX6_wanted 73 = .ok (.idiv, 1) := by decide +kernel
theorem dX6_wanted_74 : decode cX6_wanted 74 = .ok (.if_icmp .ne 10, 3) := by decide +kernel
theorem dX6_wanted_77 : decode cX6_wanted 77 = .ok (.bipush 16, 2) := by decide +kernel
theorem dX6_wanted_79 : decode cX6_wanted 79 = .ok (.iload_n 2, 1) := by decide +kernel
theorem dX6_wanted_80 : decode cX6_wanted 80 = .ok (.iadd, 1) := by decide +kernel
theorem dX6_wanted_81 : decode cX6_wanted 81 = .ok (.goto 28, 3) := by decide +kernel
theorem dX6_wanted_84 : decode cX6_wanted 84 = .ok (.aload_n 0, 1) := by decide +kernel
theorem dX6_wanted_85 : decode cX6_wanted 85 = .ok (.iload_n 1, 1) := by decide +kernel
theorem dX6_wanted_86 : decode cX6_wanted 86 = .ok (.iconst 4, 1) := by decide +kernel
theorem dX6_wanted_87 : decode cX6_wanted 87 = .ok (.idiv, 1) := by decide +kernel
theorem dX6_wanted_88 : decode cX6_wanted 88 = .ok (.iload_n 2, 1) := by decide +kernel
theorem dX6_wanted_89 : decode cX6_wanted 89 = .ok (.iconst 4, 1) := by decide +kernel
theorem dX6_wanted_90 : decode cX6_wanted 90 = .ok (.idiv, 1) := by decide +kernel
theorem dX6_wanted_91 : decode cX6_wanted 91 = .ok (.iload_n 3, 1) := by decide +kernel
theorem dX6_wanted_92 : decode cX6_wanted 92 = .ok (.invokevirtual 145, 3) := by decide +kernel
theorem dX6_wanted_95 : decode cX6_wanted 95 = .ok (.ifCond .eq 13, 3) := by decide +kernel
theorem dX6_wanted_98 : decode cX6_wanted 98 = .ok (.iload_n 1, 1) := by decide +kernel
theorem dX6_wanted_99 : decode cX6_wanted 99 = .ok (.iconst 4, 1) := by decide +kernel
theorem dX6_wanted_100 : decode cX6_wanted 100 = .ok (.idiv, 1) := by decide +kernel
theorem dX6_wanted_101 : decode cX6_wanted 101 = .ok (.iload_n 3, 1) := by decide +kernel
theorem dX6_wanted_102 : decode cX6_wanted 102 = .ok (.invokestatic 138, 3) := by decide +kernel
theorem dX6_wanted_105 : decode cX6_wanted 105 = .ok (.goto 4, 3) := by decide +kernel
theorem dX6_wanted_108 : decode cX6_wanted 108 = .ok (.iconst (-1), 1) := by decide +kernel
theorem dX6_wanted_109 : decode cX6_wanted 109 = .ok (.ireturn, 1) := by decide +kernel
set_option maxRecDepth 20000 in
theorem ggX6_queueAt_X6_north : GoodIn wsX6_queueAt wsX6_north := goodIn_r _ [4] (by decide +kernel) (by decide +kernel)
set_option maxRecDepth 20000 in
theorem gX6_queueAt_X6_north : GoodIn wsX6_queueAt (va_wsS RX6 138 yX6_north wsX6_north) := goodIn_app (goodIn_of _ (by decide +kernel)) ggX6_queueAt_X6_north
set_option maxRecDepth 20000 in
theorem ggX6_queueAt_X6_south : GoodIn wsX6_queueAt wsX6_south := goodIn_r _ [7] (by decide +kernel) (by decide +kernel)
set_option maxRecDepth 20000 in
theorem gX6_queueAt_X6_south : GoodIn wsX6_queueAt (va_wsS RX6 142 yX6_south wsX6_south) := goodIn_app (goodIn_of _ (by decide +kernel)) ggX6_queueAt_X6_south
theorem dX6_queueAt_0 : decode cX6_queueAt 0 = .ok (.iload_n 0, 1) := by decide +kernel
theorem dX6_queueAt_1 : decode cX6_queueAt 1 = .ok (.bipush 48, 2) := by decide +kernel
theorem dX6_queueAt_3 : decode cX6_queueAt 3 = .ok (.if_icmp .lt 23, 3) := by decide +kernel
theorem dX6_queueAt_6 : decode cX6_queueAt 6 = .ok (.iload_n 1, 1) := by decide +kernel
theorem dX6_queueAt_7 : decode cX6_queueAt 7 = .ok (.iconst 4, 1) := by decide +kernel
theorem dX6_queueAt_8 : decode cX6_queueAt 8 = .ok (.if_icmp .ge 16, 3) := by decide +kernel
theorem dX6_queueAt_11 : decode cX6_queueAt 11 = .ok (.iload_n 1, 1) := by decide +kernel
theorem dX6_queueAt_12 : decode cX6_queueAt 12 = .ok (.iload_n 0, 1) := by decide +kernel
theorem dX6_queueAt_13 : decode cX6_queueAt 13 = .ok (.bipush 48, 2) := by decide +kernel
theorem dX6_queueAt_15 : decode cX6_queueAt 15 = .ok (.isub, 1) := by decide +kernel
theorem dX6_queueAt_16 : decode cX6_queueAt 16 = .ok (.iconst 4, 1) := by decide +kernel
theorem dX6_queueAt_17 : decode cX6_queueAt 17 = .ok (.idiv, 1) := by decide +kernel
theorem dX6_queueAt_18 : decode cX6_queueAt 18 = .ok (.invokestatic 138, 3) := by decide +kernel
theorem dX6_queueAt_21 : decode cX6_queueAt 21 = .ok (.goto 4, 3) := by decide +kernel
theorem dX6_queueAt_24 : decode cX6_queueAt 24 = .ok (.iconst (-1), 1) := by decide +kernel
theorem dX6_queueAt_25 : decode cX6_queueAt 25 = .ok (.ireturn, 1) := by decide +kernel
theorem dX6_queueAt_26 : decode cX6_queueAt 26 = .ok (.iload_n 0, 1) := by decide +kernel
theorem dX6_queueAt_27 : decode cX6_queueAt 27 = .ok (.bipush 32, 2) := by decide +kernel
theorem dX6_queueAt_29 : decode cX6_queueAt 29 = .ok (.if_icmp .lt 12, 3) := by decide +kernel
theorem dX6_queueAt_32 : decode cX6_queueAt 32 = .ok (.iload_n 0, 1) := by decide +kernel
theorem dX6_queueAt_33 : decode cX6_queueAt 33 = .ok (.bipush 32, 2) := by decide +kernel
theorem dX6_queueAt_35 : decode cX6_queueAt 35 = .ok (.isub, 1) := by decide +kernel
theorem dX6_queueAt_36 : decode cX6_queueAt 36 = .ok (.iconst 4, 1) := by decide +kernel
theorem dX6_queueAt_37 : decode cX6_queueAt 37 = .ok (.idiv, 1) := by decide +kernel
theorem dX6_queueAt_38 : decode cX6_queueAt 38 = .ok (.goto 9, 3) := by decide +kernel
theorem dX6_queueAt_41 : decode cX6_queueAt 41 = .ok (.iload_n 0, 1) := by decide +kernel
theorem dX6_queueAt_42 : decode cX6_queueAt 42 = .ok (.bipush 16, 2) := by decide +kernel
theorem dX6_queueAt_44 : decode cX6_queueAt 44 = .ok (.isub, 1) := by decide +kernel
theorem dX6_queueAt_45 : decode cX6_queueAt 45 = .ok (.iconst 4, 1) := by decide +kernel
theorem dX6_queueAt_46 : decode cX6_queueAt 46 = .ok (.idiv, 1) := by decide +kernel
theorem dX6_queueAt_47 : decode cX6_queueAt 47 = .ok (.istore_n 2, 1) := by decide +kernel
theorem dX6_queueAt_48 : decode cX6_queueAt 48 = .ok (.iload_n 1, 1) := by decide +kernel
theorem dX6_queueAt_49 : decode cX6_queueAt 49 = .ok (.iconst 4, 1) := by decide +kernel
theorem dX6_queueAt_50 : decode cX6_queueAt 50 = .ok (.if_icmp .ge 11, 3) := by decide +kernel
theorem dX6_queueAt_53 : decode cX6_queueAt 53 = .ok (.iconst 4, 1) := by decide +kernel
theorem dX6_queueAt_54 : decode cX6_queueAt 54 = .ok (.iload_n 2, 1) := by decide +kernel
theorem dX6_queueAt_55 : decode cX6_queueAt 55 = .ok (.imul, 1) := by decide +kernel
theorem dX6_queueAt_56 : decode cX6_queueAt 56 = .ok (.iload_n 1, 1) := by decide +kernel
theorem dX6_queueAt_57 : decode cX6_queueAt 57 = .ok (.iadd, 1) := by decide +kernel
theorem dX6_queueAt_58 : decode cX6_queueAt 58 = .ok (.goto 10, 3) := by decide +kernel
theorem dX6_queueAt_61 : decode cX6_queueAt 61 = .ok (.iload_n 1, 1) := by decide +kernel
theorem dX6_queueAt_62 : decode cX6_queueAt 62 = .ok (.iconst 4, 1) := by decide +kernel
theorem dX6_queueAt_63 : decode cX6_queueAt 63 = .ok (.isub, 1) := by decide +kernel
theorem dX6_queueAt_64 : decode cX6_queueAt 64 = .ok (.iload_n 2, 1) := by decide +kernel
theorem dX6_queueAt_65 : decode cX6_queueAt 65 = .ok (.invokestatic 142, 3) := by decide +kernel
theorem dX6_queueAt_68 : decode cX6_queueAt 68 = .ok (.ireturn, 1) := by decide +kernel
theorem dX6_isShut_0 : decode cX6_isShut 0 = .ok (.iload_n 1, 1) := by decide +kernel
theorem dX6_isShut_1 : decode cX6_isShut 1 = .ok (.bipush 48, 2) := by decide +kernel
theorem dX6_isShut_3 : decode cX6_isShut 3 = .ok (.if_icmp .lt 26, 3) := by decide +kernel
theorem dX6_isShut_6 : decode cX6_isShut 6 = .ok (.aload_n 0, 1) := by decide +kernel
theorem dX6_isShut_7 : decode cX6_isShut 7 = .ok (.getfield 83, 3) := by decide +kernel
theorem dX6_isShut_10 : decode cX6_isShut 10 = .ok (.iconst 4, 1) := by decide +kernel
theorem dX6_isShut_11 : decode cX6_isShut 11 = .ok (.iload_n 1, 1) := by decide +kernel
theorem dX6_isShut_12 : decode cX6_isShut 12 = .ok (.bipush 48, 2) := by decide +kernel
theorem dX6_isShut_14 : decode cX6_isShut 14 = .ok (.isub, 1) := by decide +kernel
theorem dX6_isShut_15 : decode cX6_isShut 15 = .ok (.iconst 4, 1) := by decide +kernel
theorem dX6_isShut_16 : decode cX6_isShut 16 = .ok (.irem, 1) := by decide +kernel
theorem dX6_isShut_17 : decode cX6_isShut 17 = .ok (.imul, 1) := by decide +kernel
theorem dX6_isShut_18 : decode cX6_isShut 18 = .ok (.iload_n 1, 1) := by decide +kernel
theorem dX6_isShut_19 : decode cX6_isShut 19 = .ok (.bipush 48, 2) := by decide +kernel
theorem dX6_isShut_21 : decode cX6_isShut 21 = .ok (.isub, 1) := by decide +kernel
theorem dX6_isShut_22 : decode cX6_isShut 22 = .ok (.iconst 4, 1) := by decide +kernel
theorem dX6_isShut_23 : decode cX6_isShut 23 = .ok (.idiv, 1) := by decide +kernel
theorem dX6_isShut_24 : decode cX6_isShut 24 = .ok (.iadd, 1) := by decide +kernel
theorem dX6_isShut_25 : decode cX6_isShut 25 = .ok (.baload, 1) := by decide +kernel
theorem dX6_isShut_26 : decode cX6_isShut 26 = .ok (.goto 26, 3) := by decide +kernel
theorem dX6_isShut_29 : decode cX6_isShut 29 = .ok (.iload_n 1, 1) := by decide +kernel
theorem dX6_isShut_30 : decode cX6_isShut 30 = .ok (.bipush 32, 2) := by decide +kernel
theorem dX6_isShut_32 : decode cX6_isShut 32 = .ok (.if_icmp .lt 19, 3) := by decide +kernel
theorem dX6_isShut_35 : decode cX6_isShut 35 = .ok (.aload_n 0, 1) := by decide +kernel
theorem dX6_isShut_36 : decode cX6_isShut 36 = .ok (.getfield 83, 3) := by decide +kernel
theorem dX6_isShut_39 : decode cX6_isShut 39 = .ok (.iload_n 1, 1) := by decide +kernel
theorem dX6_isShut_40 : decode cX6_isShut 40 = .ok (.bipush 32, 2) := by decide +kernel
theorem dX6_isShut_42 : decode cX6_isShut 42 = .ok (.isub, 1) := by decide +kernel
theorem dX6_isShut_43 : decode cX6_isShut 43 = .ok (.baload, 1) := by decide +kernel
theorem dX6_isShut_44 : decode cX6_isShut 44 = .ok (.ifCond .eq 7, 3) := by decide +kernel
theorem dX6_isShut_47 : decode cX6_isShut 47 = .ok (.iconst 1, 1) := by decide +kernel
theorem dX6_isShut_48 : decode cX6_isShut 48 = .ok (.goto 4, 3) := by decide +kernel
theorem dX6_isShut_51 : decode cX6_isShut 51 = .ok (.iconst 0, 1) := by decide +kernel
theorem dX6_isShut_52 : decode cX6_isShut 52 = .ok (.ireturn, 1) := by decide +kernel
theorem dX6_creditsReturn_0 : decode cX6_creditsReturn 0 = .ok (.iconst 0, 1) := by decide +kernel
theorem dX6_creditsReturn_1 : decode cX6_creditsReturn 1 = .ok (.istore_n 1, 1) := by decide +kernel
theorem dX6_creditsReturn_2 : decode cX6_creditsReturn 2 = .ok (.iload_n 1, 1) := by decide +kernel
theorem dX6_creditsReturn_3 : decode cX6_creditsReturn 3 = .ok (.bipush 64, 2) := by decide +kernel
theorem dX6_creditsReturn_5 : decode cX6_creditsReturn 5 = .ok (.if_icmp .ge 44, 3) := by decide +kernel
theorem dX6_creditsReturn_8 : decode cX6_creditsReturn 8 = .ok (.bipush 8, 2) := by decide +kernel
theorem dX6_creditsReturn_10 : decode cX6_creditsReturn 10 = .ok (.iload_n 1, 1) := by decide +kernel
theorem dX6_creditsReturn_11 : decode cX6_creditsReturn 11 = .ok (.imul, 1) := by decide +kernel
theorem dX6_creditsReturn_12 : decode cX6_creditsReturn 12 = .ok (.aload_n 0, 1) := by decide +kernel
theorem dX6_creditsReturn_13 : decode cX6_creditsReturn 13 = .ok (.getfield 121, 3) := by decide +kernel
theorem dX6_creditsReturn_16 : decode cX6_creditsReturn 16 = .ok (.bipush 8, 2) := by decide +kernel
theorem dX6_creditsReturn_18 : decode cX6_creditsReturn 18 = .ok (.irem, 1) := by decide +kernel
theorem dX6_creditsReturn_19 : decode cX6_creditsReturn 19 = .ok (.iadd, 1) := by decide +kernel
theorem dX6_creditsReturn_20 : decode cX6_creditsReturn 20 = .ok (.istore_n 2, 1) := by decide +kernel
theorem dX6_creditsReturn_21 : decode cX6_creditsReturn 21 = .ok (.aload_n 0, 1) := by decide +kernel
theorem dX6_creditsReturn_22 : decode cX6_creditsReturn 22 = .ok (.getfield 56, 3) := by decide +kernel
theorem dX6_creditsReturn_25 : decode cX6_creditsReturn 25 = .ok (.iload_n 1, 1) := by decide +kernel
theorem dX6_creditsReturn_26 : decode cX6_creditsReturn 26 = .ok (.dup2, 1) := by decide +kernel
theorem dX6_creditsReturn_27 : decode cX6_creditsReturn 27 = .ok (.iaload, 1) := by decide +kernel
theorem dX6_creditsReturn_28 : decode cX6_creditsReturn 28 = .ok (.aload_n 0, 1) := by decide +kernel
theorem dX6_creditsReturn_29 : decode cX6_creditsReturn 29 = .ok (.getfield 68, 3) := by decide +kernel
theorem dX6_creditsReturn_32 : decode cX6_creditsReturn 32 = .ok (.iload_n 2, 1) := by decide +kernel
theorem dX6_creditsReturn_33 : decode cX6_creditsReturn 33 = .ok (.iaload, 1) := by decide +kernel
theorem dX6_creditsReturn_34 : decode cX6_creditsReturn 34 = .ok (.iadd, 1) := by decide +kernel
theorem dX6_creditsReturn_35 : decode cX6_creditsReturn 35 = .ok (.iastore, 1) := by decide +kernel
theorem dX6_creditsReturn_36 : decode cX6_creditsReturn 36 = .ok (.aload_n 0, 1) := by decide +kernel
theorem dX6_creditsReturn_37 : decode cX6_creditsReturn 37 = .ok (.getfield 68, 3) := by decide +kernel
theorem dX6_creditsReturn_40 : decode cX6_creditsReturn 40 = .ok (.iload_n 2, 1) := by decide +kernel
theorem dX6_creditsReturn_41 : decode cX6_creditsReturn 41 = .ok (.iconst 0, 1) := by decide +kernel
theorem dX6_creditsReturn_42 : decode cX6_creditsReturn 42 = .ok (.iastore, 1) := by decide +kernel
theorem dX6_creditsReturn_43 : decode cX6_creditsReturn 43 = .ok (.iinc 1 1, 3) := by decide +kernel
theorem dX6_creditsReturn_46 : decode cX6_creditsReturn 46 = .ok (.goto (-44), 3) := by decide +kernel
theorem dX6_creditsReturn_49 : decode cX6_creditsReturn 49 = .ok (.return_, 1) := by decide +kernel
set_option maxRecDepth 20000 in
theorem ggX6_hostsTake_X6_leaves : GoodIn wsX6_hostsTake wsX6_leaves := goodIn_r _ [15, 1, 2, 3, 16, 17, 18, 9, 19, 20, 21, 22, 23, 24, 25, 26, 27, 28, 29, 30, 31, 32, 33, 34, 35, 36, 37, 38, 39, 40, 41, 42, 43, 44, 45, 46, 47, 48, 49, 50, 51, 52, 53, 54, 55] (by decide +kernel) (by decide +kernel)
set_option maxRecDepth 20000 in
theorem gX6_hostsTake_X6_leaves : GoodIn wsX6_hostsTake (wsV RX6 152 RX6 yX6_leaves wsX6_leaves) := goodIn_app (goodIn_of _ (by decide +kernel)) ggX6_hostsTake_X6_leaves
theorem dX6_hostsTake_0 : decode cX6_hostsTake 0 = .ok (.iconst 0, 1) := by decide +kernel
theorem dX6_hostsTake_1 : decode cX6_hostsTake 1 = .ok (.istore_n 1, 1) := by decide +kernel
theorem dX6_hostsTake_2 : decode cX6_hostsTake 2 = .ok (.iconst 0, 1) := by decide +kernel
theorem dX6_hostsTake_3 : decode cX6_hostsTake 3 = .ok (.istore_n 2, 1) := by decide +kernel
theorem dX6_hostsTake_4 : decode cX6_hostsTake 4 = .ok (.iload_n 2, 1) := by decide +kernel
theorem dX6_hostsTake_5 : decode cX6_hostsTake 5 = .ok (.bipush 16, 2) := by decide +kernel
theorem dX6_hostsTake_7 : decode cX6_hostsTake 7 = .ok (.if_icmp .ge 164, 3) := by decide +kernel
theorem dX6_hostsTake_10 : decode cX6_hostsTake 10 = .ok (.aload_n 0, 1) := by decide +kernel
theorem dX6_hostsTake_11 : decode cX6_hostsTake 11 = .ok (.getfield 59, 3) := by decide +kernel
theorem dX6_hostsTake_14 : decode cX6_hostsTake 14 = .ok (.bipush 16, 2) := by decide +kernel
theorem dX6_hostsTake_16 : decode cX6_hostsTake 16 = .ok (.iload_n 2, 1) := by decide +kernel
theorem dX6_hostsTake_17 : decode cX6_hostsTake 17 = .ok (.iadd, 1) := by decide +kernel
theorem dX6_hostsTake_18 : decode cX6_hostsTake 18 = .ok (.iaload, 1) := by decide +kernel
theorem dX6_hostsTake_19 : decode cX6_hostsTake 19 = .ok (.ifCond .le 146, 3) := by decide +kernel
theorem dX6_hostsTake_22 : decode cX6_hostsTake 22 = .ok (.aload_n 0, 1) := by decide +kernel
theorem dX6_hostsTake_23 : decode cX6_hostsTake 23 = .ok (.getfield 71, 3) := by decide +kernel
theorem dX6_hostsTake_26 : decode cX6_hostsTake 26 = .ok (.iconst 4, 1) := by decide +kernel
theorem dX6_hostsTake_27 : decode cX6_hostsTake 27 = .ok (.bipush 16, 2) := by decide +kernel
theorem dX6_hostsTake_29 : decode cX6_hostsTake 29 = .ok (.iload_n 2, 1) := by decide +kernel
theorem dX6_hostsTake_30 : decode cX6_hostsTake 30 = .ok (.iadd, 1) := by decide +kernel
theorem dX6_hostsTake_31 : decode cX6_hostsTake 31 = .ok (.imul, 1) := by decide +kernel
theorem dX6_hostsTake_32 : decode cX6_hostsTake 32 = .ok (.iaload, 1) := by decide +kernel
theorem dX6_hostsTake_33 : decode cX6_hostsTake 33 = .ok (.istore_n 3, 1) := by decide +kernel
theorem dX6_hostsTake_34 : decode cX6_hostsTake 34 = .ok (.aload_n 0, 1) := by decide +kernel
theorem dX6_hostsTake_35 : decode cX6_hostsTake 35 = .ok (.getfield 74, 3) := by decide +kernel
theorem dX6_hostsTake_38 : decode cX6_hostsTake 38 = .ok (.iconst 4, 1) := by decide +kernel
theorem dX6_hostsTake_39 : decode cX6_hostsTake 39 = .ok (.bipush 16, 2) := by decide +kernel
theorem dX6_hostsTake_41 : decode cX6_hostsTake 41 = .ok (.iload_n 2, 1) := by decide +kernel
theorem dX6_hostsTake_42 : decode cX6_hostsTake 42 = .ok (.iadd, 1) := by decide +kernel
theorem dX6_hostsTake_43 : decode cX6_hostsTake 43 = .ok (.imul, 1) := by decide +kernel
theorem dX6_hostsTake_44 : decode cX6_hostsTake 44 = .ok (.iaload, 1) := by decide +kernel
theorem dX6_hostsTake_45 : decode cX6_hostsTake 45 = .ok (.istore 4, 2) := by decide +kernel
theorem dX6_hostsTake_47 : decode cX6_hostsTake 47 = .ok (.aload_n 0, 1) := by decide +kernel
theorem dX6_hostsTake_48 : decode cX6_hostsTake 48 = .ok (.getfield 38, 3) := by decide +kernel
theorem dX6_hostsTake_51 : decode cX6_hostsTake 51 = .ok (.iload_n 3, 1) := by decide +kernel
theorem dX6_hostsTake_52 : decode cX6_hostsTake 52 = .ok (.dup2, 1) := by decide +kernel
theorem dX6_hostsTake_53 : decode cX6_hostsTake 53 = .ok (.iaload, 1) := by decide +kernel
theorem dX6_hostsTake_54 : decode cX6_hostsTake 54 = .ok (.iload 4, 2) := by decide +kernel
theorem dX6_hostsTake_56 : decode cX6_hostsTake 56 = .ok (.aload_n 0, 1) := by decide +kernel
theorem dX6_hostsTake_57 : decode cX6_hostsTake 57 = .ok (.getfield 41, 3) := by decide +kernel
theorem dX6_hostsTake_60 : decode cX6_hostsTake 60 = .ok (.iload_n 3, 1) := by decide +kernel
theorem dX6_hostsTake_61 : decode cX6_hostsTake 61 = .ok (.iaload, 1) := by decide +kernel
theorem dX6_hostsTake_62 : decode cX6_hostsTake 62 = .ok (.if_icmp .ge 7, 3) := by decide +kernel
theorem dX6_hostsTake_65 : decode cX6_hostsTake 65 = .ok (.iconst 1, 1) := by decide +kernel
theorem dX6_hostsTake_66 : decode cX6_hostsTake 66 = .ok (.goto 4, 3) := by decide +kernel
theorem dX6_hostsTake_69 : decode cX6_hostsTake 69 = .ok (.iconst 0, 1) := by decide +kernel
theorem dX6_hostsTake_70 : decode cX6_hostsTake 70 = .ok (.iadd, 1) := by decide +kernel
theorem dX6_hostsTake_71 : decode cX6_hostsTake 71 = .ok (.iastore, 1) := by decide +kernel
theorem dX6_hostsTake_72 : decode cX6_hostsTake 72 = .ok (.aload_n 0, 1) := by decide +kernel
theorem dX6_hostsTake_73 : decode cX6_hostsTake 73 = .ok (.getfield 41, 3) := by decide +kernel
theorem dX6_hostsTake_76 : decode cX6_hostsTake 76 = .ok (.iload_n 3, 1) := by decide +kernel
theorem dX6_hostsTake_77 : decode cX6_hostsTake 77 = .ok (.iload 4, 2) := by decide +kernel
theorem dX6_hostsTake_79 : decode cX6_hostsTake 79 = .ok (.aload_n 0, 1) := by decide +kernel
theorem dX6_hostsTake_80 : decode cX6_hostsTake 80 = .ok (.getfield 41, 3) := by decide +kernel
theorem dX6_hostsTake_83 : decode cX6_hostsTake 83 = .ok (.iload_n 3, 1) := by decide +kernel
theorem dX6_hostsTake_84 : decode cX6_hostsTake 84 = .ok (.iaload, 1) := by decide +kernel
theorem dX6_hostsTake_85 : decode cX6_hostsTake 85 = .ok (.if_icmp .le 8, 3) := by decide +kernel
theorem dX6_hostsTake_88 : decode cX6_hostsTake 88 = .ok (.iload 4, 2) := by decide +kernel
theorem dX6_hostsTake_90 : decode cX6_hostsTake 90 = .ok (.goto 9, 3) := by decide +kernel
theorem dX6_hostsTake_93 : decode cX6_hostsTake 93 = .ok (.aload_n 0, 1) := by decide +kernel
theorem dX6_hostsTake_94 : decode cX6_hostsTake 94 = .ok (.getfield 41, 3) := by decide +kernel
theorem dX6_hostsTake_97 : decode cX6_hostsTake 97 = .ok (.iload_n 3, 1) := by decide +kernel
theorem dX6_hostsTake_98 : decode cX6_hostsTake 98 = .ok (.iaload, 1) := by decide +kernel
theorem dX6_hostsTake_99 : decode cX6_hostsTake 99 = .ok (.iastore, 1) := by decide +kernel
theorem dX6_hostsTake_100 : decode cX6_hostsTake 100 = .ok (.aload_n 0, 1) := by decide +kernel
theorem dX6_hostsTake_101 : decode cX6_hostsTake 101 = .ok (.getfield 32, 3) := by decide +kernel
theorem dX6_hostsTake_104 : decode cX6_hostsTake 104 = .ok (.iload_n 3, 1) := by decide +kernel
theorem dX6_hostsTake_105 : decode cX6_hostsTake 105 = .ok (.dup2, 1) := by decide +kernel
theorem dX6_hostsTake_106 : decode cX6_hostsTake 106 = .ok (.iaload, 1) := by decide +kernel
theorem dX6_hostsTake_107 : decode cX6_hostsTake 107 = .ok (.iconst 1, 1) := by decide +kernel
theorem dX6_hostsTake_108 : decode cX6_hostsTake 108 = .ok (.iadd, 1) := by decide +kernel
theorem dX6_hostsTake_109 : decode cX6_hostsTake 109 = .ok (.iastore, 1) := by decide +kernel
theorem dX6_hostsTake_110 : decode cX6_hostsTake 110 = .ok (.aload_n 0, 1) := by decide +kernel
theorem dX6_hostsTake_111 : decode cX6_hostsTake 111 = .ok (.getfield 44, 3) := by decide +kernel
theorem dX6_hostsTake_114 : decode cX6_hostsTake 114 = .ok (.iload_n 3, 1) := by decide +kernel
theorem dX6_hostsTake_115 : decode cX6_hostsTake 115 = .ok (.aload_n 0, 1) := by decide +kernel
theorem dX6_hostsTake_116 : decode cX6_hostsTake 116 = .ok (.getfield 32, 3) := by decide +kernel
theorem dX6_hostsTake_119 : decode cX6_hostsTake 119 = .ok (.iload_n 3, 1) := by decide +kernel
theorem dX6_hostsTake_120 : decode cX6_hostsTake 120 = .ok (.iaload, 1) := by decide +kernel
theorem dX6_hostsTake_121 : decode cX6_hostsTake 121 = .ok (.aload_n 0, 1) := by decide +kernel
theorem dX6_hostsTake_122 : decode cX6_hostsTake 122 = .ok (.getfield 23, 3) := by decide +kernel
theorem dX6_hostsTake_125 : decode cX6_hostsTake 125 = .ok (.iload_n 3, 1) := by decide +kernel
theorem dX6_hostsTake_126 : decode cX6_hostsTake 126 = .ok (.iaload, 1) := by decide +kernel
theorem dX6_hostsTake_127 : decode cX6_hostsTake 127 = .ok (.if_icmp .ne 10, 3) := by decide +kernel
theorem dX6_hostsTake_130 : decode cX6_hostsTake 130 = .ok (.aload_n 0, 1) := by decide +kernel
theorem dX6_hostsTake_131 : decode cX6_hostsTake 131 = .ok (.getfield 121, 3) := by decide +kernel
theorem dX6_hostsTake_134 : decode cX6_hostsTake 134 = .ok (.goto 9, 3) := by decide +kernel
theorem dX6_hostsTake_137 : decode cX6_hostsTake 137 = .ok (.aload_n 0, 1) := by decide +kernel
theorem dX6_hostsTake_138 : decode cX6_hostsTake 138 = .ok (.getfield 44, 3) := by decide +kernel
theorem dX6_hostsTake_141 : decode cX6_hostsTake 141 = .ok (.iload_n 3, 1) := by decide +kernel
theorem dX6_hostsTake_142 : decode cX6_hostsTake 142 = .ok (.iaload, 1) := by decide +kernel
theorem dX6_hostsTake_143 : decode cX6_hostsTake 143 = .ok (.iastore, 1) := by decide +kernel
theorem dX6_hostsTake_144 : decode cX6_hostsTake 144 = .ok (.aload_n 0, 1) := by decide +kernel
theorem dX6_hostsTake_145 : decode cX6_hostsTake 145 = .ok (.getfield 93, 3) := by decide +kernel
theorem dX6_hostsTake_148 : decode cX6_hostsTake 148 = .ok (.iload_n 2, 1) := by decide +kernel
theorem dX6_hostsTake_149 : decode cX6_hostsTake 149 = .ok (.dup2, 1) := by decide +kernel
theorem dX6_hostsTake_150 : decode cX6_hostsTake 150 = .ok (.iaload, 1) := by decide +kernel
theorem dX6_hostsTake_151 : decode cX6_hostsTake 151 = .ok (.iconst 1, 1) := by decide +kernel
theorem dX6_hostsTake_152 : decode cX6_hostsTake 152 = .ok (.isub, 1) := by decide +kernel
theorem dX6_hostsTake_153 : decode cX6_hostsTake 153 = .ok (.iastore, 1) := by decide +kernel
theorem dX6_hostsTake_154 : decode cX6_hostsTake 154 = .ok (.aload_n 0, 1) := by decide +kernel
theorem dX6_hostsTake_155 : decode cX6_hostsTake 155 = .ok (.bipush 16, 2) := by decide +kernel
theorem dX6_hostsTake_157 : decode cX6_hostsTake 157 = .ok (.iload_n 2, 1) := by decide +kernel
theorem dX6_hostsTake_158 : decode cX6_hostsTake 158 = .ok (.iadd, 1) := by decide +kernel
theorem dX6_hostsTake_159 : decode cX6_hostsTake 159 = .ok (.invokevirtual 152, 3) := by decide +kernel
theorem dX6_hostsTake_162 : decode cX6_hostsTake 162 = .ok (.iinc 1 1, 3) := by decide +kernel
theorem dX6_hostsTake_165 : decode cX6_hostsTake 165 = .ok (.iinc 2 1, 3) := by decide +kernel
theorem dX6_hostsTake_168 : decode cX6_hostsTake 168 = .ok (.goto (-164), 3) := by decide +kernel
theorem dX6_hostsTake_171 : decode cX6_hostsTake 171 = .ok (.iload_n 1, 1) := by decide +kernel
theorem dX6_hostsTake_172 : decode cX6_hostsTake 172 = .ok (.ireturn, 1) := by decide +kernel
set_option maxRecDepth 20000 in
theorem ggX6_spinesLose_X6_north : GoodIn wsX6_spinesLose wsX6_north := goodIn_r _ [8] (by decide +kernel) (by decide +kernel)
set_option maxRecDepth 20000 in
theorem gX6_spinesLose_X6_north : GoodIn wsX6_spinesLose (va_wsS RX6 138 yX6_north wsX6_north) := goodIn_app (goodIn_of _ (by decide +kernel)) ggX6_spinesLose_X6_north
set_option maxRecDepth 20000 in
theorem ggX6_spinesLose_X6_wanted : GoodIn wsX6_spinesLose wsX6_wanted := goodIn_r _ [12, 13, 14, 15, 16, 17, 7, 18, 4, 1, 19, 20, 21, 22, 23, 24, 25, 26, 5, 6, 8, 40, 41, 42, 43, 44, 45, 46, 47, 48, 49, 50, 51, 52, 53, 54, 55, 56, 57, 58, 59, 60, 61, 62, 63, 64, 65, 66, 67, 68, 69, 70, 71, 72, 73, 74, 75] (by decide +kernel) (by decide +kernel)
set_option maxRecDepth 20000 in
theorem gX6_spinesLose_X6_wanted : GoodIn wsX6_spinesLose (wsV RX6 156 RX6 yX6_wanted wsX6_wanted) := goodIn_app (goodIn_of _ (by decide +kernel)) ggX6_spinesLose_X6_wanted
set_option maxRecDepth 20000 in
theorem ggX6_spinesLose_X6_isShut : GoodIn wsX6_spinesLose wsX6_isShut := goodIn_r _ [30, 26, 40, 41, 42, 43, 44, 45, 46, 47, 48, 49, 50, 51, 52, 53, 54, 55, 56, 57, 58, 59, 60, 61, 62, 63, 64, 65, 66, 67, 68, 69, 70, 71, 72, 73, 74, 75] (by decide +kernel) (by decide +kernel)
set_option maxRecDepth 20000 in
theorem gX6_spinesLose_X6_isShut : GoodIn wsX6_spinesLose (wsV RX6 159 RX6 yX6_isShut wsX6_isShut) := goodIn_app (goodIn_of _ (by decide +kernel)) ggX6_spinesLose_X6_isShut
set_option maxRecDepth 20000 in
theorem ggX6_spinesLose_X6_leaves : GoodIn wsX6_spinesLose wsX6_leaves := goodIn_r _ [34, 13, 1, 35, 14, 36, 37, 38, 39, 40, 41, 42, 43, 44, 45, 46, 47, 48, 49, 50, 51, 52, 53, 54, 55, 56, 57, 58, 59, 60, 61, 62, 63, 64, 65, 66, 67, 68, 69, 70, 71, 72, 73, 74, 75] (by decide +kernel) (by decide +kernel)
set_option maxRecDepth 20000 in
theorem gX6_spinesLose_X6_leaves : GoodIn wsX6_spinesLose (wsV RX6 152 RX6 yX6_leaves wsX6_leaves) := goodIn_app (goodIn_of _ (by decide +kernel)) ggX6_spinesLose_X6_leaves
theorem dX6_spinesLose_0 : decode cX6_spinesLose 0 = .ok (.iconst 0, 1) := by decide +kernel
theorem dX6_spinesLose_1 : decode cX6_spinesLose 1 = .ok (.istore_n 1, 1) := by decide +kernel
theorem dX6_spinesLose_2 : decode cX6_spinesLose 2 = .ok (.iload_n 1, 1) := by decide +kernel
theorem dX6_spinesLose_3 : decode cX6_spinesLose 3 = .ok (.iconst 4, 1) := by decide +kernel
theorem dX6_spinesLose_4 : decode cX6_spinesLose 4 = .ok (.if_icmp .ge 92, 3) := by decide +kernel
theorem dX6_spinesLose_7 : decode cX6_spinesLose 7 = .ok (.iconst 0, 1) := by decide +kernel
theorem dX6_spinesLose_8 : decode cX6_spinesLose 8 = .ok (.istore_n 2, 1) := by decide +kernel
theorem dX6_spinesLose_9 : decode cX6_spinesLose 9 = .ok (.iload_n 2, 1) := by decide +kernel
theorem dX6_spinesLose_10 : decode cX6_spinesLose 10 = .ok (.iconst 4, 1) := by decide +kernel
theorem dX6_spinesLose_11 : decode cX6_spinesLose 11 = .ok (.if_icmp .ge 79, 3) := by decide +kernel
theorem dX6_spinesLose_14 : decode cX6_spinesLose 14 = .ok (.iload_n 2, 1) := by decide +kernel
theorem dX6_spinesLose_15 : decode cX6_spinesLose 15 = .ok (.iload_n 1, 1) := by decide +kernel
theorem dX6_spinesLose_16 : decode cX6_spinesLose 16 = .ok (.invokestatic 138, 3) := by decide +kernel
theorem dX6_spinesLose_19 : decode cX6_spinesLose 19 = .ok (.istore_n 3, 1) := by decide +kernel
theorem dX6_spinesLose_20 : decode cX6_spinesLose 20 = .ok (.aload_n 0, 1) := by decide +kernel
theorem dX6_spinesLose_21 : decode cX6_spinesLose 21 = .ok (.iload_n 3, 1) := by decide +kernel
theorem dX6_spinesLose_22 : decode cX6_spinesLose 22 = .ok (.invokevirtual 156, 3) := by decide +kernel
theorem dX6_spinesLose_25 : decode cX6_spinesLose 25 = .ok (.istore 4, 2) := by decide +kernel
theorem dX6_spinesLose_27 : decode cX6_spinesLose 27 = .ok (.iload 4, 2) := by decide +kernel
theorem dX6_spinesLose_29 : decode cX6_spinesLose 29 = .ok (.iconst (-1), 1) := by decide +kernel
theorem dX6_spinesLose_30 : decode cX6_spinesLose 30 = .ok (.if_icmp .eq 54, 3) := by decide +kernel
theorem dX6_spinesLose_33 : decode cX6_spinesLose 33 = .ok (.aload_n 0, 1) := by decide +kernel
theorem dX6_spinesLose_34 : decode cX6_spinesLose 34 = .ok (.iload 4, 2) := by decide +kernel
theorem dX6_spinesLose_36 : decode cX6_spinesLose 36 = .ok (.invokevirtual 159, 3) := by decide +kernel
theorem dX6_spinesLose_39 : decode cX6_spinesLose 39 = .ok (.ifCond .eq 45, 3) := by decide +kernel
theorem dX6_spinesLose_42 : decode cX6_spinesLose 42 = .ok (.aload_n 0, 1) := by decide +kernel
theorem dX6_spinesLose_43 : decode cX6_spinesLose 43 = .ok (.getfield 71, 3) := by decide +kernel
theorem dX6_spinesLose_46 : decode cX6_spinesLose 46 = .ok (.iconst 4, 1) := by decide +kernel
theorem dX6_spinesLose_47 : decode cX6_spinesLose 47 = .ok (.iload_n 3, 1) := by decide +kernel
theorem dX6_spinesLose_48 : decode cX6_spinesLose 48 = .ok (.imul, 1) := by decide +kernel
theorem dX6_spinesLose_49 : decode cX6_spinesLose 49 = .ok (.iaload, 1) := by decide +kernel
theorem dX6_spinesLose_50 : decode cX6_spinesLose 50 = .ok (.istore 5, 2) := by decide +kernel
theorem dX6_spinesLose_52 : decode cX6_spinesLose 52 = .ok (.aload_n 0, 1) := by decide +kernel
theorem dX6_spinesLose_53 : decode cX6_spinesLose 53 = .ok (.getfield 35, 3) := by decide +kernel
theorem dX6_spinesLose_56 : decode cX6_spinesLose 56 = .ok (.iload 5, 2) := by decide +kernel
theorem dX6_spinesLose_58 : decode cX6_spinesLose 58 = .ok (.dup2, 1) := by decide +kernel
theorem dX6_spinesLose_59 : decode cX6_spinesLose 59 = .ok (.iaload, 1) := by decide +kernel
theorem dX6_spinesLose_60 : decode cX6_spinesLose 60 = .ok (.iconst 1, 1) := by decide +kernel
theorem dX6_spinesLose_61 : decode cX6_spinesLose 61 = .ok (.iadd, 1) := by decide +kernel
theorem dX6_spinesLose_62 : decode cX6_spinesLose 62 = .ok (.iastore, 1) := by decide +kernel
theorem dX6_spinesLose_63 : decode cX6_spinesLose 63 = .ok (.aload_n 0, 1) := by decide +kernel
theorem dX6_spinesLose_64 : decode cX6_spinesLose 64 = .ok (.getfield 93, 3) := by decide +kernel
theorem dX6_spinesLose_67 : decode cX6_spinesLose 67 = .ok (.aload_n 0, 1) := by decide +kernel
theorem dX6_spinesLose_68 : decode cX6_spinesLose 68 = .ok (.getfield 20, 3) := by decide +kernel
theorem dX6_spinesLose_71 : decode cX6_spinesLose 71 = .ok (.iload 5, 2) := by decide +kernel
theorem dX6_spinesLose_73 : decode cX6_spinesLose 73 = .ok (.iaload, 1) := by decide +kernel
theorem dX6_spinesLose_74 : decode cX6_spinesLose 74 = .ok (.dup2, 1) := by decide +kernel
theorem dX6_spinesLose_75 : decode cX6_spinesLose 75 = .ok (.iaload, 1) := by decide +kernel
theorem dX6_spinesLose_76 : decode cX6_spinesLose 76 = .ok (.iconst 1, 1) := by decide +kernel
theorem dX6_spinesLose_77 : decode cX6_spinesLose 77 = .ok (.isub, 1) := by decide +kernel
theorem dX6_spinesLose_78 : decode cX6_spinesLose 78 = .ok (.iastore, 1) := by decide +kernel
theorem dX6_spinesLose_79 : decode cX6_spinesLose 79 = .ok (.aload_n 0, 1) := by decide +kernel
theorem dX6_spinesLose_80 : decode cX6_spinesLose 80 = .ok (.iload_n 3, 1) := by decide +kernel
theorem dX6_spinesLose_81 : decode cX6_spinesLose 81 = .ok (.invokevirtual 152, 3) := by decide +kernel
theorem dX6_spinesLose_84 : decode cX6_spinesLose 84 = .ok (.iinc 2 1, 3) := by decide +kernel
theorem dX6_spinesLose_87 : decode cX6_spinesLose 87 = .ok (.goto (-78), 3) := by decide +kernel
theorem dX6_spinesLose_90 : decode cX6_spinesLose 90 = .ok (.iinc 1 1, 3) := by decide +kernel
theorem dX6_spinesLose_93 : decode cX6_spinesLose 93 = .ok (.goto (-91), 3) := by decide +kernel
theorem dX6_spinesLose_96 : decode cX6_spinesLose 96 = .ok (.return_, 1) := by decide +kernel
set_option maxRecDepth 20000 in
theorem ggX6_leavesChoose_X6_isFar : GoodIn wsX6_leavesChoose wsX6_isFar := goodIn_r _ [9, 10, 11, 35, 36, 37, 38, 39, 40, 41, 42, 43, 44, 45, 46, 47, 48, 49, 50, 51, 52, 53, 54, 55, 56, 57, 58, 59, 60, 61, 62, 63, 64, 65, 66, 67, 68, 69, 70] (by decide +kernel) (by decide +kernel)
set_option maxRecDepth 20000 in
theorem gX6_leavesChoose_X6_isFar : GoodIn wsX6_leavesChoose (wsV RX6 162 RX6 yX6_isFar wsX6_isFar) := goodIn_app (goodIn_of _ (by decide +kernel)) ggX6_leavesChoose_X6_isFar
set_option maxRecDepth 20000 in
theorem ggX6_leavesChoose_X6_wanted : GoodIn wsX6_leavesChoose wsX6_wanted := goodIn_r _ [15, 1, 4, 16, 17, 18, 8, 19, 11, 2, 20, 21, 22, 23, 24, 25, 26, 27, 28, 29, 30, 35, 36, 37, 38, 39, 40, 41, 42, 43, 44, 45, 46, 47, 48, 49, 50, 51, 52, 53, 54, 55, 56, 57, 58, 59, 60, 61, 62, 63, 64, 65, 66, 67, 68, 69, 70] (by decide +kernel) (by decide +kernel)
set_option maxRecDepth 20000 in
theorem gX6_leavesChoose_X6_wanted : GoodIn wsX6_leavesChoose (wsV RX6 156 RX6 yX6_wanted wsX6_wanted) := goodIn_app (goodIn_of _ (by decide +kernel)) ggX6_leavesChoose_X6_wanted
set_option maxRecDepth 20000 in
theorem ggX6_leavesChoose_X6_chosen : GoodIn wsX6_leavesChoose wsX6_chosen := goodIn_r _ [34, 10, 11, 23, 24, 25, 8, 26, 27, 35, 36, 37, 38, 39, 40, 41, 42, 43, 44, 45, 46, 47, 48, 49, 50, 51, 52, 53, 54, 55, 56, 57, 58, 59, 60, 61, 62, 63, 64, 65, 66, 67, 68, 69, 70] (by decide +kernel) (by decide +kernel)
set_option maxRecDepth 20000 in
theorem gX6_leavesChoose_X6_chosen : GoodIn wsX6_leavesChoose (wsV RX6 165 RX6 yX6_chosen wsX6_chosen) := goodIn_app (goodIn_of _ (by decide +kernel)) ggX6_leavesChoose_X6_chosen
theorem dX6_leavesChoose_0 : decode cX6_leavesChoose 0 = .ok (.iconst 0, 1) := by decide +kernel
theorem dX6_leavesChoose_1 : decode cX6_leavesChoose 1 = .ok (.istore_n 1, 1) := by decide +kernel
theorem dX6_leavesChoose_2 : decode cX6_leavesChoose 2 = .ok (.iload_n 1, 1) := by decide +kernel
theorem dX6_leavesChoose_3 : decode cX6_leavesChoose 3 = .ok (.bipush 16, 2) := by decide +kernel
theorem dX6_leavesChoose_5 : decode cX6_leavesChoose 5 = .ok (.if_icmp .ge 88, 3) := by decide +kernel
theorem dX6_leavesChoose_8 : decode cX6_leavesChoose 8 = .ok (.aload_n 0, 1) := by decide +kernel
theorem dX6_leavesChoose_9 : decode cX6_leavesChoose 9 = .ok (.getfield 59, 3) := by decide +kernel
theorem dX6_leavesChoose_12 : decode cX6_leavesChoose 12 = .ok (.iload_n 1, 1) := by decide +kernel
theorem dX6_leavesChoose_13 : decode cX6_leavesChoose 13 = .ok (.iaload, 1) := by decide +kernel
theorem dX6_leavesChoose_14 : decode cX6_leavesChoose 14 = .ok (.ifCond .le 73, 3) := by decide +kernel
theorem dX6_leavesChoose_17 : decode cX6_leavesChoose 17 = .ok (.aload_n 0, 1) := by decide +kernel
theorem dX6_leavesChoose_18 : decode cX6_leavesChoose 18 = .ok (.aload_n 0, 1) := by decide +kernel
theorem dX6_leavesChoose_19 : decode cX6_leavesChoose 19 = .ok (.getfield 71, 3) := by decide +kernel
theorem dX6_leavesChoose_22 : decode cX6_leavesChoose 22 = .ok (.iconst 4, 1) := by decide +kernel
theorem dX6_leavesChoose_23 : decode cX6_leavesChoose 23 = .ok (.iload_n 1, 1) := by decide +kernel
theorem dX6_leavesChoose_24 : decode cX6_leavesChoose 24 = .ok (.imul, 1) := by decide +kernel
theorem dX6_leavesChoose_25 : decode cX6_leavesChoose 25 = .ok (.iaload, 1) := by decide +kernel
theorem dX6_leavesChoose_26 : decode cX6_leavesChoose 26 = .ok (.invokevirtual 162, 3) := by decide +kernel
theorem dX6_leavesChoose_29 : decode cX6_leavesChoose 29 = .ok (.ifCond .eq 58, 3) := by decide +kernel
theorem dX6_leavesChoose_32 : decode cX6_leavesChoose 32 = .ok (.aload_n 0, 1) := by decide +kernel
theorem dX6_leavesChoose_33 : decode cX6_leavesChoose 33 = .ok (.iload_n 1, 1) := by decide +kernel
theorem dX6_leavesChoose_34 : decode cX6_leavesChoose 34 = .ok (.invokevirtual 156, 3) := by decide +kernel
theorem dX6_leavesChoose_37 : decode cX6_leavesChoose 37 = .ok (.iconst (-1), 1) := by decide +kernel
theorem dX6_leavesChoose_38 : decode cX6_leavesChoose 38 = .ok (.if_icmp .ne 49, 3) := by decide +kernel
theorem dX6_leavesChoose_41 : decode cX6_leavesChoose 41 = .ok (.aload_n 0, 1) := by decide +kernel
theorem dX6_leavesChoose_42 : decode cX6_leavesChoose 42 = .ok (.aload_n 0, 1) := by decide +kernel
theorem dX6_leavesChoose_43 : decode cX6_leavesChoose 43 = .ok (.getfield 71, 3) := by decide +kernel
theorem dX6_leavesChoose_46 : decode cX6_leavesChoose 46 = .ok (.iconst 4, 1) := by decide +kernel
theorem dX6_leavesChoose_47 : decode cX6_leavesChoose 47 = .ok (.iload_n 1, 1) := by decide +kernel
theorem dX6_leavesChoose_48 : decode cX6_leavesChoose 48 = .ok (.imul, 1) := by decide +kernel
theorem dX6_leavesChoose_49 : decode cX6_leavesChoose 49 = .ok (.iaload, 1) := by decide +kernel
theorem dX6_leavesChoose_50 : decode cX6_leavesChoose 50 = .ok (.aload_n 0, 1) := by decide +kernel
theorem dX6_leavesChoose_51 : decode cX6_leavesChoose 51 = .ok (.getfield 80, 3) := by decide +kernel
theorem dX6_leavesChoose_54 : decode cX6_leavesChoose 54 = .ok (.iconst 4, 1) := by decide +kernel
theorem dX6_leavesChoose_55 : decode cX6_leavesChoose 55 = .ok (.iload_n 1, 1) := by decide +kernel
theorem dX6_leavesChoose_56 : decode cX6_leavesChoose 56 = .ok (.imul, 1) := by decide +kernel
theorem dX6_leavesChoose_57 : decode cX6_leavesChoose 57 = .ok (.iaload, 1) := by decide +kernel
theorem dX6_leavesChoose_58 : decode cX6_leavesChoose 58 = .ok (.invokevirtual 165, 3) := by decide +kernel
theorem dX6_leavesChoose_61 : decode cX6_leavesChoose 61 = .ok (.istore_n 2, 1) := by decide +kernel
theorem dX6_leavesChoose_62 : decode cX6_leavesChoose 62 = .ok (.aload_n 0, 1) := by decide +kernel
theorem dX6_leavesChoose_63 : decode cX6_leavesChoose 63 = .ok (.getfield 77, 3) := by decide +kernel
theorem dX6_leavesChoose_66 : decode cX6_leavesChoose 66 = .ok (.iconst 4, 1) := by decide +kernel
theorem dX6_leavesChoose_67 : decode cX6_leavesChoose 67 = .ok (.iload_n 1, 1) := by decide +kernel
theorem dX6_leavesChoose_68 : decode cX6_leavesChoose 68 = .ok (.imul, 1) := by decide +kernel
theorem dX6_leavesChoose_69 : decode cX6_leavesChoose 69 = .ok (.iload_n 2, 1) := by decide +kernel
theorem dX6_leavesChoose_70 : decode cX6_leavesChoose 70 = .ok (.iconst (-1), 1) := by decide +kernel
theorem dX6_leavesChoose_71 : decode cX6_leavesChoose 71 = .ok (.if_icmp .ne 14, 3) := by decide +kernel
theorem dX6_leavesChoose_74 : decode cX6_leavesChoose 74 = .ok (.aload_n 0, 1) := by decide +kernel
theorem dX6_leavesChoose_75 : decode cX6_leavesChoose 75 = .ok (.getfield 77, 3) := by decide +kernel
theorem dX6_leavesChoose_78 : decode cX6_leavesChoose 78 = .ok (.iconst 4, 1) := by decide +kernel
theorem dX6_leavesChoose_79 : decode cX6_leavesChoose 79 = .ok (.iload_n 1, 1) := by decide +kernel
theorem dX6_leavesChoose_80 : decode cX6_leavesChoose 80 = .ok (.imul, 1) := by decide +kernel
theorem dX6_leavesChoose_81 : decode cX6_leavesChoose 81 = .ok (.iaload, 1) := by decide +kernel
theorem dX6_leavesChoose_82 : decode cX6_leavesChoose 82 = .ok (.goto 4, 3) := by decide +kernel
theorem dX6_leavesChoose_85 : decode cX6_leavesChoose 85 = .ok (.iload_n 2, 1) := by decide +kernel
theorem dX6_leavesChoose_86 : decode cX6_leavesChoose 86 = .ok (.iastore, 1) := by decide +kernel
theorem dX6_leavesChoose_87 : decode cX6_leavesChoose 87 = .ok (.iinc 1 1, 3) := by decide +kernel
theorem dX6_leavesChoose_90 : decode cX6_leavesChoose 90 = .ok (.goto (-88), 3) := by decide +kernel
theorem dX6_leavesChoose_93 : decode cX6_leavesChoose 93 = .ok (.return_, 1) := by decide +kernel
set_option maxRecDepth 20000 in
theorem ggX6_linksPick_X6_queueAt : GoodIn wsX6_linksPick wsX6_queueAt := goodIn_r _ [7, 8, 9, 6, 10, 11, 12, 13] (by decide +kernel) (by decide +kernel)
set_option maxRecDepth 20000 in
theorem gX6_linksPick_X6_queueAt : GoodIn wsX6_linksPick (va_wsS RX6 168 yX6_queueAt wsX6_queueAt) := goodIn_app (goodIn_of _ (by decide +kernel)) ggX6_linksPick_X6_queueAt
set_option maxRecDepth 20000 in
theorem ggX6_linksPick_X6_wanted : GoodIn wsX6_linksPick wsX6_wanted := goodIn_r _ [17, 18, 19, 20, 21, 22, 6, 23, 24, 25, 11, 12, 13, 26, 27, 28, 29, 30, 8, 9, 10, 35, 36, 37, 38, 39, 40, 41, 42, 43, 44, 45, 46, 47, 48, 49, 50, 51, 52, 53, 54, 55, 56, 57, 58, 59, 60, 61, 62, 63, 64, 65, 66, 67, 68, 69, 70] (by decide +kernel) (by decide +kernel)
set_option maxRecDepth 20000 in
theorem gX6_linksPick_X6_wanted : GoodIn wsX6_linksPick (wsV RX6 156 RX6 yX6_wanted wsX6_wanted) := goodIn_app (goodIn_of _ (by decide +kernel)) ggX6_linksPick_X6_wanted
set_option maxRecDepth 20000 in
theorem ggX6_linksPick_X6_isShut : GoodIn wsX6_linksPick wsX6_isShut := goodIn_r _ [34, 30, 35, 36, 37, 38, 39, 40, 41, 42, 43, 44, 45, 46, 47, 48, 49, 50, 51, 52, 53, 54, 55, 56, 57, 58, 59, 60, 61, 62, 63, 64, 65, 66, 67, 68, 69, 70] (by decide +kernel) (by decide +kernel)
set_option maxRecDepth 20000 in
theorem gX6_linksPick_X6_isShut : GoodIn wsX6_linksPick (wsV RX6 159 RX6 yX6_isShut wsX6_isShut) := goodIn_app (goodIn_of _ (by decide +kernel)) ggX6_linksPick_X6_isShut
theorem dX6_linksPick_0 : decode cX6_linksPick 0 = .ok (.bipush 16, 2) := by decide +kernel
theorem dX6_linksPick_2 : decode cX6_linksPick 2 = .ok (.istore_n 1, 1) := by decide +kernel
theorem dX6_linksPick_3 : decode cX6_linksPick 3 = .ok (.iload_n 1, 1) := by decide +kernel
theorem dX6_linksPick_4 : decode cX6_linksPick 4 = .ok (.bipush 64, 2) := by decide +kernel
theorem dX6_linksPick_6 : decode cX6_linksPick 6 = .ok (.if_icmp .ge 178, 3) := by decide +kernel
theorem dX6_linksPick_9 : decode cX6_linksPick 9 = .ok (.iload_n 1, 1) := by decide +kernel
theorem dX6_linksPick_10 : decode cX6_linksPick 10 = .ok (.bipush 48, 2) := by decide +kernel
theorem dX6_linksPick_12 : decode cX6_linksPick 12 = .ok (.if_icmp .lt 7, 3) := by decide +kernel
theorem dX6_linksPick_15 : decode cX6_linksPick 15 = .ok (.iconst 4, 1) := by decide +kernel
theorem dX6_linksPick_16 : decode cX6_linksPick 16 = .ok (.goto 5, 3) := by decide +kernel
theorem dX6_linksPick_19 : decode cX6_linksPick 19 = .ok (.bipush 8, 2) := by decide +kernel
theorem dX6_linksPick_21 : decode cX6_linksPick 21 = .ok (.istore_n 2, 1) := by decide +kernel
theorem dX6_linksPick_22 : decode cX6_linksPick 22 = .ok (.iconst (-1), 1) := by decide +kernel
theorem dX6_linksPick_23 : decode cX6_linksPick 23 = .ok (.istore_n 3, 1) := by decide +kernel
theorem dX6_linksPick_24 : decode cX6_linksPick 24 = .ok (.iload_n 2, 1) := by decide +kernel
theorem dX6_linksPick_25 : decode cX6_linksPick 25 = .ok (.istore 4, 2) := by decide +kernel
theorem dX6_linksPick_27 : decode cX6_linksPick 27 = .ok (.iload 4, 2) := by decide +kernel
theorem dX6_linksPick_29 : decode cX6_linksPick 29 = .ok (.ifCond .le 60, 3) := by decide +kernel
theorem dX6_linksPick_32 : decode cX6_linksPick 32 = .ok (.aload_n 0, 1) := by decide +kernel
theorem dX6_linksPick_33 : decode cX6_linksPick 33 = .ok (.getfield 62, 3) := by decide +kernel
theorem dX6_linksPick_36 : decode cX6_linksPick 36 = .ok (.iload_n 1, 1) := by decide +kernel
theorem dX6_linksPick_37 : decode cX6_linksPick 37 = .ok (.iaload, 1) := by decide +kernel
theorem dX6_linksPick_38 : decode cX6_linksPick 38 = .ok (.iconst (-1), 1) := by decide +kernel
theorem dX6_linksPick_39 : decode cX6_linksPick 39 = .ok (.if_icmp .ne 10, 3) := by decide +kernel
theorem dX6_linksPick_42 : decode cX6_linksPick 42 = .ok (.iload 4, 2) := by decide +kernel
theorem dX6_linksPick_44 : decode cX6_linksPick 44 = .ok (.iconst 1, 1) := by decide +kernel
theorem dX6_linksPick_45 : decode cX6_linksPick 45 = .ok (.isub, 1) := by decide +kernel
theorem dX6_linksPick_46 : decode cX6_linksPick 46 = .ok (.goto 14, 3) := by decide +kernel
theorem dX6_linksPick_49 : decode cX6_linksPick 49 = .ok (.aload_n 0, 1) := by decide +kernel
theorem dX6_linksPick_50 : decode cX6_linksPick 50 = .ok (.getfield 62, 3) := by decide +kernel
theorem dX6_linksPick_53 : decode cX6_linksPick 53 = .ok (.iload_n 1, 1) := by decide +kernel
theorem dX6_linksPick_54 : decode cX6_linksPick 54 = .ok (.iaload, 1) := by decide +kernel
theorem dX6_linksPick_55 : decode cX6_linksPick 55 = .ok (.iload 4, 2) := by decide +kernel
theorem dX6_linksPick_57 : decode cX6_linksPick 57 = .ok (.iadd, 1) := by decide +kernel
theorem dX6_linksPick_58 : decode cX6_linksPick 58 = .ok (.iload_n 2, 1) := by decide +kernel
theorem dX6_linksPick_59 : decode cX6_linksPick 59 = .ok (.irem, 1) := by decide +kernel
theorem dX6_linksPick_60 : decode cX6_linksPick 60 = .ok (.istore 5, 2) := by decide +kernel
theorem dX6_linksPick_62 : decode cX6_linksPick 62 = .ok (.aload_n 0, 1) := by decide +kernel
theorem dX6_linksPick_63 : decode cX6_linksPick 63 = .ok (.iload_n 1, 1) := by decide +kernel
theorem dX6_linksPick_64 : decode cX6_linksPick 64 = .ok (.iload 5, 2) := by decide +kernel
theorem dX6_linksPick_66 : decode cX6_linksPick 66 = .ok (.invokestatic 168, 3) := by decide +kernel
theorem dX6_linksPick_69 : decode cX6_linksPick 69 = .ok (.invokevirtual 156, 3) := by decide +kernel
theorem dX6_linksPick_72 : decode cX6_linksPick 72 = .ok (.iload_n 1, 1) := by decide +kernel
theorem dX6_linksPick_73 : decode cX6_linksPick 73 = .ok (.if_icmp .ne 8, 3) := by decide +kernel
theorem dX6_linksPick_76 : decode cX6_linksPick 76 = .ok (.iload 5, 2) := by decide +kernel
theorem dX6_linksPick_78 : decode cX6_linksPick 78 = .ok (.goto 4, 3) := by decide +kernel
theorem dX6_linksPick_81 : decode cX6_linksPick 81 = .ok (.iload_n 3, 1) := by decide +kernel
theorem dX6_linksPick_82 : decode cX6_linksPick 82 = .ok (.istore_n 3, 1) := by decide +kernel
theorem dX6_linksPick_83 : decode cX6_linksPick 83 = .ok (.iinc 4 (-1), 3) := by decide +kernel
theorem dX6_linksPick_86 : decode cX6_linksPick 86 = .ok (.goto (-59), 3) := by decide +kernel
theorem dX6_linksPick_89 : decode cX6_linksPick 89 = .ok (.iload_n 3, 1) := by decide +kernel
theorem dX6_linksPick_90 : decode cX6_linksPick 90 = .ok (.iconst (-1), 1) := by decide +kernel
theorem dX6_linksPick_91 : decode cX6_linksPick 91 = .ok (.if_icmp .eq 24, 3) := by decide +kernel
theorem dX6_linksPick_94 : decode cX6_linksPick 94 = .ok (.aload_n 0, 1) := by decide +kernel
theorem dX6_linksPick_95 : decode cX6_linksPick 95 = .ok (.getfield 56, 3) := by decide +kernel
theorem dX6_linksPick_98 : decode cX6_linksPick 98 = .ok (.iload_n 1, 1) := by decide +kernel
theorem dX6_linksPick_99 : decode cX6_linksPick 99 = .ok (.iaload, 1) := by decide +kernel
theorem dX6_linksPick_100 : decode cX6_linksPick 100 = .ok (.ifCond .le 15, 3) := by decide +kernel
theorem dX6_linksPick_103 : decode cX6_linksPick 103 = .ok (.aload_n 0, 1) := by decide +kernel
theorem dX6_linksPick_104 : decode cX6_linksPick 104 = .ok (.iload_n 1, 1) := by decide +kernel
theorem dX6_linksPick_105 : decode cX6_linksPick 105 = .ok (.invokevirtual 159, 3) := by decide +kernel
theorem dX6_linksPick_108 : decode cX6_linksPick 108 = .ok (.ifCond .ne 7, 3) := by decide +kernel
theorem dX6_linksPick_111 : decode cX6_linksPick 111 = .ok (.iconst 1, 1) := by decide +kernel
theorem dX6_linksPick_112 : decode cX6_linksPick 112 = .ok (.goto 4, 3) := by decide +kernel
theorem dX6_linksPick_115 : decode cX6_linksPick 115 = .ok (.iconst 0, 1) := by decide +kernel
theorem dX6_linksPick_116 : decode cX6_linksPick 116 = .ok (.istore 4, 2) := by decide +kernel
theorem dX6_linksPick_118 : decode cX6_linksPick 118 = .ok (.aload_n 0, 1) := by decide +kernel
theorem dX6_linksPick_119 : decode cX6_linksPick 119 = .ok (.getfield 65, 3) := by decide +kernel
theorem dX6_linksPick_122 : decode cX6_linksPick 122 = .ok (.iload_n 1, 1) := by decide +kernel
theorem dX6_linksPick_123 : decode cX6_linksPick 123 = .ok (.iload 4, 2) := by decide +kernel
theorem dX6_linksPick_125 : decode cX6_linksPick 125 = .ok (.ifCond .eq 11, 3) := by decide +kernel
theorem dX6_linksPick_128 : decode cX6_linksPick 128 = .ok (.iload_n 1, 1) := by decide +kernel
theorem dX6_linksPick_129 : decode cX6_linksPick 129 = .ok (.iload_n 3, 1) := by decide +kernel
theorem dX6_linksPick_130 : decode cX6_linksPick 130 = .ok (.invokestatic 168, 3) := by decide +kernel
theorem dX6_linksPick_133 : decode cX6_linksPick 133 = .ok (.goto 4, 3) := by decide +kernel
theorem dX6_linksPick_136 : decode cX6_linksPick 136 = .ok (.iconst (-1), 1) := by decide +kernel
theorem dX6_linksPick_137 : decode cX6_linksPick 137 = .ok (.iastore, 1) := by decide +kernel
theorem dX6_linksPick_138 : decode cX6_linksPick 138 = .ok (.aload_n 0, 1) := by decide +kernel
theorem dX6_linksPick_139 : decode cX6_linksPick 139 = .ok (.getfield 62, 3) := by decide +kernel
theorem dX6_linksPick_142 : decode cX6_linksPick 142 = .ok (.iload_n 1, 1) := by decide +kernel
theorem dX6_linksPick_143 : decode cX6_linksPick 143 = .ok (.iload 4, 2) := by decide +kernel
theorem dX6_linksPick_145 : decode cX6_linksPick 145 = .ok (.ifCond .eq 7, 3) := by decide +kernel
theorem dX6_linksPick_148 : decode cX6_linksPick 148 = .ok (.iload_n 3, 1) := by decide +kernel
theorem dX6_linksPick_149 : decode cX6_linksPick 149 = .ok (.goto 9, 3) := by decide +kernel
theorem dX6_linksPick_152 : decode cX6_linksPick 152 = .ok (.aload_n 0, 1) := by decide +kernel
theorem dX6_linksPick_153 : decode cX6_linksPick 153 = .ok (.getfield 62, 3) := by decide +kernel
theorem dX6_linksPick_156 : decode cX6_linksPick 156 = .ok (.iload_n 1, 1) := by decide +kernel
theorem dX6_linksPick_157 : decode cX6_linksPick 157 = .ok (.iaload, 1) := by decide +kernel
theorem dX6_linksPick_158 : decode cX6_linksPick 158 = .ok (.iastore, 1) := by decide +kernel
theorem dX6_linksPick_159 : decode cX6_linksPick 159 = .ok (.aload_n 0, 1) := by decide +kernel
theorem dX6_linksPick_160 : decode cX6_linksPick 160 = .ok (.getfield 56, 3) := by decide +kernel
theorem dX6_linksPick_163 : decode cX6_linksPick 163 = .ok (.iload_n 1, 1) := by decide +kernel
theorem dX6_linksPick_164 : decode cX6_linksPick 164 = .ok (.dup2, 1) := by decide +kernel
theorem dX6_linksPick_165 : decode cX6_linksPick 165 = .ok (.iaload, 1) := by decide +kernel
theorem dX6_linksPick_166 : decode cX6_linksPick 166 = .ok (.iload 4, 2) := by decide +kernel
theorem dX6_linksPick_168 : decode cX6_linksPick 168 = .ok (.ifCond .eq 7, 3) := by decide +kernel
theorem dX6_linksPick_171 : decode cX6_linksPick 171 = .ok (.iconst 1, 1) := by decide +kernel
theorem dX6_linksPick_172 : decode cX6_linksPick 172 = .ok (.goto 4, 3) := by decide +kernel
theorem dX6_linksPick_175 : decode cX6_linksPick 175 = .ok (.iconst 0, 1) := by decide +kernel
theorem dX6_linksPick_176 : decode cX6_linksPick 176 = .ok (.isub, 1) := by decide +kernel
theorem dX6_linksPick_177 : decode cX6_linksPick 177 = .ok (.iastore, 1) := by decide +kernel
theorem dX6_linksPick_178 : decode cX6_linksPick 178 = .ok (.iinc 1 1, 3) := by decide +kernel
theorem dX6_linksPick_181 : decode cX6_linksPick 181 = .ok (.goto (-178), 3) := by decide +kernel
theorem dX6_linksPick_184 : decode cX6_linksPick 184 = .ok (.return_, 1) := by decide +kernel
set_option maxRecDepth 20000 in
theorem ggX6_maySend_X6_isFar : GoodIn wsX6_maySend wsX6_isFar := goodIn_r _ [14, 1, 7, 24, 25, 26, 27, 28, 29, 30, 31, 32, 33, 34, 35, 36, 37, 38, 39, 40, 41, 42, 43, 44, 45, 46, 47, 48, 49, 50, 51, 52, 53, 54, 55, 56, 57, 58, 59] (by decide +kernel) (by decide +kernel)
set_option maxRecDepth 20000 in
theorem gX6_maySend_X6_isFar : GoodIn wsX6_maySend (wsV RX6 162 RX6 yX6_isFar wsX6_isFar) := goodIn_app (goodIn_of _ (by decide +kernel)) ggX6_maySend_X6_isFar
set_option maxRecDepth 20000 in
theorem ggX6_maySend_X6_usableSet : GoodIn wsX6_maySend wsX6_usableSet := goodIn_r _ [18, 19, 20, 21, 13, 22, 23, 24, 25, 26, 27, 28, 29, 30, 31, 32, 33, 34, 35, 36, 37, 38, 39, 40, 41, 42, 43, 44, 45, 46, 47, 48, 49, 50, 51, 52, 53, 54, 55, 56, 57, 58, 59] (by decide +kernel) (by decide +kernel)
set_option maxRecDepth 20000 in
theorem gX6_maySend_X6_usableSet : GoodIn wsX6_maySend (wsV RX6 171 RX6 yX6_usableSet wsX6_usableSet) := goodIn_app (goodIn_of _ (by decide +kernel)) ggX6_maySend_X6_usableSet
theorem dX6_maySend_0 : decode cX6_maySend 0 = .ok (.aload_n 0, 1) := by decide +kernel
theorem dX6_maySend_1 : decode cX6_maySend 1 = .ok (.getfield 16, 3) := by decide +kernel
theorem dX6_maySend_4 : decode cX6_maySend 4 = .ok (.iload_n 1, 1) := by decide +kernel
theorem dX6_maySend_5 : decode cX6_maySend 5 = .ok (.iaload, 1) := by decide +kernel
theorem dX6_maySend_6 : decode cX6_maySend 6 = .ok (.iload_n 2, 1) := by decide +kernel
theorem dX6_maySend_7 : decode cX6_maySend 7 = .ok (.if_icmp .ne 42, 3) := by decide +kernel
theorem dX6_maySend_10 : decode cX6_maySend 10 = .ok (.aload_n 0, 1) := by decide +kernel
theorem dX6_maySend_11 : decode cX6_maySend 11 = .ok (.getfield 26, 3) := by decide +kernel
theorem dX6_maySend_14 : decode cX6_maySend 14 = .ok (.iload_n 1, 1) := by decide +kernel
theorem dX6_maySend_15 : decode cX6_maySend 15 = .ok (.iaload, 1) := by decide +kernel
theorem dX6_maySend_16 : decode cX6_maySend 16 = .ok (.aload_n 0, 1) := by decide +kernel
theorem dX6_maySend_17 : decode cX6_maySend 17 = .ok (.getfield 121, 3) := by decide +kernel
theorem dX6_maySend_20 : decode cX6_maySend 20 = .ok (.if_icmp .gt 29, 3) := by decide +kernel
theorem dX6_maySend_23 : decode cX6_maySend 23 = .ok (.aload_n 0, 1) := by decide +kernel
theorem dX6_maySend_24 : decode cX6_maySend 24 = .ok (.getfield 29, 3) := by decide +kernel
theorem dX6_maySend_27 : decode cX6_maySend 27 = .ok (.iload_n 1, 1) := by decide +kernel
theorem dX6_maySend_28 : decode cX6_maySend 28 = .ok (.iaload, 1) := by decide +kernel
theorem dX6_maySend_29 : decode cX6_maySend 29 = .ok (.aload_n 0, 1) := by decide +kernel
theorem dX6_maySend_30 : decode cX6_maySend 30 = .ok (.getfield 35, 3) := by decide +kernel
theorem dX6_maySend_33 : decode cX6_maySend 33 = .ok (.iload_n 1, 1) := by decide +kernel
theorem dX6_maySend_34 : decode cX6_maySend 34 = .ok (.iaload, 1) := by decide +kernel
theorem dX6_maySend_35 : decode cX6_maySend 35 = .ok (.isub, 1) := by decide +kernel
theorem dX6_maySend_36 : decode cX6_maySend 36 = .ok (.aload_n 0, 1) := by decide +kernel
theorem dX6_maySend_37 : decode cX6_maySend 37 = .ok (.getfield 23, 3) := by decide +kernel
theorem dX6_maySend_40 : decode cX6_maySend 40 = .ok (.iload_n 1, 1) := by decide +kernel
theorem dX6_maySend_41 : decode cX6_maySend 41 = .ok (.iaload, 1) := by decide +kernel
theorem dX6_maySend_42 : decode cX6_maySend 42 = .ok (.if_icmp .ge 7, 3) := by decide +kernel
theorem dX6_maySend_45 : decode cX6_maySend 45 = .ok (.iconst 1, 1) := by decide +kernel
theorem dX6_maySend_46 : decode cX6_maySend 46 = .ok (.goto 4, 3) := by decide +kernel
theorem dX6_maySend_49 : decode cX6_maySend 49 = .ok (.iconst 0, 1) := by decide +kernel
theorem dX6_maySend_50 : decode cX6_maySend 50 = .ok (.istore_n 3, 1) := by decide +kernel
theorem dX6_maySend_51 : decode cX6_maySend 51 = .ok (.aload_n 0, 1) := by decide +kernel
theorem dX6_maySend_52 : decode cX6_maySend 52 = .ok (.iload_n 1, 1) := by decide +kernel
theorem dX6_maySend_53 : decode cX6_maySend 53 = .ok (.invokevirtual 162, 3) := by decide +kernel
theorem dX6_maySend_56 : decode cX6_maySend 56 = .ok (.ifCond .eq 26, 3) := by decide +kernel
theorem dX6_maySend_59 : decode cX6_maySend 59 = .ok (.aload_n 0, 1) := by decide +kernel
theorem dX6_maySend_60 : decode cX6_maySend 60 = .ok (.aload_n 0, 1) := by decide +kernel
theorem dX6_maySend_61 : decode cX6_maySend 61 = .ok (.getfield 16, 3) := by decide +kernel
theorem dX6_maySend_64 : decode cX6_maySend 64 = .ok (.iload_n 1, 1) := by decide +kernel
theorem dX6_maySend_65 : decode cX6_maySend 65 = .ok (.iaload, 1) := by decide +kernel
theorem dX6_maySend_66 : decode cX6_maySend 66 = .ok (.iconst 4, 1) := by decide +kernel
theorem dX6_maySend_67 : decode cX6_maySend 67 = .ok (.idiv, 1) := by decide +kernel
theorem dX6_maySend_68 : decode cX6_maySend 68 = .ok (.aload_n 0, 1) := by decide +kernel
theorem dX6_maySend_69 : decode cX6_maySend 69 = .ok (.getfield 20, 3) := by decide +kernel
theorem dX6_maySend_72 : decode cX6_maySend 72 = .ok (.iload_n 1, 1) := by decide +kernel
theorem dX6_maySend_73 : decode cX6_maySend 73 = .ok (.iaload, 1) := by decide +kernel
theorem dX6_maySend_74 : decode cX6_maySend 74 = .ok (.iconst 4, 1) := by decide +kernel
theorem dX6_maySend_75 : decode cX6_maySend 75 = .ok (.idiv, 1) := by decide +kernel
theorem dX6_maySend_76 : decode cX6_maySend 76 = .ok (.invokevirtual 171, 3) := by decide +kernel
theorem dX6_maySend_79 : decode cX6_maySend 79 = .ok (.ifCond .eq 7, 3) := by decide +kernel
theorem dX6_maySend_82 : decode cX6_maySend 82 = .ok (.iconst 1, 1) := by decide +kernel
theorem dX6_maySend_83 : decode cX6_maySend 83 = .ok (.goto 4, 3) := by decide +kernel
theorem dX6_maySend_86 : decode cX6_maySend 86 = .ok (.iconst 0, 1) := by decide +kernel
theorem dX6_maySend_87 : decode cX6_maySend 87 = .ok (.istore 4, 2) := by decide +kernel
theorem dX6_maySend_89 : decode cX6_maySend 89 = .ok (.iload_n 3, 1) := by decide +kernel
theorem dX6_maySend_90 : decode cX6_maySend 90 = .ok (.ifCond .eq 30, 3) := by decide +kernel
theorem dX6_maySend_93 : decode cX6_maySend 93 = .ok (.iload 4, 2) := by decide +kernel
theorem dX6_maySend_95 : decode cX6_maySend 95 = .ok (.ifCond .eq 25, 3) := by decide +kernel
theorem dX6_maySend_98 : decode cX6_maySend 98 = .ok (.aload_n 0, 1) := by decide +kernel
theorem dX6_maySend_99 : decode cX6_maySend 99 = .ok (.getfield 93, 3) := by decide +kernel
theorem dX6_maySend_102 : decode cX6_maySend 102 = .ok (.aload_n 0, 1) := by decide +kernel
theorem dX6_maySend_103 : decode cX6_maySend 103 = .ok (.getfield 20, 3) := by decide +kernel
theorem dX6_maySend_106 : decode cX6_maySend 106 = .ok (.iload_n 1, 1) := by decide +kernel
theorem dX6_maySend_107 : decode cX6_maySend 107 = .ok (.iaload, 1) := by decide +kernel
theorem dX6_maySend_108 : decode cX6_maySend 108 = .ok (.iaload, 1) := by decide +kernel
theorem dX6_maySend_109 : decode cX6_maySend 109 = .ok (.aload_n 0, 1) := by decide +kernel
theorem dX6_maySend_110 : decode cX6_maySend 110 = .ok (.getfield 13, 3) := by decide +kernel
theorem dX6_maySend_113 : decode cX6_maySend 113 = .ok (.if_icmp .ge 7, 3) := by decide +kernel
theorem dX6_maySend_116 : decode cX6_maySend 116 = .ok (.iconst 1, 1) := by decide +kernel
theorem dX6_maySend_117 : decode cX6_maySend 117 = .ok (.goto 4, 3) := by decide +kernel
theorem dX6_maySend_120 : decode cX6_maySend 120 = .ok (.iconst 0, 1) := by decide +kernel
theorem dX6_maySend_121 : decode cX6_maySend 121 = .ok (.ireturn, 1) := by decide +kernel
set_option maxRecDepth 20000 in
theorem ggX6_hostsPick_X6_maySend : GoodIn wsX6_hostsPick wsX6_maySend := goodIn_r _ [11, 12, 13, 14, 15, 16, 17, 6, 5, 18, 19, 20, 21, 10, 22, 23, 24, 25, 26, 27, 28, 29, 30, 31, 32, 33, 34, 35, 36, 37, 38, 39, 40, 41, 42, 43, 44, 45, 46, 47, 48, 49, 50, 51, 52, 53, 54, 55, 56, 57, 58, 59, 60, 61, 62, 63, 64, 65, 66, 67] (by decide +kernel) (by decide +kernel)
set_option maxRecDepth 20000 in
theorem gX6_hostsPick_X6_maySend : GoodIn wsX6_hostsPick (wsV RX6 174 RX6 yX6_maySend wsX6_maySend) := goodIn_app (goodIn_of _ (by decide +kernel)) ggX6_hostsPick_X6_maySend
theorem dX6_hostsPick_0 : decode cX6_hostsPick 0 = .ok (.iconst 0, 1) := by decide +kernel
theorem dX6_hostsPick_1 : decode cX6_hostsPick 1 = .ok (.istore_n 1, 1) := by decide +kernel
theorem dX6_hostsPick_2 : decode cX6_hostsPick 2 = .ok (.iload_n 1, 1) := by decide +kernel
theorem dX6_hostsPick_3 : decode cX6_hostsPick 3 = .ok (.bipush 16, 2) := by decide +kernel
theorem dX6_hostsPick_5 : decode cX6_hostsPick 5 = .ok (.if_icmp .ge 147, 3) := by decide +kernel
theorem dX6_hostsPick_8 : decode cX6_hostsPick 8 = .ok (.aload_n 0, 1) := by decide +kernel
theorem dX6_hostsPick_9 : decode cX6_hostsPick 9 = .ok (.getfield 90, 3) := by decide +kernel
theorem dX6_hostsPick_12 : decode cX6_hostsPick 12 = .ok (.iload_n 1, 1) := by decide +kernel
theorem dX6_hostsPick_13 : decode cX6_hostsPick 13 = .ok (.iconst (-1), 1) := by decide +kernel
theorem dX6_hostsPick_14 : decode cX6_hostsPick 14 = .ok (.iastore, 1) := by decide +kernel
theorem dX6_hostsPick_15 : decode cX6_hostsPick 15 = .ok (.aload_n 0, 1) := by decide +kernel
theorem dX6_hostsPick_16 : decode cX6_hostsPick 16 = .ok (.getfield 118, 3) := by decide +kernel
theorem dX6_hostsPick_19 : decode cX6_hostsPick 19 = .ok (.istore_n 2, 1) := by decide +kernel
theorem dX6_hostsPick_20 : decode cX6_hostsPick 20 = .ok (.iload_n 2, 1) := by decide +kernel
theorem dX6_hostsPick_21 : decode cX6_hostsPick 21 = .ok (.ifCond .le 73, 3) := by decide +kernel
theorem dX6_hostsPick_24 : decode cX6_hostsPick 24 = .ok (.aload_n 0, 1) := by decide +kernel
theorem dX6_hostsPick_25 : decode cX6_hostsPick 25 = .ok (.getfield 56, 3) := by decide +kernel
theorem dX6_hostsPick_28 : decode cX6_hostsPick 28 = .ok (.iload_n 1, 1) := by decide +kernel
theorem dX6_hostsPick_29 : decode cX6_hostsPick 29 = .ok (.iaload, 1) := by decide +kernel
theorem dX6_hostsPick_30 : decode cX6_hostsPick 30 = .ok (.ifCond .le 64, 3) := by decide +kernel
theorem dX6_hostsPick_33 : decode cX6_hostsPick 33 = .ok (.aload_n 0, 1) := by decide +kernel
theorem dX6_hostsPick_34 : decode cX6_hostsPick 34 = .ok (.getfield 87, 3) := by decide +kernel
theorem dX6_hostsPick_37 : decode cX6_hostsPick 37 = .ok (.iload_n 1, 1) := by decide +kernel
theorem dX6_hostsPick_38 : decode cX6_hostsPick 38 = .ok (.iaload, 1) := by decide +kernel
theorem dX6_hostsPick_39 : decode cX6_hostsPick 39 = .ok (.iconst (-1), 1) := by decide +kernel
theorem dX6_hostsPick_40 : decode cX6_hostsPick 40 = .ok (.if_icmp .ne 9, 3) := by decide +kernel
theorem dX6_hostsPick_43 : decode cX6_hostsPick 43 = .ok (.iload_n 2, 1) := by decide +kernel
theorem dX6_hostsPick_44 : decode cX6_hostsPick 44 = .ok (.iconst 1, 1) := by decide +kernel
theorem dX6_hostsPick_45 : decode cX6_hostsPick 45 = .ok (.isub, 1) := by decide +kernel
theorem dX6_hostsPick_46 : decode cX6_hostsPick 46 = .ok (.goto 16, 3) := by decide +kernel
theorem dX6_hostsPick_49 : decode cX6_hostsPick 49 = .ok (.aload_n 0, 1) := by decide +kernel
theorem dX6_hostsPick_50 : decode cX6_hostsPick 50 = .ok (.getfield 87, 3) := by decide +kernel
theorem dX6_hostsPick_53 : decode cX6_hostsPick 53 = .ok (.iload_n 1, 1) := by decide +kernel
theorem dX6_hostsPick_54 : decode cX6_hostsPick 54 = .ok (.iaload, 1) := by decide +kernel
theorem dX6_hostsPick_55 : decode cX6_hostsPick 55 = .ok (.iload_n 2, 1) := by decide +kernel
theorem dX6_hostsPick_56 : decode cX6_hostsPick 56 = .ok (.iadd, 1) := by decide +kernel
theorem dX6_hostsPick_57 : decode cX6_hostsPick 57 = .ok (.aload_n 0, 1) := by decide +kernel
theorem dX6_hostsPick_58 : decode cX6_hostsPick 58 = .ok (.getfield 118, 3) := by decide +kernel
theorem dX6_hostsPick_61 : decode cX6_hostsPick 61 = .ok (.irem, 1) := by decide +kernel
theorem dX6_hostsPick_62 : decode cX6_hostsPick 62 = .ok (.istore_n 3, 1) := by decide +kernel
theorem dX6_hostsPick_63 : decode cX6_hostsPick 63 = .ok (.aload_n 0, 1) := by decide +kernel
theorem dX6_hostsPick_64 : decode cX6_hostsPick 64 = .ok (.getfield 90, 3) := by decide +kernel
theorem dX6_hostsPick_67 : decode cX6_hostsPick 67 = .ok (.iload_n 1, 1) := by decide +kernel
theorem dX6_hostsPick_68 : decode cX6_hostsPick 68 = .ok (.aload_n 0, 1) := by decide +kernel
theorem dX6_hostsPick_69 : decode cX6_hostsPick 69 = .ok (.iload_n 3, 1) := by decide +kernel
theorem dX6_hostsPick_70 : decode cX6_hostsPick 70 = .ok (.iload_n 1, 1) := by decide +kernel
theorem dX6_hostsPick_71 : decode cX6_hostsPick 71 = .ok (.invokevirtual 174, 3) := by decide +kernel
theorem dX6_hostsPick_74 : decode cX6_hostsPick 74 = .ok (.ifCond .eq 7, 3) := by decide +kernel
theorem dX6_hostsPick_77 : decode cX6_hostsPick 77 = .ok (.iload_n 3, 1) := by decide +kernel
theorem dX6_hostsPick_78 : decode cX6_hostsPick 78 = .ok (.goto 9, 3) := by decide +kernel
theorem dX6_hostsPick_81 : decode cX6_hostsPick 81 = .ok (.aload_n 0, 1) := by decide +kernel
theorem dX6_hostsPick_82 : decode cX6_hostsPick 82 = .ok (.getfield 90, 3) := by decide +kernel
theorem dX6_hostsPick_85 : decode cX6_hostsPick 85 = .ok (.iload_n 1, 1) := by decide +kernel
theorem dX6_hostsPick_86 : decode cX6_hostsPick 86 = .ok (.iaload, 1) := by decide +kernel
theorem dX6_hostsPick_87 : decode cX6_hostsPick 87 = .ok (.iastore, 1) := by decide +kernel
theorem dX6_hostsPick_88 : decode cX6_hostsPick 88 = .ok (.iinc 2 (-1), 3) := by decide +kernel
theorem dX6_hostsPick_91 : decode cX6_hostsPick 91 = .ok (.goto (-71), 3) := by decide +kernel
theorem dX6_hostsPick_94 : decode cX6_hostsPick 94 = .ok (.aload_n 0, 1) := by decide +kernel
theorem dX6_hostsPick_95 : decode cX6_hostsPick 95 = .ok (.getfield 90, 3) := by decide +kernel
theorem dX6_hostsPick_98 : decode cX6_hostsPick 98 = .ok (.iload_n 1, 1) := by decide +kernel
theorem dX6_hostsPick_99 : decode cX6_hostsPick 99 = .ok (.iaload, 1) := by decide +kernel
theorem dX6_hostsPick_100 : decode cX6_hostsPick 100 = .ok (.iconst (-1), 1) := by decide +kernel
theorem dX6_hostsPick_101 : decode cX6_hostsPick 101 = .ok (.if_icmp .eq 45, 3) := by decide +kernel
theorem dX6_hostsPick_104 : decode cX6_hostsPick 104 = .ok (.aload_n 0, 1) := by decide +kernel
theorem dX6_hostsPick_105 : decode cX6_hostsPick 105 = .ok (.getfield 87, 3) := by decide +kernel
theorem dX6_hostsPick_108 : decode cX6_hostsPick 108 = .ok (.iload_n 1, 1) := by decide +kernel
theorem dX6_hostsPick_109 : decode cX6_hostsPick 109 = .ok (.aload_n 0, 1) := by decide +kernel
theorem dX6_hostsPick_110 : decode cX6_hostsPick 110 = .ok (.getfield 90, 3) := by decide +kernel
theorem dX6_hostsPick_113 : decode cX6_hostsPick 113 = .ok (.iload_n 1, 1) := by decide +kernel
theorem dX6_hostsPick_114 : decode cX6_hostsPick 114 = .ok (.iaload, 1) := by decide +kernel
theorem dX6_hostsPick_115 : decode cX6_hostsPick 115 = .ok (.iastore, 1) := by decide +kernel
theorem dX6_hostsPick_116 : decode cX6_hostsPick 116 = .ok (.aload_n 0, 1) := by decide +kernel
theorem dX6_hostsPick_117 : decode cX6_hostsPick 117 = .ok (.getfield 56, 3) := by decide +kernel
theorem dX6_hostsPick_120 : decode cX6_hostsPick 120 = .ok (.iload_n 1, 1) := by decide +kernel
theorem dX6_hostsPick_121 : decode cX6_hostsPick 121 = .ok (.dup2, 1) := by decide +kernel
theorem dX6_hostsPick_122 : decode cX6_hostsPick 122 = .ok (.iaload, 1) := by decide +kernel
theorem dX6_hostsPick_123 : decode cX6_hostsPick 123 = .ok (.iconst 1, 1) := by decide +kernel
theorem dX6_hostsPick_124 : decode cX6_hostsPick 124 = .ok (.isub, 1) := by decide +kernel
theorem dX6_hostsPick_125 : decode cX6_hostsPick 125 = .ok (.iastore, 1) := by decide +kernel
theorem dX6_hostsPick_126 : decode cX6_hostsPick 126 = .ok (.aload_n 0, 1) := by decide +kernel
theorem dX6_hostsPick_127 : decode cX6_hostsPick 127 = .ok (.getfield 93, 3) := by decide +kernel
theorem dX6_hostsPick_130 : decode cX6_hostsPick 130 = .ok (.aload_n 0, 1) := by decide +kernel
theorem dX6_hostsPick_131 : decode cX6_hostsPick 131 = .ok (.getfield 20, 3) := by decide +kernel
theorem dX6_hostsPick_134 : decode cX6_hostsPick 134 = .ok (.aload_n 0, 1) := by decide +kernel
theorem dX6_hostsPick_135 : decode cX6_hostsPick 135 = .ok (.getfield 90, 3) := by decide +kernel
theorem dX6_hostsPick_138 : decode cX6_hostsPick 138 = .ok (.iload_n 1, 1) := by decide +kernel
theorem dX6_hostsPick_139 : decode cX6_hostsPick 139 = .ok (.iaload, 1) := by decide +kernel
theorem dX6_hostsPick_140 : decode cX6_hostsPick 140 = .ok (.iaload, 1) := by decide +kernel
theorem dX6_hostsPick_141 : decode cX6_hostsPick 141 = .ok (.dup2, 1) := by decide +kernel
theorem dX6_hostsPick_142 : decode cX6_hostsPick 142 = .ok (.iaload, 1) := by decide +kernel
theorem dX6_hostsPick_143 : decode cX6_hostsPick 143 = .ok (.iconst 1, 1) := by decide +kernel
theorem dX6_hostsPick_144 : decode cX6_hostsPick 144 = .ok (.iadd, 1) := by decide +kernel
theorem dX6_hostsPick_145 : decode cX6_hostsPick 145 = .ok (.iastore, 1) := by decide +kernel
theorem dX6_hostsPick_146 : decode cX6_hostsPick 146 = .ok (.iinc 1 1, 3) := by decide +kernel
theorem dX6_hostsPick_149 : decode cX6_hostsPick 149 = .ok (.goto (-147), 3) := by decide +kernel
theorem dX6_hostsPick_152 : decode cX6_hostsPick 152 = .ok (.return_, 1) := by decide +kernel
theorem dX6_takesAlong_0 : decode cX6_takesAlong 0 = .ok (.iconst 4, 1) := by decide +kernel
theorem dX6_takesAlong_1 : decode cX6_takesAlong 1 = .ok (.aload_n 0, 1) := by decide +kernel
theorem dX6_takesAlong_2 : decode cX6_takesAlong 2 = .ok (.getfield 65, 3) := by decide +kernel
theorem dX6_takesAlong_5 : decode cX6_takesAlong 5 = .ok (.iload_n 1, 1) := by decide +kernel
theorem dX6_takesAlong_6 : decode cX6_takesAlong 6 = .ok (.iaload, 1) := by decide +kernel
theorem dX6_takesAlong_7 : decode cX6_takesAlong 7 = .ok (.imul, 1) := by decide +kernel
theorem dX6_takesAlong_8 : decode cX6_takesAlong 8 = .ok (.istore_n 2, 1) := by decide +kernel
theorem dX6_takesAlong_9 : decode cX6_takesAlong 9 = .ok (.aload_n 0, 1) := by decide +kernel
theorem dX6_takesAlong_10 : decode cX6_takesAlong 10 = .ok (.getfield 96, 3) := by decide +kernel
theorem dX6_takesAlong_13 : decode cX6_takesAlong 13 = .ok (.iload_n 1, 1) := by decide +kernel
theorem dX6_takesAlong_14 : decode cX6_takesAlong 14 = .ok (.aload_n 0, 1) := by decide +kernel
theorem dX6_takesAlong_15 : decode cX6_takesAlong 15 = .ok (.getfield 71, 3) := by decide +kernel
theorem dX6_takesAlong_18 : decode cX6_takesAlong 18 = .ok (.iload_n 2, 1) := by decide +kernel
theorem dX6_takesAlong_19 : decode cX6_takesAlong 19 = .ok (.iaload, 1) := by decide +kernel
theorem dX6_takesAlong_20 : decode cX6_takesAlong 20 = .ok (.iastore, 1) := by decide +kernel
theorem dX6_takesAlong_21 : decode cX6_takesAlong 21 = .ok (.aload_n 0, 1) := by decide +kernel
theorem dX6_takesAlong_22 : decode cX6_takesAlong 22 = .ok (.getfield 99, 3) := by decide +kernel
theorem dX6_takesAlong_25 : decode cX6_takesAlong 25 = .ok (.iload_n 1, 1) := by decide +kernel
theorem dX6_takesAlong_26 : decode cX6_takesAlong 26 = .ok (.aload_n 0, 1) := by decide +kernel
theorem dX6_takesAlong_27 : decode cX6_takesAlong 27 = .ok (.getfield 74, 3) := by decide +kernel
theorem dX6_takesAlong_30 : decode cX6_takesAlong 30 = .ok (.iload_n 2, 1) := by decide +kernel
theorem dX6_takesAlong_31 : decode cX6_takesAlong 31 = .ok (.iaload, 1) := by decide +kernel
theorem dX6_takesAlong_32 : decode cX6_takesAlong 32 = .ok (.iastore, 1) := by decide +kernel
theorem dX6_takesAlong_33 : decode cX6_takesAlong 33 = .ok (.aload_n 0, 1) := by decide +kernel
theorem dX6_takesAlong_34 : decode cX6_takesAlong 34 = .ok (.getfield 102, 3) := by decide +kernel
theorem dX6_takesAlong_37 : decode cX6_takesAlong 37 = .ok (.iload_n 1, 1) := by decide +kernel
theorem dX6_takesAlong_38 : decode cX6_takesAlong 38 = .ok (.aload_n 0, 1) := by decide +kernel
theorem dX6_takesAlong_39 : decode cX6_takesAlong 39 = .ok (.getfield 77, 3) := by decide +kernel
theorem dX6_takesAlong_42 : decode cX6_takesAlong 42 = .ok (.iload_n 2, 1) := by decide +kernel
theorem dX6_takesAlong_43 : decode cX6_takesAlong 43 = .ok (.iaload, 1) := by decide +kernel
theorem dX6_takesAlong_44 : decode cX6_takesAlong 44 = .ok (.iastore, 1) := by decide +kernel
theorem dX6_takesAlong_45 : decode cX6_takesAlong 45 = .ok (.aload_n 0, 1) := by decide +kernel
theorem dX6_takesAlong_46 : decode cX6_takesAlong 46 = .ok (.getfield 105, 3) := by decide +kernel
theorem dX6_takesAlong_49 : decode cX6_takesAlong 49 = .ok (.iload_n 1, 1) := by decide +kernel
theorem dX6_takesAlong_50 : decode cX6_takesAlong 50 = .ok (.aload_n 0, 1) := by decide +kernel
theorem dX6_takesAlong_51 : decode cX6_takesAlong 51 = .ok (.getfield 80, 3) := by decide +kernel
theorem dX6_takesAlong_54 : decode cX6_takesAlong 54 = .ok (.iload_n 2, 1) := by decide +kernel
theorem dX6_takesAlong_55 : decode cX6_takesAlong 55 = .ok (.iaload, 1) := by decide +kernel
theorem dX6_takesAlong_56 : decode cX6_takesAlong 56 = .ok (.iastore, 1) := by decide +kernel
theorem dX6_takesAlong_57 : decode cX6_takesAlong 57 = .ok (.return_, 1) := by decide +kernel
set_option maxRecDepth 20000 in
theorem ggX6_makes_X6_isFar : GoodIn wsX6_makes wsX6_isFar := goodIn_r _ [17, 18, 5, 28, 29, 30, 31, 32, 33, 34, 35, 36, 37, 38, 39, 40, 41, 42, 43, 44, 45, 46, 47, 48, 49, 50, 51, 52, 53, 54, 55, 56, 57, 58, 59, 60, 61, 62, 63] (by decide +kernel) (by decide +kernel)
set_option maxRecDepth 20000 in
theorem gX6_makes_X6_isFar : GoodIn wsX6_makes (wsV RX6 162 RX6 yX6_isFar wsX6_isFar) := goodIn_app (goodIn_of _ (by decide +kernel)) ggX6_makes_X6_isFar
set_option maxRecDepth 20000 in
theorem ggX6_makes_X6_isUsable : GoodIn wsX6_makes wsX6_isUsable := goodIn_r _ [22, 23, 28, 29, 30, 31, 32, 33, 34, 35, 36, 37, 38, 39, 40, 41, 42, 43, 44, 45, 46, 47, 48, 49, 50, 51, 52, 53, 54, 55, 56, 57, 58, 59, 60, 61, 62, 63] (by decide +kernel) (by decide +kernel)
set_option maxRecDepth 20000 in
theorem gX6_makes_X6_isUsable : GoodIn wsX6_makes (wsV RX6 145 RX6 yX6_isUsable wsX6_isUsable) := goodIn_app (goodIn_of _ (by decide +kernel)) ggX6_makes_X6_isUsable
set_option maxRecDepth 20000 in
theorem ggX6_makes_X6_chosen : GoodIn wsX6_makes wsX6_chosen := goodIn_r _ [27, 18, 5, 19, 20, 21, 16, 22, 23, 28, 29, 30, 31, 32, 33, 34, 35, 36, 37, 38, 39, 40, 41, 42, 43, 44, 45, 46, 47, 48, 49, 50, 51, 52, 53, 54, 55, 56, 57, 58, 59, 60, 61, 62, 63] (by decide +kernel) (by decide +kernel)
set_option maxRecDepth 20000 in
theorem gX6_makes_X6_chosen : GoodIn wsX6_makes (wsV RX6 165 RX6 yX6_chosen wsX6_chosen) := goodIn_app (goodIn_of _ (by decide +kernel)) ggX6_makes_X6_chosen
theorem dX6_makes_0 : decode cX6_makes 0 = .ok (.aload_n 0, 1) := by decide +kernel
theorem dX6_makes_1 : decode cX6_makes 1 = .ok (.getfield 90, 3) := by decide +kernel
theorem dX6_makes_4 : decode cX6_makes 4 = .ok (.iload_n 1, 1) := by decide +kernel
theorem dX6_makes_5 : decode cX6_makes 5 = .ok (.iaload, 1) := by decide +kernel
theorem dX6_makes_6 : decode cX6_makes 6 = .ok (.istore_n 2, 1) := by decide +kernel
theorem dX6_makes_7 : decode cX6_makes 7 = .ok (.aload_n 0, 1) := by decide +kernel
theorem dX6_makes_8 : decode cX6_makes 8 = .ok (.getfield 53, 3) := by decide +kernel
theorem dX6_makes_11 : decode cX6_makes 11 = .ok (.iload_n 2, 1) := by decide +kernel
theorem dX6_makes_12 : decode cX6_makes 12 = .ok (.iaload, 1) := by decide +kernel
theorem dX6_makes_13 : decode cX6_makes 13 = .ok (.iconst (-1), 1) := by decide +kernel
theorem dX6_makes_14 : decode cX6_makes 14 = .ok (.if_icmp .eq 53, 3) := by decide +kernel
theorem dX6_makes_17 : decode cX6_makes 17 = .ok (.aload_n 0, 1) := by decide +kernel
theorem dX6_makes_18 : decode cX6_makes 18 = .ok (.getfield 121, 3) := by decide +kernel
theorem dX6_makes_21 : decode cX6_makes 21 = .ok (.aload_n 0, 1) := by decide +kernel
theorem dX6_makes_22 : decode cX6_makes 22 = .ok (.getfield 53, 3) := by decide +kernel
theorem dX6_makes_25 : decode cX6_makes 25 = .ok (.iload_n 2, 1) := by decide +kernel
theorem dX6_makes_26 : decode cX6_makes 26 = .ok (.iaload, 1) := by decide +kernel
theorem dX6_makes_27 : decode cX6_makes 27 = .ok (.isub, 1) := by decide +kernel
theorem dX6_makes_28 : decode cX6_makes 28 = .ok (.aload_n 0, 1) := by decide +kernel
theorem dX6_makes_29 : decode cX6_makes 29 = .ok (.getfield 7, 3) := by decide +kernel
theorem dX6_makes_32 : decode cX6_makes 32 = .ok (.if_icmp .gt 35, 3) := by decide +kernel
theorem dX6_makes_35 : decode cX6_makes 35 = .ok (.aload_n 0, 1) := by decide +kernel
theorem dX6_makes_36 : decode cX6_makes 36 = .ok (.iload_n 2, 1) := by decide +kernel
theorem dX6_makes_37 : decode cX6_makes 37 = .ok (.invokevirtual 162, 3) := by decide +kernel
theorem dX6_makes_40 : decode cX6_makes 40 = .ok (.ifCond .eq 31, 3) := by decide +kernel
theorem dX6_makes_43 : decode cX6_makes 43 = .ok (.aload_n 0, 1) := by decide +kernel
theorem dX6_makes_44 : decode cX6_makes 44 = .ok (.iload_n 1, 1) := by decide +kernel
theorem dX6_makes_45 : decode cX6_makes 45 = .ok (.iconst 4, 1) := by decide +kernel
theorem dX6_makes_46 : decode cX6_makes 46 = .ok (.idiv, 1) := by decide +kernel
theorem dX6_makes_47 : decode cX6_makes 47 = .ok (.aload_n 0, 1) := by decide +kernel
theorem dX6_makes_48 : decode cX6_makes 48 = .ok (.getfield 20, 3) := by decide +kernel
theorem dX6_makes_51 : decode cX6_makes 51 = .ok (.iload_n 2, 1) := by decide +kernel
theorem dX6_makes_52 : decode cX6_makes 52 = .ok (.iaload, 1) := by decide +kernel
theorem dX6_makes_53 : decode cX6_makes 53 = .ok (.iconst 4, 1) := by decide +kernel
theorem dX6_makes_54 : decode cX6_makes 54 = .ok (.idiv, 1) := by decide +kernel
theorem dX6_makes_55 : decode cX6_makes 55 = .ok (.aload_n 0, 1) := by decide +kernel
theorem dX6_makes_56 : decode cX6_makes 56 = .ok (.getfield 50, 3) := by decide +kernel
theorem dX6_makes_59 : decode cX6_makes 59 = .ok (.iload_n 2, 1) := by decide +kernel
theorem dX6_makes_60 : decode cX6_makes 60 = .ok (.iaload, 1) := by decide +kernel
theorem dX6_makes_61 : decode cX6_makes 61 = .ok (.invokevirtual 145, 3) := by decide +kernel
theorem dX6_makes_64 : decode cX6_makes 64 = .ok (.ifCond .ne 7, 3) := by decide +kernel
theorem dX6_makes_67 : decode cX6_makes 67 = .ok (.iconst 1, 1) := by decide +kernel
theorem dX6_makes_68 : decode cX6_makes 68 = .ok (.goto 4, 3) := by decide +kernel
theorem dX6_makes_71 : decode cX6_makes 71 = .ok (.iconst 0, 1) := by decide +kernel
theorem dX6_makes_72 : decode cX6_makes 72 = .ok (.istore_n 3, 1) := by decide +kernel
theorem dX6_makes_73 : decode cX6_makes 73 = .ok (.iload_n 3, 1) := by decide +kernel
theorem dX6_makes_74 : decode cX6_makes 74 = .ok (.ifCond .eq 38, 3) := by decide +kernel
theorem dX6_makes_77 : decode cX6_makes 77 = .ok (.aload_n 0, 1) := by decide +kernel
theorem dX6_makes_78 : decode cX6_makes 78 = .ok (.iload_n 2, 1) := by decide +kernel
theorem dX6_makes_79 : decode cX6_makes 79 = .ok (.invokevirtual 162, 3) := by decide +kernel
theorem dX6_makes_82 : decode cX6_makes 82 = .ok (.ifCond .eq 30, 3) := by decide +kernel
theorem dX6_makes_85 : decode cX6_makes 85 = .ok (.aload_n 0, 1) := by decide +kernel
theorem dX6_makes_86 : decode cX6_makes 86 = .ok (.getfield 50, 3) := by decide +kernel
theorem dX6_makes_89 : decode cX6_makes 89 = .ok (.iload_n 2, 1) := by decide +kernel
theorem dX6_makes_90 : decode cX6_makes 90 = .ok (.aload_n 0, 1) := by decide +kernel
theorem dX6_makes_91 : decode cX6_makes 91 = .ok (.iload_n 2, 1) := by decide +kernel
theorem dX6_makes_92 : decode cX6_makes 92 = .ok (.aload_n 0, 1) := by decide +kernel
theorem dX6_makes_93 : decode cX6_makes 93 = .ok (.getfield 47, 3) := by decide +kernel
theorem dX6_makes_96 : decode cX6_makes 96 = .ok (.iload_n 2, 1) := by decide +kernel
theorem dX6_makes_97 : decode cX6_makes 97 = .ok (.iaload, 1) := by decide +kernel
theorem dX6_makes_98 : decode cX6_makes 98 = .ok (.invokevirtual 165, 3) := by decide +kernel
theorem dX6_makes_101 : decode cX6_makes 101 = .ok (.iastore, 1) := by decide +kernel
theorem dX6_makes_102 : decode cX6_makes 102 = .ok (.aload_n 0, 1) := by decide +kernel
theorem dX6_makes_103 : decode cX6_makes 103 = .ok (.getfield 47, 3) := by decide +kernel
theorem dX6_makes_106 : decode cX6_makes 106 = .ok (.iload_n 2, 1) := by decide +kernel
theorem dX6_makes_107 : decode cX6_makes 107 = .ok (.dup2, 1) := by decide +kernel
theorem dX6_makes_108 : decode cX6_makes 108 = .ok (.iaload, 1) := by decide +kernel
theorem dX6_makes_109 : decode cX6_makes 109 = .ok (.iconst 1, 1) := by decide +kernel
theorem dX6_makes_110 : decode cX6_makes 110 = .ok (.iadd, 1) := by decide +kernel
theorem dX6_makes_111 : decode cX6_makes 111 = .ok (.iastore, 1) := by decide +kernel
theorem dX6_makes_112 : decode cX6_makes 112 = .ok (.aload_n 0, 1) := by decide +kernel
theorem dX6_makes_113 : decode cX6_makes 113 = .ok (.getfield 96, 3) := by decide +kernel
theorem dX6_makes_116 : decode cX6_makes 116 = .ok (.iload_n 1, 1) := by decide +kernel
theorem dX6_makes_117 : decode cX6_makes 117 = .ok (.iload_n 2, 1) := by decide +kernel
theorem dX6_makes_118 : decode cX6_makes 118 = .ok (.iastore, 1) := by decide +kernel
theorem dX6_makes_119 : decode cX6_makes 119 = .ok (.aload_n 0, 1) := by decide +kernel
theorem dX6_makes_120 : decode cX6_makes 120 = .ok (.getfield 99, 3) := by decide +kernel
theorem dX6_makes_123 : decode cX6_makes 123 = .ok (.iload_n 1, 1) := by decide +kernel
theorem dX6_makes_124 : decode cX6_makes 124 = .ok (.aload_n 0, 1) := by decide +kernel
theorem dX6_makes_125 : decode cX6_makes 125 = .ok (.getfield 29, 3) := by decide +kernel
theorem dX6_makes_128 : decode cX6_makes 128 = .ok (.iload_n 2, 1) := by decide +kernel
theorem dX6_makes_129 : decode cX6_makes 129 = .ok (.iaload, 1) := by decide +kernel
theorem dX6_makes_130 : decode cX6_makes 130 = .ok (.iastore, 1) := by decide +kernel
theorem dX6_makes_131 : decode cX6_makes 131 = .ok (.aload_n 0, 1) := by decide +kernel
theorem dX6_makes_132 : decode cX6_makes 132 = .ok (.getfield 102, 3) := by decide +kernel
theorem dX6_makes_135 : decode cX6_makes 135 = .ok (.iload_n 1, 1) := by decide +kernel
theorem dX6_makes_136 : decode cX6_makes 136 = .ok (.aload_n 0, 1) := by decide +kernel
theorem dX6_makes_137 : decode cX6_makes 137 = .ok (.getfield 50, 3) := by decide +kernel
theorem dX6_makes_140 : decode cX6_makes 140 = .ok (.iload_n 2, 1) := by decide +kernel
theorem dX6_makes_141 : decode cX6_makes 141 = .ok (.iaload, 1) := by decide +kernel
theorem dX6_makes_142 : decode cX6_makes 142 = .ok (.iastore, 1) := by decide +kernel
theorem dX6_makes_143 : decode cX6_makes 143 = .ok (.aload_n 0, 1) := by decide +kernel
theorem dX6_makes_144 : decode cX6_makes 144 = .ok (.getfield 105, 3) := by decide +kernel
theorem dX6_makes_147 : decode cX6_makes 147 = .ok (.iload_n 1, 1) := by decide +kernel
theorem dX6_makes_148 : decode cX6_makes 148 = .ok (.aload_n 0, 1) := by decide +kernel
theorem dX6_makes_149 : decode cX6_makes 149 = .ok (.getfield 47, 3) := by decide +kernel
theorem dX6_makes_152 : decode cX6_makes 152 = .ok (.iload_n 2, 1) := by decide +kernel
theorem dX6_makes_153 : decode cX6_makes 153 = .ok (.iaload, 1) := by decide +kernel
theorem dX6_makes_154 : decode cX6_makes 154 = .ok (.iconst 1, 1) := by decide +kernel
theorem dX6_makes_155 : decode cX6_makes 155 = .ok (.isub, 1) := by decide +kernel
theorem dX6_makes_156 : decode cX6_makes 156 = .ok (.iastore, 1) := by decide +kernel
theorem dX6_makes_157 : decode cX6_makes 157 = .ok (.aload_n 0, 1) := by decide +kernel
theorem dX6_makes_158 : decode cX6_makes 158 = .ok (.getfield 53, 3) := by decide +kernel
theorem dX6_makes_161 : decode cX6_makes 161 = .ok (.iload_n 2, 1) := by decide +kernel
theorem dX6_makes_162 : decode cX6_makes 162 = .ok (.aload_n 0, 1) := by decide +kernel
theorem dX6_makes_163 : decode cX6_makes 163 = .ok (.getfield 121, 3) := by decide +kernel
theorem dX6_makes_166 : decode cX6_makes 166 = .ok (.iastore, 1) := by decide +kernel
theorem dX6_makes_167 : decode cX6_makes 167 = .ok (.aload_n 0, 1) := by decide +kernel
theorem dX6_makes_168 : decode cX6_makes 168 = .ok (.getfield 29, 3) := by decide +kernel
theorem dX6_makes_171 : decode cX6_makes 171 = .ok (.iload_n 2, 1) := by decide +kernel
theorem dX6_makes_172 : decode cX6_makes 172 = .ok (.dup2, 1) := by decide +kernel
theorem dX6_makes_173 : decode cX6_makes 173 = .ok (.iaload, 1) := by decide +kernel
theorem dX6_makes_174 : decode cX6_makes 174 = .ok (.iconst 1, 1) := by decide +kernel
theorem dX6_makes_175 : decode cX6_makes 175 = .ok (.iadd, 1) := by decide +kernel
theorem dX6_makes_176 : decode cX6_makes 176 = .ok (.iastore, 1) := by decide +kernel
theorem dX6_makes_177 : decode cX6_makes 177 = .ok (.return_, 1) := by decide +kernel
theorem dX6_arrives_0 : decode cX6_arrives 0 = .ok (.iconst 4, 1) := by decide +kernel
theorem dX6_arrives_1 : decode cX6_arrives 1 = .ok (.iload_n 1, 1) := by decide +kernel
theorem dX6_arrives_2 : decode cX6_arrives 2 = .ok (.imul, 1) := by decide +kernel
theorem dX6_arrives_3 : decode cX6_arrives 3 = .ok (.aload_n 0, 1) := by decide +kernel
theorem dX6_arrives_4 : decode cX6_arrives 4 = .ok (.getfield 59, 3) := by decide +kernel
theorem dX6_arrives_7 : decode cX6_arrives 7 = .ok (.iload_n 1, 1) := by decide +kernel
theorem dX6_arrives_8 : decode cX6_arrives 8 = .ok (.iaload, 1) := by decide +kernel
theorem dX6_arrives_9 : decode cX6_arrives 9 = .ok (.iadd, 1) := by decide +kernel
theorem dX6_arrives_10 : decode cX6_arrives 10 = .ok (.istore_n 2, 1) := by decide +kernel
theorem dX6_arrives_11 : decode cX6_arrives 11 = .ok (.aload_n 0, 1) := by decide +kernel
theorem dX6_arrives_12 : decode cX6_arrives 12 = .ok (.getfield 71, 3) := by decide +kernel
theorem dX6_arrives_15 : decode cX6_arrives 15 = .ok (.iload_n 2, 1) := by decide +kernel
theorem dX6_arrives_16 : decode cX6_arrives 16 = .ok (.aload_n 0, 1) := by decide +kernel
theorem dX6_arrives_17 : decode cX6_arrives 17 = .ok (.getfield 96, 3) := by decide +kernel
theorem dX6_arrives_20 : decode cX6_arrives 20 = .ok (.iload_n 1, 1) := by decide +kernel
theorem dX6_arrives_21 : decode cX6_arrives 21 = .ok (.iaload, 1) := by decide +kernel
theorem dX6_arrives_22 : decode cX6_arrives 22 = .ok (.iastore, 1) := by decide +kernel
theorem dX6_arrives_23 : decode cX6_arrives 23 = .ok (.aload_n 0, 1) := by decide +kernel
theorem dX6_arrives_24 : decode cX6_arrives 24 = .ok (.getfield 74, 3) := by decide +kernel
theorem dX6_arrives_27 : decode cX6_arrives 27 = .ok (.iload_n 2, 1) := by decide +kernel
theorem dX6_arrives_28 : decode cX6_arrives 28 = .ok (.aload_n 0, 1) := by decide +kernel
theorem dX6_arrives_29 : decode cX6_arrives 29 = .ok (.getfield 99, 3) := by decide +kernel
theorem dX6_arrives_32 : decode cX6_arrives 32 = .ok (.iload_n 1, 1) := by decide +kernel
theorem dX6_arrives_33 : decode cX6_arrives 33 = .ok (.iaload, 1) := by decide +kernel
theorem dX6_arrives_34 : decode cX6_arrives 34 = .ok (.iastore, 1) := by decide +kernel
theorem dX6_arrives_35 : decode cX6_arrives 35 = .ok (.aload_n 0, 1) := by decide +kernel
theorem dX6_arrives_36 : decode cX6_arrives 36 = .ok (.getfield 77, 3) := by decide +kernel
theorem dX6_arrives_39 : decode cX6_arrives 39 = .ok (.iload_n 2, 1) := by decide +kernel
theorem dX6_arrives_40 : decode cX6_arrives 40 = .ok (.aload_n 0, 1) := by decide +kernel
theorem dX6_arrives_41 : decode cX6_arrives 41 = .ok (.getfield 102, 3) := by decide +kernel
theorem dX6_arrives_44 : decode cX6_arrives 44 = .ok (.iload_n 1, 1) := by decide +kernel
theorem dX6_arrives_45 : decode cX6_arrives 45 = .ok (.iaload, 1) := by decide +kernel
theorem dX6_arrives_46 : decode cX6_arrives 46 = .ok (.iastore, 1) := by decide +kernel
theorem dX6_arrives_47 : decode cX6_arrives 47 = .ok (.aload_n 0, 1) := by decide +kernel
theorem dX6_arrives_48 : decode cX6_arrives 48 = .ok (.getfield 80, 3) := by decide +kernel
theorem dX6_arrives_51 : decode cX6_arrives 51 = .ok (.iload_n 2, 1) := by decide +kernel
theorem dX6_arrives_52 : decode cX6_arrives 52 = .ok (.aload_n 0, 1) := by decide +kernel
theorem dX6_arrives_53 : decode cX6_arrives 53 = .ok (.getfield 105, 3) := by decide +kernel
theorem dX6_arrives_56 : decode cX6_arrives 56 = .ok (.iload_n 1, 1) := by decide +kernel
theorem dX6_arrives_57 : decode cX6_arrives 57 = .ok (.iaload, 1) := by decide +kernel
theorem dX6_arrives_58 : decode cX6_arrives 58 = .ok (.iastore, 1) := by decide +kernel
theorem dX6_arrives_59 : decode cX6_arrives 59 = .ok (.aload_n 0, 1) := by decide +kernel
theorem dX6_arrives_60 : decode cX6_arrives 60 = .ok (.getfield 59, 3) := by decide +kernel
theorem dX6_arrives_63 : decode cX6_arrives 63 = .ok (.iload_n 1, 1) := by decide +kernel
theorem dX6_arrives_64 : decode cX6_arrives 64 = .ok (.dup2, 1) := by decide +kernel
theorem dX6_arrives_65 : decode cX6_arrives 65 = .ok (.iaload, 1) := by decide +kernel
theorem dX6_arrives_66 : decode cX6_arrives 66 = .ok (.iconst 1, 1) := by decide +kernel
theorem dX6_arrives_67 : decode cX6_arrives 67 = .ok (.iadd, 1) := by decide +kernel
theorem dX6_arrives_68 : decode cX6_arrives 68 = .ok (.iastore, 1) := by decide +kernel
theorem dX6_arrives_69 : decode cX6_arrives 69 = .ok (.return_, 1) := by decide +kernel
set_option maxRecDepth 20000 in
theorem ggX6_moves_X6_takesAlong : GoodIn wsX6_moves wsX6_takesAlong := goodIn_r _ [7, 1, 8, 9, 10, 11, 12, 13, 14, 15, 52, 53, 54, 55, 56, 57, 58, 59, 60, 61, 62, 63, 64, 65, 66, 67, 68, 69, 70, 71, 72, 73, 74, 75, 76, 77, 78, 79, 80, 81, 82, 83, 84, 85, 86, 87] (by decide +kernel) (by decide +kernel)
set_option maxRecDepth 20000 in
theorem gX6_moves_X6_takesAlong : GoodIn wsX6_moves (wsV RX6 177 RX6 yX6_takesAlong wsX6_takesAlong) := goodIn_app (goodIn_of _ (by decide +kernel)) ggX6_moves_X6_takesAlong
set_option maxRecDepth 20000 in
theorem ggX6_moves_X6_leaves : GoodIn wsX6_moves wsX6_leaves := goodIn_r _ [19, 20, 9, 11, 13, 15, 21, 22, 23, 52, 53, 54, 55, 56, 57, 58, 59, 60, 61, 62, 63, 64, 65, 66, 67, 68, 69, 70, 71, 72, 73, 74, 75, 76, 77, 78, 79, 80, 81, 82, 83, 84, 85, 86, 87] (by decide +kernel) (by decide +kernel)
set_option maxRecDepth 20000 in
theorem gX6_moves_X6_leaves : GoodIn wsX6_moves (wsV RX6 152 RX6 yX6_leaves wsX6_leaves) := goodIn_app (goodIn_of _ (by decide +kernel)) ggX6_moves_X6_leaves
set_option maxRecDepth 20000 in
theorem ggX6_moves_X6_makes : GoodIn wsX6_moves wsX6_makes := goodIn_r _ [27, 2, 28, 22, 29, 30, 31, 32, 8, 10, 33, 12, 14, 34, 35, 36, 6, 37, 38, 39, 40, 41, 42, 43, 44, 45, 46, 47, 52, 53, 54, 55, 56, 57, 58, 59, 60, 61, 62, 63, 64, 65, 66, 67, 68, 69, 70, 71, 72, 73, 74, 75, 76, 77, 78, 79, 80, 81, 82, 83, 84, 85, 86, 87] (by decide +kernel) (by decide +kernel)
set_option maxRecDepth 20000 in
theorem gX6_moves_X6_makes : GoodIn wsX6_moves (wsV RX6 180 RX6 yX6_makes wsX6_makes) := goodIn_app (goodIn_of _ (by decide +kernel)) ggX6_moves_X6_makes
set_option maxRecDepth 20000 in
theorem ggX6_moves_X6_arrives : GoodIn wsX6_moves wsX6_arrives := goodIn_r _ [51, 20, 9, 8, 11, 10, 13, 12, 15, 14, 52, 53, 54, 55, 56, 57, 58, 59, 60, 61, 62, 63, 64, 65, 66, 67, 68, 69, 70, 71, 72, 73, 74, 75, 76, 77, 78, 79, 80, 81, 82, 83, 84, 85, 86, 87] (by decide +kernel) (by decide +kernel)
set_option maxRecDepth 20000 in
theorem gX6_moves_X6_arrives : GoodIn wsX6_moves (wsV RX6 183 RX6 yX6_arrives wsX6_arrives) := goodIn_app (goodIn_of _ (by decide +kernel)) ggX6_moves_X6_arrives
theorem dX6_moves_0 : decode cX6_moves 0 = .ok (.bipush 16, 2) := by decide +kernel
theorem dX6_moves_2 : decode cX6_moves 2 = .ok (.istore_n 1, 1) := by decide +kernel
theorem dX6_moves_3 : decode cX6_moves 3 = .ok (.iload_n 1, 1) := by decide +kernel
theorem dX6_moves_4 : decode cX6_moves 4 = .ok (.bipush 64, 2) := by decide +kernel
theorem dX6_moves_6 : decode cX6_moves 6 = .ok (.if_icmp .ge 34, 3) := by decide +kernel
theorem dX6_moves_9 : decode cX6_moves 9 = .ok (.aload_n 0, 1) := by decide +kernel
theorem dX6_moves_10 : decode cX6_moves 10 = .ok (.getfield 65, 3) := by decide +kernel
theorem dX6_moves_13 : decode cX6_moves 13 = .ok (.iload_n 1, 1) := by decide +kernel
theorem dX6_moves_14 : decode cX6_moves 14 = .ok (.iaload, 1) := by decide +kernel
theorem dX6_moves_15 : decode cX6_moves 15 = .ok (.iconst (-1), 1) := by decide +kernel
theorem dX6_moves_16 : decode cX6_moves 16 = .ok (.if_icmp .eq 18, 3) := by decide +kernel
theorem dX6_moves_19 : decode cX6_moves 19 = .ok (.aload_n 0, 1) := by decide +kernel
theorem dX6_moves_20 : decode cX6_moves 20 = .ok (.iload_n 1, 1) := by decide +kernel
theorem dX6_moves_21 : decode cX6_moves 21 = .ok (.invokevirtual 177, 3) := by decide +kernel
theorem dX6_moves_24 : decode cX6_moves 24 = .ok (.aload_n 0, 1) := by decide +kernel
theorem dX6_moves_25 : decode cX6_moves 25 = .ok (.aload_n 0, 1) := by decide +kernel
theorem dX6_moves_26 : decode cX6_moves 26 = .ok (.getfield 65, 3) := by decide +kernel
theorem dX6_moves_29 : decode cX6_moves 29 = .ok (.iload_n 1, 1) := by decide +kernel
theorem dX6_moves_30 : decode cX6_moves 30 = .ok (.iaload, 1) := by decide +kernel
theorem dX6_moves_31 : decode cX6_moves 31 = .ok (.invokevirtual 152, 3) := by decide +kernel
theorem dX6_moves_34 : decode cX6_moves 34 = .ok (.iinc 1 1, 3) := by decide +kernel
theorem dX6_moves_37 : decode cX6_moves 37 = .ok (.goto (-34), 3) := by decide +kernel
theorem dX6_moves_40 : decode cX6_moves 40 = .ok (.iconst 0, 1) := by decide +kernel
theorem dX6_moves_41 : decode cX6_moves 41 = .ok (.istore_n 1, 1) := by decide +kernel
theorem dX6_moves_42 : decode cX6_moves 42 = .ok (.iload_n 1, 1) := by decide +kernel
theorem dX6_moves_43 : decode cX6_moves 43 = .ok (.bipush 16, 2) := by decide +kernel
theorem dX6_moves_45 : decode cX6_moves 45 = .ok (.if_icmp .ge 29, 3) := by decide +kernel
theorem dX6_moves_48 : decode cX6_moves 48 = .ok (.aload_n 0, 1) := by decide +kernel
theorem dX6_moves_49 : decode cX6_moves 49 = .ok (.getfield 90, 3) := by decide +kernel
theorem dX6_moves_52 : decode cX6_moves 52 = .ok (.iload_n 1, 1) := by decide +kernel
theorem dX6_moves_53 : decode cX6_moves 53 = .ok (.iaload, 1) := by decide +kernel
theorem dX6_moves_54 : decode cX6_moves 54 = .ok (.iconst (-1), 1) := by decide +kernel
theorem dX6_moves_55 : decode cX6_moves 55 = .ok (.if_icmp .eq 13, 3) := by decide +kernel
theorem dX6_moves_58 : decode cX6_moves 58 = .ok (.aload_n 0, 1) := by decide +kernel
theorem dX6_moves_59 : decode cX6_moves 59 = .ok (.iload_n 1, 1) := by decide +kernel
theorem dX6_moves_60 : decode cX6_moves 60 = .ok (.invokevirtual 180, 3) := by decide +kernel
theorem dX6_moves_63 : decode cX6_moves 63 = .ok (.aload_n 0, 1) := by decide +kernel
theorem dX6_moves_64 : decode cX6_moves 64 = .ok (.iload_n 1, 1) := by decide +kernel
theorem dX6_moves_65 : decode cX6_moves 65 = .ok (.invokevirtual 183, 3) := by decide +kernel
theorem dX6_moves_68 : decode cX6_moves 68 = .ok (.iinc 1 1, 3) := by decide +kernel
theorem dX6_moves_71 : decode cX6_moves 71 = .ok (.goto (-29), 3) := by decide +kernel
theorem dX6_moves_74 : decode cX6_moves 74 = .ok (.bipush 16, 2) := by decide +kernel
theorem dX6_moves_76 : decode cX6_moves 76 = .ok (.istore_n 1, 1) := by decide +kernel
theorem dX6_moves_77 : decode cX6_moves 77 = .ok (.iload_n 1, 1) := by decide +kernel
theorem dX6_moves_78 : decode cX6_moves 78 = .ok (.bipush 64, 2) := by decide +kernel
theorem dX6_moves_80 : decode cX6_moves 80 = .ok (.if_icmp .ge 24, 3) := by decide +kernel
theorem dX6_moves_83 : decode cX6_moves 83 = .ok (.aload_n 0, 1) := by decide +kernel
theorem dX6_moves_84 : decode cX6_moves 84 = .ok (.getfield 65, 3) := by decide +kernel
theorem dX6_moves_87 : decode cX6_moves 87 = .ok (.iload_n 1, 1) := by decide +kernel
theorem dX6_moves_88 : decode cX6_moves 88 = .ok (.iaload, 1) := by decide +kernel
theorem dX6_moves_89 : decode cX6_moves 89 = .ok (.iconst (-1), 1) := by decide +kernel
theorem dX6_moves_90 : decode cX6_moves 90 = .ok (.if_icmp .eq 8, 3) := by decide +kernel
theorem dX6_moves_93 : decode cX6_moves 93 = .ok (.aload_n 0, 1) := by decide +kernel
theorem dX6_moves_94 : decode cX6_moves 94 = .ok (.iload_n 1, 1) := by decide +kernel
theorem dX6_moves_95 : decode cX6_moves 95 = .ok (.invokevirtual 183, 3) := by decide +kernel
theorem dX6_moves_98 : decode cX6_moves 98 = .ok (.iinc 1 1, 3) := by decide +kernel
theorem dX6_moves_101 : decode cX6_moves 101 = .ok (.goto (-24), 3) := by decide +kernel
theorem dX6_moves_104 : decode cX6_moves 104 = .ok (.return_, 1) := by decide +kernel
set_option maxRecDepth 20000 in
theorem ggX6_ticks_X6_creditsReturn : GoodIn wsX6_ticks wsX6_creditsReturn := goodIn_r _ [6, 1, 7, 8, 122, 123, 124, 125, 126, 127, 128, 129, 130, 131, 132, 133, 134, 135, 136, 137, 138, 139, 140, 141, 142, 143, 144, 145, 146, 147, 148, 149, 150, 151, 152, 153, 154, 155, 156, 157] (by decide +kernel) (by decide +kernel)
set_option maxRecDepth 20000 in
theorem gX6_ticks_X6_creditsReturn : GoodIn wsX6_ticks (wsV RX6 186 RX6 yX6_creditsReturn wsX6_creditsReturn) := goodIn_app (goodIn_of _ (by decide +kernel)) ggX6_ticks_X6_creditsReturn
set_option maxRecDepth 20000 in
theorem ggX6_ticks_X6_hostsTake : GoodIn wsX6_ticks wsX6_hostsTake := goodIn_r _ [12, 13, 14, 15, 16, 17, 18, 19, 20, 1, 21, 22, 23, 24, 5, 25, 26, 27, 8, 28, 122, 123, 124, 125, 126, 127, 128, 129, 130, 131, 132, 133, 134, 135, 136, 137, 138, 139, 140, 141, 142, 143, 144, 145, 146, 147, 148, 149, 150, 151, 152, 153, 154, 155, 156, 157] (by decide +kernel) (by decide +kernel)
set_option maxRecDepth 20000 in
theorem gX6_ticks_X6_hostsTake : GoodIn wsX6_ticks (wsV RX6 189 RX6 yX6_hostsTake wsX6_hostsTake) := goodIn_app (goodIn_of _ (by decide +kernel)) ggX6_ticks_X6_hostsTake
set_option maxRecDepth 20000 in
theorem ggX6_ticks_X6_spinesLose : GoodIn wsX6_ticks wsX6_spinesLose := goodIn_r _ [32, 14, 33, 21, 34, 35, 36, 5, 37, 38, 39, 40, 41, 13, 26, 42, 43, 44, 45, 46, 47, 48, 49, 50, 51, 52, 53, 54, 55, 56, 57, 22, 23, 24, 25, 15, 27, 8, 1, 28, 122, 123, 124, 125, 126, 127, 128, 129, 130, 131, 132, 133, 134, 135, 136, 137, 138, 139, 140, 141, 142, 143, 144, 145, 146, 147, 148, 149, 150, 151, 152, 153, 154, 155, 156, 157] (by decide +kernel) (by decide +kernel)
set_option maxRecDepth 20000 in
theorem gX6_ticks_X6_spinesLose : GoodIn wsX6_ticks (wsV RX6 193 RX6 yX6_spinesLose wsX6_spinesLose) := goodIn_app (goodIn_of _ (by decide +kernel)) ggX6_ticks_X6_spinesLose
set_option maxRecDepth 20000 in
theorem ggX6_ticks_X6_leavesChoose : GoodIn wsX6_ticks wsX6_leavesChoose := goodIn_r _ [61, 13, 14, 27, 26, 62, 63, 64, 5, 65, 66, 34, 38, 39, 40, 41, 42, 43, 44, 45, 46, 47, 48, 49, 50, 51, 52, 53, 35, 36, 37, 67, 68, 69, 70, 122, 123, 124, 125, 126, 127, 128, 129, 130, 131, 132, 133, 134, 135, 136, 137, 138, 139, 140, 141, 142, 143, 144, 145, 146, 147, 148, 149, 150, 151, 152, 153, 154, 155, 156, 157] (by decide +kernel) (by decide +kernel)
set_option maxRecDepth 20000 in
theorem gX6_ticks_X6_leavesChoose : GoodIn wsX6_ticks (wsV RX6 196 RX6 yX6_leavesChoose wsX6_leavesChoose) := goodIn_app (goodIn_of _ (by decide +kernel)) ggX6_ticks_X6_leavesChoose
set_option maxRecDepth 20000 in
theorem ggX6_ticks_X6_linksPick : GoodIn wsX6_ticks wsX6_linksPick := goodIn_r _ [74, 75, 7, 76, 77, 78, 5, 79, 35, 36, 37, 46, 47, 48, 38, 39, 40, 41, 13, 26, 42, 43, 44, 45, 34, 14, 49, 50, 51, 52, 53, 54, 55, 56, 57, 122, 123, 124, 125, 126, 127, 128, 129, 130, 131, 132, 133, 134, 135, 136, 137, 138, 139, 140, 141, 142, 143, 144, 145, 146, 147, 148, 149, 150, 151, 152, 153, 154, 155, 156, 157] (by decide +kernel) (by decide +kernel)
set_option maxRecDepth 20000 in
theorem gX6_ticks_X6_linksPick : GoodIn wsX6_ticks (wsV RX6 199 RX6 yX6_linksPick wsX6_linksPick) := goodIn_app (goodIn_of _ (by decide +kernel)) ggX6_ticks_X6_linksPick
set_option maxRecDepth 20000 in
theorem ggX6_ticks_X6_hostsPick : GoodIn wsX6_ticks wsX6_hostsPick := goodIn_r _ [83, 84, 85, 7, 86, 21, 34, 87, 88, 89, 5, 90, 66, 91, 1, 92, 33, 20, 93, 62, 63, 64, 65, 94, 95, 96, 97, 49, 50, 51, 52, 53, 122, 123, 124, 125, 126, 127, 128, 129, 130, 131, 132, 133, 134, 135, 136, 137, 138, 139, 140, 141, 142, 143, 144, 145, 146, 147, 148, 149, 150, 151, 152, 153, 154, 155, 156, 157] (by decide +kernel) (by decide +kernel)
set_option maxRecDepth 20000 in
theorem gX6_ticks_X6_hostsPick : GoodIn wsX6_ticks (wsV RX6 202 RX6 yX6_hostsPick wsX6_hostsPick) := goodIn_app (goodIn_of _ (by decide +kernel)) ggX6_ticks_X6_hostsPick
set_option maxRecDepth 20000 in
theorem ggX6_ticks_X6_moves : GoodIn wsX6_ticks wsX6_moves := goodIn_r _ [101, 76, 84, 102, 103, 104, 5, 105, 106, 14, 107, 15, 108, 26, 109, 27, 22, 23, 24, 25, 13, 8, 1, 28, 110, 111, 112, 113, 114, 115, 34, 116, 117, 92, 62, 63, 64, 65, 66, 49, 50, 51, 52, 53, 67, 68, 69, 70, 118, 119, 120, 121, 122, 123, 124, 125, 126, 127, 128, 129, 130, 131, 132, 133, 134, 135, 136, 137, 138, 139, 140, 141, 142, 143, 144, 145, 146, 147, 148, 149, 150, 151, 152, 153, 154, 155, 156, 157] (by decide +kernel) (by decide +kernel)
set_option maxRecDepth 20000 in
theorem gX6_ticks_X6_moves : GoodIn wsX6_ticks (wsV RX6 205 RX6 yX6_moves wsX6_moves) := goodIn_app (goodIn_of _ (by decide +kernel)) ggX6_ticks_X6_moves
theorem dX6_ticks_0 : decode cX6_ticks 0 = .ok (.aload_n 0, 1) := by decide +kernel
theorem dX6_ticks_1 : decode cX6_ticks 1 = .ok (.invokevirtual 186, 3) := by decide +kernel
theorem dX6_ticks_4 : decode cX6_ticks 4 = .ok (.aload_n 0, 1) := by decide +kernel
theorem dX6_ticks_5 : decode cX6_ticks 5 = .ok (.invokevirtual 189, 3) := by decide +kernel
theorem dX6_ticks_8 : decode cX6_ticks 8 = .ok (.istore_n 1, 1) := by decide +kernel
theorem dX6_ticks_9 : decode cX6_ticks 9 = .ok (.aload_n 0, 1) := by decide +kernel
theorem dX6_ticks_10 : decode cX6_ticks 10 = .ok (.invokevirtual 193, 3) := by decide +kernel
theorem dX6_ticks_13 : decode cX6_ticks 13 = .ok (.aload_n 0, 1) := by decide +kernel
theorem dX6_ticks_14 : decode cX6_ticks 14 = .ok (.invokevirtual 196, 3) := by decide +kernel
theorem dX6_ticks_17 : decode cX6_ticks 17 = .ok (.aload_n 0, 1) := by decide +kernel
theorem dX6_ticks_18 : decode cX6_ticks 18 = .ok (.invokevirtual 199, 3) := by decide +kernel
theorem dX6_ticks_21 : decode cX6_ticks 21 = .ok (.aload_n 0, 1) := by decide +kernel
theorem dX6_ticks_22 : decode cX6_ticks 22 = .ok (.invokevirtual 202, 3) := by decide +kernel
theorem dX6_ticks_25 : decode cX6_ticks 25 = .ok (.aload_n 0, 1) := by decide +kernel
theorem dX6_ticks_26 : decode cX6_ticks 26 = .ok (.invokevirtual 205, 3) := by decide +kernel
theorem dX6_ticks_29 : decode cX6_ticks 29 = .ok (.aload_n 0, 1) := by decide +kernel
theorem dX6_ticks_30 : decode cX6_ticks 30 = .ok (.dup, 1) := by decide +kernel
theorem dX6_ticks_31 : decode cX6_ticks 31 = .ok (.getfield 121, 3) := by decide +kernel
theorem dX6_ticks_34 : decode cX6_ticks 34 = .ok (.iconst 1, 1) := by decide +kernel
theorem dX6_ticks_35 : decode cX6_ticks 35 = .ok (.iadd, 1) := by decide +kernel
theorem dX6_ticks_36 : decode cX6_ticks 36 = .ok (.putfield 121, 3) := by decide +kernel
theorem dX6_ticks_39 : decode cX6_ticks 39 = .ok (.iload_n 1, 1) := by decide +kernel
theorem dX6_ticks_40 : decode cX6_ticks 40 = .ok (.ireturn, 1) := by decide +kernel
set_option maxRecDepth 20000 in
theorem ggX6_pass_X6_isIn : GoodIn wsX6_pass wsX6_isIn := goodIn_r _ [6] (by decide +kernel) (by decide +kernel)
set_option maxRecDepth 20000 in
theorem gX6_pass_X6_isIn : GoodIn wsX6_pass (va_wsS RX6 114 yX6_isIn wsX6_isIn) := goodIn_app (goodIn_of _ (by decide +kernel)) ggX6_pass_X6_isIn
set_option maxRecDepth 20000 in
theorem ggX6_pass_X6_goes : GoodIn wsX6_pass wsX6_goes := goodIn_r _ [10, 11, 135, 136, 137, 138, 139, 140, 141, 142, 143, 144, 145, 146, 147, 148, 149, 150, 151, 152, 153, 154, 155, 156, 157, 158, 159, 160, 161, 162, 163, 164, 165, 166, 167, 168, 169, 170] (by decide +kernel) (by decide +kernel)
set_option maxRecDepth 20000 in
theorem gX6_pass_X6_goes : GoodIn wsX6_pass (wsV RX6 124 RX6 yX6_goes wsX6_goes) := goodIn_app (goodIn_of _ (by decide +kernel)) ggX6_pass_X6_goes
set_option maxRecDepth 20000 in
theorem ggX6_pass_X6_ticks : GoodIn wsX6_pass wsX6_ticks := goodIn_r _ [15, 1, 16, 17, 18, 5, 19, 20, 21, 22, 23, 24, 25, 26, 27, 28, 29, 30, 31, 32, 33, 34, 35, 36, 37, 38, 39, 40, 41, 42, 43, 44, 45, 46, 47, 48, 49, 50, 51, 52, 53, 54, 55, 56, 57, 58, 59, 60, 61, 62, 63, 64, 65, 66, 67, 68, 69, 70, 71, 72, 73, 74, 75, 76, 77, 78, 79, 80, 81, 82, 83, 84, 85, 86, 87, 88, 89, 90, 91, 92, 93, 94, 95, 96, 97, 98, 99, 100, 101, 102, 103, 104, 105, 106, 107, 108, 109, 110, 111, 112, 113, 114, 115, 116, 117, 118, 119, 120, 121, 122, 123, 124, 125, 126, 127, 128, 129, 130, 131, 132, 133, 134, 135, 136, 137, 138, 139, 140, 141, 142, 143, 144, 145, 146, 147, 148, 149, 150, 151, 152, 153, 154, 155, 156, 157, 158, 159, 160, 161, 162, 163, 164, 165, 166, 167, 168, 169, 170] (by decide +kernel) (by decide +kernel)
set_option maxRecDepth 20000 in
theorem gX6_pass_X6_ticks : GoodIn wsX6_pass (wsV RX6 209 RX6 yX6_ticks wsX6_ticks) := goodIn_app (goodIn_of _ (by decide +kernel)) ggX6_pass_X6_ticks
theorem dX6_pass_0 : decode cX6_pass 0 = .ok (.aload_n 0, 1) := by decide +kernel
theorem dX6_pass_1 : decode cX6_pass 1 = .ok (.iload_n 1, 1) := by decide +kernel
theorem dX6_pass_2 : decode cX6_pass 2 = .ok (.iconst 1, 1) := by decide +kernel
theorem dX6_pass_3 : decode cX6_pass 3 = .ok (.sipush 200, 3) := by decide +kernel
theorem dX6_pass_6 : decode cX6_pass 6 = .ok (.invokestatic 114, 3) := by decide +kernel
theorem dX6_pass_9 : decode cX6_pass 9 = .ok (.ifCond .ne 7, 3) := by decide +kernel
theorem dX6_pass_12 : decode cX6_pass 12 = .ok (.iconst 1, 1) := by decide +kernel
theorem dX6_pass_13 : decode cX6_pass 13 = .ok (.goto 19, 3) := by decide +kernel
theorem dX6_pass_16 : decode cX6_pass 16 = .ok (.aload_n 0, 1) := by decide +kernel
theorem dX6_pass_17 : decode cX6_pass 17 = .ok (.getfield 121, 3) := by decide +kernel
theorem dX6_pass_20 : decode cX6_pass 20 = .ok (.iload_n 1, 1) := by decide +kernel
theorem dX6_pass_21 : decode cX6_pass 21 = .ok (.iadd, 1) := by decide +kernel
theorem dX6_pass_22 : decode cX6_pass 22 = .ok (.ldc 208, 2) := by decide +kernel
theorem dX6_pass_24 : decode cX6_pass 24 = .ok (.if_icmp .le 7, 3) := by decide +kernel
theorem dX6_pass_27 : decode cX6_pass 27 = .ok (.iconst 2, 1) := by decide +kernel
theorem dX6_pass_28 : decode cX6_pass 28 = .ok (.goto 4, 3) := by decide +kernel
theorem dX6_pass_31 : decode cX6_pass 31 = .ok (.iconst 0, 1) := by decide +kernel
theorem dX6_pass_32 : decode cX6_pass 32 = .ok (.invokevirtual 124, 3) := by decide +kernel
theorem dX6_pass_35 : decode cX6_pass 35 = .ok (.ifCond .ne 5, 3) := by decide +kernel
theorem dX6_pass_38 : decode cX6_pass 38 = .ok (.iconst 0, 1) := by decide +kernel
theorem dX6_pass_39 : decode cX6_pass 39 = .ok (.ireturn, 1) := by decide +kernel
theorem dX6_pass_40 : decode cX6_pass 40 = .ok (.iconst 0, 1) := by decide +kernel
theorem dX6_pass_41 : decode cX6_pass 41 = .ok (.istore_n 2, 1) := by decide +kernel
theorem dX6_pass_42 : decode cX6_pass 42 = .ok (.iconst 0, 1) := by decide +kernel
theorem dX6_pass_43 : decode cX6_pass 43 = .ok (.istore_n 3, 1) := by decide +kernel
theorem dX6_pass_44 : decode cX6_pass 44 = .ok (.iload_n 3, 1) := by decide +kernel
theorem dX6_pass_45 : decode cX6_pass 45 = .ok (.iload_n 1, 1) := by decide +kernel
theorem dX6_pass_46 : decode cX6_pass 46 = .ok (.if_icmp .ge 16, 3) := by decide +kernel
theorem dX6_pass_49 : decode cX6_pass 49 = .ok (.iload_n 2, 1) := by decide +kernel
theorem dX6_pass_50 : decode cX6_pass 50 = .ok (.aload_n 0, 1) := by decide +kernel
theorem dX6_pass_51 : decode cX6_pass 51 = .ok (.invokevirtual 209, 3) := by decide +kernel
theorem dX6_pass_54 : decode cX6_pass 54 = .ok (.iadd, 1) := by decide +kernel
theorem dX6_pass_55 : decode cX6_pass 55 = .ok (.istore_n 2, 1) := by decide +kernel
theorem dX6_pass_56 : decode cX6_pass 56 = .ok (.iinc 3 1, 3) := by decide +kernel
theorem dX6_pass_59 : decode cX6_pass 59 = .ok (.goto (-15), 3) := by decide +kernel
theorem dX6_pass_62 : decode cX6_pass 62 = .ok (.iload_n 2, 1) := by decide +kernel
theorem dX6_pass_63 : decode cX6_pass 63 = .ok (.ireturn, 1) := by decide +kernel
theorem dX6_clock_0 : decode cX6_clock 0 = .ok (.aload_n 0, 1) := by decide +kernel
theorem dX6_clock_1 : decode cX6_clock 1 = .ok (.iconst 0, 1) := by decide +kernel
theorem dX6_clock_2 : decode cX6_clock 2 = .ok (.putfield 111, 3) := by decide +kernel
theorem dX6_clock_5 : decode cX6_clock 5 = .ok (.aload_n 0, 1) := by decide +kernel
theorem dX6_clock_6 : decode cX6_clock 6 = .ok (.getfield 121, 3) := by decide +kernel
theorem dX6_clock_9 : decode cX6_clock 9 = .ok (.ireturn, 1) := by decide +kernel
theorem dX6_flows_0 : decode cX6_flows 0 = .ok (.aload_n 0, 1) := by decide +kernel
theorem dX6_flows_1 : decode cX6_flows 1 = .ok (.iconst 0, 1) := by decide +kernel
theorem dX6_flows_2 : decode cX6_flows 2 = .ok (.putfield 111, 3) := by decide +kernel
theorem dX6_flows_5 : decode cX6_flows 5 = .ok (.aload_n 0, 1) := by decide +kernel
theorem dX6_flows_6 : decode cX6_flows 6 = .ok (.getfield 118, 3) := by decide +kernel
theorem dX6_flows_9 : decode cX6_flows 9 = .ok (.ireturn, 1) := by decide +kernel
set_option maxRecDepth 20000 in
theorem ggX6_asks_X6_isFlow : GoodIn wsX6_asks wsX6_isFlow := goodIn_r _ [5, 6, 7, 8, 4, 9, 15, 16, 17, 18, 19, 20, 21, 22, 23, 24, 25, 26, 27, 28, 29, 30, 31, 32, 33, 34, 35, 36, 37, 38, 39, 40, 41, 42, 43, 44, 45, 46, 47, 48, 49, 50] (by decide +kernel) (by decide +kernel)
set_option maxRecDepth 20000 in
theorem gX6_asks_X6_isFlow : GoodIn wsX6_asks (wsV RX6 212 RX6 yX6_isFlow wsX6_isFlow) := goodIn_app (goodIn_of _ (by decide +kernel)) ggX6_asks_X6_isFlow
set_option maxRecDepth 20000 in
theorem ggX6_asks_X6_goes : GoodIn wsX6_asks wsX6_goes := goodIn_r _ [13, 14, 15, 16, 17, 18, 19, 20, 21, 22, 23, 24, 25, 26, 27, 28, 29, 30, 31, 32, 33, 34, 35, 36, 37, 38, 39, 40, 41, 42, 43, 44, 45, 46, 47, 48, 49, 50] (by decide +kernel) (by decide +kernel)
set_option maxRecDepth 20000 in
theorem gX6_asks_X6_goes : GoodIn wsX6_asks (wsV RX6 124 RX6 yX6_goes wsX6_goes) := goodIn_app (goodIn_of _ (by decide +kernel)) ggX6_asks_X6_goes
theorem dX6_asks_0 : decode cX6_asks 0 = .ok (.aload_n 0, 1) := by decide +kernel
theorem dX6_asks_1 : decode cX6_asks 1 = .ok (.aload_n 0, 1) := by decide +kernel
theorem dX6_asks_2 : decode cX6_asks 2 = .ok (.iload_n 1, 1) := by decide +kernel
theorem dX6_asks_3 : decode cX6_asks 3 = .ok (.invokevirtual 212, 3) := by decide +kernel
theorem dX6_asks_6 : decode cX6_asks 6 = .ok (.ifCond .eq 7, 3) := by decide +kernel
theorem dX6_asks_9 : decode cX6_asks 9 = .ok (.iconst 0, 1) := by decide +kernel
theorem dX6_asks_10 : decode cX6_asks 10 = .ok (.goto 4, 3) := by decide +kernel
theorem dX6_asks_13 : decode cX6_asks 13 = .ok (.iconst 1, 1) := by decide +kernel
theorem dX6_asks_14 : decode cX6_asks 14 = .ok (.invokevirtual 124, 3) := by decide +kernel
theorem dX6_asks_17 : decode cX6_asks 17 = .ok (.ireturn, 1) := by decide +kernel
set_option maxRecDepth 20000 in
theorem ggX6_sent_X6_asks : GoodIn wsX6_sent wsX6_asks := goodIn_r _ [6, 7, 8, 9, 5, 10, 11, 12, 13, 14, 15, 16, 17, 18, 19, 20, 21, 22, 23, 24, 25, 26, 27, 28, 29, 30, 31, 32, 33, 34, 35, 36, 37, 38, 39, 40, 41, 42, 43, 44, 45, 46, 47, 48, 49, 50, 51, 52, 53, 54, 55] (by decide +kernel) (by decide +kernel)
set_option maxRecDepth 20000 in
theorem gX6_sent_X6_asks : GoodIn wsX6_sent (wsV RX6 215 RX6 yX6_asks wsX6_asks) := goodIn_app (goodIn_of _ (by decide +kernel)) ggX6_sent_X6_asks
theorem dX6_sent_0 : decode cX6_sent 0 = .ok (.aload_n 0, 1) := by decide +kernel
theorem dX6_sent_1 : decode cX6_sent 1 = .ok (.iload_n 1, 1) := by decide +kernel
theorem dX6_sent_2 : decode cX6_sent 2 = .ok (.invokevirtual 215, 3) := by decide +kernel
theorem dX6_sent_5 : decode cX6_sent 5 = .ok (.ifCond .eq 12, 3) := by decide +kernel
theorem dX6_sent_8 : decode cX6_sent 8 = .ok (.aload_n 0, 1) := by decide +kernel
theorem dX6_sent_9 : decode cX6_sent 9 = .ok (.getfield 29, 3) := by decide +kernel
theorem dX6_sent_12 : decode cX6_sent 12 = .ok (.iload_n 1, 1) := by decide +kernel
theorem dX6_sent_13 : decode cX6_sent 13 = .ok (.iaload, 1) := by decide +kernel
theorem dX6_sent_14 : decode cX6_sent 14 = .ok (.goto 4, 3) := by decide +kernel
theorem dX6_sent_17 : decode cX6_sent 17 = .ok (.iconst 0, 1) := by decide +kernel
theorem dX6_sent_18 : decode cX6_sent 18 = .ok (.ireturn, 1) := by decide +kernel
set_option maxRecDepth 20000 in
theorem ggX6_delivered_X6_asks : GoodIn wsX6_delivered wsX6_asks := goodIn_r _ [6, 7, 8, 9, 5, 10, 11, 12, 13, 14, 15, 16, 17, 18, 19, 20, 21, 22, 23, 24, 25, 26, 27, 28, 29, 30, 31, 32, 33, 34, 35, 36, 37, 38, 39, 40, 41, 42, 43, 44, 45, 46, 47, 48, 49, 50, 51, 52, 53, 54, 55] (by decide +kernel) (by decide +kernel)
set_option maxRecDepth 20000 in
theorem gX6_delivered_X6_asks : GoodIn wsX6_delivered (wsV RX6 215 RX6 yX6_asks wsX6_asks) := goodIn_app (goodIn_of _ (by decide +kernel)) ggX6_delivered_X6_asks
theorem dX6_delivered_0 : decode cX6_delivered 0 = .ok (.aload_n 0, 1) := by decide +kernel
theorem dX6_delivered_1 : decode cX6_delivered 1 = .ok (.iload_n 1, 1) := by decide +kernel
theorem dX6_delivered_2 : decode cX6_delivered 2 = .ok (.invokevirtual 215, 3) := by decide +kernel
theorem dX6_delivered_5 : decode cX6_delivered 5 = .ok (.ifCond .eq 12, 3) := by decide +kernel
theorem dX6_delivered_8 : decode cX6_delivered 8 = .ok (.aload_n 0, 1) := by decide +kernel
theorem dX6_delivered_9 : decode cX6_delivered 9 = .ok (.getfield 32, 3) := by decide +kernel
theorem dX6_delivered_12 : decode cX6_delivered 12 = .ok (.iload_n 1, 1) := by decide +kernel
theorem dX6_delivered_13 : decode cX6_delivered 13 = .ok (.iaload, 1) := by decide +kernel
theorem dX6_delivered_14 : decode cX6_delivered 14 = .ok (.goto 4, 3) := by decide +kernel
theorem dX6_delivered_17 : decode cX6_delivered 17 = .ok (.iconst 0, 1) := by decide +kernel
theorem dX6_delivered_18 : decode cX6_delivered 18 = .ok (.ireturn, 1) := by decide +kernel
set_option maxRecDepth 20000 in
theorem ggX6_lost_X6_asks : GoodIn wsX6_lost wsX6_asks := goodIn_r _ [6, 7, 8, 9, 5, 10, 11, 12, 13, 14, 15, 16, 17, 18, 19, 20, 21, 22, 23, 24, 25, 26, 27, 28, 29, 30, 31, 32, 33, 34, 35, 36, 37, 38, 39, 40, 41, 42, 43, 44, 45, 46, 47, 48, 49, 50, 51, 52, 53, 54, 55] (by decide +kernel) (by decide +kernel)
set_option maxRecDepth 20000 in
theorem gX6_lost_X6_asks : GoodIn wsX6_lost (wsV RX6 215 RX6 yX6_asks wsX6_asks) := goodIn_app (goodIn_of _ (by decide +kernel)) ggX6_lost_X6_asks
theorem dX6_lost_0 : decode cX6_lost 0 = .ok (.aload_n 0, 1) := by decide +kernel
theorem dX6_lost_1 : decode cX6_lost 1 = .ok (.iload_n 1, 1) := by decide +kernel
theorem dX6_lost_2 : decode cX6_lost 2 = .ok (.invokevirtual 215, 3) := by decide +kernel
theorem dX6_lost_5 : decode cX6_lost 5 = .ok (.ifCond .eq 12, 3) := by decide +kernel
theorem dX6_lost_8 : decode cX6_lost 8 = .ok (.aload_n 0, 1) := by decide +kernel
theorem dX6_lost_9 : decode cX6_lost 9 = .ok (.getfield 35, 3) := by decide +kernel
theorem dX6_lost_12 : decode cX6_lost 12 = .ok (.iload_n 1, 1) := by decide +kernel
theorem dX6_lost_13 : decode cX6_lost 13 = .ok (.iaload, 1) := by decide +kernel
theorem dX6_lost_14 : decode cX6_lost 14 = .ok (.goto 4, 3) := by decide +kernel
theorem dX6_lost_17 : decode cX6_lost 17 = .ok (.iconst 0, 1) := by decide +kernel
theorem dX6_lost_18 : decode cX6_lost 18 = .ok (.ireturn, 1) := by decide +kernel
set_option maxRecDepth 20000 in
theorem ggX6_outOfOrder_X6_asks : GoodIn wsX6_outOfOrder wsX6_asks := goodIn_r _ [6, 7, 8, 9, 5, 10, 11, 12, 13, 14, 15, 16, 17, 18, 19, 20, 21, 22, 23, 24, 25, 26, 27, 28, 29, 30, 31, 32, 33, 34, 35, 36, 37, 38, 39, 40, 41, 42, 43, 44, 45, 46, 47, 48, 49, 50, 51, 52, 53, 54, 55] (by decide +kernel) (by decide +kernel)
set_option maxRecDepth 20000 in
theorem gX6_outOfOrder_X6_asks : GoodIn wsX6_outOfOrder (wsV RX6 215 RX6 yX6_asks wsX6_asks) := goodIn_app (goodIn_of _ (by decide +kernel)) ggX6_outOfOrder_X6_asks
theorem dX6_outOfOrder_0 : decode cX6_outOfOrder 0 = .ok (.aload_n 0, 1) := by decide +kernel
theorem dX6_outOfOrder_1 : decode cX6_outOfOrder 1 = .ok (.iload_n 1, 1) := by decide +kernel
theorem dX6_outOfOrder_2 : decode cX6_outOfOrder 2 = .ok (.invokevirtual 215, 3) := by decide +kernel
theorem dX6_outOfOrder_5 : decode cX6_outOfOrder 5 = .ok (.ifCond .eq 12, 3) := by decide +kernel
theorem dX6_outOfOrder_8 : decode cX6_outOfOrder 8 = .ok (.aload_n 0, 1) := by decide +kernel
theorem dX6_outOfOrder_9 : decode cX6_outOfOrder 9 = .ok (.getfield 38, 3) := by decide +kernel
theorem dX6_outOfOrder_12 : decode cX6_outOfOrder 12 = .ok (.iload_n 1, 1) := by decide +kernel
theorem dX6_outOfOrder_13 : decode cX6_outOfOrder 13 = .ok (.iaload, 1) := by decide +kernel
theorem dX6_outOfOrder_14 : decode cX6_outOfOrder 14 = .ok (.goto 4, 3) := by decide +kernel
theorem dX6_outOfOrder_17 : decode cX6_outOfOrder 17 = .ok (.iconst 0, 1) := by decide +kernel
theorem dX6_outOfOrder_18 : decode cX6_outOfOrder 18 = .ok (.ireturn, 1) := by decide +kernel
set_option maxRecDepth 20000 in
theorem ggX6_doneIn_X6_asks : GoodIn wsX6_doneIn wsX6_asks := goodIn_r _ [6, 7, 8, 9, 5, 10, 11, 12, 13, 14, 15, 16, 17, 18, 19, 20, 21, 22, 23, 24, 25, 26, 27, 28, 29, 30, 31, 32, 33, 34, 35, 36, 37, 38, 39, 40, 41, 42, 43, 44, 45, 46, 47, 48, 49, 50, 51, 52, 53, 54, 55] (by decide +kernel) (by decide +kernel)
set_option maxRecDepth 20000 in
theorem gX6_doneIn_X6_asks : GoodIn wsX6_doneIn (wsV RX6 215 RX6 yX6_asks wsX6_asks) := goodIn_app (goodIn_of _ (by decide +kernel)) ggX6_doneIn_X6_asks
theorem dX6_doneIn_0 : decode cX6_doneIn 0 = .ok (.aload_n 0, 1) := by decide +kernel
theorem dX6_doneIn_1 : decode cX6_doneIn 1 = .ok (.iload_n 1, 1) := by decide +kernel
theorem dX6_doneIn_2 : decode cX6_doneIn 2 = .ok (.invokevirtual 215, 3) := by decide +kernel
theorem dX6_doneIn_5 : decode cX6_doneIn 5 = .ok (.ifCond .eq 12, 3) := by decide +kernel
theorem dX6_doneIn_8 : decode cX6_doneIn 8 = .ok (.aload_n 0, 1) := by decide +kernel
theorem dX6_doneIn_9 : decode cX6_doneIn 9 = .ok (.getfield 44, 3) := by decide +kernel
theorem dX6_doneIn_12 : decode cX6_doneIn 12 = .ok (.iload_n 1, 1) := by decide +kernel
theorem dX6_doneIn_13 : decode cX6_doneIn 13 = .ok (.iaload, 1) := by decide +kernel
theorem dX6_doneIn_14 : decode cX6_doneIn 14 = .ok (.goto 4, 3) := by decide +kernel
theorem dX6_doneIn_17 : decode cX6_doneIn 17 = .ok (.iconst 0, 1) := by decide +kernel
theorem dX6_doneIn_18 : decode cX6_doneIn 18 = .ok (.ireturn, 1) := by decide +kernel
set_option maxRecDepth 20000 in
theorem ggX6_flowlets_X6_asks : GoodIn wsX6_flowlets wsX6_asks := goodIn_r _ [6, 7, 8, 9, 5, 10, 11, 12, 13, 14, 15, 16, 17, 18, 19, 20, 21, 22, 23, 24, 25, 26, 27, 28, 29, 30, 31, 32, 33, 34, 35, 36, 37, 38, 39, 40, 41, 42, 43, 44, 45, 46, 47, 48, 49, 50, 51, 52, 53, 54, 55] (by decide +kernel) (by decide +kernel)
set_option maxRecDepth 20000 in
theorem gX6_flowlets_X6_asks : GoodIn wsX6_flowlets (wsV RX6 215 RX6 yX6_asks wsX6_asks) := goodIn_app (goodIn_of _ (by decide +kernel)) ggX6_flowlets_X6_asks
theorem dX6_flowlets_0 : decode cX6_flowlets 0 = .ok (.aload_n 0, 1) := by decide +kernel
theorem dX6_flowlets_1 : decode cX6_flowlets 1 = .ok (.iload_n 1, 1) := by decide +kernel
theorem dX6_flowlets_2 : decode cX6_flowlets 2 = .ok (.invokevirtual 215, 3) := by decide +kernel
theorem dX6_flowlets_5 : decode cX6_flowlets 5 = .ok (.ifCond .eq 12, 3) := by decide +kernel
theorem dX6_flowlets_8 : decode cX6_flowlets 8 = .ok (.aload_n 0, 1) := by decide +kernel
theorem dX6_flowlets_9 : decode cX6_flowlets 9 = .ok (.getfield 47, 3) := by decide +kernel
theorem dX6_flowlets_12 : decode cX6_flowlets 12 = .ok (.iload_n 1, 1) := by decide +kernel
theorem dX6_flowlets_13 : decode cX6_flowlets 13 = .ok (.iaload, 1) := by decide +kernel
theorem dX6_flowlets_14 : decode cX6_flowlets 14 = .ok (.goto 4, 3) := by decide +kernel
theorem dX6_flowlets_17 : decode cX6_flowlets 17 = .ok (.iconst 0, 1) := by decide +kernel
theorem dX6_flowlets_18 : decode cX6_flowlets 18 = .ok (.ireturn, 1) := by decide +kernel
set_option maxRecDepth 20000 in
theorem ggX6_spineOf_X6_asks : GoodIn wsX6_spineOf wsX6_asks := goodIn_r _ [6, 7, 8, 9, 5, 10, 11, 12, 13, 14, 15, 16, 17, 18, 19, 20, 21, 22, 23, 24, 25, 26, 27, 28, 29, 30, 31, 32, 33, 34, 35, 36, 37, 38, 39, 40, 41, 42, 43, 44, 45, 46, 47, 48, 49, 50, 51, 52, 53, 54, 55] (by decide +kernel) (by decide +kernel)
set_option maxRecDepth 20000 in
theorem gX6_spineOf_X6_asks : GoodIn wsX6_spineOf (wsV RX6 215 RX6 yX6_asks wsX6_asks) := goodIn_app (goodIn_of _ (by decide +kernel)) ggX6_spineOf_X6_asks
theorem dX6_spineOf_0 : decode cX6_spineOf 0 = .ok (.aload_n 0, 1) := by decide +kernel
theorem dX6_spineOf_1 : decode cX6_spineOf 1 = .ok (.iload_n 1, 1) := by decide +kernel
theorem dX6_spineOf_2 : decode cX6_spineOf 2 = .ok (.invokevirtual 215, 3) := by decide +kernel
theorem dX6_spineOf_5 : decode cX6_spineOf 5 = .ok (.ifCond .eq 12, 3) := by decide +kernel
theorem dX6_spineOf_8 : decode cX6_spineOf 8 = .ok (.aload_n 0, 1) := by decide +kernel
theorem dX6_spineOf_9 : decode cX6_spineOf 9 = .ok (.getfield 50, 3) := by decide +kernel
theorem dX6_spineOf_12 : decode cX6_spineOf 12 = .ok (.iload_n 1, 1) := by decide +kernel
theorem dX6_spineOf_13 : decode cX6_spineOf 13 = .ok (.iaload, 1) := by decide +kernel
theorem dX6_spineOf_14 : decode cX6_spineOf 14 = .ok (.goto 4, 3) := by decide +kernel
theorem dX6_spineOf_17 : decode cX6_spineOf 17 = .ok (.iconst 0, 1) := by decide +kernel
theorem dX6_spineOf_18 : decode cX6_spineOf 18 = .ok (.ireturn, 1) := by decide +kernel
set_option maxRecDepth 20000 in
theorem ggX6_upQueue_X6_isHost : GoodIn wsX6_upQueue wsX6_isHost := goodIn_r _ [5, 6, 7, 4, 8] (by decide +kernel) (by decide +kernel)
set_option maxRecDepth 20000 in
theorem gX6_upQueue_X6_isHost : GoodIn wsX6_upQueue (va_wsS RX6 131 yX6_isHost wsX6_isHost) := goodIn_app (goodIn_of _ (by decide +kernel)) ggX6_upQueue_X6_isHost
set_option maxRecDepth 20000 in
theorem ggX6_upQueue_X6_goes : GoodIn wsX6_upQueue wsX6_goes := goodIn_r _ [12, 13, 14, 15, 16, 17, 18, 19, 20, 21, 22, 23, 24, 25, 26, 27, 28, 29, 30, 31, 32, 33, 34, 35, 36, 37, 38, 39, 40, 41, 42, 43, 44, 45, 46, 47, 48, 49] (by decide +kernel) (by decide +kernel)
set_option maxRecDepth 20000 in
theorem gX6_upQueue_X6_goes : GoodIn wsX6_upQueue (wsV RX6 124 RX6 yX6_goes wsX6_goes) := goodIn_app (goodIn_of _ (by decide +kernel)) ggX6_upQueue_X6_goes
theorem dX6_upQueue_0 : decode cX6_upQueue 0 = .ok (.aload_n 0, 1) := by decide +kernel
theorem dX6_upQueue_1 : decode cX6_upQueue 1 = .ok (.iload_n 1, 1) := by decide +kernel
theorem dX6_upQueue_2 : decode cX6_upQueue 2 = .ok (.invokestatic 131, 3) := by decide +kernel
theorem dX6_upQueue_5 : decode cX6_upQueue 5 = .ok (.ifCond .eq 7, 3) := by decide +kernel
theorem dX6_upQueue_8 : decode cX6_upQueue 8 = .ok (.iconst 0, 1) := by decide +kernel
theorem dX6_upQueue_9 : decode cX6_upQueue 9 = .ok (.goto 4, 3) := by decide +kernel
theorem dX6_upQueue_12 : decode cX6_upQueue 12 = .ok (.iconst 1, 1) := by decide +kernel
theorem dX6_upQueue_13 : decode cX6_upQueue 13 = .ok (.invokevirtual 124, 3) := by decide +kernel
theorem dX6_upQueue_16 : decode cX6_upQueue 16 = .ok (.ifCond .eq 12, 3) := by decide +kernel
theorem dX6_upQueue_19 : decode cX6_upQueue 19 = .ok (.aload_n 0, 1) := by decide +kernel
theorem dX6_upQueue_20 : decode cX6_upQueue 20 = .ok (.getfield 59, 3) := by decide +kernel
theorem dX6_upQueue_23 : decode cX6_upQueue 23 = .ok (.iload_n 1, 1) := by decide +kernel
theorem dX6_upQueue_24 : decode cX6_upQueue 24 = .ok (.iaload, 1) := by decide +kernel
theorem dX6_upQueue_25 : decode cX6_upQueue 25 = .ok (.goto 4, 3) := by decide +kernel
theorem dX6_upQueue_28 : decode cX6_upQueue 28 = .ok (.iconst 0, 1) := by decide +kernel
theorem dX6_upQueue_29 : decode cX6_upQueue 29 = .ok (.ireturn, 1) := by decide +kernel
set_option maxRecDepth 20000 in
theorem ggX6_downQueue_X6_isHost : GoodIn wsX6_downQueue wsX6_isHost := goodIn_r _ [5, 6, 7, 4, 8] (by decide +kernel) (by decide +kernel)
set_option maxRecDepth 20000 in
theorem gX6_downQueue_X6_isHost : GoodIn wsX6_downQueue (va_wsS RX6 131 yX6_isHost wsX6_isHost) := goodIn_app (goodIn_of _ (by decide +kernel)) ggX6_downQueue_X6_isHost
set_option maxRecDepth 20000 in
theorem ggX6_downQueue_X6_goes : GoodIn wsX6_downQueue wsX6_goes := goodIn_r _ [12, 13, 14, 15, 16, 17, 18, 19, 20, 21, 22, 23, 24, 25, 26, 27, 28, 29, 30, 31, 32, 33, 34, 35, 36, 37, 38, 39, 40, 41, 42, 43, 44, 45, 46, 47, 48, 49] (by decide +kernel) (by decide +kernel)
set_option maxRecDepth 20000 in
theorem gX6_downQueue_X6_goes : GoodIn wsX6_downQueue (wsV RX6 124 RX6 yX6_goes wsX6_goes) := goodIn_app (goodIn_of _ (by decide +kernel)) ggX6_downQueue_X6_goes
theorem dX6_downQueue_0 : decode cX6_downQueue 0 = .ok (.aload_n 0, 1) := by decide +kernel
theorem dX6_downQueue_1 : decode cX6_downQueue 1 = .ok (.iload_n 1, 1) := by decide +kernel
theorem dX6_downQueue_2 : decode cX6_downQueue 2 = .ok (.invokestatic 131, 3) := by decide +kernel
theorem dX6_downQueue_5 : decode cX6_downQueue 5 = .ok (.ifCond .eq 7, 3) := by decide +kernel
theorem dX6_downQueue_8 : decode cX6_downQueue 8 = .ok (.iconst 0, 1) := by decide +kernel
theorem dX6_downQueue_9 : decode cX6_downQueue 9 = .ok (.goto 4, 3) := by decide +kernel
theorem dX6_downQueue_12 : decode cX6_downQueue 12 = .ok (.iconst 1, 1) := by decide +kernel
theorem dX6_downQueue_13 : decode cX6_downQueue 13 = .ok (.invokevirtual 124, 3) := by decide +kernel
theorem dX6_downQueue_16 : decode cX6_downQueue 16 = .ok (.ifCond .eq 15, 3) := by decide +kernel
theorem dX6_downQueue_19 : decode cX6_downQueue 19 = .ok (.aload_n 0, 1) := by decide +kernel
theorem dX6_downQueue_20 : decode cX6_downQueue 20 = .ok (.getfield 59, 3) := by decide +kernel
theorem dX6_downQueue_23 : decode cX6_downQueue 23 = .ok (.bipush 16, 2) := by decide +kernel
theorem dX6_downQueue_25 : decode cX6_downQueue 25 = .ok (.iload_n 1, 1) := by decide +kernel
theorem dX6_downQueue_26 : decode cX6_downQueue 26 = .ok (.iadd, 1) := by decide +kernel
theorem dX6_downQueue_27 : decode cX6_downQueue 27 = .ok (.iaload, 1) := by decide +kernel
theorem dX6_downQueue_28 : decode cX6_downQueue 28 = .ok (.goto 4, 3) := by decide +kernel
theorem dX6_downQueue_31 : decode cX6_downQueue 31 = .ok (.iconst 0, 1) := by decide +kernel
theorem dX6_downQueue_32 : decode cX6_downQueue 32 = .ok (.ireturn, 1) := by decide +kernel
set_option maxRecDepth 20000 in
theorem ggX6_northQueue_X6_areFour : GoodIn wsX6_northQueue wsX6_areFour := goodIn_r _ [5, 6, 7, 4, 8] (by decide +kernel) (by decide +kernel)
set_option maxRecDepth 20000 in
theorem gX6_northQueue_X6_areFour : GoodIn wsX6_northQueue (va_wsS RX6 134 yX6_areFour wsX6_areFour) := goodIn_app (goodIn_of _ (by decide +kernel)) ggX6_northQueue_X6_areFour
set_option maxRecDepth 20000 in
theorem ggX6_northQueue_X6_goes : GoodIn wsX6_northQueue wsX6_goes := goodIn_r _ [12, 13, 17, 18, 19, 20, 21, 22, 23, 24, 25, 26, 27, 28, 29, 30, 31, 32, 33, 34, 35, 36, 37, 38, 39, 40, 41, 42, 43, 44, 45, 46, 47, 48, 49, 50, 51, 52] (by decide +kernel) (by decide +kernel)
set_option maxRecDepth 20000 in
theorem gX6_northQueue_X6_goes : GoodIn wsX6_northQueue (wsV RX6 124 RX6 yX6_goes wsX6_goes) := goodIn_app (goodIn_of _ (by decide +kernel)) ggX6_northQueue_X6_goes
set_option maxRecDepth 20000 in
theorem ggX6_northQueue_X6_north : GoodIn wsX6_northQueue wsX6_north := goodIn_r _ [16] (by decide +kernel) (by decide +kernel)
set_option maxRecDepth 20000 in
theorem gX6_northQueue_X6_north : GoodIn wsX6_northQueue (va_wsS RX6 138 yX6_north wsX6_north) := goodIn_app (goodIn_of _ (by decide +kernel)) ggX6_northQueue_X6_north
theorem dX6_northQueue_0 : decode cX6_northQueue 0 = .ok (.aload_n 0, 1) := by decide +kernel
theorem dX6_northQueue_1 : decode cX6_northQueue 1 = .ok (.iload_n 1, 1) := by decide +kernel
theorem dX6_northQueue_2 : decode cX6_northQueue 2 = .ok (.iload_n 2, 1) := by decide +kernel
theorem dX6_northQueue_3 : decode cX6_northQueue 3 = .ok (.invokestatic 134, 3) := by decide +kernel
theorem dX6_northQueue_6 : decode cX6_northQueue 6 = .ok (.ifCond .eq 7, 3) := by decide +kernel
theorem dX6_northQueue_9 : decode cX6_northQueue 9 = .ok (.iconst 0, 1) := by decide +kernel
theorem dX6_northQueue_10 : decode cX6_northQueue 10 = .ok (.goto 4, 3) := by decide +kernel
theorem dX6_northQueue_13 : decode cX6_northQueue 13 = .ok (.iconst 1, 1) := by decide +kernel
theorem dX6_northQueue_14 : decode cX6_northQueue 14 = .ok (.invokevirtual 124, 3) := by decide +kernel
theorem dX6_northQueue_17 : decode cX6_northQueue 17 = .ok (.ifCond .eq 16, 3) := by decide +kernel
theorem dX6_northQueue_20 : decode cX6_northQueue 20 = .ok (.aload_n 0, 1) := by decide +kernel
theorem dX6_northQueue_21 : decode cX6_northQueue 21 = .ok (.getfield 59, 3) := by decide +kernel
theorem dX6_northQueue_24 : decode cX6_northQueue 24 = .ok (.iload_n 1, 1) := by decide +kernel
theorem dX6_northQueue_25 : decode cX6_northQueue 25 = .ok (.iload_n 2, 1) := by decide +kernel
theorem dX6_northQueue_26 : decode cX6_northQueue 26 = .ok (.invokestatic 138, 3) := by decide +kernel
theorem dX6_northQueue_29 : decode cX6_northQueue 29 = .ok (.iaload, 1) := by decide +kernel
theorem dX6_northQueue_30 : decode cX6_northQueue 30 = .ok (.goto 4, 3) := by decide +kernel
theorem dX6_northQueue_33 : decode cX6_northQueue 33 = .ok (.iconst 0, 1) := by decide +kernel
theorem dX6_northQueue_34 : decode cX6_northQueue 34 = .ok (.ireturn, 1) := by decide +kernel
set_option maxRecDepth 20000 in
theorem ggX6_southQueue_X6_areFour : GoodIn wsX6_southQueue wsX6_areFour := goodIn_r _ [5, 6, 7, 4, 8] (by decide +kernel) (by decide +kernel)
set_option maxRecDepth 20000 in
theorem gX6_southQueue_X6_areFour : GoodIn wsX6_southQueue (va_wsS RX6 134 yX6_areFour wsX6_areFour) := goodIn_app (goodIn_of _ (by decide +kernel)) ggX6_southQueue_X6_areFour
set_option maxRecDepth 20000 in
theorem ggX6_southQueue_X6_goes : GoodIn wsX6_southQueue wsX6_goes := goodIn_r _ [12, 13, 17, 18, 19, 20, 21, 22, 23, 24, 25, 26, 27, 28, 29, 30, 31, 32, 33, 34, 35, 36, 37, 38, 39, 40, 41, 42, 43, 44, 45, 46, 47, 48, 49, 50, 51, 52] (by decide +kernel) (by decide +kernel)
set_option maxRecDepth 20000 in
theorem gX6_southQueue_X6_goes : GoodIn wsX6_southQueue (wsV RX6 124 RX6 yX6_goes wsX6_goes) := goodIn_app (goodIn_of _ (by decide +kernel)) ggX6_southQueue_X6_goes
set_option maxRecDepth 20000 in
theorem ggX6_southQueue_X6_south : GoodIn wsX6_southQueue wsX6_south := goodIn_r _ [16] (by decide +kernel) (by decide +kernel)
set_option maxRecDepth 20000 in
theorem gX6_southQueue_X6_south : GoodIn wsX6_southQueue (va_wsS RX6 142 yX6_south wsX6_south) := goodIn_app (goodIn_of _ (by decide +kernel)) ggX6_southQueue_X6_south
theorem dX6_southQueue_0 : decode cX6_southQueue 0 = .ok (.aload_n 0, 1) := by decide +kernel
theorem dX6_southQueue_1 : decode cX6_southQueue 1 = .ok (.iload_n 1, 1) := by decide +kernel
theorem dX6_southQueue_2 : decode cX6_southQueue 2 = .ok (.iload_n 2, 1) := by decide +kernel
theorem dX6_southQueue_3 : decode cX6_southQueue 3 = .ok (.invokestatic 134, 3) := by decide +kernel
theorem dX6_southQueue_6 : decode cX6_southQueue 6 = .ok (.ifCond .eq 7, 3) := by decide +kernel
theorem dX6_southQueue_9 : decode cX6_southQueue 9 = .ok (.iconst 0, 1) := by decide +kernel
theorem dX6_southQueue_10 : decode cX6_southQueue 10 = .ok (.goto 4, 3) := by decide +kernel
theorem dX6_southQueue_13 : decode cX6_southQueue 13 = .ok (.iconst 1, 1) := by decide +kernel
theorem dX6_southQueue_14 : decode cX6_southQueue 14 = .ok (.invokevirtual 124, 3) := by decide +kernel
theorem dX6_southQueue_17 : decode cX6_southQueue 17 = .ok (.ifCond .eq 16, 3) := by decide +kernel
theorem dX6_southQueue_20 : decode cX6_southQueue 20 = .ok (.aload_n 0, 1) := by decide +kernel
theorem dX6_southQueue_21 : decode cX6_southQueue 21 = .ok (.getfield 59, 3) := by decide +kernel
theorem dX6_southQueue_24 : decode cX6_southQueue 24 = .ok (.iload_n 1, 1) := by decide +kernel
theorem dX6_southQueue_25 : decode cX6_southQueue 25 = .ok (.iload_n 2, 1) := by decide +kernel
theorem dX6_southQueue_26 : decode cX6_southQueue 26 = .ok (.invokestatic 142, 3) := by decide +kernel
theorem dX6_southQueue_29 : decode cX6_southQueue 29 = .ok (.iaload, 1) := by decide +kernel
theorem dX6_southQueue_30 : decode cX6_southQueue 30 = .ok (.goto 4, 3) := by decide +kernel
theorem dX6_southQueue_33 : decode cX6_southQueue 33 = .ok (.iconst 0, 1) := by decide +kernel
theorem dX6_southQueue_34 : decode cX6_southQueue 34 = .ok (.ireturn, 1) := by decide +kernel
set_option maxRecDepth 20000 in
theorem ggX6_upCredits_X6_isHost : GoodIn wsX6_upCredits wsX6_isHost := goodIn_r _ [5, 6, 7, 4, 8] (by decide +kernel) (by decide +kernel)
set_option maxRecDepth 20000 in
theorem gX6_upCredits_X6_isHost : GoodIn wsX6_upCredits (va_wsS RX6 131 yX6_isHost wsX6_isHost) := goodIn_app (goodIn_of _ (by decide +kernel)) ggX6_upCredits_X6_isHost
set_option maxRecDepth 20000 in
theorem ggX6_upCredits_X6_goes : GoodIn wsX6_upCredits wsX6_goes := goodIn_r _ [12, 13, 14, 15, 16, 17, 18, 19, 20, 21, 22, 23, 24, 25, 26, 27, 28, 29, 30, 31, 32, 33, 34, 35, 36, 37, 38, 39, 40, 41, 42, 43, 44, 45, 46, 47, 48, 49] (by decide +kernel) (by decide +kernel)
set_option maxRecDepth 20000 in
theorem gX6_upCredits_X6_goes : GoodIn wsX6_upCredits (wsV RX6 124 RX6 yX6_goes wsX6_goes) := goodIn_app (goodIn_of _ (by decide +kernel)) ggX6_upCredits_X6_goes
theorem dX6_upCredits_0 : decode cX6_upCredits 0 = .ok (.aload_n 0, 1) := by decide +kernel
theorem dX6_upCredits_1 : decode cX6_upCredits 1 = .ok (.iload_n 1, 1) := by decide +kernel
theorem dX6_upCredits_2 : decode cX6_upCredits 2 = .ok (.invokestatic 131, 3) := by decide +kernel
theorem dX6_upCredits_5 : decode cX6_upCredits 5 = .ok (.ifCond .eq 7, 3) := by decide +kernel
theorem dX6_upCredits_8 : decode cX6_upCredits 8 = .ok (.iconst 0, 1) := by decide +kernel
theorem dX6_upCredits_9 : decode cX6_upCredits 9 = .ok (.goto 4, 3) := by decide +kernel
theorem dX6_upCredits_12 : decode cX6_upCredits 12 = .ok (.iconst 1, 1) := by decide +kernel
theorem dX6_upCredits_13 : decode cX6_upCredits 13 = .ok (.invokevirtual 124, 3) := by decide +kernel
theorem dX6_upCredits_16 : decode cX6_upCredits 16 = .ok (.ifCond .eq 12, 3) := by decide +kernel
theorem dX6_upCredits_19 : decode cX6_upCredits 19 = .ok (.aload_n 0, 1) := by decide +kernel
theorem dX6_upCredits_20 : decode cX6_upCredits 20 = .ok (.getfield 56, 3) := by decide +kernel
theorem dX6_upCredits_23 : decode cX6_upCredits 23 = .ok (.iload_n 1, 1) := by decide +kernel
theorem dX6_upCredits_24 : decode cX6_upCredits 24 = .ok (.iaload, 1) := by decide +kernel
theorem dX6_upCredits_25 : decode cX6_upCredits 25 = .ok (.goto 4, 3) := by decide +kernel
theorem dX6_upCredits_28 : decode cX6_upCredits 28 = .ok (.iconst 0, 1) := by decide +kernel
theorem dX6_upCredits_29 : decode cX6_upCredits 29 = .ok (.ireturn, 1) := by decide +kernel
set_option maxRecDepth 20000 in
theorem ggX6_northCredits_X6_areFour : GoodIn wsX6_northCredits wsX6_areFour := goodIn_r _ [5, 6, 7, 4, 8] (by decide +kernel) (by decide +kernel)
set_option maxRecDepth 20000 in
theorem gX6_northCredits_X6_areFour : GoodIn wsX6_northCredits (va_wsS RX6 134 yX6_areFour wsX6_areFour) := goodIn_app (goodIn_of _ (by decide +kernel)) ggX6_northCredits_X6_areFour
set_option maxRecDepth 20000 in
theorem ggX6_northCredits_X6_goes : GoodIn wsX6_northCredits wsX6_goes := goodIn_r _ [12, 13, 17, 18, 19, 20, 21, 22, 23, 24, 25, 26, 27, 28, 29, 30, 31, 32, 33, 34, 35, 36, 37, 38, 39, 40, 41, 42, 43, 44, 45, 46, 47, 48, 49, 50, 51, 52] (by decide +kernel) (by decide +kernel)
set_option maxRecDepth 20000 in
theorem gX6_northCredits_X6_goes : GoodIn wsX6_northCredits (wsV RX6 124 RX6 yX6_goes wsX6_goes) := goodIn_app (goodIn_of _ (by decide +kernel)) ggX6_northCredits_X6_goes
set_option maxRecDepth 20000 in
theorem ggX6_northCredits_X6_north : GoodIn wsX6_northCredits wsX6_north := goodIn_r _ [16] (by decide +kernel) (by decide +kernel)
set_option maxRecDepth 20000 in
theorem gX6_northCredits_X6_north : GoodIn wsX6_northCredits (va_wsS RX6 138 yX6_north wsX6_north) := goodIn_app (goodIn_of _ (by decide +kernel)) ggX6_northCredits_X6_north
theorem dX6_northCredits_0 : decode cX6_northCredits 0 = .ok (.aload_n 0, 1) := by decide +kernel
theorem dX6_northCredits_1 : decode cX6_northCredits 1 = .ok (.iload_n 1, 1) := by decide +kernel
theorem dX6_northCredits_2 : decode cX6_northCredits 2 = .ok (.iload_n 2, 1) := by decide +kernel
theorem dX6_northCredits_3 : decode cX6_northCredits 3 = .ok (.invokestatic 134, 3) := by decide +kernel
theorem dX6_northCredits_6 : decode cX6_northCredits 6 = .ok (.ifCond .eq 7, 3) := by decide +kernel
theorem dX6_northCredits_9 : decode cX6_northCredits 9 = .ok (.iconst 0, 1) := by decide +kernel
theorem dX6_northCredits_10 : decode cX6_northCredits 10 = .ok (.goto 4, 3) := by decide +kernel
theorem dX6_northCredits_13 : decode cX6_northCredits 13 = .ok (.iconst 1, 1) := by decide +kernel
theorem dX6_northCredits_14 : decode cX6_northCredits 14 = .ok (.invokevirtual 124, 3) := by decide +kernel
theorem dX6_northCredits_17 : decode cX6_northCredits 17 = .ok (.ifCond .eq 16, 3) := by decide +kernel
theorem dX6_northCredits_20 : decode cX6_northCredits 20 = .ok (.aload_n 0, 1) := by decide +kernel
theorem dX6_northCredits_21 : decode cX6_northCredits 21 = .ok (.getfield 56, 3) := by decide +kernel
theorem dX6_northCredits_24 : decode cX6_northCredits 24 = .ok (.iload_n 1, 1) := by decide +kernel
theorem dX6_northCredits_25 : decode cX6_northCredits 25 = .ok (.iload_n 2, 1) := by decide +kernel
theorem dX6_northCredits_26 : decode cX6_northCredits 26 = .ok (.invokestatic 138, 3) := by decide +kernel
theorem dX6_northCredits_29 : decode cX6_northCredits 29 = .ok (.iaload, 1) := by decide +kernel
theorem dX6_northCredits_30 : decode cX6_northCredits 30 = .ok (.goto 4, 3) := by decide +kernel
theorem dX6_northCredits_33 : decode cX6_northCredits 33 = .ok (.iconst 0, 1) := by decide +kernel
theorem dX6_northCredits_34 : decode cX6_northCredits 34 = .ok (.ireturn, 1) := by decide +kernel
theorem dX6_returning_0 : decode cX6_returning 0 = .ok (.aload_n 0, 1) := by decide +kernel
theorem dX6_returning_1 : decode cX6_returning 1 = .ok (.iconst 0, 1) := by decide +kernel
theorem dX6_returning_2 : decode cX6_returning 2 = .ok (.putfield 111, 3) := by decide +kernel
theorem dX6_returning_5 : decode cX6_returning 5 = .ok (.iconst 0, 1) := by decide +kernel
theorem dX6_returning_6 : decode cX6_returning 6 = .ok (.istore_n 1, 1) := by decide +kernel
theorem dX6_returning_7 : decode cX6_returning 7 = .ok (.iconst 0, 1) := by decide +kernel
theorem dX6_returning_8 : decode cX6_returning 8 = .ok (.istore_n 2, 1) := by decide +kernel
theorem dX6_returning_9 : decode cX6_returning 9 = .ok (.iload_n 2, 1) := by decide +kernel
theorem dX6_returning_10 : decode cX6_returning 10 = .ok (.sipush 512, 3) := by decide +kernel
theorem dX6_returning_13 : decode cX6_returning 13 = .ok (.if_icmp .ge 18, 3) := by decide +kernel
theorem dX6_returning_16 : decode cX6_returning 16 = .ok (.iload_n 1, 1) := by decide +kernel
theorem dX6_returning_17 : decode cX6_returning 17 = .ok (.aload_n 0, 1) := by decide +kernel
theorem dX6_returning_18 : decode cX6_returning 18 = .ok (.getfield 68, 3) := by decide +kernel
theorem dX6_returning_21 : decode cX6_returning 21 = .ok (.iload_n 2, 1) := by decide +kernel
theorem dX6_returning_22 : decode cX6_returning 22 = .ok (.iaload, 1) := by decide +kernel
theorem dX6_returning_23 : decode cX6_returning 23 = .ok (.iadd, 1) := by decide +kernel
theorem dX6_returning_24 : decode cX6_returning 24 = .ok (.istore_n 1, 1) := by decide +kernel
theorem dX6_returning_25 : decode cX6_returning 25 = .ok (.iinc 2 1, 3) := by decide +kernel
theorem dX6_returning_28 : decode cX6_returning 28 = .ok (.goto (-19), 3) := by decide +kernel
theorem dX6_returning_31 : decode cX6_returning 31 = .ok (.iload_n 1, 1) := by decide +kernel
theorem dX6_returning_32 : decode cX6_returning 32 = .ok (.ireturn, 1) := by decide +kernel
theorem dX6_queued_0 : decode cX6_queued 0 = .ok (.aload_n 0, 1) := by decide +kernel
theorem dX6_queued_1 : decode cX6_queued 1 = .ok (.iconst 0, 1) := by decide +kernel
theorem dX6_queued_2 : decode cX6_queued 2 = .ok (.putfield 111, 3) := by decide +kernel
theorem dX6_queued_5 : decode cX6_queued 5 = .ok (.iconst 0, 1) := by decide +kernel
theorem dX6_queued_6 : decode cX6_queued 6 = .ok (.istore_n 1, 1) := by decide +kernel
theorem dX6_queued_7 : decode cX6_queued 7 = .ok (.iconst 0, 1) := by decide +kernel
theorem dX6_queued_8 : decode cX6_queued 8 = .ok (.istore_n 2, 1) := by decide +kernel
theorem dX6_queued_9 : decode cX6_queued 9 = .ok (.iload_n 2, 1) := by decide +kernel
theorem dX6_queued_10 : decode cX6_queued 10 = .ok (.bipush 64, 2) := by decide +kernel
theorem dX6_queued_12 : decode cX6_queued 12 = .ok (.if_icmp .ge 18, 3) := by decide +kernel
theorem dX6_queued_15 : decode cX6_queued 15 = .ok (.iload_n 1, 1) := by decide +kernel
theorem dX6_queued_16 : decode cX6_queued 16 = .ok (.aload_n 0, 1) := by decide +kernel
theorem dX6_queued_17 : decode cX6_queued 17 = .ok (.getfield 59, 3) := by decide +kernel
theorem dX6_queued_20 : decode cX6_queued 20 = .ok (.iload_n 2, 1) := by decide +kernel
theorem dX6_queued_21 : decode cX6_queued 21 = .ok (.iaload, 1) := by decide +kernel
theorem dX6_queued_22 : decode cX6_queued 22 = .ok (.iadd, 1) := by decide +kernel
theorem dX6_queued_23 : decode cX6_queued 23 = .ok (.istore_n 1, 1) := by decide +kernel
theorem dX6_queued_24 : decode cX6_queued 24 = .ok (.iinc 2 1, 3) := by decide +kernel
theorem dX6_queued_27 : decode cX6_queued 27 = .ok (.goto (-18), 3) := by decide +kernel
theorem dX6_queued_30 : decode cX6_queued 30 = .ok (.iload_n 1, 1) := by decide +kernel
theorem dX6_queued_31 : decode cX6_queued 31 = .ok (.ireturn, 1) := by decide +kernel
set_option maxRecDepth 20000 in
theorem ggX6_open_X6_isHost : GoodIn wsX6_open wsX6_isHost := goodIn_r _ [5, 6, 7, 4, 8] (by decide +kernel) (by decide +kernel)
set_option maxRecDepth 20000 in
theorem gX6_open_X6_isHost : GoodIn wsX6_open (va_wsS RX6 131 yX6_isHost wsX6_isHost) := goodIn_app (goodIn_of _ (by decide +kernel)) ggX6_open_X6_isHost
set_option maxRecDepth 20000 in
theorem ggX6_open_X6_goes : GoodIn wsX6_open wsX6_goes := goodIn_r _ [12, 13, 14, 15, 16, 17, 18, 19, 20, 21, 22, 23, 24, 25, 26, 27, 28, 29, 30, 31, 32, 33, 34, 35, 36, 37, 38, 39, 40, 41, 42, 43, 44, 45, 46, 47, 48, 49] (by decide +kernel) (by decide +kernel)
set_option maxRecDepth 20000 in
theorem gX6_open_X6_goes : GoodIn wsX6_open (wsV RX6 124 RX6 yX6_goes wsX6_goes) := goodIn_app (goodIn_of _ (by decide +kernel)) ggX6_open_X6_goes
theorem dX6_open_0 : decode cX6_open 0 = .ok (.aload_n 0, 1) := by decide +kernel
theorem dX6_open_1 : decode cX6_open 1 = .ok (.iload_n 1, 1) := by decide +kernel
theorem dX6_open_2 : decode cX6_open 2 = .ok (.invokestatic 131, 3) := by decide +kernel
theorem dX6_open_5 : decode cX6_open 5 = .ok (.ifCond .eq 7, 3) := by decide +kernel
theorem dX6_open_8 : decode cX6_open 8 = .ok (.iconst 0, 1) := by decide +kernel
theorem dX6_open_9 : decode cX6_open 9 = .ok (.goto 4, 3) := by decide +kernel
theorem dX6_open_12 : decode cX6_open 12 = .ok (.iconst 1, 1) := by decide +kernel
theorem dX6_open_13 : decode cX6_open 13 = .ok (.invokevirtual 124, 3) := by decide +kernel
theorem dX6_open_16 : decode cX6_open 16 = .ok (.ifCond .eq 12, 3) := by decide +kernel
theorem dX6_open_19 : decode cX6_open 19 = .ok (.aload_n 0, 1) := by decide +kernel
theorem dX6_open_20 : decode cX6_open 20 = .ok (.getfield 93, 3) := by decide +kernel
theorem dX6_open_23 : decode cX6_open 23 = .ok (.iload_n 1, 1) := by decide +kernel
theorem dX6_open_24 : decode cX6_open 24 = .ok (.iaload, 1) := by decide +kernel
theorem dX6_open_25 : decode cX6_open 25 = .ok (.goto 4, 3) := by decide +kernel
theorem dX6_open_28 : decode cX6_open 28 = .ok (.iconst 0, 1) := by decide +kernel
theorem dX6_open_29 : decode cX6_open 29 = .ok (.ireturn, 1) := by decide +kernel
set_option maxRecDepth 20000 in
theorem ggX6_usable_X6_areFour : GoodIn wsX6_usable wsX6_areFour := goodIn_r _ [4, 5, 6, 3, 7] (by decide +kernel) (by decide +kernel)
set_option maxRecDepth 20000 in
theorem gX6_usable_X6_areFour : GoodIn wsX6_usable (va_wsS RX6 134 yX6_areFour wsX6_areFour) := goodIn_app (goodIn_of _ (by decide +kernel)) ggX6_usable_X6_areFour
set_option maxRecDepth 20000 in
theorem ggX6_usable_X6_goes : GoodIn wsX6_usable wsX6_goes := goodIn_r _ [11, 12, 22, 23, 24, 25, 26, 27, 28, 29, 30, 31, 32, 33, 34, 35, 36, 37, 38, 39, 40, 41, 42, 43, 44, 45, 46, 47, 48, 49, 50, 51, 52, 53, 54, 55, 56, 57] (by decide +kernel) (by decide +kernel)
set_option maxRecDepth 20000 in
theorem gX6_usable_X6_goes : GoodIn wsX6_usable (wsV RX6 124 RX6 yX6_goes wsX6_goes) := goodIn_app (goodIn_of _ (by decide +kernel)) ggX6_usable_X6_goes
set_option maxRecDepth 20000 in
theorem ggX6_usable_X6_usableSet : GoodIn wsX6_usable wsX6_usableSet := goodIn_r _ [16, 17, 18, 19, 3, 20, 21, 22, 23, 24, 25, 26, 27, 28, 29, 30, 31, 32, 33, 34, 35, 36, 37, 38, 39, 40, 41, 42, 43, 44, 45, 46, 47, 48, 49, 50, 51, 52, 53, 54, 55, 56, 57] (by decide +kernel) (by decide +kernel)
set_option maxRecDepth 20000 in
theorem gX6_usable_X6_usableSet : GoodIn wsX6_usable (wsV RX6 171 RX6 yX6_usableSet wsX6_usableSet) := goodIn_app (goodIn_of _ (by decide +kernel)) ggX6_usable_X6_usableSet
theorem dX6_usable_0 : decode cX6_usable 0 = .ok (.aload_n 0, 1) := by decide +kernel
theorem dX6_usable_1 : decode cX6_usable 1 = .ok (.iload_n 1, 1) := by decide +kernel
theorem dX6_usable_2 : decode cX6_usable 2 = .ok (.iload_n 2, 1) := by decide +kernel
theorem dX6_usable_3 : decode cX6_usable 3 = .ok (.invokestatic 134, 3) := by decide +kernel
theorem dX6_usable_6 : decode cX6_usable 6 = .ok (.ifCond .eq 12, 3) := by decide +kernel
theorem dX6_usable_9 : decode cX6_usable 9 = .ok (.iload_n 1, 1) := by decide +kernel
theorem dX6_usable_10 : decode cX6_usable 10 = .ok (.iload_n 2, 1) := by decide +kernel
theorem dX6_usable_11 : decode cX6_usable 11 = .ok (.if_icmp .eq 7, 3) := by decide +kernel
theorem dX6_usable_14 : decode cX6_usable 14 = .ok (.iconst 0, 1) := by decide +kernel
theorem dX6_usable_15 : decode cX6_usable 15 = .ok (.goto 4, 3) := by decide +kernel
theorem dX6_usable_18 : decode cX6_usable 18 = .ok (.iconst 1, 1) := by decide +kernel
theorem dX6_usable_19 : decode cX6_usable 19 = .ok (.invokevirtual 124, 3) := by decide +kernel
theorem dX6_usable_22 : decode cX6_usable 22 = .ok (.ifCond .eq 12, 3) := by decide +kernel
theorem dX6_usable_25 : decode cX6_usable 25 = .ok (.aload_n 0, 1) := by decide +kernel
theorem dX6_usable_26 : decode cX6_usable 26 = .ok (.iload_n 1, 1) := by decide +kernel
theorem dX6_usable_27 : decode cX6_usable 27 = .ok (.iload_n 2, 1) := by decide +kernel
theorem dX6_usable_28 : decode cX6_usable 28 = .ok (.invokevirtual 171, 3) := by decide +kernel
theorem dX6_usable_31 : decode cX6_usable 31 = .ok (.goto 4, 3) := by decide +kernel
theorem dX6_usable_34 : decode cX6_usable 34 = .ok (.iconst 0, 1) := by decide +kernel
theorem dX6_usable_35 : decode cX6_usable 35 = .ok (.ireturn, 1) := by decide +kernel
theorem dX6_toSend_0 : decode cX6_toSend 0 = .ok (.aload_n 0, 1) := by decide +kernel
theorem dX6_toSend_1 : decode cX6_toSend 1 = .ok (.getfield 23, 3) := by decide +kernel
theorem dX6_toSend_4 : decode cX6_toSend 4 = .ok (.iload_n 1, 1) := by decide +kernel
theorem dX6_toSend_5 : decode cX6_toSend 5 = .ok (.iaload, 1) := by decide +kernel
theorem dX6_toSend_6 : decode cX6_toSend 6 = .ok (.aload_n 0, 1) := by decide +kernel
theorem dX6_toSend_7 : decode cX6_toSend 7 = .ok (.getfield 29, 3) := by decide +kernel
theorem dX6_toSend_10 : decode cX6_toSend 10 = .ok (.iload_n 1, 1) := by decide +kernel
theorem dX6_toSend_11 : decode cX6_toSend 11 = .ok (.iaload, 1) := by decide +kernel
theorem dX6_toSend_12 : decode cX6_toSend 12 = .ok (.isub, 1) := by decide +kernel
theorem dX6_toSend_13 : decode cX6_toSend 13 = .ok (.aload_n 0, 1) := by decide +kernel
theorem dX6_toSend_14 : decode cX6_toSend 14 = .ok (.getfield 35, 3) := by decide +kernel
theorem dX6_toSend_17 : decode cX6_toSend 17 = .ok (.iload_n 1, 1) := by decide +kernel
theorem dX6_toSend_18 : decode cX6_toSend 18 = .ok (.iaload, 1) := by decide +kernel
theorem dX6_toSend_19 : decode cX6_toSend 19 = .ok (.iadd, 1) := by decide +kernel
theorem dX6_toSend_20 : decode cX6_toSend 20 = .ok (.ireturn, 1) := by decide +kernel
set_option maxRecDepth 20000 in
theorem ggX6_sum_X6_isFar : GoodIn wsX6_sum wsX6_isFar := goodIn_r _ [8, 2, 3, 16, 17, 18, 19, 20, 21, 22, 23, 24, 25, 26, 27, 28, 29, 30, 31, 32, 33, 34, 35, 36, 37, 38, 39, 40, 41, 42, 43, 44, 45, 46, 47, 48, 49, 50, 51] (by decide +kernel) (by decide +kernel)
set_option maxRecDepth 20000 in
theorem gX6_sum_X6_isFar : GoodIn wsX6_sum (wsV RX6 162 RX6 yX6_isFar wsX6_isFar) := goodIn_app (goodIn_of _ (by decide +kernel)) ggX6_sum_X6_isFar
set_option maxRecDepth 20000 in
theorem ggX6_sum_X6_toSend : GoodIn wsX6_sum wsX6_toSend := goodIn_r _ [12, 13, 14, 15, 16, 17, 18, 19, 20, 21, 22, 23, 24, 25, 26, 27, 28, 29, 30, 31, 32, 33, 34, 35, 36, 37, 38, 39, 40, 41, 42, 43, 44, 45, 46, 47, 48, 49, 50, 51] (by decide +kernel) (by decide +kernel)
set_option maxRecDepth 20000 in
theorem gX6_sum_X6_toSend : GoodIn wsX6_sum (wsV RX6 218 RX6 yX6_toSend wsX6_toSend) := goodIn_app (goodIn_of _ (by decide +kernel)) ggX6_sum_X6_toSend
theorem dX6_sum_0 : decode cX6_sum 0 = .ok (.iconst 0, 1) := by decide +kernel
theorem dX6_sum_1 : decode cX6_sum 1 = .ok (.istore_n 3, 1) := by decide +kernel
theorem dX6_sum_2 : decode cX6_sum 2 = .ok (.iconst 0, 1) := by decide +kernel
theorem dX6_sum_3 : decode cX6_sum 3 = .ok (.istore 4, 2) := by decide +kernel
theorem dX6_sum_5 : decode cX6_sum 5 = .ok (.iload 4, 2) := by decide +kernel
theorem dX6_sum_7 : decode cX6_sum 7 = .ok (.aload_n 0, 1) := by decide +kernel
theorem dX6_sum_8 : decode cX6_sum 8 = .ok (.getfield 118, 3) := by decide +kernel
theorem dX6_sum_11 : decode cX6_sum 11 = .ok (.if_icmp .ge 95, 3) := by decide +kernel
theorem dX6_sum_14 : decode cX6_sum 14 = .ok (.iload_n 1, 1) := by decide +kernel
theorem dX6_sum_15 : decode cX6_sum 15 = .ok (.iconst 2, 1) := by decide +kernel
theorem dX6_sum_16 : decode cX6_sum 16 = .ok (.irem, 1) := by decide +kernel
theorem dX6_sum_17 : decode cX6_sum 17 = .ok (.ifCond .ne 13, 3) := by decide +kernel
theorem dX6_sum_20 : decode cX6_sum 20 = .ok (.aload_n 0, 1) := by decide +kernel
theorem dX6_sum_21 : decode cX6_sum 21 = .ok (.getfield 16, 3) := by decide +kernel
theorem dX6_sum_24 : decode cX6_sum 24 = .ok (.iload 4, 2) := by decide +kernel
theorem dX6_sum_26 : decode cX6_sum 26 = .ok (.iaload, 1) := by decide +kernel
theorem dX6_sum_27 : decode cX6_sum 27 = .ok (.goto 10, 3) := by decide +kernel
theorem dX6_sum_30 : decode cX6_sum 30 = .ok (.aload_n 0, 1) := by decide +kernel
theorem dX6_sum_31 : decode cX6_sum 31 = .ok (.getfield 20, 3) := by decide +kernel
theorem dX6_sum_34 : decode cX6_sum 34 = .ok (.iload 4, 2) := by decide +kernel
theorem dX6_sum_36 : decode cX6_sum 36 = .ok (.iaload, 1) := by decide +kernel
theorem dX6_sum_37 : decode cX6_sum 37 = .ok (.istore 5, 2) := by decide +kernel
theorem dX6_sum_39 : decode cX6_sum 39 = .ok (.iload_n 1, 1) := by decide +kernel
theorem dX6_sum_40 : decode cX6_sum 40 = .ok (.iconst 2, 1) := by decide +kernel
theorem dX6_sum_41 : decode cX6_sum 41 = .ok (.if_icmp .ge 17, 3) := by decide +kernel
theorem dX6_sum_44 : decode cX6_sum 44 = .ok (.iload 5, 2) := by decide +kernel
theorem dX6_sum_46 : decode cX6_sum 46 = .ok (.iload_n 2, 1) := by decide +kernel
theorem dX6_sum_47 : decode cX6_sum 47 = .ok (.if_icmp .ne 7, 3) := by decide +kernel
theorem dX6_sum_50 : decode cX6_sum 50 = .ok (.iconst 1, 1) := by decide +kernel
theorem dX6_sum_51 : decode cX6_sum 51 = .ok (.goto 29, 3) := by decide +kernel
theorem dX6_sum_54 : decode cX6_sum 54 = .ok (.iconst 0, 1) := by decide +kernel
theorem dX6_sum_55 : decode cX6_sum 55 = .ok (.goto 25, 3) := by decide +kernel
theorem dX6_sum_58 : decode cX6_sum 58 = .ok (.aload_n 0, 1) := by decide +kernel
theorem dX6_sum_59 : decode cX6_sum 59 = .ok (.iload 4, 2) := by decide +kernel
theorem dX6_sum_61 : decode cX6_sum 61 = .ok (.invokevirtual 162, 3) := by decide +kernel
theorem dX6_sum_64 : decode cX6_sum 64 = .ok (.ifCond .eq 15, 3) := by decide +kernel
theorem dX6_sum_67 : decode cX6_sum 67 = .ok (.iload 5, 2) := by decide +kernel
theorem dX6_sum_69 : decode cX6_sum 69 = .ok (.iconst 4, 1) := by decide +kernel
theorem dX6_sum_70 : decode cX6_sum 70 = .ok (.idiv, 1) := by decide +kernel
theorem dX6_sum_71 : decode cX6_sum 71 = .ok (.iload_n 2, 1) := by decide +kernel
theorem dX6_sum_72 : decode cX6_sum 72 = .ok (.if_icmp .ne 7, 3) := by decide +kernel
theorem dX6_sum_75 : decode cX6_sum 75 = .ok (.iconst 1, 1) := by decide +kernel
theorem dX6_sum_76 : decode cX6_sum 76 = .ok (.goto 4, 3) := by decide +kernel
theorem dX6_sum_79 : decode cX6_sum 79 = .ok (.iconst 0, 1) := by decide +kernel
theorem dX6_sum_80 : decode cX6_sum 80 = .ok (.istore 6, 2) := by decide +kernel
theorem dX6_sum_82 : decode cX6_sum 82 = .ok (.iload_n 3, 1) := by decide +kernel
theorem dX6_sum_83 : decode cX6_sum 83 = .ok (.iload 6, 2) := by decide +kernel
theorem dX6_sum_85 : decode cX6_sum 85 = .ok (.ifCond .eq 12, 3) := by decide +kernel
theorem dX6_sum_88 : decode cX6_sum 88 = .ok (.aload_n 0, 1) := by decide +kernel
theorem dX6_sum_89 : decode cX6_sum 89 = .ok (.iload 4, 2) := by decide +kernel
theorem dX6_sum_91 : decode cX6_sum 91 = .ok (.invokevirtual 218, 3) := by decide +kernel
theorem dX6_sum_94 : decode cX6_sum 94 = .ok (.goto 4, 3) := by decide +kernel
theorem dX6_sum_97 : decode cX6_sum 97 = .ok (.iconst 0, 1) := by decide +kernel
theorem dX6_sum_98 : decode cX6_sum 98 = .ok (.iadd, 1) := by decide +kernel
theorem dX6_sum_99 : decode cX6_sum 99 = .ok (.istore_n 3, 1) := by decide +kernel
theorem dX6_sum_100 : decode cX6_sum 100 = .ok (.iinc 4 1, 3) := by decide +kernel
theorem dX6_sum_103 : decode cX6_sum 103 = .ok (.goto (-98), 3) := by decide +kernel
theorem dX6_sum_106 : decode cX6_sum 106 = .ok (.iload_n 3, 1) := by decide +kernel
theorem dX6_sum_107 : decode cX6_sum 107 = .ok (.ireturn, 1) := by decide +kernel
theorem dX6_uncut_0 : decode cX6_uncut 0 = .ok (.iconst 0, 1) := by decide +kernel
theorem dX6_uncut_1 : decode cX6_uncut 1 = .ok (.istore_n 2, 1) := by decide +kernel
theorem dX6_uncut_2 : decode cX6_uncut 2 = .ok (.iconst 0, 1) := by decide +kernel
theorem dX6_uncut_3 : decode cX6_uncut 3 = .ok (.istore_n 3, 1) := by decide +kernel
theorem dX6_uncut_4 : decode cX6_uncut 4 = .ok (.iload_n 3, 1) := by decide +kernel
theorem dX6_uncut_5 : decode cX6_uncut 5 = .ok (.iconst 4, 1) := by decide +kernel
theorem dX6_uncut_6 : decode cX6_uncut 6 = .ok (.if_icmp .ge 30, 3) := by decide +kernel
theorem dX6_uncut_9 : decode cX6_uncut 9 = .ok (.iload_n 2, 1) := by decide +kernel
theorem dX6_uncut_10 : decode cX6_uncut 10 = .ok (.aload_n 0, 1) := by decide +kernel
theorem dX6_uncut_11 : decode cX6_uncut 11 = .ok (.getfield 83, 3) := by decide +kernel
theorem dX6_uncut_14 : decode cX6_uncut 14 = .ok (.iconst 4, 1) := by decide +kernel
theorem dX6_uncut_15 : decode cX6_uncut 15 = .ok (.iload_n 1, 1) := by decide +kernel
theorem dX6_uncut_16 : decode cX6_uncut 16 = .ok (.imul, 1) := by decide +kernel
theorem dX6_uncut_17 : decode cX6_uncut 17 = .ok (.iload_n 3, 1) := by decide +kernel
theorem dX6_uncut_18 : decode cX6_uncut 18 = .ok (.iadd, 1) := by decide +kernel
theorem dX6_uncut_19 : decode cX6_uncut 19 = .ok (.baload, 1) := by decide +kernel
theorem dX6_uncut_20 : decode cX6_uncut 20 = .ok (.ifCond .eq 7, 3) := by decide +kernel
theorem dX6_uncut_23 : decode cX6_uncut 23 = .ok (.iconst 0, 1) := by decide +kernel
theorem dX6_uncut_24 : decode cX6_uncut 24 = .ok (.goto 4, 3) := by decide +kernel
theorem dX6_uncut_27 : decode cX6_uncut 27 = .ok (.iconst 1, 1) := by decide +kernel
theorem dX6_uncut_28 : decode cX6_uncut 28 = .ok (.iadd, 1) := by decide +kernel
theorem dX6_uncut_29 : decode cX6_uncut 29 = .ok (.istore_n 2, 1) := by decide +kernel
theorem dX6_uncut_30 : decode cX6_uncut 30 = .ok (.iinc 3 1, 3) := by decide +kernel
theorem dX6_uncut_33 : decode cX6_uncut 33 = .ok (.goto (-29), 3) := by decide +kernel
theorem dX6_uncut_36 : decode cX6_uncut 36 = .ok (.iload_n 2, 1) := by decide +kernel
theorem dX6_uncut_37 : decode cX6_uncut 37 = .ok (.ireturn, 1) := by decide +kernel
set_option maxRecDepth 20000 in
theorem ggX6_leastTicks_X6_sum : GoodIn wsX6_leastTicks wsX6_sum := goodIn_r _ [6, 7, 8, 9, 10, 11, 12, 5, 13, 14, 15, 16, 17, 18, 19, 20, 26, 27, 28, 29, 30, 31, 32, 33, 34, 35, 36, 37, 38, 39, 40, 41, 42, 43, 44, 45, 46, 47, 48, 49, 50, 51, 52, 53, 54, 55, 56, 57, 58, 59, 60, 61] (by decide +kernel) (by decide +kernel)
set_option maxRecDepth 20000 in
theorem gX6_leastTicks_X6_sum : GoodIn wsX6_leastTicks (wsV RX6 221 RX6 yX6_sum wsX6_sum) := goodIn_app (goodIn_of _ (by decide +kernel)) ggX6_leastTicks_X6_sum
set_option maxRecDepth 20000 in
theorem ggX6_leastTicks_X6_uncut : GoodIn wsX6_leastTicks wsX6_uncut := goodIn_r _ [24, 25, 26, 27, 28, 29, 30, 31, 32, 33, 34, 35, 36, 37, 38, 39, 40, 41, 42, 43, 44, 45, 46, 47, 48, 49, 50, 51, 52, 53, 54, 55, 56, 57, 58, 59, 60, 61] (by decide +kernel) (by decide +kernel)
set_option maxRecDepth 20000 in
theorem gX6_leastTicks_X6_uncut : GoodIn wsX6_leastTicks (wsV RX6 224 RX6 yX6_uncut wsX6_uncut) := goodIn_app (goodIn_of _ (by decide +kernel)) ggX6_leastTicks_X6_uncut
theorem dX6_leastTicks_0 : decode cX6_leastTicks 0 = .ok (.aload_n 0, 1) := by decide +kernel
theorem dX6_leastTicks_1 : decode cX6_leastTicks 1 = .ok (.iconst 0, 1) := by decide +kernel
theorem dX6_leastTicks_2 : decode cX6_leastTicks 2 = .ok (.putfield 111, 3) := by decide +kernel
theorem dX6_leastTicks_5 : decode cX6_leastTicks 5 = .ok (.iconst 0, 1) := by decide +kernel
theorem dX6_leastTicks_6 : decode cX6_leastTicks 6 = .ok (.istore_n 1, 1) := by decide +kernel
theorem dX6_leastTicks_7 : decode cX6_leastTicks 7 = .ok (.iconst 0, 1) := by decide +kernel
theorem dX6_leastTicks_8 : decode cX6_leastTicks 8 = .ok (.istore_n 2, 1) := by decide +kernel
theorem dX6_leastTicks_9 : decode cX6_leastTicks 9 = .ok (.iconst 0, 1) := by decide +kernel
theorem dX6_leastTicks_10 : decode cX6_leastTicks 10 = .ok (.istore_n 3, 1) := by decide +kernel
theorem dX6_leastTicks_11 : decode cX6_leastTicks 11 = .ok (.iload_n 3, 1) := by decide +kernel
theorem dX6_leastTicks_12 : decode cX6_leastTicks 12 = .ok (.bipush 32, 2) := by decide +kernel
theorem dX6_leastTicks_14 : decode cX6_leastTicks 14 = .ok (.if_icmp .ge 34, 3) := by decide +kernel
theorem dX6_leastTicks_17 : decode cX6_leastTicks 17 = .ok (.aload_n 0, 1) := by decide +kernel
theorem dX6_leastTicks_18 : decode cX6_leastTicks 18 = .ok (.iload_n 3, 1) := by decide +kernel
theorem dX6_leastTicks_19 : decode cX6_leastTicks 19 = .ok (.iconst 2, 1) := by decide +kernel
theorem dX6_leastTicks_20 : decode cX6_leastTicks 20 = .ok (.irem, 1) := by decide +kernel
theorem dX6_leastTicks_21 : decode cX6_leastTicks 21 = .ok (.iload_n 3, 1) := by decide +kernel
theorem dX6_leastTicks_22 : decode cX6_leastTicks 22 = .ok (.iconst 2, 1) := by decide +kernel
theorem dX6_leastTicks_23 : decode cX6_leastTicks 23 = .ok (.idiv, 1) := by decide +kernel
theorem dX6_leastTicks_24 : decode cX6_leastTicks 24 = .ok (.invokevirtual 221, 3) := by decide +kernel
theorem dX6_leastTicks_27 : decode cX6_leastTicks 27 = .ok (.istore 4, 2) := by decide +kernel
theorem dX6_leastTicks_29 : decode cX6_leastTicks 29 = .ok (.iload 4, 2) := by decide +kernel
theorem dX6_leastTicks_31 : decode cX6_leastTicks 31 = .ok (.iload_n 1, 1) := by decide +kernel
theorem dX6_leastTicks_32 : decode cX6_leastTicks 32 = .ok (.if_icmp .le 8, 3) := by decide +kernel
theorem dX6_leastTicks_35 : decode cX6_leastTicks 35 = .ok (.iload 4, 2) := by decide +kernel
theorem dX6_leastTicks_37 : decode cX6_leastTicks 37 = .ok (.goto 4, 3) := by decide +kernel
theorem dX6_leastTicks_40 : decode cX6_leastTicks 40 = .ok (.iload_n 1, 1) := by decide +kernel
theorem dX6_leastTicks_41 : decode cX6_leastTicks 41 = .ok (.istore_n 1, 1) := by decide +kernel
theorem dX6_leastTicks_42 : decode cX6_leastTicks 42 = .ok (.iinc 3 1, 3) := by decide +kernel
theorem dX6_leastTicks_45 : decode cX6_leastTicks 45 = .ok (.goto (-34), 3) := by decide +kernel
theorem dX6_leastTicks_48 : decode cX6_leastTicks 48 = .ok (.iconst 0, 1) := by decide +kernel
theorem dX6_leastTicks_49 : decode cX6_leastTicks 49 = .ok (.istore_n 3, 1) := by decide +kernel
theorem dX6_leastTicks_50 : decode cX6_leastTicks 50 = .ok (.iload_n 3, 1) := by decide +kernel
theorem dX6_leastTicks_51 : decode cX6_leastTicks 51 = .ok (.bipush 8, 2) := by decide +kernel
theorem dX6_leastTicks_53 : decode cX6_leastTicks 53 = .ok (.if_icmp .ge 86, 3) := by decide +kernel
theorem dX6_leastTicks_56 : decode cX6_leastTicks 56 = .ok (.aload_n 0, 1) := by decide +kernel
theorem dX6_leastTicks_57 : decode cX6_leastTicks 57 = .ok (.iconst 2, 1) := by decide +kernel
theorem dX6_leastTicks_58 : decode cX6_leastTicks 58 = .ok (.iload_n 3, 1) := by decide +kernel
theorem dX6_leastTicks_59 : decode cX6_leastTicks 59 = .ok (.iconst 2, 1) := by decide +kernel
theorem dX6_leastTicks_60 : decode cX6_leastTicks 60 = .ok (.irem, 1) := by decide +kernel
theorem dX6_leastTicks_61 : decode cX6_leastTicks 61 = .ok (.iadd, 1) := by decide +kernel
theorem dX6_leastTicks_62 : decode cX6_leastTicks 62 = .ok (.iload_n 3, 1) := by decide +kernel
theorem dX6_leastTicks_63 : decode cX6_leastTicks 63 = .ok (.iconst 2, 1) := by decide +kernel
theorem dX6_leastTicks_64 : decode cX6_leastTicks 64 = .ok (.idiv, 1) := by decide +kernel
theorem dX6_leastTicks_65 : decode cX6_leastTicks 65 = .ok (.invokevirtual 221, 3) := by decide +kernel
theorem dX6_leastTicks_68 : decode cX6_leastTicks 68 = .ok (.istore 4, 2) := by decide +kernel
theorem dX6_leastTicks_70 : decode cX6_leastTicks 70 = .ok (.aload_n 0, 1) := by decide +kernel
theorem dX6_leastTicks_71 : decode cX6_leastTicks 71 = .ok (.iload_n 3, 1) := by decide +kernel
theorem dX6_leastTicks_72 : decode cX6_leastTicks 72 = .ok (.iconst 2, 1) := by decide +kernel
theorem dX6_leastTicks_73 : decode cX6_leastTicks 73 = .ok (.idiv, 1) := by decide +kernel
theorem dX6_leastTicks_74 : decode cX6_leastTicks 74 = .ok (.invokevirtual 224, 3) := by decide +kernel
theorem dX6_leastTicks_77 : decode cX6_leastTicks 77 = .ok (.istore 5, 2) := by decide +kernel
theorem dX6_leastTicks_79 : decode cX6_leastTicks 79 = .ok (.iload_n 2, 1) := by decide +kernel
theorem dX6_leastTicks_80 : decode cX6_leastTicks 80 = .ok (.ifCond .ne 13, 3) := by decide +kernel
theorem dX6_leastTicks_83 : decode cX6_leastTicks 83 = .ok (.iload 5, 2) := by decide +kernel
theorem dX6_leastTicks_85 : decode cX6_leastTicks 85 = .ok (.ifCond .ne 12, 3) := by decide +kernel
theorem dX6_leastTicks_88 : decode cX6_leastTicks 88 = .ok (.iload 4, 2) := by decide +kernel
theorem dX6_leastTicks_90 : decode cX6_leastTicks 90 = .ok (.ifCond .le 7, 3) := by decide +kernel
theorem dX6_leastTicks_93 : decode cX6_leastTicks 93 = .ok (.iconst 1, 1) := by decide +kernel
theorem dX6_leastTicks_94 : decode cX6_leastTicks 94 = .ok (.goto 4, 3) := by decide +kernel
theorem dX6_leastTicks_97 : decode cX6_leastTicks 97 = .ok (.iconst 0, 1) := by decide +kernel
theorem dX6_leastTicks_98 : decode cX6_leastTicks 98 = .ok (.istore_n 2, 1) := by decide +kernel
theorem dX6_leastTicks_99 : decode cX6_leastTicks 99 = .ok (.iload 5, 2) := by decide +kernel
theorem dX6_leastTicks_101 : decode cX6_leastTicks 101 = .ok (.ifCond .ne 7, 3) := by decide +kernel
theorem dX6_leastTicks_104 : decode cX6_leastTicks 104 = .ok (.iconst 0, 1) := by decide +kernel
theorem dX6_leastTicks_105 : decode cX6_leastTicks 105 = .ok (.goto 13, 3) := by decide +kernel
theorem dX6_leastTicks_108 : decode cX6_leastTicks 108 = .ok (.iload 4, 2) := by decide +kernel
theorem dX6_leastTicks_110 : decode cX6_leastTicks 110 = .ok (.iload 5, 2) := by decide +kernel
theorem dX6_leastTicks_112 : decode cX6_leastTicks 112 = .ok (.iadd, 1) := by decide +kernel
theorem dX6_leastTicks_113 : decode cX6_leastTicks 113 = .ok (.iconst 1, 1) := by decide +kernel
theorem dX6_leastTicks_114 : decode cX6_leastTicks 114 = .ok (.isub, 1) := by decide +kernel
theorem dX6_leastTicks_115 : decode cX6_leastTicks 115 = .ok (.iload 5, 2) := by decide +kernel
theorem dX6_leastTicks_117 : decode cX6_leastTicks 117 = .ok (.idiv, 1) := by decide +kernel
theorem dX6_leastTicks_118 : decode cX6_leastTicks 118 = .ok (.istore 6, 2) := by decide +kernel
theorem dX6_leastTicks_120 : decode cX6_leastTicks 120 = .ok (.iload 6, 2) := by decide +kernel
theorem dX6_leastTicks_122 : decode cX6_leastTicks 122 = .ok (.iload_n 1, 1) := by decide +kernel
theorem dX6_leastTicks_123 : decode cX6_leastTicks 123 = .ok (.if_icmp .le 8, 3) := by decide +kernel
theorem dX6_leastTicks_126 : decode cX6_leastTicks 126 = .ok (.iload 6, 2) := by decide +kernel
theorem dX6_leastTicks_128 : decode cX6_leastTicks 128 = .ok (.goto 4, 3) := by decide +kernel
theorem dX6_leastTicks_131 : decode cX6_leastTicks 131 = .ok (.iload_n 1, 1) := by decide +kernel
theorem dX6_leastTicks_132 : decode cX6_leastTicks 132 = .ok (.istore_n 1, 1) := by decide +kernel
theorem dX6_leastTicks_133 : decode cX6_leastTicks 133 = .ok (.iinc 3 1, 3) := by decide +kernel
theorem dX6_leastTicks_136 : decode cX6_leastTicks 136 = .ok (.goto (-86), 3) := by decide +kernel
theorem dX6_leastTicks_139 : decode cX6_leastTicks 139 = .ok (.iload_n 2, 1) := by decide +kernel
theorem dX6_leastTicks_140 : decode cX6_leastTicks 140 = .ok (.ifCond .eq 7, 3) := by decide +kernel
theorem dX6_leastTicks_143 : decode cX6_leastTicks 143 = .ok (.iconst (-1), 1) := by decide +kernel
theorem dX6_leastTicks_144 : decode cX6_leastTicks 144 = .ok (.goto 4, 3) := by decide +kernel
theorem dX6_leastTicks_147 : decode cX6_leastTicks 147 = .ok (.iload_n 1, 1) := by decide +kernel
theorem dX6_leastTicks_148 : decode cX6_leastTicks 148 = .ok (.ireturn, 1) := by decide +kernel
