theorem dX8_codes_211 : decode cX8_codes 211 = .ok (.if_icmp .ne 22, 3) := by decide +kernel
theorem dX8_codes_214 : decode cX8_codes 214 = .ok (.iload_n 3, 1) := by decide +kernel
theorem dX8_codes_215 : decode cX8_codes 215 = .ok (.ifCond .eq 12, 3) := by decide +kernel
theorem dX8_codes_218 : decode cX8_codes 218 = .ok (.aload_n 0, 1) := by decide +kernel
theorem dX8_codes_219 : decode cX8_codes 219 = .ok (.iload 6, 2) := by decide +kernel
theorem dX8_codes_221 : decode cX8_codes 221 = .ok (.putfield 81, 3) := by decide +kernel
theorem dX8_codes_224 : decode cX8_codes 224 = .ok (.goto 9, 3) := by decide +kernel
theorem dX8_codes_227 : decode cX8_codes 227 = .ok (.aload_n 0, 1) := by decide +kernel
theorem dX8_codes_228 : decode cX8_codes 228 = .ok (.iload 6, 2) := by decide +kernel
theorem dX8_codes_230 : decode cX8_codes 230 = .ok (.putfield 78, 3) := by decide +kernel
theorem dX8_codes_233 : decode cX8_codes 233 = .ok (.iload 4, 2) := by decide +kernel
theorem dX8_codes_235 : decode cX8_codes 235 = .ok (.ifCond .eq 27, 3) := by decide +kernel
theorem dX8_codes_238 : decode cX8_codes 238 = .ok (.iload 5, 2) := by decide +kernel
theorem dX8_codes_240 : decode cX8_codes 240 = .ok (.iconst 1, 1) := by decide +kernel
theorem dX8_codes_241 : decode cX8_codes 241 = .ok (.if_icmp .eq 21, 3) := by decide +kernel
theorem dX8_codes_244 : decode cX8_codes 244 = .ok (.iload 5, 2) := by decide +kernel
theorem dX8_codes_246 : decode cX8_codes 246 = .ok (.iconst 2, 1) := by decide +kernel
theorem dX8_codes_247 : decode cX8_codes 247 = .ok (.if_icmp .eq 15, 3) := by decide +kernel
theorem dX8_codes_250 : decode cX8_codes 250 = .ok (.iload 5, 2) := by decide +kernel
theorem dX8_codes_252 : decode cX8_codes 252 = .ok (.iconst 3, 1) := by decide +kernel
theorem dX8_codes_253 : decode cX8_codes 253 = .ok (.if_icmp .eq 9, 3) := by decide +kernel
theorem dX8_codes_256 : decode cX8_codes 256 = .ok (.aload_n 0, 1) := by decide +kernel
theorem dX8_codes_257 : decode cX8_codes 257 = .ok (.iload_n 2, 1) := by decide +kernel
theorem dX8_codes_258 : decode cX8_codes 258 = .ok (.iconst 0, 1) := by decide +kernel
theorem dX8_codes_259 : decode cX8_codes 259 = .ok (.invokevirtual 181, 3) := by decide +kernel
theorem dX8_codes_262 : decode cX8_codes 262 = .ok (.aload_n 0, 1) := by decide +kernel
theorem dX8_codes_263 : decode cX8_codes 263 = .ok (.iload 5, 2) := by decide +kernel
theorem dX8_codes_265 : decode cX8_codes 265 = .ok (.iconst 1, 1) := by decide +kernel
theorem dX8_codes_266 : decode cX8_codes 266 = .ok (.if_icmp .eq 27, 3) := by decide +kernel
theorem dX8_codes_269 : decode cX8_codes 269 = .ok (.iload 5, 2) := by decide +kernel
theorem dX8_codes_271 : decode cX8_codes 271 = .ok (.bipush 7, 2) := by decide +kernel
theorem dX8_codes_273 : decode cX8_codes 273 = .ok (.if_icmp .eq 20, 3) := by decide +kernel
theorem dX8_codes_276 : decode cX8_codes 276 = .ok (.iload 4, 2) := by decide +kernel
theorem dX8_codes_278 : decode cX8_codes 278 = .ok (.ifCond .eq 19, 3) := by decide +kernel
theorem dX8_codes_281 : decode cX8_codes 281 = .ok (.iload 5, 2) := by decide +kernel
theorem dX8_codes_283 : decode cX8_codes 283 = .ok (.iconst 2, 1) := by decide +kernel
theorem dX8_codes_284 : decode cX8_codes 284 = .ok (.if_icmp .eq 13, 3) := by decide +kernel
theorem dX8_codes_287 : decode cX8_codes 287 = .ok (.iload 5, 2) := by decide +kernel
theorem dX8_codes_289 : decode cX8_codes 289 = .ok (.iconst 3, 1) := by decide +kernel
theorem dX8_codes_290 : decode cX8_codes 290 = .ok (.if_icmp .eq 7, 3) := by decide +kernel
theorem dX8_codes_293 : decode cX8_codes 293 = .ok (.iconst 1, 1) := by decide +kernel
theorem dX8_codes_294 : decode cX8_codes 294 = .ok (.goto 4, 3) := by decide +kernel
theorem dX8_codes_297 : decode cX8_codes 297 = .ok (.iconst 0, 1) := by decide +kernel
theorem dX8_codes_298 : decode cX8_codes 298 = .ok (.putfield 122, 3) := by decide +kernel
theorem dX8_codes_301 : decode cX8_codes 301 = .ok (.return_, 1) := by decide +kernel
theorem dX8_both_0 : decode cX8_both 0 = .ok (.aload_n 0, 1) := by decide +kernel
theorem dX8_both_1 : decode cX8_both 1 = .ok (.getfield 81, 3) := by decide +kernel
theorem dX8_both_4 : decode cX8_both 4 = .ok (.i2l, 1) := by decide +kernel
theorem dX8_both_5 : decode cX8_both 5 = .ok (.bipush 16, 2) := by decide +kernel
theorem dX8_both_7 : decode cX8_both 7 = .ok (.lshl, 1) := by decide +kernel
theorem dX8_both_8 : decode cX8_both 8 = .ok (.aload_n 0, 1) := by decide +kernel
theorem dX8_both_9 : decode cX8_both 9 = .ok (.getfield 78, 3) := by decide +kernel
theorem dX8_both_12 : decode cX8_both 12 = .ok (.i2l, 1) := by decide +kernel
theorem dX8_both_13 : decode cX8_both 13 = .ok (.lor, 1) := by decide +kernel
theorem dX8_both_14 : decode cX8_both 14 = .ok (.lreturn, 1) := by decide +kernel
theorem dX8_both__0 : decode cX8_both_ 0 = .ok (.aload_n 0, 1) := by decide +kernel
theorem dX8_both__1 : decode cX8_both_ 1 = .ok (.lload_n 1, 1) := by decide +kernel
theorem dX8_both__2 : decode cX8_both_ 2 = .ok (.l2i, 1) := by decide +kernel
theorem dX8_both__3 : decode cX8_both_ 3 = .ok (.ldc 102, 2) := by decide +kernel
theorem dX8_both__5 : decode cX8_both_ 5 = .ok (.iand, 1) := by decide +kernel
theorem dX8_both__6 : decode cX8_both_ 6 = .ok (.putfield 78, 3) := by decide +kernel
theorem dX8_both__9 : decode cX8_both_ 9 = .ok (.aload_n 0, 1) := by decide +kernel
theorem dX8_both__10 : decode cX8_both_ 10 = .ok (.lload_n 1, 1) := by decide +kernel
theorem dX8_both__11 : decode cX8_both_ 11 = .ok (.bipush 16, 2) := by decide +kernel
theorem dX8_both__13 : decode cX8_both_ 13 = .ok (.lshr, 1) := by decide +kernel
theorem dX8_both__14 : decode cX8_both_ 14 = .ok (.l2i, 1) := by decide +kernel
theorem dX8_both__15 : decode cX8_both_ 15 = .ok (.ldc 102, 2) := by decide +kernel
theorem dX8_both__17 : decode cX8_both_ 17 = .ok (.iand, 1) := by decide +kernel
theorem dX8_both__18 : decode cX8_both_ 18 = .ok (.putfield 81, 3) := by decide +kernel
theorem dX8_both__21 : decode cX8_both_ 21 = .ok (.return_, 1) := by decide +kernel
set_option maxRecDepth 20000 in
theorem ggX8_extended_X8_more : GoodIn wsX8_extended wsX8_more := goodIn_r _ [10] (by decide +kernel) (by decide +kernel)
set_option maxRecDepth 20000 in
theorem gX8_extended_X8_more : GoodIn wsX8_extended (va_wsS RX8 87 yX8_more wsX8_more) := goodIn_app (goodIn_of _ (by decide +kernel)) ggX8_extended_X8_more
set_option maxRecDepth 20000 in
theorem ggX8_extended_X8_at : GoodIn wsX8_extended wsX8_at := goodIn_r _ [14, 15, 16, 17, 52, 53, 54, 55, 56, 57, 58, 59, 60, 61, 62, 63, 64, 65, 66, 67, 68, 69, 70, 71, 72, 73, 74, 75, 76, 77, 78, 79, 80, 81, 82, 83, 84, 85, 86] (by decide +kernel) (by decide +kernel)
set_option maxRecDepth 20000 in
theorem gX8_extended_X8_at : GoodIn wsX8_extended (wsV RX8 95 RX8 yX8_at wsX8_at) := goodIn_app (goodIn_of _ (by decide +kernel)) ggX8_extended_X8_at
set_option maxRecDepth 20000 in
theorem ggX8_extended_X8_direct : GoodIn wsX8_extended wsX8_direct := goodIn_r _ [21, 22, 23, 11, 12, 13, 9, 14, 15, 16, 17, 52, 53, 54, 55, 56, 57, 58, 59, 60, 61, 62, 63, 64, 65, 66, 67, 68, 69, 70, 71, 72, 73, 74, 75, 76, 77, 78, 79, 80, 81, 82, 83, 84, 85, 86] (by decide +kernel) (by decide +kernel)
set_option maxRecDepth 20000 in
theorem gX8_extended_X8_direct : GoodIn wsX8_extended (wsV RX8 144 RX8 yX8_direct wsX8_direct) := goodIn_app (goodIn_of _ (by decide +kernel)) ggX8_extended_X8_direct
set_option maxRecDepth 20000 in
theorem ggX8_extended_X8_twoWords : GoodIn wsX8_extended wsX8_twoWords := goodIn_r _ [27, 1, 15, 6, 2, 28, 29, 30, 16, 3, 7, 8, 9, 10, 31, 32, 33, 34, 11, 12, 13, 14, 17, 35, 36, 37, 38, 39, 40, 41, 42, 43, 44, 45, 46, 52, 53, 54, 55, 56, 57, 58, 59, 60, 61, 62, 63, 64, 65, 66, 67, 68, 69, 70, 71, 72, 73, 74, 75, 76, 77, 78, 79, 80, 81, 82, 83, 84, 85, 86] (by decide +kernel) (by decide +kernel)
set_option maxRecDepth 20000 in
theorem gX8_extended_X8_twoWords : GoodIn wsX8_extended (wsV RX8 202 RX8 yX8_twoWords wsX8_twoWords) := goodIn_app (goodIn_of _ (by decide +kernel)) ggX8_extended_X8_twoWords
set_option maxRecDepth 20000 in
theorem ggX8_extended_X8_both : GoodIn wsX8_extended wsX8_both := goodIn_r _ [42, 16, 15, 52, 53, 54, 55, 56, 57, 58, 59, 60, 61, 62, 63, 64, 65, 66, 67, 68, 69, 70, 71, 72, 73, 74, 75, 76, 77, 78, 79, 80, 81, 82, 83, 84, 85, 86] (by decide +kernel) (by decide +kernel)
set_option maxRecDepth 20000 in
theorem gX8_extended_X8_both : GoodIn wsX8_extended (wsV RX8 205 RX8 yX8_both wsX8_both) := goodIn_app (goodIn_of _ (by decide +kernel)) ggX8_extended_X8_both
set_option maxRecDepth 20000 in
theorem ggX8_extended_X8_leftSigned : GoodIn wsX8_extended wsX8_leftSigned := goodIn_r _ [50, 6, 51, 39, 40, 41, 9, 42, 16, 15, 35, 36, 37, 38, 30, 52, 53, 54, 55, 56, 57, 58, 59, 60, 61, 62, 63, 64, 65, 66, 67, 68, 69, 70, 71, 72, 73, 74, 75, 76, 77, 78, 79, 80, 81, 82, 83, 84, 85, 86] (by decide +kernel) (by decide +kernel)
set_option maxRecDepth 20000 in
theorem gX8_extended_X8_leftSigned : GoodIn wsX8_extended (wsV RX8 209 RX8 yX8_leftSigned wsX8_leftSigned) := goodIn_app (goodIn_of _ (by decide +kernel)) ggX8_extended_X8_leftSigned
set_option maxRecDepth 20000 in
theorem ggX8_extended_X8_both_ : GoodIn wsX8_extended wsX8_both_ := goodIn_r _ [38, 30, 15, 16, 52, 53, 54, 55, 56, 57, 58, 59, 60, 61, 62, 63, 64, 65, 66, 67, 68, 69, 70, 71, 72, 73, 74, 75, 76, 77, 78, 79, 80, 81, 82, 83, 84, 85, 86] (by decide +kernel) (by decide +kernel)
set_option maxRecDepth 20000 in
theorem gX8_extended_X8_both_ : GoodIn wsX8_extended (wsV RX8 212 RX8 yX8_both_ wsX8_both_) := goodIn_app (goodIn_of _ (by decide +kernel)) ggX8_extended_X8_both_
theorem dX8_extended_0 : decode cX8_extended 0 = .ok (.iload_n 1, 1) := by decide +kernel
theorem dX8_extended_1 : decode cX8_extended 1 = .ok (.ldc 198, 2) := by decide +kernel
theorem dX8_extended_3 : decode cX8_extended 3 = .ok (.if_icmp .eq 21, 3) := by decide +kernel
theorem dX8_extended_6 : decode cX8_extended 6 = .ok (.iload_n 1, 1) := by decide +kernel
theorem dX8_extended_7 : decode cX8_extended 7 = .ok (.ldc 199, 2) := by decide +kernel
theorem dX8_extended_9 : decode cX8_extended 9 = .ok (.if_icmp .eq 15, 3) := by decide +kernel
theorem dX8_extended_12 : decode cX8_extended 12 = .ok (.iload_n 1, 1) := by decide +kernel
theorem dX8_extended_13 : decode cX8_extended 13 = .ok (.ldc 200, 2) := by decide +kernel
theorem dX8_extended_15 : decode cX8_extended 15 = .ok (.if_icmp .eq 9, 3) := by decide +kernel
theorem dX8_extended_18 : decode cX8_extended 18 = .ok (.iload_n 1, 1) := by decide +kernel
theorem dX8_extended_19 : decode cX8_extended 19 = .ok (.ldc 201, 2) := by decide +kernel
theorem dX8_extended_21 : decode cX8_extended 21 = .ok (.if_icmp .ne 41, 3) := by decide +kernel
theorem dX8_extended_24 : decode cX8_extended 24 = .ok (.aload_n 0, 1) := by decide +kernel
theorem dX8_extended_25 : decode cX8_extended 25 = .ok (.getfield 84, 3) := by decide +kernel
theorem dX8_extended_28 : decode cX8_extended 28 = .ok (.istore_n 2, 1) := by decide +kernel
theorem dX8_extended_29 : decode cX8_extended 29 = .ok (.aload_n 0, 1) := by decide +kernel
theorem dX8_extended_30 : decode cX8_extended 30 = .ok (.aload_n 0, 1) := by decide +kernel
theorem dX8_extended_31 : decode cX8_extended 31 = .ok (.getfield 84, 3) := by decide +kernel
theorem dX8_extended_34 : decode cX8_extended 34 = .ok (.invokestatic 87, 3) := by decide +kernel
theorem dX8_extended_37 : decode cX8_extended 37 = .ok (.putfield 84, 3) := by decide +kernel
theorem dX8_extended_40 : decode cX8_extended 40 = .ok (.aload_n 0, 1) := by decide +kernel
theorem dX8_extended_41 : decode cX8_extended 41 = .ok (.aload_n 0, 1) := by decide +kernel
theorem dX8_extended_42 : decode cX8_extended 42 = .ok (.iload_n 2, 1) := by decide +kernel
theorem dX8_extended_43 : decode cX8_extended 43 = .ok (.invokevirtual 95, 3) := by decide +kernel
theorem dX8_extended_46 : decode cX8_extended 46 = .ok (.invokevirtual 144, 3) := by decide +kernel
theorem dX8_extended_49 : decode cX8_extended 49 = .ok (.istore_n 3, 1) := by decide +kernel
theorem dX8_extended_50 : decode cX8_extended 50 = .ok (.iload_n 3, 1) := by decide +kernel
theorem dX8_extended_51 : decode cX8_extended 51 = .ok (.iconst (-1), 1) := by decide +kernel
theorem dX8_extended_52 : decode cX8_extended 52 = .ok (.if_icmp .eq 9, 3) := by decide +kernel
theorem dX8_extended_55 : decode cX8_extended 55 = .ok (.aload_n 0, 1) := by decide +kernel
theorem dX8_extended_56 : decode cX8_extended 56 = .ok (.iload_n 1, 1) := by decide +kernel
theorem dX8_extended_57 : decode cX8_extended 57 = .ok (.iload_n 3, 1) := by decide +kernel
theorem dX8_extended_58 : decode cX8_extended 58 = .ok (.invokevirtual 202, 3) := by decide +kernel
theorem dX8_extended_61 : decode cX8_extended 61 = .ok (.return_, 1) := by decide +kernel
theorem dX8_extended_62 : decode cX8_extended 62 = .ok (.iload_n 1, 1) := by decide +kernel
theorem dX8_extended_63 : decode cX8_extended 63 = .ok (.bipush 15, 2) := by decide +kernel
theorem dX8_extended_65 : decode cX8_extended 65 = .ok (.iand, 1) := by decide +kernel
theorem dX8_extended_66 : decode cX8_extended 66 = .ok (.ifCond .ne 8, 3) := by decide +kernel
theorem dX8_extended_69 : decode cX8_extended 69 = .ok (.bipush 16, 2) := by decide +kernel
theorem dX8_extended_71 : decode cX8_extended 71 = .ok (.goto 7, 3) := by decide +kernel
theorem dX8_extended_74 : decode cX8_extended 74 = .ok (.iload_n 1, 1) := by decide +kernel
theorem dX8_extended_75 : decode cX8_extended 75 = .ok (.bipush 15, 2) := by decide +kernel
theorem dX8_extended_77 : decode cX8_extended 77 = .ok (.iand, 1) := by decide +kernel
theorem dX8_extended_78 : decode cX8_extended 78 = .ok (.istore_n 2, 1) := by decide +kernel
theorem dX8_extended_79 : decode cX8_extended 79 = .ok (.aload_n 0, 1) := by decide +kernel
theorem dX8_extended_80 : decode cX8_extended 80 = .ok (.invokevirtual 205, 3) := by decide +kernel
theorem dX8_extended_83 : decode cX8_extended 83 = .ok (.lstore_n 3, 1) := by decide +kernel
theorem dX8_extended_84 : decode cX8_extended 84 = .ok (.iload_n 1, 1) := by decide +kernel
theorem dX8_extended_85 : decode cX8_extended 85 = .ok (.bipush (-16), 2) := by decide +kernel
theorem dX8_extended_87 : decode cX8_extended 87 = .ok (.iand, 1) := by decide +kernel
theorem dX8_extended_88 : decode cX8_extended 88 = .ok (.lookupswitch 139 #[(32784, 60), (32800, 85), (32832, 105), (33296, 68), (33312, 95), (33344, 122)], 60) := by decide +kernel
theorem dX8_extended_148 : decode cX8_extended 148 = .ok (.aload_n 0, 1) := by decide +kernel
theorem dX8_extended_149 : decode cX8_extended 149 = .ok (.iload_n 2, 1) := by decide +kernel
theorem dX8_extended_150 : decode cX8_extended 150 = .ok (.invokevirtual 209, 3) := by decide +kernel
theorem dX8_extended_153 : decode cX8_extended 153 = .ok (.goto 74, 3) := by decide +kernel
theorem dX8_extended_156 : decode cX8_extended 156 = .ok (.aload_n 0, 1) := by decide +kernel
theorem dX8_extended_157 : decode cX8_extended 157 = .ok (.lload_n 3, 1) := by decide +kernel
theorem dX8_extended_158 : decode cX8_extended 158 = .ok (.l2i, 1) := by decide +kernel
theorem dX8_extended_159 : decode cX8_extended 159 = .ok (.i2l, 1) := by decide +kernel
theorem dX8_extended_160 : decode cX8_extended 160 = .ok (.iload_n 2, 1) := by decide +kernel
theorem dX8_extended_161 : decode cX8_extended 161 = .ok (.lshr, 1) := by decide +kernel
theorem dX8_extended_162 : decode cX8_extended 162 = .ok (.invokevirtual 212, 3) := by decide +kernel
theorem dX8_extended_165 : decode cX8_extended 165 = .ok (.aload_n 0, 1) := by decide +kernel
theorem dX8_extended_166 : decode cX8_extended 166 = .ok (.iconst 0, 1) := by decide +kernel
theorem dX8_extended_167 : decode cX8_extended 167 = .ok (.putfield 159, 3) := by decide +kernel
theorem dX8_extended_170 : decode cX8_extended 170 = .ok (.goto 57, 3) := by decide +kernel
theorem dX8_extended_173 : decode cX8_extended 173 = .ok (.aload_n 0, 1) := by decide +kernel
theorem dX8_extended_174 : decode cX8_extended 174 = .ok (.lload_n 3, 1) := by decide +kernel
theorem dX8_extended_175 : decode cX8_extended 175 = .ok (.iload_n 2, 1) := by decide +kernel
theorem dX8_extended_176 : decode cX8_extended 176 = .ok (.lshl, 1) := by decide +kernel
theorem dX8_extended_177 : decode cX8_extended 177 = .ok (.invokevirtual 212, 3) := by decide +kernel
theorem dX8_extended_180 : decode cX8_extended 180 = .ok (.goto 47, 3) := by decide +kernel
theorem dX8_extended_183 : decode cX8_extended 183 = .ok (.aload_n 0, 1) := by decide +kernel
theorem dX8_extended_184 : decode cX8_extended 184 = .ok (.lload_n 3, 1) := by decide +kernel
theorem dX8_extended_185 : decode cX8_extended 185 = .ok (.iload_n 2, 1) := by decide +kernel
theorem dX8_extended_186 : decode cX8_extended 186 = .ok (.lshr, 1) := by decide +kernel
theorem dX8_extended_187 : decode cX8_extended 187 = .ok (.invokevirtual 212, 3) := by decide +kernel
theorem dX8_extended_190 : decode cX8_extended 190 = .ok (.goto 37, 3) := by decide +kernel
theorem dX8_extended_193 : decode cX8_extended 193 = .ok (.aload_n 0, 1) := by decide +kernel
theorem dX8_extended_194 : decode cX8_extended 194 = .ok (.lload_n 3, 1) := by decide +kernel
theorem dX8_extended_195 : decode cX8_extended 195 = .ok (.iload_n 2, 1) := by decide +kernel
theorem dX8_extended_196 : decode cX8_extended 196 = .ok (.lshl, 1) := by decide +kernel
theorem dX8_extended_197 : decode cX8_extended 197 = .ok (.lload_n 3, 1) := by decide +kernel
theorem dX8_extended_198 : decode cX8_extended 198 = .ok (.bipush 32, 2) := by decide +kernel
theorem dX8_extended_200 : decode cX8_extended 200 = .ok (.iload_n 2, 1) := by decide +kernel
theorem dX8_extended_201 : decode cX8_extended 201 = .ok (.isub, 1) := by decide +kernel
theorem dX8_extended_202 : decode cX8_extended 202 = .ok (.lshr, 1) := by decide +kernel
theorem dX8_extended_203 : decode cX8_extended 203 = .ok (.lor, 1) := by decide +kernel
theorem dX8_extended_204 : decode cX8_extended 204 = .ok (.invokevirtual 212, 3) := by decide +kernel
theorem dX8_extended_207 : decode cX8_extended 207 = .ok (.goto 20, 3) := by decide +kernel
theorem dX8_extended_210 : decode cX8_extended 210 = .ok (.aload_n 0, 1) := by decide +kernel
theorem dX8_extended_211 : decode cX8_extended 211 = .ok (.lload_n 3, 1) := by decide +kernel
theorem dX8_extended_212 : decode cX8_extended 212 = .ok (.iload_n 2, 1) := by decide +kernel
theorem dX8_extended_213 : decode cX8_extended 213 = .ok (.lshr, 1) := by decide +kernel
theorem dX8_extended_214 : decode cX8_extended 214 = .ok (.lload_n 3, 1) := by decide +kernel
theorem dX8_extended_215 : decode cX8_extended 215 = .ok (.bipush 32, 2) := by decide +kernel
theorem dX8_extended_217 : decode cX8_extended 217 = .ok (.iload_n 2, 1) := by decide +kernel
theorem dX8_extended_218 : decode cX8_extended 218 = .ok (.isub, 1) := by decide +kernel
theorem dX8_extended_219 : decode cX8_extended 219 = .ok (.lshl, 1) := by decide +kernel
theorem dX8_extended_220 : decode cX8_extended 220 = .ok (.lor, 1) := by decide +kernel
theorem dX8_extended_221 : decode cX8_extended 221 = .ok (.invokevirtual 212, 3) := by decide +kernel
theorem dX8_extended_224 : decode cX8_extended 224 = .ok (.goto 3, 3) := by decide +kernel
theorem dX8_extended_227 : decode cX8_extended 227 = .ok (.return_, 1) := by decide +kernel
set_option maxRecDepth 20000 in
theorem ggX8_leftSigned_X8_both : GoodIn wsX8_leftSigned wsX8_both := goodIn_r _ [7, 8, 9, 15, 16, 17, 18, 19, 20, 21, 22, 23, 24, 25, 26, 27, 28, 29, 30, 31, 32, 33, 34, 35, 36, 37, 38, 39, 40, 41, 42, 43, 44, 45, 46, 47, 48, 49] (by decide +kernel) (by decide +kernel)
set_option maxRecDepth 20000 in
theorem gX8_leftSigned_X8_both : GoodIn wsX8_leftSigned (wsV RX8 205 RX8 yX8_both wsX8_both) := goodIn_app (goodIn_of _ (by decide +kernel)) ggX8_leftSigned_X8_both
set_option maxRecDepth 20000 in
theorem ggX8_leftSigned_X8_both_ : GoodIn wsX8_leftSigned wsX8_both_ := goodIn_r _ [13, 14, 9, 8, 15, 16, 17, 18, 19, 20, 21, 22, 23, 24, 25, 26, 27, 28, 29, 30, 31, 32, 33, 34, 35, 36, 37, 38, 39, 40, 41, 42, 43, 44, 45, 46, 47, 48, 49] (by decide +kernel) (by decide +kernel)
set_option maxRecDepth 20000 in
theorem gX8_leftSigned_X8_both_ : GoodIn wsX8_leftSigned (wsV RX8 212 RX8 yX8_both_ wsX8_both_) := goodIn_app (goodIn_of _ (by decide +kernel)) ggX8_leftSigned_X8_both_
theorem dX8_leftSigned_0 : decode cX8_leftSigned 0 = .ok (.aload_n 0, 1) := by decide +kernel
theorem dX8_leftSigned_1 : decode cX8_leftSigned 1 = .ok (.invokevirtual 205, 3) := by decide +kernel
theorem dX8_leftSigned_4 : decode cX8_leftSigned 4 = .ok (.lstore_n 2, 1) := by decide +kernel
theorem dX8_leftSigned_5 : decode cX8_leftSigned 5 = .ok (.lload_n 2, 1) := by decide +kernel
theorem dX8_leftSigned_6 : decode cX8_leftSigned 6 = .ok (.bipush 31, 2) := by decide +kernel
theorem dX8_leftSigned_8 : decode cX8_leftSigned 8 = .ok (.lshr, 1) := by decide +kernel
theorem dX8_leftSigned_9 : decode cX8_leftSigned 9 = .ok (.lconst 1, 1) := by decide +kernel
theorem dX8_leftSigned_10 : decode cX8_leftSigned 10 = .ok (.land, 1) := by decide +kernel
theorem dX8_leftSigned_11 : decode cX8_leftSigned 11 = .ok (.lstore 4, 2) := by decide +kernel
theorem dX8_leftSigned_13 : decode cX8_leftSigned 13 = .ok (.aload_n 0, 1) := by decide +kernel
theorem dX8_leftSigned_14 : decode cX8_leftSigned 14 = .ok (.iconst 0, 1) := by decide +kernel
theorem dX8_leftSigned_15 : decode cX8_leftSigned 15 = .ok (.putfield 159, 3) := by decide +kernel
theorem dX8_leftSigned_18 : decode cX8_leftSigned 18 = .ok (.iconst 0, 1) := by decide +kernel
theorem dX8_leftSigned_19 : decode cX8_leftSigned 19 = .ok (.istore 6, 2) := by decide +kernel
theorem dX8_leftSigned_21 : decode cX8_leftSigned 21 = .ok (.iload 6, 2) := by decide +kernel
theorem dX8_leftSigned_23 : decode cX8_leftSigned 23 = .ok (.iload_n 1, 1) := by decide +kernel
theorem dX8_leftSigned_24 : decode cX8_leftSigned 24 = .ok (.if_icmp .ge 40, 3) := by decide +kernel
theorem dX8_leftSigned_27 : decode cX8_leftSigned 27 = .ok (.lload_n 2, 1) := by decide +kernel
theorem dX8_leftSigned_28 : decode cX8_leftSigned 28 = .ok (.bipush 30, 2) := by decide +kernel
theorem dX8_leftSigned_30 : decode cX8_leftSigned 30 = .ok (.lshr, 1) := by decide +kernel
theorem dX8_leftSigned_31 : decode cX8_leftSigned 31 = .ok (.lconst 1, 1) := by decide +kernel
theorem dX8_leftSigned_32 : decode cX8_leftSigned 32 = .ok (.land, 1) := by decide +kernel
theorem dX8_leftSigned_33 : decode cX8_leftSigned 33 = .ok (.lload 4, 2) := by decide +kernel
theorem dX8_leftSigned_35 : decode cX8_leftSigned 35 = .ok (.lcmp, 1) := by decide +kernel
theorem dX8_leftSigned_36 : decode cX8_leftSigned 36 = .ok (.ifCond .eq 8, 3) := by decide +kernel
theorem dX8_leftSigned_39 : decode cX8_leftSigned 39 = .ok (.aload_n 0, 1) := by decide +kernel
theorem dX8_leftSigned_40 : decode cX8_leftSigned 40 = .ok (.iconst 1, 1) := by decide +kernel
theorem dX8_leftSigned_41 : decode cX8_leftSigned 41 = .ok (.putfield 159, 3) := by decide +kernel
theorem dX8_leftSigned_44 : decode cX8_leftSigned 44 = .ok (.lload_n 2, 1) := by decide +kernel
theorem dX8_leftSigned_45 : decode cX8_leftSigned 45 = .ok (.iconst 1, 1) := by decide +kernel
theorem dX8_leftSigned_46 : decode cX8_leftSigned 46 = .ok (.lshl, 1) := by decide +kernel
theorem dX8_leftSigned_47 : decode cX8_leftSigned 47 = .ok (.ldc2_w 215, 3) := by decide +kernel
theorem dX8_leftSigned_50 : decode cX8_leftSigned 50 = .ok (.land, 1) := by decide +kernel
theorem dX8_leftSigned_51 : decode cX8_leftSigned 51 = .ok (.lload 4, 2) := by decide +kernel
theorem dX8_leftSigned_53 : decode cX8_leftSigned 53 = .ok (.bipush 31, 2) := by decide +kernel
theorem dX8_leftSigned_55 : decode cX8_leftSigned 55 = .ok (.lshl, 1) := by decide +kernel
theorem dX8_leftSigned_56 : decode cX8_leftSigned 56 = .ok (.lor, 1) := by decide +kernel
theorem dX8_leftSigned_57 : decode cX8_leftSigned 57 = .ok (.lstore_n 2, 1) := by decide +kernel
theorem dX8_leftSigned_58 : decode cX8_leftSigned 58 = .ok (.iinc 6 1, 3) := by decide +kernel
theorem dX8_leftSigned_61 : decode cX8_leftSigned 61 = .ok (.goto (-40), 3) := by decide +kernel
theorem dX8_leftSigned_64 : decode cX8_leftSigned 64 = .ok (.aload_n 0, 1) := by decide +kernel
theorem dX8_leftSigned_65 : decode cX8_leftSigned 65 = .ok (.lload_n 2, 1) := by decide +kernel
theorem dX8_leftSigned_66 : decode cX8_leftSigned 66 = .ok (.invokevirtual 212, 3) := by decide +kernel
theorem dX8_leftSigned_69 : decode cX8_leftSigned 69 = .ok (.return_, 1) := by decide +kernel
set_option maxRecDepth 20000 in
theorem ggX8_twoWords_X8_more : GoodIn wsX8_twoWords wsX8_more := goodIn_r _ [13] (by decide +kernel) (by decide +kernel)
set_option maxRecDepth 20000 in
theorem gX8_twoWords_X8_more : GoodIn wsX8_twoWords (va_wsS RX8 87 yX8_more wsX8_more) := goodIn_app (goodIn_of _ (by decide +kernel)) ggX8_twoWords_X8_more
set_option maxRecDepth 20000 in
theorem ggX8_twoWords_X8_signed : GoodIn wsX8_twoWords wsX8_signed := goodIn_r _ [16, 17] (by decide +kernel) (by decide +kernel)
set_option maxRecDepth 20000 in
theorem gX8_twoWords_X8_signed : GoodIn wsX8_twoWords (va_wsS RX8 156 yX8_signed wsX8_signed) := goodIn_app (goodIn_of _ (by decide +kernel)) ggX8_twoWords_X8_signed
set_option maxRecDepth 20000 in
theorem ggX8_twoWords_X8_at : GoodIn wsX8_twoWords wsX8_at := goodIn_r _ [21, 2, 8, 22, 35, 36, 37, 38, 39, 40, 41, 42, 43, 44, 45, 46, 47, 48, 49, 50, 51, 52, 53, 54, 55, 56, 57, 58, 59, 60, 61, 62, 63, 64, 65, 66, 67, 68, 69] (by decide +kernel) (by decide +kernel)
set_option maxRecDepth 20000 in
theorem gX8_twoWords_X8_at : GoodIn wsX8_twoWords (wsV RX8 95 RX8 yX8_at wsX8_at) := goodIn_app (goodIn_of _ (by decide +kernel)) ggX8_twoWords_X8_at
set_option maxRecDepth 20000 in
theorem ggX8_twoWords_X8_both_ : GoodIn wsX8_twoWords wsX8_both_ := goodIn_r _ [26, 7, 2, 8, 35, 36, 37, 38, 39, 40, 41, 42, 43, 44, 45, 46, 47, 48, 49, 50, 51, 52, 53, 54, 55, 56, 57, 58, 59, 60, 61, 62, 63, 64, 65, 66, 67, 68, 69] (by decide +kernel) (by decide +kernel)
set_option maxRecDepth 20000 in
theorem gX8_twoWords_X8_both_ : GoodIn wsX8_twoWords (wsV RX8 212 RX8 yX8_both_ wsX8_both_) := goodIn_app (goodIn_of _ (by decide +kernel)) ggX8_twoWords_X8_both_
set_option maxRecDepth 20000 in
theorem ggX8_twoWords_X8_both : GoodIn wsX8_twoWords wsX8_both := goodIn_r _ [30, 8, 2, 35, 36, 37, 38, 39, 40, 41, 42, 43, 44, 45, 46, 47, 48, 49, 50, 51, 52, 53, 54, 55, 56, 57, 58, 59, 60, 61, 62, 63, 64, 65, 66, 67, 68, 69] (by decide +kernel) (by decide +kernel)
set_option maxRecDepth 20000 in
theorem gX8_twoWords_X8_both : GoodIn wsX8_twoWords (wsV RX8 205 RX8 yX8_both wsX8_both) := goodIn_app (goodIn_of _ (by decide +kernel)) ggX8_twoWords_X8_both
set_option maxRecDepth 20000 in
theorem ggX8_twoWords_X8_put : GoodIn wsX8_twoWords wsX8_put := goodIn_r _ [34, 2, 8, 22, 35, 36, 37, 38, 39, 40, 41, 42, 43, 44, 45, 46, 47, 48, 49, 50, 51, 52, 53, 54, 55, 56, 57, 58, 59, 60, 61, 62, 63, 64, 65, 66, 67, 68, 69] (by decide +kernel) (by decide +kernel)
set_option maxRecDepth 20000 in
theorem gX8_twoWords_X8_put : GoodIn wsX8_twoWords (wsV RX8 98 RX8 yX8_put wsX8_put) := goodIn_app (goodIn_of _ (by decide +kernel)) ggX8_twoWords_X8_put
theorem dX8_twoWords_0 : decode cX8_twoWords 0 = .ok (.iload_n 2, 1) := by decide +kernel
theorem dX8_twoWords_1 : decode cX8_twoWords 1 = .ok (.invokestatic 87, 3) := by decide +kernel
theorem dX8_twoWords_4 : decode cX8_twoWords 4 = .ok (.istore_n 3, 1) := by decide +kernel
theorem dX8_twoWords_5 : decode cX8_twoWords 5 = .ok (.iload_n 1, 1) := by decide +kernel
theorem dX8_twoWords_6 : decode cX8_twoWords 6 = .ok (.ldc 198, 2) := by decide +kernel
theorem dX8_twoWords_8 : decode cX8_twoWords 8 = .ok (.if_icmp .ne 33, 3) := by decide +kernel
theorem dX8_twoWords_11 : decode cX8_twoWords 11 = .ok (.aload_n 0, 1) := by decide +kernel
theorem dX8_twoWords_12 : decode cX8_twoWords 12 = .ok (.aload_n 0, 1) := by decide +kernel
theorem dX8_twoWords_13 : decode cX8_twoWords 13 = .ok (.getfield 78, 3) := by decide +kernel
theorem dX8_twoWords_16 : decode cX8_twoWords 16 = .ok (.invokestatic 156, 3) := by decide +kernel
theorem dX8_twoWords_19 : decode cX8_twoWords 19 = .ok (.i2l, 1) := by decide +kernel
theorem dX8_twoWords_20 : decode cX8_twoWords 20 = .ok (.aload_n 0, 1) := by decide +kernel
theorem dX8_twoWords_21 : decode cX8_twoWords 21 = .ok (.iload_n 2, 1) := by decide +kernel
theorem dX8_twoWords_22 : decode cX8_twoWords 22 = .ok (.invokevirtual 95, 3) := by decide +kernel
theorem dX8_twoWords_25 : decode cX8_twoWords 25 = .ok (.invokestatic 156, 3) := by decide +kernel
theorem dX8_twoWords_28 : decode cX8_twoWords 28 = .ok (.i2l, 1) := by decide +kernel
theorem dX8_twoWords_29 : decode cX8_twoWords 29 = .ok (.lmul, 1) := by decide +kernel
theorem dX8_twoWords_30 : decode cX8_twoWords 30 = .ok (.invokevirtual 212, 3) := by decide +kernel
theorem dX8_twoWords_33 : decode cX8_twoWords 33 = .ok (.aload_n 0, 1) := by decide +kernel
theorem dX8_twoWords_34 : decode cX8_twoWords 34 = .ok (.iconst 0, 1) := by decide +kernel
theorem dX8_twoWords_35 : decode cX8_twoWords 35 = .ok (.putfield 159, 3) := by decide +kernel
theorem dX8_twoWords_38 : decode cX8_twoWords 38 = .ok (.goto 164, 3) := by decide +kernel
theorem dX8_twoWords_41 : decode cX8_twoWords 41 = .ok (.iload_n 1, 1) := by decide +kernel
theorem dX8_twoWords_42 : decode cX8_twoWords 42 = .ok (.ldc 199, 2) := by decide +kernel
theorem dX8_twoWords_44 : decode cX8_twoWords 44 = .ok (.if_icmp .ne 97, 3) := by decide +kernel
theorem dX8_twoWords_47 : decode cX8_twoWords 47 = .ok (.aload_n 0, 1) := by decide +kernel
theorem dX8_twoWords_48 : decode cX8_twoWords 48 = .ok (.iload_n 2, 1) := by decide +kernel
theorem dX8_twoWords_49 : decode cX8_twoWords 49 = .ok (.invokevirtual 95, 3) := by decide +kernel
theorem dX8_twoWords_52 : decode cX8_twoWords 52 = .ok (.invokestatic 156, 3) := by decide +kernel
theorem dX8_twoWords_55 : decode cX8_twoWords 55 = .ok (.i2l, 1) := by decide +kernel
theorem dX8_twoWords_56 : decode cX8_twoWords 56 = .ok (.lstore 4, 2) := by decide +kernel
theorem dX8_twoWords_58 : decode cX8_twoWords 58 = .ok (.aload_n 0, 1) := by decide +kernel
theorem dX8_twoWords_59 : decode cX8_twoWords 59 = .ok (.invokevirtual 205, 3) := by decide +kernel
theorem dX8_twoWords_62 : decode cX8_twoWords 62 = .ok (.l2i, 1) := by decide +kernel
theorem dX8_twoWords_63 : decode cX8_twoWords 63 = .ok (.i2l, 1) := by decide +kernel
theorem dX8_twoWords_64 : decode cX8_twoWords 64 = .ok (.lstore 6, 2) := by decide +kernel
theorem dX8_twoWords_66 : decode cX8_twoWords 66 = .ok (.aload_n 0, 1) := by decide +kernel
theorem dX8_twoWords_67 : decode cX8_twoWords 67 = .ok (.iconst 1, 1) := by decide +kernel
theorem dX8_twoWords_68 : decode cX8_twoWords 68 = .ok (.putfield 159, 3) := by decide +kernel
theorem dX8_twoWords_71 : decode cX8_twoWords 71 = .ok (.lload 4, 2) := by decide +kernel
theorem dX8_twoWords_73 : decode cX8_twoWords 73 = .ok (.lconst 0, 1) := by decide +kernel
theorem dX8_twoWords_74 : decode cX8_twoWords 74 = .ok (.lcmp, 1) := by decide +kernel
theorem dX8_twoWords_75 : decode cX8_twoWords 75 = .ok (.ifCond .eq 27, 3) := by decide +kernel
theorem dX8_twoWords_78 : decode cX8_twoWords 78 = .ok (.lload 6, 2) := by decide +kernel
theorem dX8_twoWords_80 : decode cX8_twoWords 80 = .ok (.lload 4, 2) := by decide +kernel
theorem dX8_twoWords_82 : decode cX8_twoWords 82 = .ok (.ldiv, 1) := by decide +kernel
theorem dX8_twoWords_83 : decode cX8_twoWords 83 = .ok (.ldc2_w 217, 3) := by decide +kernel
theorem dX8_twoWords_86 : decode cX8_twoWords 86 = .ok (.lcmp, 1) := by decide +kernel
theorem dX8_twoWords_87 : decode cX8_twoWords 87 = .ok (.ifCond .lt 15, 3) := by decide +kernel
theorem dX8_twoWords_90 : decode cX8_twoWords 90 = .ok (.lload 6, 2) := by decide +kernel
theorem dX8_twoWords_92 : decode cX8_twoWords 92 = .ok (.lload 4, 2) := by decide +kernel
theorem dX8_twoWords_94 : decode cX8_twoWords 94 = .ok (.ldiv, 1) := by decide +kernel
theorem dX8_twoWords_95 : decode cX8_twoWords 95 = .ok (.ldc2_w 219, 3) := by decide +kernel
theorem dX8_twoWords_98 : decode cX8_twoWords 98 = .ok (.lcmp, 1) := by decide +kernel
theorem dX8_twoWords_99 : decode cX8_twoWords 99 = .ok (.ifCond .le 4, 3) := by decide +kernel
theorem dX8_twoWords_102 : decode cX8_twoWords 102 = .ok (.return_, 1) := by decide +kernel
theorem dX8_twoWords_103 : decode cX8_twoWords 103 = .ok (.aload_n 0, 1) := by decide +kernel
theorem dX8_twoWords_104 : decode cX8_twoWords 104 = .ok (.iconst 0, 1) := by decide +kernel
theorem dX8_twoWords_105 : decode cX8_twoWords 105 = .ok (.putfield 159, 3) := by decide +kernel
theorem dX8_twoWords_108 : decode cX8_twoWords 108 = .ok (.lload 6, 2) := by decide +kernel
theorem dX8_twoWords_110 : decode cX8_twoWords 110 = .ok (.lload 4, 2) := by decide +kernel
theorem dX8_twoWords_112 : decode cX8_twoWords 112 = .ok (.lrem, 1) := by decide +kernel
theorem dX8_twoWords_113 : decode cX8_twoWords 113 = .ok (.l2i, 1) := by decide +kernel
theorem dX8_twoWords_114 : decode cX8_twoWords 114 = .ok (.ldc 102, 2) := by decide +kernel
theorem dX8_twoWords_116 : decode cX8_twoWords 116 = .ok (.iand, 1) := by decide +kernel
theorem dX8_twoWords_117 : decode cX8_twoWords 117 = .ok (.istore 8, 2) := by decide +kernel
theorem dX8_twoWords_119 : decode cX8_twoWords 119 = .ok (.aload_n 0, 1) := by decide +kernel
theorem dX8_twoWords_120 : decode cX8_twoWords 120 = .ok (.lload 6, 2) := by decide +kernel
theorem dX8_twoWords_122 : decode cX8_twoWords 122 = .ok (.lload 4, 2) := by decide +kernel
theorem dX8_twoWords_124 : decode cX8_twoWords 124 = .ok (.ldiv, 1) := by decide +kernel
theorem dX8_twoWords_125 : decode cX8_twoWords 125 = .ok (.l2i, 1) := by decide +kernel
theorem dX8_twoWords_126 : decode cX8_twoWords 126 = .ok (.ldc 102, 2) := by decide +kernel
theorem dX8_twoWords_128 : decode cX8_twoWords 128 = .ok (.iand, 1) := by decide +kernel
theorem dX8_twoWords_129 : decode cX8_twoWords 129 = .ok (.putfield 78, 3) := by decide +kernel
theorem dX8_twoWords_132 : decode cX8_twoWords 132 = .ok (.aload_n 0, 1) := by decide +kernel
theorem dX8_twoWords_133 : decode cX8_twoWords 133 = .ok (.iload 8, 2) := by decide +kernel
theorem dX8_twoWords_135 : decode cX8_twoWords 135 = .ok (.putfield 81, 3) := by decide +kernel
theorem dX8_twoWords_138 : decode cX8_twoWords 138 = .ok (.goto 64, 3) := by decide +kernel
theorem dX8_twoWords_141 : decode cX8_twoWords 141 = .ok (.iload_n 1, 1) := by decide +kernel
theorem dX8_twoWords_142 : decode cX8_twoWords 142 = .ok (.ldc 200, 2) := by decide +kernel
theorem dX8_twoWords_144 : decode cX8_twoWords 144 = .ok (.if_icmp .ne 32, 3) := by decide +kernel
theorem dX8_twoWords_147 : decode cX8_twoWords 147 = .ok (.aload_n 0, 1) := by decide +kernel
theorem dX8_twoWords_148 : decode cX8_twoWords 148 = .ok (.iload_n 2, 1) := by decide +kernel
theorem dX8_twoWords_149 : decode cX8_twoWords 149 = .ok (.invokevirtual 95, 3) := by decide +kernel
theorem dX8_twoWords_152 : decode cX8_twoWords 152 = .ok (.istore 4, 2) := by decide +kernel
theorem dX8_twoWords_154 : decode cX8_twoWords 154 = .ok (.aload_n 0, 1) := by decide +kernel
theorem dX8_twoWords_155 : decode cX8_twoWords 155 = .ok (.iload_n 3, 1) := by decide +kernel
theorem dX8_twoWords_156 : decode cX8_twoWords 156 = .ok (.invokevirtual 95, 3) := by decide +kernel
theorem dX8_twoWords_159 : decode cX8_twoWords 159 = .ok (.istore 5, 2) := by decide +kernel
theorem dX8_twoWords_161 : decode cX8_twoWords 161 = .ok (.aload_n 0, 1) := by decide +kernel
theorem dX8_twoWords_162 : decode cX8_twoWords 162 = .ok (.iload 4, 2) := by decide +kernel
theorem dX8_twoWords_164 : decode cX8_twoWords 164 = .ok (.putfield 78, 3) := by decide +kernel
theorem dX8_twoWords_167 : decode cX8_twoWords 167 = .ok (.aload_n 0, 1) := by decide +kernel
theorem dX8_twoWords_168 : decode cX8_twoWords 168 = .ok (.iload 5, 2) := by decide +kernel
theorem dX8_twoWords_170 : decode cX8_twoWords 170 = .ok (.putfield 81, 3) := by decide +kernel
theorem dX8_twoWords_173 : decode cX8_twoWords 173 = .ok (.goto 29, 3) := by decide +kernel
theorem dX8_twoWords_176 : decode cX8_twoWords 176 = .ok (.aload_n 0, 1) := by decide +kernel
theorem dX8_twoWords_177 : decode cX8_twoWords 177 = .ok (.getfield 78, 3) := by decide +kernel
theorem dX8_twoWords_180 : decode cX8_twoWords 180 = .ok (.istore 4, 2) := by decide +kernel
theorem dX8_twoWords_182 : decode cX8_twoWords 182 = .ok (.aload_n 0, 1) := by decide +kernel
theorem dX8_twoWords_183 : decode cX8_twoWords 183 = .ok (.getfield 81, 3) := by decide +kernel
theorem dX8_twoWords_186 : decode cX8_twoWords 186 = .ok (.istore 5, 2) := by decide +kernel
theorem dX8_twoWords_188 : decode cX8_twoWords 188 = .ok (.aload_n 0, 1) := by decide +kernel
theorem dX8_twoWords_189 : decode cX8_twoWords 189 = .ok (.iload_n 2, 1) := by decide +kernel
theorem dX8_twoWords_190 : decode cX8_twoWords 190 = .ok (.iload 4, 2) := by decide +kernel
theorem dX8_twoWords_192 : decode cX8_twoWords 192 = .ok (.invokevirtual 98, 3) := by decide +kernel
theorem dX8_twoWords_195 : decode cX8_twoWords 195 = .ok (.aload_n 0, 1) := by decide +kernel
theorem dX8_twoWords_196 : decode cX8_twoWords 196 = .ok (.iload_n 3, 1) := by decide +kernel
theorem dX8_twoWords_197 : decode cX8_twoWords 197 = .ok (.iload 5, 2) := by decide +kernel
theorem dX8_twoWords_199 : decode cX8_twoWords 199 = .ok (.invokevirtual 98, 3) := by decide +kernel
theorem dX8_twoWords_202 : decode cX8_twoWords 202 = .ok (.return_, 1) := by decide +kernel
set_option maxRecDepth 20000 in
theorem ggX8_run_X8_turn : GoodIn wsX8_run wsX8_turn := goodIn_r _ [7, 8, 9, 10, 11, 12, 13, 14, 15, 16, 17, 18, 19, 20, 21, 6, 22, 23, 24, 25, 26, 27, 28, 29, 30, 31, 32, 33, 34, 35, 36, 37, 38, 39, 40, 41, 42, 43, 44, 45, 46, 47, 48, 49, 50, 51, 52, 53, 54, 55, 56, 57, 58, 59, 60, 61, 62, 63, 64, 65, 66, 67, 68, 69, 70, 71, 2, 72, 73, 74, 75, 76, 77, 78, 79, 80, 81, 82, 83, 84, 85, 86, 87, 88, 89, 90, 91, 92, 93, 94, 95, 96, 97, 98, 99, 100, 101, 102, 103, 104, 105, 106, 107, 108, 109, 110, 111, 112, 113, 114, 115, 116, 117, 118, 119, 120, 121, 122, 123, 124, 125, 126, 127, 128, 129, 130, 131, 132, 133, 134, 135, 136, 137, 138, 139, 140, 141, 142, 143, 144, 145, 146, 147, 148, 149, 150, 151, 152, 153, 154, 155, 156, 157, 158, 159, 160, 161, 162, 163, 164, 165, 166, 167, 168, 169, 170, 171, 172, 173, 174, 175, 176, 177, 178, 179, 180, 181, 182, 183, 184, 185, 186, 187, 188, 189, 190] (by decide +kernel) (by decide +kernel)
set_option maxRecDepth 20000 in
theorem gX8_run_X8_turn : GoodIn wsX8_run (wsV RX8 221 RX8 yX8_turn wsX8_turn) := goodIn_app (goodIn_of _ (by decide +kernel)) ggX8_run_X8_turn
theorem dX8_run_0 : decode cX8_run 0 = .ok (.aload_n 0, 1) := by decide +kernel
theorem dX8_run_1 : decode cX8_run 1 = .ok (.iload_n 1, 1) := by decide +kernel
theorem dX8_run_2 : decode cX8_run 2 = .ok (.ifCond .lt 10, 3) := by decide +kernel
theorem dX8_run_5 : decode cX8_run 5 = .ok (.iload_n 1, 1) := by decide +kernel
theorem dX8_run_6 : decode cX8_run 6 = .ok (.sipush 2000, 3) := by decide +kernel
theorem dX8_run_9 : decode cX8_run 9 = .ok (.if_icmp .le 7, 3) := by decide +kernel
theorem dX8_run_12 : decode cX8_run 12 = .ok (.iconst 1, 1) := by decide +kernel
theorem dX8_run_13 : decode cX8_run 13 = .ok (.goto 4, 3) := by decide +kernel
theorem dX8_run_16 : decode cX8_run 16 = .ok (.iconst 0, 1) := by decide +kernel
theorem dX8_run_17 : decode cX8_run 17 = .ok (.putfield 75, 3) := by decide +kernel
theorem dX8_run_20 : decode cX8_run 20 = .ok (.iconst 0, 1) := by decide +kernel
theorem dX8_run_21 : decode cX8_run 21 = .ok (.istore_n 2, 1) := by decide +kernel
theorem dX8_run_22 : decode cX8_run 22 = .ok (.aload_n 0, 1) := by decide +kernel
theorem dX8_run_23 : decode cX8_run 23 = .ok (.getfield 75, 3) := by decide +kernel
theorem dX8_run_26 : decode cX8_run 26 = .ok (.ifCond .ne 25, 3) := by decide +kernel
theorem dX8_run_29 : decode cX8_run 29 = .ok (.iload_n 2, 1) := by decide +kernel
theorem dX8_run_30 : decode cX8_run 30 = .ok (.iload_n 1, 1) := by decide +kernel
theorem dX8_run_31 : decode cX8_run 31 = .ok (.if_icmp .ge 20, 3) := by decide +kernel
theorem dX8_run_34 : decode cX8_run 34 = .ok (.aload_n 0, 1) := by decide +kernel
theorem dX8_run_35 : decode cX8_run 35 = .ok (.getfield 91, 3) := by decide +kernel
theorem dX8_run_38 : decode cX8_run 38 = .ok (.ifCond .ne 13, 3) := by decide +kernel
theorem dX8_run_41 : decode cX8_run 41 = .ok (.aload_n 0, 1) := by decide +kernel
theorem dX8_run_42 : decode cX8_run 42 = .ok (.invokevirtual 221, 3) := by decide +kernel
theorem dX8_run_45 : decode cX8_run 45 = .ok (.iinc 2 1, 3) := by decide +kernel
theorem dX8_run_48 : decode cX8_run 48 = .ok (.goto (-26), 3) := by decide +kernel
theorem dX8_run_51 : decode cX8_run 51 = .ok (.iload_n 2, 1) := by decide +kernel
theorem dX8_run_52 : decode cX8_run 52 = .ok (.ireturn, 1) := by decide +kernel
theorem dX8_go_0 : decode cX8_go 0 = .ok (.aload_n 0, 1) := by decide +kernel
theorem dX8_go_1 : decode cX8_go 1 = .ok (.iconst 0, 1) := by decide +kernel
theorem dX8_go_2 : decode cX8_go 2 = .ok (.putfield 75, 3) := by decide +kernel
theorem dX8_go_5 : decode cX8_go 5 = .ok (.aload_n 0, 1) := by decide +kernel
theorem dX8_go_6 : decode cX8_go 6 = .ok (.iconst 0, 1) := by decide +kernel
theorem dX8_go_7 : decode cX8_go 7 = .ok (.putfield 91, 3) := by decide +kernel
theorem dX8_go_10 : decode cX8_go 10 = .ok (.iload_n 1, 1) := by decide +kernel
theorem dX8_go_11 : decode cX8_go 11 = .ok (.iconst (-1), 1) := by decide +kernel
theorem dX8_go_12 : decode cX8_go 12 = .ok (.if_icmp .eq 12, 3) := by decide +kernel
theorem dX8_go_15 : decode cX8_go 15 = .ok (.aload_n 0, 1) := by decide +kernel
theorem dX8_go_16 : decode cX8_go 16 = .ok (.iload_n 1, 1) := by decide +kernel
theorem dX8_go_17 : decode cX8_go 17 = .ok (.sipush 32767, 3) := by decide +kernel
theorem dX8_go_20 : decode cX8_go 20 = .ok (.iand, 1) := by decide +kernel
theorem dX8_go_21 : decode cX8_go 21 = .ok (.putfield 84, 3) := by decide +kernel
theorem dX8_go_24 : decode cX8_go 24 = .ok (.return_, 1) := by decide +kernel
theorem dX8_lacks_0 : decode cX8_lacks 0 = .ok (.aload_n 0, 1) := by decide +kernel
theorem dX8_lacks_1 : decode cX8_lacks 1 = .ok (.iload_n 1, 1) := by decide +kernel
theorem dX8_lacks_2 : decode cX8_lacks 2 = .ok (.ifCond .lt 8, 3) := by decide +kernel
theorem dX8_lacks_5 : decode cX8_lacks 5 = .ok (.iload_n 1, 1) := by decide +kernel
theorem dX8_lacks_6 : decode cX8_lacks 6 = .ok (.iload_n 2, 1) := by decide +kernel
theorem dX8_lacks_7 : decode cX8_lacks 7 = .ok (.if_icmp .lt 7, 3) := by decide +kernel
theorem dX8_lacks_10 : decode cX8_lacks 10 = .ok (.iconst 1, 1) := by decide +kernel
theorem dX8_lacks_11 : decode cX8_lacks 11 = .ok (.goto 4, 3) := by decide +kernel
theorem dX8_lacks_14 : decode cX8_lacks 14 = .ok (.iconst 0, 1) := by decide +kernel
theorem dX8_lacks_15 : decode cX8_lacks 15 = .ok (.putfield 75, 3) := by decide +kernel
theorem dX8_lacks_18 : decode cX8_lacks 18 = .ok (.aload_n 0, 1) := by decide +kernel
theorem dX8_lacks_19 : decode cX8_lacks 19 = .ok (.getfield 75, 3) := by decide +kernel
theorem dX8_lacks_22 : decode cX8_lacks 22 = .ok (.ifCond .le 7, 3) := by decide +kernel
theorem dX8_lacks_25 : decode cX8_lacks 25 = .ok (.iconst 1, 1) := by decide +kernel
theorem dX8_lacks_26 : decode cX8_lacks 26 = .ok (.goto 4, 3) := by decide +kernel
theorem dX8_lacks_29 : decode cX8_lacks 29 = .ok (.iconst 0, 1) := by decide +kernel
theorem dX8_lacks_30 : decode cX8_lacks 30 = .ok (.ireturn, 1) := by decide +kernel
set_option maxRecDepth 20000 in
theorem ggX8_word_X8_lacks : GoodIn wsX8_word wsX8_lacks := goodIn_r _ [5, 6, 14, 15, 16, 17, 18, 19, 20, 21, 22, 23, 24, 25, 26, 27, 28, 29, 30, 31, 32, 33, 34, 35, 36, 37, 38, 39, 40, 41, 42, 43, 44, 45, 46, 47, 48] (by decide +kernel) (by decide +kernel)
set_option maxRecDepth 20000 in
theorem gX8_word_X8_lacks : GoodIn wsX8_word (wsV RX8 224 RX8 yX8_lacks wsX8_lacks) := goodIn_app (goodIn_of _ (by decide +kernel)) ggX8_word_X8_lacks
set_option maxRecDepth 20000 in
theorem ggX8_word_X8_at : GoodIn wsX8_word wsX8_at := goodIn_r _ [10, 11, 12, 13, 14, 15, 16, 17, 18, 19, 20, 21, 22, 23, 24, 25, 26, 27, 28, 29, 30, 31, 32, 33, 34, 35, 36, 37, 38, 39, 40, 41, 42, 43, 44, 45, 46, 47, 48] (by decide +kernel) (by decide +kernel)
set_option maxRecDepth 20000 in
theorem gX8_word_X8_at : GoodIn wsX8_word (wsV RX8 95 RX8 yX8_at wsX8_at) := goodIn_app (goodIn_of _ (by decide +kernel)) ggX8_word_X8_at
theorem dX8_word_0 : decode cX8_word 0 = .ok (.aload_n 0, 1) := by decide +kernel
theorem dX8_word_1 : decode cX8_word 1 = .ok (.iload_n 1, 1) := by decide +kernel
theorem dX8_word_2 : decode cX8_word 2 = .ok (.sipush 4096, 3) := by decide +kernel
theorem dX8_word_5 : decode cX8_word 5 = .ok (.invokevirtual 224, 3) := by decide +kernel
theorem dX8_word_8 : decode cX8_word 8 = .ok (.ifCond .eq 7, 3) := by decide +kernel
theorem dX8_word_11 : decode cX8_word 11 = .ok (.iconst 0, 1) := by decide +kernel
theorem dX8_word_12 : decode cX8_word 12 = .ok (.goto 8, 3) := by decide +kernel
theorem dX8_word_15 : decode cX8_word 15 = .ok (.aload_n 0, 1) := by decide +kernel
theorem dX8_word_16 : decode cX8_word 16 = .ok (.iload_n 1, 1) := by decide +kernel
theorem dX8_word_17 : decode cX8_word 17 = .ok (.invokevirtual 95, 3) := by decide +kernel
theorem dX8_word_20 : decode cX8_word 20 = .ok (.ireturn, 1) := by decide +kernel
set_option maxRecDepth 20000 in
theorem ggX8_set_X8_lacks : GoodIn wsX8_set wsX8_lacks := goodIn_r _ [6, 7, 15, 16, 17, 18, 19, 20, 21, 22, 23, 24, 25, 26, 27, 28, 29, 30, 31, 32, 33, 34, 35, 36, 37, 38, 39, 40, 41, 42, 43, 44, 45, 46, 47, 48, 49] (by decide +kernel) (by decide +kernel)
set_option maxRecDepth 20000 in
theorem gX8_set_X8_lacks : GoodIn wsX8_set (wsV RX8 224 RX8 yX8_lacks wsX8_lacks) := goodIn_app (goodIn_of _ (by decide +kernel)) ggX8_set_X8_lacks
set_option maxRecDepth 20000 in
theorem ggX8_set_X8_put : GoodIn wsX8_set wsX8_put := goodIn_r _ [11, 12, 13, 14, 15, 16, 17, 18, 19, 20, 21, 22, 23, 24, 25, 26, 27, 28, 29, 30, 31, 32, 33, 34, 35, 36, 37, 38, 39, 40, 41, 42, 43, 44, 45, 46, 47, 48, 49] (by decide +kernel) (by decide +kernel)
set_option maxRecDepth 20000 in
theorem gX8_set_X8_put : GoodIn wsX8_set (wsV RX8 98 RX8 yX8_put wsX8_put) := goodIn_app (goodIn_of _ (by decide +kernel)) ggX8_set_X8_put
theorem dX8_set_0 : decode cX8_set 0 = .ok (.aload_n 0, 1) := by decide +kernel
theorem dX8_set_1 : decode cX8_set 1 = .ok (.iload_n 1, 1) := by decide +kernel
theorem dX8_set_2 : decode cX8_set 2 = .ok (.sipush 4096, 3) := by decide +kernel
theorem dX8_set_5 : decode cX8_set 5 = .ok (.invokevirtual 224, 3) := by decide +kernel
theorem dX8_set_8 : decode cX8_set 8 = .ok (.ifCond .eq 4, 3) := by decide +kernel
theorem dX8_set_11 : decode cX8_set 11 = .ok (.return_, 1) := by decide +kernel
theorem dX8_set_12 : decode cX8_set 12 = .ok (.aload_n 0, 1) := by decide +kernel
theorem dX8_set_13 : decode cX8_set 13 = .ok (.iload_n 1, 1) := by decide +kernel
theorem dX8_set_14 : decode cX8_set 14 = .ok (.iload_n 2, 1) := by decide +kernel
theorem dX8_set_15 : decode cX8_set 15 = .ok (.ldc 102, 2) := by decide +kernel
theorem dX8_set_17 : decode cX8_set 17 = .ok (.iand, 1) := by decide +kernel
theorem dX8_set_18 : decode cX8_set 18 = .ok (.invokevirtual 98, 3) := by decide +kernel
theorem dX8_set_21 : decode cX8_set 21 = .ok (.return_, 1) := by decide +kernel
theorem dX8_state_0 : decode cX8_state 0 = .ok (.aload_n 0, 1) := by decide +kernel
theorem dX8_state_1 : decode cX8_state 1 = .ok (.iconst 0, 1) := by decide +kernel
theorem dX8_state_2 : decode cX8_state 2 = .ok (.putfield 75, 3) := by decide +kernel
theorem dX8_state_5 : decode cX8_state 5 = .ok (.iload_n 1, 1) := by decide +kernel
theorem dX8_state_6 : decode cX8_state 6 = .ok (.tableswitch 155 0 12 #[66, 71, 76, 81, 86, 91, 104, 117, 130, 135, 140, 145, 150], 66) := by decide +kernel
theorem dX8_state_72 : decode cX8_state 72 = .ok (.aload_n 0, 1) := by decide +kernel
theorem dX8_state_73 : decode cX8_state 73 = .ok (.getfield 78, 3) := by decide +kernel
theorem dX8_state_76 : decode cX8_state 76 = .ok (.ireturn, 1) := by decide +kernel
theorem dX8_state_77 : decode cX8_state 77 = .ok (.aload_n 0, 1) := by decide +kernel
theorem dX8_state_78 : decode cX8_state 78 = .ok (.getfield 81, 3) := by decide +kernel
theorem dX8_state_81 : decode cX8_state 81 = .ok (.ireturn, 1) := by decide +kernel
theorem dX8_state_82 : decode cX8_state 82 = .ok (.aload_n 0, 1) := by decide +kernel
theorem dX8_state_83 : decode cX8_state 83 = .ok (.getfield 84, 3) := by decide +kernel
theorem dX8_state_86 : decode cX8_state 86 = .ok (.ireturn, 1) := by decide +kernel
theorem dX8_state_87 : decode cX8_state 87 = .ok (.aload_n 0, 1) := by decide +kernel
theorem dX8_state_88 : decode cX8_state 88 = .ok (.getfield 162, 3) := by decide +kernel
theorem dX8_state_91 : decode cX8_state 91 = .ok (.ireturn, 1) := by decide +kernel
theorem dX8_state_92 : decode cX8_state 92 = .ok (.aload_n 0, 1) := by decide +kernel
theorem dX8_state_93 : decode cX8_state 93 = .ok (.getfield 159, 3) := by decide +kernel
theorem dX8_state_96 : decode cX8_state 96 = .ok (.ireturn, 1) := by decide +kernel
theorem dX8_state_97 : decode cX8_state 97 = .ok (.aload_n 0, 1) := by decide +kernel
theorem dX8_state_98 : decode cX8_state 98 = .ok (.getfield 116, 3) := by decide +kernel
theorem dX8_state_101 : decode cX8_state 101 = .ok (.ifCond .eq 7, 3) := by decide +kernel
theorem dX8_state_104 : decode cX8_state 104 = .ok (.iconst 1, 1) := by decide +kernel
theorem dX8_state_105 : decode cX8_state 105 = .ok (.goto 4, 3) := by decide +kernel
theorem dX8_state_108 : decode cX8_state 108 = .ok (.iconst 0, 1) := by decide +kernel
theorem dX8_state_109 : decode cX8_state 109 = .ok (.ireturn, 1) := by decide +kernel
theorem dX8_state_110 : decode cX8_state 110 = .ok (.aload_n 0, 1) := by decide +kernel
theorem dX8_state_111 : decode cX8_state 111 = .ok (.getfield 119, 3) := by decide +kernel
theorem dX8_state_114 : decode cX8_state 114 = .ok (.ifCond .eq 7, 3) := by decide +kernel
theorem dX8_state_117 : decode cX8_state 117 = .ok (.iconst 1, 1) := by decide +kernel
theorem dX8_state_118 : decode cX8_state 118 = .ok (.goto 4, 3) := by decide +kernel
theorem dX8_state_121 : decode cX8_state 121 = .ok (.iconst 0, 1) := by decide +kernel
theorem dX8_state_122 : decode cX8_state 122 = .ok (.ireturn, 1) := by decide +kernel
theorem dX8_state_123 : decode cX8_state 123 = .ok (.aload_n 0, 1) := by decide +kernel
theorem dX8_state_124 : decode cX8_state 124 = .ok (.getfield 91, 3) := by decide +kernel
theorem dX8_state_127 : decode cX8_state 127 = .ok (.ifCond .eq 7, 3) := by decide +kernel
theorem dX8_state_130 : decode cX8_state 130 = .ok (.iconst 1, 1) := by decide +kernel
theorem dX8_state_131 : decode cX8_state 131 = .ok (.goto 4, 3) := by decide +kernel
theorem dX8_state_134 : decode cX8_state 134 = .ok (.iconst 0, 1) := by decide +kernel
theorem dX8_state_135 : decode cX8_state 135 = .ok (.ireturn, 1) := by decide +kernel
theorem dX8_state_136 : decode cX8_state 136 = .ok (.aload_n 0, 1) := by decide +kernel
theorem dX8_state_137 : decode cX8_state 137 = .ok (.getfield 13, 3) := by decide +kernel
theorem dX8_state_140 : decode cX8_state 140 = .ok (.ireturn, 1) := by decide +kernel
theorem dX8_state_141 : decode cX8_state 141 = .ok (.aload_n 0, 1) := by decide +kernel
theorem dX8_state_142 : decode cX8_state 142 = .ok (.getfield 178, 3) := by decide +kernel
theorem dX8_state_145 : decode cX8_state 145 = .ok (.ireturn, 1) := by decide +kernel
theorem dX8_state_146 : decode cX8_state 146 = .ok (.aload_n 0, 1) := by decide +kernel
theorem dX8_state_147 : decode cX8_state 147 = .ok (.getfield 107, 3) := by decide +kernel
theorem dX8_state_150 : decode cX8_state 150 = .ok (.ireturn, 1) := by decide +kernel
theorem dX8_state_151 : decode cX8_state 151 = .ok (.aload_n 0, 1) := by decide +kernel
theorem dX8_state_152 : decode cX8_state 152 = .ok (.getfield 125, 3) := by decide +kernel
theorem dX8_state_155 : decode cX8_state 155 = .ok (.ireturn, 1) := by decide +kernel
theorem dX8_state_156 : decode cX8_state 156 = .ok (.aload_n 0, 1) := by decide +kernel
theorem dX8_state_157 : decode cX8_state 157 = .ok (.getfield 17, 3) := by decide +kernel
theorem dX8_state_160 : decode cX8_state 160 = .ok (.ireturn, 1) := by decide +kernel
theorem dX8_state_161 : decode cX8_state 161 = .ok (.iconst (-1), 1) := by decide +kernel
theorem dX8_state_162 : decode cX8_state 162 = .ok (.ireturn, 1) := by decide +kernel
theorem dX8_switches_0 : decode cX8_switches 0 = .ok (.aload_n 0, 1) := by decide +kernel
theorem dX8_switches_1 : decode cX8_switches 1 = .ok (.iconst 0, 1) := by decide +kernel
theorem dX8_switches_2 : decode cX8_switches 2 = .ok (.putfield 75, 3) := by decide +kernel
theorem dX8_switches_5 : decode cX8_switches 5 = .ok (.aload_n 0, 1) := by decide +kernel
theorem dX8_switches_6 : decode cX8_switches 6 = .ok (.iload_n 1, 1) := by decide +kernel
theorem dX8_switches_7 : decode cX8_switches 7 = .ok (.ldc 102, 2) := by decide +kernel
theorem dX8_switches_9 : decode cX8_switches 9 = .ok (.iand, 1) := by decide +kernel
theorem dX8_switches_10 : decode cX8_switches 10 = .ok (.putfield 175, 3) := by decide +kernel
theorem dX8_switches_13 : decode cX8_switches 13 = .ok (.return_, 1) := by decide +kernel
set_option maxRecDepth 20000 in
theorem ggX8_device_X8_lacks : GoodIn wsX8_device wsX8_lacks := goodIn_r _ [10, 1, 11, 12, 13, 14, 15, 16, 17, 18, 19, 20, 21, 22, 23, 24, 25, 26, 27, 28, 29, 30, 31, 32, 33, 34, 35, 36, 37, 38, 39, 40, 41, 42, 43, 44, 45] (by decide +kernel) (by decide +kernel)
set_option maxRecDepth 20000 in
theorem gX8_device_X8_lacks : GoodIn wsX8_device (wsV RX8 224 RX8 yX8_lacks wsX8_lacks) := goodIn_app (goodIn_of _ (by decide +kernel)) ggX8_device_X8_lacks
theorem dX8_device_0 : decode cX8_device 0 = .ok (.aload_n 0, 1) := by decide +kernel
theorem dX8_device_1 : decode cX8_device 1 = .ok (.iload_n 1, 1) := by decide +kernel
theorem dX8_device_2 : decode cX8_device 2 = .ok (.iconst 4, 1) := by decide +kernel
theorem dX8_device_3 : decode cX8_device 3 = .ok (.invokevirtual 224, 3) := by decide +kernel
theorem dX8_device_6 : decode cX8_device 6 = .ok (.ifCond .eq 4, 3) := by decide +kernel
theorem dX8_device_9 : decode cX8_device 9 = .ok (.return_, 1) := by decide +kernel
theorem dX8_device_10 : decode cX8_device 10 = .ok (.aload_n 0, 1) := by decide +kernel
theorem dX8_device_11 : decode cX8_device 11 = .ok (.iload_n 3, 1) := by decide +kernel
theorem dX8_device_12 : decode cX8_device 12 = .ok (.iconst 1, 1) := by decide +kernel
theorem dX8_device_13 : decode cX8_device 13 = .ok (.if_icmp .lt 9, 3) := by decide +kernel
theorem dX8_device_16 : decode cX8_device 16 = .ok (.iload_n 3, 1) := by decide +kernel
theorem dX8_device_17 : decode cX8_device 17 = .ok (.bipush 100, 2) := by decide +kernel
theorem dX8_device_19 : decode cX8_device 19 = .ok (.if_icmp .le 7, 3) := by decide +kernel
theorem dX8_device_22 : decode cX8_device 22 = .ok (.iconst 2, 1) := by decide +kernel
theorem dX8_device_23 : decode cX8_device 23 = .ok (.goto 4, 3) := by decide +kernel
theorem dX8_device_26 : decode cX8_device 26 = .ok (.iconst 0, 1) := by decide +kernel
theorem dX8_device_27 : decode cX8_device 27 = .ok (.putfield 75, 3) := by decide +kernel
theorem dX8_device_30 : decode cX8_device 30 = .ok (.aload_n 0, 1) := by decide +kernel
theorem dX8_device_31 : decode cX8_device 31 = .ok (.getfield 75, 3) := by decide +kernel
theorem dX8_device_34 : decode cX8_device 34 = .ok (.ifCond .le 4, 3) := by decide +kernel
theorem dX8_device_37 : decode cX8_device 37 = .ok (.return_, 1) := by decide +kernel
theorem dX8_device_38 : decode cX8_device 38 = .ok (.bipush 8, 2) := by decide +kernel
theorem dX8_device_40 : decode cX8_device 40 = .ok (.iload_n 1, 1) := by decide +kernel
theorem dX8_device_41 : decode cX8_device 41 = .ok (.iadd, 1) := by decide +kernel
theorem dX8_device_42 : decode cX8_device 42 = .ok (.istore 4, 2) := by decide +kernel
theorem dX8_device_44 : decode cX8_device 44 = .ok (.aload_n 0, 1) := by decide +kernel
theorem dX8_device_45 : decode cX8_device 45 = .ok (.getfield 51, 3) := by decide +kernel
theorem dX8_device_48 : decode cX8_device 48 = .ok (.iload 4, 2) := by decide +kernel
theorem dX8_device_50 : decode cX8_device 50 = .ok (.iload_n 2, 1) := by decide +kernel
theorem dX8_device_51 : decode cX8_device 51 = .ok (.ifCond .ne 7, 3) := by decide +kernel
theorem dX8_device_54 : decode cX8_device 54 = .ok (.iconst 1, 1) := by decide +kernel
theorem dX8_device_55 : decode cX8_device 55 = .ok (.goto 4, 3) := by decide +kernel
theorem dX8_device_58 : decode cX8_device 58 = .ok (.iconst 0, 1) := by decide +kernel
theorem dX8_device_59 : decode cX8_device 59 = .ok (.bastore, 1) := by decide +kernel
theorem dX8_device_60 : decode cX8_device 60 = .ok (.aload_n 0, 1) := by decide +kernel
theorem dX8_device_61 : decode cX8_device 61 = .ok (.getfield 54, 3) := by decide +kernel
theorem dX8_device_64 : decode cX8_device 64 = .ok (.iload 4, 2) := by decide +kernel
theorem dX8_device_66 : decode cX8_device 66 = .ok (.iload_n 3, 1) := by decide +kernel
theorem dX8_device_67 : decode cX8_device 67 = .ok (.iastore, 1) := by decide +kernel
theorem dX8_device_68 : decode cX8_device 68 = .ok (.aload_n 0, 1) := by decide +kernel
theorem dX8_device_69 : decode cX8_device 69 = .ok (.getfield 60, 3) := by decide +kernel
theorem dX8_device_72 : decode cX8_device 72 = .ok (.iload 4, 2) := by decide +kernel
theorem dX8_device_74 : decode cX8_device 74 = .ok (.iconst 0, 1) := by decide +kernel
theorem dX8_device_75 : decode cX8_device 75 = .ok (.iastore, 1) := by decide +kernel
theorem dX8_device_76 : decode cX8_device 76 = .ok (.aload_n 0, 1) := by decide +kernel
theorem dX8_device_77 : decode cX8_device 77 = .ok (.getfield 57, 3) := by decide +kernel
theorem dX8_device_80 : decode cX8_device 80 = .ok (.iload 4, 2) := by decide +kernel
theorem dX8_device_82 : decode cX8_device 82 = .ok (.iconst 0, 1) := by decide +kernel
theorem dX8_device_83 : decode cX8_device 83 = .ok (.iastore, 1) := by decide +kernel
theorem dX8_device_84 : decode cX8_device 84 = .ok (.return_, 1) := by decide +kernel
set_option maxRecDepth 20000 in
theorem ggX8_give_X8_lacks : GoodIn wsX8_give wsX8_lacks := goodIn_r _ [9, 2, 10, 11, 12, 13, 14, 15, 16, 17, 18, 19, 20, 21, 22, 23, 24, 25, 26, 27, 28, 29, 30, 31, 32, 33, 34, 35, 36, 37, 38, 39, 40, 41, 42, 43, 44] (by decide +kernel) (by decide +kernel)
set_option maxRecDepth 20000 in
theorem gX8_give_X8_lacks : GoodIn wsX8_give (wsV RX8 224 RX8 yX8_lacks wsX8_lacks) := goodIn_app (goodIn_of _ (by decide +kernel)) ggX8_give_X8_lacks
theorem dX8_give_0 : decode cX8_give 0 = .ok (.aload_n 0, 1) := by decide +kernel
theorem dX8_give_1 : decode cX8_give 1 = .ok (.iload_n 1, 1) := by decide +kernel
theorem dX8_give_2 : decode cX8_give 2 = .ok (.iconst 4, 1) := by decide +kernel
theorem dX8_give_3 : decode cX8_give 3 = .ok (.invokevirtual 224, 3) := by decide +kernel
theorem dX8_give_6 : decode cX8_give 6 = .ok (.ifCond .eq 5, 3) := by decide +kernel
theorem dX8_give_9 : decode cX8_give 9 = .ok (.iconst 0, 1) := by decide +kernel
theorem dX8_give_10 : decode cX8_give 10 = .ok (.ireturn, 1) := by decide +kernel
theorem dX8_give_11 : decode cX8_give 11 = .ok (.bipush 8, 2) := by decide +kernel
theorem dX8_give_13 : decode cX8_give 13 = .ok (.iload_n 1, 1) := by decide +kernel
theorem dX8_give_14 : decode cX8_give 14 = .ok (.iadd, 1) := by decide +kernel
theorem dX8_give_15 : decode cX8_give 15 = .ok (.istore_n 3, 1) := by decide +kernel
theorem dX8_give_16 : decode cX8_give 16 = .ok (.aload_n 0, 1) := by decide +kernel
theorem dX8_give_17 : decode cX8_give 17 = .ok (.aload_n 0, 1) := by decide +kernel
theorem dX8_give_18 : decode cX8_give 18 = .ok (.getfield 63, 3) := by decide +kernel
theorem dX8_give_21 : decode cX8_give 21 = .ok (.iload_n 3, 1) := by decide +kernel
theorem dX8_give_22 : decode cX8_give 22 = .ok (.iaload, 1) := by decide +kernel
theorem dX8_give_23 : decode cX8_give 23 = .ok (.bipush 100, 2) := by decide +kernel
theorem dX8_give_25 : decode cX8_give 25 = .ok (.if_icmp .ne 7, 3) := by decide +kernel
theorem dX8_give_28 : decode cX8_give 28 = .ok (.iconst 2, 1) := by decide +kernel
theorem dX8_give_29 : decode cX8_give 29 = .ok (.goto 4, 3) := by decide +kernel
theorem dX8_give_32 : decode cX8_give 32 = .ok (.iconst 0, 1) := by decide +kernel
theorem dX8_give_33 : decode cX8_give 33 = .ok (.putfield 75, 3) := by decide +kernel
theorem dX8_give_36 : decode cX8_give 36 = .ok (.aload_n 0, 1) := by decide +kernel
theorem dX8_give_37 : decode cX8_give 37 = .ok (.getfield 75, 3) := by decide +kernel
theorem dX8_give_40 : decode cX8_give 40 = .ok (.ifCond .le 5, 3) := by decide +kernel
theorem dX8_give_43 : decode cX8_give 43 = .ok (.iconst 0, 1) := by decide +kernel
theorem dX8_give_44 : decode cX8_give 44 = .ok (.ireturn, 1) := by decide +kernel
theorem dX8_give_45 : decode cX8_give 45 = .ok (.aload_n 0, 1) := by decide +kernel
theorem dX8_give_46 : decode cX8_give 46 = .ok (.getfield 69, 3) := by decide +kernel
theorem dX8_give_49 : decode cX8_give 49 = .ok (.bipush 100, 2) := by decide +kernel
theorem dX8_give_51 : decode cX8_give 51 = .ok (.iload_n 3, 1) := by decide +kernel
theorem dX8_give_52 : decode cX8_give 52 = .ok (.imul, 1) := by decide +kernel
theorem dX8_give_53 : decode cX8_give 53 = .ok (.aload_n 0, 1) := by decide +kernel
theorem dX8_give_54 : decode cX8_give 54 = .ok (.getfield 63, 3) := by decide +kernel
theorem dX8_give_57 : decode cX8_give 57 = .ok (.iload_n 3, 1) := by decide +kernel
theorem dX8_give_58 : decode cX8_give 58 = .ok (.iaload, 1) := by decide +kernel
theorem dX8_give_59 : decode cX8_give 59 = .ok (.iadd, 1) := by decide +kernel
theorem dX8_give_60 : decode cX8_give 60 = .ok (.iload_n 2, 1) := by decide +kernel
theorem dX8_give_61 : decode cX8_give 61 = .ok (.ldc 102, 2) := by decide +kernel
theorem dX8_give_63 : decode cX8_give 63 = .ok (.iand, 1) := by decide +kernel
theorem dX8_give_64 : decode cX8_give 64 = .ok (.iastore, 1) := by decide +kernel
theorem dX8_give_65 : decode cX8_give 65 = .ok (.aload_n 0, 1) := by decide +kernel
theorem dX8_give_66 : decode cX8_give 66 = .ok (.getfield 63, 3) := by decide +kernel
theorem dX8_give_69 : decode cX8_give 69 = .ok (.iload_n 3, 1) := by decide +kernel
theorem dX8_give_70 : decode cX8_give 70 = .ok (.dup2, 1) := by decide +kernel
theorem dX8_give_71 : decode cX8_give 71 = .ok (.iaload, 1) := by decide +kernel
theorem dX8_give_72 : decode cX8_give 72 = .ok (.iconst 1, 1) := by decide +kernel
theorem dX8_give_73 : decode cX8_give 73 = .ok (.iadd, 1) := by decide +kernel
theorem dX8_give_74 : decode cX8_give 74 = .ok (.iastore, 1) := by decide +kernel
theorem dX8_give_75 : decode cX8_give 75 = .ok (.aload_n 0, 1) := by decide +kernel
theorem dX8_give_76 : decode cX8_give 76 = .ok (.getfield 63, 3) := by decide +kernel
theorem dX8_give_79 : decode cX8_give 79 = .ok (.iload_n 3, 1) := by decide +kernel
theorem dX8_give_80 : decode cX8_give 80 = .ok (.iaload, 1) := by decide +kernel
theorem dX8_give_81 : decode cX8_give 81 = .ok (.ireturn, 1) := by decide +kernel
set_option maxRecDepth 20000 in
theorem ggX8_out_X8_lacks : GoodIn wsX8_out wsX8_lacks := goodIn_r _ [7, 8, 9, 10, 11, 12, 13, 14, 15, 16, 17, 18, 19, 20, 21, 22, 23, 24, 25, 26, 27, 28, 29, 30, 31, 32, 33, 34, 35, 36, 37, 38, 39, 40, 41, 42, 43] (by decide +kernel) (by decide +kernel)
set_option maxRecDepth 20000 in
theorem gX8_out_X8_lacks : GoodIn wsX8_out (wsV RX8 224 RX8 yX8_lacks wsX8_lacks) := goodIn_app (goodIn_of _ (by decide +kernel)) ggX8_out_X8_lacks
theorem dX8_out_0 : decode cX8_out 0 = .ok (.aload_n 0, 1) := by decide +kernel
theorem dX8_out_1 : decode cX8_out 1 = .ok (.iload_n 1, 1) := by decide +kernel
theorem dX8_out_2 : decode cX8_out 2 = .ok (.iconst 4, 1) := by decide +kernel
theorem dX8_out_3 : decode cX8_out 3 = .ok (.invokevirtual 224, 3) := by decide +kernel
theorem dX8_out_6 : decode cX8_out 6 = .ok (.ifCond .eq 5, 3) := by decide +kernel
theorem dX8_out_9 : decode cX8_out 9 = .ok (.iconst 0, 1) := by decide +kernel
theorem dX8_out_10 : decode cX8_out 10 = .ok (.ireturn, 1) := by decide +kernel
theorem dX8_out_11 : decode cX8_out 11 = .ok (.bipush 8, 2) := by decide +kernel
theorem dX8_out_13 : decode cX8_out 13 = .ok (.iload_n 1, 1) := by decide +kernel
theorem dX8_out_14 : decode cX8_out 14 = .ok (.iadd, 1) := by decide +kernel
theorem dX8_out_15 : decode cX8_out 15 = .ok (.istore_n 3, 1) := by decide +kernel
theorem dX8_out_16 : decode cX8_out 16 = .ok (.iload_n 2, 1) := by decide +kernel
theorem dX8_out_17 : decode cX8_out 17 = .ok (.ifCond .lt 20, 3) := by decide +kernel
theorem dX8_out_20 : decode cX8_out 20 = .ok (.iload_n 2, 1) := by decide +kernel
theorem dX8_out_21 : decode cX8_out 21 = .ok (.aload_n 0, 1) := by decide +kernel
theorem dX8_out_22 : decode cX8_out 22 = .ok (.getfield 66, 3) := by decide +kernel
theorem dX8_out_25 : decode cX8_out 25 = .ok (.iload_n 3, 1) := by decide +kernel
theorem dX8_out_26 : decode cX8_out 26 = .ok (.iaload, 1) := by decide +kernel
theorem dX8_out_27 : decode cX8_out 27 = .ok (.if_icmp .ge 10, 3) := by decide +kernel
theorem dX8_out_30 : decode cX8_out 30 = .ok (.iload_n 2, 1) := by decide +kernel
theorem dX8_out_31 : decode cX8_out 31 = .ok (.sipush 200, 3) := by decide +kernel
theorem dX8_out_34 : decode cX8_out 34 = .ok (.if_icmp .lt 7, 3) := by decide +kernel
theorem dX8_out_37 : decode cX8_out 37 = .ok (.iconst (-1), 1) := by decide +kernel
theorem dX8_out_38 : decode cX8_out 38 = .ok (.goto 15, 3) := by decide +kernel
theorem dX8_out_41 : decode cX8_out 41 = .ok (.aload_n 0, 1) := by decide +kernel
theorem dX8_out_42 : decode cX8_out 42 = .ok (.getfield 72, 3) := by decide +kernel
theorem dX8_out_45 : decode cX8_out 45 = .ok (.sipush 200, 3) := by decide +kernel
theorem dX8_out_48 : decode cX8_out 48 = .ok (.iload_n 3, 1) := by decide +kernel
theorem dX8_out_49 : decode cX8_out 49 = .ok (.imul, 1) := by decide +kernel
theorem dX8_out_50 : decode cX8_out 50 = .ok (.iload_n 2, 1) := by decide +kernel
theorem dX8_out_51 : decode cX8_out 51 = .ok (.iadd, 1) := by decide +kernel
theorem dX8_out_52 : decode cX8_out 52 = .ok (.iaload, 1) := by decide +kernel
theorem dX8_out_53 : decode cX8_out 53 = .ok (.ireturn, 1) := by decide +kernel
theorem dX8_code_0 : decode cX8_code 0 = .ok (.aload_n 0, 1) := by decide +kernel
theorem dX8_code_1 : decode cX8_code 1 = .ok (.iconst 0, 1) := by decide +kernel
theorem dX8_code_2 : decode cX8_code 2 = .ok (.putfield 75, 3) := by decide +kernel
theorem dX8_code_5 : decode cX8_code 5 = .ok (.iload_n 1, 1) := by decide +kernel
theorem dX8_code_6 : decode cX8_code 6 = .ok (.bipush 6, 2) := by decide +kernel
theorem dX8_code_8 : decode cX8_code 8 = .ok (.if_icmp .lt 9, 3) := by decide +kernel
theorem dX8_code_11 : decode cX8_code 11 = .ok (.iload_n 1, 1) := by decide +kernel
theorem dX8_code_12 : decode cX8_code 12 = .ok (.bipush 12, 2) := by decide +kernel
theorem dX8_code_14 : decode cX8_code 14 = .ok (.if_icmp .lt 5, 3) := by decide +kernel
theorem dX8_code_17 : decode cX8_code 17 = .ok (.iconst (-1), 1) := by decide +kernel
theorem dX8_code_18 : decode cX8_code 18 = .ok (.ireturn, 1) := by decide +kernel
theorem dX8_code_19 : decode cX8_code 19 = .ok (.iload_n 2, 1) := by decide +kernel
theorem dX8_code_20 : decode cX8_code 20 = .ok (.tableswitch 253 0 8 #[52, 67, 82, 97, 127, 149, 171, 209, 231], 52) := by decide +kernel
theorem dX8_code_72 : decode cX8_code 72 = .ok (.aload_n 0, 1) := by decide +kernel
theorem dX8_code_73 : decode cX8_code 73 = .ok (.getfield 20, 3) := by decide +kernel
theorem dX8_code_76 : decode cX8_code 76 = .ok (.iload_n 1, 1) := by decide +kernel
theorem dX8_code_77 : decode cX8_code 77 = .ok (.baload, 1) := by decide +kernel
theorem dX8_code_78 : decode cX8_code 78 = .ok (.ifCond .eq 7, 3) := by decide +kernel
theorem dX8_code_81 : decode cX8_code 81 = .ok (.iconst 1, 1) := by decide +kernel
theorem dX8_code_82 : decode cX8_code 82 = .ok (.goto 4, 3) := by decide +kernel
theorem dX8_code_85 : decode cX8_code 85 = .ok (.iconst 0, 1) := by decide +kernel
theorem dX8_code_86 : decode cX8_code 86 = .ok (.ireturn, 1) := by decide +kernel
theorem dX8_code_87 : decode cX8_code 87 = .ok (.aload_n 0, 1) := by decide +kernel
theorem dX8_code_88 : decode cX8_code 88 = .ok (.getfield 24, 3) := by decide +kernel
theorem dX8_code_91 : decode cX8_code 91 = .ok (.iload_n 1, 1) := by decide +kernel
theorem dX8_code_92 : decode cX8_code 92 = .ok (.baload, 1) := by decide +kernel
theorem dX8_code_93 : decode cX8_code 93 = .ok (.ifCond .eq 7, 3) := by decide +kernel
theorem dX8_code_96 : decode cX8_code 96 = .ok (.iconst 1, 1) := by decide +kernel
theorem dX8_code_97 : decode cX8_code 97 = .ok (.goto 4, 3) := by decide +kernel
theorem dX8_code_100 : decode cX8_code 100 = .ok (.iconst 0, 1) := by decide +kernel
theorem dX8_code_101 : decode cX8_code 101 = .ok (.ireturn, 1) := by decide +kernel
theorem dX8_code_102 : decode cX8_code 102 = .ok (.aload_n 0, 1) := by decide +kernel
theorem dX8_code_103 : decode cX8_code 103 = .ok (.getfield 27, 3) := by decide +kernel
theorem dX8_code_106 : decode cX8_code 106 = .ok (.iload_n 1, 1) := by decide +kernel
theorem dX8_code_107 : decode cX8_code 107 = .ok (.baload, 1) := by decide +kernel
theorem dX8_code_108 : decode cX8_code 108 = .ok (.ifCond .eq 7, 3) := by decide +kernel
theorem dX8_code_111 : decode cX8_code 111 = .ok (.iconst 1, 1) := by decide +kernel
theorem dX8_code_112 : decode cX8_code 112 = .ok (.goto 4, 3) := by decide +kernel
theorem dX8_code_115 : decode cX8_code 115 = .ok (.iconst 0, 1) := by decide +kernel
theorem dX8_code_116 : decode cX8_code 116 = .ok (.ireturn, 1) := by decide +kernel
theorem dX8_code_117 : decode cX8_code 117 = .ok (.iload_n 1, 1) := by decide +kernel
theorem dX8_code_118 : decode cX8_code 118 = .ok (.bipush 8, 2) := by decide +kernel
theorem dX8_code_120 : decode cX8_code 120 = .ok (.if_icmp .ge 20, 3) := by decide +kernel
theorem dX8_code_123 : decode cX8_code 123 = .ok (.aload_n 0, 1) := by decide +kernel
theorem dX8_code_124 : decode cX8_code 124 = .ok (.getfield 30, 3) := by decide +kernel
theorem dX8_code_127 : decode cX8_code 127 = .ok (.iload_n 1, 1) := by decide +kernel
theorem dX8_code_128 : decode cX8_code 128 = .ok (.baload, 1) := by decide +kernel
theorem dX8_code_129 : decode cX8_code 129 = .ok (.ifCond .eq 7, 3) := by decide +kernel
theorem dX8_code_132 : decode cX8_code 132 = .ok (.iconst 1, 1) := by decide +kernel
theorem dX8_code_133 : decode cX8_code 133 = .ok (.goto 13, 3) := by decide +kernel
theorem dX8_code_136 : decode cX8_code 136 = .ok (.iconst 0, 1) := by decide +kernel
theorem dX8_code_137 : decode cX8_code 137 = .ok (.goto 9, 3) := by decide +kernel
theorem dX8_code_140 : decode cX8_code 140 = .ok (.aload_n 0, 1) := by decide +kernel
theorem dX8_code_141 : decode cX8_code 141 = .ok (.getfield 60, 3) := by decide +kernel
theorem dX8_code_144 : decode cX8_code 144 = .ok (.iload_n 1, 1) := by decide +kernel
theorem dX8_code_145 : decode cX8_code 145 = .ok (.iaload, 1) := by decide +kernel
theorem dX8_code_146 : decode cX8_code 146 = .ok (.ireturn, 1) := by decide +kernel
theorem dX8_code_147 : decode cX8_code 147 = .ok (.iload_n 1, 1) := by decide +kernel
theorem dX8_code_148 : decode cX8_code 148 = .ok (.bipush 8, 2) := by decide +kernel
theorem dX8_code_150 : decode cX8_code 150 = .ok (.if_icmp .ge 12, 3) := by decide +kernel
theorem dX8_code_153 : decode cX8_code 153 = .ok (.aload_n 0, 1) := by decide +kernel
theorem dX8_code_154 : decode cX8_code 154 = .ok (.getfield 39, 3) := by decide +kernel
theorem dX8_code_157 : decode cX8_code 157 = .ok (.iload_n 1, 1) := by decide +kernel
theorem dX8_code_158 : decode cX8_code 158 = .ok (.iaload, 1) := by decide +kernel
theorem dX8_code_159 : decode cX8_code 159 = .ok (.goto 9, 3) := by decide +kernel
theorem dX8_code_162 : decode cX8_code 162 = .ok (.aload_n 0, 1) := by decide +kernel
theorem dX8_code_163 : decode cX8_code 163 = .ok (.getfield 57, 3) := by decide +kernel
theorem dX8_code_166 : decode cX8_code 166 = .ok (.iload_n 1, 1) := by decide +kernel
theorem dX8_code_167 : decode cX8_code 167 = .ok (.iaload, 1) := by decide +kernel
theorem dX8_code_168 : decode cX8_code 168 = .ok (.ireturn, 1) := by decide +kernel
theorem dX8_code_169 : decode cX8_code 169 = .ok (.iload_n 1, 1) := by decide +kernel
theorem dX8_code_170 : decode cX8_code 170 = .ok (.bipush 8, 2) := by decide +kernel
theorem dX8_code_172 : decode cX8_code 172 = .ok (.if_icmp .ge 12, 3) := by decide +kernel
theorem dX8_code_175 : decode cX8_code 175 = .ok (.aload_n 0, 1) := by decide +kernel
theorem dX8_code_176 : decode cX8_code 176 = .ok (.getfield 42, 3) := by decide +kernel
theorem dX8_code_179 : decode cX8_code 179 = .ok (.iload_n 1, 1) := by decide +kernel
theorem dX8_code_180 : decode cX8_code 180 = .ok (.iaload, 1) := by decide +kernel
theorem dX8_code_181 : decode cX8_code 181 = .ok (.goto 9, 3) := by decide +kernel
theorem dX8_code_184 : decode cX8_code 184 = .ok (.aload_n 0, 1) := by decide +kernel
theorem dX8_code_185 : decode cX8_code 185 = .ok (.getfield 63, 3) := by decide +kernel
theorem dX8_code_188 : decode cX8_code 188 = .ok (.iload_n 1, 1) := by decide +kernel
theorem dX8_code_189 : decode cX8_code 189 = .ok (.iaload, 1) := by decide +kernel
theorem dX8_code_190 : decode cX8_code 190 = .ok (.ireturn, 1) := by decide +kernel
theorem dX8_code_191 : decode cX8_code 191 = .ok (.iload_n 1, 1) := by decide +kernel
theorem dX8_code_192 : decode cX8_code 192 = .ok (.bipush 8, 2) := by decide +kernel
theorem dX8_code_194 : decode cX8_code 194 = .ok (.if_icmp .ge 20, 3) := by decide +kernel
theorem dX8_code_197 : decode cX8_code 197 = .ok (.aload_n 0, 1) := by decide +kernel
theorem dX8_code_198 : decode cX8_code 198 = .ok (.getfield 33, 3) := by decide +kernel
theorem dX8_code_201 : decode cX8_code 201 = .ok (.iload_n 1, 1) := by decide +kernel
theorem dX8_code_202 : decode cX8_code 202 = .ok (.baload, 1) := by decide +kernel
theorem dX8_code_203 : decode cX8_code 203 = .ok (.ifCond .eq 7, 3) := by decide +kernel
theorem dX8_code_206 : decode cX8_code 206 = .ok (.iconst 1, 1) := by decide +kernel
theorem dX8_code_207 : decode cX8_code 207 = .ok (.goto 21, 3) := by decide +kernel
theorem dX8_code_210 : decode cX8_code 210 = .ok (.iconst 0, 1) := by decide +kernel
theorem dX8_code_211 : decode cX8_code 211 = .ok (.goto 17, 3) := by decide +kernel
theorem dX8_code_214 : decode cX8_code 214 = .ok (.aload_n 0, 1) := by decide +kernel
theorem dX8_code_215 : decode cX8_code 215 = .ok (.getfield 51, 3) := by decide +kernel
theorem dX8_code_218 : decode cX8_code 218 = .ok (.iload_n 1, 1) := by decide +kernel
theorem dX8_code_219 : decode cX8_code 219 = .ok (.baload, 1) := by decide +kernel
theorem dX8_code_220 : decode cX8_code 220 = .ok (.ifCond .eq 7, 3) := by decide +kernel
theorem dX8_code_223 : decode cX8_code 223 = .ok (.iconst 0, 1) := by decide +kernel
theorem dX8_code_224 : decode cX8_code 224 = .ok (.goto 4, 3) := by decide +kernel
theorem dX8_code_227 : decode cX8_code 227 = .ok (.iconst 1, 1) := by decide +kernel
theorem dX8_code_228 : decode cX8_code 228 = .ok (.ireturn, 1) := by decide +kernel
theorem dX8_code_229 : decode cX8_code 229 = .ok (.iload_n 1, 1) := by decide +kernel
theorem dX8_code_230 : decode cX8_code 230 = .ok (.bipush 8, 2) := by decide +kernel
theorem dX8_code_232 : decode cX8_code 232 = .ok (.if_icmp .ge 12, 3) := by decide +kernel
theorem dX8_code_235 : decode cX8_code 235 = .ok (.aload_n 0, 1) := by decide +kernel
theorem dX8_code_236 : decode cX8_code 236 = .ok (.getfield 45, 3) := by decide +kernel
theorem dX8_code_239 : decode cX8_code 239 = .ok (.iload_n 1, 1) := by decide +kernel
theorem dX8_code_240 : decode cX8_code 240 = .ok (.iaload, 1) := by decide +kernel
theorem dX8_code_241 : decode cX8_code 241 = .ok (.goto 9, 3) := by decide +kernel
theorem dX8_code_244 : decode cX8_code 244 = .ok (.aload_n 0, 1) := by decide +kernel
theorem dX8_code_245 : decode cX8_code 245 = .ok (.getfield 54, 3) := by decide +kernel
theorem dX8_code_248 : decode cX8_code 248 = .ok (.iload_n 1, 1) := by decide +kernel
theorem dX8_code_249 : decode cX8_code 249 = .ok (.iaload, 1) := by decide +kernel
theorem dX8_code_250 : decode cX8_code 250 = .ok (.ireturn, 1) := by decide +kernel
theorem dX8_code_251 : decode cX8_code 251 = .ok (.iload_n 1, 1) := by decide +kernel
theorem dX8_code_252 : decode cX8_code 252 = .ok (.bipush 8, 2) := by decide +kernel
theorem dX8_code_254 : decode cX8_code 254 = .ok (.if_icmp .ge 12, 3) := by decide +kernel
theorem dX8_code_257 : decode cX8_code 257 = .ok (.aload_n 0, 1) := by decide +kernel
theorem dX8_code_258 : decode cX8_code 258 = .ok (.getfield 48, 3) := by decide +kernel
theorem dX8_code_261 : decode cX8_code 261 = .ok (.iload_n 1, 1) := by decide +kernel
theorem dX8_code_262 : decode cX8_code 262 = .ok (.iaload, 1) := by decide +kernel
theorem dX8_code_263 : decode cX8_code 263 = .ok (.goto 9, 3) := by decide +kernel
theorem dX8_code_266 : decode cX8_code 266 = .ok (.aload_n 0, 1) := by decide +kernel
theorem dX8_code_267 : decode cX8_code 267 = .ok (.getfield 66, 3) := by decide +kernel
theorem dX8_code_270 : decode cX8_code 270 = .ok (.iload_n 1, 1) := by decide +kernel
theorem dX8_code_271 : decode cX8_code 271 = .ok (.iaload, 1) := by decide +kernel
theorem dX8_code_272 : decode cX8_code 272 = .ok (.ireturn, 1) := by decide +kernel
theorem dX8_code_273 : decode cX8_code 273 = .ok (.iconst (-1), 1) := by decide +kernel
theorem dX8_code_274 : decode cX8_code 274 = .ok (.ireturn, 1) := by decide +kernel
set_option maxRecDepth 20000 in
theorem ggX8_sum__X8_at : GoodIn wsX8_sum_ wsX8_at := goodIn_r _ [6, 7, 8, 9, 10, 11, 12, 13, 14, 15, 16, 17, 18, 19, 20, 21, 22, 23, 24, 25, 26, 27, 28, 29, 30, 31, 32, 33, 34, 35, 36, 37, 38, 39, 40, 41, 42, 43, 44] (by decide +kernel) (by decide +kernel)
set_option maxRecDepth 20000 in
theorem gX8_sum__X8_at : GoodIn wsX8_sum_ (wsV RX8 95 RX8 yX8_at wsX8_at) := goodIn_app (goodIn_of _ (by decide +kernel)) ggX8_sum__X8_at
theorem dX8_sum__0 : decode cX8_sum_ 0 = .ok (.aload_n 0, 1) := by decide +kernel
theorem dX8_sum__1 : decode cX8_sum_ 1 = .ok (.iconst 0, 1) := by decide +kernel
theorem dX8_sum__2 : decode cX8_sum_ 2 = .ok (.putfield 75, 3) := by decide +kernel
theorem dX8_sum__5 : decode cX8_sum_ 5 = .ok (.iconst 0, 1) := by decide +kernel
theorem dX8_sum__6 : decode cX8_sum_ 6 = .ok (.istore_n 1, 1) := by decide +kernel
theorem dX8_sum__7 : decode cX8_sum_ 7 = .ok (.iconst 0, 1) := by decide +kernel
theorem dX8_sum__8 : decode cX8_sum_ 8 = .ok (.istore_n 2, 1) := by decide +kernel
theorem dX8_sum__9 : decode cX8_sum_ 9 = .ok (.iload_n 2, 1) := by decide +kernel
theorem dX8_sum__10 : decode cX8_sum_ 10 = .ok (.sipush 4096, 3) := by decide +kernel
theorem dX8_sum__13 : decode cX8_sum_ 13 = .ok (.if_icmp .ge 20, 3) := by decide +kernel
theorem dX8_sum__16 : decode cX8_sum_ 16 = .ok (.bipush 31, 2) := by decide +kernel
theorem dX8_sum__18 : decode cX8_sum_ 18 = .ok (.iload_n 1, 1) := by decide +kernel
theorem dX8_sum__19 : decode cX8_sum_ 19 = .ok (.imul, 1) := by decide +kernel
theorem dX8_sum__20 : decode cX8_sum_ 20 = .ok (.aload_n 0, 1) := by decide +kernel
theorem dX8_sum__21 : decode cX8_sum_ 21 = .ok (.iload_n 2, 1) := by decide +kernel
theorem dX8_sum__22 : decode cX8_sum_ 22 = .ok (.invokevirtual 95, 3) := by decide +kernel
theorem dX8_sum__25 : decode cX8_sum_ 25 = .ok (.iadd, 1) := by decide +kernel
theorem dX8_sum__26 : decode cX8_sum_ 26 = .ok (.istore_n 1, 1) := by decide +kernel
theorem dX8_sum__27 : decode cX8_sum_ 27 = .ok (.iinc 2 1, 3) := by decide +kernel
theorem dX8_sum__30 : decode cX8_sum_ 30 = .ok (.goto (-21), 3) := by decide +kernel
theorem dX8_sum__33 : decode cX8_sum_ 33 = .ok (.iload_n 1, 1) := by decide +kernel
theorem dX8_sum__34 : decode cX8_sum_ 34 = .ok (.ireturn, 1) := by decide +kernel
set_option maxRecDepth 20000 in
theorem ggL_run_X7_run : GoodIn wsL_run wsX7_run := goodIn_ca (goodIn_r _ [6, 7, 8, 9, 10, 11, 12, 13, 5, 14, 15, 16, 17, 18, 19, 20, 21, 22, 23, 24, 25, 26, 27, 28, 29, 30, 31, 32, 33, 34, 35, 36, 37, 38, 39, 40, 41, 42, 43, 44, 45, 46, 47, 48, 49, 50, 51, 52, 53, 54, 55, 56, 57, 58, 59, 60, 61, 62, 63, 64, 65, 66, 67, 68, 69, 70, 71, 72, 73, 74, 75, 76, 77, 78, 79, 80, 81, 82, 83, 84, 85, 86, 87, 88, 89, 90, 91, 92, 93, 94, 95, 96, 97, 98, 99, 100, 101, 102, 103, 104, 105, 106, 107, 108, 109, 110, 111, 112, 113, 114, 115, 116, 117, 118, 119, 120, 121, 122, 123, 124, 125, 126, 127, 128, 129, 130, 131, 132, 133, 134, 135, 136, 137, 138, 139, 140, 141, 142, 143, 144, 145, 146, 147, 148, 149, 150, 151, 152, 153, 154, 155, 156, 157, 158, 159, 160, 161, 162, 163, 164, 165, 166, 167, 168, 169, 170, 171, 172, 173, 174, 175, 176, 177, 178, 179, 180, 181, 182, 183, 184, 185, 186, 187, 188, 189, 190, 191, 192, 193, 194, 195, 196, 197, 198, 199, 200, 201, 202, 203, 204, 205, 206, 207, 208, 209, 210, 211, 212, 213, 214, 215, 216, 217, 218, 219, 220, 221, 222, 223, 224, 225, 226, 227, 228, 229, 230, 231, 232, 233, 234, 235, 236, 237, 238, 239, 240, 241, 242, 243, 244, 245, 246, 247, 248, 249, 250, 251, 252, 253, 254, 255, 256, 257, 258, 259, 260, 261, 262, 263, 264, 265, 266, 267, 268, 269, 270, 271, 272, 273, 274, 275, 276, 277, 278, 279, 280, 281, 282, 283, 284, 285, 286, 287, 288, 289, 290, 291, 292, 293, 294, 295, 296, 297, 298, 299, 300, 301, 302, 303, 304, 305, 306, 307, 308, 309, 310, 311, 312, 313, 314, 315, 316, 317, 318, 319, 320, 321, 322, 323, 324, 325, 326, 327] (by decide +kernel) (by decide +kernel)) (goodIn_sub (fun _ h => List.mem_cons_of_mem _ (List.mem_append_right _ h)) (by decide +kernel))
set_option maxRecDepth 20000 in
theorem gL_run_X7_run : GoodIn wsL_run (wsV RL 7 RX7 yX7_run wsX7_run) := goodIn_app (goodIn_of _ (by decide +kernel)) ggL_run_X7_run
theorem dL_run_0 : decode cL_run 0 = .ok (.aload_n 2, 1) := by decide +kernel
theorem dL_run_1 : decode cL_run 1 = .ok (.iconst 0, 1) := by decide +kernel
theorem dL_run_2 : decode cL_run 2 = .ok (.aload_n 0, 1) := by decide +kernel
theorem dL_run_3 : decode cL_run 3 = .ok (.iload_n 1, 1) := by decide +kernel
theorem dL_run_4 : decode cL_run 4 = .ok (.invokevirtual 7, 3) := by decide +kernel
theorem dL_run_7 : decode cL_run 7 = .ok (.i2l, 1) := by decide +kernel
theorem dL_run_8 : decode cL_run 8 = .ok (.lastore, 1) := by decide +kernel
theorem dL_run_9 : decode cL_run 9 = .ok (.goto 6, 3) := by decide +kernel
theorem dL_run_12 : decode cL_run 12 = .ok (.astore_n 3, 1) := by decide +kernel
theorem dL_run_13 : decode cL_run 13 = .ok (.iconst 1, 1) := by decide +kernel
theorem dL_run_14 : decode cL_run 14 = .ok (.ireturn, 1) := by decide +kernel
theorem dL_run_15 : decode cL_run 15 = .ok (.iconst 0, 1) := by decide +kernel
theorem dL_run_16 : decode cL_run 16 = .ok (.ireturn, 1) := by decide +kernel
set_option maxRecDepth 20000 in
theorem ggL_word_X7_word : GoodIn wsL_word wsX7_word := goodIn_ca (goodIn_r _ [6, 7, 8, 9, 10, 11, 12, 13, 14, 15, 16, 17, 18, 19, 20, 21, 22, 23] (by decide +kernel) (by decide +kernel)) (goodIn_sub (fun _ h => List.mem_cons_of_mem _ (List.mem_append_right _ h)) (by decide +kernel))
set_option maxRecDepth 20000 in
theorem gL_word_X7_word : GoodIn wsL_word (wsV RL 15 RX7 yX7_word wsX7_word) := goodIn_app (goodIn_of _ (by decide +kernel)) ggL_word_X7_word
theorem dL_word_0 : decode cL_word 0 = .ok (.aload_n 2, 1) := by decide +kernel
theorem dL_word_1 : decode cL_word 1 = .ok (.iconst 0, 1) := by decide +kernel
theorem dL_word_2 : decode cL_word 2 = .ok (.aload_n 0, 1) := by decide +kernel
theorem dL_word_3 : decode cL_word 3 = .ok (.iload_n 1, 1) := by decide +kernel
theorem dL_word_4 : decode cL_word 4 = .ok (.invokevirtual 15, 3) := by decide +kernel
theorem dL_word_7 : decode cL_word 7 = .ok (.i2l, 1) := by decide +kernel
theorem dL_word_8 : decode cL_word 8 = .ok (.lastore, 1) := by decide +kernel
theorem dL_word_9 : decode cL_word 9 = .ok (.goto 6, 3) := by decide +kernel
theorem dL_word_12 : decode cL_word 12 = .ok (.astore_n 3, 1) := by decide +kernel
theorem dL_word_13 : decode cL_word 13 = .ok (.iconst 1, 1) := by decide +kernel
theorem dL_word_14 : decode cL_word 14 = .ok (.ireturn, 1) := by decide +kernel
theorem dL_word_15 : decode cL_word 15 = .ok (.iconst 0, 1) := by decide +kernel
theorem dL_word_16 : decode cL_word 16 = .ok (.ireturn, 1) := by decide +kernel
set_option maxRecDepth 20000 in
theorem ggL_set_X7_set : GoodIn wsL_set wsX7_set := goodIn_ca (goodIn_r _ [6, 7, 8, 9, 10, 11, 12, 13, 14, 15, 16, 17, 18, 19, 20, 21, 22, 23, 24] (by decide +kernel) (by decide +kernel)) (goodIn_sub (fun _ h => List.mem_cons_of_mem _ (List.mem_append_right _ h)) (by decide +kernel))
set_option maxRecDepth 20000 in
theorem gL_set_X7_set : GoodIn wsL_set (wsV RL 20 RX7 yX7_set wsX7_set) := goodIn_app (goodIn_of _ (by decide +kernel)) ggL_set_X7_set
theorem dL_set_0 : decode cL_set 0 = .ok (.aload_n 0, 1) := by decide +kernel
theorem dL_set_1 : decode cL_set 1 = .ok (.iload_n 1, 1) := by decide +kernel
theorem dL_set_2 : decode cL_set 2 = .ok (.iload_n 2, 1) := by decide +kernel
theorem dL_set_3 : decode cL_set 3 = .ok (.invokevirtual 20, 3) := by decide +kernel
theorem dL_set_6 : decode cL_set 6 = .ok (.goto 6, 3) := by decide +kernel
theorem dL_set_9 : decode cL_set 9 = .ok (.astore_n 3, 1) := by decide +kernel
theorem dL_set_10 : decode cL_set 10 = .ok (.iconst 1, 1) := by decide +kernel
theorem dL_set_11 : decode cL_set 11 = .ok (.ireturn, 1) := by decide +kernel
theorem dL_set_12 : decode cL_set 12 = .ok (.iconst 0, 1) := by decide +kernel
theorem dL_set_13 : decode cL_set 13 = .ok (.ireturn, 1) := by decide +kernel
set_option maxRecDepth 20000 in
theorem ggL_device_X7_device : GoodIn wsL_device wsX7_device := goodIn_ca (goodIn_ca (goodIn_r _ [7, 8, 9, 10, 11, 12, 13, 14, 15, 16, 17, 18, 19, 20, 21, 22, 23, 24, 25, 26, 27, 28, 29, 30, 31, 32, 33, 34, 35, 36, 37, 38, 39, 40, 41, 42, 43, 44, 45, 46, 47, 48, 49, 50, 51] (by decide +kernel) (by decide +kernel)) (goodIn_sub (fun _ h => List.mem_cons_of_mem _ (List.mem_append_left _ (List.mem_append_right _ h))) (by decide +kernel))) (goodIn_sub (fun _ h => List.mem_cons_of_mem _ (List.mem_append_right _ h)) (by decide +kernel))
set_option maxRecDepth 20000 in
theorem gL_device_X7_device : GoodIn wsL_device (wsV RL 24 RX7 yX7_device wsX7_device) := goodIn_app (goodIn_of _ (by decide +kernel)) ggL_device_X7_device
theorem dL_device_0 : decode cL_device 0 = .ok (.aload_n 0, 1) := by decide +kernel
theorem dL_device_1 : decode cL_device 1 = .ok (.iload_n 1, 1) := by decide +kernel
theorem dL_device_2 : decode cL_device 2 = .ok (.iload_n 2, 1) := by decide +kernel
theorem dL_device_3 : decode cL_device 3 = .ok (.iload_n 3, 1) := by decide +kernel
theorem dL_device_4 : decode cL_device 4 = .ok (.invokevirtual 24, 3) := by decide +kernel
theorem dL_device_7 : decode cL_device 7 = .ok (.goto 11, 3) := by decide +kernel
theorem dL_device_10 : decode cL_device 10 = .ok (.astore 4, 2) := by decide +kernel
theorem dL_device_12 : decode cL_device 12 = .ok (.iconst 1, 1) := by decide +kernel
theorem dL_device_13 : decode cL_device 13 = .ok (.ireturn, 1) := by decide +kernel
theorem dL_device_14 : decode cL_device 14 = .ok (.astore 4, 2) := by decide +kernel
theorem dL_device_16 : decode cL_device 16 = .ok (.iconst 2, 1) := by decide +kernel
theorem dL_device_17 : decode cL_device 17 = .ok (.ireturn, 1) := by decide +kernel
theorem dL_device_18 : decode cL_device 18 = .ok (.iconst 0, 1) := by decide +kernel
theorem dL_device_19 : decode cL_device 19 = .ok (.ireturn, 1) := by decide +kernel
set_option maxRecDepth 20000 in
theorem ggL_give_X7_give : GoodIn wsL_give wsX7_give := goodIn_ca (goodIn_ca (goodIn_r _ [7, 8, 9, 10, 11, 12, 13, 14, 15, 16, 17, 18, 19, 20, 21, 22, 23, 24, 25, 26, 27, 28, 29, 30, 31, 32, 33, 34, 35, 36, 37, 38, 39, 40, 41, 42, 43, 44, 45, 46, 47, 48, 49, 50, 51] (by decide +kernel) (by decide +kernel)) (goodIn_sub (fun _ h => List.mem_cons_of_mem _ (List.mem_append_left _ (List.mem_append_right _ h))) (by decide +kernel))) (goodIn_sub (fun _ h => List.mem_cons_of_mem _ (List.mem_append_right _ h)) (by decide +kernel))
set_option maxRecDepth 20000 in
theorem gL_give_X7_give : GoodIn wsL_give (wsV RL 28 RX7 yX7_give wsX7_give) := goodIn_app (goodIn_of _ (by decide +kernel)) ggL_give_X7_give
theorem dL_give_0 : decode cL_give 0 = .ok (.aload_n 3, 1) := by decide +kernel
theorem dL_give_1 : decode cL_give 1 = .ok (.iconst 0, 1) := by decide +kernel
theorem dL_give_2 : decode cL_give 2 = .ok (.aload_n 0, 1) := by decide +kernel
theorem dL_give_3 : decode cL_give 3 = .ok (.iload_n 1, 1) := by decide +kernel
theorem dL_give_4 : decode cL_give 4 = .ok (.iload_n 2, 1) := by decide +kernel
theorem dL_give_5 : decode cL_give 5 = .ok (.invokevirtual 28, 3) := by decide +kernel
theorem dL_give_8 : decode cL_give 8 = .ok (.i2l, 1) := by decide +kernel
theorem dL_give_9 : decode cL_give 9 = .ok (.lastore, 1) := by decide +kernel
theorem dL_give_10 : decode cL_give 10 = .ok (.goto 11, 3) := by decide +kernel
theorem dL_give_13 : decode cL_give 13 = .ok (.astore 4, 2) := by decide +kernel
theorem dL_give_15 : decode cL_give 15 = .ok (.iconst 1, 1) := by decide +kernel
theorem dL_give_16 : decode cL_give 16 = .ok (.ireturn, 1) := by decide +kernel
theorem dL_give_17 : decode cL_give 17 = .ok (.astore 4, 2) := by decide +kernel
theorem dL_give_19 : decode cL_give 19 = .ok (.iconst 2, 1) := by decide +kernel
theorem dL_give_20 : decode cL_give 20 = .ok (.ireturn, 1) := by decide +kernel
theorem dL_give_21 : decode cL_give 21 = .ok (.iconst 0, 1) := by decide +kernel
theorem dL_give_22 : decode cL_give 22 = .ok (.ireturn, 1) := by decide +kernel
set_option maxRecDepth 20000 in
theorem ggL_out_X7_out : GoodIn wsL_out wsX7_out := goodIn_ca (goodIn_r _ [6, 7, 8, 9, 10, 11, 12, 13, 14, 15, 16, 17, 18, 19, 20, 21, 22, 23, 24, 25, 26, 27, 28, 29, 30, 31, 32, 33, 34, 35, 36, 37, 38, 39, 40, 41, 42, 43, 44, 45, 46] (by decide +kernel) (by decide +kernel)) (goodIn_sub (fun _ h => List.mem_cons_of_mem _ (List.mem_append_right _ h)) (by decide +kernel))
set_option maxRecDepth 20000 in
theorem gL_out_X7_out : GoodIn wsL_out (wsV RL 34 RX7 yX7_out wsX7_out) := goodIn_app (goodIn_of _ (by decide +kernel)) ggL_out_X7_out
theorem dL_out_0 : decode cL_out 0 = .ok (.aload_n 3, 1) := by decide +kernel
theorem dL_out_1 : decode cL_out 1 = .ok (.iconst 0, 1) := by decide +kernel
theorem dL_out_2 : decode cL_out 2 = .ok (.aload_n 0, 1) := by decide +kernel
theorem dL_out_3 : decode cL_out 3 = .ok (.iload_n 1, 1) := by decide +kernel
theorem dL_out_4 : decode cL_out 4 = .ok (.iload_n 2, 1) := by decide +kernel
theorem dL_out_5 : decode cL_out 5 = .ok (.invokevirtual 34, 3) := by decide +kernel
theorem dL_out_8 : decode cL_out 8 = .ok (.i2l, 1) := by decide +kernel
theorem dL_out_9 : decode cL_out 9 = .ok (.lastore, 1) := by decide +kernel
theorem dL_out_10 : decode cL_out 10 = .ok (.goto 7, 3) := by decide +kernel
theorem dL_out_13 : decode cL_out 13 = .ok (.astore 4, 2) := by decide +kernel
theorem dL_out_15 : decode cL_out 15 = .ok (.iconst 1, 1) := by decide +kernel
theorem dL_out_16 : decode cL_out 16 = .ok (.ireturn, 1) := by decide +kernel
theorem dL_out_17 : decode cL_out 17 = .ok (.iconst 0, 1) := by decide +kernel
theorem dL_out_18 : decode cL_out 18 = .ok (.ireturn, 1) := by decide +kernel
theorem dL_law_0 : decode cL_law 0 = .ok (.new 8, 3) := by decide +kernel
theorem dL_law_3 : decode cL_law 3 = .ok (.dup, 1) := by decide +kernel
theorem dL_law_4 : decode cL_law 4 = .ok (.invokespecial 37, 3) := by decide +kernel
theorem dL_law_7 : decode cL_law 7 = .ok (.astore_n 1, 1) := by decide +kernel
theorem dL_law_8 : decode cL_law 8 = .ok (.new 38, 3) := by decide +kernel
theorem dL_law_11 : decode cL_law 11 = .ok (.dup, 1) := by decide +kernel
theorem dL_law_12 : decode cL_law 12 = .ok (.invokespecial 40, 3) := by decide +kernel
theorem dL_law_15 : decode cL_law 15 = .ok (.astore_n 2, 1) := by decide +kernel
theorem dL_law_16 : decode cL_law 16 = .ok (.iconst 1, 1) := by decide +kernel
theorem dL_law_17 : decode cL_law 17 = .ok (.newarray .long, 2) := by decide +kernel
theorem dL_law_19 : decode cL_law 19 = .ok (.astore_n 3, 1) := by decide +kernel
theorem dL_law_20 : decode cL_law 20 = .ok (.iconst 0, 1) := by decide +kernel
theorem dL_law_21 : decode cL_law 21 = .ok (.istore 4, 2) := by decide +kernel
theorem dL_law_23 : decode cL_law 23 = .ok (.iload 4, 2) := by decide +kernel
theorem dL_law_25 : decode cL_law 25 = .ok (.aload_n 0, 1) := by decide +kernel
theorem dL_law_26 : decode cL_law 26 = .ok (.arraylength, 1) := by decide +kernel
theorem dL_law_27 : decode cL_law 27 = .ok (.iconst 4, 1) := by decide +kernel
theorem dL_law_28 : decode cL_law 28 = .ok (.isub, 1) := by decide +kernel
theorem dL_law_29 : decode cL_law 29 = .ok (.if_icmp .gt 566, 3) := by decide +kernel
theorem dL_law_32 : decode cL_law 32 = .ok (.aload_n 0, 1) := by decide +kernel
theorem dL_law_33 : decode cL_law 33 = .ok (.iload 4, 2) := by decide +kernel
theorem dL_law_35 : decode cL_law 35 = .ok (.iaload, 1) := by decide +kernel
theorem dL_law_36 : decode cL_law 36 = .ok (.bipush 15, 2) := by decide +kernel
theorem dL_law_38 : decode cL_law 38 = .ok (.iand, 1) := by decide +kernel
theorem dL_law_39 : decode cL_law 39 = .ok (.tableswitch 550 0 10 #[57, 113, 136, 192, 240, 265, 288, 364, 432, 500, 537], 57) := by decide +kernel
theorem dL_law_96 : decode cL_law 96 = .ok (.aload_n 1, 1) := by decide +kernel
theorem dL_law_97 : decode cL_law 97 = .ok (.aload_n 0, 1) := by decide +kernel
theorem dL_law_98 : decode cL_law 98 = .ok (.iload 4, 2) := by decide +kernel
theorem dL_law_100 : decode cL_law 100 = .ok (.iconst 1, 1) := by decide +kernel
theorem dL_law_101 : decode cL_law 101 = .ok (.iadd, 1) := by decide +kernel
theorem dL_law_102 : decode cL_law 102 = .ok (.iaload, 1) := by decide +kernel
theorem dL_law_103 : decode cL_law 103 = .ok (.aload_n 3, 1) := by decide +kernel
theorem dL_law_104 : decode cL_law 104 = .ok (.invokestatic 41, 3) := by decide +kernel
theorem dL_law_107 : decode cL_law 107 = .ok (.istore 5, 2) := by decide +kernel
theorem dL_law_109 : decode cL_law 109 = .ok (.aload_n 2, 1) := by decide +kernel
theorem dL_law_110 : decode cL_law 110 = .ok (.aload_n 0, 1) := by decide +kernel
theorem dL_law_111 : decode cL_law 111 = .ok (.iload 4, 2) := by decide +kernel
theorem dL_law_113 : decode cL_law 113 = .ok (.iconst 1, 1) := by decide +kernel
theorem dL_law_114 : decode cL_law 114 = .ok (.iadd, 1) := by decide +kernel
theorem dL_law_115 : decode cL_law 115 = .ok (.iaload, 1) := by decide +kernel
theorem dL_law_116 : decode cL_law 116 = .ok (.invokevirtual 46, 3) := by decide +kernel
theorem dL_law_119 : decode cL_law 119 = .ok (.istore 6, 2) := by decide +kernel
theorem dL_law_121 : decode cL_law 121 = .ok (.aload_n 2, 1) := by decide +kernel
theorem dL_law_122 : decode cL_law 122 = .ok (.invokevirtual 47, 3) := by decide +kernel
theorem dL_law_125 : decode cL_law 125 = .ok (.iload 5, 2) := by decide +kernel
theorem dL_law_127 : decode cL_law 127 = .ok (.if_icmp .eq 5, 3) := by decide +kernel
theorem dL_law_130 : decode cL_law 130 = .ok (.iconst 0, 1) := by decide +kernel
theorem dL_law_131 : decode cL_law 131 = .ok (.ireturn, 1) := by decide +kernel
theorem dL_law_132 : decode cL_law 132 = .ok (.iload 5, 2) := by decide +kernel
theorem dL_law_134 : decode cL_law 134 = .ok (.ifCond .ne 15, 3) := by decide +kernel
theorem dL_law_137 : decode cL_law 137 = .ok (.aload_n 3, 1) := by decide +kernel
theorem dL_law_138 : decode cL_law 138 = .ok (.iconst 0, 1) := by decide +kernel
theorem dL_law_139 : decode cL_law 139 = .ok (.laload, 1) := by decide +kernel
theorem dL_law_140 : decode cL_law 140 = .ok (.iload 6, 2) := by decide +kernel
theorem dL_law_142 : decode cL_law 142 = .ok (.i2l, 1) := by decide +kernel
theorem dL_law_143 : decode cL_law 143 = .ok (.lcmp, 1) := by decide +kernel
theorem dL_law_144 : decode cL_law 144 = .ok (.ifCond .eq 5, 3) := by decide +kernel
theorem dL_law_147 : decode cL_law 147 = .ok (.iconst 0, 1) := by decide +kernel
theorem dL_law_148 : decode cL_law 148 = .ok (.ireturn, 1) := by decide +kernel
theorem dL_law_149 : decode cL_law 149 = .ok (.goto 440, 3) := by decide +kernel
theorem dL_law_152 : decode cL_law 152 = .ok (.aload_n 1, 1) := by decide +kernel
theorem dL_law_153 : decode cL_law 153 = .ok (.aload_n 0, 1) := by decide +kernel
theorem dL_law_154 : decode cL_law 154 = .ok (.iload 4, 2) := by decide +kernel
theorem dL_law_156 : decode cL_law 156 = .ok (.iconst 1, 1) := by decide +kernel
theorem dL_law_157 : decode cL_law 157 = .ok (.iadd, 1) := by decide +kernel
theorem dL_law_158 : decode cL_law 158 = .ok (.iaload, 1) := by decide +kernel
theorem dL_law_159 : decode cL_law 159 = .ok (.invokevirtual 51, 3) := by decide +kernel
theorem dL_law_162 : decode cL_law 162 = .ok (.aload_n 2, 1) := by decide +kernel
theorem dL_law_163 : decode cL_law 163 = .ok (.aload_n 0, 1) := by decide +kernel
theorem dL_law_164 : decode cL_law 164 = .ok (.iload 4, 2) := by decide +kernel
theorem dL_law_166 : decode cL_law 166 = .ok (.iconst 1, 1) := by decide +kernel
theorem dL_law_167 : decode cL_law 167 = .ok (.iadd, 1) := by decide +kernel
theorem dL_law_168 : decode cL_law 168 = .ok (.iaload, 1) := by decide +kernel
theorem dL_law_169 : decode cL_law 169 = .ok (.invokevirtual 55, 3) := by decide +kernel
theorem dL_law_172 : decode cL_law 172 = .ok (.goto 417, 3) := by decide +kernel
theorem dL_law_175 : decode cL_law 175 = .ok (.aload_n 1, 1) := by decide +kernel
theorem dL_law_176 : decode cL_law 176 = .ok (.aload_n 0, 1) := by decide +kernel
theorem dL_law_177 : decode cL_law 177 = .ok (.iload 4, 2) := by decide +kernel
theorem dL_law_179 : decode cL_law 179 = .ok (.iconst 1, 1) := by decide +kernel
theorem dL_law_180 : decode cL_law 180 = .ok (.iadd, 1) := by decide +kernel
theorem dL_law_181 : decode cL_law 181 = .ok (.iaload, 1) := by decide +kernel
theorem dL_law_182 : decode cL_law 182 = .ok (.aload_n 3, 1) := by decide +kernel
theorem dL_law_183 : decode cL_law 183 = .ok (.invokestatic 56, 3) := by decide +kernel
theorem dL_law_186 : decode cL_law 186 = .ok (.istore 5, 2) := by decide +kernel
theorem dL_law_188 : decode cL_law 188 = .ok (.aload_n 2, 1) := by decide +kernel
theorem dL_law_189 : decode cL_law 189 = .ok (.aload_n 0, 1) := by decide +kernel
theorem dL_law_190 : decode cL_law 190 = .ok (.iload 4, 2) := by decide +kernel
theorem dL_law_192 : decode cL_law 192 = .ok (.iconst 1, 1) := by decide +kernel
theorem dL_law_193 : decode cL_law 193 = .ok (.iadd, 1) := by decide +kernel
theorem dL_law_194 : decode cL_law 194 = .ok (.iaload, 1) := by decide +kernel
theorem dL_law_195 : decode cL_law 195 = .ok (.invokevirtual 58, 3) := by decide +kernel
theorem dL_law_198 : decode cL_law 198 = .ok (.istore 6, 2) := by decide +kernel
theorem dL_law_200 : decode cL_law 200 = .ok (.aload_n 2, 1) := by decide +kernel
theorem dL_law_201 : decode cL_law 201 = .ok (.invokevirtual 47, 3) := by decide +kernel
theorem dL_law_204 : decode cL_law 204 = .ok (.iload 5, 2) := by decide +kernel
theorem dL_law_206 : decode cL_law 206 = .ok (.if_icmp .eq 5, 3) := by decide +kernel
theorem dL_law_209 : decode cL_law 209 = .ok (.iconst 0, 1) := by decide +kernel
theorem dL_law_210 : decode cL_law 210 = .ok (.ireturn, 1) := by decide +kernel
theorem dL_law_211 : decode cL_law 211 = .ok (.iload 5, 2) := by decide +kernel
theorem dL_law_213 : decode cL_law 213 = .ok (.ifCond .ne 15, 3) := by decide +kernel
theorem dL_law_216 : decode cL_law 216 = .ok (.aload_n 3, 1) := by decide +kernel
theorem dL_law_217 : decode cL_law 217 = .ok (.iconst 0, 1) := by decide +kernel
theorem dL_law_218 : decode cL_law 218 = .ok (.laload, 1) := by decide +kernel
theorem dL_law_219 : decode cL_law 219 = .ok (.iload 6, 2) := by decide +kernel
theorem dL_law_221 : decode cL_law 221 = .ok (.i2l, 1) := by decide +kernel
theorem dL_law_222 : decode cL_law 222 = .ok (.lcmp, 1) := by decide +kernel
theorem dL_law_223 : decode cL_law 223 = .ok (.ifCond .eq 5, 3) := by decide +kernel
theorem dL_law_226 : decode cL_law 226 = .ok (.iconst 0, 1) := by decide +kernel
theorem dL_law_227 : decode cL_law 227 = .ok (.ireturn, 1) := by decide +kernel
theorem dL_law_228 : decode cL_law 228 = .ok (.goto 361, 3) := by decide +kernel
theorem dL_law_231 : decode cL_law 231 = .ok (.aload_n 1, 1) := by decide +kernel
theorem dL_law_232 : decode cL_law 232 = .ok (.aload_n 0, 1) := by decide +kernel
theorem dL_law_233 : decode cL_law 233 = .ok (.iload 4, 2) := by decide +kernel
theorem dL_law_235 : decode cL_law 235 = .ok (.iconst 1, 1) := by decide +kernel
theorem dL_law_236 : decode cL_law 236 = .ok (.iadd, 1) := by decide +kernel
theorem dL_law_237 : decode cL_law 237 = .ok (.iaload, 1) := by decide +kernel
theorem dL_law_238 : decode cL_law 238 = .ok (.aload_n 0, 1) := by decide +kernel
theorem dL_law_239 : decode cL_law 239 = .ok (.iload 4, 2) := by decide +kernel
theorem dL_law_241 : decode cL_law 241 = .ok (.iconst 2, 1) := by decide +kernel
theorem dL_law_242 : decode cL_law 242 = .ok (.iadd, 1) := by decide +kernel
theorem dL_law_243 : decode cL_law 243 = .ok (.iaload, 1) := by decide +kernel
theorem dL_law_244 : decode cL_law 244 = .ok (.invokestatic 59, 3) := by decide +kernel
theorem dL_law_247 : decode cL_law 247 = .ok (.istore 5, 2) := by decide +kernel
theorem dL_law_249 : decode cL_law 249 = .ok (.aload_n 2, 1) := by decide +kernel
theorem dL_law_250 : decode cL_law 250 = .ok (.aload_n 0, 1) := by decide +kernel
theorem dL_law_251 : decode cL_law 251 = .ok (.iload 4, 2) := by decide +kernel
theorem dL_law_253 : decode cL_law 253 = .ok (.iconst 1, 1) := by decide +kernel
theorem dL_law_254 : decode cL_law 254 = .ok (.iadd, 1) := by decide +kernel
theorem dL_law_255 : decode cL_law 255 = .ok (.iaload, 1) := by decide +kernel
theorem dL_law_256 : decode cL_law 256 = .ok (.aload_n 0, 1) := by decide +kernel
theorem dL_law_257 : decode cL_law 257 = .ok (.iload 4, 2) := by decide +kernel
theorem dL_law_259 : decode cL_law 259 = .ok (.iconst 2, 1) := by decide +kernel
theorem dL_law_260 : decode cL_law 260 = .ok (.iadd, 1) := by decide +kernel
theorem dL_law_261 : decode cL_law 261 = .ok (.iaload, 1) := by decide +kernel
theorem dL_law_262 : decode cL_law 262 = .ok (.invokevirtual 62, 3) := by decide +kernel
theorem dL_law_265 : decode cL_law 265 = .ok (.aload_n 2, 1) := by decide +kernel
theorem dL_law_266 : decode cL_law 266 = .ok (.invokevirtual 47, 3) := by decide +kernel
theorem dL_law_269 : decode cL_law 269 = .ok (.iload 5, 2) := by decide +kernel
theorem dL_law_271 : decode cL_law 271 = .ok (.if_icmp .eq 5, 3) := by decide +kernel
theorem dL_law_274 : decode cL_law 274 = .ok (.iconst 0, 1) := by decide +kernel
theorem dL_law_275 : decode cL_law 275 = .ok (.ireturn, 1) := by decide +kernel
theorem dL_law_276 : decode cL_law 276 = .ok (.goto 313, 3) := by decide +kernel
theorem dL_law_279 : decode cL_law 279 = .ok (.aload_n 1, 1) := by decide +kernel
theorem dL_law_280 : decode cL_law 280 = .ok (.aload_n 0, 1) := by decide +kernel
theorem dL_law_281 : decode cL_law 281 = .ok (.iload 4, 2) := by decide +kernel
theorem dL_law_283 : decode cL_law 283 = .ok (.iconst 1, 1) := by decide +kernel
theorem dL_law_284 : decode cL_law 284 = .ok (.iadd, 1) := by decide +kernel
theorem dL_law_285 : decode cL_law 285 = .ok (.iaload, 1) := by decide +kernel
theorem dL_law_286 : decode cL_law 286 = .ok (.invokevirtual 63, 3) := by decide +kernel
theorem dL_law_289 : decode cL_law 289 = .ok (.aload_n 2, 1) := by decide +kernel
theorem dL_law_290 : decode cL_law 290 = .ok (.aload_n 0, 1) := by decide +kernel
theorem dL_law_291 : decode cL_law 291 = .ok (.iload 4, 2) := by decide +kernel
theorem dL_law_293 : decode cL_law 293 = .ok (.iconst 1, 1) := by decide +kernel
theorem dL_law_294 : decode cL_law 294 = .ok (.iadd, 1) := by decide +kernel
theorem dL_law_295 : decode cL_law 295 = .ok (.iaload, 1) := by decide +kernel
theorem dL_law_296 : decode cL_law 296 = .ok (.invokevirtual 66, 3) := by decide +kernel
theorem dL_law_299 : decode cL_law 299 = .ok (.if_icmp .eq 290, 3) := by decide +kernel
theorem dL_law_302 : decode cL_law 302 = .ok (.iconst 0, 1) := by decide +kernel
theorem dL_law_303 : decode cL_law 303 = .ok (.ireturn, 1) := by decide +kernel
theorem dL_law_304 : decode cL_law 304 = .ok (.aload_n 1, 1) := by decide +kernel
theorem dL_law_305 : decode cL_law 305 = .ok (.aload_n 0, 1) := by decide +kernel
theorem dL_law_306 : decode cL_law 306 = .ok (.iload 4, 2) := by decide +kernel
theorem dL_law_308 : decode cL_law 308 = .ok (.iconst 1, 1) := by decide +kernel
theorem dL_law_309 : decode cL_law 309 = .ok (.iadd, 1) := by decide +kernel
theorem dL_law_310 : decode cL_law 310 = .ok (.iaload, 1) := by decide +kernel
theorem dL_law_311 : decode cL_law 311 = .ok (.invokevirtual 67, 3) := by decide +kernel
theorem dL_law_314 : decode cL_law 314 = .ok (.aload_n 2, 1) := by decide +kernel
theorem dL_law_315 : decode cL_law 315 = .ok (.aload_n 0, 1) := by decide +kernel
theorem dL_law_316 : decode cL_law 316 = .ok (.iload 4, 2) := by decide +kernel
theorem dL_law_318 : decode cL_law 318 = .ok (.iconst 1, 1) := by decide +kernel
theorem dL_law_319 : decode cL_law 319 = .ok (.iadd, 1) := by decide +kernel
theorem dL_law_320 : decode cL_law 320 = .ok (.iaload, 1) := by decide +kernel
theorem dL_law_321 : decode cL_law 321 = .ok (.invokevirtual 70, 3) := by decide +kernel
theorem dL_law_324 : decode cL_law 324 = .ok (.goto 265, 3) := by decide +kernel
theorem dL_law_327 : decode cL_law 327 = .ok (.aload_n 1, 1) := by decide +kernel
theorem dL_law_328 : decode cL_law 328 = .ok (.aload_n 0, 1) := by decide +kernel
theorem dL_law_329 : decode cL_law 329 = .ok (.iload 4, 2) := by decide +kernel
theorem dL_law_331 : decode cL_law 331 = .ok (.iconst 1, 1) := by decide +kernel
theorem dL_law_332 : decode cL_law 332 = .ok (.iadd, 1) := by decide +kernel
theorem dL_law_333 : decode cL_law 333 = .ok (.iaload, 1) := by decide +kernel
theorem dL_law_334 : decode cL_law 334 = .ok (.aload_n 0, 1) := by decide +kernel
theorem dL_law_335 : decode cL_law 335 = .ok (.iload 4, 2) := by decide +kernel
theorem dL_law_337 : decode cL_law 337 = .ok (.iconst 2, 1) := by decide +kernel
theorem dL_law_338 : decode cL_law 338 = .ok (.iadd, 1) := by decide +kernel
theorem dL_law_339 : decode cL_law 339 = .ok (.iaload, 1) := by decide +kernel
theorem dL_law_340 : decode cL_law 340 = .ok (.ifCond .eq 7, 3) := by decide +kernel
theorem dL_law_343 : decode cL_law 343 = .ok (.iconst 1, 1) := by decide +kernel
theorem dL_law_344 : decode cL_law 344 = .ok (.goto 4, 3) := by decide +kernel
theorem dL_law_347 : decode cL_law 347 = .ok (.iconst 0, 1) := by decide +kernel
theorem dL_law_348 : decode cL_law 348 = .ok (.aload_n 0, 1) := by decide +kernel
theorem dL_law_349 : decode cL_law 349 = .ok (.iload 4, 2) := by decide +kernel
theorem dL_law_351 : decode cL_law 351 = .ok (.iconst 3, 1) := by decide +kernel
theorem dL_law_352 : decode cL_law 352 = .ok (.iadd, 1) := by decide +kernel
theorem dL_law_353 : decode cL_law 353 = .ok (.iaload, 1) := by decide +kernel
theorem dL_law_354 : decode cL_law 354 = .ok (.invokestatic 71, 3) := by decide +kernel
theorem dL_law_357 : decode cL_law 357 = .ok (.istore 5, 2) := by decide +kernel
theorem dL_law_359 : decode cL_law 359 = .ok (.aload_n 2, 1) := by decide +kernel
theorem dL_law_360 : decode cL_law 360 = .ok (.aload_n 0, 1) := by decide +kernel
theorem dL_law_361 : decode cL_law 361 = .ok (.iload 4, 2) := by decide +kernel
theorem dL_law_363 : decode cL_law 363 = .ok (.iconst 1, 1) := by decide +kernel
theorem dL_law_364 : decode cL_law 364 = .ok (.iadd, 1) := by decide +kernel
theorem dL_law_365 : decode cL_law 365 = .ok (.iaload, 1) := by decide +kernel
theorem dL_law_366 : decode cL_law 366 = .ok (.aload_n 0, 1) := by decide +kernel
theorem dL_law_367 : decode cL_law 367 = .ok (.iload 4, 2) := by decide +kernel
theorem dL_law_369 : decode cL_law 369 = .ok (.iconst 2, 1) := by decide +kernel
theorem dL_law_370 : decode cL_law 370 = .ok (.iadd, 1) := by decide +kernel
theorem dL_law_371 : decode cL_law 371 = .ok (.iaload, 1) := by decide +kernel
theorem dL_law_372 : decode cL_law 372 = .ok (.ifCond .eq 7, 3) := by decide +kernel
theorem dL_law_375 : decode cL_law 375 = .ok (.iconst 1, 1) := by decide +kernel
theorem dL_law_376 : decode cL_law 376 = .ok (.goto 4, 3) := by decide +kernel
theorem dL_law_379 : decode cL_law 379 = .ok (.iconst 0, 1) := by decide +kernel
theorem dL_law_380 : decode cL_law 380 = .ok (.aload_n 0, 1) := by decide +kernel
theorem dL_law_381 : decode cL_law 381 = .ok (.iload 4, 2) := by decide +kernel
theorem dL_law_383 : decode cL_law 383 = .ok (.iconst 3, 1) := by decide +kernel
theorem dL_law_384 : decode cL_law 384 = .ok (.iadd, 1) := by decide +kernel
theorem dL_law_385 : decode cL_law 385 = .ok (.iaload, 1) := by decide +kernel
theorem dL_law_386 : decode cL_law 386 = .ok (.invokevirtual 74, 3) := by decide +kernel
theorem dL_law_389 : decode cL_law 389 = .ok (.aload_n 2, 1) := by decide +kernel
theorem dL_law_390 : decode cL_law 390 = .ok (.invokevirtual 47, 3) := by decide +kernel
theorem dL_law_393 : decode cL_law 393 = .ok (.iload 5, 2) := by decide +kernel
theorem dL_law_395 : decode cL_law 395 = .ok (.if_icmp .eq 5, 3) := by decide +kernel
theorem dL_law_398 : decode cL_law 398 = .ok (.iconst 0, 1) := by decide +kernel
theorem dL_law_399 : decode cL_law 399 = .ok (.ireturn, 1) := by decide +kernel
theorem dL_law_400 : decode cL_law 400 = .ok (.goto 189, 3) := by decide +kernel
theorem dL_law_403 : decode cL_law 403 = .ok (.aload_n 1, 1) := by decide +kernel
theorem dL_law_404 : decode cL_law 404 = .ok (.aload_n 0, 1) := by decide +kernel
theorem dL_law_405 : decode cL_law 405 = .ok (.iload 4, 2) := by decide +kernel
theorem dL_law_407 : decode cL_law 407 = .ok (.iconst 1, 1) := by decide +kernel
theorem dL_law_408 : decode cL_law 408 = .ok (.iadd, 1) := by decide +kernel
theorem dL_law_409 : decode cL_law 409 = .ok (.iaload, 1) := by decide +kernel
theorem dL_law_410 : decode cL_law 410 = .ok (.aload_n 0, 1) := by decide +kernel
theorem dL_law_411 : decode cL_law 411 = .ok (.iload 4, 2) := by decide +kernel
theorem dL_law_413 : decode cL_law 413 = .ok (.iconst 2, 1) := by decide +kernel
theorem dL_law_414 : decode cL_law 414 = .ok (.iadd, 1) := by decide +kernel
theorem dL_law_415 : decode cL_law 415 = .ok (.iaload, 1) := by decide +kernel
theorem dL_law_416 : decode cL_law 416 = .ok (.aload_n 3, 1) := by decide +kernel
theorem dL_law_417 : decode cL_law 417 = .ok (.invokestatic 75, 3) := by decide +kernel
theorem dL_law_420 : decode cL_law 420 = .ok (.istore 5, 2) := by decide +kernel
theorem dL_law_422 : decode cL_law 422 = .ok (.aload_n 2, 1) := by decide +kernel
theorem dL_law_423 : decode cL_law 423 = .ok (.aload_n 0, 1) := by decide +kernel
theorem dL_law_424 : decode cL_law 424 = .ok (.iload 4, 2) := by decide +kernel
theorem dL_law_426 : decode cL_law 426 = .ok (.iconst 1, 1) := by decide +kernel
theorem dL_law_427 : decode cL_law 427 = .ok (.iadd, 1) := by decide +kernel
theorem dL_law_428 : decode cL_law 428 = .ok (.iaload, 1) := by decide +kernel
theorem dL_law_429 : decode cL_law 429 = .ok (.aload_n 0, 1) := by decide +kernel
theorem dL_law_430 : decode cL_law 430 = .ok (.iload 4, 2) := by decide +kernel
theorem dL_law_432 : decode cL_law 432 = .ok (.iconst 2, 1) := by decide +kernel
theorem dL_law_433 : decode cL_law 433 = .ok (.iadd, 1) := by decide +kernel
theorem dL_law_434 : decode cL_law 434 = .ok (.iaload, 1) := by decide +kernel
theorem dL_law_435 : decode cL_law 435 = .ok (.invokevirtual 78, 3) := by decide +kernel
theorem dL_law_438 : decode cL_law 438 = .ok (.istore 6, 2) := by decide +kernel
theorem dL_law_440 : decode cL_law 440 = .ok (.aload_n 2, 1) := by decide +kernel
theorem dL_law_441 : decode cL_law 441 = .ok (.invokevirtual 47, 3) := by decide +kernel
theorem dL_law_444 : decode cL_law 444 = .ok (.iload 5, 2) := by decide +kernel
theorem dL_law_446 : decode cL_law 446 = .ok (.if_icmp .eq 5, 3) := by decide +kernel
theorem dL_law_449 : decode cL_law 449 = .ok (.iconst 0, 1) := by decide +kernel
theorem dL_law_450 : decode cL_law 450 = .ok (.ireturn, 1) := by decide +kernel
theorem dL_law_451 : decode cL_law 451 = .ok (.iload 5, 2) := by decide +kernel
theorem dL_law_453 : decode cL_law 453 = .ok (.ifCond .ne 15, 3) := by decide +kernel
theorem dL_law_456 : decode cL_law 456 = .ok (.aload_n 3, 1) := by decide +kernel
theorem dL_law_457 : decode cL_law 457 = .ok (.iconst 0, 1) := by decide +kernel
theorem dL_law_458 : decode cL_law 458 = .ok (.laload, 1) := by decide +kernel
theorem dL_law_459 : decode cL_law 459 = .ok (.iload 6, 2) := by decide +kernel
theorem dL_law_461 : decode cL_law 461 = .ok (.i2l, 1) := by decide +kernel
theorem dL_law_462 : decode cL_law 462 = .ok (.lcmp, 1) := by decide +kernel
theorem dL_law_463 : decode cL_law 463 = .ok (.ifCond .eq 5, 3) := by decide +kernel
theorem dL_law_466 : decode cL_law 466 = .ok (.iconst 0, 1) := by decide +kernel
theorem dL_law_467 : decode cL_law 467 = .ok (.ireturn, 1) := by decide +kernel
theorem dL_law_468 : decode cL_law 468 = .ok (.goto 121, 3) := by decide +kernel
theorem dL_law_471 : decode cL_law 471 = .ok (.aload_n 1, 1) := by decide +kernel
theorem dL_law_472 : decode cL_law 472 = .ok (.aload_n 0, 1) := by decide +kernel
theorem dL_law_473 : decode cL_law 473 = .ok (.iload 4, 2) := by decide +kernel
theorem dL_law_475 : decode cL_law 475 = .ok (.iconst 1, 1) := by decide +kernel
theorem dL_law_476 : decode cL_law 476 = .ok (.iadd, 1) := by decide +kernel
theorem dL_law_477 : decode cL_law 477 = .ok (.iaload, 1) := by decide +kernel
theorem dL_law_478 : decode cL_law 478 = .ok (.aload_n 0, 1) := by decide +kernel
theorem dL_law_479 : decode cL_law 479 = .ok (.iload 4, 2) := by decide +kernel
theorem dL_law_481 : decode cL_law 481 = .ok (.iconst 2, 1) := by decide +kernel
theorem dL_law_482 : decode cL_law 482 = .ok (.iadd, 1) := by decide +kernel
theorem dL_law_483 : decode cL_law 483 = .ok (.iaload, 1) := by decide +kernel
theorem dL_law_484 : decode cL_law 484 = .ok (.aload_n 3, 1) := by decide +kernel
theorem dL_law_485 : decode cL_law 485 = .ok (.invokestatic 79, 3) := by decide +kernel
theorem dL_law_488 : decode cL_law 488 = .ok (.istore 5, 2) := by decide +kernel
theorem dL_law_490 : decode cL_law 490 = .ok (.aload_n 2, 1) := by decide +kernel
theorem dL_law_491 : decode cL_law 491 = .ok (.aload_n 0, 1) := by decide +kernel
theorem dL_law_492 : decode cL_law 492 = .ok (.iload 4, 2) := by decide +kernel
theorem dL_law_494 : decode cL_law 494 = .ok (.iconst 1, 1) := by decide +kernel
theorem dL_law_495 : decode cL_law 495 = .ok (.iadd, 1) := by decide +kernel
theorem dL_law_496 : decode cL_law 496 = .ok (.iaload, 1) := by decide +kernel
theorem dL_law_497 : decode cL_law 497 = .ok (.aload_n 0, 1) := by decide +kernel
theorem dL_law_498 : decode cL_law 498 = .ok (.iload 4, 2) := by decide +kernel
theorem dL_law_500 : decode cL_law 500 = .ok (.iconst 2, 1) := by decide +kernel
theorem dL_law_501 : decode cL_law 501 = .ok (.iadd, 1) := by decide +kernel
theorem dL_law_502 : decode cL_law 502 = .ok (.iaload, 1) := by decide +kernel
theorem dL_law_503 : decode cL_law 503 = .ok (.invokevirtual 81, 3) := by decide +kernel
theorem dL_law_506 : decode cL_law 506 = .ok (.istore 6, 2) := by decide +kernel
theorem dL_law_508 : decode cL_law 508 = .ok (.aload_n 2, 1) := by decide +kernel
theorem dL_law_509 : decode cL_law 509 = .ok (.invokevirtual 47, 3) := by decide +kernel
theorem dL_law_512 : decode cL_law 512 = .ok (.iload 5, 2) := by decide +kernel
theorem dL_law_514 : decode cL_law 514 = .ok (.if_icmp .eq 5, 3) := by decide +kernel
theorem dL_law_517 : decode cL_law 517 = .ok (.iconst 0, 1) := by decide +kernel
theorem dL_law_518 : decode cL_law 518 = .ok (.ireturn, 1) := by decide +kernel
theorem dL_law_519 : decode cL_law 519 = .ok (.iload 5, 2) := by decide +kernel
theorem dL_law_521 : decode cL_law 521 = .ok (.ifCond .ne 15, 3) := by decide +kernel
theorem dL_law_524 : decode cL_law 524 = .ok (.aload_n 3, 1) := by decide +kernel
theorem dL_law_525 : decode cL_law 525 = .ok (.iconst 0, 1) := by decide +kernel
theorem dL_law_526 : decode cL_law 526 = .ok (.laload, 1) := by decide +kernel
theorem dL_law_527 : decode cL_law 527 = .ok (.iload 6, 2) := by decide +kernel
theorem dL_law_529 : decode cL_law 529 = .ok (.i2l, 1) := by decide +kernel
theorem dL_law_530 : decode cL_law 530 = .ok (.lcmp, 1) := by decide +kernel
theorem dL_law_531 : decode cL_law 531 = .ok (.ifCond .eq 5, 3) := by decide +kernel
theorem dL_law_534 : decode cL_law 534 = .ok (.iconst 0, 1) := by decide +kernel
theorem dL_law_535 : decode cL_law 535 = .ok (.ireturn, 1) := by decide +kernel
theorem dL_law_536 : decode cL_law 536 = .ok (.goto 53, 3) := by decide +kernel
theorem dL_law_539 : decode cL_law 539 = .ok (.aload_n 1, 1) := by decide +kernel
theorem dL_law_540 : decode cL_law 540 = .ok (.aload_n 0, 1) := by decide +kernel
theorem dL_law_541 : decode cL_law 541 = .ok (.iload 4, 2) := by decide +kernel
theorem dL_law_543 : decode cL_law 543 = .ok (.iconst 1, 1) := by decide +kernel
theorem dL_law_544 : decode cL_law 544 = .ok (.iadd, 1) := by decide +kernel
theorem dL_law_545 : decode cL_law 545 = .ok (.iaload, 1) := by decide +kernel
theorem dL_law_546 : decode cL_law 546 = .ok (.aload_n 0, 1) := by decide +kernel
theorem dL_law_547 : decode cL_law 547 = .ok (.iload 4, 2) := by decide +kernel
theorem dL_law_549 : decode cL_law 549 = .ok (.iconst 2, 1) := by decide +kernel
theorem dL_law_550 : decode cL_law 550 = .ok (.iadd, 1) := by decide +kernel
theorem dL_law_551 : decode cL_law 551 = .ok (.iaload, 1) := by decide +kernel
theorem dL_law_552 : decode cL_law 552 = .ok (.invokevirtual 82, 3) := by decide +kernel
theorem dL_law_555 : decode cL_law 555 = .ok (.aload_n 2, 1) := by decide +kernel
theorem dL_law_556 : decode cL_law 556 = .ok (.aload_n 0, 1) := by decide +kernel
theorem dL_law_557 : decode cL_law 557 = .ok (.iload 4, 2) := by decide +kernel
theorem dL_law_559 : decode cL_law 559 = .ok (.iconst 1, 1) := by decide +kernel
theorem dL_law_560 : decode cL_law 560 = .ok (.iadd, 1) := by decide +kernel
theorem dL_law_561 : decode cL_law 561 = .ok (.iaload, 1) := by decide +kernel
theorem dL_law_562 : decode cL_law 562 = .ok (.aload_n 0, 1) := by decide +kernel
theorem dL_law_563 : decode cL_law 563 = .ok (.iload 4, 2) := by decide +kernel
theorem dL_law_565 : decode cL_law 565 = .ok (.iconst 2, 1) := by decide +kernel
theorem dL_law_566 : decode cL_law 566 = .ok (.iadd, 1) := by decide +kernel
theorem dL_law_567 : decode cL_law 567 = .ok (.iaload, 1) := by decide +kernel
theorem dL_law_568 : decode cL_law 568 = .ok (.invokevirtual 85, 3) := by decide +kernel
theorem dL_law_571 : decode cL_law 571 = .ok (.if_icmp .eq 18, 3) := by decide +kernel
theorem dL_law_574 : decode cL_law 574 = .ok (.iconst 0, 1) := by decide +kernel
theorem dL_law_575 : decode cL_law 575 = .ok (.ireturn, 1) := by decide +kernel
theorem dL_law_576 : decode cL_law 576 = .ok (.aload_n 1, 1) := by decide +kernel
theorem dL_law_577 : decode cL_law 577 = .ok (.invokevirtual 86, 3) := by decide +kernel
theorem dL_law_580 : decode cL_law 580 = .ok (.aload_n 2, 1) := by decide +kernel
theorem dL_law_581 : decode cL_law 581 = .ok (.invokevirtual 89, 3) := by decide +kernel
theorem dL_law_584 : decode cL_law 584 = .ok (.if_icmp .eq 5, 3) := by decide +kernel
theorem dL_law_587 : decode cL_law 587 = .ok (.iconst 0, 1) := by decide +kernel
theorem dL_law_588 : decode cL_law 588 = .ok (.ireturn, 1) := by decide +kernel
theorem dL_law_589 : decode cL_law 589 = .ok (.iinc 4 4, 3) := by decide +kernel
theorem dL_law_592 : decode cL_law 592 = .ok (.goto (-569), 3) := by decide +kernel
theorem dL_law_595 : decode cL_law 595 = .ok (.iconst 1, 1) := by decide +kernel
theorem dL_law_596 : decode cL_law 596 = .ok (.ireturn, 1) := by decide +kernel
