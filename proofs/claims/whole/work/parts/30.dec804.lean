theorem dX8_extended_18 : decode cX8_extended 18 = .ok (.iload_n 1, 1) := by decide +kernel
theorem dX8_extended_19 : decode cX8_extended 19 = .ok (.ldc 201, 2) := by decide +kernel
theorem dX8_extended_21 : decode cX8_extended 21 = .ok (.if_icmp .ne 41, 3) := by decide +kernel
theorem dX8_extended_24 : decode cX8_extended 24 = .ok (.aload_n 0, 1) := by decide +kernel
theorem dX8_extended_25 : decode cX8_extended 25 = .ok (.getfield 84, 3) := by decide +kernel
theorem dX8_extended_28 : decode cX8_extended 28 = .ok (.istore_n 2, 1) := by decide +kernel
theorem dX8_extended_29 : decode cX8_extended 29 = .ok (.aload_n 0, 1) := by decide +kernel
theorem dX8_extended_30 : decode cX8_extended 30 = .ok (.aload_n 0, 1) := by decide +kernel
theorem dX8_extended_31 : decode cX8_extended 31 = .ok (.getfield 84, 3) := by decide +kernel
theorem dX8_extended_34 : decode cX8_extended 34 = .ok (.invokestatic 87, 3) := by decide +kernel
theorem dX8_extended_37 : decode cX8_extended 37 = .ok (.putfield 84, 3) := by decide +kernel
theorem dX8_extended_40 : decode cX8_extended 40 = .ok (.aload_n 0, 1) := by decide +kernel
theorem dX8_extended_41 : decode cX8_extended 41 = .ok (.aload_n 0, 1) := by decide +kernel
theorem dX8_extended_42 : decode cX8_extended 42 = .ok (.iload_n 2, 1) := by decide +kernel
theorem dX8_extended_43 : decode cX8_extended 43 = .ok (.invokevirtual 95, 3) := by decide +kernel
theorem dX8_extended_46 : decode cX8_extended 46 = .ok (.invokevirtual 144, 3) := by decide +kernel
theorem dX8_extended_49 : decode cX8_extended 49 = .ok (.istore_n 3, 1) := by decide +kernel
theorem dX8_extended_50 : decode cX8_extended 50 = .ok (.iload_n 3, 1) := by decide +kernel
theorem dX8_extended_51 : decode cX8_extended 51 = .ok (.iconst (-1), 1) := by decide +kernel
theorem dX8_extended_52 : decode cX8_extended 52 = .ok (.if_icmp .eq 9, 3) := by decide +kernel
theorem dX8_extended_55 : decode cX8_extended 55 = .ok (.aload_n 0, 1) := by decide +kernel
theorem dX8_extended_56 : decode cX8_extended 56 = .ok (.iload_n 1, 1) := by decide +kernel
theorem dX8_extended_57 : decode cX8_extended 57 = .ok (.iload_n 3, 1) := by decide +kernel
theorem dX8_extended_58 : decode cX8_extended 58 = .ok (.invokevirtual 202, 3) := by decide +kernel
theorem dX8_extended_61 : decode cX8_extended 61 = .ok (.return_, 1) := by decide +kernel
theorem dX8_extended_62 : decode cX8_extended 62 = .ok (.iload_n 1, 1) := by decide +kernel
theorem dX8_extended_63 : decode cX8_extended 63 = .ok (.bipush 15, 2) := by decide +kernel
theorem dX8_extended_65 : decode cX8_extended 65 = .ok (.iand, 1) := by decide +kernel
theorem dX8_extended_66 : decode cX8_extended 66 = .ok (.ifCond .ne 8, 3) := by decide +kernel
theorem dX8_extended_69 : decode cX8_extended 69 = .ok (.bipush 16, 2) := by decide +kernel
theorem dX8_extended_71 : decode cX8_extended 71 = .ok (.goto 7, 3) := by decide +kernel
theorem dX8_extended_74 : decode cX8_extended 74 = .ok (.iload_n 1, 1) := by decide +kernel
theorem dX8_extended_75 : decode cX8_extended 75 = .ok (.bipush 15, 2) := by decide +kernel
theorem dX8_extended_77 : decode cX8_extended 77 = .ok (.iand, 1) := by decide +kernel
theorem dX8_extended_78 : decode cX8_extended 78 = .ok (.istore_n 2, 1) := by decide +kernel
theorem dX8_extended_79 : decode cX8_extended 79 = .ok (.aload_n 0, 1) := by decide +kernel
theorem dX8_extended_80 : decode cX8_extended 80 = .ok (.invokevirtual 205, 3) := by decide +kernel
theorem dX8_extended_83 : decode cX8_extended 83 = .ok (.lstore_n 3, 1) := by decide +kernel
theorem dX8_extended_84 : decode cX8_extended 84 = .ok (.iload_n 1, 1) := by decide +kernel
theorem dX8_extended_85 : decode cX8_extended 85 = .ok (.bipush (-16), 2) := by decide +kernel
theorem dX8_extended_87 : decode cX8_extended 87 = .ok (.iand, 1) := by decide +kernel
theorem dX8_extended_88 : decode cX8_extended 88 = .ok (.lookupswitch 139 #[(32784, 60), (32800, 85), (32832, 105), (33296, 68), (33312, 95), (33344, 122)], 60) := by decide +kernel
theorem dX8_extended_148 : decode cX8_extended 148 = .ok (.aload_n 0, 1) := by decide +kernel
theorem dX8_extended_149 : decode cX8_extended 149 = .ok (.iload_n 2, 1) := by decide +kernel
theorem dX8_extended_150 : decode cX8_extended 150 = .ok (.invokevirtual 209, 3) := by decide +kernel
theorem dX8_extended_153 : decode cX8_extended 153 = .ok (.goto 74, 3) := by decide +kernel
theorem dX8_extended_156 : decode cX8_extended 156 = .ok (.aload_n 0, 1) := by decide +kernel
theorem dX8_extended_157 : decode cX8_extended 157 = .ok (.lload_n 3, 1) := by decide +kernel
theorem dX8_extended_158 : decode cX8_extended 158 = .ok (.l2i, 1) := by decide +kernel
theorem dX8_extended_159 : decode cX8_extended 159 = .ok (.i2l, 1) := by decide +kernel
theorem dX8_extended_160 : decode cX8_extended 160 = .ok (.iload_n 2, 1) := by decide +kernel
theorem dX8_extended_161 : decode cX8_extended 161 = .ok (.lshr, 1) := by decide +kernel
theorem dX8_extended_162 : decode cX8_extended 162 = .ok (.invokevirtual 212, 3) := by decide +kernel
theorem dX8_extended_165 : decode cX8_extended 165 = .ok (.aload_n 0, 1) := by decide +kernel
theorem dX8_extended_166 : decode cX8_extended 166 = .ok (.iconst 0, 1) := by decide +kernel
theorem dX8_extended_167 : decode cX8_extended 167 = .ok (.putfield 159, 3) := by decide +kernel
theorem dX8_extended_170 : decode cX8_extended 170 = .ok (.goto 57, 3) := by decide +kernel
theorem dX8_extended_173 : decode cX8_extended 173 = .ok (.aload_n 0, 1) := by decide +kernel
theorem dX8_extended_174 : decode cX8_extended 174 = .ok (.lload_n 3, 1) := by decide +kernel
theorem dX8_extended_175 : decode cX8_extended 175 = .ok (.iload_n 2, 1) := by decide +kernel
theorem dX8_extended_176 : decode cX8_extended 176 = .ok (.lshl, 1) := by decide +kernel
theorem dX8_extended_177 : decode cX8_extended 177 = .ok (.invokevirtual 212, 3) := by decide +kernel
theorem dX8_extended_180 : decode cX8_extended 180 = .ok (.goto 47, 3) := by decide +kernel
theorem dX8_extended_183 : decode cX8_extended 183 = .ok (.aload_n 0, 1) := by decide +kernel
theorem dX8_extended_184 : decode cX8_extended 184 = .ok (.lload_n 3, 1) := by decide +kernel
theorem dX8_extended_185 : decode cX8_extended 185 = .ok (.iload_n 2, 1) := by decide +kernel
theorem dX8_extended_186 : decode cX8_extended 186 = .ok (.lshr, 1) := by decide +kernel
theorem dX8_extended_187 : decode cX8_extended 187 = .ok (.invokevirtual 212, 3) := by decide +kernel
theorem dX8_extended_190 : decode cX8_extended 190 = .ok (.goto 37, 3) := by decide +kernel
theorem dX8_extended_193 : decode cX8_extended 193 = .ok (.aload_n 0, 1) := by decide +kernel
theorem dX8_extended_194 : decode cX8_extended 194 = .ok (.lload_n 3, 1) := by decide +kernel
theorem dX8_extended_195 : decode cX8_extended 195 = .ok (.iload_n 2, 1) := by decide +kernel
theorem dX8_extended_196 : decode cX8_extended 196 = .ok (.lshl, 1) := by decide +kernel
theorem dX8_extended_197 : decode cX8_extended 197 = .ok (.lload_n 3, 1) := by decide +kernel
theorem dX8_extended_198 : decode cX8_extended 198 = .ok (.bipush 32, 2) := by decide +kernel
theorem dX8_extended_200 : decode cX8_extended 200 = .ok (.iload_n 2, 1) := by decide +kernel
theorem dX8_extended_201 : decode cX8_extended 201 = .ok (.isub, 1) := by decide +kernel
theorem dX8_extended_202 : decode cX8_extended 202 = .ok (.lshr, 1) := by decide +kernel
theorem dX8_extended_203 : decode cX8_extended 203 = .ok (.lor, 1) := by decide +kernel
theorem dX8_extended_204 : decode cX8_extended 204 = .ok (.invokevirtual 212, 3) := by decide +kernel
theorem dX8_extended_207 : decode cX8_extended 207 = .ok (.goto 20, 3) := by decide +kernel
theorem dX8_extended_210 : decode cX8_extended 210 = .ok (.aload_n 0, 1) := by decide +kernel
theorem dX8_extended_211 : decode cX8_extended 211 = .ok (.lload_n 3, 1) := by decide +kernel
theorem dX8_extended_212 : decode cX8_extended 212 = .ok (.iload_n 2, 1) := by decide +kernel
theorem dX8_extended_213 : decode cX8_extended 213 = .ok (.lshr, 1) := by decide +kernel
theorem dX8_extended_214 : decode cX8_extended 214 = .ok (.lload_n 3, 1) := by decide +kernel
theorem dX8_extended_215 : decode cX8_extended 215 = .ok (.bipush 32, 2) := by decide +kernel
theorem dX8_extended_217 : decode cX8_extended 217 = .ok (.iload_n 2, 1) := by decide +kernel
theorem dX8_extended_218 : decode cX8_extended 218 = .ok (.isub, 1) := by decide +kernel
theorem dX8_extended_219 : decode cX8_extended 219 = .ok (.lshl, 1) := by decide +kernel
theorem dX8_extended_220 : decode cX8_extended 220 = .ok (.lor, 1) := by decide +kernel
theorem dX8_extended_221 : decode cX8_extended 221 = .ok (.invokevirtual 212, 3) := by decide +kernel
theorem dX8_extended_224 : decode cX8_extended 224 = .ok (.goto 3, 3) := by decide +kernel
theorem dX8_extended_227 : decode cX8_extended 227 = .ok (.return_, 1) := by decide +kernel
set_option maxRecDepth 20000 in
theorem ggX8_leftSigned_X8_both : GoodIn wsX8_leftSigned wsX8_both := goodIn_r _ [7, 8, 9, 15, 16, 17, 18, 19, 20, 21, 22, 23, 24, 25, 26, 27, 28, 29, 30, 31, 32, 33, 34, 35, 36, 37, 38, 39, 40, 41, 42, 43, 44, 45, 46, 47, 48, 49] (by decide +kernel) (by decide +kernel)
set_option maxRecDepth 20000 in
theorem gX8_leftSigned_X8_both : GoodIn wsX8_leftSigned (wsV RX8 205 RX8 yX8_both wsX8_both) := goodIn_app (goodIn_of _ (by decide +kernel)) ggX8_leftSigned_X8_both
set_option maxRecDepth 20000 in
theorem ggX8_leftSigned_X8_both_ : GoodIn wsX8_leftSigned wsX8_both_ := goodIn_r _ [13, 14, 9, 8, 15, 16, 17, 18, 19, 20, 21, 22, 23, 24, 25, 26, 27, 28, 29, 30, 31, 32, 33, 34, 35, 36, 37, 38, 39, 40, 41, 42, 43, 44, 45, 46, 47, 48, 49] (by decide +kernel) (by decide +kernel)
set_option maxRecDepth 20000 in
theorem gX8_leftSigned_X8_both_ : GoodIn wsX8_leftSigned (wsV RX8 212 RX8 yX8_both_ wsX8_both_) := goodIn_app (goodIn_of _ (by decide +kernel)) ggX8_leftSigned_X8_both_
theorem dX8_leftSigned_0 : decode cX8_leftSigned 0 = .ok (.aload_n 0, 1) := by decide +kernel
theorem dX8_leftSigned_1 : decode cX8_leftSigned 1 = .ok (.invokevirtual 205, 3) := by decide +kernel
theorem dX8_leftSigned_4 : decode cX8_leftSigned 4 = .ok (.lstore_n 2, 1) := by decide +kernel
theorem dX8_leftSigned_5 : decode cX8_leftSigned 5 = .ok (.lload_n 2, 1) := by decide +kernel
theorem dX8_leftSigned_6 : decode cX8_leftSigned 6 = .ok (.bipush 31, 2) := by decide +kernel
theorem dX8_leftSigned_8 : decode cX8_leftSigned 8 = .ok (.lshr, 1) := by decide +kernel
theorem dX8_leftSigned_9 : decode cX8_leftSigned 9 = .ok (.lconst 1, 1) := by decide +kernel
theorem dX8_leftSigned_10 : decode cX8_leftSigned 10 = .ok (.land, 1) := by decide +kernel
theorem dX8_leftSigned_11 : decode cX8_leftSigned 11 = .ok (.lstore 4, 2) := by decide +kernel
theorem dX8_leftSigned_13 : decode cX8_leftSigned 13 = .ok (.aload_n 0, 1) := by decide +kernel
theorem dX8_leftSigned_14 : decode cX8_leftSigned 14 = .ok (.iconst 0, 1) := by decide +kernel
theorem dX8_leftSigned_15 : decode cX8_leftSigned 15 = .ok (.putfield 159, 3) := by decide +kernel
theorem dX8_leftSigned_18 : decode cX8_leftSigned 18 = .ok (.iconst 0, 1) := by decide +kernel
theorem dX8_leftSigned_19 : decode cX8_leftSigned 19 = .ok (.istore 6, 2) := by decide +kernel
theorem dX8_leftSigned_21 : decode cX8_leftSigned 21 = .ok (.iload 6, 2) := by decide +kernel
theorem dX8_leftSigned_23 : decode cX8_leftSigned 23 = .ok (.iload_n 1, 1) := by decide +kernel
theorem dX8_leftSigned_24 : decode cX8_leftSigned 24 = .ok (.if_icmp .ge 40, 3) := by decide +kernel
theorem dX8_leftSigned_27 : decode cX8_leftSigned 27 = .ok (.lload_n 2, 1) := by decide +kernel
theorem dX8_leftSigned_28 : decode cX8_leftSigned 28 = .ok (.bipush 30, 2) := by decide +kernel
theorem dX8_leftSigned_30 : decode cX8_leftSigned 30 = .ok (.lshr, 1) := by decide +kernel
theorem dX8_leftSigned_31 : decode cX8_leftSigned 31 = .ok (.lconst 1, 1) := by decide +kernel
theorem dX8_leftSigned_32 : decode cX8_leftSigned 32 = .ok (.land, 1) := by decide +kernel
theorem dX8_leftSigned_33 : decode cX8_leftSigned 33 = .ok (.lload 4, 2) := by decide +kernel
theorem dX8_leftSigned_35 : decode cX8_leftSigned 35 = .ok (.lcmp, 1) := by decide +kernel
theorem dX8_leftSigned_36 : decode cX8_leftSigned 36 = .ok (.ifCond .eq 8, 3) := by decide +kernel
theorem dX8_leftSigned_39 : decode cX8_leftSigned 39 = .ok (.aload_n 0, 1) := by decide +kernel
theorem dX8_leftSigned_40 : decode cX8_leftSigned 40 = .ok (.iconst 1, 1) := by decide +kernel
theorem dX8_leftSigned_41 : decode cX8_leftSigned 41 = .ok (.putfield 159, 3) := by decide +kernel
theorem dX8_leftSigned_44 : decode cX8_leftSigned 44 = .ok (.lload_n 2, 1) := by decide +kernel
theorem dX8_leftSigned_45 : decode cX8_leftSigned 45 = .ok (.iconst 1, 1) := by decide +kernel
theorem dX8_leftSigned_46 : decode cX8_leftSigned 46 = .ok (.lshl, 1) := by decide +kernel
theorem dX8_leftSigned_47 : decode cX8_leftSigned 47 = .ok (.ldc2_w 215, 3) := by decide +kernel
theorem dX8_leftSigned_50 : decode cX8_leftSigned 50 = .ok (.land, 1) := by decide +kernel
theorem dX8_leftSigned_51 : decode cX8_leftSigned 51 = .ok (.lload 4, 2) := by decide +kernel
theorem dX8_leftSigned_53 : decode cX8_leftSigned 53 = .ok (.bipush 31, 2) := by decide +kernel
theorem dX8_leftSigned_55 : decode cX8_leftSigned 55 = .ok (.lshl, 1) := by decide +kernel
theorem dX8_leftSigned_56 : decode cX8_leftSigned 56 = .ok (.lor, 1) := by decide +kernel
theorem dX8_leftSigned_57 : decode cX8_leftSigned 57 = .ok (.lstore_n 2, 1) := by decide +kernel
theorem dX8_leftSigned_58 : decode cX8_leftSigned 58 = .ok (.iinc 6 1, 3) := by decide +kernel
theorem dX8_leftSigned_61 : decode cX8_leftSigned 61 = .ok (.goto (-40), 3) := by decide +kernel
theorem dX8_leftSigned_64 : decode cX8_leftSigned 64 = .ok (.aload_n 0, 1) := by decide +kernel
theorem dX8_leftSigned_65 : decode cX8_leftSigned 65 = .ok (.lload_n 2, 1) := by decide +kernel
theorem dX8_leftSigned_66 : decode cX8_leftSigned 66 = .ok (.invokevirtual 212, 3) := by decide +kernel
theorem dX8_leftSigned_69 : decode cX8_leftSigned 69 = .ok (.return_, 1) := by decide +kernel
set_option maxRecDepth 20000 in
theorem ggX8_twoWords_X8_more : GoodIn wsX8_twoWords wsX8_more := goodIn_r _ [13] (by decide +kernel) (by decide +kernel)
set_option maxRecDepth 20000 in
theorem gX8_twoWords_X8_more : GoodIn wsX8_twoWords (va_wsS RX8 87 yX8_more wsX8_more) := goodIn_app (goodIn_of _ (by decide +kernel)) ggX8_twoWords_X8_more
set_option maxRecDepth 20000 in
theorem ggX8_twoWords_X8_signed : GoodIn wsX8_twoWords wsX8_signed := goodIn_r _ [16, 17] (by decide +kernel) (by decide +kernel)
set_option maxRecDepth 20000 in
theorem gX8_twoWords_X8_signed : GoodIn wsX8_twoWords (va_wsS RX8 156 yX8_signed wsX8_signed) := goodIn_app (goodIn_of _ (by decide +kernel)) ggX8_twoWords_X8_signed
set_option maxRecDepth 20000 in
theorem ggX8_twoWords_X8_at : GoodIn wsX8_twoWords wsX8_at := goodIn_r _ [21, 2, 8, 22, 35, 36, 37, 38, 39, 40, 41, 42, 43, 44, 45, 46, 47, 48, 49, 50, 51, 52, 53, 54, 55, 56, 57, 58, 59, 60, 61, 62, 63, 64, 65, 66, 67, 68, 69] (by decide +kernel) (by decide +kernel)
set_option maxRecDepth 20000 in
theorem gX8_twoWords_X8_at : GoodIn wsX8_twoWords (wsV RX8 95 RX8 yX8_at wsX8_at) := goodIn_app (goodIn_of _ (by decide +kernel)) ggX8_twoWords_X8_at
set_option maxRecDepth 20000 in
theorem ggX8_twoWords_X8_both_ : GoodIn wsX8_twoWords wsX8_both_ := goodIn_r _ [26, 7, 2, 8, 35, 36, 37, 38, 39, 40, 41, 42, 43, 44, 45, 46, 47, 48, 49, 50, 51, 52, 53, 54, 55, 56, 57, 58, 59, 60, 61, 62, 63, 64, 65, 66, 67, 68, 69] (by decide +kernel) (by decide +kernel)
set_option maxRecDepth 20000 in
theorem gX8_twoWords_X8_both_ : GoodIn wsX8_twoWords (wsV RX8 212 RX8 yX8_both_ wsX8_both_) := goodIn_app (goodIn_of _ (by decide +kernel)) ggX8_twoWords_X8_both_
set_option maxRecDepth 20000 in
theorem ggX8_twoWords_X8_both : GoodIn wsX8_twoWords wsX8_both := goodIn_r _ [30, 8, 2, 35, 36, 37, 38, 39, 40, 41, 42, 43, 44, 45, 46, 47, 48, 49, 50, 51, 52, 53, 54, 55, 56, 57, 58, 59, 60, 61, 62, 63, 64, 65, 66, 67, 68, 69] (by decide +kernel) (by decide +kernel)
set_option maxRecDepth 20000 in
theorem gX8_twoWords_X8_both : GoodIn wsX8_twoWords (wsV RX8 205 RX8 yX8_both wsX8_both) := goodIn_app (goodIn_of _ (by decide +kernel)) ggX8_twoWords_X8_both
set_option maxRecDepth 20000 in
theorem ggX8_twoWords_X8_put : GoodIn wsX8_twoWords wsX8_put := goodIn_r _ [34, 2, 8, 22, 35, 36, 37, 38, 39, 40, 41, 42, 43, 44, 45, 46, 47, 48, 49, 50, 51, 52, 53, 54, 55, 56, 57, 58, 59, 60, 61, 62, 63, 64, 65, 66, 67, 68, 69] (by decide +kernel) (by decide +kernel)
set_option maxRecDepth 20000 in
theorem gX8_twoWords_X8_put : GoodIn wsX8_twoWords (wsV RX8 98 RX8 yX8_put wsX8_put) := goodIn_app (goodIn_of _ (by decide +kernel)) ggX8_twoWords_X8_put
theorem dX8_twoWords_0 : decode cX8_twoWords 0 = .ok (.iload_n 2, 1) := by decide +kernel
theorem dX8_twoWords_1 : decode cX8_twoWords 1 = .ok (.invokestatic 87, 3) := by decide +kernel
theorem dX8_twoWords_4 : decode cX8_twoWords 4 = .ok (.istore_n 3, 1) := by decide +kernel
theorem dX8_twoWords_5 : decode cX8_twoWords 5 = .ok (.iload_n 1, 1) := by decide +kernel
theorem dX8_twoWords_6 : decode cX8_twoWords 6 = .ok (.ldc 198, 2) := by decide +kernel
theorem dX8_twoWords_8 : decode cX8_twoWords 8 = .ok (.if_icmp .ne 33, 3) := by decide +kernel
theorem dX8_twoWords_11 : decode cX8_twoWords 11 = .ok (.aload_n 0, 1) := by decide +kernel
theorem dX8_twoWords_12 : decode cX8_twoWords 12 = .ok (.aload_n 0, 1) := by decide +kernel
theorem dX8_twoWords_13 : decode cX8_twoWords 13 = .ok (.getfield 78, 3) := by decide +kernel
theorem dX8_twoWords_16 : decode cX8_twoWords 16 = .ok (.invokestatic 156, 3) := by decide +kernel
theorem dX8_twoWords_19 : decode cX8_twoWords 19 = .ok (.i2l, 1) := by decide +kernel
theorem dX8_twoWords_20 : decode cX8_twoWords 20 = .ok (.aload_n 0, 1) := by decide +kernel
theorem dX8_twoWords_21 : decode cX8_twoWords 21 = .ok (.iload_n 2, 1) := by decide +kernel
theorem dX8_twoWords_22 : decode cX8_twoWords 22 = .ok (.invokevirtual 95, 3) := by decide +kernel
theorem dX8_twoWords_25 : decode cX8_twoWords 25 = .ok (.invokestatic 156, 3) := by decide +kernel
theorem dX8_twoWords_28 : decode cX8_twoWords 28 = .ok (.i2l, 1) := by decide +kernel
theorem dX8_twoWords_29 : decode cX8_twoWords 29 = .ok (.lmul, 1) := by decide +kernel
theorem dX8_twoWords_30 : decode cX8_twoWords 30 = .ok (.invokevirtual 212, 3) := by decide +kernel
theorem dX8_twoWords_33 : decode cX8_twoWords 33 = .ok (.aload_n 0, 1) := by decide +kernel
theorem dX8_twoWords_34 : decode cX8_twoWords 34 = .ok (.iconst 0, 1) := by decide +kernel
theorem dX8_twoWords_35 : decode cX8_twoWords 35 = .ok (.putfield 159, 3) := by decide +kernel
theorem dX8_twoWords_38 : decode cX8_twoWords 38 = .ok (.goto 164, 3) := by decide +kernel
theorem dX8_twoWords_41 : decode cX8_twoWords 41 = .ok (.iload_n 1, 1) := by decide +kernel
theorem dX8_twoWords_42 : decode cX8_twoWords 42 = .ok (.ldc 199, 2) := by decide +kernel
theorem dX8_twoWords_44 : decode cX8_twoWords 44 = .ok (.if_icmp .ne 97, 3) := by decide +kernel
theorem dX8_twoWords_47 : decode cX8_twoWords 47 = .ok (.aload_n 0, 1) := by decide +kernel
theorem dX8_twoWords_48 : decode cX8_twoWords 48 = .ok (.iload_n 2, 1) := by decide +kernel
theorem dX8_twoWords_49 : decode cX8_twoWords 49 = .ok (.invokevirtual 95, 3) := by decide +kernel
theorem dX8_twoWords_52 : decode cX8_twoWords 52 = .ok (.invokestatic 156, 3) := by decide +kernel
theorem dX8_twoWords_55 : decode cX8_twoWords 55 = .ok (.i2l, 1) := by decide +kernel
theorem dX8_twoWords_56 : decode cX8_twoWords 56 = .ok (.lstore 4, 2) := by decide +kernel
theorem dX8_twoWords_58 : decode cX8_twoWords 58 = .ok (.aload_n 0, 1) := by decide +kernel
theorem dX8_twoWords_59 : decode cX8_twoWords 59 = .ok (.invokevirtual 205, 3) := by decide +kernel
theorem dX8_twoWords_62 : decode cX8_twoWords 62 = .ok (.l2i, 1) := by decide +kernel
theorem dX8_twoWords_63 : decode cX8_twoWords 63 = .ok (.i2l, 1) := by decide +kernel
theorem dX8_twoWords_64 : decode cX8_twoWords 64 = .ok (.lstore 6, 2) := by decide +kernel
theorem dX8_twoWords_66 : decode cX8_twoWords 66 = .ok (.aload_n 0, 1) := by decide +kernel
theorem dX8_twoWords_67 : decode cX8_twoWords 67 = .ok (.iconst 1, 1) := by decide +kernel
theorem dX8_twoWords_68 : decode cX8_twoWords 68 = .ok (.putfield 159, 3) := by decide +kernel
theorem dX8_twoWords_71 : decode cX8_twoWords 71 = .ok (.lload 4, 2) := by decide +kernel
theorem dX8_twoWords_73 : decode cX8_twoWords 73 = .ok (.lconst 0, 1) := by decide +kernel
theorem dX8_twoWords_74 : decode cX8_twoWords 74 = .ok (.lcmp, 1) := by decide +kernel
theorem dX8_twoWords_75 : decode cX8_twoWords 75 = .ok (.ifCond .eq 27, 3) := by decide +kernel
theorem dX8_twoWords_78 : decode cX8_twoWords 78 = .ok (.lload 6, 2) := by decide +kernel
theorem dX8_twoWords_80 : decode cX8_twoWords 80 = .ok (.lload 4, 2) := by decide +kernel
theorem dX8_twoWords_82 : decode cX8_twoWords 82 = .ok (.ldiv, 1) := by decide +kernel
theorem dX8_twoWords_83 : decode cX8_twoWords 83 = .ok (.ldc2_w 217, 3) := by decide +kernel
theorem dX8_twoWords_86 : decode cX8_twoWords 86 = .ok (.lcmp, 1) := by decide +kernel
theorem dX8_twoWords_87 : decode cX8_twoWords 87 = .ok (.ifCond .lt 15, 3) := by decide +kernel
theorem dX8_twoWords_90 : decode cX8_twoWords 90 = .ok (.lload 6, 2) := by decide +kernel
theorem dX8_twoWords_92 : decode cX8_twoWords 92 = .ok (.lload 4, 2) := by decide +kernel
theorem dX8_twoWords_94 : decode cX8_twoWords 94 = .ok (.ldiv, 1) := by decide +kernel
theorem dX8_twoWords_95 : decode cX8_twoWords 95 = .ok (.ldc2_w 219, 3) := by decide +kernel
theorem dX8_twoWords_98 : decode cX8_twoWords 98 = .ok (.lcmp, 1) := by decide +kernel
theorem dX8_twoWords_99 : decode cX8_twoWords 99 = .ok (.ifCond .le 4, 3) := by decide +kernel
theorem dX8_twoWords_102 : decode cX8_twoWords 102 = .ok (.return_, 1) := by decide +kernel
theorem dX8_twoWords_103 : decode cX8_twoWords 103 = .ok (.aload_n 0, 1) := by decide +kernel
theorem dX8_twoWords_104 : decode cX8_twoWords 104 = .ok (.iconst 0, 1) := by decide +kernel
theorem dX8_twoWords_105 : decode cX8_twoWords 105 = .ok (.putfield 159, 3) := by decide +kernel
theorem dX8_twoWords_108 : decode cX8_twoWords 108 = .ok (.lload 6, 2) := by decide +kernel
theorem dX8_twoWords_110 : decode cX8_twoWords 110 = .ok (.lload 4, 2) := by decide +kernel
theorem dX8_twoWords_112 : decode cX8_twoWords 112 = .ok (.lrem, 1) := by decide +kernel
theorem dX8_twoWords_113 : decode cX8_twoWords 113 = .ok (.l2i, 1) := by decide +kernel
theorem dX8_twoWords_114 : decode cX8_twoWords 114 = .ok (.ldc 102, 2) := by decide +kernel
theorem dX8_twoWords_116 : decode cX8_twoWords 116 = .ok (.iand, 1) := by decide +kernel
theorem dX8_twoWords_117 : decode cX8_twoWords 117 = .ok (.istore 8, 2) := by decide +kernel
theorem dX8_twoWords_119 : decode cX8_twoWords 119 = .ok (.aload_n 0, 1) := by decide +kernel
theorem dX8_twoWords_120 : decode cX8_twoWords 120 = .ok (.lload 6, 2) := by decide +kernel
theorem dX8_twoWords_122 : decode cX8_twoWords 122 = .ok (.lload 4, 2) := by decide +kernel
theorem dX8_twoWords_124 : decode cX8_twoWords 124 = .ok (.ldiv, 1) := by decide +kernel
theorem dX8_twoWords_125 : decode cX8_twoWords 125 = .ok (.l2i, 1) := by decide +kernel
theorem dX8_twoWords_126 : decode cX8_twoWords 126 = .ok (.ldc 102, 2) := by decide +kernel
theorem dX8_twoWords_128 : decode cX8_twoWords 128 = .ok (.iand, 1) := by decide +kernel
theorem dX8_twoWords_129 : decode cX8_twoWords 129 = .ok (.putfield 78, 3) := by decide +kernel
theorem dX8_twoWords_132 : decode cX8_twoWords 132 = .ok (.aload_n 0, 1) := by decide +kernel
theorem dX8_twoWords_133 : decode cX8_twoWords 133 = .ok (.iload 8, 2) := by decide +kernel
theorem dX8_twoWords_135 : decode cX8_twoWords 135 = .ok (.putfield 81, 3) := by decide +kernel
theorem dX8_twoWords_138 : decode cX8_twoWords 138 = .ok (.goto 64, 3) := by decide +kernel
theorem dX8_twoWords_141 : decode cX8_twoWords 141 = .ok (.iload_n 1, 1) := by decide +kernel
theorem dX8_twoWords_142 : decode cX8_twoWords 142 = .ok (.ldc 200, 2) := by decide +kernel
theorem dX8_twoWords_144 : decode cX8_twoWords 144 = .ok (.if_icmp .ne 32, 3) := by decide +kernel
theorem dX8_twoWords_147 : decode cX8_twoWords 147 = .ok (.aload_n 0, 1) := by decide +kernel
theorem dX8_twoWords_148 : decode cX8_twoWords 148 = .ok (.iload_n 2, 1) := by decide +kernel
theorem dX8_twoWords_149 : decode cX8_twoWords 149 = .ok (.invokevirtual 95, 3) := by decide +kernel
theorem dX8_twoWords_152 : decode cX8_twoWords 152 = .ok (.istore 4, 2) := by decide +kernel
theorem dX8_twoWords_154 : decode cX8_twoWords 154 = .ok (.aload_n 0, 1) := by decide +kernel
theorem dX8_twoWords_155 : decode cX8_twoWords 155 = .ok (.iload_n 3, 1) := by decide +kernel
theorem dX8_twoWords_156 : decode cX8_twoWords 156 = .ok (.invokevirtual 95, 3) := by decide +kernel
theorem dX8_twoWords_159 : decode cX8_twoWords 159 = .ok (.istore 5, 2) := by decide +kernel
theorem dX8_twoWords_161 : decode cX8_twoWords 161 = .ok (.aload_n 0, 1) := by decide +kernel
theorem dX8_twoWords_162 : decode cX8_twoWords 162 = .ok (.iload 4, 2) := by decide +kernel
theorem dX8_twoWords_164 : decode cX8_twoWords 164 = .ok (.putfield 78, 3) := by decide +kernel
theorem dX8_twoWords_167 : decode cX8_twoWords 167 = .ok (.aload_n 0, 1) := by decide +kernel
theorem dX8_twoWords_168 : decode cX8_twoWords 168 = .ok (.iload 5, 2) := by decide +kernel
theorem dX8_twoWords_170 : decode cX8_twoWords 170 = .ok (.putfield 81, 3) := by decide +kernel
theorem dX8_twoWords_173 : decode cX8_twoWords 173 = .ok (.goto 29, 3) := by decide +kernel
theorem dX8_twoWords_176 : decode cX8_twoWords 176 = .ok (.aload_n 0, 1) := by decide +kernel
theorem dX8_twoWords_177 : decode cX8_twoWords 177 = .ok (.getfield 78, 3) := by decide +kernel
theorem dX8_twoWords_180 : decode cX8_twoWords 180 = .ok (.istore 4, 2) := by decide +kernel
theorem dX8_twoWords_182 : decode cX8_twoWords 182 = .ok (.aload_n 0, 1) := by decide +kernel
theorem dX8_twoWords_183 : decode cX8_twoWords 183 = .ok (.getfield 81, 3) := by decide +kernel
theorem dX8_twoWords_186 : decode cX8_twoWords 186 = .ok (.istore 5, 2) := by decide +kernel
theorem dX8_twoWords_188 : decode cX8_twoWords 188 = .ok (.aload_n 0, 1) := by decide +kernel
theorem dX8_twoWords_189 : decode cX8_twoWords 189 = .ok (.iload_n 2, 1) := by decide +kernel
theorem dX8_twoWords_190 : decode cX8_twoWords 190 = .ok (.iload 4, 2) := by decide +kernel
theorem dX8_twoWords_192 : decode cX8_twoWords 192 = .ok (.invokevirtual 98, 3) := by decide +kernel
theorem dX8_twoWords_195 : decode cX8_twoWords 195 = .ok (.aload_n 0, 1) := by decide +kernel
theorem dX8_twoWords_196 : decode cX8_twoWords 196 = .ok (.iload_n 3, 1) := by decide +kernel
theorem dX8_twoWords_197 : decode cX8_twoWords 197 = .ok (.iload 5, 2) := by decide +kernel
theorem dX8_twoWords_199 : decode cX8_twoWords 199 = .ok (.invokevirtual 98, 3) := by decide +kernel
theorem dX8_twoWords_202 : decode cX8_twoWords 202 = .ok (.return_, 1) := by decide +kernel
set_option maxRecDepth 20000 in
theorem ggX8_run_X8_turn_p1 : GoodIn wsX8_run (.code yX8_turn cX8_turn 4 none :: wsX8_turn_r1) := goodIn_r _ [7, 8, 9, 10, 11, 12, 13, 14, 15, 16, 17, 18, 19, 20, 21, 6, 22, 23, 24, 25, 26, 27, 28, 29, 30] (by decide +kernel) (by decide +kernel)
set_option maxRecDepth 20000 in
theorem ggX8_run_X8_turn_p2 : GoodIn wsX8_run (wsX8_turn_r2) := goodIn_r _ [31, 32, 33, 34, 35, 36, 37, 38, 39, 40, 41, 42, 43, 44, 45, 46, 47, 48, 49, 50, 51, 52, 53, 54] (by decide +kernel) (by decide +kernel)
set_option maxRecDepth 20000 in
theorem ggX8_run_X8_turn_p3 : GoodIn wsX8_run (wsX8_turn_r3) := goodIn_r _ [55, 56, 57, 58, 59, 60, 61, 62, 63, 64, 65, 66, 67, 68, 69, 70, 71, 2, 72, 73, 74, 75, 76, 77] (by decide +kernel) (by decide +kernel)
set_option maxRecDepth 20000 in
theorem ggX8_run_X8_turn_p4 : GoodIn wsX8_run (wsX8_turn_r4) := goodIn_r _ [78, 79, 80, 81, 82, 83, 84, 85, 86, 87, 88, 89, 90, 91, 92, 93, 94, 95, 96, 97, 98, 99, 100, 101] (by decide +kernel) (by decide +kernel)
set_option maxRecDepth 20000 in
theorem ggX8_run_X8_turn_p5 : GoodIn wsX8_run (wsX8_turn_r5) := goodIn_r _ [102, 103, 104, 105, 106, 107, 108, 109, 110, 111, 112, 113, 114, 115, 116, 117, 118, 119, 120, 121, 122, 123, 124, 125] (by decide +kernel) (by decide +kernel)
set_option maxRecDepth 20000 in
theorem ggX8_run_X8_turn_p6 : GoodIn wsX8_run (wsX8_turn_r6) := goodIn_r _ [126, 127, 128, 129, 130, 131, 132, 133, 134, 135, 136, 137, 138, 139, 140, 141, 142, 143, 144, 145, 146, 147, 148, 149] (by decide +kernel) (by decide +kernel)
set_option maxRecDepth 20000 in
theorem ggX8_run_X8_turn_p7 : GoodIn wsX8_run (wsX8_turn_r7) := goodIn_r _ [150, 151, 152, 153, 154, 155] (by decide +kernel) (by decide +kernel)
set_option maxRecDepth 20000 in
theorem ggX8_run_X8_turn_p8 : GoodIn wsX8_run (wsX80) := goodIn_r _ [156, 157, 158, 159, 160, 161, 162, 163, 164, 165, 166, 167, 168, 169, 170, 171, 172, 173, 174, 175, 176, 177, 178, 179, 180, 181, 182, 183, 184, 185, 186, 187, 188, 189, 190] (by decide +kernel) (by decide +kernel)
theorem ggX8_run_X8_turn : GoodIn wsX8_run wsX8_turn := (goodIn_ca (goodIn_ca ggX8_run_X8_turn_p1 (goodIn_app ggX8_run_X8_turn_p2 (goodIn_app ggX8_run_X8_turn_p3 (goodIn_app ggX8_run_X8_turn_p4 (goodIn_app ggX8_run_X8_turn_p5 (goodIn_app ggX8_run_X8_turn_p6 ggX8_run_X8_turn_p7)))))) ggX8_run_X8_turn_p8)
set_option maxRecDepth 20000 in
theorem gX8_run_X8_turn : GoodIn wsX8_run (wsV RX8 221 RX8 yX8_turn wsX8_turn) := goodIn_app (goodIn_of _ (by decide +kernel)) ggX8_run_X8_turn
theorem dX8_run_0 : decode cX8_run 0 = .ok (.aload_n 0, 1) := by decide +kernel
theorem dX8_run_1 : decode cX8_run 1 = .ok (.iload_n 1, 1) := by decide +kernel
theorem dX8_run_2 : decode cX8_run 2 = .ok (.ifCond .lt 10, 3) := by decide +kernel
theorem dX8_run_5 : decode cX8_run 5 = .ok (.iload_n 1, 1) := by decide +kernel
theorem dX8_run_6 : decode cX8_run 6 = .ok (.sipush 2000, 3) := by decide +kernel
theorem dX8_run_9 : decode cX8_run 9 = .ok (.if_icmp .le 7, 3) := by decide +kernel
theorem dX8_run_12 : decode cX8_run 12 = .ok (.iconst 1, 1) := by decide +kernel
theorem dX8_run_13 : decode cX8_run 13 = .ok (.goto 4, 3) := by decide +kernel
theorem dX8_run_16 : decode cX8_run 16 = .ok (.iconst 0, 1) := by decide +kernel
theorem dX8_run_17 : decode cX8_run 17 = .ok (.putfield 75, 3) := by decide +kernel
theorem dX8_run_20 : decode cX8_run 20 = .ok (.iconst 0, 1) := by decide +kernel
theorem dX8_run_21 : decode cX8_run 21 = .ok (.istore_n 2, 1) := by decide +kernel
theorem dX8_run_22 : decode cX8_run 22 = .ok (.aload_n 0, 1) := by decide +kernel
theorem dX8_run_23 : decode cX8_run 23 = .ok (.getfield 75, 3) := by decide +kernel
theorem dX8_run_26 : decode cX8_run 26 = .ok (.ifCond .ne 25, 3) := by decide +kernel
theorem dX8_run_29 : decode cX8_run 29 = .ok (.iload_n 2, 1) := by decide +kernel
theorem dX8_run_30 : decode cX8_run 30 = .ok (.iload_n 1, 1) := by decide +kernel
theorem dX8_run_31 : decode cX8_run 31 = .ok (.if_icmp .ge 20, 3) := by decide +kernel
theorem dX8_run_34 : decode cX8_run 34 = .ok (.aload_n 0, 1) := by decide +kernel
theorem dX8_run_35 : decode cX8_run 35 = .ok (.getfield 91, 3) := by decide +kernel
theorem dX8_run_38 : decode cX8_run 38 = .ok (.ifCond .ne 13, 3) := by decide +kernel
theorem dX8_run_41 : decode cX8_run 41 = .ok (.aload_n 0, 1) := by decide +kernel
theorem dX8_run_42 : decode cX8_run 42 = .ok (.invokevirtual 221, 3) := by decide +kernel
theorem dX8_run_45 : decode cX8_run 45 = .ok (.iinc 2 1, 3) := by decide +kernel
theorem dX8_run_48 : decode cX8_run 48 = .ok (.goto (-26), 3) := by decide +kernel
theorem dX8_run_51 : decode cX8_run 51 = .ok (.iload_n 2, 1) := by decide +kernel
theorem dX8_run_52 : decode cX8_run 52 = .ok (.ireturn, 1) := by decide +kernel
theorem dX8_go_0 : decode cX8_go 0 = .ok (.aload_n 0, 1) := by decide +kernel
theorem dX8_go_1 : decode cX8_go 1 = .ok (.iconst 0, 1) := by decide +kernel
theorem dX8_go_2 : decode cX8_go 2 = .ok (.putfield 75, 3) := by decide +kernel
theorem dX8_go_5 : decode cX8_go 5 = .ok (.aload_n 0, 1) := by decide +kernel
theorem dX8_go_6 : decode cX8_go 6 = .ok (.iconst 0, 1) := by decide +kernel
theorem dX8_go_7 : decode cX8_go 7 = .ok (.putfield 91, 3) := by decide +kernel
theorem dX8_go_10 : decode cX8_go 10 = .ok (.iload_n 1, 1) := by decide +kernel
theorem dX8_go_11 : decode cX8_go 11 = .ok (.iconst (-1), 1) := by decide +kernel
theorem dX8_go_12 : decode cX8_go 12 = .ok (.if_icmp .eq 12, 3) := by decide +kernel
theorem dX8_go_15 : decode cX8_go 15 = .ok (.aload_n 0, 1) := by decide +kernel
theorem dX8_go_16 : decode cX8_go 16 = .ok (.iload_n 1, 1) := by decide +kernel
theorem dX8_go_17 : decode cX8_go 17 = .ok (.sipush 32767, 3) := by decide +kernel
theorem dX8_go_20 : decode cX8_go 20 = .ok (.iand, 1) := by decide +kernel
theorem dX8_go_21 : decode cX8_go 21 = .ok (.putfield 84, 3) := by decide +kernel
theorem dX8_go_24 : decode cX8_go 24 = .ok (.return_, 1) := by decide +kernel
theorem dX8_lacks_0 : decode cX8_lacks 0 = .ok (.aload_n 0, 1) := by decide +kernel
theorem dX8_lacks_1 : decode cX8_lacks 1 = .ok (.iload_n 1, 1) := by decide +kernel
theorem dX8_lacks_2 : decode cX8_lacks 2 = .ok (.ifCond .lt 8, 3) := by decide +kernel
theorem dX8_lacks_5 : decode cX8_lacks 5 = .ok (.iload_n 1, 1) := by decide +kernel
theorem dX8_lacks_6 : decode cX8_lacks 6 = .ok (.iload_n 2, 1) := by decide +kernel
theorem dX8_lacks_7 : decode cX8_lacks 7 = .ok (.if_icmp .lt 7, 3) := by decide +kernel
theorem dX8_lacks_10 : decode cX8_lacks 10 = .ok (.iconst 1, 1) := by decide +kernel
theorem dX8_lacks_11 : decode cX8_lacks 11 = .ok (.goto 4, 3) := by decide +kernel
theorem dX8_lacks_14 : decode cX8_lacks 14 = .ok (.iconst 0, 1) := by decide +kernel
theorem dX8_lacks_15 : decode cX8_lacks 15 = .ok (.putfield 75, 3) := by decide +kernel
theorem dX8_lacks_18 : decode cX8_lacks 18 = .ok (.aload_n 0, 1) := by decide +kernel
theorem dX8_lacks_19 : decode cX8_lacks 19 = .ok (.getfield 75, 3) := by decide +kernel
theorem dX8_lacks_22 : decode cX8_lacks 22 = .ok (.ifCond .le 7, 3) := by decide +kernel
theorem dX8_lacks_25 : decode cX8_lacks 25 = .ok (.iconst 1, 1) := by decide +kernel
theorem dX8_lacks_26 : decode cX8_lacks 26 = .ok (.goto 4, 3) := by decide +kernel
theorem dX8_lacks_29 : decode cX8_lacks 29 = .ok (.iconst 0, 1) := by decide +kernel
theorem dX8_lacks_30 : decode cX8_lacks 30 = .ok (.ireturn, 1) := by decide +kernel
set_option maxRecDepth 20000 in
theorem ggX8_word_X8_lacks : GoodIn wsX8_word wsX8_lacks := goodIn_r _ [5, 6, 14, 15, 16, 17, 18, 19, 20, 21, 22, 23, 24, 25, 26, 27, 28, 29, 30, 31, 32, 33, 34, 35, 36, 37, 38, 39, 40, 41, 42, 43, 44, 45, 46, 47, 48] (by decide +kernel) (by decide +kernel)
set_option maxRecDepth 20000 in
theorem gX8_word_X8_lacks : GoodIn wsX8_word (wsV RX8 224 RX8 yX8_lacks wsX8_lacks) := goodIn_app (goodIn_of _ (by decide +kernel)) ggX8_word_X8_lacks
set_option maxRecDepth 20000 in
theorem ggX8_word_X8_at : GoodIn wsX8_word wsX8_at := goodIn_r _ [10, 11, 12, 13, 14, 15, 16, 17, 18, 19, 20, 21, 22, 23, 24, 25, 26, 27, 28, 29, 30, 31, 32, 33, 34, 35, 36, 37, 38, 39, 40, 41, 42, 43, 44, 45, 46, 47, 48] (by decide +kernel) (by decide +kernel)
set_option maxRecDepth 20000 in
theorem gX8_word_X8_at : GoodIn wsX8_word (wsV RX8 95 RX8 yX8_at wsX8_at) := goodIn_app (goodIn_of _ (by decide +kernel)) ggX8_word_X8_at
theorem dX8_word_0 : decode cX8_word 0 = .ok (.aload_n 0, 1) := by decide +kernel
theorem dX8_word_1 : decode cX8_word 1 = .ok (.iload_n 1, 1) := by decide +kernel
theorem dX8_word_2 : decode cX8_word 2 = .ok (.sipush 4096, 3) := by decide +kernel
theorem dX8_word_5 : decode cX8_word 5 = .ok (.invokevirtual 224, 3) := by decide +kernel
theorem dX8_word_8 : decode cX8_word 8 = .ok (.ifCond .eq 7, 3) := by decide +kernel
theorem dX8_word_11 : decode cX8_word 11 = .ok (.iconst 0, 1) := by decide +kernel
theorem dX8_word_12 : decode cX8_word 12 = .ok (.goto 8, 3) := by decide +kernel
theorem dX8_word_15 : decode cX8_word 15 = .ok (.aload_n 0, 1) := by decide +kernel
theorem dX8_word_16 : decode cX8_word 16 = .ok (.iload_n 1, 1) := by decide +kernel
theorem dX8_word_17 : decode cX8_word 17 = .ok (.invokevirtual 95, 3) := by decide +kernel
theorem dX8_word_20 : decode cX8_word 20 = .ok (.ireturn, 1) := by decide +kernel
set_option maxRecDepth 20000 in
theorem ggX8_set_X8_lacks : GoodIn wsX8_set wsX8_lacks := goodIn_r _ [6, 7, 15, 16, 17, 18, 19, 20, 21, 22, 23, 24, 25, 26, 27, 28, 29, 30, 31, 32, 33, 34, 35, 36, 37, 38, 39, 40, 41, 42, 43, 44, 45, 46, 47, 48, 49] (by decide +kernel) (by decide +kernel)
set_option maxRecDepth 20000 in
theorem gX8_set_X8_lacks : GoodIn wsX8_set (wsV RX8 224 RX8 yX8_lacks wsX8_lacks) := goodIn_app (goodIn_of _ (by decide +kernel)) ggX8_set_X8_lacks
set_option maxRecDepth 20000 in
theorem ggX8_set_X8_put : GoodIn wsX8_set wsX8_put := goodIn_r _ [11, 12, 13, 14, 15, 16, 17, 18, 19, 20, 21, 22, 23, 24, 25, 26, 27, 28, 29, 30, 31, 32, 33, 34, 35, 36, 37, 38, 39, 40, 41, 42, 43, 44, 45, 46, 47, 48, 49] (by decide +kernel) (by decide +kernel)
set_option maxRecDepth 20000 in
theorem gX8_set_X8_put : GoodIn wsX8_set (wsV RX8 98 RX8 yX8_put wsX8_put) := goodIn_app (goodIn_of _ (by decide +kernel)) ggX8_set_X8_put
theorem dX8_set_0 : decode cX8_set 0 = .ok (.aload_n 0, 1) := by decide +kernel
theorem dX8_set_1 : decode cX8_set 1 = .ok (.iload_n 1, 1) := by decide +kernel
theorem dX8_set_2 : decode cX8_set 2 = .ok (.sipush 4096, 3) := by decide +kernel
theorem dX8_set_5 : decode cX8_set 5 = .ok (.invokevirtual 224, 3) := by decide +kernel
theorem dX8_set_8 : decode cX8_set 8 = .ok (.ifCond .eq 4, 3) := by decide +kernel
theorem dX8_set_11 : decode cX8_set 11 = .ok (.return_, 1) := by decide +kernel
theorem dX8_set_12 : decode cX8_set 12 = .ok (.aload_n 0, 1) := by decide +kernel
theorem dX8_set_13 : decode cX8_set 13 = .ok (.iload_n 1, 1) := by decide +kernel
theorem dX8_set_14 : decode cX8_set 14 = .ok (.iload_n 2, 1) := by decide +kernel
theorem dX8_set_15 : decode cX8_set 15 = .ok (.ldc 102, 2) := by decide +kernel
theorem dX8_set_17 : decode cX8_set 17 = .ok (.iand, 1) := by decide +kernel
theorem dX8_set_18 : decode cX8_set 18 = .ok (.invokevirtual 98, 3) := by decide +kernel
theorem dX8_set_21 : decode cX8_set 21 = .ok (.return_, 1) := by decide +kernel
theorem dX8_state_0 : decode cX8_state 0 = .ok (.aload_n 0, 1) := by decide +kernel
theorem dX8_state_1 : decode cX8_state 1 = .ok (.iconst 0, 1) := by decide +kernel
theorem dX8_state_2 : decode cX8_state 2 = .ok (.putfield 75, 3) := by decide +kernel
theorem dX8_state_5 : decode cX8_state 5 = .ok (.iload_n 1, 1) := by decide +kernel
theorem dX8_state_6 : decode cX8_state 6 = .ok (.tableswitch 155 0 12 #[66, 71, 76, 81, 86, 91, 104, 117, 130, 135, 140, 145, 150], 66) := by decide +kernel
theorem dX8_state_72 : decode cX8_state 72 = .ok (.aload_n 0, 1) := by decide +kernel
theorem dX8_state_73 : decode cX8_state 73 = .ok (.getfield 78, 3) := by decide +kernel
theorem dX8_state_76 : decode cX8_state 76 = .ok (.ireturn, 1) := by decide +kernel
theorem dX8_state_77 : decode cX8_state 77 = .ok (.aload_n 0, 1) := by decide +kernel
theorem dX8_state_78 : decode cX8_state 78 = .ok (.getfield 81, 3) := by decide +kernel
theorem dX8_state_81 : decode cX8_state 81 = .ok (.ireturn, 1) := by decide +kernel
theorem dX8_state_82 : decode cX8_state 82 = .ok (.aload_n 0, 1) := by decide +kernel
theorem dX8_state_83 : decode cX8_state 83 = .ok (.getfield 84, 3) := by decide +kernel
theorem dX8_state_86 : decode cX8_state 86 = .ok (.ireturn, 1) := by decide +kernel
theorem dX8_state_87 : decode cX8_state 87 = .ok (.aload_n 0, 1) := by decide +kernel
theorem dX8_state_88 : decode cX8_state 88 = .ok (.getfield 162, 3) := by decide +kernel
theorem dX8_state_91 : decode cX8_state 91 = .ok (.ireturn, 1) := by decide +kernel
theorem dX8_state_92 : decode cX8_state 92 = .ok (.aload_n 0, 1) := by decide +kernel
theorem dX8_state_93 : decode cX8_state 93 = .ok (.getfield 159, 3) := by decide +kernel
theorem dX8_state_96 : decode cX8_state 96 = .ok (.ireturn, 1) := by decide +kernel
theorem dX8_state_97 : decode cX8_state 97 = .ok (.aload_n 0, 1) := by decide +kernel
theorem dX8_state_98 : decode cX8_state 98 = .ok (.getfield 116, 3) := by decide +kernel
theorem dX8_state_101 : decode cX8_state 101 = .ok (.ifCond .eq 7, 3) := by decide +kernel
theorem dX8_state_104 : decode cX8_state 104 = .ok (.iconst 1, 1) := by decide +kernel
theorem dX8_state_105 : decode cX8_state 105 = .ok (.goto 4, 3) := by decide +kernel
theorem dX8_state_108 : decode cX8_state 108 = .ok (.iconst 0, 1) := by decide +kernel
theorem dX8_state_109 : decode cX8_state 109 = .ok (.ireturn, 1) := by decide +kernel
theorem dX8_state_110 : decode cX8_state 110 = .ok (.aload_n 0, 1) := by decide +kernel
theorem dX8_state_111 : decode cX8_state 111 = .ok (.getfield 119, 3) := by decide +kernel
theorem dX8_state_114 : decode cX8_state 114 = .ok (.ifCond .eq 7, 3) := by decide +kernel
theorem dX8_state_117 : decode cX8_state 117 = .ok (.iconst 1, 1) := by decide +kernel
theorem dX8_state_118 : decode cX8_state 118 = .ok (.goto 4, 3) := by decide +kernel
theorem dX8_state_121 : decode cX8_state 121 = .ok (.iconst 0, 1) := by decide +kernel
theorem dX8_state_122 : decode cX8_state 122 = .ok (.ireturn, 1) := by decide +kernel
theorem dX8_state_123 : decode cX8_state 123 = .ok (.aload_n 0, 1) := by decide +kernel
theorem dX8_state_124 : decode cX8_state 124 = .ok (.getfield 91, 3) := by decide +kernel
theorem dX8_state_127 : decode cX8_state 127 = .ok (.ifCond .eq 7, 3) := by decide +kernel
theorem dX8_state_130 : decode cX8_state 130 = .ok (.iconst 1, 1) := by decide +kernel
theorem dX8_state_131 : decode cX8_state 131 = .ok (.goto 4, 3) := by decide +kernel
theorem dX8_state_134 : decode cX8_state 134 = .ok (.iconst 0, 1) := by decide +kernel
theorem dX8_state_135 : decode cX8_state 135 = .ok (.ireturn, 1) := by decide +kernel
theorem dX8_state_136 : decode cX8_state 136 = .ok (.aload_n 0, 1) := by decide +kernel
theorem dX8_state_137 : decode cX8_state 137 = .ok (.getfield 13, 3) := by decide +kernel
theorem dX8_state_140 : decode cX8_state 140 = .ok (.ireturn, 1) := by decide +kernel
theorem dX8_state_141 : decode cX8_state 141 = .ok (.aload_n 0, 1) := by decide +kernel
theorem dX8_state_142 : decode cX8_state 142 = .ok (.getfield 178, 3) := by decide +kernel
theorem dX8_state_145 : decode cX8_state 145 = .ok (.ireturn, 1) := by decide +kernel
theorem dX8_state_146 : decode cX8_state 146 = .ok (.aload_n 0, 1) := by decide +kernel
theorem dX8_state_147 : decode cX8_state 147 = .ok (.getfield 107, 3) := by decide +kernel
theorem dX8_state_150 : decode cX8_state 150 = .ok (.ireturn, 1) := by decide +kernel
theorem dX8_state_151 : decode cX8_state 151 = .ok (.aload_n 0, 1) := by decide +kernel
