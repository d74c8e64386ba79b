set_option maxRecDepth 20000 in
theorem ggX5_multiply_X5_writePair : GoodIn wsX5_multiply wsX5_writePair := goodIn_r _ [13, 1, 14, 15, 16, 6, 17, 8, 18, 19, 20, 21, 28] (by decide +kernel) (by decide +kernel)
set_option maxRecDepth 20000 in
theorem gX5_multiply_X5_writePair : GoodIn wsX5_multiply (wsV RX5 151 RX5 yX5_writePair wsX5_writePair) := goodIn_app (goodIn_of _ (by decide +kernel)) ggX5_multiply_X5_writePair
theorem dX5_multiply_0 : decode cX5_multiply 0 = .ok (.aload_n 0, 1) := by decide +kernel
theorem dX5_multiply_1 : decode cX5_multiply 1 = .ok (.aload_n 0, 1) := by decide +kernel
theorem dX5_multiply_2 : decode cX5_multiply 2 = .ok (.getfield 9, 3) := by decide +kernel
theorem dX5_multiply_5 : decode cX5_multiply 5 = .ok (.iconst 0, 1) := by decide +kernel
theorem dX5_multiply_6 : decode cX5_multiply 6 = .ok (.invokevirtual 29, 3) := by decide +kernel
theorem dX5_multiply_9 : decode cX5_multiply 9 = .ok (.i2s, 1) := by decide +kernel
theorem dX5_multiply_10 : decode cX5_multiply 10 = .ok (.iload_n 1, 1) := by decide +kernel
theorem dX5_multiply_11 : decode cX5_multiply 11 = .ok (.i2s, 1) := by decide +kernel
theorem dX5_multiply_12 : decode cX5_multiply 12 = .ok (.imul, 1) := by decide +kernel
theorem dX5_multiply_13 : decode cX5_multiply 13 = .ok (.invokevirtual 151, 3) := by decide +kernel
theorem dX5_multiply_16 : decode cX5_multiply 16 = .ok (.aload_n 0, 1) := by decide +kernel
theorem dX5_multiply_17 : decode cX5_multiply 17 = .ok (.getfield 15, 3) := by decide +kernel
theorem dX5_multiply_20 : decode cX5_multiply 20 = .ok (.iconst 0, 1) := by decide +kernel
theorem dX5_multiply_21 : decode cX5_multiply 21 = .ok (.putfield 101, 3) := by decide +kernel
theorem dX5_multiply_24 : decode cX5_multiply 24 = .ok (.return_, 1) := by decide +kernel
set_option maxRecDepth 20000 in
theorem ggX5_divide_X5_readPair : GoodIn wsX5_divide wsX5_readPair := goodIn_r _ [9, 4, 10, 11, 12, 13, 14, 15, 21, 22, 23, 30] (by decide +kernel) (by decide +kernel)
set_option maxRecDepth 20000 in
theorem gX5_divide_X5_readPair : GoodIn wsX5_divide (wsV RX5 154 RX5 yX5_readPair wsX5_readPair) := goodIn_app (goodIn_of _ (by decide +kernel)) ggX5_divide_X5_readPair
set_option maxRecDepth 20000 in
theorem ggX5_divide_X4_write : GoodIn wsX5_divide wsX4_write := goodIn_r _ [19, 15, 20, 30] (by decide +kernel) (by decide +kernel)
set_option maxRecDepth 20000 in
theorem gX5_divide_X4_write : GoodIn wsX5_divide (wsV RX5 76 RX4 yX4_write wsX4_write) := goodIn_app (goodIn_of _ (by decide +kernel)) ggX5_divide_X4_write
theorem dX5_divide_0 : decode cX5_divide 0 = .ok (.iload_n 1, 1) := by decide +kernel
theorem dX5_divide_1 : decode cX5_divide 1 = .ok (.i2s, 1) := by decide +kernel
theorem dX5_divide_2 : decode cX5_divide 2 = .ok (.i2l, 1) := by decide +kernel
theorem dX5_divide_3 : decode cX5_divide 3 = .ok (.lstore_n 2, 1) := by decide +kernel
theorem dX5_divide_4 : decode cX5_divide 4 = .ok (.aload_n 0, 1) := by decide +kernel
theorem dX5_divide_5 : decode cX5_divide 5 = .ok (.getfield 15, 3) := by decide +kernel
theorem dX5_divide_8 : decode cX5_divide 8 = .ok (.iconst 1, 1) := by decide +kernel
theorem dX5_divide_9 : decode cX5_divide 9 = .ok (.putfield 101, 3) := by decide +kernel
theorem dX5_divide_12 : decode cX5_divide 12 = .ok (.lload_n 2, 1) := by decide +kernel
theorem dX5_divide_13 : decode cX5_divide 13 = .ok (.lconst 0, 1) := by decide +kernel
theorem dX5_divide_14 : decode cX5_divide 14 = .ok (.lcmp, 1) := by decide +kernel
theorem dX5_divide_15 : decode cX5_divide 15 = .ok (.ifCond .ne 4, 3) := by decide +kernel
theorem dX5_divide_18 : decode cX5_divide 18 = .ok (.return_, 1) := by decide +kernel
theorem dX5_divide_19 : decode cX5_divide 19 = .ok (.aload_n 0, 1) := by decide +kernel
theorem dX5_divide_20 : decode cX5_divide 20 = .ok (.invokevirtual 154, 3) := by decide +kernel
theorem dX5_divide_23 : decode cX5_divide 23 = .ok (.i2l, 1) := by decide +kernel
theorem dX5_divide_24 : decode cX5_divide 24 = .ok (.lstore 4, 2) := by decide +kernel
theorem dX5_divide_26 : decode cX5_divide 26 = .ok (.lload 4, 2) := by decide +kernel
theorem dX5_divide_28 : decode cX5_divide 28 = .ok (.lload_n 2, 1) := by decide +kernel
theorem dX5_divide_29 : decode cX5_divide 29 = .ok (.ldiv, 1) := by decide +kernel
theorem dX5_divide_30 : decode cX5_divide 30 = .ok (.lstore 6, 2) := by decide +kernel
theorem dX5_divide_32 : decode cX5_divide 32 = .ok (.lload 6, 2) := by decide +kernel
theorem dX5_divide_34 : decode cX5_divide 34 = .ok (.ldc2_w 157, 3) := by decide +kernel
theorem dX5_divide_37 : decode cX5_divide 37 = .ok (.lcmp, 1) := by decide +kernel
theorem dX5_divide_38 : decode cX5_divide 38 = .ok (.ifCond .lt 12, 3) := by decide +kernel
theorem dX5_divide_41 : decode cX5_divide 41 = .ok (.lload 6, 2) := by decide +kernel
theorem dX5_divide_43 : decode cX5_divide 43 = .ok (.ldc2_w 159, 3) := by decide +kernel
theorem dX5_divide_46 : decode cX5_divide 46 = .ok (.lcmp, 1) := by decide +kernel
theorem dX5_divide_47 : decode cX5_divide 47 = .ok (.ifCond .le 4, 3) := by decide +kernel
theorem dX5_divide_50 : decode cX5_divide 50 = .ok (.return_, 1) := by decide +kernel
theorem dX5_divide_51 : decode cX5_divide 51 = .ok (.aload_n 0, 1) := by decide +kernel
theorem dX5_divide_52 : decode cX5_divide 52 = .ok (.getfield 9, 3) := by decide +kernel
theorem dX5_divide_55 : decode cX5_divide 55 = .ok (.iconst 0, 1) := by decide +kernel
theorem dX5_divide_56 : decode cX5_divide 56 = .ok (.lload 6, 2) := by decide +kernel
theorem dX5_divide_58 : decode cX5_divide 58 = .ok (.l2i, 1) := by decide +kernel
theorem dX5_divide_59 : decode cX5_divide 59 = .ok (.invokevirtual 76, 3) := by decide +kernel
theorem dX5_divide_62 : decode cX5_divide 62 = .ok (.aload_n 0, 1) := by decide +kernel
theorem dX5_divide_63 : decode cX5_divide 63 = .ok (.getfield 9, 3) := by decide +kernel
theorem dX5_divide_66 : decode cX5_divide 66 = .ok (.iconst 1, 1) := by decide +kernel
theorem dX5_divide_67 : decode cX5_divide 67 = .ok (.lload 4, 2) := by decide +kernel
theorem dX5_divide_69 : decode cX5_divide 69 = .ok (.lload_n 2, 1) := by decide +kernel
theorem dX5_divide_70 : decode cX5_divide 70 = .ok (.lrem, 1) := by decide +kernel
theorem dX5_divide_71 : decode cX5_divide 71 = .ok (.l2i, 1) := by decide +kernel
theorem dX5_divide_72 : decode cX5_divide 72 = .ok (.invokevirtual 76, 3) := by decide +kernel
theorem dX5_divide_75 : decode cX5_divide 75 = .ok (.aload_n 0, 1) := by decide +kernel
theorem dX5_divide_76 : decode cX5_divide 76 = .ok (.getfield 15, 3) := by decide +kernel
theorem dX5_divide_79 : decode cX5_divide 79 = .ok (.iconst 0, 1) := by decide +kernel
theorem dX5_divide_80 : decode cX5_divide 80 = .ok (.putfield 101, 3) := by decide +kernel
theorem dX5_divide_83 : decode cX5_divide 83 = .ok (.return_, 1) := by decide +kernel
set_option maxRecDepth 20000 in
theorem ggX5_longShift_X5_readPair : GoodIn wsX5_longShift wsX5_readPair := goodIn_r _ [9, 10, 11, 12, 13, 14, 15, 16, 32, 33, 34, 41] (by decide +kernel) (by decide +kernel)
set_option maxRecDepth 20000 in
theorem gX5_longShift_X5_readPair : GoodIn wsX5_longShift (wsV RX5 154 RX5 yX5_readPair wsX5_readPair) := goodIn_app (goodIn_of _ (by decide +kernel)) ggX5_longShift_X5_readPair
set_option maxRecDepth 20000 in
theorem ggX5_longShift_X5_writePair : GoodIn wsX5_longShift wsX5_writePair := goodIn_r _ [20, 10, 21, 22, 23, 14, 24, 16, 25, 32, 33, 34, 41] (by decide +kernel) (by decide +kernel)
set_option maxRecDepth 20000 in
theorem gX5_longShift_X5_writePair : GoodIn wsX5_longShift (wsV RX5 151 RX5 yX5_writePair wsX5_writePair) := goodIn_app (goodIn_of _ (by decide +kernel)) ggX5_longShift_X5_writePair
set_option maxRecDepth 20000 in
theorem ggX5_longShift_X5_losesUnlikeSign : GoodIn wsX5_longShift wsX5_losesUnlikeSign := goodIn_r _ [28, 3] (by decide +kernel) (by decide +kernel)
set_option maxRecDepth 20000 in
theorem gX5_longShift_X5_losesUnlikeSign : GoodIn wsX5_longShift (va_wsS RX5 164 yX5_losesUnlikeSign wsX5_losesUnlikeSign) := goodIn_app (goodIn_of _ (by decide +kernel)) ggX5_longShift_X5_losesUnlikeSign
set_option maxRecDepth 20000 in
theorem ggX5_longShift_X7_bit : GoodIn wsX5_longShift wsX7_bit := goodIn_r _ [31] (by decide +kernel) (by decide +kernel)
set_option maxRecDepth 20000 in
theorem gX5_longShift_X7_bit_n168 : GoodIn wsX5_longShift (wsX7_bit) := ggX5_longShift_X7_bit
theorem dX5_longShift_0 : decode cX5_longShift 0 = .ok (.iload_n 1, 1) := by decide +kernel
theorem dX5_longShift_1 : decode cX5_longShift 1 = .ok (.bipush 15, 2) := by decide +kernel
theorem dX5_longShift_3 : decode cX5_longShift 3 = .ok (.iand, 1) := by decide +kernel
theorem dX5_longShift_4 : decode cX5_longShift 4 = .ok (.ifCond .ne 8, 3) := by decide +kernel
theorem dX5_longShift_7 : decode cX5_longShift 7 = .ok (.bipush 16, 2) := by decide +kernel
theorem dX5_longShift_9 : decode cX5_longShift 9 = .ok (.goto 7, 3) := by decide +kernel
theorem dX5_longShift_12 : decode cX5_longShift 12 = .ok (.iload_n 1, 1) := by decide +kernel
theorem dX5_longShift_13 : decode cX5_longShift 13 = .ok (.bipush 15, 2) := by decide +kernel
theorem dX5_longShift_15 : decode cX5_longShift 15 = .ok (.iand, 1) := by decide +kernel
theorem dX5_longShift_16 : decode cX5_longShift 16 = .ok (.istore_n 2, 1) := by decide +kernel
theorem dX5_longShift_17 : decode cX5_longShift 17 = .ok (.aload_n 0, 1) := by decide +kernel
theorem dX5_longShift_18 : decode cX5_longShift 18 = .ok (.invokevirtual 154, 3) := by decide +kernel
theorem dX5_longShift_21 : decode cX5_longShift 21 = .ok (.istore_n 3, 1) := by decide +kernel
theorem dX5_longShift_22 : decode cX5_longShift 22 = .ok (.iload_n 1, 1) := by decide +kernel
theorem dX5_longShift_23 : decode cX5_longShift 23 = .ok (.ldc 161, 2) := by decide +kernel
theorem dX5_longShift_25 : decode cX5_longShift 25 = .ok (.iand, 1) := by decide +kernel
theorem dX5_longShift_26 : decode cX5_longShift 26 = .ok (.lookupswitch 163 #[(32784, 58), (32800, 109), (32832, 129), (33296, 91), (33312, 119), (33344, 146)], 58) := by decide +kernel
theorem dX5_longShift_84 : decode cX5_longShift 84 = .ok (.aload_n 0, 1) := by decide +kernel
theorem dX5_longShift_85 : decode cX5_longShift 85 = .ok (.iload_n 3, 1) := by decide +kernel
theorem dX5_longShift_86 : decode cX5_longShift 86 = .ok (.ldc 162, 2) := by decide +kernel
theorem dX5_longShift_88 : decode cX5_longShift 88 = .ok (.iand, 1) := by decide +kernel
theorem dX5_longShift_89 : decode cX5_longShift 89 = .ok (.iload_n 3, 1) := by decide +kernel
theorem dX5_longShift_90 : decode cX5_longShift 90 = .ok (.iload_n 2, 1) := by decide +kernel
theorem dX5_longShift_91 : decode cX5_longShift 91 = .ok (.ishl, 1) := by decide +kernel
theorem dX5_longShift_92 : decode cX5_longShift 92 = .ok (.ldc 163, 2) := by decide +kernel
theorem dX5_longShift_94 : decode cX5_longShift 94 = .ok (.iand, 1) := by decide +kernel
theorem dX5_longShift_95 : decode cX5_longShift 95 = .ok (.ior, 1) := by decide +kernel
theorem dX5_longShift_96 : decode cX5_longShift 96 = .ok (.invokevirtual 151, 3) := by decide +kernel
theorem dX5_longShift_99 : decode cX5_longShift 99 = .ok (.aload_n 0, 1) := by decide +kernel
theorem dX5_longShift_100 : decode cX5_longShift 100 = .ok (.getfield 15, 3) := by decide +kernel
theorem dX5_longShift_103 : decode cX5_longShift 103 = .ok (.iload_n 3, 1) := by decide +kernel
theorem dX5_longShift_104 : decode cX5_longShift 104 = .ok (.iload_n 2, 1) := by decide +kernel
theorem dX5_longShift_105 : decode cX5_longShift 105 = .ok (.invokestatic 164, 3) := by decide +kernel
theorem dX5_longShift_108 : decode cX5_longShift 108 = .ok (.invokestatic 168, 3) := by decide +kernel
theorem dX5_longShift_111 : decode cX5_longShift 111 = .ok (.putfield 101, 3) := by decide +kernel
theorem dX5_longShift_114 : decode cX5_longShift 114 = .ok (.goto 75, 3) := by decide +kernel
theorem dX5_longShift_117 : decode cX5_longShift 117 = .ok (.aload_n 0, 1) := by decide +kernel
theorem dX5_longShift_118 : decode cX5_longShift 118 = .ok (.iload_n 3, 1) := by decide +kernel
theorem dX5_longShift_119 : decode cX5_longShift 119 = .ok (.iload_n 2, 1) := by decide +kernel
theorem dX5_longShift_120 : decode cX5_longShift 120 = .ok (.ishr, 1) := by decide +kernel
theorem dX5_longShift_121 : decode cX5_longShift 121 = .ok (.invokevirtual 151, 3) := by decide +kernel
theorem dX5_longShift_124 : decode cX5_longShift 124 = .ok (.aload_n 0, 1) := by decide +kernel
theorem dX5_longShift_125 : decode cX5_longShift 125 = .ok (.getfield 15, 3) := by decide +kernel
theorem dX5_longShift_128 : decode cX5_longShift 128 = .ok (.iconst 0, 1) := by decide +kernel
theorem dX5_longShift_129 : decode cX5_longShift 129 = .ok (.putfield 101, 3) := by decide +kernel
theorem dX5_longShift_132 : decode cX5_longShift 132 = .ok (.goto 57, 3) := by decide +kernel
theorem dX5_longShift_135 : decode cX5_longShift 135 = .ok (.aload_n 0, 1) := by decide +kernel
theorem dX5_longShift_136 : decode cX5_longShift 136 = .ok (.iload_n 3, 1) := by decide +kernel
theorem dX5_longShift_137 : decode cX5_longShift 137 = .ok (.iload_n 2, 1) := by decide +kernel
theorem dX5_longShift_138 : decode cX5_longShift 138 = .ok (.ishl, 1) := by decide +kernel
theorem dX5_longShift_139 : decode cX5_longShift 139 = .ok (.invokevirtual 151, 3) := by decide +kernel
theorem dX5_longShift_142 : decode cX5_longShift 142 = .ok (.goto 47, 3) := by decide +kernel
theorem dX5_longShift_145 : decode cX5_longShift 145 = .ok (.aload_n 0, 1) := by decide +kernel
theorem dX5_longShift_146 : decode cX5_longShift 146 = .ok (.iload_n 3, 1) := by decide +kernel
theorem dX5_longShift_147 : decode cX5_longShift 147 = .ok (.iload_n 2, 1) := by decide +kernel
theorem dX5_longShift_148 : decode cX5_longShift 148 = .ok (.iushr, 1) := by decide +kernel
theorem dX5_longShift_149 : decode cX5_longShift 149 = .ok (.invokevirtual 151, 3) := by decide +kernel
theorem dX5_longShift_152 : decode cX5_longShift 152 = .ok (.goto 37, 3) := by decide +kernel
theorem dX5_longShift_155 : decode cX5_longShift 155 = .ok (.aload_n 0, 1) := by decide +kernel
theorem dX5_longShift_156 : decode cX5_longShift 156 = .ok (.iload_n 3, 1) := by decide +kernel
theorem dX5_longShift_157 : decode cX5_longShift 157 = .ok (.iload_n 2, 1) := by decide +kernel
theorem dX5_longShift_158 : decode cX5_longShift 158 = .ok (.ishl, 1) := by decide +kernel
theorem dX5_longShift_159 : decode cX5_longShift 159 = .ok (.iload_n 3, 1) := by decide +kernel
theorem dX5_longShift_160 : decode cX5_longShift 160 = .ok (.bipush 32, 2) := by decide +kernel
theorem dX5_longShift_162 : decode cX5_longShift 162 = .ok (.iload_n 2, 1) := by decide +kernel
theorem dX5_longShift_163 : decode cX5_longShift 163 = .ok (.isub, 1) := by decide +kernel
theorem dX5_longShift_164 : decode cX5_longShift 164 = .ok (.iushr, 1) := by decide +kernel
theorem dX5_longShift_165 : decode cX5_longShift 165 = .ok (.ior, 1) := by decide +kernel
theorem dX5_longShift_166 : decode cX5_longShift 166 = .ok (.invokevirtual 151, 3) := by decide +kernel
theorem dX5_longShift_169 : decode cX5_longShift 169 = .ok (.goto 20, 3) := by decide +kernel
theorem dX5_longShift_172 : decode cX5_longShift 172 = .ok (.aload_n 0, 1) := by decide +kernel
theorem dX5_longShift_173 : decode cX5_longShift 173 = .ok (.iload_n 3, 1) := by decide +kernel
theorem dX5_longShift_174 : decode cX5_longShift 174 = .ok (.iload_n 2, 1) := by decide +kernel
theorem dX5_longShift_175 : decode cX5_longShift 175 = .ok (.iushr, 1) := by decide +kernel
theorem dX5_longShift_176 : decode cX5_longShift 176 = .ok (.iload_n 3, 1) := by decide +kernel
theorem dX5_longShift_177 : decode cX5_longShift 177 = .ok (.bipush 32, 2) := by decide +kernel
theorem dX5_longShift_179 : decode cX5_longShift 179 = .ok (.iload_n 2, 1) := by decide +kernel
theorem dX5_longShift_180 : decode cX5_longShift 180 = .ok (.isub, 1) := by decide +kernel
theorem dX5_longShift_181 : decode cX5_longShift 181 = .ok (.ishl, 1) := by decide +kernel
theorem dX5_longShift_182 : decode cX5_longShift 182 = .ok (.ior, 1) := by decide +kernel
theorem dX5_longShift_183 : decode cX5_longShift 183 = .ok (.invokevirtual 151, 3) := by decide +kernel
theorem dX5_longShift_186 : decode cX5_longShift 186 = .ok (.goto 3, 3) := by decide +kernel
theorem dX5_longShift_189 : decode cX5_longShift 189 = .ok (.return_, 1) := by decide +kernel
theorem dX5_losesUnlikeSign_0 : decode cX5_losesUnlikeSign 0 = .ok (.iload_n 0, 1) := by decide +kernel
theorem dX5_losesUnlikeSign_1 : decode cX5_losesUnlikeSign 1 = .ok (.ldc 163, 2) := by decide +kernel
theorem dX5_losesUnlikeSign_3 : decode cX5_losesUnlikeSign 3 = .ok (.iand, 1) := by decide +kernel
theorem dX5_losesUnlikeSign_4 : decode cX5_losesUnlikeSign 4 = .ok (.bipush 31, 2) := by decide +kernel
theorem dX5_losesUnlikeSign_6 : decode cX5_losesUnlikeSign 6 = .ok (.iload_n 1, 1) := by decide +kernel
theorem dX5_losesUnlikeSign_7 : decode cX5_losesUnlikeSign 7 = .ok (.isub, 1) := by decide +kernel
theorem dX5_losesUnlikeSign_8 : decode cX5_losesUnlikeSign 8 = .ok (.iushr, 1) := by decide +kernel
theorem dX5_losesUnlikeSign_9 : decode cX5_losesUnlikeSign 9 = .ok (.istore_n 2, 1) := by decide +kernel
theorem dX5_losesUnlikeSign_10 : decode cX5_losesUnlikeSign 10 = .ok (.iload_n 0, 1) := by decide +kernel
theorem dX5_losesUnlikeSign_11 : decode cX5_losesUnlikeSign 11 = .ok (.ifCond .ge 11, 3) := by decide +kernel
theorem dX5_losesUnlikeSign_14 : decode cX5_losesUnlikeSign 14 = .ok (.iconst 1, 1) := by decide +kernel
theorem dX5_losesUnlikeSign_15 : decode cX5_losesUnlikeSign 15 = .ok (.iload_n 1, 1) := by decide +kernel
theorem dX5_losesUnlikeSign_16 : decode cX5_losesUnlikeSign 16 = .ok (.ishl, 1) := by decide +kernel
theorem dX5_losesUnlikeSign_17 : decode cX5_losesUnlikeSign 17 = .ok (.iconst 1, 1) := by decide +kernel
theorem dX5_losesUnlikeSign_18 : decode cX5_losesUnlikeSign 18 = .ok (.isub, 1) := by decide +kernel
theorem dX5_losesUnlikeSign_19 : decode cX5_losesUnlikeSign 19 = .ok (.goto 4, 3) := by decide +kernel
theorem dX5_losesUnlikeSign_22 : decode cX5_losesUnlikeSign 22 = .ok (.iconst 0, 1) := by decide +kernel
theorem dX5_losesUnlikeSign_23 : decode cX5_losesUnlikeSign 23 = .ok (.istore_n 3, 1) := by decide +kernel
theorem dX5_losesUnlikeSign_24 : decode cX5_losesUnlikeSign 24 = .ok (.iload_n 2, 1) := by decide +kernel
theorem dX5_losesUnlikeSign_25 : decode cX5_losesUnlikeSign 25 = .ok (.iload_n 3, 1) := by decide +kernel
theorem dX5_losesUnlikeSign_26 : decode cX5_losesUnlikeSign 26 = .ok (.if_icmp .eq 7, 3) := by decide +kernel
theorem dX5_losesUnlikeSign_29 : decode cX5_losesUnlikeSign 29 = .ok (.iconst 1, 1) := by decide +kernel
theorem dX5_losesUnlikeSign_30 : decode cX5_losesUnlikeSign 30 = .ok (.goto 4, 3) := by decide +kernel
theorem dX5_losesUnlikeSign_33 : decode cX5_losesUnlikeSign 33 = .ok (.iconst 0, 1) := by decide +kernel
theorem dX5_losesUnlikeSign_34 : decode cX5_losesUnlikeSign 34 = .ok (.ireturn, 1) := by decide +kernel
theorem dX6_init_0 : decode cX6_init 0 = .ok (.aload_n 0, 1) := by decide +kernel
theorem dX6_init_1 : decode cX6_init 1 = .ok (.invokespecial 3, 3) := by decide +kernel
theorem dX6_init_4 : decode cX6_init 4 = .ok (.aload_n 0, 1) := by decide +kernel
theorem dX6_init_5 : decode cX6_init 5 = .ok (.iconst (-1), 1) := by decide +kernel
theorem dX6_init_6 : decode cX6_init 6 = .ok (.putfield 9, 3) := by decide +kernel
theorem dX6_init_9 : decode cX6_init 9 = .ok (.return_, 1) := by decide +kernel
theorem dX6_stepOn_0 : decode cX6_stepOn 0 = .ok (.aload_n 0, 1) := by decide +kernel
theorem dX6_stepOn_1 : decode cX6_stepOn 1 = .ok (.aload_n 0, 1) := by decide +kernel
theorem dX6_stepOn_2 : decode cX6_stepOn 2 = .ok (.getfield 15, 3) := by decide +kernel
theorem dX6_stepOn_5 : decode cX6_stepOn 5 = .ok (.iconst 1, 1) := by decide +kernel
theorem dX6_stepOn_6 : decode cX6_stepOn 6 = .ok (.iadd, 1) := by decide +kernel
theorem dX6_stepOn_7 : decode cX6_stepOn 7 = .ok (.sipush 32767, 3) := by decide +kernel
theorem dX6_stepOn_10 : decode cX6_stepOn 10 = .ok (.iand, 1) := by decide +kernel
theorem dX6_stepOn_11 : decode cX6_stepOn 11 = .ok (.putfield 15, 3) := by decide +kernel
theorem dX6_stepOn_14 : decode cX6_stepOn 14 = .ok (.return_, 1) := by decide +kernel
theorem dX6_halt_0 : decode cX6_halt 0 = .ok (.aload_n 0, 1) := by decide +kernel
theorem dX6_halt_1 : decode cX6_halt 1 = .ok (.iconst 1, 1) := by decide +kernel
theorem dX6_halt_2 : decode cX6_halt 2 = .ok (.putfield 18, 3) := by decide +kernel
theorem dX6_halt_5 : decode cX6_halt 5 = .ok (.aload_n 0, 1) := by decide +kernel
theorem dX6_halt_6 : decode cX6_halt 6 = .ok (.iload_n 1, 1) := by decide +kernel
theorem dX6_halt_7 : decode cX6_halt 7 = .ok (.putfield 9, 3) := by decide +kernel
theorem dX6_halt_10 : decode cX6_halt 10 = .ok (.return_, 1) := by decide +kernel
theorem dX7_bit_0 : decode cX7_bit 0 = .ok (.iload_n 0, 1) := by decide +kernel
theorem dX7_bit_1 : decode cX7_bit 1 = .ok (.ifCond .eq 7, 3) := by decide +kernel
theorem dX7_bit_4 : decode cX7_bit 4 = .ok (.iconst 1, 1) := by decide +kernel
theorem dX7_bit_5 : decode cX7_bit 5 = .ok (.goto 4, 3) := by decide +kernel
theorem dX7_bit_8 : decode cX7_bit 8 = .ok (.iconst 0, 1) := by decide +kernel
theorem dX7_bit_9 : decode cX7_bit 9 = .ok (.ireturn, 1) := by decide +kernel
