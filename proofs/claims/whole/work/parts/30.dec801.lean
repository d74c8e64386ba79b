theorem dX8_channel_201 : decode cX8_channel 201 = .ok (.iaload, 1) := by decide +kernel
theorem dX8_channel_202 : decode cX8_channel 202 = .ok (.bipush 15, 2) := by decide +kernel
theorem dX8_channel_204 : decode cX8_channel 204 = .ok (.ishr, 1) := by decide +kernel
theorem dX8_channel_205 : decode cX8_channel 205 = .ok (.iconst 1, 1) := by decide +kernel
theorem dX8_channel_206 : decode cX8_channel 206 = .ok (.if_icmp .ne 15, 3) := by decide +kernel
theorem dX8_channel_209 : decode cX8_channel 209 = .ok (.aload_n 0, 1) := by decide +kernel
theorem dX8_channel_210 : decode cX8_channel 210 = .ok (.getfield 20, 3) := by decide +kernel
theorem dX8_channel_213 : decode cX8_channel 213 = .ok (.iload_n 2, 1) := by decide +kernel
theorem dX8_channel_214 : decode cX8_channel 214 = .ok (.iconst 1, 1) := by decide +kernel
theorem dX8_channel_215 : decode cX8_channel 215 = .ok (.bastore, 1) := by decide +kernel
theorem dX8_channel_216 : decode cX8_channel 216 = .ok (.aload_n 0, 1) := by decide +kernel
theorem dX8_channel_217 : decode cX8_channel 217 = .ok (.iload_n 2, 1) := by decide +kernel
theorem dX8_channel_218 : decode cX8_channel 218 = .ok (.invokevirtual 103, 3) := by decide +kernel
theorem dX8_channel_221 : decode cX8_channel 221 = .ok (.return_, 1) := by decide +kernel
set_option maxRecDepth 20000 in
theorem ggX8_turn_X8_ready : GoodIn wsX8_turn wsX8_ready := goodIn_r _ [16, 17, 18, 19, 20, 21, 22, 4, 7, 151, 152, 153, 154, 155, 156, 157, 158, 159, 160, 161, 162, 163, 164, 165, 166, 167, 168, 169, 170, 171, 172, 173, 174, 175, 176, 177, 178, 179, 180, 181, 182, 183, 184, 185] (by decide +kernel) (by decide +kernel)
set_option maxRecDepth 20000 in
theorem gX8_turn_X8_ready : GoodIn wsX8_turn (wsV RX8 110 RX8 yX8_ready wsX8_ready) := goodIn_app (goodIn_of _ (by decide +kernel)) ggX8_turn_X8_ready
set_option maxRecDepth 20000 in
theorem ggX8_turn_X8_channel : GoodIn wsX8_turn wsX8_channel := goodIn_r _ [26, 27, 28, 4, 29, 30, 20, 7, 31, 32, 33, 3, 34, 35, 36, 15, 37, 38, 39, 40, 41, 42, 43, 44, 45, 46, 47, 48, 49, 50, 51, 2, 52, 151, 152, 153, 154, 155, 156, 157, 158, 159, 160, 161, 162, 163, 164, 165, 166, 167, 168, 169, 170, 171, 172, 173, 174, 175, 176, 177, 178, 179, 180, 181, 182, 183, 184, 185] (by decide +kernel) (by decide +kernel)
set_option maxRecDepth 20000 in
theorem gX8_turn_X8_channel : GoodIn wsX8_turn (wsV RX8 113 RX8 yX8_channel wsX8_channel) := goodIn_app (goodIn_of _ (by decide +kernel)) ggX8_turn_X8_channel
set_option maxRecDepth 20000 in
theorem ggX8_turn_X8_at : GoodIn wsX8_turn wsX8_at := goodIn_r _ [44, 38, 39, 40, 151, 152, 153, 154, 155, 156, 157, 158, 159, 160, 161, 162, 163, 164, 165, 166, 167, 168, 169, 170, 171, 172, 173, 174, 175, 176, 177, 178, 179, 180, 181, 182, 183, 184, 185] (by decide +kernel) (by decide +kernel)
set_option maxRecDepth 20000 in
theorem gX8_turn_X8_at : GoodIn wsX8_turn (wsV RX8 95 RX8 yX8_at wsX8_at) := goodIn_app (goodIn_of _ (by decide +kernel)) ggX8_turn_X8_at
set_option maxRecDepth 20000 in
theorem ggX8_turn_X8_does_p1 : GoodIn wsX8_turn (.code yX8_does cX8_does 3 none :: wsX8_does_r1) := goodIn_r _ [56, 57, 58, 59, 15, 60, 61, 38, 11, 8, 32, 39, 62, 63, 64, 65, 66, 67, 41, 42, 43, 44, 40, 34, 35] (by decide +kernel) (by decide +kernel)
set_option maxRecDepth 20000 in
theorem ggX8_turn_X8_does_p2 : GoodIn wsX8_turn (wsX8_does_r2) := goodIn_r _ [36, 37, 45, 46, 47, 68, 69, 70, 71, 72, 73, 74, 75, 76, 77, 78, 79, 80, 81, 82, 83, 84, 85, 86] (by decide +kernel) (by decide +kernel)
set_option maxRecDepth 20000 in
theorem ggX8_turn_X8_does_p3 : GoodIn wsX8_turn (wsX8_does_r3) := goodIn_r _ [87, 88, 89, 90, 91, 92, 93, 94, 95, 96, 97, 98, 99, 100, 101, 102, 103, 104, 5, 4, 7, 105, 106, 107] (by decide +kernel) (by decide +kernel)
set_option maxRecDepth 20000 in
theorem ggX8_turn_X8_does_p4 : GoodIn wsX8_turn (wsX8_does_r4) := goodIn_r _ [108, 109, 110, 111, 112, 113, 31, 20, 114, 115, 116, 117, 118, 119, 30, 29, 27, 120, 121, 122, 123, 3, 28, 48] (by decide +kernel) (by decide +kernel)
set_option maxRecDepth 20000 in
theorem ggX8_turn_X8_does_p5 : GoodIn wsX8_turn (wsX8_does_r5) := goodIn_r _ [49, 50, 51, 2, 52, 124, 125, 126, 127, 128, 129, 130, 131, 132, 133, 134, 135, 136, 137, 138, 139, 140, 141, 142] (by decide +kernel) (by decide +kernel)
set_option maxRecDepth 20000 in
theorem ggX8_turn_X8_does_p6 : GoodIn wsX8_turn (wsX8_does_r6) := goodIn_r _ [143, 144, 145, 146, 147, 148, 149, 150] (by decide +kernel) (by decide +kernel)
set_option maxRecDepth 20000 in
theorem ggX8_turn_X8_does_p7 : GoodIn wsX8_turn (wsX80) := goodIn_r _ [151, 152, 153, 154, 155, 156, 157, 158, 159, 160, 161, 162, 163, 164, 165, 166, 167, 168, 169, 170, 171, 172, 173, 174, 175, 176, 177, 178, 179, 180, 181, 182, 183, 184, 185] (by decide +kernel) (by decide +kernel)
theorem ggX8_turn_X8_does : GoodIn wsX8_turn wsX8_does := (goodIn_ca (goodIn_ca ggX8_turn_X8_does_p1 (goodIn_app ggX8_turn_X8_does_p2 (goodIn_app ggX8_turn_X8_does_p3 (goodIn_app ggX8_turn_X8_does_p4 (goodIn_app ggX8_turn_X8_does_p5 ggX8_turn_X8_does_p6))))) ggX8_turn_X8_does_p7)
set_option maxRecDepth 20000 in
theorem gX8_turn_X8_does : GoodIn wsX8_turn (wsV RX8 128 RX8 yX8_does wsX8_does) := goodIn_app (goodIn_of _ (by decide +kernel)) ggX8_turn_X8_does
set_option maxRecDepth 20000 in
theorem ggX8_turn_X8_more : GoodIn wsX8_turn wsX8_more := goodIn_r _ [47] (by decide +kernel) (by decide +kernel)
set_option maxRecDepth 20000 in
theorem gX8_turn_X8_more : GoodIn wsX8_turn (va_wsS RX8 87 yX8_more wsX8_more) := goodIn_app (goodIn_of _ (by decide +kernel)) ggX8_turn_X8_more
theorem dX8_turn_0 : decode cX8_turn 0 = .ok (.aload_n 0, 1) := by decide +kernel
theorem dX8_turn_1 : decode cX8_turn 1 = .ok (.dup, 1) := by decide +kernel
theorem dX8_turn_2 : decode cX8_turn 2 = .ok (.getfield 107, 3) := by decide +kernel
theorem dX8_turn_5 : decode cX8_turn 5 = .ok (.iconst 1, 1) := by decide +kernel
theorem dX8_turn_6 : decode cX8_turn 6 = .ok (.iadd, 1) := by decide +kernel
theorem dX8_turn_7 : decode cX8_turn 7 = .ok (.putfield 107, 3) := by decide +kernel
theorem dX8_turn_10 : decode cX8_turn 10 = .ok (.bipush 8, 2) := by decide +kernel
theorem dX8_turn_12 : decode cX8_turn 12 = .ok (.istore_n 1, 1) := by decide +kernel
theorem dX8_turn_13 : decode cX8_turn 13 = .ok (.iload_n 1, 1) := by decide +kernel
theorem dX8_turn_14 : decode cX8_turn 14 = .ok (.bipush 12, 2) := by decide +kernel
theorem dX8_turn_16 : decode cX8_turn 16 = .ok (.if_icmp .ge 45, 3) := by decide +kernel
theorem dX8_turn_19 : decode cX8_turn 19 = .ok (.aload_n 0, 1) := by decide +kernel
theorem dX8_turn_20 : decode cX8_turn 20 = .ok (.getfield 60, 3) := by decide +kernel
theorem dX8_turn_23 : decode cX8_turn 23 = .ok (.iload_n 1, 1) := by decide +kernel
theorem dX8_turn_24 : decode cX8_turn 24 = .ok (.iaload, 1) := by decide +kernel
theorem dX8_turn_25 : decode cX8_turn 25 = .ok (.ifCond .ne 6, 3) := by decide +kernel
theorem dX8_turn_28 : decode cX8_turn 28 = .ok (.goto 27, 3) := by decide +kernel
theorem dX8_turn_31 : decode cX8_turn 31 = .ok (.aload_n 0, 1) := by decide +kernel
theorem dX8_turn_32 : decode cX8_turn 32 = .ok (.getfield 60, 3) := by decide +kernel
theorem dX8_turn_35 : decode cX8_turn 35 = .ok (.iload_n 1, 1) := by decide +kernel
theorem dX8_turn_36 : decode cX8_turn 36 = .ok (.dup2, 1) := by decide +kernel
theorem dX8_turn_37 : decode cX8_turn 37 = .ok (.iaload, 1) := by decide +kernel
theorem dX8_turn_38 : decode cX8_turn 38 = .ok (.iconst 1, 1) := by decide +kernel
theorem dX8_turn_39 : decode cX8_turn 39 = .ok (.isub, 1) := by decide +kernel
theorem dX8_turn_40 : decode cX8_turn 40 = .ok (.iastore, 1) := by decide +kernel
theorem dX8_turn_41 : decode cX8_turn 41 = .ok (.aload_n 0, 1) := by decide +kernel
theorem dX8_turn_42 : decode cX8_turn 42 = .ok (.getfield 60, 3) := by decide +kernel
theorem dX8_turn_45 : decode cX8_turn 45 = .ok (.iload_n 1, 1) := by decide +kernel
theorem dX8_turn_46 : decode cX8_turn 46 = .ok (.iaload, 1) := by decide +kernel
theorem dX8_turn_47 : decode cX8_turn 47 = .ok (.ifCond .ne 8, 3) := by decide +kernel
theorem dX8_turn_50 : decode cX8_turn 50 = .ok (.aload_n 0, 1) := by decide +kernel
theorem dX8_turn_51 : decode cX8_turn 51 = .ok (.iload_n 1, 1) := by decide +kernel
theorem dX8_turn_52 : decode cX8_turn 52 = .ok (.invokevirtual 110, 3) := by decide +kernel
theorem dX8_turn_55 : decode cX8_turn 55 = .ok (.iinc 1 1, 3) := by decide +kernel
theorem dX8_turn_58 : decode cX8_turn 58 = .ok (.goto (-45), 3) := by decide +kernel
theorem dX8_turn_61 : decode cX8_turn 61 = .ok (.aload_n 0, 1) := by decide +kernel
theorem dX8_turn_62 : decode cX8_turn 62 = .ok (.bipush 6, 2) := by decide +kernel
theorem dX8_turn_64 : decode cX8_turn 64 = .ok (.invokevirtual 113, 3) := by decide +kernel
theorem dX8_turn_67 : decode cX8_turn 67 = .ok (.aload_n 0, 1) := by decide +kernel
theorem dX8_turn_68 : decode cX8_turn 68 = .ok (.bipush 7, 2) := by decide +kernel
theorem dX8_turn_70 : decode cX8_turn 70 = .ok (.invokevirtual 113, 3) := by decide +kernel
theorem dX8_turn_73 : decode cX8_turn 73 = .ok (.bipush 6, 2) := by decide +kernel
theorem dX8_turn_75 : decode cX8_turn 75 = .ok (.istore_n 1, 1) := by decide +kernel
theorem dX8_turn_76 : decode cX8_turn 76 = .ok (.iload_n 1, 1) := by decide +kernel
theorem dX8_turn_77 : decode cX8_turn 77 = .ok (.bipush 12, 2) := by decide +kernel
theorem dX8_turn_79 : decode cX8_turn 79 = .ok (.if_icmp .ge 27, 3) := by decide +kernel
theorem dX8_turn_82 : decode cX8_turn 82 = .ok (.aload_n 0, 1) := by decide +kernel
theorem dX8_turn_83 : decode cX8_turn 83 = .ok (.getfield 20, 3) := by decide +kernel
theorem dX8_turn_86 : decode cX8_turn 86 = .ok (.iload_n 1, 1) := by decide +kernel
theorem dX8_turn_87 : decode cX8_turn 87 = .ok (.baload, 1) := by decide +kernel
theorem dX8_turn_88 : decode cX8_turn 88 = .ok (.ifCond .eq 12, 3) := by decide +kernel
theorem dX8_turn_91 : decode cX8_turn 91 = .ok (.aload_n 0, 1) := by decide +kernel
theorem dX8_turn_92 : decode cX8_turn 92 = .ok (.getfield 24, 3) := by decide +kernel
theorem dX8_turn_95 : decode cX8_turn 95 = .ok (.iload_n 1, 1) := by decide +kernel
theorem dX8_turn_96 : decode cX8_turn 96 = .ok (.baload, 1) := by decide +kernel
theorem dX8_turn_97 : decode cX8_turn 97 = .ok (.ifCond .ne 9, 3) := by decide +kernel
theorem dX8_turn_100 : decode cX8_turn 100 = .ok (.iinc 1 1, 3) := by decide +kernel
theorem dX8_turn_103 : decode cX8_turn 103 = .ok (.goto (-27), 3) := by decide +kernel
theorem dX8_turn_106 : decode cX8_turn 106 = .ok (.aload_n 0, 1) := by decide +kernel
theorem dX8_turn_107 : decode cX8_turn 107 = .ok (.getfield 116, 3) := by decide +kernel
theorem dX8_turn_110 : decode cX8_turn 110 = .ok (.ifCond .eq 29, 3) := by decide +kernel
theorem dX8_turn_113 : decode cX8_turn 113 = .ok (.aload_n 0, 1) := by decide +kernel
theorem dX8_turn_114 : decode cX8_turn 114 = .ok (.getfield 119, 3) := by decide +kernel
theorem dX8_turn_117 : decode cX8_turn 117 = .ok (.ifCond .ne 22, 3) := by decide +kernel
theorem dX8_turn_120 : decode cX8_turn 120 = .ok (.iload_n 1, 1) := by decide +kernel
theorem dX8_turn_121 : decode cX8_turn 121 = .ok (.bipush 12, 2) := by decide +kernel
theorem dX8_turn_123 : decode cX8_turn 123 = .ok (.if_icmp .ge 16, 3) := by decide +kernel
theorem dX8_turn_126 : decode cX8_turn 126 = .ok (.aload_n 0, 1) := by decide +kernel
theorem dX8_turn_127 : decode cX8_turn 127 = .ok (.getfield 27, 3) := by decide +kernel
theorem dX8_turn_130 : decode cX8_turn 130 = .ok (.iload_n 1, 1) := by decide +kernel
theorem dX8_turn_131 : decode cX8_turn 131 = .ok (.baload, 1) := by decide +kernel
theorem dX8_turn_132 : decode cX8_turn 132 = .ok (.ifCond .eq 7, 3) := by decide +kernel
theorem dX8_turn_135 : decode cX8_turn 135 = .ok (.iconst 1, 1) := by decide +kernel
theorem dX8_turn_136 : decode cX8_turn 136 = .ok (.goto 4, 3) := by decide +kernel
theorem dX8_turn_139 : decode cX8_turn 139 = .ok (.iconst 0, 1) := by decide +kernel
theorem dX8_turn_140 : decode cX8_turn 140 = .ok (.istore_n 2, 1) := by decide +kernel
theorem dX8_turn_141 : decode cX8_turn 141 = .ok (.aload_n 0, 1) := by decide +kernel
theorem dX8_turn_142 : decode cX8_turn 142 = .ok (.iconst 0, 1) := by decide +kernel
theorem dX8_turn_143 : decode cX8_turn 143 = .ok (.putfield 122, 3) := by decide +kernel
theorem dX8_turn_146 : decode cX8_turn 146 = .ok (.iload_n 2, 1) := by decide +kernel
theorem dX8_turn_147 : decode cX8_turn 147 = .ok (.ifCond .eq 38, 3) := by decide +kernel
theorem dX8_turn_150 : decode cX8_turn 150 = .ok (.aload_n 0, 1) := by decide +kernel
theorem dX8_turn_151 : decode cX8_turn 151 = .ok (.getfield 27, 3) := by decide +kernel
theorem dX8_turn_154 : decode cX8_turn 154 = .ok (.iload_n 1, 1) := by decide +kernel
theorem dX8_turn_155 : decode cX8_turn 155 = .ok (.iconst 0, 1) := by decide +kernel
theorem dX8_turn_156 : decode cX8_turn 156 = .ok (.bastore, 1) := by decide +kernel
theorem dX8_turn_157 : decode cX8_turn 157 = .ok (.aload_n 0, 1) := by decide +kernel
theorem dX8_turn_158 : decode cX8_turn 158 = .ok (.dup, 1) := by decide +kernel
theorem dX8_turn_159 : decode cX8_turn 159 = .ok (.getfield 125, 3) := by decide +kernel
theorem dX8_turn_162 : decode cX8_turn 162 = .ok (.iconst 1, 1) := by decide +kernel
theorem dX8_turn_163 : decode cX8_turn 163 = .ok (.iadd, 1) := by decide +kernel
theorem dX8_turn_164 : decode cX8_turn 164 = .ok (.putfield 125, 3) := by decide +kernel
theorem dX8_turn_167 : decode cX8_turn 167 = .ok (.aload_n 0, 1) := by decide +kernel
theorem dX8_turn_168 : decode cX8_turn 168 = .ok (.iload_n 1, 1) := by decide +kernel
theorem dX8_turn_169 : decode cX8_turn 169 = .ok (.putfield 17, 3) := by decide +kernel
theorem dX8_turn_172 : decode cX8_turn 172 = .ok (.aload_n 0, 1) := by decide +kernel
theorem dX8_turn_173 : decode cX8_turn 173 = .ok (.aload_n 0, 1) := by decide +kernel
theorem dX8_turn_174 : decode cX8_turn 174 = .ok (.iload_n 1, 1) := by decide +kernel
theorem dX8_turn_175 : decode cX8_turn 175 = .ok (.invokevirtual 95, 3) := by decide +kernel
theorem dX8_turn_178 : decode cX8_turn 178 = .ok (.iconst 0, 1) := by decide +kernel
theorem dX8_turn_179 : decode cX8_turn 179 = .ok (.invokevirtual 128, 3) := by decide +kernel
theorem dX8_turn_182 : decode cX8_turn 182 = .ok (.goto 33, 3) := by decide +kernel
theorem dX8_turn_185 : decode cX8_turn 185 = .ok (.aload_n 0, 1) := by decide +kernel
theorem dX8_turn_186 : decode cX8_turn 186 = .ok (.getfield 84, 3) := by decide +kernel
theorem dX8_turn_189 : decode cX8_turn 189 = .ok (.istore_n 3, 1) := by decide +kernel
theorem dX8_turn_190 : decode cX8_turn 190 = .ok (.aload_n 0, 1) := by decide +kernel
theorem dX8_turn_191 : decode cX8_turn 191 = .ok (.aload_n 0, 1) := by decide +kernel
theorem dX8_turn_192 : decode cX8_turn 192 = .ok (.getfield 84, 3) := by decide +kernel
theorem dX8_turn_195 : decode cX8_turn 195 = .ok (.invokestatic 87, 3) := by decide +kernel
theorem dX8_turn_198 : decode cX8_turn 198 = .ok (.putfield 84, 3) := by decide +kernel
theorem dX8_turn_201 : decode cX8_turn 201 = .ok (.aload_n 0, 1) := by decide +kernel
theorem dX8_turn_202 : decode cX8_turn 202 = .ok (.aload_n 0, 1) := by decide +kernel
theorem dX8_turn_203 : decode cX8_turn 203 = .ok (.iload_n 3, 1) := by decide +kernel
theorem dX8_turn_204 : decode cX8_turn 204 = .ok (.invokevirtual 95, 3) := by decide +kernel
theorem dX8_turn_207 : decode cX8_turn 207 = .ok (.iload_n 3, 1) := by decide +kernel
theorem dX8_turn_208 : decode cX8_turn 208 = .ok (.sipush 31744, 3) := by decide +kernel
theorem dX8_turn_211 : decode cX8_turn 211 = .ok (.iand, 1) := by decide +kernel
theorem dX8_turn_212 : decode cX8_turn 212 = .ok (.invokevirtual 128, 3) := by decide +kernel
theorem dX8_turn_215 : decode cX8_turn 215 = .ok (.aload_n 0, 1) := by decide +kernel
theorem dX8_turn_216 : decode cX8_turn 216 = .ok (.aload_n 0, 1) := by decide +kernel
theorem dX8_turn_217 : decode cX8_turn 217 = .ok (.getfield 122, 3) := by decide +kernel
theorem dX8_turn_220 : decode cX8_turn 220 = .ok (.putfield 119, 3) := by decide +kernel
theorem dX8_turn_223 : decode cX8_turn 223 = .ok (.return_, 1) := by decide +kernel
set_option maxRecDepth 20000 in
theorem ggX8_does_X8_memoryWord : GoodIn wsX8_does wsX8_memoryWord := goodIn_r _ [5, 6, 7, 8, 9, 10, 11, 12, 13, 14, 4, 15, 16, 17, 18, 19, 20, 21, 22, 23, 24, 25, 26, 27, 28, 29, 30, 31, 32, 33, 34, 35, 36, 37, 38, 39, 40, 41, 42, 43, 129, 130, 131, 132, 133, 134, 135, 136, 137, 138, 139, 140, 141, 142, 143, 144, 145, 146, 147, 148, 149, 150, 151, 152, 153, 154, 155, 156, 157, 158, 159, 160, 161, 162, 163] (by decide +kernel) (by decide +kernel)
set_option maxRecDepth 20000 in
theorem gX8_does_X8_memoryWord : GoodIn wsX8_does (wsV RX8 131 RX8 yX8_memoryWord wsX8_memoryWord) := goodIn_app (goodIn_of _ (by decide +kernel)) ggX8_does_X8_memoryWord
set_option maxRecDepth 20000 in
theorem ggX8_does_X8_registers : GoodIn wsX8_does wsX8_registers := goodIn_r _ [47, 11, 7, 39, 48, 49, 4, 50, 51, 52, 53, 54, 10, 38, 30, 31, 32, 33, 8, 27, 28, 29, 55, 56, 57, 58, 6, 129, 130, 131, 132, 133, 134, 135, 136, 137, 138, 139, 140, 141, 142, 143, 144, 145, 146, 147, 148, 149, 150, 151, 152, 153, 154, 155, 156, 157, 158, 159, 160, 161, 162, 163] (by decide +kernel) (by decide +kernel)
set_option maxRecDepth 20000 in
theorem gX8_does_X8_registers : GoodIn wsX8_does (wsV RX8 134 RX8 yX8_registers wsX8_registers) := goodIn_app (goodIn_of _ (by decide +kernel)) ggX8_does_X8_registers
set_option maxRecDepth 20000 in
theorem ggX8_does_X8_codes : GoodIn wsX8_does wsX8_codes := goodIn_r _ [62, 11, 7, 16, 17, 9, 48, 49, 4, 50, 63, 64, 65, 66, 67, 38, 68, 69, 70, 71, 72, 73, 30, 31, 32, 33, 8, 27, 28, 29, 74, 75, 76, 77, 78, 79, 80, 81, 82, 83, 84, 85, 86, 87, 88, 89, 90, 91, 92, 93, 94, 95, 96, 97, 98, 99, 100, 101, 129, 130, 131, 132, 133, 134, 135, 136, 137, 138, 139, 140, 141, 142, 143, 144, 145, 146, 147, 148, 149, 150, 151, 152, 153, 154, 155, 156, 157, 158, 159, 160, 161, 162, 163] (by decide +kernel) (by decide +kernel)
set_option maxRecDepth 20000 in
theorem gX8_does_X8_codes : GoodIn wsX8_does (wsV RX8 137 RX8 yX8_codes wsX8_codes) := goodIn_app (goodIn_of _ (by decide +kernel)) ggX8_does_X8_codes
set_option maxRecDepth 20000 in
theorem ggX8_does_X8_extended : GoodIn wsX8_does wsX8_extended := goodIn_r _ [105, 106, 107, 108, 109, 8, 38, 27, 28, 4, 29, 18, 19, 20, 21, 7, 11, 22, 12, 13, 14, 15, 16, 17, 110, 111, 112, 113, 114, 115, 10, 40, 41, 42, 43, 116, 117, 118, 119, 120, 121, 122, 123, 23, 24, 25, 26, 124, 125, 126, 127, 128, 129, 130, 131, 132, 133, 134, 135, 136, 137, 138, 139, 140, 141, 142, 143, 144, 145, 146, 147, 148, 149, 150, 151, 152, 153, 154, 155, 156, 157, 158, 159, 160, 161, 162, 163] (by decide +kernel) (by decide +kernel)
set_option maxRecDepth 20000 in
theorem gX8_does_X8_extended : GoodIn wsX8_does (wsV RX8 140 RX8 yX8_extended wsX8_extended) := goodIn_app (goodIn_of _ (by decide +kernel)) ggX8_does_X8_extended
theorem dX8_does_0 : decode cX8_does 0 = .ok (.iload_n 1, 1) := by decide +kernel
theorem dX8_does_1 : decode cX8_does 1 = .ok (.bipush 12, 2) := by decide +kernel
theorem dX8_does_3 : decode cX8_does 3 = .ok (.ishr, 1) := by decide +kernel
theorem dX8_does_4 : decode cX8_does 4 = .ok (.bipush 7, 2) := by decide +kernel
theorem dX8_does_6 : decode cX8_does 6 = .ok (.iand, 1) := by decide +kernel
theorem dX8_does_7 : decode cX8_does 7 = .ok (.ifCond .eq 12, 3) := by decide +kernel
theorem dX8_does_10 : decode cX8_does 10 = .ok (.aload_n 0, 1) := by decide +kernel
theorem dX8_does_11 : decode cX8_does 11 = .ok (.iload_n 1, 1) := by decide +kernel
theorem dX8_does_12 : decode cX8_does 12 = .ok (.iload_n 2, 1) := by decide +kernel
theorem dX8_does_13 : decode cX8_does 13 = .ok (.invokevirtual 131, 3) := by decide +kernel
theorem dX8_does_16 : decode cX8_does 16 = .ok (.goto 41, 3) := by decide +kernel
theorem dX8_does_19 : decode cX8_does 19 = .ok (.iload_n 1, 1) := by decide +kernel
theorem dX8_does_20 : decode cX8_does 20 = .ok (.bipush 15, 2) := by decide +kernel
theorem dX8_does_22 : decode cX8_does 22 = .ok (.ishr, 1) := by decide +kernel
theorem dX8_does_23 : decode cX8_does 23 = .ok (.ifCond .ne 11, 3) := by decide +kernel
theorem dX8_does_26 : decode cX8_does 26 = .ok (.aload_n 0, 1) := by decide +kernel
theorem dX8_does_27 : decode cX8_does 27 = .ok (.iload_n 1, 1) := by decide +kernel
theorem dX8_does_28 : decode cX8_does 28 = .ok (.invokevirtual 134, 3) := by decide +kernel
theorem dX8_does_31 : decode cX8_does 31 = .ok (.goto 26, 3) := by decide +kernel
theorem dX8_does_34 : decode cX8_does 34 = .ok (.iload_n 1, 1) := by decide +kernel
theorem dX8_does_35 : decode cX8_does 35 = .ok (.bipush 10, 2) := by decide +kernel
theorem dX8_does_37 : decode cX8_does 37 = .ok (.ishr, 1) := by decide +kernel
theorem dX8_does_38 : decode cX8_does 38 = .ok (.iconst 1, 1) := by decide +kernel
theorem dX8_does_39 : decode cX8_does 39 = .ok (.iand, 1) := by decide +kernel
theorem dX8_does_40 : decode cX8_does 40 = .ok (.iconst 1, 1) := by decide +kernel
theorem dX8_does_41 : decode cX8_does 41 = .ok (.if_icmp .ne 11, 3) := by decide +kernel
theorem dX8_does_44 : decode cX8_does 44 = .ok (.aload_n 0, 1) := by decide +kernel
theorem dX8_does_45 : decode cX8_does 45 = .ok (.iload_n 1, 1) := by decide +kernel
theorem dX8_does_46 : decode cX8_does 46 = .ok (.invokevirtual 137, 3) := by decide +kernel
theorem dX8_does_49 : decode cX8_does 49 = .ok (.goto 8, 3) := by decide +kernel
theorem dX8_does_52 : decode cX8_does 52 = .ok (.aload_n 0, 1) := by decide +kernel
theorem dX8_does_53 : decode cX8_does 53 = .ok (.iload_n 1, 1) := by decide +kernel
theorem dX8_does_54 : decode cX8_does 54 = .ok (.invokevirtual 140, 3) := by decide +kernel
theorem dX8_does_57 : decode cX8_does 57 = .ok (.return_, 1) := by decide +kernel
set_option maxRecDepth 20000 in
theorem ggX8_memoryWord_X8_direct : GoodIn wsX8_memoryWord wsX8_direct := goodIn_r _ [11, 12, 13, 14, 15, 16, 10, 17, 2, 6, 18, 40, 41, 42, 43, 44, 45, 46, 47, 48, 49, 50, 51, 52, 53, 54, 55, 56, 57, 58, 59, 60, 61, 62, 63, 64, 65, 66, 67, 68, 69, 70, 71, 72, 73, 74] (by decide +kernel) (by decide +kernel)
set_option maxRecDepth 20000 in
theorem gX8_memoryWord_X8_direct : GoodIn wsX8_memoryWord (wsV RX8 144 RX8 yX8_direct wsX8_direct) := goodIn_app (goodIn_of _ (by decide +kernel)) ggX8_memoryWord_X8_direct
set_option maxRecDepth 20000 in
theorem ggX8_memoryWord_X8_at : GoodIn wsX8_memoryWord wsX8_at := goodIn_r _ [17, 2, 6, 18, 40, 41, 42, 43, 44, 45, 46, 47, 48, 49, 50, 51, 52, 53, 54, 55, 56, 57, 58, 59, 60, 61, 62, 63, 64, 65, 66, 67, 68, 69, 70, 71, 72, 73, 74] (by decide +kernel) (by decide +kernel)
set_option maxRecDepth 20000 in
theorem gX8_memoryWord_X8_at : GoodIn wsX8_memoryWord (wsV RX8 95 RX8 yX8_at wsX8_at) := goodIn_app (goodIn_of _ (by decide +kernel)) ggX8_memoryWord_X8_at
set_option maxRecDepth 20000 in
theorem ggX8_memoryWord_X8_put : GoodIn wsX8_memoryWord wsX8_put := goodIn_r _ [22, 2, 6, 18, 40, 41, 42, 43, 44, 45, 46, 47, 48, 49, 50, 51, 52, 53, 54, 55, 56, 57, 58, 59, 60, 61, 62, 63, 64, 65, 66, 67, 68, 69, 70, 71, 72, 73, 74] (by decide +kernel) (by decide +kernel)
set_option maxRecDepth 20000 in
theorem gX8_memoryWord_X8_put : GoodIn wsX8_memoryWord (wsV RX8 98 RX8 yX8_put wsX8_put) := goodIn_app (goodIn_of _ (by decide +kernel)) ggX8_memoryWord_X8_put
set_option maxRecDepth 20000 in
theorem ggX8_memoryWord_X8_more : GoodIn wsX8_memoryWord wsX8_more := goodIn_r _ [25] (by decide +kernel) (by decide +kernel)
set_option maxRecDepth 20000 in
theorem gX8_memoryWord_X8_more : GoodIn wsX8_memoryWord (va_wsS RX8 87 yX8_more wsX8_more) := goodIn_app (goodIn_of _ (by decide +kernel)) ggX8_memoryWord_X8_more
set_option maxRecDepth 20000 in
theorem ggX8_memoryWord_X8_skip : GoodIn wsX8_memoryWord wsX8_skip := goodIn_r _ [29, 3, 23, 24, 10, 25, 40, 41, 42, 43, 44, 45, 46, 47, 48, 49, 50, 51, 52, 53, 54, 55, 56, 57, 58, 59, 60, 61, 62, 63, 64, 65, 66, 67, 68, 69, 70, 71, 72, 73, 74] (by decide +kernel) (by decide +kernel)
set_option maxRecDepth 20000 in
theorem gX8_memoryWord_X8_skip : GoodIn wsX8_memoryWord (wsV RX8 147 RX8 yX8_skip wsX8_skip) := goodIn_app (goodIn_of _ (by decide +kernel)) ggX8_memoryWord_X8_skip
set_option maxRecDepth 20000 in
theorem ggX8_memoryWord_X8_sum : GoodIn wsX8_memoryWord wsX8_sum := goodIn_r _ [33, 34, 5, 35, 36, 37, 10, 38, 39, 40, 41, 42, 43, 44, 45, 46, 47, 48, 49, 50, 51, 52, 53, 54, 55, 56, 57, 58, 59, 60, 61, 62, 63, 64, 65, 66, 67, 68, 69, 70, 71, 72, 73, 74] (by decide +kernel) (by decide +kernel)
set_option maxRecDepth 20000 in
theorem gX8_memoryWord_X8_sum : GoodIn wsX8_memoryWord (wsV RX8 151 RX8 yX8_sum wsX8_sum) := goodIn_app (goodIn_of _ (by decide +kernel)) ggX8_memoryWord_X8_sum
theorem dX8_memoryWord_0 : decode cX8_memoryWord 0 = .ok (.iload_n 1, 1) := by decide +kernel
theorem dX8_memoryWord_1 : decode cX8_memoryWord 1 = .ok (.sipush 1023, 3) := by decide +kernel
theorem dX8_memoryWord_4 : decode cX8_memoryWord 4 = .ok (.iand, 1) := by decide +kernel
theorem dX8_memoryWord_5 : decode cX8_memoryWord 5 = .ok (.istore_n 3, 1) := by decide +kernel
theorem dX8_memoryWord_6 : decode cX8_memoryWord 6 = .ok (.iload_n 1, 1) := by decide +kernel
theorem dX8_memoryWord_7 : decode cX8_memoryWord 7 = .ok (.bipush 10, 2) := by decide +kernel
theorem dX8_memoryWord_9 : decode cX8_memoryWord 9 = .ok (.ishr, 1) := by decide +kernel
theorem dX8_memoryWord_10 : decode cX8_memoryWord 10 = .ok (.iconst 1, 1) := by decide +kernel
theorem dX8_memoryWord_11 : decode cX8_memoryWord 11 = .ok (.iand, 1) := by decide +kernel
theorem dX8_memoryWord_12 : decode cX8_memoryWord 12 = .ok (.iconst 1, 1) := by decide +kernel
theorem dX8_memoryWord_13 : decode cX8_memoryWord 13 = .ok (.if_icmp .ne 7, 3) := by decide +kernel
theorem dX8_memoryWord_16 : decode cX8_memoryWord 16 = .ok (.iload_n 3, 1) := by decide +kernel
theorem dX8_memoryWord_17 : decode cX8_memoryWord 17 = .ok (.iload_n 2, 1) := by decide +kernel
theorem dX8_memoryWord_18 : decode cX8_memoryWord 18 = .ok (.ior, 1) := by decide +kernel
theorem dX8_memoryWord_19 : decode cX8_memoryWord 19 = .ok (.istore_n 3, 1) := by decide +kernel
theorem dX8_memoryWord_20 : decode cX8_memoryWord 20 = .ok (.iload_n 1, 1) := by decide +kernel
theorem dX8_memoryWord_21 : decode cX8_memoryWord 21 = .ok (.bipush 15, 2) := by decide +kernel
theorem dX8_memoryWord_23 : decode cX8_memoryWord 23 = .ok (.ishr, 1) := by decide +kernel
theorem dX8_memoryWord_24 : decode cX8_memoryWord 24 = .ok (.iconst 1, 1) := by decide +kernel
theorem dX8_memoryWord_25 : decode cX8_memoryWord 25 = .ok (.if_icmp .ne 7, 3) := by decide +kernel
theorem dX8_memoryWord_28 : decode cX8_memoryWord 28 = .ok (.iconst 1, 1) := by decide +kernel
theorem dX8_memoryWord_29 : decode cX8_memoryWord 29 = .ok (.goto 4, 3) := by decide +kernel
theorem dX8_memoryWord_32 : decode cX8_memoryWord 32 = .ok (.iconst 0, 1) := by decide +kernel
theorem dX8_memoryWord_33 : decode cX8_memoryWord 33 = .ok (.istore 4, 2) := by decide +kernel
theorem dX8_memoryWord_35 : decode cX8_memoryWord 35 = .ok (.iload 4, 2) := by decide +kernel
theorem dX8_memoryWord_37 : decode cX8_memoryWord 37 = .ok (.ifCond .eq 12, 3) := by decide +kernel
theorem dX8_memoryWord_40 : decode cX8_memoryWord 40 = .ok (.aload_n 0, 1) := by decide +kernel
theorem dX8_memoryWord_41 : decode cX8_memoryWord 41 = .ok (.iload_n 3, 1) := by decide +kernel
theorem dX8_memoryWord_42 : decode cX8_memoryWord 42 = .ok (.ldc 143, 2) := by decide +kernel
theorem dX8_memoryWord_44 : decode cX8_memoryWord 44 = .ok (.ior, 1) := by decide +kernel
theorem dX8_memoryWord_45 : decode cX8_memoryWord 45 = .ok (.invokevirtual 144, 3) := by decide +kernel
theorem dX8_memoryWord_48 : decode cX8_memoryWord 48 = .ok (.istore_n 3, 1) := by decide +kernel
theorem dX8_memoryWord_49 : decode cX8_memoryWord 49 = .ok (.iload_n 3, 1) := by decide +kernel
theorem dX8_memoryWord_50 : decode cX8_memoryWord 50 = .ok (.iconst (-1), 1) := by decide +kernel
theorem dX8_memoryWord_51 : decode cX8_memoryWord 51 = .ok (.if_icmp .ne 4, 3) := by decide +kernel
theorem dX8_memoryWord_54 : decode cX8_memoryWord 54 = .ok (.return_, 1) := by decide +kernel
theorem dX8_memoryWord_55 : decode cX8_memoryWord 55 = .ok (.iload_n 1, 1) := by decide +kernel
theorem dX8_memoryWord_56 : decode cX8_memoryWord 56 = .ok (.bipush 11, 2) := by decide +kernel
theorem dX8_memoryWord_58 : decode cX8_memoryWord 58 = .ok (.ishr, 1) := by decide +kernel
theorem dX8_memoryWord_59 : decode cX8_memoryWord 59 = .ok (.bipush 15, 2) := by decide +kernel
theorem dX8_memoryWord_61 : decode cX8_memoryWord 61 = .ok (.iand, 1) := by decide +kernel
theorem dX8_memoryWord_62 : decode cX8_memoryWord 62 = .ok (.istore 5, 2) := by decide +kernel
theorem dX8_memoryWord_64 : decode cX8_memoryWord 64 = .ok (.iload 5, 2) := by decide +kernel
theorem dX8_memoryWord_66 : decode cX8_memoryWord 66 = .ok (.tableswitch 317 2 14 #[66, 83, 109, 126, 140, 157, 193, 213, 233, 257, 281, 293, 305], 66) := by decide +kernel
theorem dX8_memoryWord_132 : decode cX8_memoryWord 132 = .ok (.aload_n 0, 1) := by decide +kernel
theorem dX8_memoryWord_133 : decode cX8_memoryWord 133 = .ok (.dup, 1) := by decide +kernel
theorem dX8_memoryWord_134 : decode cX8_memoryWord 134 = .ok (.getfield 78, 3) := by decide +kernel
theorem dX8_memoryWord_137 : decode cX8_memoryWord 137 = .ok (.aload_n 0, 1) := by decide +kernel
theorem dX8_memoryWord_138 : decode cX8_memoryWord 138 = .ok (.iload_n 3, 1) := by decide +kernel
theorem dX8_memoryWord_139 : decode cX8_memoryWord 139 = .ok (.invokevirtual 95, 3) := by decide +kernel
theorem dX8_memoryWord_142 : decode cX8_memoryWord 142 = .ok (.iand, 1) := by decide +kernel
theorem dX8_memoryWord_143 : decode cX8_memoryWord 143 = .ok (.putfield 78, 3) := by decide +kernel
theorem dX8_memoryWord_146 : decode cX8_memoryWord 146 = .ok (.goto 246, 3) := by decide +kernel
theorem dX8_memoryWord_149 : decode cX8_memoryWord 149 = .ok (.aload_n 0, 1) := by decide +kernel
theorem dX8_memoryWord_150 : decode cX8_memoryWord 150 = .ok (.iload_n 3, 1) := by decide +kernel
theorem dX8_memoryWord_151 : decode cX8_memoryWord 151 = .ok (.aload_n 0, 1) := by decide +kernel
theorem dX8_memoryWord_152 : decode cX8_memoryWord 152 = .ok (.getfield 84, 3) := by decide +kernel
theorem dX8_memoryWord_155 : decode cX8_memoryWord 155 = .ok (.invokevirtual 98, 3) := by decide +kernel
theorem dX8_memoryWord_158 : decode cX8_memoryWord 158 = .ok (.aload_n 0, 1) := by decide +kernel
theorem dX8_memoryWord_159 : decode cX8_memoryWord 159 = .ok (.iload_n 3, 1) := by decide +kernel
theorem dX8_memoryWord_160 : decode cX8_memoryWord 160 = .ok (.invokestatic 87, 3) := by decide +kernel
theorem dX8_memoryWord_163 : decode cX8_memoryWord 163 = .ok (.putfield 84, 3) := by decide +kernel
theorem dX8_memoryWord_166 : decode cX8_memoryWord 166 = .ok (.aload_n 0, 1) := by decide +kernel
theorem dX8_memoryWord_167 : decode cX8_memoryWord 167 = .ok (.iload 4, 2) := by decide +kernel
theorem dX8_memoryWord_169 : decode cX8_memoryWord 169 = .ok (.putfield 122, 3) := by decide +kernel
theorem dX8_memoryWord_172 : decode cX8_memoryWord 172 = .ok (.goto 220, 3) := by decide +kernel
theorem dX8_memoryWord_175 : decode cX8_memoryWord 175 = .ok (.aload_n 0, 1) := by decide +kernel
theorem dX8_memoryWord_176 : decode cX8_memoryWord 176 = .ok (.dup, 1) := by decide +kernel
theorem dX8_memoryWord_177 : decode cX8_memoryWord 177 = .ok (.getfield 78, 3) := by decide +kernel
theorem dX8_memoryWord_180 : decode cX8_memoryWord 180 = .ok (.aload_n 0, 1) := by decide +kernel
theorem dX8_memoryWord_181 : decode cX8_memoryWord 181 = .ok (.iload_n 3, 1) := by decide +kernel
theorem dX8_memoryWord_182 : decode cX8_memoryWord 182 = .ok (.invokevirtual 95, 3) := by decide +kernel
theorem dX8_memoryWord_185 : decode cX8_memoryWord 185 = .ok (.ixor, 1) := by decide +kernel
theorem dX8_memoryWord_186 : decode cX8_memoryWord 186 = .ok (.putfield 78, 3) := by decide +kernel
theorem dX8_memoryWord_189 : decode cX8_memoryWord 189 = .ok (.goto 203, 3) := by decide +kernel
theorem dX8_memoryWord_192 : decode cX8_memoryWord 192 = .ok (.aload_n 0, 1) := by decide +kernel
theorem dX8_memoryWord_193 : decode cX8_memoryWord 193 = .ok (.iload_n 3, 1) := by decide +kernel
theorem dX8_memoryWord_194 : decode cX8_memoryWord 194 = .ok (.putfield 84, 3) := by decide +kernel
theorem dX8_memoryWord_197 : decode cX8_memoryWord 197 = .ok (.aload_n 0, 1) := by decide +kernel
theorem dX8_memoryWord_198 : decode cX8_memoryWord 198 = .ok (.iload 4, 2) := by decide +kernel
theorem dX8_memoryWord_200 : decode cX8_memoryWord 200 = .ok (.putfield 122, 3) := by decide +kernel
theorem dX8_memoryWord_203 : decode cX8_memoryWord 203 = .ok (.goto 189, 3) := by decide +kernel
theorem dX8_memoryWord_206 : decode cX8_memoryWord 206 = .ok (.aload_n 0, 1) := by decide +kernel
theorem dX8_memoryWord_207 : decode cX8_memoryWord 207 = .ok (.dup, 1) := by decide +kernel
theorem dX8_memoryWord_208 : decode cX8_memoryWord 208 = .ok (.getfield 78, 3) := by decide +kernel
theorem dX8_memoryWord_211 : decode cX8_memoryWord 211 = .ok (.aload_n 0, 1) := by decide +kernel
theorem dX8_memoryWord_212 : decode cX8_memoryWord 212 = .ok (.iload_n 3, 1) := by decide +kernel
theorem dX8_memoryWord_213 : decode cX8_memoryWord 213 = .ok (.invokevirtual 95, 3) := by decide +kernel
theorem dX8_memoryWord_216 : decode cX8_memoryWord 216 = .ok (.ior, 1) := by decide +kernel
theorem dX8_memoryWord_217 : decode cX8_memoryWord 217 = .ok (.putfield 78, 3) := by decide +kernel
theorem dX8_memoryWord_220 : decode cX8_memoryWord 220 = .ok (.goto 172, 3) := by decide +kernel
theorem dX8_memoryWord_223 : decode cX8_memoryWord 223 = .ok (.aload_n 0, 1) := by decide +kernel
theorem dX8_memoryWord_224 : decode cX8_memoryWord 224 = .ok (.iload_n 3, 1) := by decide +kernel
theorem dX8_memoryWord_225 : decode cX8_memoryWord 225 = .ok (.invokevirtual 95, 3) := by decide +kernel
theorem dX8_memoryWord_228 : decode cX8_memoryWord 228 = .ok (.iconst 1, 1) := by decide +kernel
theorem dX8_memoryWord_229 : decode cX8_memoryWord 229 = .ok (.iadd, 1) := by decide +kernel
theorem dX8_memoryWord_230 : decode cX8_memoryWord 230 = .ok (.ldc 102, 2) := by decide +kernel
theorem dX8_memoryWord_232 : decode cX8_memoryWord 232 = .ok (.iand, 1) := by decide +kernel
theorem dX8_memoryWord_233 : decode cX8_memoryWord 233 = .ok (.istore 6, 2) := by decide +kernel
theorem dX8_memoryWord_235 : decode cX8_memoryWord 235 = .ok (.aload_n 0, 1) := by decide +kernel
theorem dX8_memoryWord_236 : decode cX8_memoryWord 236 = .ok (.iload_n 3, 1) := by decide +kernel
theorem dX8_memoryWord_237 : decode cX8_memoryWord 237 = .ok (.iload 6, 2) := by decide +kernel
theorem dX8_memoryWord_239 : decode cX8_memoryWord 239 = .ok (.invokevirtual 98, 3) := by decide +kernel
theorem dX8_memoryWord_242 : decode cX8_memoryWord 242 = .ok (.aload_n 0, 1) := by decide +kernel
theorem dX8_memoryWord_243 : decode cX8_memoryWord 243 = .ok (.iload 6, 2) := by decide +kernel
theorem dX8_memoryWord_245 : decode cX8_memoryWord 245 = .ok (.ifCond .ne 7, 3) := by decide +kernel
theorem dX8_memoryWord_248 : decode cX8_memoryWord 248 = .ok (.iconst 1, 1) := by decide +kernel
theorem dX8_memoryWord_249 : decode cX8_memoryWord 249 = .ok (.goto 4, 3) := by decide +kernel
theorem dX8_memoryWord_252 : decode cX8_memoryWord 252 = .ok (.iconst 0, 1) := by decide +kernel
theorem dX8_memoryWord_253 : decode cX8_memoryWord 253 = .ok (.invokevirtual 147, 3) := by decide +kernel
theorem dX8_memoryWord_256 : decode cX8_memoryWord 256 = .ok (.goto 136, 3) := by decide +kernel
theorem dX8_memoryWord_259 : decode cX8_memoryWord 259 = .ok (.aload_n 0, 1) := by decide +kernel
theorem dX8_memoryWord_260 : decode cX8_memoryWord 260 = .ok (.aload_n 0, 1) := by decide +kernel
theorem dX8_memoryWord_261 : decode cX8_memoryWord 261 = .ok (.aload_n 0, 1) := by decide +kernel
theorem dX8_memoryWord_262 : decode cX8_memoryWord 262 = .ok (.getfield 78, 3) := by decide +kernel
theorem dX8_memoryWord_265 : decode cX8_memoryWord 265 = .ok (.aload_n 0, 1) := by decide +kernel
theorem dX8_memoryWord_266 : decode cX8_memoryWord 266 = .ok (.iload_n 3, 1) := by decide +kernel
theorem dX8_memoryWord_267 : decode cX8_memoryWord 267 = .ok (.invokevirtual 95, 3) := by decide +kernel
theorem dX8_memoryWord_270 : decode cX8_memoryWord 270 = .ok (.invokevirtual 151, 3) := by decide +kernel
theorem dX8_memoryWord_273 : decode cX8_memoryWord 273 = .ok (.putfield 78, 3) := by decide +kernel
theorem dX8_memoryWord_276 : decode cX8_memoryWord 276 = .ok (.goto 116, 3) := by decide +kernel
theorem dX8_memoryWord_279 : decode cX8_memoryWord 279 = .ok (.aload_n 0, 1) := by decide +kernel
theorem dX8_memoryWord_280 : decode cX8_memoryWord 280 = .ok (.aload_n 0, 1) := by decide +kernel
theorem dX8_memoryWord_281 : decode cX8_memoryWord 281 = .ok (.aload_n 0, 1) := by decide +kernel
theorem dX8_memoryWord_282 : decode cX8_memoryWord 282 = .ok (.getfield 81, 3) := by decide +kernel
theorem dX8_memoryWord_285 : decode cX8_memoryWord 285 = .ok (.aload_n 0, 1) := by decide +kernel
theorem dX8_memoryWord_286 : decode cX8_memoryWord 286 = .ok (.iload_n 3, 1) := by decide +kernel
theorem dX8_memoryWord_287 : decode cX8_memoryWord 287 = .ok (.invokevirtual 95, 3) := by decide +kernel
theorem dX8_memoryWord_290 : decode cX8_memoryWord 290 = .ok (.invokevirtual 151, 3) := by decide +kernel
theorem dX8_memoryWord_293 : decode cX8_memoryWord 293 = .ok (.putfield 81, 3) := by decide +kernel
theorem dX8_memoryWord_296 : decode cX8_memoryWord 296 = .ok (.goto 96, 3) := by decide +kernel
theorem dX8_memoryWord_299 : decode cX8_memoryWord 299 = .ok (.aload_n 0, 1) := by decide +kernel
theorem dX8_memoryWord_300 : decode cX8_memoryWord 300 = .ok (.aload_n 0, 1) := by decide +kernel
theorem dX8_memoryWord_301 : decode cX8_memoryWord 301 = .ok (.getfield 78, 3) := by decide +kernel
theorem dX8_memoryWord_304 : decode cX8_memoryWord 304 = .ok (.aload_n 0, 1) := by decide +kernel
theorem dX8_memoryWord_305 : decode cX8_memoryWord 305 = .ok (.iload_n 3, 1) := by decide +kernel
theorem dX8_memoryWord_306 : decode cX8_memoryWord 306 = .ok (.invokevirtual 95, 3) := by decide +kernel
theorem dX8_memoryWord_309 : decode cX8_memoryWord 309 = .ok (.if_icmp .eq 7, 3) := by decide +kernel
theorem dX8_memoryWord_312 : decode cX8_memoryWord 312 = .ok (.iconst 1, 1) := by decide +kernel
theorem dX8_memoryWord_313 : decode cX8_memoryWord 313 = .ok (.goto 4, 3) := by decide +kernel
theorem dX8_memoryWord_316 : decode cX8_memoryWord 316 = .ok (.iconst 0, 1) := by decide +kernel
theorem dX8_memoryWord_317 : decode cX8_memoryWord 317 = .ok (.invokevirtual 147, 3) := by decide +kernel
theorem dX8_memoryWord_320 : decode cX8_memoryWord 320 = .ok (.goto 72, 3) := by decide +kernel
theorem dX8_memoryWord_323 : decode cX8_memoryWord 323 = .ok (.aload_n 0, 1) := by decide +kernel
theorem dX8_memoryWord_324 : decode cX8_memoryWord 324 = .ok (.aload_n 0, 1) := by decide +kernel
theorem dX8_memoryWord_325 : decode cX8_memoryWord 325 = .ok (.getfield 81, 3) := by decide +kernel
theorem dX8_memoryWord_328 : decode cX8_memoryWord 328 = .ok (.aload_n 0, 1) := by decide +kernel
theorem dX8_memoryWord_329 : decode cX8_memoryWord 329 = .ok (.iload_n 3, 1) := by decide +kernel
theorem dX8_memoryWord_330 : decode cX8_memoryWord 330 = .ok (.invokevirtual 95, 3) := by decide +kernel
theorem dX8_memoryWord_333 : decode cX8_memoryWord 333 = .ok (.if_icmp .eq 7, 3) := by decide +kernel
theorem dX8_memoryWord_336 : decode cX8_memoryWord 336 = .ok (.iconst 1, 1) := by decide +kernel
theorem dX8_memoryWord_337 : decode cX8_memoryWord 337 = .ok (.goto 4, 3) := by decide +kernel
theorem dX8_memoryWord_340 : decode cX8_memoryWord 340 = .ok (.iconst 0, 1) := by decide +kernel
theorem dX8_memoryWord_341 : decode cX8_memoryWord 341 = .ok (.invokevirtual 147, 3) := by decide +kernel
theorem dX8_memoryWord_344 : decode cX8_memoryWord 344 = .ok (.goto 48, 3) := by decide +kernel
theorem dX8_memoryWord_347 : decode cX8_memoryWord 347 = .ok (.aload_n 0, 1) := by decide +kernel
theorem dX8_memoryWord_348 : decode cX8_memoryWord 348 = .ok (.aload_n 0, 1) := by decide +kernel
theorem dX8_memoryWord_349 : decode cX8_memoryWord 349 = .ok (.iload_n 3, 1) := by decide +kernel
theorem dX8_memoryWord_350 : decode cX8_memoryWord 350 = .ok (.invokevirtual 95, 3) := by decide +kernel
theorem dX8_memoryWord_353 : decode cX8_memoryWord 353 = .ok (.putfield 78, 3) := by decide +kernel
theorem dX8_memoryWord_356 : decode cX8_memoryWord 356 = .ok (.goto 36, 3) := by decide +kernel
theorem dX8_memoryWord_359 : decode cX8_memoryWord 359 = .ok (.aload_n 0, 1) := by decide +kernel
theorem dX8_memoryWord_360 : decode cX8_memoryWord 360 = .ok (.aload_n 0, 1) := by decide +kernel
theorem dX8_memoryWord_361 : decode cX8_memoryWord 361 = .ok (.iload_n 3, 1) := by decide +kernel
theorem dX8_memoryWord_362 : decode cX8_memoryWord 362 = .ok (.invokevirtual 95, 3) := by decide +kernel
theorem dX8_memoryWord_365 : decode cX8_memoryWord 365 = .ok (.putfield 81, 3) := by decide +kernel
theorem dX8_memoryWord_368 : decode cX8_memoryWord 368 = .ok (.goto 24, 3) := by decide +kernel
theorem dX8_memoryWord_371 : decode cX8_memoryWord 371 = .ok (.aload_n 0, 1) := by decide +kernel
theorem dX8_memoryWord_372 : decode cX8_memoryWord 372 = .ok (.iload_n 3, 1) := by decide +kernel
theorem dX8_memoryWord_373 : decode cX8_memoryWord 373 = .ok (.aload_n 0, 1) := by decide +kernel
theorem dX8_memoryWord_374 : decode cX8_memoryWord 374 = .ok (.getfield 78, 3) := by decide +kernel
theorem dX8_memoryWord_377 : decode cX8_memoryWord 377 = .ok (.invokevirtual 98, 3) := by decide +kernel
theorem dX8_memoryWord_380 : decode cX8_memoryWord 380 = .ok (.goto 12, 3) := by decide +kernel
theorem dX8_memoryWord_383 : decode cX8_memoryWord 383 = .ok (.aload_n 0, 1) := by decide +kernel
theorem dX8_memoryWord_384 : decode cX8_memoryWord 384 = .ok (.iload_n 3, 1) := by decide +kernel
theorem dX8_memoryWord_385 : decode cX8_memoryWord 385 = .ok (.aload_n 0, 1) := by decide +kernel
theorem dX8_memoryWord_386 : decode cX8_memoryWord 386 = .ok (.getfield 81, 3) := by decide +kernel
theorem dX8_memoryWord_389 : decode cX8_memoryWord 389 = .ok (.invokevirtual 98, 3) := by decide +kernel
theorem dX8_memoryWord_392 : decode cX8_memoryWord 392 = .ok (.return_, 1) := by decide +kernel
theorem dX8_signed_0 : decode cX8_signed 0 = .ok (.iload_n 0, 1) := by decide +kernel
theorem dX8_signed_1 : decode cX8_signed 1 = .ok (.sipush 32767, 3) := by decide +kernel
theorem dX8_signed_4 : decode cX8_signed 4 = .ok (.if_icmp .le 10, 3) := by decide +kernel
theorem dX8_signed_7 : decode cX8_signed 7 = .ok (.iload_n 0, 1) := by decide +kernel
theorem dX8_signed_8 : decode cX8_signed 8 = .ok (.ldc 155, 2) := by decide +kernel
theorem dX8_signed_10 : decode cX8_signed 10 = .ok (.isub, 1) := by decide +kernel
theorem dX8_signed_11 : decode cX8_signed 11 = .ok (.goto 4, 3) := by decide +kernel
theorem dX8_signed_14 : decode cX8_signed 14 = .ok (.iload_n 0, 1) := by decide +kernel
theorem dX8_signed_15 : decode cX8_signed 15 = .ok (.ireturn, 1) := by decide +kernel
set_option maxRecDepth 20000 in
theorem ggX8_sum_X8_signed : GoodIn wsX8_sum wsX8_signed := goodIn_r _ [7, 8] (by decide +kernel) (by decide +kernel)
set_option maxRecDepth 20000 in
theorem gX8_sum_X8_signed : GoodIn wsX8_sum (va_wsS RX8 156 yX8_signed wsX8_signed) := goodIn_app (goodIn_of _ (by decide +kernel)) ggX8_sum_X8_signed
theorem dX8_sum_0 : decode cX8_sum 0 = .ok (.iload_n 1, 1) := by decide +kernel
theorem dX8_sum_1 : decode cX8_sum 1 = .ok (.invokestatic 156, 3) := by decide +kernel
theorem dX8_sum_4 : decode cX8_sum 4 = .ok (.iload_n 2, 1) := by decide +kernel
theorem dX8_sum_5 : decode cX8_sum 5 = .ok (.invokestatic 156, 3) := by decide +kernel
theorem dX8_sum_8 : decode cX8_sum 8 = .ok (.iadd, 1) := by decide +kernel
theorem dX8_sum_9 : decode cX8_sum 9 = .ok (.istore_n 3, 1) := by decide +kernel
theorem dX8_sum_10 : decode cX8_sum 10 = .ok (.iload_n 3, 1) := by decide +kernel
theorem dX8_sum_11 : decode cX8_sum 11 = .ok (.sipush (-32768), 3) := by decide +kernel
theorem dX8_sum_14 : decode cX8_sum 14 = .ok (.if_icmp .lt 10, 3) := by decide +kernel
theorem dX8_sum_17 : decode cX8_sum 17 = .ok (.iload_n 3, 1) := by decide +kernel
theorem dX8_sum_18 : decode cX8_sum 18 = .ok (.sipush 32767, 3) := by decide +kernel
theorem dX8_sum_21 : decode cX8_sum 21 = .ok (.if_icmp .le 8, 3) := by decide +kernel
theorem dX8_sum_24 : decode cX8_sum 24 = .ok (.aload_n 0, 1) := by decide +kernel
theorem dX8_sum_25 : decode cX8_sum 25 = .ok (.iconst 1, 1) := by decide +kernel
