theorem dX5_shifted_85 : decode cX5_shifted 85 = .ok (.ior, 1) := by decide +kernel
theorem dX5_shifted_86 : decode cX5_shifted 86 = .ok (.ldc 97, 2) := by decide +kernel
theorem dX5_shifted_88 : decode cX5_shifted 88 = .ok (.iand, 1) := by decide +kernel
theorem dX5_shifted_89 : decode cX5_shifted 89 = .ok (.ireturn, 1) := by decide +kernel
theorem dX5_shifted_90 : decode cX5_shifted 90 = .ok (.iload_n 1, 1) := by decide +kernel
theorem dX5_shifted_91 : decode cX5_shifted 91 = .ok (.iconst 1, 1) := by decide +kernel
theorem dX5_shifted_92 : decode cX5_shifted 92 = .ok (.ishl, 1) := by decide +kernel
theorem dX5_shifted_93 : decode cX5_shifted 93 = .ok (.sipush 32767, 3) := by decide +kernel
theorem dX5_shifted_96 : decode cX5_shifted 96 = .ok (.iand, 1) := by decide +kernel
theorem dX5_shifted_97 : decode cX5_shifted 97 = .ok (.ireturn, 1) := by decide +kernel
theorem dX5_shifted_98 : decode cX5_shifted 98 = .ok (.aload_n 0, 1) := by decide +kernel
theorem dX5_shifted_99 : decode cX5_shifted 99 = .ok (.iload_n 1, 1) := by decide +kernel
theorem dX5_shifted_100 : decode cX5_shifted 100 = .ok (.iconst 1, 1) := by decide +kernel
theorem dX5_shifted_101 : decode cX5_shifted 101 = .ok (.iand, 1) := by decide +kernel
theorem dX5_shifted_102 : decode cX5_shifted 102 = .ok (.iload_n 1, 1) := by decide +kernel
theorem dX5_shifted_103 : decode cX5_shifted 103 = .ok (.iconst 1, 1) := by decide +kernel
theorem dX5_shifted_104 : decode cX5_shifted 104 = .ok (.ishr, 1) := by decide +kernel
theorem dX5_shifted_105 : decode cX5_shifted 105 = .ok (.aload_n 0, 1) := by decide +kernel
theorem dX5_shifted_106 : decode cX5_shifted 106 = .ok (.getfield 15, 3) := by decide +kernel
theorem dX5_shifted_109 : decode cX5_shifted 109 = .ok (.getfield 98, 3) := by decide +kernel
theorem dX5_shifted_112 : decode cX5_shifted 112 = .ok (.bipush 15, 2) := by decide +kernel
theorem dX5_shifted_114 : decode cX5_shifted 114 = .ok (.ishl, 1) := by decide +kernel
theorem dX5_shifted_115 : decode cX5_shifted 115 = .ok (.ior, 1) := by decide +kernel
theorem dX5_shifted_116 : decode cX5_shifted 116 = .ok (.invokevirtual 108, 3) := by decide +kernel
theorem dX5_shifted_119 : decode cX5_shifted 119 = .ok (.ireturn, 1) := by decide +kernel
theorem dX5_shifted_120 : decode cX5_shifted 120 = .ok (.aload_n 0, 1) := by decide +kernel
theorem dX5_shifted_121 : decode cX5_shifted 121 = .ok (.iload_n 1, 1) := by decide +kernel
theorem dX5_shifted_122 : decode cX5_shifted 122 = .ok (.bipush 15, 2) := by decide +kernel
theorem dX5_shifted_124 : decode cX5_shifted 124 = .ok (.ishr, 1) := by decide +kernel
theorem dX5_shifted_125 : decode cX5_shifted 125 = .ok (.iload_n 1, 1) := by decide +kernel
theorem dX5_shifted_126 : decode cX5_shifted 126 = .ok (.iconst 1, 1) := by decide +kernel
theorem dX5_shifted_127 : decode cX5_shifted 127 = .ok (.ishl, 1) := by decide +kernel
theorem dX5_shifted_128 : decode cX5_shifted 128 = .ok (.ldc 97, 2) := by decide +kernel
theorem dX5_shifted_130 : decode cX5_shifted 130 = .ok (.iand, 1) := by decide +kernel
theorem dX5_shifted_131 : decode cX5_shifted 131 = .ok (.aload_n 0, 1) := by decide +kernel
theorem dX5_shifted_132 : decode cX5_shifted 132 = .ok (.getfield 15, 3) := by decide +kernel
theorem dX5_shifted_135 : decode cX5_shifted 135 = .ok (.getfield 98, 3) := by decide +kernel
theorem dX5_shifted_138 : decode cX5_shifted 138 = .ok (.ior, 1) := by decide +kernel
theorem dX5_shifted_139 : decode cX5_shifted 139 = .ok (.invokevirtual 108, 3) := by decide +kernel
theorem dX5_shifted_142 : decode cX5_shifted 142 = .ok (.ireturn, 1) := by decide +kernel
theorem dX5_shifted_143 : decode cX5_shifted 143 = .ok (.iload_n 1, 1) := by decide +kernel
theorem dX5_shifted_144 : decode cX5_shifted 144 = .ok (.iconst 4, 1) := by decide +kernel
theorem dX5_shifted_145 : decode cX5_shifted 145 = .ok (.ishl, 1) := by decide +kernel
theorem dX5_shifted_146 : decode cX5_shifted 146 = .ok (.iload_n 1, 1) := by decide +kernel
theorem dX5_shifted_147 : decode cX5_shifted 147 = .ok (.bipush 12, 2) := by decide +kernel
theorem dX5_shifted_149 : decode cX5_shifted 149 = .ok (.ishr, 1) := by decide +kernel
theorem dX5_shifted_150 : decode cX5_shifted 150 = .ok (.ior, 1) := by decide +kernel
theorem dX5_shifted_151 : decode cX5_shifted 151 = .ok (.ldc 97, 2) := by decide +kernel
theorem dX5_shifted_153 : decode cX5_shifted 153 = .ok (.iand, 1) := by decide +kernel
theorem dX5_shifted_154 : decode cX5_shifted 154 = .ok (.ireturn, 1) := by decide +kernel
theorem dX5_throughE_0 : decode cX5_throughE 0 = .ok (.aload_n 0, 1) := by decide +kernel
theorem dX5_throughE_1 : decode cX5_throughE 1 = .ok (.getfield 15, 3) := by decide +kernel
theorem dX5_throughE_4 : decode cX5_throughE 4 = .ok (.iload_n 1, 1) := by decide +kernel
theorem dX5_throughE_5 : decode cX5_throughE 5 = .ok (.putfield 98, 3) := by decide +kernel
theorem dX5_throughE_8 : decode cX5_throughE 8 = .ok (.iload_n 2, 1) := by decide +kernel
theorem dX5_throughE_9 : decode cX5_throughE 9 = .ok (.ireturn, 1) := by decide +kernel
set_option maxRecDepth 20000 in
theorem ggX5_alterAndSkip_X5_registerOf : GoodIn wsX5_alterAndSkip wsX5_registerOf := goodIn_r _ [7] (by decide +kernel) (by decide +kernel)
set_option maxRecDepth 20000 in
theorem gX5_alterAndSkip_X5_registerOf : GoodIn wsX5_alterAndSkip (va_wsS RX5 73 yX5_registerOf wsX5_registerOf) := goodIn_app (goodIn_of _ (by decide +kernel)) ggX5_alterAndSkip_X5_registerOf
set_option maxRecDepth 20000 in
theorem ggX5_alterAndSkip_X4_read : GoodIn wsX5_alterAndSkip wsX4_read := goodIn_r _ [12, 13, 49] (by decide +kernel) (by decide +kernel)
set_option maxRecDepth 20000 in
theorem gX5_alterAndSkip_X4_read : GoodIn wsX5_alterAndSkip (wsV RX5 29 RX4 yX4_read wsX4_read) := goodIn_app (goodIn_of _ (by decide +kernel)) ggX5_alterAndSkip_X4_read
set_option maxRecDepth 20000 in
theorem ggX5_alterAndSkip_X5_altered : GoodIn wsX5_alterAndSkip wsX5_altered := goodIn_r _ [16, 17] (by decide +kernel) (by decide +kernel)
set_option maxRecDepth 20000 in
theorem gX5_alterAndSkip_X5_altered : GoodIn wsX5_alterAndSkip (va_wsS RX5 111 yX5_altered wsX5_altered) := goodIn_app (goodIn_of _ (by decide +kernel)) ggX5_alterAndSkip_X5_altered
set_option maxRecDepth 20000 in
theorem ggX5_alterAndSkip_X5_alteredE : GoodIn wsX5_alterAndSkip wsX5_alteredE := goodIn_r _ [20] (by decide +kernel) (by decide +kernel)
set_option maxRecDepth 20000 in
theorem gX5_alterAndSkip_X5_alteredE : GoodIn wsX5_alterAndSkip (va_wsS RX5 114 yX5_alteredE wsX5_alteredE) := goodIn_app (goodIn_of _ (by decide +kernel)) ggX5_alterAndSkip_X5_alteredE
set_option maxRecDepth 20000 in
theorem ggX5_alterAndSkip_X5_incremented : GoodIn wsX5_alterAndSkip wsX5_incremented := goodIn_r _ [24, 17, 2, 40, 41, 42, 43, 44, 45, 46, 47, 48] (by decide +kernel) (by decide +kernel)
set_option maxRecDepth 20000 in
theorem gX5_alterAndSkip_X5_incremented : GoodIn wsX5_alterAndSkip (wsV RX5 117 RX5 yX5_incremented wsX5_incremented) := goodIn_app (goodIn_of _ (by decide +kernel)) ggX5_alterAndSkip_X5_incremented
set_option maxRecDepth 20000 in
theorem ggX5_alterAndSkip_X4_write : GoodIn wsX5_alterAndSkip wsX4_write := goodIn_r _ [28, 13, 29, 49] (by decide +kernel) (by decide +kernel)
set_option maxRecDepth 20000 in
theorem gX5_alterAndSkip_X4_write : GoodIn wsX5_alterAndSkip (wsV RX5 76 RX4 yX4_write wsX4_write) := goodIn_app (goodIn_of _ (by decide +kernel)) ggX5_alterAndSkip_X4_write
set_option maxRecDepth 20000 in
theorem ggX5_alterAndSkip_X5_skipIf : GoodIn wsX5_alterAndSkip wsX5_skipIf := goodIn_r _ [33, 2, 34, 35, 36, 37, 38, 39, 40, 41, 42, 43, 44, 45, 46, 47, 48] (by decide +kernel) (by decide +kernel)
set_option maxRecDepth 20000 in
theorem gX5_alterAndSkip_X5_skipIf : GoodIn wsX5_alterAndSkip (wsV RX5 89 RX5 yX5_skipIf wsX5_skipIf) := goodIn_app (goodIn_of _ (by decide +kernel)) ggX5_alterAndSkip_X5_skipIf
theorem dX5_alterAndSkip_0 : decode cX5_alterAndSkip 0 = .ok (.iload_n 1, 1) := by decide +kernel
theorem dX5_alterAndSkip_1 : decode cX5_alterAndSkip 1 = .ok (.invokestatic 73, 3) := by decide +kernel
theorem dX5_alterAndSkip_4 : decode cX5_alterAndSkip 4 = .ok (.istore_n 2, 1) := by decide +kernel
theorem dX5_alterAndSkip_5 : decode cX5_alterAndSkip 5 = .ok (.aload_n 0, 1) := by decide +kernel
theorem dX5_alterAndSkip_6 : decode cX5_alterAndSkip 6 = .ok (.getfield 9, 3) := by decide +kernel
theorem dX5_alterAndSkip_9 : decode cX5_alterAndSkip 9 = .ok (.iload_n 2, 1) := by decide +kernel
theorem dX5_alterAndSkip_10 : decode cX5_alterAndSkip 10 = .ok (.invokevirtual 29, 3) := by decide +kernel
theorem dX5_alterAndSkip_13 : decode cX5_alterAndSkip 13 = .ok (.iload_n 1, 1) := by decide +kernel
theorem dX5_alterAndSkip_14 : decode cX5_alterAndSkip 14 = .ok (.bipush 8, 2) := by decide +kernel
theorem dX5_alterAndSkip_16 : decode cX5_alterAndSkip 16 = .ok (.ishr, 1) := by decide +kernel
theorem dX5_alterAndSkip_17 : decode cX5_alterAndSkip 17 = .ok (.iconst 3, 1) := by decide +kernel
theorem dX5_alterAndSkip_18 : decode cX5_alterAndSkip 18 = .ok (.iand, 1) := by decide +kernel
theorem dX5_alterAndSkip_19 : decode cX5_alterAndSkip 19 = .ok (.invokestatic 111, 3) := by decide +kernel
theorem dX5_alterAndSkip_22 : decode cX5_alterAndSkip 22 = .ok (.istore_n 3, 1) := by decide +kernel
theorem dX5_alterAndSkip_23 : decode cX5_alterAndSkip 23 = .ok (.iload_n 1, 1) := by decide +kernel
theorem dX5_alterAndSkip_24 : decode cX5_alterAndSkip 24 = .ok (.bipush 32, 2) := by decide +kernel
theorem dX5_alterAndSkip_26 : decode cX5_alterAndSkip 26 = .ok (.iand, 1) := by decide +kernel
theorem dX5_alterAndSkip_27 : decode cX5_alterAndSkip 27 = .ok (.ifCond .eq 7, 3) := by decide +kernel
theorem dX5_alterAndSkip_30 : decode cX5_alterAndSkip 30 = .ok (.iconst 1, 1) := by decide +kernel
theorem dX5_alterAndSkip_31 : decode cX5_alterAndSkip 31 = .ok (.goto 4, 3) := by decide +kernel
theorem dX5_alterAndSkip_34 : decode cX5_alterAndSkip 34 = .ok (.iconst 0, 1) := by decide +kernel
theorem dX5_alterAndSkip_35 : decode cX5_alterAndSkip 35 = .ok (.istore 4, 2) := by decide +kernel
theorem dX5_alterAndSkip_37 : decode cX5_alterAndSkip 37 = .ok (.iload_n 1, 1) := by decide +kernel
theorem dX5_alterAndSkip_38 : decode cX5_alterAndSkip 38 = .ok (.bipush 16, 2) := by decide +kernel
theorem dX5_alterAndSkip_40 : decode cX5_alterAndSkip 40 = .ok (.iand, 1) := by decide +kernel
theorem dX5_alterAndSkip_41 : decode cX5_alterAndSkip 41 = .ok (.ifCond .eq 7, 3) := by decide +kernel
theorem dX5_alterAndSkip_44 : decode cX5_alterAndSkip 44 = .ok (.iconst 1, 1) := by decide +kernel
theorem dX5_alterAndSkip_45 : decode cX5_alterAndSkip 45 = .ok (.goto 4, 3) := by decide +kernel
theorem dX5_alterAndSkip_48 : decode cX5_alterAndSkip 48 = .ok (.iconst 0, 1) := by decide +kernel
theorem dX5_alterAndSkip_49 : decode cX5_alterAndSkip 49 = .ok (.istore 5, 2) := by decide +kernel
theorem dX5_alterAndSkip_51 : decode cX5_alterAndSkip 51 = .ok (.iload_n 1, 1) := by decide +kernel
theorem dX5_alterAndSkip_52 : decode cX5_alterAndSkip 52 = .ok (.bipush 8, 2) := by decide +kernel
theorem dX5_alterAndSkip_54 : decode cX5_alterAndSkip 54 = .ok (.iand, 1) := by decide +kernel
theorem dX5_alterAndSkip_55 : decode cX5_alterAndSkip 55 = .ok (.ifCond .eq 7, 3) := by decide +kernel
theorem dX5_alterAndSkip_58 : decode cX5_alterAndSkip 58 = .ok (.iconst 1, 1) := by decide +kernel
theorem dX5_alterAndSkip_59 : decode cX5_alterAndSkip 59 = .ok (.goto 4, 3) := by decide +kernel
theorem dX5_alterAndSkip_62 : decode cX5_alterAndSkip 62 = .ok (.iconst 0, 1) := by decide +kernel
theorem dX5_alterAndSkip_63 : decode cX5_alterAndSkip 63 = .ok (.istore 6, 2) := by decide +kernel
theorem dX5_alterAndSkip_65 : decode cX5_alterAndSkip 65 = .ok (.iload_n 1, 1) := by decide +kernel
theorem dX5_alterAndSkip_66 : decode cX5_alterAndSkip 66 = .ok (.iconst 2, 1) := by decide +kernel
theorem dX5_alterAndSkip_67 : decode cX5_alterAndSkip 67 = .ok (.iand, 1) := by decide +kernel
theorem dX5_alterAndSkip_68 : decode cX5_alterAndSkip 68 = .ok (.ifCond .eq 7, 3) := by decide +kernel
theorem dX5_alterAndSkip_71 : decode cX5_alterAndSkip 71 = .ok (.iconst 1, 1) := by decide +kernel
theorem dX5_alterAndSkip_72 : decode cX5_alterAndSkip 72 = .ok (.goto 4, 3) := by decide +kernel
theorem dX5_alterAndSkip_75 : decode cX5_alterAndSkip 75 = .ok (.iconst 0, 1) := by decide +kernel
theorem dX5_alterAndSkip_76 : decode cX5_alterAndSkip 76 = .ok (.istore 7, 2) := by decide +kernel
theorem dX5_alterAndSkip_78 : decode cX5_alterAndSkip 78 = .ok (.aload_n 0, 1) := by decide +kernel
theorem dX5_alterAndSkip_79 : decode cX5_alterAndSkip 79 = .ok (.getfield 15, 3) := by decide +kernel
theorem dX5_alterAndSkip_82 : decode cX5_alterAndSkip 82 = .ok (.getfield 98, 3) := by decide +kernel
theorem dX5_alterAndSkip_85 : decode cX5_alterAndSkip 85 = .ok (.ifCond .eq 7, 3) := by decide +kernel
theorem dX5_alterAndSkip_88 : decode cX5_alterAndSkip 88 = .ok (.iconst 1, 1) := by decide +kernel
theorem dX5_alterAndSkip_89 : decode cX5_alterAndSkip 89 = .ok (.goto 4, 3) := by decide +kernel
theorem dX5_alterAndSkip_92 : decode cX5_alterAndSkip 92 = .ok (.iconst 0, 1) := by decide +kernel
theorem dX5_alterAndSkip_93 : decode cX5_alterAndSkip 93 = .ok (.istore 8, 2) := by decide +kernel
theorem dX5_alterAndSkip_95 : decode cX5_alterAndSkip 95 = .ok (.iload_n 3, 1) := by decide +kernel
theorem dX5_alterAndSkip_96 : decode cX5_alterAndSkip 96 = .ok (.ldc 38, 2) := by decide +kernel
theorem dX5_alterAndSkip_98 : decode cX5_alterAndSkip 98 = .ok (.iand, 1) := by decide +kernel
theorem dX5_alterAndSkip_99 : decode cX5_alterAndSkip 99 = .ok (.ifCond .eq 7, 3) := by decide +kernel
theorem dX5_alterAndSkip_102 : decode cX5_alterAndSkip 102 = .ok (.iconst 1, 1) := by decide +kernel
theorem dX5_alterAndSkip_103 : decode cX5_alterAndSkip 103 = .ok (.goto 4, 3) := by decide +kernel
theorem dX5_alterAndSkip_106 : decode cX5_alterAndSkip 106 = .ok (.iconst 0, 1) := by decide +kernel
theorem dX5_alterAndSkip_107 : decode cX5_alterAndSkip 107 = .ok (.istore 9, 2) := by decide +kernel
theorem dX5_alterAndSkip_109 : decode cX5_alterAndSkip 109 = .ok (.iload_n 3, 1) := by decide +kernel
theorem dX5_alterAndSkip_110 : decode cX5_alterAndSkip 110 = .ok (.iconst 1, 1) := by decide +kernel
theorem dX5_alterAndSkip_111 : decode cX5_alterAndSkip 111 = .ok (.iand, 1) := by decide +kernel
theorem dX5_alterAndSkip_112 : decode cX5_alterAndSkip 112 = .ok (.ifCond .eq 7, 3) := by decide +kernel
theorem dX5_alterAndSkip_115 : decode cX5_alterAndSkip 115 = .ok (.iconst 1, 1) := by decide +kernel
theorem dX5_alterAndSkip_116 : decode cX5_alterAndSkip 116 = .ok (.goto 4, 3) := by decide +kernel
theorem dX5_alterAndSkip_119 : decode cX5_alterAndSkip 119 = .ok (.iconst 0, 1) := by decide +kernel
theorem dX5_alterAndSkip_120 : decode cX5_alterAndSkip 120 = .ok (.istore 10, 2) := by decide +kernel
theorem dX5_alterAndSkip_122 : decode cX5_alterAndSkip 122 = .ok (.aload_n 0, 1) := by decide +kernel
theorem dX5_alterAndSkip_123 : decode cX5_alterAndSkip 123 = .ok (.getfield 15, 3) := by decide +kernel
theorem dX5_alterAndSkip_126 : decode cX5_alterAndSkip 126 = .ok (.aload_n 0, 1) := by decide +kernel
theorem dX5_alterAndSkip_127 : decode cX5_alterAndSkip 127 = .ok (.getfield 15, 3) := by decide +kernel
theorem dX5_alterAndSkip_130 : decode cX5_alterAndSkip 130 = .ok (.getfield 98, 3) := by decide +kernel
theorem dX5_alterAndSkip_133 : decode cX5_alterAndSkip 133 = .ok (.iload_n 1, 1) := by decide +kernel
theorem dX5_alterAndSkip_134 : decode cX5_alterAndSkip 134 = .ok (.bipush 6, 2) := by decide +kernel
theorem dX5_alterAndSkip_136 : decode cX5_alterAndSkip 136 = .ok (.ishr, 1) := by decide +kernel
theorem dX5_alterAndSkip_137 : decode cX5_alterAndSkip 137 = .ok (.iconst 3, 1) := by decide +kernel
theorem dX5_alterAndSkip_138 : decode cX5_alterAndSkip 138 = .ok (.iand, 1) := by decide +kernel
theorem dX5_alterAndSkip_139 : decode cX5_alterAndSkip 139 = .ok (.invokestatic 114, 3) := by decide +kernel
theorem dX5_alterAndSkip_142 : decode cX5_alterAndSkip 142 = .ok (.putfield 98, 3) := by decide +kernel
theorem dX5_alterAndSkip_145 : decode cX5_alterAndSkip 145 = .ok (.iload_n 1, 1) := by decide +kernel
theorem dX5_alterAndSkip_146 : decode cX5_alterAndSkip 146 = .ok (.iconst 4, 1) := by decide +kernel
theorem dX5_alterAndSkip_147 : decode cX5_alterAndSkip 147 = .ok (.iand, 1) := by decide +kernel
theorem dX5_alterAndSkip_148 : decode cX5_alterAndSkip 148 = .ok (.ifCond .eq 9, 3) := by decide +kernel
theorem dX5_alterAndSkip_151 : decode cX5_alterAndSkip 151 = .ok (.aload_n 0, 1) := by decide +kernel
theorem dX5_alterAndSkip_152 : decode cX5_alterAndSkip 152 = .ok (.iload_n 3, 1) := by decide +kernel
theorem dX5_alterAndSkip_153 : decode cX5_alterAndSkip 153 = .ok (.invokevirtual 117, 3) := by decide +kernel
theorem dX5_alterAndSkip_156 : decode cX5_alterAndSkip 156 = .ok (.istore_n 3, 1) := by decide +kernel
theorem dX5_alterAndSkip_157 : decode cX5_alterAndSkip 157 = .ok (.aload_n 0, 1) := by decide +kernel
theorem dX5_alterAndSkip_158 : decode cX5_alterAndSkip 158 = .ok (.getfield 9, 3) := by decide +kernel
theorem dX5_alterAndSkip_161 : decode cX5_alterAndSkip 161 = .ok (.iload_n 2, 1) := by decide +kernel
theorem dX5_alterAndSkip_162 : decode cX5_alterAndSkip 162 = .ok (.iload_n 3, 1) := by decide +kernel
theorem dX5_alterAndSkip_163 : decode cX5_alterAndSkip 163 = .ok (.invokevirtual 76, 3) := by decide +kernel
theorem dX5_alterAndSkip_166 : decode cX5_alterAndSkip 166 = .ok (.iload_n 3, 1) := by decide +kernel
theorem dX5_alterAndSkip_167 : decode cX5_alterAndSkip 167 = .ok (.ifCond .eq 7, 3) := by decide +kernel
theorem dX5_alterAndSkip_170 : decode cX5_alterAndSkip 170 = .ok (.iconst 1, 1) := by decide +kernel
theorem dX5_alterAndSkip_171 : decode cX5_alterAndSkip 171 = .ok (.goto 4, 3) := by decide +kernel
theorem dX5_alterAndSkip_174 : decode cX5_alterAndSkip 174 = .ok (.iconst 0, 1) := by decide +kernel
theorem dX5_alterAndSkip_175 : decode cX5_alterAndSkip 175 = .ok (.istore 11, 2) := by decide +kernel
theorem dX5_alterAndSkip_177 : decode cX5_alterAndSkip 177 = .ok (.iload_n 1, 1) := by decide +kernel
theorem dX5_alterAndSkip_178 : decode cX5_alterAndSkip 178 = .ok (.iconst 1, 1) := by decide +kernel
theorem dX5_alterAndSkip_179 : decode cX5_alterAndSkip 179 = .ok (.iand, 1) := by decide +kernel
theorem dX5_alterAndSkip_180 : decode cX5_alterAndSkip 180 = .ok (.ifCond .ne 53, 3) := by decide +kernel
theorem dX5_alterAndSkip_183 : decode cX5_alterAndSkip 183 = .ok (.aload_n 0, 1) := by decide +kernel
theorem dX5_alterAndSkip_184 : decode cX5_alterAndSkip 184 = .ok (.iload 4, 2) := by decide +kernel
theorem dX5_alterAndSkip_186 : decode cX5_alterAndSkip 186 = .ok (.ifCond .eq 8, 3) := by decide +kernel
theorem dX5_alterAndSkip_189 : decode cX5_alterAndSkip 189 = .ok (.iload 8, 2) := by decide +kernel
theorem dX5_alterAndSkip_191 : decode cX5_alterAndSkip 191 = .ok (.ifCond .eq 33, 3) := by decide +kernel
theorem dX5_alterAndSkip_194 : decode cX5_alterAndSkip 194 = .ok (.iload 5, 2) := by decide +kernel
theorem dX5_alterAndSkip_196 : decode cX5_alterAndSkip 196 = .ok (.ifCond .eq 8, 3) := by decide +kernel
theorem dX5_alterAndSkip_199 : decode cX5_alterAndSkip 199 = .ok (.iload 9, 2) := by decide +kernel
theorem dX5_alterAndSkip_201 : decode cX5_alterAndSkip 201 = .ok (.ifCond .eq 23, 3) := by decide +kernel
theorem dX5_alterAndSkip_204 : decode cX5_alterAndSkip 204 = .ok (.iload 6, 2) := by decide +kernel
theorem dX5_alterAndSkip_206 : decode cX5_alterAndSkip 206 = .ok (.ifCond .eq 8, 3) := by decide +kernel
theorem dX5_alterAndSkip_209 : decode cX5_alterAndSkip 209 = .ok (.iload 10, 2) := by decide +kernel
theorem dX5_alterAndSkip_211 : decode cX5_alterAndSkip 211 = .ok (.ifCond .eq 13, 3) := by decide +kernel
theorem dX5_alterAndSkip_214 : decode cX5_alterAndSkip 214 = .ok (.iload 7, 2) := by decide +kernel
theorem dX5_alterAndSkip_216 : decode cX5_alterAndSkip 216 = .ok (.ifCond .eq 12, 3) := by decide +kernel
theorem dX5_alterAndSkip_219 : decode cX5_alterAndSkip 219 = .ok (.iload 11, 2) := by decide +kernel
theorem dX5_alterAndSkip_221 : decode cX5_alterAndSkip 221 = .ok (.ifCond .ne 7, 3) := by decide +kernel
theorem dX5_alterAndSkip_224 : decode cX5_alterAndSkip 224 = .ok (.iconst 1, 1) := by decide +kernel
theorem dX5_alterAndSkip_225 : decode cX5_alterAndSkip 225 = .ok (.goto 4, 3) := by decide +kernel
theorem dX5_alterAndSkip_228 : decode cX5_alterAndSkip 228 = .ok (.iconst 0, 1) := by decide +kernel
theorem dX5_alterAndSkip_229 : decode cX5_alterAndSkip 229 = .ok (.invokevirtual 89, 3) := by decide +kernel
theorem dX5_alterAndSkip_232 : decode cX5_alterAndSkip 232 = .ok (.return_, 1) := by decide +kernel
theorem dX5_alterAndSkip_233 : decode cX5_alterAndSkip 233 = .ok (.iload 4, 2) := by decide +kernel
theorem dX5_alterAndSkip_235 : decode cX5_alterAndSkip 235 = .ok (.ifCond .ne 22, 3) := by decide +kernel
theorem dX5_alterAndSkip_238 : decode cX5_alterAndSkip 238 = .ok (.iload 5, 2) := by decide +kernel
theorem dX5_alterAndSkip_240 : decode cX5_alterAndSkip 240 = .ok (.ifCond .ne 17, 3) := by decide +kernel
theorem dX5_alterAndSkip_243 : decode cX5_alterAndSkip 243 = .ok (.iload 6, 2) := by decide +kernel
theorem dX5_alterAndSkip_245 : decode cX5_alterAndSkip 245 = .ok (.ifCond .ne 12, 3) := by decide +kernel
theorem dX5_alterAndSkip_248 : decode cX5_alterAndSkip 248 = .ok (.iload 7, 2) := by decide +kernel
theorem dX5_alterAndSkip_250 : decode cX5_alterAndSkip 250 = .ok (.ifCond .ne 7, 3) := by decide +kernel
theorem dX5_alterAndSkip_253 : decode cX5_alterAndSkip 253 = .ok (.iconst 1, 1) := by decide +kernel
theorem dX5_alterAndSkip_254 : decode cX5_alterAndSkip 254 = .ok (.goto 4, 3) := by decide +kernel
theorem dX5_alterAndSkip_257 : decode cX5_alterAndSkip 257 = .ok (.iconst 0, 1) := by decide +kernel
theorem dX5_alterAndSkip_258 : decode cX5_alterAndSkip 258 = .ok (.istore 12, 2) := by decide +kernel
theorem dX5_alterAndSkip_260 : decode cX5_alterAndSkip 260 = .ok (.iload 5, 2) := by decide +kernel
theorem dX5_alterAndSkip_262 : decode cX5_alterAndSkip 262 = .ok (.ifCond .eq 26, 3) := by decide +kernel
theorem dX5_alterAndSkip_265 : decode cX5_alterAndSkip 265 = .ok (.iload 6, 2) := by decide +kernel
theorem dX5_alterAndSkip_267 : decode cX5_alterAndSkip 267 = .ok (.ifCond .eq 21, 3) := by decide +kernel
theorem dX5_alterAndSkip_270 : decode cX5_alterAndSkip 270 = .ok (.iload 9, 2) := by decide +kernel
theorem dX5_alterAndSkip_272 : decode cX5_alterAndSkip 272 = .ok (.ifCond .eq 12, 3) := by decide +kernel
theorem dX5_alterAndSkip_275 : decode cX5_alterAndSkip 275 = .ok (.iload 10, 2) := by decide +kernel
theorem dX5_alterAndSkip_277 : decode cX5_alterAndSkip 277 = .ok (.ifCond .eq 7, 3) := by decide +kernel
theorem dX5_alterAndSkip_280 : decode cX5_alterAndSkip 280 = .ok (.iconst 1, 1) := by decide +kernel
theorem dX5_alterAndSkip_281 : decode cX5_alterAndSkip 281 = .ok (.goto 32, 3) := by decide +kernel
theorem dX5_alterAndSkip_284 : decode cX5_alterAndSkip 284 = .ok (.iconst 0, 1) := by decide +kernel
theorem dX5_alterAndSkip_285 : decode cX5_alterAndSkip 285 = .ok (.goto 28, 3) := by decide +kernel
theorem dX5_alterAndSkip_288 : decode cX5_alterAndSkip 288 = .ok (.iload 5, 2) := by decide +kernel
theorem dX5_alterAndSkip_290 : decode cX5_alterAndSkip 290 = .ok (.ifCond .eq 8, 3) := by decide +kernel
theorem dX5_alterAndSkip_293 : decode cX5_alterAndSkip 293 = .ok (.iload 9, 2) := by decide +kernel
theorem dX5_alterAndSkip_295 : decode cX5_alterAndSkip 295 = .ok (.ifCond .ne 13, 3) := by decide +kernel
theorem dX5_alterAndSkip_298 : decode cX5_alterAndSkip 298 = .ok (.iload 6, 2) := by decide +kernel
theorem dX5_alterAndSkip_300 : decode cX5_alterAndSkip 300 = .ok (.ifCond .eq 12, 3) := by decide +kernel
theorem dX5_alterAndSkip_303 : decode cX5_alterAndSkip 303 = .ok (.iload 10, 2) := by decide +kernel
theorem dX5_alterAndSkip_305 : decode cX5_alterAndSkip 305 = .ok (.ifCond .eq 7, 3) := by decide +kernel
theorem dX5_alterAndSkip_308 : decode cX5_alterAndSkip 308 = .ok (.iconst 1, 1) := by decide +kernel
theorem dX5_alterAndSkip_309 : decode cX5_alterAndSkip 309 = .ok (.goto 4, 3) := by decide +kernel
theorem dX5_alterAndSkip_312 : decode cX5_alterAndSkip 312 = .ok (.iconst 0, 1) := by decide +kernel
theorem dX5_alterAndSkip_313 : decode cX5_alterAndSkip 313 = .ok (.istore 13, 2) := by decide +kernel
theorem dX5_alterAndSkip_315 : decode cX5_alterAndSkip 315 = .ok (.aload_n 0, 1) := by decide +kernel
theorem dX5_alterAndSkip_316 : decode cX5_alterAndSkip 316 = .ok (.iload 12, 2) := by decide +kernel
theorem dX5_alterAndSkip_318 : decode cX5_alterAndSkip 318 = .ok (.ifCond .ne 28, 3) := by decide +kernel
theorem dX5_alterAndSkip_321 : decode cX5_alterAndSkip 321 = .ok (.iload 4, 2) := by decide +kernel
theorem dX5_alterAndSkip_323 : decode cX5_alterAndSkip 323 = .ok (.ifCond .eq 8, 3) := by decide +kernel
theorem dX5_alterAndSkip_326 : decode cX5_alterAndSkip 326 = .ok (.iload 8, 2) := by decide +kernel
theorem dX5_alterAndSkip_328 : decode cX5_alterAndSkip 328 = .ok (.ifCond .ne 18, 3) := by decide +kernel
theorem dX5_alterAndSkip_331 : decode cX5_alterAndSkip 331 = .ok (.iload 13, 2) := by decide +kernel
theorem dX5_alterAndSkip_333 : decode cX5_alterAndSkip 333 = .ok (.ifCond .ne 13, 3) := by decide +kernel
theorem dX5_alterAndSkip_336 : decode cX5_alterAndSkip 336 = .ok (.iload 7, 2) := by decide +kernel
theorem dX5_alterAndSkip_338 : decode cX5_alterAndSkip 338 = .ok (.ifCond .eq 12, 3) := by decide +kernel
theorem dX5_alterAndSkip_341 : decode cX5_alterAndSkip 341 = .ok (.iload 11, 2) := by decide +kernel
theorem dX5_alterAndSkip_343 : decode cX5_alterAndSkip 343 = .ok (.ifCond .eq 7, 3) := by decide +kernel
theorem dX5_alterAndSkip_346 : decode cX5_alterAndSkip 346 = .ok (.iconst 1, 1) := by decide +kernel
theorem dX5_alterAndSkip_347 : decode cX5_alterAndSkip 347 = .ok (.goto 4, 3) := by decide +kernel
theorem dX5_alterAndSkip_350 : decode cX5_alterAndSkip 350 = .ok (.iconst 0, 1) := by decide +kernel
theorem dX5_alterAndSkip_351 : decode cX5_alterAndSkip 351 = .ok (.invokevirtual 89, 3) := by decide +kernel
theorem dX5_alterAndSkip_354 : decode cX5_alterAndSkip 354 = .ok (.return_, 1) := by decide +kernel
theorem dX5_altered_0 : decode cX5_altered 0 = .ok (.iload_n 1, 1) := by decide +kernel
theorem dX5_altered_1 : decode cX5_altered 1 = .ok (.tableswitch 37 1 3 #[27, 29, 34], 27) := by decide +kernel
theorem dX5_altered_28 : decode cX5_altered 28 = .ok (.iconst 0, 1) := by decide +kernel
theorem dX5_altered_29 : decode cX5_altered 29 = .ok (.ireturn, 1) := by decide +kernel
theorem dX5_altered_30 : decode cX5_altered 30 = .ok (.iload_n 0, 1) := by decide +kernel
theorem dX5_altered_31 : decode cX5_altered 31 = .ok (.ldc 97, 2) := by decide +kernel
theorem dX5_altered_33 : decode cX5_altered 33 = .ok (.ixor, 1) := by decide +kernel
theorem dX5_altered_34 : decode cX5_altered 34 = .ok (.ireturn, 1) := by decide +kernel
theorem dX5_altered_35 : decode cX5_altered 35 = .ok (.ldc 97, 2) := by decide +kernel
theorem dX5_altered_37 : decode cX5_altered 37 = .ok (.ireturn, 1) := by decide +kernel
theorem dX5_altered_38 : decode cX5_altered 38 = .ok (.iload_n 0, 1) := by decide +kernel
theorem dX5_altered_39 : decode cX5_altered 39 = .ok (.ireturn, 1) := by decide +kernel
theorem dX5_alteredE_0 : decode cX5_alteredE 0 = .ok (.iload_n 1, 1) := by decide +kernel
theorem dX5_alteredE_1 : decode cX5_alteredE 1 = .ok (.tableswitch 35 1 3 #[27, 29, 33], 27) := by decide +kernel
theorem dX5_alteredE_28 : decode cX5_alteredE 28 = .ok (.iconst 0, 1) := by decide +kernel
theorem dX5_alteredE_29 : decode cX5_alteredE 29 = .ok (.ireturn, 1) := by decide +kernel
theorem dX5_alteredE_30 : decode cX5_alteredE 30 = .ok (.iconst 1, 1) := by decide +kernel
theorem dX5_alteredE_31 : decode cX5_alteredE 31 = .ok (.iload_n 0, 1) := by decide +kernel
theorem dX5_alteredE_32 : decode cX5_alteredE 32 = .ok (.isub, 1) := by decide +kernel
theorem dX5_alteredE_33 : decode cX5_alteredE 33 = .ok (.ireturn, 1) := by decide +kernel
theorem dX5_alteredE_34 : decode cX5_alteredE 34 = .ok (.iconst 1, 1) := by decide +kernel
theorem dX5_alteredE_35 : decode cX5_alteredE 35 = .ok (.ireturn, 1) := by decide +kernel
theorem dX5_alteredE_36 : decode cX5_alteredE 36 = .ok (.iload_n 0, 1) := by decide +kernel
theorem dX5_alteredE_37 : decode cX5_alteredE 37 = .ok (.ireturn, 1) := by decide +kernel
theorem dX5_incremented_0 : decode cX5_incremented 0 = .ok (.iload_n 1, 1) := by decide +kernel
theorem dX5_incremented_1 : decode cX5_incremented 1 = .ok (.ldc 97, 2) := by decide +kernel
theorem dX5_incremented_3 : decode cX5_incremented 3 = .ok (.if_icmp .ne 11, 3) := by decide +kernel
theorem dX5_incremented_6 : decode cX5_incremented 6 = .ok (.aload_n 0, 1) := by decide +kernel
theorem dX5_incremented_7 : decode cX5_incremented 7 = .ok (.getfield 15, 3) := by decide +kernel
theorem dX5_incremented_10 : decode cX5_incremented 10 = .ok (.iconst 1, 1) := by decide +kernel
theorem dX5_incremented_11 : decode cX5_incremented 11 = .ok (.putfield 98, 3) := by decide +kernel
theorem dX5_incremented_14 : decode cX5_incremented 14 = .ok (.iload_n 1, 1) := by decide +kernel
theorem dX5_incremented_15 : decode cX5_incremented 15 = .ok (.sipush 32767, 3) := by decide +kernel
theorem dX5_incremented_18 : decode cX5_incremented 18 = .ok (.if_icmp .ne 11, 3) := by decide +kernel
theorem dX5_incremented_21 : decode cX5_incremented 21 = .ok (.aload_n 0, 1) := by decide +kernel
theorem dX5_incremented_22 : decode cX5_incremented 22 = .ok (.getfield 15, 3) := by decide +kernel
theorem dX5_incremented_25 : decode cX5_incremented 25 = .ok (.iconst 1, 1) := by decide +kernel
theorem dX5_incremented_26 : decode cX5_incremented 26 = .ok (.putfield 101, 3) := by decide +kernel
theorem dX5_incremented_29 : decode cX5_incremented 29 = .ok (.iload_n 1, 1) := by decide +kernel
theorem dX5_incremented_30 : decode cX5_incremented 30 = .ok (.iconst 1, 1) := by decide +kernel
theorem dX5_incremented_31 : decode cX5_incremented 31 = .ok (.iadd, 1) := by decide +kernel
theorem dX5_incremented_32 : decode cX5_incremented 32 = .ok (.ldc 97, 2) := by decide +kernel
theorem dX5_incremented_34 : decode cX5_incremented 34 = .ok (.iand, 1) := by decide +kernel
theorem dX5_incremented_35 : decode cX5_incremented 35 = .ok (.ireturn, 1) := by decide +kernel
set_option maxRecDepth 20000 in
theorem ggX5_inputOrOutput_X5_registerOf : GoodIn wsX5_inputOrOutput wsX5_registerOf := goodIn_r _ [7] (by decide +kernel) (by decide +kernel)
set_option maxRecDepth 20000 in
theorem gX5_inputOrOutput_X5_registerOf : GoodIn wsX5_inputOrOutput (va_wsS RX5 73 yX5_registerOf wsX5_registerOf) := goodIn_app (goodIn_of _ (by decide +kernel)) ggX5_inputOrOutput_X5_registerOf
set_option maxRecDepth 20000 in
theorem ggX5_inputOrOutput_X6_halt : GoodIn wsX5_inputOrOutput wsX6_halt := goodIn_r _ [12, 13, 14, 113, 114, 115, 116, 117, 118] (by decide +kernel) (by decide +kernel)
set_option maxRecDepth 20000 in
theorem gX5_inputOrOutput_X6_halt : GoodIn wsX5_inputOrOutput (wsV RX5 70 RX6 yX6_halt wsX6_halt) := goodIn_app (goodIn_of _ (by decide +kernel)) ggX5_inputOrOutput_X6_halt
set_option maxRecDepth 20000 in
theorem ggX5_inputOrOutput_X0_putFlag : GoodIn wsX5_inputOrOutput wsX0_putFlag := goodIn_r _ [19, 20, 21, 22, 23, 24, 25, 26, 27, 18, 28, 29, 30, 31, 32, 33, 34, 35, 36, 119, 120, 121, 122, 123, 124, 125, 113, 114, 115, 116, 117, 118, 126, 127, 128] (by decide +kernel) (by decide +kernel)
set_option maxRecDepth 20000 in
theorem gX5_inputOrOutput_X0_putFlag : GoodIn wsX5_inputOrOutput (wsV RX5 120 RX0 yX0_putFlag wsX0_putFlag) := goodIn_app (goodIn_of _ (by decide +kernel)) ggX5_inputOrOutput_X0_putFlag
set_option maxRecDepth 20000 in
theorem ggX5_inputOrOutput_X0_flagOf : GoodIn wsX5_inputOrOutput wsX0_flagOf := goodIn_r _ [40, 20, 21, 25, 26, 27, 18, 28, 29, 119, 120, 121, 122, 123, 124, 125, 113, 114, 115, 116, 117, 118, 126, 127, 128] (by decide +kernel) (by decide +kernel)
set_option maxRecDepth 20000 in
theorem gX5_inputOrOutput_X0_flagOf : GoodIn wsX5_inputOrOutput (wsV RX5 125 RX0 yX0_flagOf wsX0_flagOf) := goodIn_app (goodIn_of _ (by decide +kernel)) ggX5_inputOrOutput_X0_flagOf
set_option maxRecDepth 20000 in
theorem ggX5_inputOrOutput_X5_skipIf : GoodIn wsX5_inputOrOutput wsX5_skipIf := goodIn_r _ [44, 1, 45, 46, 47, 11, 48, 49, 110, 111, 112, 113, 114, 115, 116, 117, 118] (by decide +kernel) (by decide +kernel)
set_option maxRecDepth 20000 in
theorem gX5_inputOrOutput_X5_skipIf : GoodIn wsX5_inputOrOutput (wsV RX5 89 RX5 yX5_skipIf wsX5_skipIf) := goodIn_app (goodIn_of _ (by decide +kernel)) ggX5_inputOrOutput_X5_skipIf
set_option maxRecDepth 20000 in
theorem ggX5_inputOrOutput_X4_read : GoodIn wsX5_inputOrOutput wsX4_read := goodIn_r _ [54, 55, 129] (by decide +kernel) (by decide +kernel)
set_option maxRecDepth 20000 in
theorem gX5_inputOrOutput_X4_read : GoodIn wsX5_inputOrOutput (wsV RX5 29 RX4 yX4_read wsX4_read) := goodIn_app (goodIn_of _ (by decide +kernel)) ggX5_inputOrOutput_X4_read
set_option maxRecDepth 20000 in
theorem ggX5_inputOrOutput_X0_tell : GoodIn wsX5_inputOrOutput wsX0_tell := goodIn_r _ [59, 60, 61, 62, 63, 18, 64, 65, 66, 67, 68, 69, 70, 119, 120, 121, 122, 123, 124, 125, 130, 131, 132, 133, 134, 135, 136, 137, 138, 139, 140, 141, 142, 143, 144, 145, 146, 147] (by decide +kernel) (by decide +kernel)
set_option maxRecDepth 20000 in
theorem gX5_inputOrOutput_X0_tell : GoodIn wsX5_inputOrOutput (wsV RX5 128 RX0 yX0_tell wsX0_tell) := goodIn_app (goodIn_of _ (by decide +kernel)) ggX5_inputOrOutput_X0_tell
set_option maxRecDepth 20000 in
theorem ggX5_inputOrOutput_X4_write : GoodIn wsX5_inputOrOutput wsX4_write := goodIn_r _ [74, 55, 75, 129] (by decide +kernel) (by decide +kernel)
set_option maxRecDepth 20000 in
theorem gX5_inputOrOutput_X4_write : GoodIn wsX5_inputOrOutput (wsV RX5 76 RX4 yX4_write wsX4_write) := goodIn_app (goodIn_of _ (by decide +kernel)) ggX5_inputOrOutput_X4_write
set_option maxRecDepth 20000 in
theorem ggX5_inputOrOutput_X0_take : GoodIn wsX5_inputOrOutput wsX0_take := goodIn_r _ [79, 80, 61, 62, 63, 18, 64, 65, 81, 82, 83, 84, 85, 86, 87, 88, 89, 90, 66, 67, 68, 69, 70, 119, 120, 121, 122, 123, 124, 125, 130, 131, 132, 133, 134, 135, 136, 137, 138, 139, 140, 141, 142, 143, 144, 145, 146, 147] (by decide +kernel) (by decide +kernel)
set_option maxRecDepth 20000 in
theorem gX5_inputOrOutput_X0_take : GoodIn wsX5_inputOrOutput (wsV RX5 131 RX0 yX0_take wsX0_take) := goodIn_app (goodIn_of _ (by decide +kernel)) ggX5_inputOrOutput_X0_take
set_option maxRecDepth 20000 in
theorem ggX5_inputOrOutput_X0_putControl : GoodIn wsX5_inputOrOutput wsX0_putControl := goodIn_r _ [94, 95, 96, 97, 18, 98, 25, 26, 27, 28, 29, 61, 62, 63, 64, 65, 99, 100, 101, 102, 66, 67, 68, 69, 70, 103, 104, 105, 106, 107, 108, 109, 130, 131, 132, 133, 134, 135, 136, 137, 126, 127, 128, 119, 120, 121, 122, 123, 124, 125, 138, 139, 140, 141, 142, 143, 144, 145, 146, 147] (by decide +kernel) (by decide +kernel)
set_option maxRecDepth 20000 in
theorem gX5_inputOrOutput_X0_putControl : GoodIn wsX5_inputOrOutput (wsV RX5 134 RX0 yX0_putControl wsX0_putControl) := goodIn_app (goodIn_of _ (by decide +kernel)) ggX5_inputOrOutput_X0_putControl
theorem dX5_inputOrOutput_0 : decode cX5_inputOrOutput 0 = .ok (.iload_n 1, 1) := by decide +kernel
theorem dX5_inputOrOutput_1 : decode cX5_inputOrOutput 1 = .ok (.bipush 63, 2) := by decide +kernel
theorem dX5_inputOrOutput_3 : decode cX5_inputOrOutput 3 = .ok (.iand, 1) := by decide +kernel
theorem dX5_inputOrOutput_4 : decode cX5_inputOrOutput 4 = .ok (.istore_n 2, 1) := by decide +kernel
theorem dX5_inputOrOutput_5 : decode cX5_inputOrOutput 5 = .ok (.iload_n 1, 1) := by decide +kernel
theorem dX5_inputOrOutput_6 : decode cX5_inputOrOutput 6 = .ok (.invokestatic 73, 3) := by decide +kernel
theorem dX5_inputOrOutput_9 : decode cX5_inputOrOutput 9 = .ok (.istore_n 3, 1) := by decide +kernel
theorem dX5_inputOrOutput_10 : decode cX5_inputOrOutput 10 = .ok (.iload_n 1, 1) := by decide +kernel
theorem dX5_inputOrOutput_11 : decode cX5_inputOrOutput 11 = .ok (.sipush 512, 3) := by decide +kernel
theorem dX5_inputOrOutput_14 : decode cX5_inputOrOutput 14 = .ok (.iand, 1) := by decide +kernel
theorem dX5_inputOrOutput_15 : decode cX5_inputOrOutput 15 = .ok (.ifCond .eq 7, 3) := by decide +kernel
theorem dX5_inputOrOutput_18 : decode cX5_inputOrOutput 18 = .ok (.iconst 1, 1) := by decide +kernel
theorem dX5_inputOrOutput_19 : decode cX5_inputOrOutput 19 = .ok (.goto 4, 3) := by decide +kernel
theorem dX5_inputOrOutput_22 : decode cX5_inputOrOutput 22 = .ok (.iconst 0, 1) := by decide +kernel
theorem dX5_inputOrOutput_23 : decode cX5_inputOrOutput 23 = .ok (.istore 4, 2) := by decide +kernel
theorem dX5_inputOrOutput_25 : decode cX5_inputOrOutput 25 = .ok (.iload_n 1, 1) := by decide +kernel
theorem dX5_inputOrOutput_26 : decode cX5_inputOrOutput 26 = .ok (.bipush 6, 2) := by decide +kernel
theorem dX5_inputOrOutput_28 : decode cX5_inputOrOutput 28 = .ok (.ishr, 1) := by decide +kernel
theorem dX5_inputOrOutput_29 : decode cX5_inputOrOutput 29 = .ok (.bipush 7, 2) := by decide +kernel
theorem dX5_inputOrOutput_31 : decode cX5_inputOrOutput 31 = .ok (.iand, 1) := by decide +kernel
theorem dX5_inputOrOutput_32 : decode cX5_inputOrOutput 32 = .ok (.tableswitch 182 0 6 #[44, 55, 82, 103, 116, 144, 163], 44) := by decide +kernel
theorem dX5_inputOrOutput_76 : decode cX5_inputOrOutput 76 = .ok (.aload_n 0, 1) := by decide +kernel
theorem dX5_inputOrOutput_77 : decode cX5_inputOrOutput 77 = .ok (.getfield 15, 3) := by decide +kernel
theorem dX5_inputOrOutput_80 : decode cX5_inputOrOutput 80 = .ok (.iload_n 2, 1) := by decide +kernel
theorem dX5_inputOrOutput_81 : decode cX5_inputOrOutput 81 = .ok (.invokevirtual 70, 3) := by decide +kernel
theorem dX5_inputOrOutput_84 : decode cX5_inputOrOutput 84 = .ok (.goto 155, 3) := by decide +kernel
theorem dX5_inputOrOutput_87 : decode cX5_inputOrOutput 87 = .ok (.aload_n 0, 1) := by decide +kernel
theorem dX5_inputOrOutput_88 : decode cX5_inputOrOutput 88 = .ok (.getfield 19, 3) := by decide +kernel
theorem dX5_inputOrOutput_91 : decode cX5_inputOrOutput 91 = .ok (.iload_n 2, 1) := by decide +kernel
theorem dX5_inputOrOutput_92 : decode cX5_inputOrOutput 92 = .ok (.iload 4, 2) := by decide +kernel
theorem dX5_inputOrOutput_94 : decode cX5_inputOrOutput 94 = .ok (.ifCond .ne 7, 3) := by decide +kernel
theorem dX5_inputOrOutput_97 : decode cX5_inputOrOutput 97 = .ok (.iconst 1, 1) := by decide +kernel
theorem dX5_inputOrOutput_98 : decode cX5_inputOrOutput 98 = .ok (.goto 4, 3) := by decide +kernel
theorem dX5_inputOrOutput_101 : decode cX5_inputOrOutput 101 = .ok (.iconst 0, 1) := by decide +kernel
theorem dX5_inputOrOutput_102 : decode cX5_inputOrOutput 102 = .ok (.invokevirtual 120, 3) := by decide +kernel
theorem dX5_inputOrOutput_105 : decode cX5_inputOrOutput 105 = .ok (.aload_n 0, 1) := by decide +kernel
theorem dX5_inputOrOutput_106 : decode cX5_inputOrOutput 106 = .ok (.getfield 15, 3) := by decide +kernel
theorem dX5_inputOrOutput_109 : decode cX5_inputOrOutput 109 = .ok (.iconst 1, 1) := by decide +kernel
theorem dX5_inputOrOutput_110 : decode cX5_inputOrOutput 110 = .ok (.putfield 93, 3) := by decide +kernel
theorem dX5_inputOrOutput_113 : decode cX5_inputOrOutput 113 = .ok (.return_, 1) := by decide +kernel
theorem dX5_inputOrOutput_114 : decode cX5_inputOrOutput 114 = .ok (.aload_n 0, 1) := by decide +kernel
theorem dX5_inputOrOutput_115 : decode cX5_inputOrOutput 115 = .ok (.aload_n 0, 1) := by decide +kernel
theorem dX5_inputOrOutput_116 : decode cX5_inputOrOutput 116 = .ok (.getfield 19, 3) := by decide +kernel
theorem dX5_inputOrOutput_119 : decode cX5_inputOrOutput 119 = .ok (.iload_n 2, 1) := by decide +kernel
theorem dX5_inputOrOutput_120 : decode cX5_inputOrOutput 120 = .ok (.invokevirtual 125, 3) := by decide +kernel
theorem dX5_inputOrOutput_123 : decode cX5_inputOrOutput 123 = .ok (.ifCond .ne 7, 3) := by decide +kernel
theorem dX5_inputOrOutput_126 : decode cX5_inputOrOutput 126 = .ok (.iconst 1, 1) := by decide +kernel
theorem dX5_inputOrOutput_127 : decode cX5_inputOrOutput 127 = .ok (.goto 4, 3) := by decide +kernel
theorem dX5_inputOrOutput_130 : decode cX5_inputOrOutput 130 = .ok (.iconst 0, 1) := by decide +kernel
theorem dX5_inputOrOutput_131 : decode cX5_inputOrOutput 131 = .ok (.invokevirtual 89, 3) := by decide +kernel
theorem dX5_inputOrOutput_134 : decode cX5_inputOrOutput 134 = .ok (.return_, 1) := by decide +kernel
theorem dX5_inputOrOutput_135 : decode cX5_inputOrOutput 135 = .ok (.aload_n 0, 1) := by decide +kernel
theorem dX5_inputOrOutput_136 : decode cX5_inputOrOutput 136 = .ok (.aload_n 0, 1) := by decide +kernel
theorem dX5_inputOrOutput_137 : decode cX5_inputOrOutput 137 = .ok (.getfield 19, 3) := by decide +kernel
theorem dX5_inputOrOutput_140 : decode cX5_inputOrOutput 140 = .ok (.iload_n 2, 1) := by decide +kernel
theorem dX5_inputOrOutput_141 : decode cX5_inputOrOutput 141 = .ok (.invokevirtual 125, 3) := by decide +kernel
theorem dX5_inputOrOutput_144 : decode cX5_inputOrOutput 144 = .ok (.invokevirtual 89, 3) := by decide +kernel
theorem dX5_inputOrOutput_147 : decode cX5_inputOrOutput 147 = .ok (.return_, 1) := by decide +kernel
theorem dX5_inputOrOutput_148 : decode cX5_inputOrOutput 148 = .ok (.aload_n 0, 1) := by decide +kernel
theorem dX5_inputOrOutput_149 : decode cX5_inputOrOutput 149 = .ok (.getfield 9, 3) := by decide +kernel
theorem dX5_inputOrOutput_152 : decode cX5_inputOrOutput 152 = .ok (.iload_n 3, 1) := by decide +kernel
theorem dX5_inputOrOutput_153 : decode cX5_inputOrOutput 153 = .ok (.aload_n 0, 1) := by decide +kernel
theorem dX5_inputOrOutput_154 : decode cX5_inputOrOutput 154 = .ok (.getfield 9, 3) := by decide +kernel
theorem dX5_inputOrOutput_157 : decode cX5_inputOrOutput 157 = .ok (.iload_n 3, 1) := by decide +kernel
theorem dX5_inputOrOutput_158 : decode cX5_inputOrOutput 158 = .ok (.invokevirtual 29, 3) := by decide +kernel
theorem dX5_inputOrOutput_161 : decode cX5_inputOrOutput 161 = .ok (.aload_n 0, 1) := by decide +kernel
theorem dX5_inputOrOutput_162 : decode cX5_inputOrOutput 162 = .ok (.getfield 19, 3) := by decide +kernel
theorem dX5_inputOrOutput_165 : decode cX5_inputOrOutput 165 = .ok (.iload_n 2, 1) := by decide +kernel
theorem dX5_inputOrOutput_166 : decode cX5_inputOrOutput 166 = .ok (.invokevirtual 128, 3) := by decide +kernel
theorem dX5_inputOrOutput_169 : decode cX5_inputOrOutput 169 = .ok (.ior, 1) := by decide +kernel
theorem dX5_inputOrOutput_170 : decode cX5_inputOrOutput 170 = .ok (.invokevirtual 76, 3) := by decide +kernel
theorem dX5_inputOrOutput_173 : decode cX5_inputOrOutput 173 = .ok (.goto 66, 3) := by decide +kernel
theorem dX5_inputOrOutput_176 : decode cX5_inputOrOutput 176 = .ok (.aload_n 0, 1) := by decide +kernel
theorem dX5_inputOrOutput_177 : decode cX5_inputOrOutput 177 = .ok (.getfield 9, 3) := by decide +kernel
theorem dX5_inputOrOutput_180 : decode cX5_inputOrOutput 180 = .ok (.iload_n 3, 1) := by decide +kernel
theorem dX5_inputOrOutput_181 : decode cX5_inputOrOutput 181 = .ok (.aload_n 0, 1) := by decide +kernel
theorem dX5_inputOrOutput_182 : decode cX5_inputOrOutput 182 = .ok (.getfield 19, 3) := by decide +kernel
theorem dX5_inputOrOutput_185 : decode cX5_inputOrOutput 185 = .ok (.iload_n 2, 1) := by decide +kernel
theorem dX5_inputOrOutput_186 : decode cX5_inputOrOutput 186 = .ok (.invokevirtual 128, 3) := by decide +kernel
theorem dX5_inputOrOutput_189 : decode cX5_inputOrOutput 189 = .ok (.invokevirtual 76, 3) := by decide +kernel
theorem dX5_inputOrOutput_192 : decode cX5_inputOrOutput 192 = .ok (.goto 47, 3) := by decide +kernel
theorem dX5_inputOrOutput_195 : decode cX5_inputOrOutput 195 = .ok (.aload_n 0, 1) := by decide +kernel
theorem dX5_inputOrOutput_196 : decode cX5_inputOrOutput 196 = .ok (.getfield 19, 3) := by decide +kernel
theorem dX5_inputOrOutput_199 : decode cX5_inputOrOutput 199 = .ok (.iload_n 2, 1) := by decide +kernel
theorem dX5_inputOrOutput_200 : decode cX5_inputOrOutput 200 = .ok (.aload_n 0, 1) := by decide +kernel
theorem dX5_inputOrOutput_201 : decode cX5_inputOrOutput 201 = .ok (.getfield 9, 3) := by decide +kernel
theorem dX5_inputOrOutput_204 : decode cX5_inputOrOutput 204 = .ok (.iload_n 3, 1) := by decide +kernel
theorem dX5_inputOrOutput_205 : decode cX5_inputOrOutput 205 = .ok (.invokevirtual 29, 3) := by decide +kernel
theorem dX5_inputOrOutput_208 : decode cX5_inputOrOutput 208 = .ok (.invokevirtual 131, 3) := by decide +kernel
theorem dX5_inputOrOutput_211 : decode cX5_inputOrOutput 211 = .ok (.goto 28, 3) := by decide +kernel
theorem dX5_inputOrOutput_214 : decode cX5_inputOrOutput 214 = .ok (.aload_n 0, 1) := by decide +kernel
theorem dX5_inputOrOutput_215 : decode cX5_inputOrOutput 215 = .ok (.getfield 19, 3) := by decide +kernel
theorem dX5_inputOrOutput_218 : decode cX5_inputOrOutput 218 = .ok (.iload_n 2, 1) := by decide +kernel
theorem dX5_inputOrOutput_219 : decode cX5_inputOrOutput 219 = .ok (.iload_n 3, 1) := by decide +kernel
theorem dX5_inputOrOutput_220 : decode cX5_inputOrOutput 220 = .ok (.ifCond .ne 7, 3) := by decide +kernel
theorem dX5_inputOrOutput_223 : decode cX5_inputOrOutput 223 = .ok (.iconst 1, 1) := by decide +kernel
theorem dX5_inputOrOutput_224 : decode cX5_inputOrOutput 224 = .ok (.goto 4, 3) := by decide +kernel
theorem dX5_inputOrOutput_227 : decode cX5_inputOrOutput 227 = .ok (.iconst 0, 1) := by decide +kernel
theorem dX5_inputOrOutput_228 : decode cX5_inputOrOutput 228 = .ok (.invokevirtual 134, 3) := by decide +kernel
theorem dX5_inputOrOutput_231 : decode cX5_inputOrOutput 231 = .ok (.aload_n 0, 1) := by decide +kernel
theorem dX5_inputOrOutput_232 : decode cX5_inputOrOutput 232 = .ok (.getfield 15, 3) := by decide +kernel
theorem dX5_inputOrOutput_235 : decode cX5_inputOrOutput 235 = .ok (.iconst 1, 1) := by decide +kernel
theorem dX5_inputOrOutput_236 : decode cX5_inputOrOutput 236 = .ok (.putfield 93, 3) := by decide +kernel
theorem dX5_inputOrOutput_239 : decode cX5_inputOrOutput 239 = .ok (.iload 4, 2) := by decide +kernel
theorem dX5_inputOrOutput_241 : decode cX5_inputOrOutput 241 = .ok (.ifCond .eq 20, 3) := by decide +kernel
theorem dX5_inputOrOutput_244 : decode cX5_inputOrOutput 244 = .ok (.aload_n 0, 1) := by decide +kernel
theorem dX5_inputOrOutput_245 : decode cX5_inputOrOutput 245 = .ok (.getfield 19, 3) := by decide +kernel
theorem dX5_inputOrOutput_248 : decode cX5_inputOrOutput 248 = .ok (.iload_n 2, 1) := by decide +kernel
theorem dX5_inputOrOutput_249 : decode cX5_inputOrOutput 249 = .ok (.iconst 0, 1) := by decide +kernel
theorem dX5_inputOrOutput_250 : decode cX5_inputOrOutput 250 = .ok (.invokevirtual 120, 3) := by decide +kernel
theorem dX5_inputOrOutput_253 : decode cX5_inputOrOutput 253 = .ok (.aload_n 0, 1) := by decide +kernel
theorem dX5_inputOrOutput_254 : decode cX5_inputOrOutput 254 = .ok (.getfield 15, 3) := by decide +kernel
theorem dX5_inputOrOutput_257 : decode cX5_inputOrOutput 257 = .ok (.iconst 1, 1) := by decide +kernel
theorem dX5_inputOrOutput_258 : decode cX5_inputOrOutput 258 = .ok (.putfield 93, 3) := by decide +kernel
theorem dX5_inputOrOutput_261 : decode cX5_inputOrOutput 261 = .ok (.return_, 1) := by decide +kernel
theorem dX5_hasAddressBehind_0 : decode cX5_hasAddressBehind 0 = .ok (.iload_n 0, 1) := by decide +kernel
theorem dX5_hasAddressBehind_1 : decode cX5_hasAddressBehind 1 = .ok (.ldc 137, 2) := by decide +kernel
theorem dX5_hasAddressBehind_3 : decode cX5_hasAddressBehind 3 = .ok (.if_icmp .eq 21, 3) := by decide +kernel
theorem dX5_hasAddressBehind_6 : decode cX5_hasAddressBehind 6 = .ok (.iload_n 0, 1) := by decide +kernel
theorem dX5_hasAddressBehind_7 : decode cX5_hasAddressBehind 7 = .ok (.ldc 138, 2) := by decide +kernel
theorem dX5_hasAddressBehind_9 : decode cX5_hasAddressBehind 9 = .ok (.if_icmp .eq 15, 3) := by decide +kernel
theorem dX5_hasAddressBehind_12 : decode cX5_hasAddressBehind 12 = .ok (.iload_n 0, 1) := by decide +kernel
theorem dX5_hasAddressBehind_13 : decode cX5_hasAddressBehind 13 = .ok (.ldc 139, 2) := by decide +kernel
theorem dX5_hasAddressBehind_15 : decode cX5_hasAddressBehind 15 = .ok (.if_icmp .eq 9, 3) := by decide +kernel
theorem dX5_hasAddressBehind_18 : decode cX5_hasAddressBehind 18 = .ok (.iload_n 0, 1) := by decide +kernel
theorem dX5_hasAddressBehind_19 : decode cX5_hasAddressBehind 19 = .ok (.ldc 140, 2) := by decide +kernel
theorem dX5_hasAddressBehind_21 : decode cX5_hasAddressBehind 21 = .ok (.if_icmp .ne 7, 3) := by decide +kernel
theorem dX5_hasAddressBehind_24 : decode cX5_hasAddressBehind 24 = .ok (.iconst 1, 1) := by decide +kernel
theorem dX5_hasAddressBehind_25 : decode cX5_hasAddressBehind 25 = .ok (.goto 4, 3) := by decide +kernel
theorem dX5_hasAddressBehind_28 : decode cX5_hasAddressBehind 28 = .ok (.iconst 0, 1) := by decide +kernel
theorem dX5_hasAddressBehind_29 : decode cX5_hasAddressBehind 29 = .ok (.ireturn, 1) := by decide +kernel
set_option maxRecDepth 20000 in
theorem ggX5_doubleWord_X4_read : GoodIn wsX5_doubleWord wsX4_read := goodIn_r _ [6, 7, 40] (by decide +kernel) (by decide +kernel)
set_option maxRecDepth 20000 in
theorem gX5_doubleWord_X4_read : GoodIn wsX5_doubleWord (wsV RX5 29 RX4 yX4_read wsX4_read) := goodIn_app (goodIn_of _ (by decide +kernel)) ggX5_doubleWord_X4_read
set_option maxRecDepth 20000 in
theorem ggX5_doubleWord_X5_multiply : GoodIn wsX5_doubleWord wsX5_multiply := goodIn_r _ [12, 1, 13, 2, 3, 4, 5, 6, 7, 14, 15, 16, 11, 17, 18, 19, 20, 21, 22, 37, 38, 39, 41, 42, 43, 44, 45, 46, 40] (by decide +kernel) (by decide +kernel)
set_option maxRecDepth 20000 in
theorem gX5_doubleWord_X5_multiply : GoodIn wsX5_doubleWord (wsV RX5 141 RX5 yX5_multiply wsX5_multiply) := goodIn_app (goodIn_of _ (by decide +kernel)) ggX5_doubleWord_X5_multiply
set_option maxRecDepth 20000 in
theorem ggX5_doubleWord_X5_divide : GoodIn wsX5_doubleWord wsX5_divide := goodIn_r _ [26, 13, 27, 28, 1, 29, 30, 31, 11, 32, 2, 3, 4, 5, 6, 7, 18, 19, 20, 21, 22, 37, 38, 39, 41, 42, 43, 44, 45, 46, 40] (by decide +kernel) (by decide +kernel)
set_option maxRecDepth 20000 in
theorem gX5_doubleWord_X5_divide : GoodIn wsX5_doubleWord (wsV RX5 144 RX5 yX5_divide wsX5_divide) := goodIn_app (goodIn_of _ (by decide +kernel)) ggX5_doubleWord_X5_divide
set_option maxRecDepth 20000 in
theorem ggX5_doubleWord_X5_writeTwo : GoodIn wsX5_doubleWord wsX5_writeTwo := goodIn_r _ [36, 1, 18, 19, 20, 5, 21, 7, 22, 37, 38, 39, 40] (by decide +kernel) (by decide +kernel)
set_option maxRecDepth 20000 in
theorem gX5_doubleWord_X5_writeTwo : GoodIn wsX5_doubleWord (wsV RX5 147 RX5 yX5_writeTwo wsX5_writeTwo) := goodIn_app (goodIn_of _ (by decide +kernel)) ggX5_doubleWord_X5_writeTwo
theorem dX5_doubleWord_0 : decode cX5_doubleWord 0 = .ok (.iload_n 2, 1) := by decide +kernel
theorem dX5_doubleWord_1 : decode cX5_doubleWord 1 = .ok (.iconst (-1), 1) := by decide +kernel
theorem dX5_doubleWord_2 : decode cX5_doubleWord 2 = .ok (.if_icmp .ne 4, 3) := by decide +kernel
theorem dX5_doubleWord_5 : decode cX5_doubleWord 5 = .ok (.return_, 1) := by decide +kernel
theorem dX5_doubleWord_6 : decode cX5_doubleWord 6 = .ok (.iload_n 2, 1) := by decide +kernel
theorem dX5_doubleWord_7 : decode cX5_doubleWord 7 = .ok (.iconst 1, 1) := by decide +kernel
theorem dX5_doubleWord_8 : decode cX5_doubleWord 8 = .ok (.iadd, 1) := by decide +kernel
theorem dX5_doubleWord_9 : decode cX5_doubleWord 9 = .ok (.sipush 32767, 3) := by decide +kernel
theorem dX5_doubleWord_12 : decode cX5_doubleWord 12 = .ok (.iand, 1) := by decide +kernel
theorem dX5_doubleWord_13 : decode cX5_doubleWord 13 = .ok (.istore_n 3, 1) := by decide +kernel
theorem dX5_doubleWord_14 : decode cX5_doubleWord 14 = .ok (.iload_n 1, 1) := by decide +kernel
theorem dX5_doubleWord_15 : decode cX5_doubleWord 15 = .ok (.lookupswitch 88 #[(32896, 33), (33024, 48), (34944, 63)], 33) := by decide +kernel
theorem dX5_doubleWord_48 : decode cX5_doubleWord 48 = .ok (.aload_n 0, 1) := by decide +kernel
theorem dX5_doubleWord_49 : decode cX5_doubleWord 49 = .ok (.aload_n 0, 1) := by decide +kernel
theorem dX5_doubleWord_50 : decode cX5_doubleWord 50 = .ok (.getfield 9, 3) := by decide +kernel
theorem dX5_doubleWord_53 : decode cX5_doubleWord 53 = .ok (.iload_n 2, 1) := by decide +kernel
theorem dX5_doubleWord_54 : decode cX5_doubleWord 54 = .ok (.invokevirtual 29, 3) := by decide +kernel
theorem dX5_doubleWord_57 : decode cX5_doubleWord 57 = .ok (.invokevirtual 141, 3) := by decide +kernel
theorem dX5_doubleWord_60 : decode cX5_doubleWord 60 = .ok (.goto 65, 3) := by decide +kernel
theorem dX5_doubleWord_63 : decode cX5_doubleWord 63 = .ok (.aload_n 0, 1) := by decide +kernel
theorem dX5_doubleWord_64 : decode cX5_doubleWord 64 = .ok (.aload_n 0, 1) := by decide +kernel
theorem dX5_doubleWord_65 : decode cX5_doubleWord 65 = .ok (.getfield 9, 3) := by decide +kernel
theorem dX5_doubleWord_68 : decode cX5_doubleWord 68 = .ok (.iload_n 2, 1) := by decide +kernel
theorem dX5_doubleWord_69 : decode cX5_doubleWord 69 = .ok (.invokevirtual 29, 3) := by decide +kernel
theorem dX5_doubleWord_72 : decode cX5_doubleWord 72 = .ok (.invokevirtual 144, 3) := by decide +kernel
theorem dX5_doubleWord_75 : decode cX5_doubleWord 75 = .ok (.goto 50, 3) := by decide +kernel
theorem dX5_doubleWord_78 : decode cX5_doubleWord 78 = .ok (.aload_n 0, 1) := by decide +kernel
theorem dX5_doubleWord_79 : decode cX5_doubleWord 79 = .ok (.iconst 0, 1) := by decide +kernel
theorem dX5_doubleWord_80 : decode cX5_doubleWord 80 = .ok (.aload_n 0, 1) := by decide +kernel
theorem dX5_doubleWord_81 : decode cX5_doubleWord 81 = .ok (.getfield 9, 3) := by decide +kernel
theorem dX5_doubleWord_84 : decode cX5_doubleWord 84 = .ok (.iload_n 2, 1) := by decide +kernel
theorem dX5_doubleWord_85 : decode cX5_doubleWord 85 = .ok (.invokevirtual 29, 3) := by decide +kernel
theorem dX5_doubleWord_88 : decode cX5_doubleWord 88 = .ok (.iconst 1, 1) := by decide +kernel
theorem dX5_doubleWord_89 : decode cX5_doubleWord 89 = .ok (.aload_n 0, 1) := by decide +kernel
theorem dX5_doubleWord_90 : decode cX5_doubleWord 90 = .ok (.getfield 9, 3) := by decide +kernel
theorem dX5_doubleWord_93 : decode cX5_doubleWord 93 = .ok (.iload_n 3, 1) := by decide +kernel
theorem dX5_doubleWord_94 : decode cX5_doubleWord 94 = .ok (.invokevirtual 29, 3) := by decide +kernel
theorem dX5_doubleWord_97 : decode cX5_doubleWord 97 = .ok (.invokevirtual 147, 3) := by decide +kernel
theorem dX5_doubleWord_100 : decode cX5_doubleWord 100 = .ok (.goto 25, 3) := by decide +kernel
theorem dX5_doubleWord_103 : decode cX5_doubleWord 103 = .ok (.aload_n 0, 1) := by decide +kernel
theorem dX5_doubleWord_104 : decode cX5_doubleWord 104 = .ok (.iload_n 2, 1) := by decide +kernel
theorem dX5_doubleWord_105 : decode cX5_doubleWord 105 = .ok (.aload_n 0, 1) := by decide +kernel
theorem dX5_doubleWord_106 : decode cX5_doubleWord 106 = .ok (.getfield 9, 3) := by decide +kernel
theorem dX5_doubleWord_109 : decode cX5_doubleWord 109 = .ok (.iconst 0, 1) := by decide +kernel
theorem dX5_doubleWord_110 : decode cX5_doubleWord 110 = .ok (.invokevirtual 29, 3) := by decide +kernel
theorem dX5_doubleWord_113 : decode cX5_doubleWord 113 = .ok (.iload_n 3, 1) := by decide +kernel
theorem dX5_doubleWord_114 : decode cX5_doubleWord 114 = .ok (.aload_n 0, 1) := by decide +kernel
theorem dX5_doubleWord_115 : decode cX5_doubleWord 115 = .ok (.getfield 9, 3) := by decide +kernel
theorem dX5_doubleWord_118 : decode cX5_doubleWord 118 = .ok (.iconst 1, 1) := by decide +kernel
theorem dX5_doubleWord_119 : decode cX5_doubleWord 119 = .ok (.invokevirtual 29, 3) := by decide +kernel
theorem dX5_doubleWord_122 : decode cX5_doubleWord 122 = .ok (.invokevirtual 147, 3) := by decide +kernel
theorem dX5_doubleWord_125 : decode cX5_doubleWord 125 = .ok (.return_, 1) := by decide +kernel
set_option maxRecDepth 20000 in
theorem ggX5_writeTwo_X4_write : GoodIn wsX5_writeTwo wsX4_write := goodIn_r _ [6, 7, 8, 12] (by decide +kernel) (by decide +kernel)
set_option maxRecDepth 20000 in
theorem gX5_writeTwo_X4_write : GoodIn wsX5_writeTwo (wsV RX5 76 RX4 yX4_write wsX4_write) := goodIn_app (goodIn_of _ (by decide +kernel)) ggX5_writeTwo_X4_write
theorem dX5_writeTwo_0 : decode cX5_writeTwo 0 = .ok (.aload_n 0, 1) := by decide +kernel
theorem dX5_writeTwo_1 : decode cX5_writeTwo 1 = .ok (.getfield 9, 3) := by decide +kernel
theorem dX5_writeTwo_4 : decode cX5_writeTwo 4 = .ok (.iload_n 1, 1) := by decide +kernel
theorem dX5_writeTwo_5 : decode cX5_writeTwo 5 = .ok (.iload_n 2, 1) := by decide +kernel
theorem dX5_writeTwo_6 : decode cX5_writeTwo 6 = .ok (.invokevirtual 76, 3) := by decide +kernel
theorem dX5_writeTwo_9 : decode cX5_writeTwo 9 = .ok (.aload_n 0, 1) := by decide +kernel
theorem dX5_writeTwo_10 : decode cX5_writeTwo 10 = .ok (.getfield 9, 3) := by decide +kernel
theorem dX5_writeTwo_13 : decode cX5_writeTwo 13 = .ok (.iload_n 3, 1) := by decide +kernel
theorem dX5_writeTwo_14 : decode cX5_writeTwo 14 = .ok (.iload 4, 2) := by decide +kernel
theorem dX5_writeTwo_16 : decode cX5_writeTwo 16 = .ok (.invokevirtual 76, 3) := by decide +kernel
theorem dX5_writeTwo_19 : decode cX5_writeTwo 19 = .ok (.return_, 1) := by decide +kernel
set_option maxRecDepth 20000 in
theorem ggX5_readPair_X4_read : GoodIn wsX5_readPair wsX4_read := goodIn_r _ [6, 7, 11] (by decide +kernel) (by decide +kernel)
set_option maxRecDepth 20000 in
theorem gX5_readPair_X4_read : GoodIn wsX5_readPair (wsV RX5 29 RX4 yX4_read wsX4_read) := goodIn_app (goodIn_of _ (by decide +kernel)) ggX5_readPair_X4_read
theorem dX5_readPair_0 : decode cX5_readPair 0 = .ok (.aload_n 0, 1) := by decide +kernel
theorem dX5_readPair_1 : decode cX5_readPair 1 = .ok (.getfield 9, 3) := by decide +kernel
theorem dX5_readPair_4 : decode cX5_readPair 4 = .ok (.iconst 1, 1) := by decide +kernel
theorem dX5_readPair_5 : decode cX5_readPair 5 = .ok (.invokevirtual 29, 3) := by decide +kernel
theorem dX5_readPair_8 : decode cX5_readPair 8 = .ok (.bipush 16, 2) := by decide +kernel
theorem dX5_readPair_10 : decode cX5_readPair 10 = .ok (.ishl, 1) := by decide +kernel
theorem dX5_readPair_11 : decode cX5_readPair 11 = .ok (.aload_n 0, 1) := by decide +kernel
theorem dX5_readPair_12 : decode cX5_readPair 12 = .ok (.getfield 9, 3) := by decide +kernel
theorem dX5_readPair_15 : decode cX5_readPair 15 = .ok (.iconst 0, 1) := by decide +kernel
theorem dX5_readPair_16 : decode cX5_readPair 16 = .ok (.invokevirtual 29, 3) := by decide +kernel
theorem dX5_readPair_19 : decode cX5_readPair 19 = .ok (.ior, 1) := by decide +kernel
theorem dX5_readPair_20 : decode cX5_readPair 20 = .ok (.ireturn, 1) := by decide +kernel
set_option maxRecDepth 20000 in
theorem ggX5_writePair_X4_write : GoodIn wsX5_writePair wsX4_write := goodIn_r _ [6, 7, 8, 12] (by decide +kernel) (by decide +kernel)
set_option maxRecDepth 20000 in
theorem gX5_writePair_X4_write : GoodIn wsX5_writePair (wsV RX5 76 RX4 yX4_write wsX4_write) := goodIn_app (goodIn_of _ (by decide +kernel)) ggX5_writePair_X4_write
theorem dX5_writePair_0 : decode cX5_writePair 0 = .ok (.aload_n 0, 1) := by decide +kernel
theorem dX5_writePair_1 : decode cX5_writePair 1 = .ok (.getfield 9, 3) := by decide +kernel
theorem dX5_writePair_4 : decode cX5_writePair 4 = .ok (.iconst 0, 1) := by decide +kernel
theorem dX5_writePair_5 : decode cX5_writePair 5 = .ok (.iload_n 1, 1) := by decide +kernel
theorem dX5_writePair_6 : decode cX5_writePair 6 = .ok (.invokevirtual 76, 3) := by decide +kernel
theorem dX5_writePair_9 : decode cX5_writePair 9 = .ok (.aload_n 0, 1) := by decide +kernel
theorem dX5_writePair_10 : decode cX5_writePair 10 = .ok (.getfield 9, 3) := by decide +kernel
theorem dX5_writePair_13 : decode cX5_writePair 13 = .ok (.iconst 1, 1) := by decide +kernel
theorem dX5_writePair_14 : decode cX5_writePair 14 = .ok (.iload_n 1, 1) := by decide +kernel
theorem dX5_writePair_15 : decode cX5_writePair 15 = .ok (.bipush 16, 2) := by decide +kernel
theorem dX5_writePair_17 : decode cX5_writePair 17 = .ok (.iushr, 1) := by decide +kernel
theorem dX5_writePair_18 : decode cX5_writePair 18 = .ok (.invokevirtual 76, 3) := by decide +kernel
theorem dX5_writePair_21 : decode cX5_writePair 21 = .ok (.return_, 1) := by decide +kernel
set_option maxRecDepth 20000 in
theorem ggX5_multiply_X4_read : GoodIn wsX5_multiply wsX4_read := goodIn_r _ [7, 8, 28] (by decide +kernel) (by decide +kernel)
set_option maxRecDepth 20000 in
theorem gX5_multiply_X4_read : GoodIn wsX5_multiply (wsV RX5 29 RX4 yX4_read wsX4_read) := goodIn_app (goodIn_of _ (by decide +kernel)) ggX5_multiply_X4_read
set_option maxRecDepth 20000 in
theorem ggX5_multiply_X5_writePair : GoodIn wsX5_multiply wsX5_writePair := goodIn_r _ [13, 1, 14, 15, 16, 6, 17, 8, 18, 19, 20, 21, 28] (by decide +kernel) (by decide +kernel)
set_option maxRecDepth 20000 in
theorem gX5_multiply_X5_writePair : GoodIn wsX5_multiply (wsV RX5 151 RX5 yX5_writePair wsX5_writePair) := goodIn_app (goodIn_of _ (by decide +kernel)) ggX5_multiply_X5_writePair
theorem dX5_multiply_0 : decode cX5_multiply 0 = .ok (.aload_n 0, 1) := by decide +kernel
theorem dX5_multiply_1 : decode cX5_multiply 1 = .ok (.aload_n 0, 1) := by decide +kernel
theorem dX5_multiply_2 : decode cX5_multiply 2 = .ok (.getfield 9, 3) := by decide +kernel
theorem dX5_multiply_5 : decode cX5_multiply 5 = .ok (.iconst 0, 1) := by decide +kernel
theorem dX5_multiply_6 : decode cX5_multiply 6 = .ok (.invokevirtual 29, 3) := by decide +kernel
theorem dX5_multiply_9 : decode cX5_multiply 9 = .ok (.i2s, 1) := by decide +kernel
theorem dX5_multiply_10 : decode cX5_multiply 10 = .ok (.iload_n 1, 1) := by decide +kernel
theorem dX5_multiply_11 : decode cX5_multiply 11 = .ok (.i2s, 1) := by decide +kernel
theorem dX5_multiply_12 : decode cX5_multiply 12 = .ok (.imul, 1) := by decide +kernel
theorem dX5_multiply_13 : decode cX5_multiply 13 = .ok (.invokevirtual 151, 3) := by decide +kernel
theorem dX5_multiply_16 : decode cX5_multiply 16 = .ok (.aload_n 0, 1) := by decide +kernel
theorem dX5_multiply_17 : decode cX5_multiply 17 = .ok (.getfield 15, 3) := by decide +kernel
theorem dX5_multiply_20 : decode cX5_multiply 20 = .ok (.iconst 0, 1) := by decide +kernel
theorem dX5_multiply_21 : decode cX5_multiply 21 = .ok (.putfield 101, 3) := by decide +kernel
theorem dX5_multiply_24 : decode cX5_multiply 24 = .ok (.return_, 1) := by decide +kernel
set_option maxRecDepth 20000 in
theorem ggX5_divide_X5_readPair : GoodIn wsX5_divide wsX5_readPair := goodIn_r _ [9, 4, 10, 11, 12, 13, 14, 15, 21, 22, 23, 30] (by decide +kernel) (by decide +kernel)
set_option maxRecDepth 20000 in
theorem gX5_divide_X5_readPair : GoodIn wsX5_divide (wsV RX5 154 RX5 yX5_readPair wsX5_readPair) := goodIn_app (goodIn_of _ (by decide +kernel)) ggX5_divide_X5_readPair
set_option maxRecDepth 20000 in
theorem ggX5_divide_X4_write : GoodIn wsX5_divide wsX4_write := goodIn_r _ [19, 15, 20, 30] (by decide +kernel) (by decide +kernel)
set_option maxRecDepth 20000 in
theorem gX5_divide_X4_write : GoodIn wsX5_divide (wsV RX5 76 RX4 yX4_write wsX4_write) := goodIn_app (goodIn_of _ (by decide +kernel)) ggX5_divide_X4_write
theorem dX5_divide_0 : decode cX5_divide 0 = .ok (.iload_n 1, 1) := by decide +kernel
theorem dX5_divide_1 : decode cX5_divide 1 = .ok (.i2s, 1) := by decide +kernel
theorem dX5_divide_2 : decode cX5_divide 2 = .ok (.i2l, 1) := by decide +kernel
theorem dX5_divide_3 : decode cX5_divide 3 = .ok (.lstore_n 2, 1) := by decide +kernel
theorem dX5_divide_4 : decode cX5_divide 4 = .ok (.aload_n 0, 1) := by decide +kernel
theorem dX5_divide_5 : decode cX5_divide 5 = .ok (.getfield 15, 3) := by decide +kernel
theorem dX5_divide_8 : decode cX5_divide 8 = .ok (.iconst 1, 1) := by decide +kernel
theorem dX5_divide_9 : decode cX5_divide 9 = .ok (.putfield 101, 3) := by decide +kernel
theorem dX5_divide_12 : decode cX5_divide 12 = .ok (.lload_n 2, 1) := by decide +kernel
theorem dX5_divide_13 : decode cX5_divide 13 = .ok (.lconst 0, 1) := by decide +kernel
theorem dX5_divide_14 : decode cX5_divide 14 = .ok (.lcmp, 1) := by decide +kernel
theorem dX5_divide_15 : decode cX5_divide 15 = .ok (.ifCond .ne 4, 3) := by decide +kernel
theorem dX5_divide_18 : decode cX5_divide 18 = .ok (.return_, 1) := by decide +kernel
theorem dX5_divide_19 : decode cX5_divide 19 = .ok (.aload_n 0, 1) := by decide +kernel
theorem dX5_divide_20 : decode cX5_divide 20 = .ok (.invokevirtual 154, 3) := by decide +kernel
theorem dX5_divide_23 : decode cX5_divide 23 = .ok (.i2l, 1) := by decide +kernel
theorem dX5_divide_24 : decode cX5_divide 24 = .ok (.lstore 4, 2) := by decide +kernel
theorem dX5_divide_26 : decode cX5_divide 26 = .ok (.lload 4, 2) := by decide +kernel
theorem dX5_divide_28 : decode cX5_divide 28 = .ok (.lload_n 2, 1) := by decide +kernel
theorem dX5_divide_29 : decode cX5_divide 29 = .ok (.ldiv, 1) := by decide +kernel
theorem dX5_divide_30 : decode cX5_divide 30 = .ok (.lstore 6, 2) := by decide +kernel
theorem dX5_divide_32 : decode cX5_divide 32 = .ok (.lload 6, 2) := by decide +kernel
theorem dX5_divide_34 : decode cX5_divide 34 = .ok (.ldc2_w 157, 3) := by decide +kernel
theorem dX5_divide_37 : decode cX5_divide 37 = .ok (.lcmp, 1) := by decide +kernel
theorem dX5_divide_38 : decode cX5_divide 38 = .ok (.ifCond .lt 12, 3) := by decide +kernel
theorem dX5_divide_41 : decode cX5_divide 41 = .ok (.lload 6, 2) := by decide +kernel
theorem dX5_divide_43 : decode cX5_divide 43 = .ok (.ldc2_w 159, 3) := by decide +kernel
theorem dX5_divide_46 : decode cX5_divide 46 = .ok (.lcmp, 1) := by decide +kernel
theorem dX5_divide_47 : decode cX5_divide 47 = .ok (.ifCond .le 4, 3) := by decide +kernel
theorem dX5_divide_50 : decode cX5_divide 50 = .ok (.return_, 1) := by decide +kernel
theorem dX5_divide_51 : decode cX5_divide 51 = .ok (.aload_n 0, 1) := by decide +kernel
theorem dX5_divide_52 : decode cX5_divide 52 = .ok (.getfield 9, 3) := by decide +kernel
theorem dX5_divide_55 : decode cX5_divide 55 = .ok (.iconst 0, 1) := by decide +kernel
theorem dX5_divide_56 : decode cX5_divide 56 = .ok (.lload 6, 2) := by decide +kernel
theorem dX5_divide_58 : decode cX5_divide 58 = .ok (.l2i, 1) := by decide +kernel
theorem dX5_divide_59 : decode cX5_divide 59 = .ok (.invokevirtual 76, 3) := by decide +kernel
theorem dX5_divide_62 : decode cX5_divide 62 = .ok (.aload_n 0, 1) := by decide +kernel
theorem dX5_divide_63 : decode cX5_divide 63 = .ok (.getfield 9, 3) := by decide +kernel
theorem dX5_divide_66 : decode cX5_divide 66 = .ok (.iconst 1, 1) := by decide +kernel
theorem dX5_divide_67 : decode cX5_divide 67 = .ok (.lload 4, 2) := by decide +kernel
theorem dX5_divide_69 : decode cX5_divide 69 = .ok (.lload_n 2, 1) := by decide +kernel
theorem dX5_divide_70 : decode cX5_divide 70 = .ok (.lrem, 1) := by decide +kernel
theorem dX5_divide_71 : decode cX5_divide 71 = .ok (.l2i, 1) := by decide +kernel
theorem dX5_divide_72 : decode cX5_divide 72 = .ok (.invokevirtual 76, 3) := by decide +kernel
theorem dX5_divide_75 : decode cX5_divide 75 = .ok (.aload_n 0, 1) := by decide +kernel
theorem dX5_divide_76 : decode cX5_divide 76 = .ok (.getfield 15, 3) := by decide +kernel
theorem dX5_divide_79 : decode cX5_divide 79 = .ok (.iconst 0, 1) := by decide +kernel
theorem dX5_divide_80 : decode cX5_divide 80 = .ok (.putfield 101, 3) := by decide +kernel
theorem dX5_divide_83 : decode cX5_divide 83 = .ok (.return_, 1) := by decide +kernel
set_option maxRecDepth 20000 in
theorem ggX5_longShift_X5_readPair : GoodIn wsX5_longShift wsX5_readPair := goodIn_r _ [9, 10, 11, 12, 13, 14, 15, 16, 32, 33, 34, 41] (by decide +kernel) (by decide +kernel)
set_option maxRecDepth 20000 in
theorem gX5_longShift_X5_readPair : GoodIn wsX5_longShift (wsV RX5 154 RX5 yX5_readPair wsX5_readPair) := goodIn_app (goodIn_of _ (by decide +kernel)) ggX5_longShift_X5_readPair
set_option maxRecDepth 20000 in
theorem ggX5_longShift_X5_writePair : GoodIn wsX5_longShift wsX5_writePair := goodIn_r _ [20, 10, 21, 22, 23, 14, 24, 16, 25, 32, 33, 34, 41] (by decide +kernel) (by decide +kernel)
set_option maxRecDepth 20000 in
theorem gX5_longShift_X5_writePair : GoodIn wsX5_longShift (wsV RX5 151 RX5 yX5_writePair wsX5_writePair) := goodIn_app (goodIn_of _ (by decide +kernel)) ggX5_longShift_X5_writePair
set_option maxRecDepth 20000 in
theorem ggX5_longShift_X5_losesUnlikeSign : GoodIn wsX5_longShift wsX5_losesUnlikeSign := goodIn_r _ [28, 3] (by decide +kernel) (by decide +kernel)
set_option maxRecDepth 20000 in
theorem gX5_longShift_X5_losesUnlikeSign : GoodIn wsX5_longShift (va_wsS RX5 164 yX5_losesUnlikeSign wsX5_losesUnlikeSign) := goodIn_app (goodIn_of _ (by decide +kernel)) ggX5_longShift_X5_losesUnlikeSign
set_option maxRecDepth 20000 in
theorem ggX5_longShift_X7_bit : GoodIn wsX5_longShift wsX7_bit := goodIn_r _ [31] (by decide +kernel) (by decide +kernel)
set_option maxRecDepth 20000 in
theorem gX5_longShift_X7_bit_n168 : GoodIn wsX5_longShift (wsX7_bit) := ggX5_longShift_X7_bit
theorem dX5_longShift_0 : decode cX5_longShift 0 = .ok (.iload_n 1, 1) := by decide +kernel
theorem dX5_longShift_1 : decode cX5_longShift 1 = .ok (.bipush 15, 2) := by decide +kernel
theorem dX5_longShift_3 : decode cX5_longShift 3 = .ok (.iand, 1) := by decide +kernel
theorem dX5_longShift_4 : decode cX5_longShift 4 = .ok (.ifCond .ne 8, 3) := by decide +kernel
theorem dX5_longShift_7 : decode cX5_longShift 7 = .ok (.bipush 16, 2) := by decide +kernel
theorem dX5_longShift_9 : decode cX5_longShift 9 = .ok (.goto 7, 3) := by decide +kernel
theorem dX5_longShift_12 : decode cX5_longShift 12 = .ok (.iload_n 1, 1) := by decide +kernel
theorem dX5_longShift_13 : decode cX5_longShift 13 = .ok (.bipush 15, 2) := by decide +kernel
theorem dX5_longShift_15 : decode cX5_longShift 15 = .ok (.iand, 1) := by decide +kernel
theorem dX5_longShift_16 : decode cX5_longShift 16 = .ok (.istore_n 2, 1) := by decide +kernel
theorem dX5_longShift_17 : decode cX5_longShift 17 = .ok (.aload_n 0, 1) := by decide +kernel
theorem dX5_longShift_18 : decode cX5_longShift 18 = .ok (.invokevirtual 154, 3) := by decide +kernel
theorem dX5_longShift_21 : decode cX5_longShift 21 = .ok (.istore_n 3, 1) := by decide +kernel
theorem dX5_longShift_22 : decode cX5_longShift 22 = .ok (.iload_n 1, 1) := by decide +kernel
theorem dX5_longShift_23 : decode cX5_longShift 23 = .ok (.ldc 161, 2) := by decide +kernel
theorem dX5_longShift_25 : decode cX5_longShift 25 = .ok (.iand, 1) := by decide +kernel
theorem dX5_longShift_26 : decode cX5_longShift 26 = .ok (.lookupswitch 163 #[(32784, 58), (32800, 109), (32832, 129), (33296, 91), (33312, 119), (33344, 146)], 58) := by decide +kernel
theorem dX5_longShift_84 : decode cX5_longShift 84 = .ok (.aload_n 0, 1) := by decide +kernel
theorem dX5_longShift_85 : decode cX5_longShift 85 = .ok (.iload_n 3, 1) := by decide +kernel
theorem dX5_longShift_86 : decode cX5_longShift 86 = .ok (.ldc 162, 2) := by decide +kernel
theorem dX5_longShift_88 : decode cX5_longShift 88 = .ok (.iand, 1) := by decide +kernel
theorem dX5_longShift_89 : decode cX5_longShift 89 = .ok (.iload_n 3, 1) := by decide +kernel
theorem dX5_longShift_90 : decode cX5_longShift 90 = .ok (.iload_n 2, 1) := by decide +kernel
theorem dX5_longShift_91 : decode cX5_longShift 91 = .ok (.ishl, 1) := by decide +kernel
theorem dX5_longShift_92 : decode cX5_longShift 92 = .ok (.ldc 163, 2) := by decide +kernel
theorem dX5_longShift_94 : decode cX5_longShift 94 = .ok (.iand, 1) := by decide +kernel
theorem dX5_longShift_95 : decode cX5_longShift 95 = .ok (.ior, 1) := by decide +kernel
theorem dX5_longShift_96 : decode cX5_longShift 96 = .ok (.invokevirtual 151, 3) := by decide +kernel
theorem dX5_longShift_99 : decode cX5_longShift 99 = .ok (.aload_n 0, 1) := by decide +kernel
theorem dX5_longShift_100 : decode cX5_longShift 100 = .ok (.getfield 15, 3) := by decide +kernel
theorem dX5_longShift_103 : decode cX5_longShift 103 = .ok (.iload_n 3, 1) := by decide +kernel
theorem dX5_longShift_104 : decode cX5_longShift 104 = .ok (.iload_n 2, 1) := by decide +kernel
theorem dX5_longShift_105 : decode cX5_longShift 105 = .ok (.invokestatic 164, 3) := by decide +kernel
theorem dX5_longShift_108 : decode cX5_longShift 108 = .ok (.invokestatic 168, 3) := by decide +kernel
theorem dX5_longShift_111 : decode cX5_longShift 111 = .ok (.putfield 101, 3) := by decide +kernel
theorem dX5_longShift_114 : decode cX5_longShift 114 = .ok (.goto 75, 3) := by decide +kernel
theorem dX5_longShift_117 : decode cX5_longShift 117 = .ok (.aload_n 0, 1) := by decide +kernel
theorem dX5_longShift_118 : decode cX5_longShift 118 = .ok (.iload_n 3, 1) := by decide +kernel
theorem dX5_longShift_119 : decode cX5_longShift 119 = .ok (.iload_n 2, 1) := by decide +kernel
theorem dX5_longShift_120 : decode cX5_longShift 120 = .ok (.ishr, 1) := by decide +kernel
theorem dX5_longShift_121 : decode cX5_longShift 121 = .ok (.invokevirtual 151, 3) := by decide +kernel
theorem dX5_longShift_124 : decode cX5_longShift 124 = .ok (.aload_n 0, 1) := by decide +kernel
theorem dX5_longShift_125 : decode cX5_longShift 125 = .ok (.getfield 15, 3) := by decide +kernel
theorem dX5_longShift_128 : decode cX5_longShift 128 = .ok (.iconst 0, 1) := by decide +kernel
theorem dX5_longShift_129 : decode cX5_longShift 129 = .ok (.putfield 101, 3) := by decide +kernel
theorem dX5_longShift_132 : decode cX5_longShift 132 = .ok (.goto 57, 3) := by decide +kernel
theorem dX5_longShift_135 : decode cX5_longShift 135 = .ok (.aload_n 0, 1) := by decide +kernel
theorem dX5_longShift_136 : decode cX5_longShift 136 = .ok (.iload_n 3, 1) := by decide +kernel
theorem dX5_longShift_137 : decode cX5_longShift 137 = .ok (.iload_n 2, 1) := by decide +kernel
theorem dX5_longShift_138 : decode cX5_longShift 138 = .ok (.ishl, 1) := by decide +kernel
theorem dX5_longShift_139 : decode cX5_longShift 139 = .ok (.invokevirtual 151, 3) := by decide +kernel
theorem dX5_longShift_142 : decode cX5_longShift 142 = .ok (.goto 47, 3) := by decide +kernel
theorem dX5_longShift_145 : decode cX5_longShift 145 = .ok (.aload_n 0, 1) := by decide +kernel
theorem dX5_longShift_146 : decode cX5_longShift 146 = .ok (.iload_n 3, 1) := by decide +kernel
theorem dX5_longShift_147 : decode cX5_longShift 147 = .ok (.iload_n 2, 1) := by decide +kernel
theorem dX5_longShift_148 : decode cX5_longShift 148 = .ok (.iushr, 1) := by decide +kernel
theorem dX5_longShift_149 : decode cX5_longShift 149 = .ok (.invokevirtual 151, 3) := by decide +kernel
theorem dX5_longShift_152 : decode cX5_longShift 152 = .ok (.goto 37, 3) := by decide +kernel
theorem dX5_longShift_155 : decode cX5_longShift 155 = .ok (.aload_n 0, 1) := by decide +kernel
theorem dX5_longShift_156 : decode cX5_longShift 156 = .ok (.iload_n 3, 1) := by decide +kernel
theorem dX5_longShift_157 : decode cX5_longShift 157 = .ok (.iload_n 2, 1) := by decide +kernel
theorem dX5_longShift_158 : decode cX5_longShift 158 = .ok (.ishl, 1) := by decide +kernel
theorem dX5_longShift_159 : decode cX5_longShift 159 = .ok (.iload_n 3, 1) := by decide +kernel
theorem dX5_longShift_160 : decode cX5_longShift 160 = .ok (.bipush 32, 2) := by decide +kernel
theorem dX5_longShift_162 : decode cX5_longShift 162 = .ok (.iload_n 2, 1) := by decide +kernel
theorem dX5_longShift_163 : decode cX5_longShift 163 = .ok (.isub, 1) := by decide +kernel
theorem dX5_longShift_164 : decode cX5_longShift 164 = .ok (.iushr, 1) := by decide +kernel
theorem dX5_longShift_165 : decode cX5_longShift 165 = .ok (.ior, 1) := by decide +kernel
theorem dX5_longShift_166 : decode cX5_longShift 166 = .ok (.invokevirtual 151, 3) := by decide +kernel
theorem dX5_longShift_169 : decode cX5_longShift 169 = .ok (.goto 20, 3) := by decide +kernel
theorem dX5_longShift_172 : decode cX5_longShift 172 = .ok (.aload_n 0, 1) := by decide +kernel
theorem dX5_longShift_173 : decode cX5_longShift 173 = .ok (.iload_n 3, 1) := by decide +kernel
theorem dX5_longShift_174 : decode cX5_longShift 174 = .ok (.iload_n 2, 1) := by decide +kernel
theorem dX5_longShift_175 : decode cX5_longShift 175 = .ok (.iushr, 1) := by decide +kernel
theorem dX5_longShift_176 : decode cX5_longShift 176 = .ok (.iload_n 3, 1) := by decide +kernel
theorem dX5_longShift_177 : decode cX5_longShift 177 = .ok (.bipush 32, 2) := by decide +kernel
theorem dX5_longShift_179 : decode cX5_longShift 179 = .ok (.iload_n 2, 1) := by decide +kernel
theorem dX5_longShift_180 : decode cX5_longShift 180 = .ok (.isub, 1) := by decide +kernel
theorem dX5_longShift_181 : decode cX5_longShift 181 = .ok (.ishl, 1) := by decide +kernel
theorem dX5_longShift_182 : decode cX5_longShift 182 = .ok (.ior, 1) := by decide +kernel
theorem dX5_longShift_183 : decode cX5_longShift 183 = .ok (.invokevirtual 151, 3) := by decide +kernel
theorem dX5_longShift_186 : decode cX5_longShift 186 = .ok (.goto 3, 3) := by decide +kernel
theorem dX5_longShift_189 : decode cX5_longShift 189 = .ok (.return_, 1) := by decide +kernel
theorem dX5_losesUnlikeSign_0 : decode cX5_losesUnlikeSign 0 = .ok (.iload_n 0, 1) := by decide +kernel
theorem dX5_losesUnlikeSign_1 : decode cX5_losesUnlikeSign 1 = .ok (.ldc 163, 2) := by decide +kernel
theorem dX5_losesUnlikeSign_3 : decode cX5_losesUnlikeSign 3 = .ok (.iand, 1) := by decide +kernel
theorem dX5_losesUnlikeSign_4 : decode cX5_losesUnlikeSign 4 = .ok (.bipush 31, 2) := by decide +kernel
theorem dX5_losesUnlikeSign_6 : decode cX5_losesUnlikeSign 6 = .ok (.iload_n 1, 1) := by decide +kernel
theorem dX5_losesUnlikeSign_7 : decode cX5_losesUnlikeSign 7 = .ok (.isub, 1) := by decide +kernel
theorem dX5_losesUnlikeSign_8 : decode cX5_losesUnlikeSign 8 = .ok (.iushr, 1) := by decide +kernel
theorem dX5_losesUnlikeSign_9 : decode cX5_losesUnlikeSign 9 = .ok (.istore_n 2, 1) := by decide +kernel
theorem dX5_losesUnlikeSign_10 : decode cX5_losesUnlikeSign 10 = .ok (.iload_n 0, 1) := by decide +kernel
theorem dX5_losesUnlikeSign_11 : decode cX5_losesUnlikeSign 11 = .ok (.ifCond .ge 11, 3) := by decide +kernel
theorem dX5_losesUnlikeSign_14 : decode cX5_losesUnlikeSign 14 = .ok (.iconst 1, 1) := by decide +kernel
theorem dX5_losesUnlikeSign_15 : decode cX5_losesUnlikeSign 15 = .ok (.iload_n 1, 1) := by decide +kernel
theorem dX5_losesUnlikeSign_16 : decode cX5_losesUnlikeSign 16 = .ok (.ishl, 1) := by decide +kernel
theorem dX5_losesUnlikeSign_17 : decode cX5_losesUnlikeSign 17 = .ok (.iconst 1, 1) := by decide +kernel
theorem dX5_losesUnlikeSign_18 : decode cX5_losesUnlikeSign 18 = .ok (.isub, 1) := by decide +kernel
theorem dX5_losesUnlikeSign_19 : decode cX5_losesUnlikeSign 19 = .ok (.goto 4, 3) := by decide +kernel
theorem dX5_losesUnlikeSign_22 : decode cX5_losesUnlikeSign 22 = .ok (.iconst 0, 1) := by decide +kernel
theorem dX5_losesUnlikeSign_23 : decode cX5_losesUnlikeSign 23 = .ok (.istore_n 3, 1) := by decide +kernel
theorem dX5_losesUnlikeSign_24 : decode cX5_losesUnlikeSign 24 = .ok (.iload_n 2, 1) := by decide +kernel
theorem dX5_losesUnlikeSign_25 : decode cX5_losesUnlikeSign 25 = .ok (.iload_n 3, 1) := by decide +kernel
theorem dX5_losesUnlikeSign_26 : decode cX5_losesUnlikeSign 26 = .ok (.if_icmp .eq 7, 3) := by decide +kernel
theorem dX5_losesUnlikeSign_29 : decode cX5_losesUnlikeSign 29 = .ok (.iconst 1, 1) := by decide +kernel
theorem dX5_losesUnlikeSign_30 : decode cX5_losesUnlikeSign 30 = .ok (.goto 4, 3) := by decide +kernel
theorem dX5_losesUnlikeSign_33 : decode cX5_losesUnlikeSign 33 = .ok (.iconst 0, 1) := by decide +kernel
theorem dX5_losesUnlikeSign_34 : decode cX5_losesUnlikeSign 34 = .ok (.ireturn, 1) := by decide +kernel
theorem dX6_init_0 : decode cX6_init 0 = .ok (.aload_n 0, 1) := by decide +kernel
theorem dX6_init_1 : decode cX6_init 1 = .ok (.invokespecial 3, 3) := by decide +kernel
theorem dX6_init_4 : decode cX6_init 4 = .ok (.aload_n 0, 1) := by decide +kernel
theorem dX6_init_5 : decode cX6_init 5 = .ok (.iconst (-1), 1) := by decide +kernel
theorem dX6_init_6 : decode cX6_init 6 = .ok (.putfield 9, 3) := by decide +kernel
theorem dX6_init_9 : decode cX6_init 9 = .ok (.return_, 1) := by decide +kernel
theorem dX6_stepOn_0 : decode cX6_stepOn 0 = .ok (.aload_n 0, 1) := by decide +kernel
theorem dX6_stepOn_1 : decode cX6_stepOn 1 = .ok (.aload_n 0, 1) := by decide +kernel
theorem dX6_stepOn_2 : decode cX6_stepOn 2 = .ok (.getfield 15, 3) := by decide +kernel
theorem dX6_stepOn_5 : decode cX6_stepOn 5 = .ok (.iconst 1, 1) := by decide +kernel
theorem dX6_stepOn_6 : decode cX6_stepOn 6 = .ok (.iadd, 1) := by decide +kernel
theorem dX6_stepOn_7 : decode cX6_stepOn 7 = .ok (.sipush 32767, 3) := by decide +kernel
theorem dX6_stepOn_10 : decode cX6_stepOn 10 = .ok (.iand, 1) := by decide +kernel
theorem dX6_stepOn_11 : decode cX6_stepOn 11 = .ok (.putfield 15, 3) := by decide +kernel
theorem dX6_stepOn_14 : decode cX6_stepOn 14 = .ok (.return_, 1) := by decide +kernel
theorem dX6_halt_0 : decode cX6_halt 0 = .ok (.aload_n 0, 1) := by decide +kernel
theorem dX6_halt_1 : decode cX6_halt 1 = .ok (.iconst 1, 1) := by decide +kernel
theorem dX6_halt_2 : decode cX6_halt 2 = .ok (.putfield 18, 3) := by decide +kernel
theorem dX6_halt_5 : decode cX6_halt 5 = .ok (.aload_n 0, 1) := by decide +kernel
theorem dX6_halt_6 : decode cX6_halt 6 = .ok (.iload_n 1, 1) := by decide +kernel
theorem dX6_halt_7 : decode cX6_halt 7 = .ok (.putfield 9, 3) := by decide +kernel
theorem dX6_halt_10 : decode cX6_halt 10 = .ok (.return_, 1) := by decide +kernel
set_option maxRecDepth 20000 in
theorem ggX7_init_X4_init : GoodIn wsX7_init wsX4_init := goodIn_r _ [22, 23, 2, 3, 24, 25, 71] (by decide +kernel) (by decide +kernel)
set_option maxRecDepth 20000 in
theorem gX7_init_X4_init_n9 : GoodIn wsX7_init (wsX4_init) := ggX7_init_X4_init
set_option maxRecDepth 20000 in
theorem ggX7_init_X6_init : GoodIn wsX7_init wsX6_init := goodIn_r _ [27, 28, 2, 3, 29, 79, 80, 81, 82, 83, 84] (by decide +kernel) (by decide +kernel)
set_option maxRecDepth 20000 in
theorem gX7_init_X6_init_n18 : GoodIn wsX7_init (wsX6_init) := ggX7_init_X6_init
set_option maxRecDepth 20000 in
theorem ggX7_init_X0_init : GoodIn wsX7_init wsX0_init := goodIn_r _ [32, 33, 2, 3, 34, 35, 36, 37, 38, 39, 40, 41, 42, 43, 44, 45, 46, 47, 48, 49, 50, 51, 52, 53, 54, 55, 56, 57, 58, 59, 24, 60, 61, 62, 63, 85, 86, 87, 88, 89, 90, 91, 95, 96, 97, 98, 99, 100, 101, 102, 103, 104, 105, 106, 107, 108, 109, 110, 111, 112, 113, 114, 115] (by decide +kernel) (by decide +kernel)
set_option maxRecDepth 20000 in
theorem gX7_init_X0_init : GoodIn wsX7_init (wsX0_init) := ggX7_init_X0_init
set_option maxRecDepth 20000 in
theorem ggX7_init_X5_init : GoodIn wsX7_init wsX5_init := goodIn_r _ [66, 67, 2, 3, 68, 69, 70, 92, 93, 94] (by decide +kernel) (by decide +kernel)
set_option maxRecDepth 20000 in
theorem gX7_init_X5_init : GoodIn wsX7_init (wsX5_init) := ggX7_init_X5_init
theorem dX7_init_0 : decode cX7_init 0 = .ok (.aload_n 0, 1) := by decide +kernel
theorem dX7_init_1 : decode cX7_init 1 = .ok (.invokespecial 1, 3) := by decide +kernel
theorem dX7_init_4 : decode cX7_init 4 = .ok (.aload_n 0, 1) := by decide +kernel
theorem dX7_init_5 : decode cX7_init 5 = .ok (.new 7, 3) := by decide +kernel
theorem dX7_init_8 : decode cX7_init 8 = .ok (.dup, 1) := by decide +kernel
theorem dX7_init_9 : decode cX7_init 9 = .ok (.invokespecial 9, 3) := by decide +kernel
theorem dX7_init_12 : decode cX7_init 12 = .ok (.putfield 10, 3) := by decide +kernel
theorem dX7_init_15 : decode cX7_init 15 = .ok (.aload_n 0, 1) := by decide +kernel
theorem dX7_init_16 : decode cX7_init 16 = .ok (.new 16, 3) := by decide +kernel
theorem dX7_init_19 : decode cX7_init 19 = .ok (.dup, 1) := by decide +kernel
theorem dX7_init_20 : decode cX7_init 20 = .ok (.invokespecial 18, 3) := by decide +kernel
theorem dX7_init_23 : decode cX7_init 23 = .ok (.putfield 19, 3) := by decide +kernel
theorem dX7_init_26 : decode cX7_init 26 = .ok (.aload_n 0, 1) := by decide +kernel
theorem dX7_init_27 : decode cX7_init 27 = .ok (.new 23, 3) := by decide +kernel
theorem dX7_init_30 : decode cX7_init 30 = .ok (.dup, 1) := by decide +kernel
theorem dX7_init_31 : decode cX7_init 31 = .ok (.aload_n 0, 1) := by decide +kernel
theorem dX7_init_32 : decode cX7_init 32 = .ok (.getfield 19, 3) := by decide +kernel
theorem dX7_init_35 : decode cX7_init 35 = .ok (.invokespecial 25, 3) := by decide +kernel
theorem dX7_init_38 : decode cX7_init 38 = .ok (.putfield 28, 3) := by decide +kernel
theorem dX7_init_41 : decode cX7_init 41 = .ok (.aload_n 0, 1) := by decide +kernel
theorem dX7_init_42 : decode cX7_init 42 = .ok (.new 32, 3) := by decide +kernel
theorem dX7_init_45 : decode cX7_init 45 = .ok (.dup, 1) := by decide +kernel
theorem dX7_init_46 : decode cX7_init 46 = .ok (.aload_n 0, 1) := by decide +kernel
theorem dX7_init_47 : decode cX7_init 47 = .ok (.getfield 10, 3) := by decide +kernel
theorem dX7_init_50 : decode cX7_init 50 = .ok (.aload_n 0, 1) := by decide +kernel
theorem dX7_init_51 : decode cX7_init 51 = .ok (.getfield 19, 3) := by decide +kernel
theorem dX7_init_54 : decode cX7_init 54 = .ok (.aload_n 0, 1) := by decide +kernel
theorem dX7_init_55 : decode cX7_init 55 = .ok (.getfield 28, 3) := by decide +kernel
theorem dX7_init_58 : decode cX7_init 58 = .ok (.invokespecial 34, 3) := by decide +kernel
theorem dX7_init_61 : decode cX7_init 61 = .ok (.putfield 37, 3) := by decide +kernel
theorem dX7_init_64 : decode cX7_init 64 = .ok (.aload_n 0, 1) := by decide +kernel
theorem dX7_init_65 : decode cX7_init 65 = .ok (.iconst (-1), 1) := by decide +kernel
theorem dX7_init_66 : decode cX7_init 66 = .ok (.putfield 41, 3) := by decide +kernel
theorem dX7_init_69 : decode cX7_init 69 = .ok (.return_, 1) := by decide +kernel
set_option maxRecDepth 20000 in
theorem ggX7_run_X7_doTurn : GoodIn wsX7_run wsX7_doTurn := goodIn_r _ [9, 10, 11, 3, 12, 13, 14, 15, 16, 17, 18, 19, 20, 21, 22, 23, 24, 25, 26, 27, 28, 29, 30, 31, 32, 33, 34, 35, 36, 37, 38, 39, 40, 41, 42, 43, 44, 45, 46, 47, 48, 49, 50, 51, 52, 53, 54, 55, 56, 57, 58, 59, 60, 61, 62, 63, 64, 65, 66, 67, 68, 69, 70, 71, 72, 73, 74, 75, 76, 77, 78, 79, 80, 81, 82, 83, 84, 85, 86, 87, 88, 89, 90, 91, 92, 93, 94, 95, 96, 97, 98, 99, 100, 101, 102, 103, 104, 105, 106, 107, 108, 109, 110, 111, 112, 113, 114, 115, 116, 117, 118, 119, 120, 121, 122, 123, 124, 125, 126, 127, 128, 129, 130, 131, 132, 133, 134, 135, 136, 137, 138, 139, 140, 141, 142, 143, 144, 145, 146, 147, 148, 149, 150, 151, 152, 153, 154, 155, 156, 157, 158, 159, 160, 161, 162, 163, 164, 165, 166, 167, 168, 169, 170, 171, 172, 173, 174, 175, 176, 177, 178, 179, 180, 181, 182, 183, 184, 185, 186, 187, 188, 189, 190, 191, 192, 193, 194, 195, 8, 196, 197, 198, 199, 200, 201, 202, 203, 204, 205, 206, 207, 208, 209, 210, 211, 212, 213, 214, 215, 216, 217, 218, 219, 220, 221, 222, 223, 224, 225, 226, 227, 228, 229, 230, 231, 232, 233, 234, 235, 236, 237, 238, 239, 240, 241, 242, 243, 244, 245, 246, 247, 248, 249, 250, 251, 252, 253, 254, 255, 256, 257, 258, 259, 260, 261, 262, 263, 264, 265, 266, 267, 268, 269, 270, 271, 272, 273, 274, 275, 276, 277, 278, 279, 280, 281, 282, 283, 284, 291, 292, 293, 294, 295, 296, 297, 285, 286, 287, 288, 289, 290, 298, 299, 300, 301, 302, 303, 304, 305, 306, 307, 308, 309, 310, 311, 312, 313, 314, 315, 316, 317, 318, 319, 320, 321, 322] (by decide +kernel) (by decide +kernel)
set_option maxRecDepth 20000 in
theorem gX7_run_X7_doTurn : GoodIn wsX7_run (wsV RX7 56 RX7 yX7_doTurn wsX7_doTurn) := goodIn_app (goodIn_of _ (by decide +kernel)) ggX7_run_X7_doTurn
theorem dX7_run_0 : decode cX7_run 0 = .ok (.iload_n 1, 1) := by decide +kernel
theorem dX7_run_1 : decode cX7_run 1 = .ok (.ifCond .lt 10, 3) := by decide +kernel
theorem dX7_run_4 : decode cX7_run 4 = .ok (.iload_n 1, 1) := by decide +kernel
theorem dX7_run_5 : decode cX7_run 5 = .ok (.sipush 2000, 3) := by decide +kernel
theorem dX7_run_8 : decode cX7_run 8 = .ok (.if_icmp .le 13, 3) := by decide +kernel
theorem dX7_run_11 : decode cX7_run 11 = .ok (.new 45, 3) := by decide +kernel
theorem dX7_run_14 : decode cX7_run 14 = .ok (.dup, 1) := by decide +kernel
theorem dX7_run_15 : decode cX7_run 15 = .ok (.ldc 47, 2) := by decide +kernel
theorem dX7_run_17 : decode cX7_run 17 = .ok (.invokespecial 49, 3) := by decide +kernel
theorem dX7_run_20 : decode cX7_run 20 = .ok (.athrow, 1) := by decide +kernel
theorem dX7_run_21 : decode cX7_run 21 = .ok (.iconst 0, 1) := by decide +kernel
theorem dX7_run_22 : decode cX7_run 22 = .ok (.istore_n 2, 1) := by decide +kernel
theorem dX7_run_23 : decode cX7_run 23 = .ok (.iload_n 2, 1) := by decide +kernel
theorem dX7_run_24 : decode cX7_run 24 = .ok (.iload_n 1, 1) := by decide +kernel
theorem dX7_run_25 : decode cX7_run 25 = .ok (.if_icmp .ge 23, 3) := by decide +kernel
theorem dX7_run_28 : decode cX7_run 28 = .ok (.aload_n 0, 1) := by decide +kernel
theorem dX7_run_29 : decode cX7_run 29 = .ok (.getfield 19, 3) := by decide +kernel
theorem dX7_run_32 : decode cX7_run 32 = .ok (.getfield 52, 3) := by decide +kernel
theorem dX7_run_35 : decode cX7_run 35 = .ok (.ifCond .ne 13, 3) := by decide +kernel
theorem dX7_run_38 : decode cX7_run 38 = .ok (.aload_n 0, 1) := by decide +kernel
theorem dX7_run_39 : decode cX7_run 39 = .ok (.invokevirtual 56, 3) := by decide +kernel
theorem dX7_run_42 : decode cX7_run 42 = .ok (.iinc 2 1, 3) := by decide +kernel
theorem dX7_run_45 : decode cX7_run 45 = .ok (.goto (-22), 3) := by decide +kernel
theorem dX7_run_48 : decode cX7_run 48 = .ok (.aload_n 0, 1) := by decide +kernel
theorem dX7_run_49 : decode cX7_run 49 = .ok (.dup, 1) := by decide +kernel
theorem dX7_run_50 : decode cX7_run 50 = .ok (.getfield 59, 3) := by decide +kernel
theorem dX7_run_53 : decode cX7_run 53 = .ok (.iload_n 2, 1) := by decide +kernel
theorem dX7_run_54 : decode cX7_run 54 = .ok (.iadd, 1) := by decide +kernel
theorem dX7_run_55 : decode cX7_run 55 = .ok (.putfield 59, 3) := by decide +kernel
theorem dX7_run_58 : decode cX7_run 58 = .ok (.iload_n 2, 1) := by decide +kernel
theorem dX7_run_59 : decode cX7_run 59 = .ok (.ireturn, 1) := by decide +kernel
theorem dX7_go_0 : decode cX7_go 0 = .ok (.aload_n 0, 1) := by decide +kernel
theorem dX7_go_1 : decode cX7_go 1 = .ok (.getfield 19, 3) := by decide +kernel
theorem dX7_go_4 : decode cX7_go 4 = .ok (.iconst 0, 1) := by decide +kernel
theorem dX7_go_5 : decode cX7_go 5 = .ok (.putfield 52, 3) := by decide +kernel
theorem dX7_go_8 : decode cX7_go 8 = .ok (.iload_n 1, 1) := by decide +kernel
theorem dX7_go_9 : decode cX7_go 9 = .ok (.iconst (-1), 1) := by decide +kernel
theorem dX7_go_10 : decode cX7_go 10 = .ok (.if_icmp .eq 15, 3) := by decide +kernel
theorem dX7_go_13 : decode cX7_go 13 = .ok (.aload_n 0, 1) := by decide +kernel
theorem dX7_go_14 : decode cX7_go 14 = .ok (.getfield 19, 3) := by decide +kernel
theorem dX7_go_17 : decode cX7_go 17 = .ok (.iload_n 1, 1) := by decide +kernel
theorem dX7_go_18 : decode cX7_go 18 = .ok (.sipush 32767, 3) := by decide +kernel
theorem dX7_go_21 : decode cX7_go 21 = .ok (.iand, 1) := by decide +kernel
theorem dX7_go_22 : decode cX7_go 22 = .ok (.putfield 62, 3) := by decide +kernel
theorem dX7_go_25 : decode cX7_go 25 = .ok (.return_, 1) := by decide +kernel
set_option maxRecDepth 20000 in
theorem ggX7_word_X4_read : GoodIn wsX7_word wsX4_read := goodIn_r _ [8, 9, 17] (by decide +kernel) (by decide +kernel)
set_option maxRecDepth 20000 in
theorem gX7_word_X4_read : GoodIn wsX7_word (wsV RX7 70 RX4 yX4_read wsX4_read) := goodIn_app (goodIn_of _ (by decide +kernel)) ggX7_word_X4_read
theorem dX7_word_0 : decode cX7_word 0 = .ok (.iload_n 1, 1) := by decide +kernel
theorem dX7_word_1 : decode cX7_word 1 = .ok (.ifCond .lt 10, 3) := by decide +kernel
theorem dX7_word_4 : decode cX7_word 4 = .ok (.iload_n 1, 1) := by decide +kernel
theorem dX7_word_5 : decode cX7_word 5 = .ok (.sipush 4096, 3) := by decide +kernel
theorem dX7_word_8 : decode cX7_word 8 = .ok (.if_icmp .lt 13, 3) := by decide +kernel
theorem dX7_word_11 : decode cX7_word 11 = .ok (.new 65, 3) := by decide +kernel
theorem dX7_word_14 : decode cX7_word 14 = .ok (.dup, 1) := by decide +kernel
theorem dX7_word_15 : decode cX7_word 15 = .ok (.ldc 67, 2) := by decide +kernel
theorem dX7_word_17 : decode cX7_word 17 = .ok (.invokespecial 69, 3) := by decide +kernel
theorem dX7_word_20 : decode cX7_word 20 = .ok (.athrow, 1) := by decide +kernel
theorem dX7_word_21 : decode cX7_word 21 = .ok (.aload_n 0, 1) := by decide +kernel
theorem dX7_word_22 : decode cX7_word 22 = .ok (.getfield 10, 3) := by decide +kernel
theorem dX7_word_25 : decode cX7_word 25 = .ok (.iload_n 1, 1) := by decide +kernel
theorem dX7_word_26 : decode cX7_word 26 = .ok (.invokevirtual 70, 3) := by decide +kernel
theorem dX7_word_29 : decode cX7_word 29 = .ok (.ireturn, 1) := by decide +kernel
set_option maxRecDepth 20000 in
theorem ggX7_set_X4_write : GoodIn wsX7_set wsX4_write := goodIn_r _ [8, 9, 10, 18] (by decide +kernel) (by decide +kernel)
set_option maxRecDepth 20000 in
theorem gX7_set_X4_write : GoodIn wsX7_set (wsV RX7 74 RX4 yX4_write wsX4_write) := goodIn_app (goodIn_of _ (by decide +kernel)) ggX7_set_X4_write
theorem dX7_set_0 : decode cX7_set 0 = .ok (.iload_n 1, 1) := by decide +kernel
theorem dX7_set_1 : decode cX7_set 1 = .ok (.ifCond .lt 10, 3) := by decide +kernel
theorem dX7_set_4 : decode cX7_set 4 = .ok (.iload_n 1, 1) := by decide +kernel
theorem dX7_set_5 : decode cX7_set 5 = .ok (.sipush 4096, 3) := by decide +kernel
theorem dX7_set_8 : decode cX7_set 8 = .ok (.if_icmp .lt 13, 3) := by decide +kernel
theorem dX7_set_11 : decode cX7_set 11 = .ok (.new 65, 3) := by decide +kernel
theorem dX7_set_14 : decode cX7_set 14 = .ok (.dup, 1) := by decide +kernel
theorem dX7_set_15 : decode cX7_set 15 = .ok (.ldc 67, 2) := by decide +kernel
theorem dX7_set_17 : decode cX7_set 17 = .ok (.invokespecial 69, 3) := by decide +kernel
theorem dX7_set_20 : decode cX7_set 20 = .ok (.athrow, 1) := by decide +kernel
theorem dX7_set_21 : decode cX7_set 21 = .ok (.aload_n 0, 1) := by decide +kernel
theorem dX7_set_22 : decode cX7_set 22 = .ok (.getfield 10, 3) := by decide +kernel
theorem dX7_set_25 : decode cX7_set 25 = .ok (.iload_n 1, 1) := by decide +kernel
theorem dX7_set_26 : decode cX7_set 26 = .ok (.iload_n 2, 1) := by decide +kernel
theorem dX7_set_27 : decode cX7_set 27 = .ok (.invokevirtual 74, 3) := by decide +kernel
theorem dX7_set_30 : decode cX7_set 30 = .ok (.return_, 1) := by decide +kernel
set_option maxRecDepth 20000 in
theorem ggX7_state_X4_read : GoodIn wsX7_state wsX4_read := goodIn_r _ [11, 12, 37] (by decide +kernel) (by decide +kernel)
set_option maxRecDepth 20000 in
theorem gX7_state_X4_read : GoodIn wsX7_state (wsV RX7 70 RX4 yX4_read wsX4_read) := goodIn_app (goodIn_of _ (by decide +kernel)) ggX7_state_X4_read
set_option maxRecDepth 20000 in
theorem ggX7_state_X7_bit : GoodIn wsX7_state wsX7_bit := goodIn_r _ [16] (by decide +kernel) (by decide +kernel)
set_option maxRecDepth 20000 in
theorem gX7_state_X7_bit : GoodIn wsX7_state (va_wsS RX7 87 yX7_bit wsX7_bit) := goodIn_app (goodIn_of _ (by decide +kernel)) ggX7_state_X7_bit
theorem dX7_state_0 : decode cX7_state 0 = .ok (.iload_n 1, 1) := by decide +kernel
theorem dX7_state_1 : decode cX7_state 1 = .ok (.tableswitch 173 0 12 #[67, 76, 85, 93, 101, 109, 120, 131, 142, 150, 158, 163, 168], 67) := by decide +kernel
theorem dX7_state_68 : decode cX7_state 68 = .ok (.aload_n 0, 1) := by decide +kernel
theorem dX7_state_69 : decode cX7_state 69 = .ok (.getfield 10, 3) := by decide +kernel
theorem dX7_state_72 : decode cX7_state 72 = .ok (.iconst 0, 1) := by decide +kernel
theorem dX7_state_73 : decode cX7_state 73 = .ok (.invokevirtual 70, 3) := by decide +kernel
theorem dX7_state_76 : decode cX7_state 76 = .ok (.ireturn, 1) := by decide +kernel
theorem dX7_state_77 : decode cX7_state 77 = .ok (.aload_n 0, 1) := by decide +kernel
theorem dX7_state_78 : decode cX7_state 78 = .ok (.getfield 10, 3) := by decide +kernel
theorem dX7_state_81 : decode cX7_state 81 = .ok (.iconst 1, 1) := by decide +kernel
theorem dX7_state_82 : decode cX7_state 82 = .ok (.invokevirtual 70, 3) := by decide +kernel
theorem dX7_state_85 : decode cX7_state 85 = .ok (.ireturn, 1) := by decide +kernel
theorem dX7_state_86 : decode cX7_state 86 = .ok (.aload_n 0, 1) := by decide +kernel
theorem dX7_state_87 : decode cX7_state 87 = .ok (.getfield 19, 3) := by decide +kernel
theorem dX7_state_90 : decode cX7_state 90 = .ok (.getfield 62, 3) := by decide +kernel
theorem dX7_state_93 : decode cX7_state 93 = .ok (.ireturn, 1) := by decide +kernel
theorem dX7_state_94 : decode cX7_state 94 = .ok (.aload_n 0, 1) := by decide +kernel
theorem dX7_state_95 : decode cX7_state 95 = .ok (.getfield 19, 3) := by decide +kernel
theorem dX7_state_98 : decode cX7_state 98 = .ok (.getfield 78, 3) := by decide +kernel
theorem dX7_state_101 : decode cX7_state 101 = .ok (.ireturn, 1) := by decide +kernel
theorem dX7_state_102 : decode cX7_state 102 = .ok (.aload_n 0, 1) := by decide +kernel
theorem dX7_state_103 : decode cX7_state 103 = .ok (.getfield 19, 3) := by decide +kernel
theorem dX7_state_106 : decode cX7_state 106 = .ok (.getfield 81, 3) := by decide +kernel
theorem dX7_state_109 : decode cX7_state 109 = .ok (.ireturn, 1) := by decide +kernel
theorem dX7_state_110 : decode cX7_state 110 = .ok (.aload_n 0, 1) := by decide +kernel
theorem dX7_state_111 : decode cX7_state 111 = .ok (.getfield 28, 3) := by decide +kernel
theorem dX7_state_114 : decode cX7_state 114 = .ok (.getfield 84, 3) := by decide +kernel
theorem dX7_state_117 : decode cX7_state 117 = .ok (.invokestatic 87, 3) := by decide +kernel
theorem dX7_state_120 : decode cX7_state 120 = .ok (.ireturn, 1) := by decide +kernel
theorem dX7_state_121 : decode cX7_state 121 = .ok (.aload_n 0, 1) := by decide +kernel
theorem dX7_state_122 : decode cX7_state 122 = .ok (.getfield 19, 3) := by decide +kernel
theorem dX7_state_125 : decode cX7_state 125 = .ok (.getfield 91, 3) := by decide +kernel
theorem dX7_state_128 : decode cX7_state 128 = .ok (.invokestatic 87, 3) := by decide +kernel
theorem dX7_state_131 : decode cX7_state 131 = .ok (.ireturn, 1) := by decide +kernel
theorem dX7_state_132 : decode cX7_state 132 = .ok (.aload_n 0, 1) := by decide +kernel
theorem dX7_state_133 : decode cX7_state 133 = .ok (.getfield 19, 3) := by decide +kernel
theorem dX7_state_136 : decode cX7_state 136 = .ok (.getfield 52, 3) := by decide +kernel
theorem dX7_state_139 : decode cX7_state 139 = .ok (.invokestatic 87, 3) := by decide +kernel
theorem dX7_state_142 : decode cX7_state 142 = .ok (.ireturn, 1) := by decide +kernel
theorem dX7_state_143 : decode cX7_state 143 = .ok (.aload_n 0, 1) := by decide +kernel
theorem dX7_state_144 : decode cX7_state 144 = .ok (.getfield 19, 3) := by decide +kernel
theorem dX7_state_147 : decode cX7_state 147 = .ok (.getfield 94, 3) := by decide +kernel
theorem dX7_state_150 : decode cX7_state 150 = .ok (.ireturn, 1) := by decide +kernel
theorem dX7_state_151 : decode cX7_state 151 = .ok (.aload_n 0, 1) := by decide +kernel
theorem dX7_state_152 : decode cX7_state 152 = .ok (.getfield 28, 3) := by decide +kernel
theorem dX7_state_155 : decode cX7_state 155 = .ok (.getfield 97, 3) := by decide +kernel
theorem dX7_state_158 : decode cX7_state 158 = .ok (.ireturn, 1) := by decide +kernel
theorem dX7_state_159 : decode cX7_state 159 = .ok (.aload_n 0, 1) := by decide +kernel
theorem dX7_state_160 : decode cX7_state 160 = .ok (.getfield 59, 3) := by decide +kernel
theorem dX7_state_163 : decode cX7_state 163 = .ok (.ireturn, 1) := by decide +kernel
theorem dX7_state_164 : decode cX7_state 164 = .ok (.aload_n 0, 1) := by decide +kernel
theorem dX7_state_165 : decode cX7_state 165 = .ok (.getfield 100, 3) := by decide +kernel
theorem dX7_state_168 : decode cX7_state 168 = .ok (.ireturn, 1) := by decide +kernel
theorem dX7_state_169 : decode cX7_state 169 = .ok (.aload_n 0, 1) := by decide +kernel
theorem dX7_state_170 : decode cX7_state 170 = .ok (.getfield 41, 3) := by decide +kernel
theorem dX7_state_173 : decode cX7_state 173 = .ok (.ireturn, 1) := by decide +kernel
theorem dX7_state_174 : decode cX7_state 174 = .ok (.iconst (-1), 1) := by decide +kernel
theorem dX7_state_175 : decode cX7_state 175 = .ok (.ireturn, 1) := by decide +kernel
theorem dX7_switches_0 : decode cX7_switches 0 = .ok (.aload_n 0, 1) := by decide +kernel
theorem dX7_switches_1 : decode cX7_switches 1 = .ok (.getfield 28, 3) := by decide +kernel
theorem dX7_switches_4 : decode cX7_switches 4 = .ok (.iload_n 1, 1) := by decide +kernel
theorem dX7_switches_5 : decode cX7_switches 5 = .ok (.ldc 103, 2) := by decide +kernel
theorem dX7_switches_7 : decode cX7_switches 7 = .ok (.iand, 1) := by decide +kernel
theorem dX7_switches_8 : decode cX7_switches 8 = .ok (.putfield 104, 3) := by decide +kernel
theorem dX7_switches_11 : decode cX7_switches 11 = .ok (.return_, 1) := by decide +kernel
set_option maxRecDepth 20000 in
theorem ggX7_device_X0_deviceAt : GoodIn wsX7_device wsX0_deviceAt := goodIn_r _ [10, 11, 28, 29, 30, 31, 32, 33, 34] (by decide +kernel) (by decide +kernel)
set_option maxRecDepth 20000 in
theorem gX7_device_X0_deviceAt : GoodIn wsX7_device (wsV RX7 107 RX0 yX0_deviceAt wsX0_deviceAt) := goodIn_app (goodIn_of _ (by decide +kernel)) ggX7_device_X0_deviceAt
set_option maxRecDepth 20000 in
theorem ggX7_device_X2_equip : GoodIn wsX7_device wsX2_equip := goodIn_r _ [16, 17, 18, 19, 20, 35, 36, 37, 38, 39, 40, 41, 42, 43, 44] (by decide +kernel) (by decide +kernel)
set_option maxRecDepth 20000 in
theorem gX7_device_X2_equip : GoodIn wsX7_device (wsV RX7 115 RX2 yX2_equip wsX2_equip) := goodIn_app (goodIn_of _ (by decide +kernel)) ggX7_device_X2_equip
theorem dX7_device_0 : decode cX7_device 0 = .ok (.aload_n 0, 1) := by decide +kernel
theorem dX7_device_1 : decode cX7_device 1 = .ok (.getfield 28, 3) := by decide +kernel
theorem dX7_device_4 : decode cX7_device 4 = .ok (.iload_n 1, 1) := by decide +kernel
theorem dX7_device_5 : decode cX7_device 5 = .ok (.invokevirtual 107, 3) := by decide +kernel
theorem dX7_device_8 : decode cX7_device 8 = .ok (.astore 4, 2) := by decide +kernel
theorem dX7_device_10 : decode cX7_device 10 = .ok (.aload 4, 2) := by decide +kernel
theorem dX7_device_12 : decode cX7_device 12 = .ok (.ifnonnull 13, 3) := by decide +kernel
theorem dX7_device_15 : decode cX7_device 15 = .ok (.new 65, 3) := by decide +kernel
theorem dX7_device_18 : decode cX7_device 18 = .ok (.dup, 1) := by decide +kernel
theorem dX7_device_19 : decode cX7_device 19 = .ok (.ldc 111, 2) := by decide +kernel
theorem dX7_device_21 : decode cX7_device 21 = .ok (.invokespecial 69, 3) := by decide +kernel
theorem dX7_device_24 : decode cX7_device 24 = .ok (.athrow, 1) := by decide +kernel
theorem dX7_device_25 : decode cX7_device 25 = .ok (.iload_n 3, 1) := by decide +kernel
theorem dX7_device_26 : decode cX7_device 26 = .ok (.iconst 1, 1) := by decide +kernel
theorem dX7_device_27 : decode cX7_device 27 = .ok (.if_icmp .lt 9, 3) := by decide +kernel
theorem dX7_device_30 : decode cX7_device 30 = .ok (.iload_n 3, 1) := by decide +kernel
theorem dX7_device_31 : decode cX7_device 31 = .ok (.bipush 100, 2) := by decide +kernel
theorem dX7_device_33 : decode cX7_device 33 = .ok (.if_icmp .le 13, 3) := by decide +kernel
theorem dX7_device_36 : decode cX7_device 36 = .ok (.new 45, 3) := by decide +kernel
theorem dX7_device_39 : decode cX7_device 39 = .ok (.dup, 1) := by decide +kernel
theorem dX7_device_40 : decode cX7_device 40 = .ok (.ldc 113, 2) := by decide +kernel
theorem dX7_device_42 : decode cX7_device 42 = .ok (.invokespecial 49, 3) := by decide +kernel
theorem dX7_device_45 : decode cX7_device 45 = .ok (.athrow, 1) := by decide +kernel
theorem dX7_device_46 : decode cX7_device 46 = .ok (.aload 4, 2) := by decide +kernel
theorem dX7_device_48 : decode cX7_device 48 = .ok (.iload_n 2, 1) := by decide +kernel
theorem dX7_device_49 : decode cX7_device 49 = .ok (.iload_n 3, 1) := by decide +kernel
theorem dX7_device_50 : decode cX7_device 50 = .ok (.invokevirtual 115, 3) := by decide +kernel
theorem dX7_device_53 : decode cX7_device 53 = .ok (.return_, 1) := by decide +kernel
set_option maxRecDepth 20000 in
theorem ggX7_give_X0_deviceAt : GoodIn wsX7_give wsX0_deviceAt := goodIn_r _ [11, 12, 38, 39, 40, 41, 42, 43, 44] (by decide +kernel) (by decide +kernel)
set_option maxRecDepth 20000 in
theorem gX7_give_X0_deviceAt : GoodIn wsX7_give (wsV RX7 107 RX0 yX0_deviceAt wsX0_deviceAt) := goodIn_app (goodIn_of _ (by decide +kernel)) ggX7_give_X0_deviceAt
set_option maxRecDepth 20000 in
theorem ggX7_give_X2_putOnTape : GoodIn wsX7_give wsX2_putOnTape := goodIn_r _ [17, 18, 19, 20, 28, 29, 30, 31, 32, 33, 34, 35, 36, 37] (by decide +kernel) (by decide +kernel)
set_option maxRecDepth 20000 in
theorem gX7_give_X2_putOnTape : GoodIn wsX7_give (wsV RX7 129 RX2 yX2_putOnTape wsX2_putOnTape) := goodIn_app (goodIn_of _ (by decide +kernel)) ggX7_give_X2_putOnTape
theorem dX7_give_0 : decode cX7_give 0 = .ok (.aload_n 0, 1) := by decide +kernel
theorem dX7_give_1 : decode cX7_give 1 = .ok (.getfield 28, 3) := by decide +kernel
theorem dX7_give_4 : decode cX7_give 4 = .ok (.iload_n 1, 1) := by decide +kernel
theorem dX7_give_5 : decode cX7_give 5 = .ok (.invokevirtual 107, 3) := by decide +kernel
theorem dX7_give_8 : decode cX7_give 8 = .ok (.astore_n 3, 1) := by decide +kernel
theorem dX7_give_9 : decode cX7_give 9 = .ok (.aload_n 3, 1) := by decide +kernel
theorem dX7_give_10 : decode cX7_give 10 = .ok (.ifnonnull 13, 3) := by decide +kernel
theorem dX7_give_13 : decode cX7_give 13 = .ok (.new 65, 3) := by decide +kernel
theorem dX7_give_16 : decode cX7_give 16 = .ok (.dup, 1) := by decide +kernel
theorem dX7_give_17 : decode cX7_give 17 = .ok (.ldc 111, 2) := by decide +kernel
theorem dX7_give_19 : decode cX7_give 19 = .ok (.invokespecial 69, 3) := by decide +kernel
theorem dX7_give_22 : decode cX7_give 22 = .ok (.athrow, 1) := by decide +kernel
theorem dX7_give_23 : decode cX7_give 23 = .ok (.aload_n 3, 1) := by decide +kernel
theorem dX7_give_24 : decode cX7_give 24 = .ok (.getfield 121, 3) := by decide +kernel
theorem dX7_give_27 : decode cX7_give 27 = .ok (.bipush 100, 2) := by decide +kernel
theorem dX7_give_29 : decode cX7_give 29 = .ok (.if_icmp .lt 13, 3) := by decide +kernel
theorem dX7_give_32 : decode cX7_give 32 = .ok (.new 124, 3) := by decide +kernel
theorem dX7_give_35 : decode cX7_give 35 = .ok (.dup, 1) := by decide +kernel
theorem dX7_give_36 : decode cX7_give 36 = .ok (.ldc 126, 2) := by decide +kernel
theorem dX7_give_38 : decode cX7_give 38 = .ok (.invokespecial 128, 3) := by decide +kernel
theorem dX7_give_41 : decode cX7_give 41 = .ok (.athrow, 1) := by decide +kernel
theorem dX7_give_42 : decode cX7_give 42 = .ok (.aload_n 3, 1) := by decide +kernel
theorem dX7_give_43 : decode cX7_give 43 = .ok (.iload_n 2, 1) := by decide +kernel
theorem dX7_give_44 : decode cX7_give 44 = .ok (.ldc 103, 2) := by decide +kernel
theorem dX7_give_46 : decode cX7_give 46 = .ok (.iand, 1) := by decide +kernel
theorem dX7_give_47 : decode cX7_give 47 = .ok (.invokevirtual 129, 3) := by decide +kernel
theorem dX7_give_50 : decode cX7_give 50 = .ok (.aload_n 3, 1) := by decide +kernel
theorem dX7_give_51 : decode cX7_give 51 = .ok (.getfield 121, 3) := by decide +kernel
theorem dX7_give_54 : decode cX7_give 54 = .ok (.ireturn, 1) := by decide +kernel
set_option maxRecDepth 20000 in
theorem ggX7_out_X0_deviceAt : GoodIn wsX7_out wsX0_deviceAt := goodIn_r _ [8, 9, 24, 25, 26, 27, 28, 29, 30] (by decide +kernel) (by decide +kernel)
set_option maxRecDepth 20000 in
theorem gX7_out_X0_deviceAt : GoodIn wsX7_out (wsV RX7 107 RX0 yX0_deviceAt wsX0_deviceAt) := goodIn_app (goodIn_of _ (by decide +kernel)) ggX7_out_X0_deviceAt
set_option maxRecDepth 20000 in
theorem ggX7_out_X2_keptOut : GoodIn wsX7_out wsX2_keptOut := goodIn_r _ [14, 15, 16, 31, 32, 33, 34, 35, 36, 37, 38, 39, 40] (by decide +kernel) (by decide +kernel)
set_option maxRecDepth 20000 in
theorem gX7_out_X2_keptOut : GoodIn wsX7_out (wsV RX7 133 RX2 yX2_keptOut wsX2_keptOut) := goodIn_app (goodIn_of _ (by decide +kernel)) ggX7_out_X2_keptOut
theorem dX7_out_0 : decode cX7_out 0 = .ok (.aload_n 0, 1) := by decide +kernel
theorem dX7_out_1 : decode cX7_out 1 = .ok (.getfield 28, 3) := by decide +kernel
theorem dX7_out_4 : decode cX7_out 4 = .ok (.iload_n 1, 1) := by decide +kernel
theorem dX7_out_5 : decode cX7_out 5 = .ok (.invokevirtual 107, 3) := by decide +kernel
theorem dX7_out_8 : decode cX7_out 8 = .ok (.astore_n 3, 1) := by decide +kernel
theorem dX7_out_9 : decode cX7_out 9 = .ok (.aload_n 3, 1) := by decide +kernel
theorem dX7_out_10 : decode cX7_out 10 = .ok (.ifnonnull 13, 3) := by decide +kernel
theorem dX7_out_13 : decode cX7_out 13 = .ok (.new 65, 3) := by decide +kernel
theorem dX7_out_16 : decode cX7_out 16 = .ok (.dup, 1) := by decide +kernel
theorem dX7_out_17 : decode cX7_out 17 = .ok (.ldc 111, 2) := by decide +kernel
theorem dX7_out_19 : decode cX7_out 19 = .ok (.invokespecial 69, 3) := by decide +kernel
theorem dX7_out_22 : decode cX7_out 22 = .ok (.athrow, 1) := by decide +kernel
theorem dX7_out_23 : decode cX7_out 23 = .ok (.aload_n 3, 1) := by decide +kernel
theorem dX7_out_24 : decode cX7_out 24 = .ok (.iload_n 2, 1) := by decide +kernel
theorem dX7_out_25 : decode cX7_out 25 = .ok (.invokevirtual 133, 3) := by decide +kernel
theorem dX7_out_28 : decode cX7_out 28 = .ok (.ireturn, 1) := by decide +kernel
set_option maxRecDepth 20000 in
theorem ggX7_code_X0_lineOf : GoodIn wsX7_code wsX0_lineOf := goodIn_r _ [6, 7, 54, 55, 56, 57, 58, 59, 60] (by decide +kernel) (by decide +kernel)
set_option maxRecDepth 20000 in
theorem gX7_code_X0_lineOf : GoodIn wsX7_code (wsV RX7 136 RX0 yX0_lineOf wsX0_lineOf) := goodIn_app (goodIn_of _ (by decide +kernel)) ggX7_code_X0_lineOf
set_option maxRecDepth 20000 in
theorem ggX7_code_X7_bit : GoodIn wsX7_code wsX7_bit := goodIn_r _ [11] (by decide +kernel) (by decide +kernel)
set_option maxRecDepth 20000 in
theorem gX7_code_X7_bit : GoodIn wsX7_code (va_wsS RX7 87 yX7_bit wsX7_bit) := goodIn_app (goodIn_of _ (by decide +kernel)) ggX7_code_X7_bit
set_option maxRecDepth 20000 in
theorem ggX7_code_X0_channelAt : GoodIn wsX7_code wsX0_channelAt := goodIn_r _ [15, 16, 54, 55, 56, 57, 58, 59, 60] (by decide +kernel) (by decide +kernel)
set_option maxRecDepth 20000 in
theorem gX7_code_X0_channelAt : GoodIn wsX7_code (wsV RX7 151 RX0 yX0_channelAt wsX0_channelAt) := goodIn_app (goodIn_of _ (by decide +kernel)) ggX7_code_X0_channelAt
set_option maxRecDepth 20000 in
theorem ggX7_code_X1_tellPart : GoodIn wsX7_code wsX1_tellPart := goodIn_r _ [21, 22, 23, 24, 25, 26, 27, 9, 10, 11, 61, 62, 63, 64, 65, 66, 67, 68] (by decide +kernel) (by decide +kernel)
set_option maxRecDepth 20000 in
theorem gX7_code_X1_tellPart : GoodIn wsX7_code (wsV RX7 155 RX1 yX1_tellPart wsX1_tellPart) := goodIn_app (goodIn_of _ (by decide +kernel)) ggX7_code_X1_tellPart
set_option maxRecDepth 20000 in
theorem ggX7_code_X0_deviceAt : GoodIn wsX7_code wsX0_deviceAt := goodIn_r _ [31, 32, 54, 55, 56, 57, 58, 59, 60] (by decide +kernel) (by decide +kernel)
set_option maxRecDepth 20000 in
theorem gX7_code_X0_deviceAt : GoodIn wsX7_code (wsV RX7 107 RX0 yX0_deviceAt wsX0_deviceAt) := goodIn_app (goodIn_of _ (by decide +kernel)) ggX7_code_X0_deviceAt
set_option maxRecDepth 20000 in
theorem ggX7_code_X2_tellPart : GoodIn wsX7_code wsX2_tellPart := goodIn_r _ [37, 38, 39, 40, 41, 42, 43, 9, 10, 11, 69, 70, 71, 72, 73, 74, 75, 76, 77, 78] (by decide +kernel) (by decide +kernel)
set_option maxRecDepth 20000 in
theorem gX7_code_X2_tellPart : GoodIn wsX7_code (wsV RX7 160 RX2 yX2_tellPart wsX2_tellPart) := goodIn_app (goodIn_of _ (by decide +kernel)) ggX7_code_X2_tellPart
theorem dX7_code_0 : decode cX7_code 0 = .ok (.aload_n 0, 1) := by decide +kernel
theorem dX7_code_1 : decode cX7_code 1 = .ok (.getfield 28, 3) := by decide +kernel
theorem dX7_code_4 : decode cX7_code 4 = .ok (.iload_n 1, 1) := by decide +kernel
theorem dX7_code_5 : decode cX7_code 5 = .ok (.invokevirtual 136, 3) := by decide +kernel
theorem dX7_code_8 : decode cX7_code 8 = .ok (.astore_n 3, 1) := by decide +kernel
theorem dX7_code_9 : decode cX7_code 9 = .ok (.aload_n 3, 1) := by decide +kernel
theorem dX7_code_10 : decode cX7_code 10 = .ok (.ifnonnull 5, 3) := by decide +kernel
theorem dX7_code_13 : decode cX7_code 13 = .ok (.iconst (-1), 1) := by decide +kernel
theorem dX7_code_14 : decode cX7_code 14 = .ok (.ireturn, 1) := by decide +kernel
theorem dX7_code_15 : decode cX7_code 15 = .ok (.iload_n 2, 1) := by decide +kernel
theorem dX7_code_16 : decode cX7_code 16 = .ok (.tableswitch 52 0 2 #[28, 36, 44], 28) := by decide +kernel
theorem dX7_code_44 : decode cX7_code 44 = .ok (.aload_n 3, 1) := by decide +kernel
theorem dX7_code_45 : decode cX7_code 45 = .ok (.getfield 140, 3) := by decide +kernel
theorem dX7_code_48 : decode cX7_code 48 = .ok (.invokestatic 87, 3) := by decide +kernel
theorem dX7_code_51 : decode cX7_code 51 = .ok (.ireturn, 1) := by decide +kernel
theorem dX7_code_52 : decode cX7_code 52 = .ok (.aload_n 3, 1) := by decide +kernel
theorem dX7_code_53 : decode cX7_code 53 = .ok (.getfield 145, 3) := by decide +kernel
theorem dX7_code_56 : decode cX7_code 56 = .ok (.invokestatic 87, 3) := by decide +kernel
theorem dX7_code_59 : decode cX7_code 59 = .ok (.ireturn, 1) := by decide +kernel
theorem dX7_code_60 : decode cX7_code 60 = .ok (.aload_n 3, 1) := by decide +kernel
theorem dX7_code_61 : decode cX7_code 61 = .ok (.getfield 148, 3) := by decide +kernel
theorem dX7_code_64 : decode cX7_code 64 = .ok (.invokestatic 87, 3) := by decide +kernel
theorem dX7_code_67 : decode cX7_code 67 = .ok (.ireturn, 1) := by decide +kernel
theorem dX7_code_68 : decode cX7_code 68 = .ok (.aload_n 0, 1) := by decide +kernel
theorem dX7_code_69 : decode cX7_code 69 = .ok (.getfield 28, 3) := by decide +kernel
theorem dX7_code_72 : decode cX7_code 72 = .ok (.iload_n 1, 1) := by decide +kernel
theorem dX7_code_73 : decode cX7_code 73 = .ok (.bipush 6, 2) := by decide +kernel
theorem dX7_code_75 : decode cX7_code 75 = .ok (.isub, 1) := by decide +kernel
theorem dX7_code_76 : decode cX7_code 76 = .ok (.invokevirtual 151, 3) := by decide +kernel
theorem dX7_code_79 : decode cX7_code 79 = .ok (.astore 4, 2) := by decide +kernel
theorem dX7_code_81 : decode cX7_code 81 = .ok (.aload 4, 2) := by decide +kernel
theorem dX7_code_83 : decode cX7_code 83 = .ok (.ifnull 10, 3) := by decide +kernel
theorem dX7_code_86 : decode cX7_code 86 = .ok (.aload 4, 2) := by decide +kernel
theorem dX7_code_88 : decode cX7_code 88 = .ok (.iload_n 2, 1) := by decide +kernel
theorem dX7_code_89 : decode cX7_code 89 = .ok (.invokevirtual 155, 3) := by decide +kernel
theorem dX7_code_92 : decode cX7_code 92 = .ok (.ireturn, 1) := by decide +kernel
theorem dX7_code_93 : decode cX7_code 93 = .ok (.aload_n 0, 1) := by decide +kernel
theorem dX7_code_94 : decode cX7_code 94 = .ok (.getfield 28, 3) := by decide +kernel
theorem dX7_code_97 : decode cX7_code 97 = .ok (.iload_n 1, 1) := by decide +kernel
theorem dX7_code_98 : decode cX7_code 98 = .ok (.bipush 8, 2) := by decide +kernel
theorem dX7_code_100 : decode cX7_code 100 = .ok (.isub, 1) := by decide +kernel
theorem dX7_code_101 : decode cX7_code 101 = .ok (.invokevirtual 107, 3) := by decide +kernel
theorem dX7_code_104 : decode cX7_code 104 = .ok (.astore 5, 2) := by decide +kernel
theorem dX7_code_106 : decode cX7_code 106 = .ok (.aload 5, 2) := by decide +kernel
theorem dX7_code_108 : decode cX7_code 108 = .ok (.ifnonnull 7, 3) := by decide +kernel
theorem dX7_code_111 : decode cX7_code 111 = .ok (.iconst (-1), 1) := by decide +kernel
theorem dX7_code_112 : decode cX7_code 112 = .ok (.goto 9, 3) := by decide +kernel
theorem dX7_code_115 : decode cX7_code 115 = .ok (.aload 5, 2) := by decide +kernel
theorem dX7_code_117 : decode cX7_code 117 = .ok (.iload_n 2, 1) := by decide +kernel
theorem dX7_code_118 : decode cX7_code 118 = .ok (.invokevirtual 160, 3) := by decide +kernel
theorem dX7_code_121 : decode cX7_code 121 = .ok (.ireturn, 1) := by decide +kernel
set_option maxRecDepth 20000 in
theorem ggX7_sum_X4_read : GoodIn wsX7_sum wsX4_read := goodIn_r _ [6, 7, 15] (by decide +kernel) (by decide +kernel)
set_option maxRecDepth 20000 in
theorem gX7_sum_X4_read : GoodIn wsX7_sum (wsV RX7 70 RX4 yX4_read wsX4_read) := goodIn_app (goodIn_of _ (by decide +kernel)) ggX7_sum_X4_read
theorem dX7_sum_0 : decode cX7_sum 0 = .ok (.iconst 0, 1) := by decide +kernel
theorem dX7_sum_1 : decode cX7_sum 1 = .ok (.istore_n 1, 1) := by decide +kernel
theorem dX7_sum_2 : decode cX7_sum 2 = .ok (.iconst 0, 1) := by decide +kernel
theorem dX7_sum_3 : decode cX7_sum 3 = .ok (.istore_n 2, 1) := by decide +kernel
theorem dX7_sum_4 : decode cX7_sum 4 = .ok (.iload_n 2, 1) := by decide +kernel
theorem dX7_sum_5 : decode cX7_sum 5 = .ok (.sipush 4096, 3) := by decide +kernel
theorem dX7_sum_8 : decode cX7_sum 8 = .ok (.if_icmp .ge 23, 3) := by decide +kernel
theorem dX7_sum_11 : decode cX7_sum 11 = .ok (.bipush 31, 2) := by decide +kernel
theorem dX7_sum_13 : decode cX7_sum 13 = .ok (.iload_n 1, 1) := by decide +kernel
theorem dX7_sum_14 : decode cX7_sum 14 = .ok (.imul, 1) := by decide +kernel
theorem dX7_sum_15 : decode cX7_sum 15 = .ok (.aload_n 0, 1) := by decide +kernel
theorem dX7_sum_16 : decode cX7_sum 16 = .ok (.getfield 10, 3) := by decide +kernel
theorem dX7_sum_19 : decode cX7_sum 19 = .ok (.iload_n 2, 1) := by decide +kernel
theorem dX7_sum_20 : decode cX7_sum 20 = .ok (.invokevirtual 70, 3) := by decide +kernel
theorem dX7_sum_23 : decode cX7_sum 23 = .ok (.iadd, 1) := by decide +kernel
theorem dX7_sum_24 : decode cX7_sum 24 = .ok (.istore_n 1, 1) := by decide +kernel
theorem dX7_sum_25 : decode cX7_sum 25 = .ok (.iinc 2 1, 3) := by decide +kernel
theorem dX7_sum_28 : decode cX7_sum 28 = .ok (.goto (-24), 3) := by decide +kernel
theorem dX7_sum_31 : decode cX7_sum 31 = .ok (.iload_n 1, 1) := by decide +kernel
theorem dX7_sum_32 : decode cX7_sum 32 = .ok (.ireturn, 1) := by decide +kernel
set_option maxRecDepth 20000 in
theorem ggX7_doTurn_X0_advanceDevices : GoodIn wsX7_doTurn wsX0_advanceDevices := goodIn_r _ [11, 12, 13, 14, 10, 15, 16, 17, 18, 19, 20, 21, 22, 23, 24, 25, 26, 27, 28, 29, 30, 31, 32, 33, 34, 35, 36, 37, 38, 39, 40, 41, 42, 43, 44, 45, 278, 279, 280, 281, 282, 283, 284, 291, 292, 293, 294, 295, 296, 297, 298, 299, 300, 301, 302, 303] (by decide +kernel) (by decide +kernel)
set_option maxRecDepth 20000 in
theorem gX7_doTurn_X0_advanceDevices : GoodIn wsX7_doTurn (wsV RX7 161 RX0 yX0_advanceDevices wsX0_advanceDevices) := goodIn_app (goodIn_of _ (by decide +kernel)) ggX7_doTurn_X0_advanceDevices
set_option maxRecDepth 20000 in
theorem ggX7_doTurn_X0_advanceChannels : GoodIn wsX7_doTurn wsX0_advanceChannels := goodIn_r _ [49, 50, 51, 52, 10, 53, 54, 12, 13, 14, 15, 16, 55, 56, 57, 58, 59, 60, 61, 62, 63, 64, 65, 66, 67, 68, 69, 70, 71, 72, 73, 74, 75, 76, 77, 78, 40, 41, 42, 43, 44, 45, 79, 80, 81, 82, 83, 84, 85, 86, 87, 20, 88, 89, 22, 304, 305, 306, 307, 308, 309, 310, 311, 291, 292, 293, 294, 295, 296, 297, 298, 299, 300, 301, 302, 303, 278, 279, 280, 281, 282, 283, 284, 312] (by decide +kernel) (by decide +kernel)
set_option maxRecDepth 20000 in
theorem gX7_doTurn_X0_advanceChannels : GoodIn wsX7_doTurn (wsV RX7 164 RX0 yX0_advanceChannels wsX0_advanceChannels) := goodIn_app (goodIn_of _ (by decide +kernel)) ggX7_doTurn_X0_advanceChannels
set_option maxRecDepth 20000 in
theorem ggX7_doTurn_X0_takeInterrupt : GoodIn wsX7_doTurn wsX0_takeInterrupt := goodIn_r _ [93, 94, 95, 96, 10, 97, 98, 301, 302, 303, 278, 279, 280, 281, 282, 283, 284] (by decide +kernel) (by decide +kernel)
set_option maxRecDepth 20000 in
theorem gX7_doTurn_X0_takeInterrupt : GoodIn wsX7_doTurn (wsV RX7 168 RX0 yX0_takeInterrupt wsX0_takeInterrupt) := goodIn_app (goodIn_of _ (by decide +kernel)) ggX7_doTurn_X0_takeInterrupt
set_option maxRecDepth 20000 in
theorem ggX7_doTurn_X4_read : GoodIn wsX7_doTurn wsX4_read := goodIn_r _ [77, 72, 312] (by decide +kernel) (by decide +kernel)
set_option maxRecDepth 20000 in
theorem gX7_doTurn_X4_read : GoodIn wsX7_doTurn (wsV RX7 70 RX4 yX4_read wsX4_read) := goodIn_app (goodIn_of _ (by decide +kernel)) ggX7_doTurn_X4_read
set_option maxRecDepth 20000 in
theorem ggX7_doTurn_X5_perform : GoodIn wsX7_doTurn wsX5_perform := goodIn_r _ [104, 105, 106, 107, 108, 103, 109, 110, 111, 112, 75, 76, 70, 77, 72, 113, 114, 115, 116, 117, 118, 119, 120, 121, 122, 123, 124, 125, 126, 127, 68, 69, 71, 73, 128, 129, 130, 131, 132, 133, 134, 135, 136, 137, 138, 139, 140, 141, 142, 143, 144, 145, 146, 147, 148, 149, 150, 151, 152, 153, 154, 155, 156, 157, 158, 159, 160, 161, 162, 163, 164, 165, 166, 167, 168, 169, 170, 171, 172, 173, 174, 175, 176, 177, 178, 179, 180, 181, 182, 183, 10, 184, 185, 186, 187, 188, 189, 94, 95, 96, 97, 98, 190, 40, 41, 42, 43, 44, 45, 191, 192, 193, 194, 195, 196, 197, 198, 199, 50, 51, 52, 53, 54, 12, 13, 14, 15, 16, 200, 201, 202, 203, 204, 205, 206, 207, 58, 208, 209, 62, 61, 66, 60, 210, 211, 212, 213, 214, 215, 216, 217, 218, 219, 220, 221, 222, 86, 87, 20, 88, 89, 22, 223, 224, 225, 226, 227, 228, 229, 230, 231, 232, 233, 234, 235, 236, 237, 238, 239, 240, 241, 242, 243, 244, 245, 246, 247, 248, 249, 250, 251, 252, 253, 254, 255, 256, 257, 258, 259, 260, 261, 262, 263, 264, 265, 266, 267, 268, 269, 313, 314, 315, 312, 285, 286, 287, 288, 289, 290, 278, 279, 280, 281, 282, 283, 284, 301, 302, 303, 304, 305, 306, 307, 308, 309, 310, 311, 291, 292, 293, 294, 295, 296, 297, 298, 299, 300] (by decide +kernel) (by decide +kernel)
set_option maxRecDepth 20000 in
theorem gX7_doTurn_X5_perform : GoodIn wsX7_doTurn (wsV RX7 172 RX5 yX5_perform wsX5_perform) := goodIn_app (goodIn_of _ (by decide +kernel)) ggX7_doTurn_X5_perform
set_option maxRecDepth 20000 in
theorem ggX7_doTurn_X5_nextWord : GoodIn wsX7_doTurn wsX5_nextWord := goodIn_r _ [233, 110, 111, 112, 75, 76, 70, 77, 72, 141, 142, 143, 116, 144, 145, 313, 314, 315, 285, 286, 287, 288, 289, 290, 312] (by decide +kernel) (by decide +kernel)
set_option maxRecDepth 20000 in
theorem gX7_doTurn_X5_nextWord : GoodIn wsX7_doTurn (wsV RX7 175 RX5 yX5_nextWord wsX5_nextWord) := goodIn_app (goodIn_of _ (by decide +kernel)) ggX7_doTurn_X5_nextWord
theorem dX7_doTurn_0 : decode cX7_doTurn 0 = .ok (.aload_n 0, 1) := by decide +kernel
theorem dX7_doTurn_1 : decode cX7_doTurn 1 = .ok (.getfield 28, 3) := by decide +kernel
theorem dX7_doTurn_4 : decode cX7_doTurn 4 = .ok (.invokevirtual 161, 3) := by decide +kernel
theorem dX7_doTurn_7 : decode cX7_doTurn 7 = .ok (.aload_n 0, 1) := by decide +kernel
theorem dX7_doTurn_8 : decode cX7_doTurn 8 = .ok (.getfield 28, 3) := by decide +kernel
theorem dX7_doTurn_11 : decode cX7_doTurn 11 = .ok (.aload_n 0, 1) := by decide +kernel
theorem dX7_doTurn_12 : decode cX7_doTurn 12 = .ok (.getfield 10, 3) := by decide +kernel
theorem dX7_doTurn_15 : decode cX7_doTurn 15 = .ok (.invokevirtual 164, 3) := by decide +kernel
theorem dX7_doTurn_18 : decode cX7_doTurn 18 = .ok (.aload_n 0, 1) := by decide +kernel
theorem dX7_doTurn_19 : decode cX7_doTurn 19 = .ok (.getfield 28, 3) := by decide +kernel
theorem dX7_doTurn_22 : decode cX7_doTurn 22 = .ok (.getfield 84, 3) := by decide +kernel
theorem dX7_doTurn_25 : decode cX7_doTurn 25 = .ok (.ifCond .eq 23, 3) := by decide +kernel
theorem dX7_doTurn_28 : decode cX7_doTurn 28 = .ok (.aload_n 0, 1) := by decide +kernel
theorem dX7_doTurn_29 : decode cX7_doTurn 29 = .ok (.getfield 19, 3) := by decide +kernel
theorem dX7_doTurn_32 : decode cX7_doTurn 32 = .ok (.getfield 91, 3) := by decide +kernel
theorem dX7_doTurn_35 : decode cX7_doTurn 35 = .ok (.ifCond .ne 13, 3) := by decide +kernel
theorem dX7_doTurn_38 : decode cX7_doTurn 38 = .ok (.aload_n 0, 1) := by decide +kernel
theorem dX7_doTurn_39 : decode cX7_doTurn 39 = .ok (.getfield 28, 3) := by decide +kernel
theorem dX7_doTurn_42 : decode cX7_doTurn 42 = .ok (.invokevirtual 168, 3) := by decide +kernel
theorem dX7_doTurn_45 : decode cX7_doTurn 45 = .ok (.goto 4, 3) := by decide +kernel
theorem dX7_doTurn_48 : decode cX7_doTurn 48 = .ok (.iconst (-1), 1) := by decide +kernel
theorem dX7_doTurn_49 : decode cX7_doTurn 49 = .ok (.istore_n 1, 1) := by decide +kernel
theorem dX7_doTurn_50 : decode cX7_doTurn 50 = .ok (.aload_n 0, 1) := by decide +kernel
theorem dX7_doTurn_51 : decode cX7_doTurn 51 = .ok (.getfield 19, 3) := by decide +kernel
theorem dX7_doTurn_54 : decode cX7_doTurn 54 = .ok (.iconst 0, 1) := by decide +kernel
theorem dX7_doTurn_55 : decode cX7_doTurn 55 = .ok (.putfield 91, 3) := by decide +kernel
theorem dX7_doTurn_58 : decode cX7_doTurn 58 = .ok (.iload_n 1, 1) := by decide +kernel
theorem dX7_doTurn_59 : decode cX7_doTurn 59 = .ok (.iconst (-1), 1) := by decide +kernel
theorem dX7_doTurn_60 : decode cX7_doTurn 60 = .ok (.if_icmp .eq 37, 3) := by decide +kernel
theorem dX7_doTurn_63 : decode cX7_doTurn 63 = .ok (.aload_n 0, 1) := by decide +kernel
theorem dX7_doTurn_64 : decode cX7_doTurn 64 = .ok (.dup, 1) := by decide +kernel
theorem dX7_doTurn_65 : decode cX7_doTurn 65 = .ok (.getfield 100, 3) := by decide +kernel
theorem dX7_doTurn_68 : decode cX7_doTurn 68 = .ok (.iconst 1, 1) := by decide +kernel
theorem dX7_doTurn_69 : decode cX7_doTurn 69 = .ok (.iadd, 1) := by decide +kernel
theorem dX7_doTurn_70 : decode cX7_doTurn 70 = .ok (.putfield 100, 3) := by decide +kernel
theorem dX7_doTurn_73 : decode cX7_doTurn 73 = .ok (.aload_n 0, 1) := by decide +kernel
theorem dX7_doTurn_74 : decode cX7_doTurn 74 = .ok (.iload_n 1, 1) := by decide +kernel
theorem dX7_doTurn_75 : decode cX7_doTurn 75 = .ok (.putfield 41, 3) := by decide +kernel
theorem dX7_doTurn_78 : decode cX7_doTurn 78 = .ok (.aload_n 0, 1) := by decide +kernel
theorem dX7_doTurn_79 : decode cX7_doTurn 79 = .ok (.getfield 37, 3) := by decide +kernel
theorem dX7_doTurn_82 : decode cX7_doTurn 82 = .ok (.aload_n 0, 1) := by decide +kernel
theorem dX7_doTurn_83 : decode cX7_doTurn 83 = .ok (.getfield 10, 3) := by decide +kernel
theorem dX7_doTurn_86 : decode cX7_doTurn 86 = .ok (.iload_n 1, 1) := by decide +kernel
theorem dX7_doTurn_87 : decode cX7_doTurn 87 = .ok (.invokevirtual 70, 3) := by decide +kernel
theorem dX7_doTurn_90 : decode cX7_doTurn 90 = .ok (.iconst 0, 1) := by decide +kernel
theorem dX7_doTurn_91 : decode cX7_doTurn 91 = .ok (.invokevirtual 172, 3) := by decide +kernel
theorem dX7_doTurn_94 : decode cX7_doTurn 94 = .ok (.goto 30, 3) := by decide +kernel
theorem dX7_doTurn_97 : decode cX7_doTurn 97 = .ok (.aload_n 0, 1) := by decide +kernel
theorem dX7_doTurn_98 : decode cX7_doTurn 98 = .ok (.getfield 19, 3) := by decide +kernel
theorem dX7_doTurn_101 : decode cX7_doTurn 101 = .ok (.getfield 62, 3) := by decide +kernel
theorem dX7_doTurn_104 : decode cX7_doTurn 104 = .ok (.sipush 31744, 3) := by decide +kernel
theorem dX7_doTurn_107 : decode cX7_doTurn 107 = .ok (.iand, 1) := by decide +kernel
theorem dX7_doTurn_108 : decode cX7_doTurn 108 = .ok (.istore_n 2, 1) := by decide +kernel
theorem dX7_doTurn_109 : decode cX7_doTurn 109 = .ok (.aload_n 0, 1) := by decide +kernel
theorem dX7_doTurn_110 : decode cX7_doTurn 110 = .ok (.getfield 37, 3) := by decide +kernel
theorem dX7_doTurn_113 : decode cX7_doTurn 113 = .ok (.aload_n 0, 1) := by decide +kernel
theorem dX7_doTurn_114 : decode cX7_doTurn 114 = .ok (.getfield 37, 3) := by decide +kernel
theorem dX7_doTurn_117 : decode cX7_doTurn 117 = .ok (.invokevirtual 175, 3) := by decide +kernel
theorem dX7_doTurn_120 : decode cX7_doTurn 120 = .ok (.iload_n 2, 1) := by decide +kernel
theorem dX7_doTurn_121 : decode cX7_doTurn 121 = .ok (.invokevirtual 172, 3) := by decide +kernel
theorem dX7_doTurn_124 : decode cX7_doTurn 124 = .ok (.return_, 1) := by decide +kernel
theorem dX7_bit_0 : decode cX7_bit 0 = .ok (.iload_n 0, 1) := by decide +kernel
theorem dX7_bit_1 : decode cX7_bit 1 = .ok (.ifCond .eq 7, 3) := by decide +kernel
theorem dX7_bit_4 : decode cX7_bit 4 = .ok (.iconst 1, 1) := by decide +kernel
theorem dX7_bit_5 : decode cX7_bit 5 = .ok (.goto 4, 3) := by decide +kernel
theorem dX7_bit_8 : decode cX7_bit 8 = .ok (.iconst 0, 1) := by decide +kernel
theorem dX7_bit_9 : decode cX7_bit 9 = .ok (.ireturn, 1) := by decide +kernel
theorem dX8_init_0 : decode cX8_init 0 = .ok (.aload_n 0, 1) := by decide +kernel
theorem dX8_init_1 : decode cX8_init 1 = .ok (.invokespecial 1, 3) := by decide +kernel
theorem dX8_init_4 : decode cX8_init 4 = .ok (.aload_n 0, 1) := by decide +kernel
theorem dX8_init_5 : decode cX8_init 5 = .ok (.sipush 4096, 3) := by decide +kernel
theorem dX8_init_8 : decode cX8_init 8 = .ok (.newarray .int, 2) := by decide +kernel
theorem dX8_init_10 : decode cX8_init 10 = .ok (.putfield 9, 3) := by decide +kernel
theorem dX8_init_13 : decode cX8_init 13 = .ok (.aload_n 0, 1) := by decide +kernel
theorem dX8_init_14 : decode cX8_init 14 = .ok (.iconst (-1), 1) := by decide +kernel
theorem dX8_init_15 : decode cX8_init 15 = .ok (.putfield 13, 3) := by decide +kernel
theorem dX8_init_18 : decode cX8_init 18 = .ok (.aload_n 0, 1) := by decide +kernel
theorem dX8_init_19 : decode cX8_init 19 = .ok (.iconst (-1), 1) := by decide +kernel
theorem dX8_init_20 : decode cX8_init 20 = .ok (.putfield 17, 3) := by decide +kernel
theorem dX8_init_23 : decode cX8_init 23 = .ok (.aload_n 0, 1) := by decide +kernel
theorem dX8_init_24 : decode cX8_init 24 = .ok (.bipush 12, 2) := by decide +kernel
theorem dX8_init_26 : decode cX8_init 26 = .ok (.newarray .boolean, 2) := by decide +kernel
theorem dX8_init_28 : decode cX8_init 28 = .ok (.putfield 20, 3) := by decide +kernel
theorem dX8_init_31 : decode cX8_init 31 = .ok (.aload_n 0, 1) := by decide +kernel
theorem dX8_init_32 : decode cX8_init 32 = .ok (.bipush 12, 2) := by decide +kernel
theorem dX8_init_34 : decode cX8_init 34 = .ok (.newarray .boolean, 2) := by decide +kernel
theorem dX8_init_36 : decode cX8_init 36 = .ok (.putfield 24, 3) := by decide +kernel
theorem dX8_init_39 : decode cX8_init 39 = .ok (.aload_n 0, 1) := by decide +kernel
theorem dX8_init_40 : decode cX8_init 40 = .ok (.bipush 12, 2) := by decide +kernel
theorem dX8_init_42 : decode cX8_init 42 = .ok (.newarray .boolean, 2) := by decide +kernel
theorem dX8_init_44 : decode cX8_init 44 = .ok (.putfield 27, 3) := by decide +kernel
theorem dX8_init_47 : decode cX8_init 47 = .ok (.aload_n 0, 1) := by decide +kernel
theorem dX8_init_48 : decode cX8_init 48 = .ok (.bipush 12, 2) := by decide +kernel
theorem dX8_init_50 : decode cX8_init 50 = .ok (.newarray .boolean, 2) := by decide +kernel
theorem dX8_init_52 : decode cX8_init 52 = .ok (.putfield 30, 3) := by decide +kernel
theorem dX8_init_55 : decode cX8_init 55 = .ok (.aload_n 0, 1) := by decide +kernel
theorem dX8_init_56 : decode cX8_init 56 = .ok (.bipush 12, 2) := by decide +kernel
theorem dX8_init_58 : decode cX8_init 58 = .ok (.newarray .boolean, 2) := by decide +kernel
theorem dX8_init_60 : decode cX8_init 60 = .ok (.putfield 33, 3) := by decide +kernel
theorem dX8_init_63 : decode cX8_init 63 = .ok (.aload_n 0, 1) := by decide +kernel
theorem dX8_init_64 : decode cX8_init 64 = .ok (.bipush 12, 2) := by decide +kernel
theorem dX8_init_66 : decode cX8_init 66 = .ok (.newarray .boolean, 2) := by decide +kernel
theorem dX8_init_68 : decode cX8_init 68 = .ok (.putfield 36, 3) := by decide +kernel
theorem dX8_init_71 : decode cX8_init 71 = .ok (.aload_n 0, 1) := by decide +kernel
theorem dX8_init_72 : decode cX8_init 72 = .ok (.bipush 12, 2) := by decide +kernel
theorem dX8_init_74 : decode cX8_init 74 = .ok (.newarray .int, 2) := by decide +kernel
theorem dX8_init_76 : decode cX8_init 76 = .ok (.putfield 39, 3) := by decide +kernel
theorem dX8_init_79 : decode cX8_init 79 = .ok (.aload_n 0, 1) := by decide +kernel
theorem dX8_init_80 : decode cX8_init 80 = .ok (.bipush 12, 2) := by decide +kernel
theorem dX8_init_82 : decode cX8_init 82 = .ok (.newarray .int, 2) := by decide +kernel
theorem dX8_init_84 : decode cX8_init 84 = .ok (.putfield 42, 3) := by decide +kernel
theorem dX8_init_87 : decode cX8_init 87 = .ok (.aload_n 0, 1) := by decide +kernel
theorem dX8_init_88 : decode cX8_init 88 = .ok (.bipush 12, 2) := by decide +kernel
theorem dX8_init_90 : decode cX8_init 90 = .ok (.newarray .int, 2) := by decide +kernel
theorem dX8_init_92 : decode cX8_init 92 = .ok (.putfield 45, 3) := by decide +kernel
theorem dX8_init_95 : decode cX8_init 95 = .ok (.aload_n 0, 1) := by decide +kernel
theorem dX8_init_96 : decode cX8_init 96 = .ok (.bipush 12, 2) := by decide +kernel
theorem dX8_init_98 : decode cX8_init 98 = .ok (.newarray .int, 2) := by decide +kernel
theorem dX8_init_100 : decode cX8_init 100 = .ok (.putfield 48, 3) := by decide +kernel
theorem dX8_init_103 : decode cX8_init 103 = .ok (.aload_n 0, 1) := by decide +kernel
theorem dX8_init_104 : decode cX8_init 104 = .ok (.bipush 12, 2) := by decide +kernel
theorem dX8_init_106 : decode cX8_init 106 = .ok (.newarray .boolean, 2) := by decide +kernel
theorem dX8_init_108 : decode cX8_init 108 = .ok (.putfield 51, 3) := by decide +kernel
theorem dX8_init_111 : decode cX8_init 111 = .ok (.aload_n 0, 1) := by decide +kernel
theorem dX8_init_112 : decode cX8_init 112 = .ok (.bipush 12, 2) := by decide +kernel
theorem dX8_init_114 : decode cX8_init 114 = .ok (.newarray .int, 2) := by decide +kernel
theorem dX8_init_116 : decode cX8_init 116 = .ok (.putfield 54, 3) := by decide +kernel
theorem dX8_init_119 : decode cX8_init 119 = .ok (.aload_n 0, 1) := by decide +kernel
theorem dX8_init_120 : decode cX8_init 120 = .ok (.bipush 12, 2) := by decide +kernel
theorem dX8_init_122 : decode cX8_init 122 = .ok (.newarray .int, 2) := by decide +kernel
theorem dX8_init_124 : decode cX8_init 124 = .ok (.putfield 57, 3) := by decide +kernel
theorem dX8_init_127 : decode cX8_init 127 = .ok (.aload_n 0, 1) := by decide +kernel
theorem dX8_init_128 : decode cX8_init 128 = .ok (.bipush 12, 2) := by decide +kernel
theorem dX8_init_130 : decode cX8_init 130 = .ok (.newarray .int, 2) := by decide +kernel
theorem dX8_init_132 : decode cX8_init 132 = .ok (.putfield 60, 3) := by decide +kernel
theorem dX8_init_135 : decode cX8_init 135 = .ok (.aload_n 0, 1) := by decide +kernel
theorem dX8_init_136 : decode cX8_init 136 = .ok (.bipush 12, 2) := by decide +kernel
theorem dX8_init_138 : decode cX8_init 138 = .ok (.newarray .int, 2) := by decide +kernel
theorem dX8_init_140 : decode cX8_init 140 = .ok (.putfield 63, 3) := by decide +kernel
theorem dX8_init_143 : decode cX8_init 143 = .ok (.aload_n 0, 1) := by decide +kernel
theorem dX8_init_144 : decode cX8_init 144 = .ok (.bipush 12, 2) := by decide +kernel
theorem dX8_init_146 : decode cX8_init 146 = .ok (.newarray .int, 2) := by decide +kernel
theorem dX8_init_148 : decode cX8_init 148 = .ok (.putfield 66, 3) := by decide +kernel
theorem dX8_init_151 : decode cX8_init 151 = .ok (.aload_n 0, 1) := by decide +kernel
theorem dX8_init_152 : decode cX8_init 152 = .ok (.sipush 1200, 3) := by decide +kernel
theorem dX8_init_155 : decode cX8_init 155 = .ok (.newarray .int, 2) := by decide +kernel
theorem dX8_init_157 : decode cX8_init 157 = .ok (.putfield 69, 3) := by decide +kernel
theorem dX8_init_160 : decode cX8_init 160 = .ok (.aload_n 0, 1) := by decide +kernel
theorem dX8_init_161 : decode cX8_init 161 = .ok (.sipush 2400, 3) := by decide +kernel
theorem dX8_init_164 : decode cX8_init 164 = .ok (.newarray .int, 2) := by decide +kernel
theorem dX8_init_166 : decode cX8_init 166 = .ok (.putfield 72, 3) := by decide +kernel
theorem dX8_init_169 : decode cX8_init 169 = .ok (.bipush 8, 2) := by decide +kernel
theorem dX8_init_171 : decode cX8_init 171 = .ok (.istore_n 1, 1) := by decide +kernel
theorem dX8_init_172 : decode cX8_init 172 = .ok (.iload_n 1, 1) := by decide +kernel
theorem dX8_init_173 : decode cX8_init 173 = .ok (.bipush 12, 2) := by decide +kernel
theorem dX8_init_175 : decode cX8_init 175 = .ok (.if_icmp .ge 16, 3) := by decide +kernel
theorem dX8_init_178 : decode cX8_init 178 = .ok (.aload_n 0, 1) := by decide +kernel
theorem dX8_init_179 : decode cX8_init 179 = .ok (.getfield 54, 3) := by decide +kernel
theorem dX8_init_182 : decode cX8_init 182 = .ok (.iload_n 1, 1) := by decide +kernel
theorem dX8_init_183 : decode cX8_init 183 = .ok (.iconst 1, 1) := by decide +kernel
theorem dX8_init_184 : decode cX8_init 184 = .ok (.iastore, 1) := by decide +kernel
theorem dX8_init_185 : decode cX8_init 185 = .ok (.iinc 1 1, 3) := by decide +kernel
theorem dX8_init_188 : decode cX8_init 188 = .ok (.goto (-16), 3) := by decide +kernel
theorem dX8_init_191 : decode cX8_init 191 = .ok (.return_, 1) := by decide +kernel
theorem dX8_thrown_0 : decode cX8_thrown 0 = .ok (.aload_n 0, 1) := by decide +kernel
theorem dX8_thrown_1 : decode cX8_thrown 1 = .ok (.getfield 75, 3) := by decide +kernel
theorem dX8_thrown_4 : decode cX8_thrown 4 = .ok (.ireturn, 1) := by decide +kernel
theorem dX8_at_0 : decode cX8_at 0 = .ok (.iload_n 1, 1) := by decide +kernel
theorem dX8_at_1 : decode cX8_at 1 = .ok (.ifCond .ne 10, 3) := by decide +kernel
theorem dX8_at_4 : decode cX8_at 4 = .ok (.aload_n 0, 1) := by decide +kernel
theorem dX8_at_5 : decode cX8_at 5 = .ok (.getfield 78, 3) := by decide +kernel
theorem dX8_at_8 : decode cX8_at 8 = .ok (.goto 32, 3) := by decide +kernel
theorem dX8_at_11 : decode cX8_at 11 = .ok (.iload_n 1, 1) := by decide +kernel
theorem dX8_at_12 : decode cX8_at 12 = .ok (.iconst 1, 1) := by decide +kernel
theorem dX8_at_13 : decode cX8_at 13 = .ok (.if_icmp .ne 10, 3) := by decide +kernel
theorem dX8_at_16 : decode cX8_at 16 = .ok (.aload_n 0, 1) := by decide +kernel
theorem dX8_at_17 : decode cX8_at 17 = .ok (.getfield 81, 3) := by decide +kernel
theorem dX8_at_20 : decode cX8_at 20 = .ok (.goto 20, 3) := by decide +kernel
theorem dX8_at_23 : decode cX8_at 23 = .ok (.iload_n 1, 1) := by decide +kernel
theorem dX8_at_24 : decode cX8_at 24 = .ok (.sipush 4096, 3) := by decide +kernel
theorem dX8_at_27 : decode cX8_at 27 = .ok (.if_icmp .ge 12, 3) := by decide +kernel
theorem dX8_at_30 : decode cX8_at 30 = .ok (.aload_n 0, 1) := by decide +kernel
theorem dX8_at_31 : decode cX8_at 31 = .ok (.getfield 9, 3) := by decide +kernel
theorem dX8_at_34 : decode cX8_at 34 = .ok (.iload_n 1, 1) := by decide +kernel
theorem dX8_at_35 : decode cX8_at 35 = .ok (.iaload, 1) := by decide +kernel
theorem dX8_at_36 : decode cX8_at 36 = .ok (.goto 4, 3) := by decide +kernel
theorem dX8_at_39 : decode cX8_at 39 = .ok (.iconst 0, 1) := by decide +kernel
theorem dX8_at_40 : decode cX8_at 40 = .ok (.ireturn, 1) := by decide +kernel
theorem dX8_put_0 : decode cX8_put 0 = .ok (.iload_n 1, 1) := by decide +kernel
theorem dX8_put_1 : decode cX8_put 1 = .ok (.ifCond .ne 11, 3) := by decide +kernel
theorem dX8_put_4 : decode cX8_put 4 = .ok (.aload_n 0, 1) := by decide +kernel
theorem dX8_put_5 : decode cX8_put 5 = .ok (.iload_n 2, 1) := by decide +kernel
theorem dX8_put_6 : decode cX8_put 6 = .ok (.putfield 78, 3) := by decide +kernel
theorem dX8_put_9 : decode cX8_put 9 = .ok (.goto 30, 3) := by decide +kernel
theorem dX8_put_12 : decode cX8_put 12 = .ok (.iload_n 1, 1) := by decide +kernel
theorem dX8_put_13 : decode cX8_put 13 = .ok (.iconst 1, 1) := by decide +kernel
theorem dX8_put_14 : decode cX8_put 14 = .ok (.if_icmp .ne 11, 3) := by decide +kernel
theorem dX8_put_17 : decode cX8_put 17 = .ok (.aload_n 0, 1) := by decide +kernel
theorem dX8_put_18 : decode cX8_put 18 = .ok (.iload_n 2, 1) := by decide +kernel
theorem dX8_put_19 : decode cX8_put 19 = .ok (.putfield 81, 3) := by decide +kernel
theorem dX8_put_22 : decode cX8_put 22 = .ok (.goto 17, 3) := by decide +kernel
theorem dX8_put_25 : decode cX8_put 25 = .ok (.iload_n 1, 1) := by decide +kernel
theorem dX8_put_26 : decode cX8_put 26 = .ok (.sipush 4096, 3) := by decide +kernel
theorem dX8_put_29 : decode cX8_put 29 = .ok (.if_icmp .ge 10, 3) := by decide +kernel
theorem dX8_put_32 : decode cX8_put 32 = .ok (.aload_n 0, 1) := by decide +kernel
theorem dX8_put_33 : decode cX8_put 33 = .ok (.getfield 9, 3) := by decide +kernel
theorem dX8_put_36 : decode cX8_put 36 = .ok (.iload_n 1, 1) := by decide +kernel
theorem dX8_put_37 : decode cX8_put 37 = .ok (.iload_n 2, 1) := by decide +kernel
theorem dX8_put_38 : decode cX8_put 38 = .ok (.iastore, 1) := by decide +kernel
theorem dX8_put_39 : decode cX8_put 39 = .ok (.return_, 1) := by decide +kernel
theorem dX8_more_0 : decode cX8_more 0 = .ok (.iload_n 0, 1) := by decide +kernel
theorem dX8_more_1 : decode cX8_more 1 = .ok (.iconst 1, 1) := by decide +kernel
theorem dX8_more_2 : decode cX8_more 2 = .ok (.iadd, 1) := by decide +kernel
theorem dX8_more_3 : decode cX8_more 3 = .ok (.sipush 32767, 3) := by decide +kernel
theorem dX8_more_6 : decode cX8_more 6 = .ok (.iand, 1) := by decide +kernel
theorem dX8_more_7 : decode cX8_more 7 = .ok (.ireturn, 1) := by decide +kernel
set_option maxRecDepth 20000 in
theorem ggX8_skip_X8_more : GoodIn wsX8_skip wsX8_more := goodIn_r _ [5] (by decide +kernel) (by decide +kernel)
set_option maxRecDepth 20000 in
theorem gX8_skip_X8_more : GoodIn wsX8_skip (va_wsS RX8 87 yX8_more wsX8_more) := goodIn_app (goodIn_of _ (by decide +kernel)) ggX8_skip_X8_more
theorem dX8_skip_0 : decode cX8_skip 0 = .ok (.iload_n 1, 1) := by decide +kernel
theorem dX8_skip_1 : decode cX8_skip 1 = .ok (.ifCond .eq 14, 3) := by decide +kernel
theorem dX8_skip_4 : decode cX8_skip 4 = .ok (.aload_n 0, 1) := by decide +kernel
theorem dX8_skip_5 : decode cX8_skip 5 = .ok (.aload_n 0, 1) := by decide +kernel
theorem dX8_skip_6 : decode cX8_skip 6 = .ok (.getfield 84, 3) := by decide +kernel
theorem dX8_skip_9 : decode cX8_skip 9 = .ok (.invokestatic 87, 3) := by decide +kernel
theorem dX8_skip_12 : decode cX8_skip 12 = .ok (.putfield 84, 3) := by decide +kernel
theorem dX8_skip_15 : decode cX8_skip 15 = .ok (.return_, 1) := by decide +kernel
set_option maxRecDepth 20000 in
theorem ggX8_direct_X8_at : GoodIn wsX8_direct wsX8_at := goodIn_r _ [7, 8, 9, 10, 11, 12, 13, 14, 15, 16, 17, 18, 19, 20, 21, 22, 23, 24, 25, 26, 27, 28, 29, 30, 31, 32, 33, 34, 35, 36, 37, 38, 39, 40, 41, 42, 43, 44, 45] (by decide +kernel) (by decide +kernel)
set_option maxRecDepth 20000 in
theorem gX8_direct_X8_at : GoodIn wsX8_direct (wsV RX8 95 RX8 yX8_at wsX8_at) := goodIn_app (goodIn_of _ (by decide +kernel)) ggX8_direct_X8_at
theorem dX8_direct_0 : decode cX8_direct 0 = .ok (.iload_n 1, 1) := by decide +kernel
theorem dX8_direct_1 : decode cX8_direct 1 = .ok (.istore_n 2, 1) := by decide +kernel
theorem dX8_direct_2 : decode cX8_direct 2 = .ok (.iconst 0, 1) := by decide +kernel
theorem dX8_direct_3 : decode cX8_direct 3 = .ok (.istore_n 3, 1) := by decide +kernel
theorem dX8_direct_4 : decode cX8_direct 4 = .ok (.iload_n 2, 1) := by decide +kernel
theorem dX8_direct_5 : decode cX8_direct 5 = .ok (.bipush 15, 2) := by decide +kernel
theorem dX8_direct_7 : decode cX8_direct 7 = .ok (.ishr, 1) := by decide +kernel
theorem dX8_direct_8 : decode cX8_direct 8 = .ok (.iconst 1, 1) := by decide +kernel
theorem dX8_direct_9 : decode cX8_direct 9 = .ok (.if_icmp .ne 38, 3) := by decide +kernel
theorem dX8_direct_12 : decode cX8_direct 12 = .ok (.iinc 3 1, 3) := by decide +kernel
theorem dX8_direct_15 : decode cX8_direct 15 = .ok (.iload_n 3, 1) := by decide +kernel
theorem dX8_direct_16 : decode cX8_direct 16 = .ok (.bipush 33, 2) := by decide +kernel
theorem dX8_direct_18 : decode cX8_direct 18 = .ok (.if_icmp .ne 16, 3) := by decide +kernel
theorem dX8_direct_21 : decode cX8_direct 21 = .ok (.aload_n 0, 1) := by decide +kernel
theorem dX8_direct_22 : decode cX8_direct 22 = .ok (.iconst 1, 1) := by decide +kernel
