theorem dX5_shiftAndSkip_6 : decode cX5_shiftAndSkip 6 = .ok (.sipush 512, 3) := by decide +kernel
theorem dX5_shiftAndSkip_9 : decode cX5_shiftAndSkip 9 = .ok (.iand, 1) := by decide +kernel
theorem dX5_shiftAndSkip_10 : decode cX5_shiftAndSkip 10 = .ok (.ifCond .eq 30, 3) := by decide +kernel
theorem dX5_shiftAndSkip_13 : decode cX5_shiftAndSkip 13 = .ok (.aload_n 0, 1) := by decide +kernel
theorem dX5_shiftAndSkip_14 : decode cX5_shiftAndSkip 14 = .ok (.getfield 9, 3) := by decide +kernel
theorem dX5_shiftAndSkip_17 : decode cX5_shiftAndSkip 17 = .ok (.iload_n 2, 1) := by decide +kernel
theorem dX5_shiftAndSkip_18 : decode cX5_shiftAndSkip 18 = .ok (.aload_n 0, 1) := by decide +kernel
theorem dX5_shiftAndSkip_19 : decode cX5_shiftAndSkip 19 = .ok (.aload_n 0, 1) := by decide +kernel
theorem dX5_shiftAndSkip_20 : decode cX5_shiftAndSkip 20 = .ok (.getfield 9, 3) := by decide +kernel
theorem dX5_shiftAndSkip_23 : decode cX5_shiftAndSkip 23 = .ok (.iload_n 2, 1) := by decide +kernel
theorem dX5_shiftAndSkip_24 : decode cX5_shiftAndSkip 24 = .ok (.invokevirtual 29, 3) := by decide +kernel
theorem dX5_shiftAndSkip_27 : decode cX5_shiftAndSkip 27 = .ok (.iload_n 1, 1) := by decide +kernel
theorem dX5_shiftAndSkip_28 : decode cX5_shiftAndSkip 28 = .ok (.bipush 6, 2) := by decide +kernel
theorem dX5_shiftAndSkip_30 : decode cX5_shiftAndSkip 30 = .ok (.ishr, 1) := by decide +kernel
theorem dX5_shiftAndSkip_31 : decode cX5_shiftAndSkip 31 = .ok (.bipush 7, 2) := by decide +kernel
theorem dX5_shiftAndSkip_33 : decode cX5_shiftAndSkip 33 = .ok (.iand, 1) := by decide +kernel
theorem dX5_shiftAndSkip_34 : decode cX5_shiftAndSkip 34 = .ok (.invokevirtual 104, 3) := by decide +kernel
theorem dX5_shiftAndSkip_37 : decode cX5_shiftAndSkip 37 = .ok (.invokevirtual 76, 3) := by decide +kernel
theorem dX5_shiftAndSkip_40 : decode cX5_shiftAndSkip 40 = .ok (.iload_n 1, 1) := by decide +kernel
theorem dX5_shiftAndSkip_41 : decode cX5_shiftAndSkip 41 = .ok (.bipush 32, 2) := by decide +kernel
theorem dX5_shiftAndSkip_43 : decode cX5_shiftAndSkip 43 = .ok (.iand, 1) := by decide +kernel
theorem dX5_shiftAndSkip_44 : decode cX5_shiftAndSkip 44 = .ok (.ifCond .eq 11, 3) := by decide +kernel
theorem dX5_shiftAndSkip_47 : decode cX5_shiftAndSkip 47 = .ok (.aload_n 0, 1) := by decide +kernel
theorem dX5_shiftAndSkip_48 : decode cX5_shiftAndSkip 48 = .ok (.getfield 15, 3) := by decide +kernel
theorem dX5_shiftAndSkip_51 : decode cX5_shiftAndSkip 51 = .ok (.iconst 0, 1) := by decide +kernel
theorem dX5_shiftAndSkip_52 : decode cX5_shiftAndSkip 52 = .ok (.putfield 98, 3) := by decide +kernel
theorem dX5_shiftAndSkip_55 : decode cX5_shiftAndSkip 55 = .ok (.aload_n 0, 1) := by decide +kernel
theorem dX5_shiftAndSkip_56 : decode cX5_shiftAndSkip 56 = .ok (.iload_n 1, 1) := by decide +kernel
theorem dX5_shiftAndSkip_57 : decode cX5_shiftAndSkip 57 = .ok (.bipush 8, 2) := by decide +kernel
theorem dX5_shiftAndSkip_59 : decode cX5_shiftAndSkip 59 = .ok (.iand, 1) := by decide +kernel
theorem dX5_shiftAndSkip_60 : decode cX5_shiftAndSkip 60 = .ok (.ifCond .eq 20, 3) := by decide +kernel
theorem dX5_shiftAndSkip_63 : decode cX5_shiftAndSkip 63 = .ok (.aload_n 0, 1) := by decide +kernel
theorem dX5_shiftAndSkip_64 : decode cX5_shiftAndSkip 64 = .ok (.getfield 9, 3) := by decide +kernel
theorem dX5_shiftAndSkip_67 : decode cX5_shiftAndSkip 67 = .ok (.iload_n 2, 1) := by decide +kernel
theorem dX5_shiftAndSkip_68 : decode cX5_shiftAndSkip 68 = .ok (.invokevirtual 29, 3) := by decide +kernel
theorem dX5_shiftAndSkip_71 : decode cX5_shiftAndSkip 71 = .ok (.iconst 1, 1) := by decide +kernel
theorem dX5_shiftAndSkip_72 : decode cX5_shiftAndSkip 72 = .ok (.iand, 1) := by decide +kernel
theorem dX5_shiftAndSkip_73 : decode cX5_shiftAndSkip 73 = .ok (.ifCond .ne 7, 3) := by decide +kernel
theorem dX5_shiftAndSkip_76 : decode cX5_shiftAndSkip 76 = .ok (.iconst 1, 1) := by decide +kernel
theorem dX5_shiftAndSkip_77 : decode cX5_shiftAndSkip 77 = .ok (.goto 4, 3) := by decide +kernel
theorem dX5_shiftAndSkip_80 : decode cX5_shiftAndSkip 80 = .ok (.iconst 0, 1) := by decide +kernel
theorem dX5_shiftAndSkip_81 : decode cX5_shiftAndSkip 81 = .ok (.invokevirtual 89, 3) := by decide +kernel
theorem dX5_shiftAndSkip_84 : decode cX5_shiftAndSkip 84 = .ok (.iload_n 1, 1) := by decide +kernel
theorem dX5_shiftAndSkip_85 : decode cX5_shiftAndSkip 85 = .ok (.bipush 16, 2) := by decide +kernel
theorem dX5_shiftAndSkip_87 : decode cX5_shiftAndSkip 87 = .ok (.iand, 1) := by decide +kernel
theorem dX5_shiftAndSkip_88 : decode cX5_shiftAndSkip 88 = .ok (.ifCond .eq 27, 3) := by decide +kernel
theorem dX5_shiftAndSkip_91 : decode cX5_shiftAndSkip 91 = .ok (.aload_n 0, 1) := by decide +kernel
theorem dX5_shiftAndSkip_92 : decode cX5_shiftAndSkip 92 = .ok (.getfield 9, 3) := by decide +kernel
theorem dX5_shiftAndSkip_95 : decode cX5_shiftAndSkip 95 = .ok (.iload_n 2, 1) := by decide +kernel
theorem dX5_shiftAndSkip_96 : decode cX5_shiftAndSkip 96 = .ok (.aload_n 0, 1) := by decide +kernel
theorem dX5_shiftAndSkip_97 : decode cX5_shiftAndSkip 97 = .ok (.aload_n 0, 1) := by decide +kernel
theorem dX5_shiftAndSkip_98 : decode cX5_shiftAndSkip 98 = .ok (.getfield 9, 3) := by decide +kernel
theorem dX5_shiftAndSkip_101 : decode cX5_shiftAndSkip 101 = .ok (.iload_n 2, 1) := by decide +kernel
theorem dX5_shiftAndSkip_102 : decode cX5_shiftAndSkip 102 = .ok (.invokevirtual 29, 3) := by decide +kernel
theorem dX5_shiftAndSkip_105 : decode cX5_shiftAndSkip 105 = .ok (.iload_n 1, 1) := by decide +kernel
theorem dX5_shiftAndSkip_106 : decode cX5_shiftAndSkip 106 = .ok (.bipush 7, 2) := by decide +kernel
theorem dX5_shiftAndSkip_108 : decode cX5_shiftAndSkip 108 = .ok (.iand, 1) := by decide +kernel
theorem dX5_shiftAndSkip_109 : decode cX5_shiftAndSkip 109 = .ok (.invokevirtual 104, 3) := by decide +kernel
theorem dX5_shiftAndSkip_112 : decode cX5_shiftAndSkip 112 = .ok (.invokevirtual 76, 3) := by decide +kernel
theorem dX5_shiftAndSkip_115 : decode cX5_shiftAndSkip 115 = .ok (.return_, 1) := by decide +kernel
set_option maxRecDepth 20000 in
theorem ggX5_shifted_X5_throughE : GoodIn wsX5_shifted wsX5_throughE := goodIn_r _ [8, 3, 9, 10, 11, 12, 13, 14, 15, 16, 17] (by decide +kernel) (by decide +kernel)
set_option maxRecDepth 20000 in
theorem gX5_shifted_X5_throughE : GoodIn wsX5_shifted (wsV RX5 108 RX5 yX5_throughE wsX5_throughE) := goodIn_app (goodIn_of _ (by decide +kernel)) ggX5_shifted_X5_throughE
theorem dX5_shifted_0 : decode cX5_shifted 0 = .ok (.iload_n 2, 1) := by decide +kernel
theorem dX5_shifted_1 : decode cX5_shifted 1 = .ok (.tableswitch 142 0 6 #[43, 56, 65, 77, 89, 97, 119], 43) := by decide +kernel
theorem dX5_shifted_44 : decode cX5_shifted 44 = .ok (.iload_n 1, 1) := by decide +kernel
theorem dX5_shifted_45 : decode cX5_shifted 45 = .ok (.ldc 38, 2) := by decide +kernel
theorem dX5_shifted_47 : decode cX5_shifted 47 = .ok (.iand, 1) := by decide +kernel
theorem dX5_shifted_48 : decode cX5_shifted 48 = .ok (.iload_n 1, 1) := by decide +kernel
theorem dX5_shifted_49 : decode cX5_shifted 49 = .ok (.iconst 1, 1) := by decide +kernel
theorem dX5_shifted_50 : decode cX5_shifted 50 = .ok (.ishl, 1) := by decide +kernel
theorem dX5_shifted_51 : decode cX5_shifted 51 = .ok (.sipush 32767, 3) := by decide +kernel
theorem dX5_shifted_54 : decode cX5_shifted 54 = .ok (.iand, 1) := by decide +kernel
theorem dX5_shifted_55 : decode cX5_shifted 55 = .ok (.ior, 1) := by decide +kernel
theorem dX5_shifted_56 : decode cX5_shifted 56 = .ok (.ireturn, 1) := by decide +kernel
theorem dX5_shifted_57 : decode cX5_shifted 57 = .ok (.iload_n 1, 1) := by decide +kernel
theorem dX5_shifted_58 : decode cX5_shifted 58 = .ok (.ldc 38, 2) := by decide +kernel
theorem dX5_shifted_60 : decode cX5_shifted 60 = .ok (.iand, 1) := by decide +kernel
theorem dX5_shifted_61 : decode cX5_shifted 61 = .ok (.iload_n 1, 1) := by decide +kernel
theorem dX5_shifted_62 : decode cX5_shifted 62 = .ok (.iconst 1, 1) := by decide +kernel
theorem dX5_shifted_63 : decode cX5_shifted 63 = .ok (.ishr, 1) := by decide +kernel
theorem dX5_shifted_64 : decode cX5_shifted 64 = .ok (.ior, 1) := by decide +kernel
theorem dX5_shifted_65 : decode cX5_shifted 65 = .ok (.ireturn, 1) := by decide +kernel
theorem dX5_shifted_66 : decode cX5_shifted 66 = .ok (.iload_n 1, 1) := by decide +kernel
theorem dX5_shifted_67 : decode cX5_shifted 67 = .ok (.iconst 1, 1) := by decide +kernel
theorem dX5_shifted_68 : decode cX5_shifted 68 = .ok (.ishl, 1) := by decide +kernel
theorem dX5_shifted_69 : decode cX5_shifted 69 = .ok (.iload_n 1, 1) := by decide +kernel
theorem dX5_shifted_70 : decode cX5_shifted 70 = .ok (.bipush 15, 2) := by decide +kernel
theorem dX5_shifted_72 : decode cX5_shifted 72 = .ok (.ishr, 1) := by decide +kernel
theorem dX5_shifted_73 : decode cX5_shifted 73 = .ok (.ior, 1) := by decide +kernel
theorem dX5_shifted_74 : decode cX5_shifted 74 = .ok (.ldc 97, 2) := by decide +kernel
theorem dX5_shifted_76 : decode cX5_shifted 76 = .ok (.iand, 1) := by decide +kernel
theorem dX5_shifted_77 : decode cX5_shifted 77 = .ok (.ireturn, 1) := by decide +kernel
theorem dX5_shifted_78 : decode cX5_shifted 78 = .ok (.iload_n 1, 1) := by decide +kernel
theorem dX5_shifted_79 : decode cX5_shifted 79 = .ok (.iconst 1, 1) := by decide +kernel
theorem dX5_shifted_80 : decode cX5_shifted 80 = .ok (.ishr, 1) := by decide +kernel
theorem dX5_shifted_81 : decode cX5_shifted 81 = .ok (.iload_n 1, 1) := by decide +kernel
theorem dX5_shifted_82 : decode cX5_shifted 82 = .ok (.bipush 15, 2) := by decide +kernel
theorem dX5_shifted_84 : decode cX5_shifted 84 = .ok (.ishl, 1) := by decide +kernel
theorem dX5_shifted_85 : decode cX5_shifted 85 = .ok (.ior, 1) := by decide +kernel
theorem dX5_shifted_86 : decode cX5_shifted 86 = .ok (.ldc 97, 2) := by decide +kernel
theorem dX5_shifted_88 : decode cX5_shifted 88 = .ok (.iand, 1) := by decide +kernel
theorem dX5_shifted_89 : decode cX5_shifted 89 = .ok (.ireturn, 1) := by decide +kernel
theorem dX5_shifted_90 : decode cX5_shifted 90 = .ok (.iload_n 1, 1) := by decide +kernel
theorem dX5_shifted_91 : decode cX5_shifted 91 = .ok (.iconst 1, 1) := by decide +kernel
theorem dX5_shifted_92 : decode cX5_shifted 92 = .ok (.ishl, 1) := by decide +kernel
theorem dX5_shifted_93 : decode cX5_shifted 93 = .ok (.sipush 32767, 3) := by decide +kernel
theorem dX5_shifted_96 : decode cX5_shifted 96 = .ok (.iand, 1) := by decide +kernel
theorem dX5_shifted_97 : decode cX5_shifted 97 = .ok (.ireturn, 1) := by decide +kernel
theorem dX5_shifted_98 : decode cX5_shifted 98 = .ok (.aload_n 0, 1) := by decide +kernel
theorem dX5_shifted_99 : decode cX5_shifted 99 = .ok (.iload_n 1, 1) := by decide +kernel
theorem dX5_shifted_100 : decode cX5_shifted 100 = .ok (.iconst 1, 1) := by decide +kernel
theorem dX5_shifted_101 : decode cX5_shifted 101 = .ok (.iand, 1) := by decide +kernel
theorem dX5_shifted_102 : decode cX5_shifted 102 = .ok (.iload_n 1, 1) := by decide +kernel
theorem dX5_shifted_103 : decode cX5_shifted 103 = .ok (.iconst 1, 1) := by decide +kernel
theorem dX5_shifted_104 : decode cX5_shifted 104 = .ok (.ishr, 1) := by decide +kernel
theorem dX5_shifted_105 : decode cX5_shifted 105 = .ok (.aload_n 0, 1) := by decide +kernel
theorem dX5_shifted_106 : decode cX5_shifted 106 = .ok (.getfield 15, 3) := by decide +kernel
theorem dX5_shifted_109 : decode cX5_shifted 109 = .ok (.getfield 98, 3) := by decide +kernel
theorem dX5_shifted_112 : decode cX5_shifted 112 = .ok (.bipush 15, 2) := by decide +kernel
theorem dX5_shifted_114 : decode cX5_shifted 114 = .ok (.ishl, 1) := by decide +kernel
theorem dX5_shifted_115 : decode cX5_shifted 115 = .ok (.ior, 1) := by decide +kernel
theorem dX5_shifted_116 : decode cX5_shifted 116 = .ok (.invokevirtual 108, 3) := by decide +kernel
theorem dX5_shifted_119 : decode cX5_shifted 119 = .ok (.ireturn, 1) := by decide +kernel
theorem dX5_shifted_120 : decode cX5_shifted 120 = .ok (.aload_n 0, 1) := by decide +kernel
theorem dX5_shifted_121 : decode cX5_shifted 121 = .ok (.iload_n 1, 1) := by decide +kernel
theorem dX5_shifted_122 : decode cX5_shifted 122 = .ok (.bipush 15, 2) := by decide +kernel
theorem dX5_shifted_124 : decode cX5_shifted 124 = .ok (.ishr, 1) := by decide +kernel
theorem dX5_shifted_125 : decode cX5_shifted 125 = .ok (.iload_n 1, 1) := by decide +kernel
theorem dX5_shifted_126 : decode cX5_shifted 126 = .ok (.iconst 1, 1) := by decide +kernel
theorem dX5_shifted_127 : decode cX5_shifted 127 = .ok (.ishl, 1) := by decide +kernel
theorem dX5_shifted_128 : decode cX5_shifted 128 = .ok (.ldc 97, 2) := by decide +kernel
theorem dX5_shifted_130 : decode cX5_shifted 130 = .ok (.iand, 1) := by decide +kernel
theorem dX5_shifted_131 : decode cX5_shifted 131 = .ok (.aload_n 0, 1) := by decide +kernel
theorem dX5_shifted_132 : decode cX5_shifted 132 = .ok (.getfield 15, 3) := by decide +kernel
theorem dX5_shifted_135 : decode cX5_shifted 135 = .ok (.getfield 98, 3) := by decide +kernel
theorem dX5_shifted_138 : decode cX5_shifted 138 = .ok (.ior, 1) := by decide +kernel
theorem dX5_shifted_139 : decode cX5_shifted 139 = .ok (.invokevirtual 108, 3) := by decide +kernel
theorem dX5_shifted_142 : decode cX5_shifted 142 = .ok (.ireturn, 1) := by decide +kernel
theorem dX5_shifted_143 : decode cX5_shifted 143 = .ok (.iload_n 1, 1) := by decide +kernel
theorem dX5_shifted_144 : decode cX5_shifted 144 = .ok (.iconst 4, 1) := by decide +kernel
theorem dX5_shifted_145 : decode cX5_shifted 145 = .ok (.ishl, 1) := by decide +kernel
theorem dX5_shifted_146 : decode cX5_shifted 146 = .ok (.iload_n 1, 1) := by decide +kernel
theorem dX5_shifted_147 : decode cX5_shifted 147 = .ok (.bipush 12, 2) := by decide +kernel
theorem dX5_shifted_149 : decode cX5_shifted 149 = .ok (.ishr, 1) := by decide +kernel
theorem dX5_shifted_150 : decode cX5_shifted 150 = .ok (.ior, 1) := by decide +kernel
theorem dX5_shifted_151 : decode cX5_shifted 151 = .ok (.ldc 97, 2) := by decide +kernel
theorem dX5_shifted_153 : decode cX5_shifted 153 = .ok (.iand, 1) := by decide +kernel
theorem dX5_shifted_154 : decode cX5_shifted 154 = .ok (.ireturn, 1) := by decide +kernel
theorem dX5_throughE_0 : decode cX5_throughE 0 = .ok (.aload_n 0, 1) := by decide +kernel
theorem dX5_throughE_1 : decode cX5_throughE 1 = .ok (.getfield 15, 3) := by decide +kernel
theorem dX5_throughE_4 : decode cX5_throughE 4 = .ok (.iload_n 1, 1) := by decide +kernel
theorem dX5_throughE_5 : decode cX5_throughE 5 = .ok (.putfield 98, 3) := by decide +kernel
theorem dX5_throughE_8 : decode cX5_throughE 8 = .ok (.iload_n 2, 1) := by decide +kernel
theorem dX5_throughE_9 : decode cX5_throughE 9 = .ok (.ireturn, 1) := by decide +kernel
set_option maxRecDepth 20000 in
theorem ggX5_alterAndSkip_X5_registerOf : GoodIn wsX5_alterAndSkip wsX5_registerOf := goodIn_r _ [7] (by decide +kernel) (by decide +kernel)
set_option maxRecDepth 20000 in
theorem gX5_alterAndSkip_X5_registerOf : GoodIn wsX5_alterAndSkip (va_wsS RX5 73 yX5_registerOf wsX5_registerOf) := goodIn_app (goodIn_of _ (by decide +kernel)) ggX5_alterAndSkip_X5_registerOf
set_option maxRecDepth 20000 in
theorem ggX5_alterAndSkip_X4_read : GoodIn wsX5_alterAndSkip wsX4_read := goodIn_r _ [12, 13, 49] (by decide +kernel) (by decide +kernel)
set_option maxRecDepth 20000 in
theorem gX5_alterAndSkip_X4_read : GoodIn wsX5_alterAndSkip (wsV RX5 29 RX4 yX4_read wsX4_read) := goodIn_app (goodIn_of _ (by decide +kernel)) ggX5_alterAndSkip_X4_read
set_option maxRecDepth 20000 in
theorem ggX5_alterAndSkip_X5_altered : GoodIn wsX5_alterAndSkip wsX5_altered := goodIn_r _ [16, 17] (by decide +kernel) (by decide +kernel)
set_option maxRecDepth 20000 in
theorem gX5_alterAndSkip_X5_altered : GoodIn wsX5_alterAndSkip (va_wsS RX5 111 yX5_altered wsX5_altered) := goodIn_app (goodIn_of _ (by decide +kernel)) ggX5_alterAndSkip_X5_altered
set_option maxRecDepth 20000 in
theorem ggX5_alterAndSkip_X5_alteredE : GoodIn wsX5_alterAndSkip wsX5_alteredE := goodIn_r _ [20] (by decide +kernel) (by decide +kernel)
set_option maxRecDepth 20000 in
theorem gX5_alterAndSkip_X5_alteredE : GoodIn wsX5_alterAndSkip (va_wsS RX5 114 yX5_alteredE wsX5_alteredE) := goodIn_app (goodIn_of _ (by decide +kernel)) ggX5_alterAndSkip_X5_alteredE
set_option maxRecDepth 20000 in
theorem ggX5_alterAndSkip_X5_incremented : GoodIn wsX5_alterAndSkip wsX5_incremented := goodIn_r _ [24, 17, 2, 40, 41, 42, 43, 44, 45, 46, 47, 48] (by decide +kernel) (by decide +kernel)
set_option maxRecDepth 20000 in
theorem gX5_alterAndSkip_X5_incremented : GoodIn wsX5_alterAndSkip (wsV RX5 117 RX5 yX5_incremented wsX5_incremented) := goodIn_app (goodIn_of _ (by decide +kernel)) ggX5_alterAndSkip_X5_incremented
set_option maxRecDepth 20000 in
theorem ggX5_alterAndSkip_X4_write : GoodIn wsX5_alterAndSkip wsX4_write := goodIn_r _ [28, 13, 29, 49] (by decide +kernel) (by decide +kernel)
set_option maxRecDepth 20000 in
theorem gX5_alterAndSkip_X4_write : GoodIn wsX5_alterAndSkip (wsV RX5 76 RX4 yX4_write wsX4_write) := goodIn_app (goodIn_of _ (by decide +kernel)) ggX5_alterAndSkip_X4_write
set_option maxRecDepth 20000 in
theorem ggX5_alterAndSkip_X5_skipIf : GoodIn wsX5_alterAndSkip wsX5_skipIf := goodIn_r _ [33, 2, 34, 35, 36, 37, 38, 39, 40, 41, 42, 43, 44, 45, 46, 47, 48] (by decide +kernel) (by decide +kernel)
set_option maxRecDepth 20000 in
theorem gX5_alterAndSkip_X5_skipIf : GoodIn wsX5_alterAndSkip (wsV RX5 89 RX5 yX5_skipIf wsX5_skipIf) := goodIn_app (goodIn_of _ (by decide +kernel)) ggX5_alterAndSkip_X5_skipIf
theorem dX5_alterAndSkip_0 : decode cX5_alterAndSkip 0 = .ok (.iload_n 1, 1) := by decide +kernel
theorem dX5_alterAndSkip_1 : decode cX5_alterAndSkip 1 = .ok (.invokestatic 73, 3) := by decide +kernel
theorem dX5_alterAndSkip_4 : decode cX5_alterAndSkip 4 = .ok (.istore_n 2, 1) := by decide +kernel
theorem dX5_alterAndSkip_5 : decode cX5_alterAndSkip 5 = .ok (.aload_n 0, 1) := by decide +kernel
theorem dX5_alterAndSkip_6 : decode cX5_alterAndSkip 6 = .ok (.getfield 9, 3) := by decide +kernel
theorem dX5_alterAndSkip_9 : decode cX5_alterAndSkip 9 = .ok (.iload_n 2, 1) := by decide +kernel
theorem dX5_alterAndSkip_10 : decode cX5_alterAndSkip 10 = .ok (.invokevirtual 29, 3) := by decide +kernel
theorem dX5_alterAndSkip_13 : decode cX5_alterAndSkip 13 = .ok (.iload_n 1, 1) := by decide +kernel
theorem dX5_alterAndSkip_14 : decode cX5_alterAndSkip 14 = .ok (.bipush 8, 2) := by decide +kernel
theorem dX5_alterAndSkip_16 : decode cX5_alterAndSkip 16 = .ok (.ishr, 1) := by decide +kernel
theorem dX5_alterAndSkip_17 : decode cX5_alterAndSkip 17 = .ok (.iconst 3, 1) := by decide +kernel
theorem dX5_alterAndSkip_18 : decode cX5_alterAndSkip 18 = .ok (.iand, 1) := by decide +kernel
theorem dX5_alterAndSkip_19 : decode cX5_alterAndSkip 19 = .ok (.invokestatic 111, 3) := by decide +kernel
theorem dX5_alterAndSkip_22 : decode cX5_alterAndSkip 22 = .ok (.istore_n 3, 1) := by decide +kernel
theorem dX5_alterAndSkip_23 : decode cX5_alterAndSkip 23 = .ok (.iload_n 1, 1) := by decide +kernel
theorem dX5_alterAndSkip_24 : decode cX5_alterAndSkip 24 = .ok (.bipush 32, 2) := by decide +kernel
theorem dX5_alterAndSkip_26 : decode cX5_alterAndSkip 26 = .ok (.iand, 1) := by decide +kernel
theorem dX5_alterAndSkip_27 : decode cX5_alterAndSkip 27 = .ok (.ifCond .eq 7, 3) := by decide +kernel
theorem dX5_alterAndSkip_30 : decode cX5_alterAndSkip 30 = .ok (.iconst 1, 1) := by decide +kernel
theorem dX5_alterAndSkip_31 : decode cX5_alterAndSkip 31 = .ok (.goto 4, 3) := by decide +kernel
theorem dX5_alterAndSkip_34 : decode cX5_alterAndSkip 34 = .ok (.iconst 0, 1) := by decide +kernel
theorem dX5_alterAndSkip_35 : decode cX5_alterAndSkip 35 = .ok (.istore 4, 2) := by decide +kernel
theorem dX5_alterAndSkip_37 : decode cX5_alterAndSkip 37 = .ok (.iload_n 1, 1) := by decide +kernel
theorem dX5_alterAndSkip_38 : decode cX5_alterAndSkip 38 = .ok (.bipush 16, 2) := by decide +kernel
theorem dX5_alterAndSkip_40 : decode cX5_alterAndSkip 40 = .ok (.iand, 1) := by decide +kernel
theorem dX5_alterAndSkip_41 : decode cX5_alterAndSkip 41 = .ok (.ifCond .eq 7, 3) := by decide +kernel
theorem dX5_alterAndSkip_44 : decode cX5_alterAndSkip 44 = .ok (.iconst 1, 1) := by decide +kernel
theorem dX5_alterAndSkip_45 : decode cX5_alterAndSkip 45 = .ok (.goto 4, 3) := by decide +kernel
theorem dX5_alterAndSkip_48 : decode cX5_alterAndSkip 48 = .ok (.iconst 0, 1) := by decide +kernel
theorem dX5_alterAndSkip_49 : decode cX5_alterAndSkip 49 = .ok (.istore 5, 2) := by decide +kernel
theorem dX5_alterAndSkip_51 : decode cX5_alterAndSkip 51 = .ok (.iload_n 1, 1) := by decide +kernel
theorem dX5_alterAndSkip_52 : decode cX5_alterAndSkip 52 = .ok (.bipush 8, 2) := by decide +kernel
theorem dX5_alterAndSkip_54 : decode cX5_alterAndSkip 54 = .ok (.iand, 1) := by decide +kernel
theorem dX5_alterAndSkip_55 : decode cX5_alterAndSkip 55 = .ok (.ifCond .eq 7, 3) := by decide +kernel
theorem dX5_alterAndSkip_58 : decode cX5_alterAndSkip 58 = .ok (.iconst 1, 1) := by decide +kernel
theorem dX5_alterAndSkip_59 : decode cX5_alterAndSkip 59 = .ok (.goto 4, 3) := by decide +kernel
theorem dX5_alterAndSkip_62 : decode cX5_alterAndSkip 62 = .ok (.iconst 0, 1) := by decide +kernel
theorem dX5_alterAndSkip_63 : decode cX5_alterAndSkip 63 = .ok (.istore 6, 2) := by decide +kernel
theorem dX5_alterAndSkip_65 : decode cX5_alterAndSkip 65 = .ok (.iload_n 1, 1) := by decide +kernel
theorem dX5_alterAndSkip_66 : decode cX5_alterAndSkip 66 = .ok (.iconst 2, 1) := by decide +kernel
theorem dX5_alterAndSkip_67 : decode cX5_alterAndSkip 67 = .ok (.iand, 1) := by decide +kernel
theorem dX5_alterAndSkip_68 : decode cX5_alterAndSkip 68 = .ok (.ifCond .eq 7, 3) := by decide +kernel
theorem dX5_alterAndSkip_71 : decode cX5_alterAndSkip 71 = .ok (.iconst 1, 1) := by decide +kernel
theorem dX5_alterAndSkip_72 : decode cX5_alterAndSkip 72 = .ok (.goto 4, 3) := by decide +kernel
theorem dX5_alterAndSkip_75 : decode cX5_alterAndSkip 75 = .ok (.iconst 0, 1) := by decide +kernel
theorem dX5_alterAndSkip_76 : decode cX5_alterAndSkip 76 = .ok (.istore 7, 2) := by decide +kernel
theorem dX5_alterAndSkip_78 : decode cX5_alterAndSkip 78 = .ok (.aload_n 0, 1) := by decide +kernel
theorem dX5_alterAndSkip_79 : decode cX5_alterAndSkip 79 = .ok (.getfield 15, 3) := by decide +kernel
theorem dX5_alterAndSkip_82 : decode cX5_alterAndSkip 82 = .ok (.getfield 98, 3) := by decide +kernel
theorem dX5_alterAndSkip_85 : decode cX5_alterAndSkip 85 = .ok (.ifCond .eq 7, 3) := by decide +kernel
theorem dX5_alterAndSkip_88 : decode cX5_alterAndSkip 88 = .ok (.iconst 1, 1) := by decide +kernel
theorem dX5_alterAndSkip_89 : decode cX5_alterAndSkip 89 = .ok (.goto 4, 3) := by decide +kernel
theorem dX5_alterAndSkip_92 : decode cX5_alterAndSkip 92 = .ok (.iconst 0, 1) := by decide +kernel
theorem dX5_alterAndSkip_93 : decode cX5_alterAndSkip 93 = .ok (.istore 8, 2) := by decide +kernel
theorem dX5_alterAndSkip_95 : decode cX5_alterAndSkip 95 = .ok (.iload_n 3, 1) := by decide +kernel
theorem dX5_alterAndSkip_96 : decode cX5_alterAndSkip 96 = .ok (.ldc 38, 2) := by decide +kernel
theorem dX5_alterAndSkip_98 : decode cX5_alterAndSkip 98 = .ok (.iand, 1) := by decide +kernel
theorem dX5_alterAndSkip_99 : decode cX5_alterAndSkip 99 = .ok (.ifCond .eq 7, 3) := by decide +kernel
theorem dX5_alterAndSkip_102 : decode cX5_alterAndSkip 102 = .ok (.iconst 1, 1) := by decide +kernel
theorem dX5_alterAndSkip_103 : decode cX5_alterAndSkip 103 = .ok (.goto 4, 3) := by decide +kernel
theorem dX5_alterAndSkip_106 : decode cX5_alterAndSkip 106 = .ok (.iconst 0, 1) := by decide +kernel
theorem dX5_alterAndSkip_107 : decode cX5_alterAndSkip 107 = .ok (.istore 9, 2) := by decide +kernel
theorem dX5_alterAndSkip_109 : decode cX5_alterAndSkip 109 = .ok (.iload_n 3, 1) := by decide +kernel
theorem dX5_alterAndSkip_110 : decode cX5_alterAndSkip 110 = .ok (.iconst 1, 1) := by decide +kernel
theorem dX5_alterAndSkip_111 : decode cX5_alterAndSkip 111 = .ok (.iand, 1) := by decide +kernel
theorem dX5_alterAndSkip_112 : decode cX5_alterAndSkip 112 = .ok (.ifCond .eq 7, 3) := by decide +kernel
theorem dX5_alterAndSkip_115 : decode cX5_alterAndSkip 115 = .ok (.iconst 1, 1) := by decide +kernel
theorem dX5_alterAndSkip_116 : decode cX5_alterAndSkip 116 = .ok (.goto 4, 3) := by decide +kernel
theorem dX5_alterAndSkip_119 : decode cX5_alterAndSkip 119 = .ok (.iconst 0, 1) := by decide +kernel
theorem dX5_alterAndSkip_120 : decode cX5_alterAndSkip 120 = .ok (.istore 10, 2) := by decide +kernel
theorem dX5_alterAndSkip_122 : decode cX5_alterAndSkip 122 = .ok (.aload_n 0, 1) := by decide +kernel
theorem dX5_alterAndSkip_123 : decode cX5_alterAndSkip 123 = .ok (.getfield 15, 3) := by decide +kernel
theorem dX5_alterAndSkip_126 : decode cX5_alterAndSkip 126 = .ok (.aload_n 0, 1) := by decide +kernel
theorem dX5_alterAndSkip_127 : decode cX5_alterAndSkip 127 = .ok (.getfield 15, 3) := by decide +kernel
theorem dX5_alterAndSkip_130 : decode cX5_alterAndSkip 130 = .ok (.getfield 98, 3) := by decide +kernel
theorem dX5_alterAndSkip_133 : decode cX5_alterAndSkip 133 = .ok (.iload_n 1, 1) := by decide +kernel
theorem dX5_alterAndSkip_134 : decode cX5_alterAndSkip 134 = .ok (.bipush 6, 2) := by decide +kernel
theorem dX5_alterAndSkip_136 : decode cX5_alterAndSkip 136 = .ok (.ishr, 1) := by decide +kernel
theorem dX5_alterAndSkip_137 : decode cX5_alterAndSkip 137 = .ok (.iconst 3, 1) := by decide +kernel
theorem dX5_alterAndSkip_138 : decode cX5_alterAndSkip 138 = .ok (.iand, 1) := by decide +kernel
theorem dX5_alterAndSkip_139 : decode cX5_alterAndSkip 139 = .ok (.invokestatic 114, 3) := by decide +kernel
theorem dX5_alterAndSkip_142 : decode cX5_alterAndSkip 142 = .ok (.putfield 98, 3) := by decide +kernel
theorem dX5_alterAndSkip_145 : decode cX5_alterAndSkip 145 = .ok (.iload_n 1, 1) := by decide +kernel
theorem dX5_alterAndSkip_146 : decode cX5_alterAndSkip 146 = .ok (.iconst 4, 1) := by decide +kernel
theorem dX5_alterAndSkip_147 : decode cX5_alterAndSkip 147 = .ok (.iand, 1) := by decide +kernel
theorem dX5_alterAndSkip_148 : decode cX5_alterAndSkip 148 = .ok (.ifCond .eq 9, 3) := by decide +kernel
theorem dX5_alterAndSkip_151 : decode cX5_alterAndSkip 151 = .ok (.aload_n 0, 1) := by decide +kernel
theorem dX5_alterAndSkip_152 : decode cX5_alterAndSkip 152 = .ok (.iload_n 3, 1) := by decide +kernel
theorem dX5_alterAndSkip_153 : decode cX5_alterAndSkip 153 = .ok (.invokevirtual 117, 3) := by decide +kernel
theorem dX5_alterAndSkip_156 : decode cX5_alterAndSkip 156 = .ok (.istore_n 3, 1) := by decide +kernel
theorem dX5_alterAndSkip_157 : decode cX5_alterAndSkip 157 = .ok (.aload_n 0, 1) := by decide +kernel
theorem dX5_alterAndSkip_158 : decode cX5_alterAndSkip 158 = .ok (.getfield 9, 3) := by decide +kernel
theorem dX5_alterAndSkip_161 : decode cX5_alterAndSkip 161 = .ok (.iload_n 2, 1) := by decide +kernel
theorem dX5_alterAndSkip_162 : decode cX5_alterAndSkip 162 = .ok (.iload_n 3, 1) := by decide +kernel
theorem dX5_alterAndSkip_163 : decode cX5_alterAndSkip 163 = .ok (.invokevirtual 76, 3) := by decide +kernel
theorem dX5_alterAndSkip_166 : decode cX5_alterAndSkip 166 = .ok (.iload_n 3, 1) := by decide +kernel
theorem dX5_alterAndSkip_167 : decode cX5_alterAndSkip 167 = .ok (.ifCond .eq 7, 3) := by decide +kernel
theorem dX5_alterAndSkip_170 : decode cX5_alterAndSkip 170 = .ok (.iconst 1, 1) := by decide +kernel
theorem dX5_alterAndSkip_171 : decode cX5_alterAndSkip 171 = .ok (.goto 4, 3) := by decide +kernel
theorem dX5_alterAndSkip_174 : decode cX5_alterAndSkip 174 = .ok (.iconst 0, 1) := by decide +kernel
theorem dX5_alterAndSkip_175 : decode cX5_alterAndSkip 175 = .ok (.istore 11, 2) := by decide +kernel
theorem dX5_alterAndSkip_177 : decode cX5_alterAndSkip 177 = .ok (.iload_n 1, 1) := by decide +kernel
theorem dX5_alterAndSkip_178 : decode cX5_alterAndSkip 178 = .ok (.iconst 1, 1) := by decide +kernel
theorem dX5_alterAndSkip_179 : decode cX5_alterAndSkip 179 = .ok (.iand, 1) := by decide +kernel
theorem dX5_alterAndSkip_180 : decode cX5_alterAndSkip 180 = .ok (.ifCond .ne 53, 3) := by decide +kernel
theorem dX5_alterAndSkip_183 : decode cX5_alterAndSkip 183 = .ok (.aload_n 0, 1) := by decide +kernel
theorem dX5_alterAndSkip_184 : decode cX5_alterAndSkip 184 = .ok (.iload 4, 2) := by decide +kernel
theorem dX5_alterAndSkip_186 : decode cX5_alterAndSkip 186 = .ok (.ifCond .eq 8, 3) := by decide +kernel
theorem dX5_alterAndSkip_189 : decode cX5_alterAndSkip 189 = .ok (.iload 8, 2) := by decide +kernel
theorem dX5_alterAndSkip_191 : decode cX5_alterAndSkip 191 = .ok (.ifCond .eq 33, 3) := by decide +kernel
theorem dX5_alterAndSkip_194 : decode cX5_alterAndSkip 194 = .ok (.iload 5, 2) := by decide +kernel
theorem dX5_alterAndSkip_196 : decode cX5_alterAndSkip 196 = .ok (.ifCond .eq 8, 3) := by decide +kernel
theorem dX5_alterAndSkip_199 : decode cX5_alterAndSkip 199 = .ok (.iload 9, 2) := by decide +kernel
theorem dX5_alterAndSkip_201 : decode cX5_alterAndSkip 201 = .ok (.ifCond .eq 23, 3) := by decide +kernel
theorem dX5_alterAndSkip_204 : decode cX5_alterAndSkip 204 = .ok (.iload 6, 2) := by decide +kernel
theorem dX5_alterAndSkip_206 : decode cX5_alterAndSkip 206 = .ok (.ifCond .eq 8, 3) := by decide +kernel
theorem dX5_alterAndSkip_209 : decode cX5_alterAndSkip 209 = .ok (.iload 10, 2) := by decide +kernel
theorem dX5_alterAndSkip_211 : decode cX5_alterAndSkip 211 = .ok (.ifCond .eq 13, 3) := by decide +kernel
theorem dX5_alterAndSkip_214 : decode cX5_alterAndSkip 214 = .ok (.iload 7, 2) := by decide +kernel
theorem dX5_alterAndSkip_216 : decode cX5_alterAndSkip 216 = .ok (.ifCond .eq 12, 3) := by decide +kernel
theorem dX5_alterAndSkip_219 : decode cX5_alterAndSkip 219 = .ok (.iload 11, 2) := by decide +kernel
theorem dX5_alterAndSkip_221 : decode cX5_alterAndSkip 221 = .ok (.ifCond .ne 7, 3) := by decide +kernel
theorem dX5_alterAndSkip_224 : decode cX5_alterAndSkip 224 = .ok (.iconst 1, 1) := by decide +kernel
theorem dX5_alterAndSkip_225 : decode cX5_alterAndSkip 225 = .ok (.goto 4, 3) := by decide +kernel
theorem dX5_alterAndSkip_228 : decode cX5_alterAndSkip 228 = .ok (.iconst 0, 1) := by decide +kernel
theorem dX5_alterAndSkip_229 : decode cX5_alterAndSkip 229 = .ok (.invokevirtual 89, 3) := by decide +kernel
theorem dX5_alterAndSkip_232 : decode cX5_alterAndSkip 232 = .ok (.return_, 1) := by decide +kernel
theorem dX5_alterAndSkip_233 : decode cX5_alterAndSkip 233 = .ok (.iload 4, 2) := by decide +kernel
theorem dX5_alterAndSkip_235 : decode cX5_alterAndSkip 235 = .ok (.ifCond .ne 22, 3) := by decide +kernel
theorem dX5_alterAndSkip_238 : decode cX5_alterAndSkip 238 = .ok (.iload 5, 2) := by decide +kernel
theorem dX5_alterAndSkip_240 : decode cX5_alterAndSkip 240 = .ok (.ifCond .ne 17, 3) := by decide +kernel
theorem dX5_alterAndSkip_243 : decode cX5_alterAndSkip 243 = .ok (.iload 6, 2) := by decide +kernel
theorem dX5_alterAndSkip_245 : decode cX5_alterAndSkip 245 = .ok (.ifCond .ne 12, 3) := by decide +kernel
theorem dX5_alterAndSkip_248 : decode cX5_alterAndSkip 248 = .ok (.iload 7, 2) := by decide +kernel
theorem dX5_alterAndSkip_250 : decode cX5_alterAndSkip 250 = .ok (.ifCond .ne 7, 3) := by decide +kernel
theorem dX5_alterAndSkip_253 : decode cX5_alterAndSkip 253 = .ok (.iconst 1, 1) := by decide +kernel
theorem dX5_alterAndSkip_254 : decode cX5_alterAndSkip 254 = .ok (.goto 4, 3) := by decide +kernel
theorem dX5_alterAndSkip_257 : decode cX5_alterAndSkip 257 = .ok (.iconst 0, 1) := by decide +kernel
theorem dX5_alterAndSkip_258 : decode cX5_alterAndSkip 258 = .ok (.istore 12, 2) := by decide +kernel
theorem dX5_alterAndSkip_260 : decode cX5_alterAndSkip 260 = .ok (.iload 5, 2) := by decide +kernel
theorem dX5_alterAndSkip_262 : decode cX5_alterAndSkip 262 = .ok (.ifCond .eq 26, 3) := by decide +kernel
theorem dX5_alterAndSkip_265 : decode cX5_alterAndSkip 265 = .ok (.iload 6, 2) := by decide +kernel
theorem dX5_alterAndSkip_267 : decode cX5_alterAndSkip 267 = .ok (.ifCond .eq 21, 3) := by decide +kernel
theorem dX5_alterAndSkip_270 : decode cX5_alterAndSkip 270 = .ok (.iload 9, 2) := by decide +kernel
theorem dX5_alterAndSkip_272 : decode cX5_alterAndSkip 272 = .ok (.ifCond .eq 12, 3) := by decide +kernel
theorem dX5_alterAndSkip_275 : decode cX5_alterAndSkip 275 = .ok (.iload 10, 2) := by decide +kernel
theorem dX5_alterAndSkip_277 : decode cX5_alterAndSkip 277 = .ok (.ifCond .eq 7, 3) := by decide +kernel
theorem dX5_alterAndSkip_280 : decode cX5_alterAndSkip 280 = .ok (.iconst 1, 1) := by decide +kernel
theorem dX5_alterAndSkip_281 : decode cX5_alterAndSkip 281 = .ok (.goto 32, 3) := by decide +kernel
theorem dX5_alterAndSkip_284 : decode cX5_alterAndSkip 284 = .ok (.iconst 0, 1) := by decide +kernel
theorem dX5_alterAndSkip_285 : decode cX5_alterAndSkip 285 = .ok (.goto 28, 3) := by decide +kernel
theorem dX5_alterAndSkip_288 : decode cX5_alterAndSkip 288 = .ok (.iload 5, 2) := by decide +kernel
theorem dX5_alterAndSkip_290 : decode cX5_alterAndSkip 290 = .ok (.ifCond .eq 8, 3) := by decide +kernel
theorem dX5_alterAndSkip_293 : decode cX5_alterAndSkip 293 = .ok (.iload 9, 2) := by decide +kernel
theorem dX5_alterAndSkip_295 : decode cX5_alterAndSkip 295 = .ok (.ifCond .ne 13, 3) := by decide +kernel
theorem dX5_alterAndSkip_298 : decode cX5_alterAndSkip 298 = .ok (.iload 6, 2) := by decide +kernel
theorem dX5_alterAndSkip_300 : decode cX5_alterAndSkip 300 = .ok (.ifCond .eq 12, 3) := by decide +kernel
theorem dX5_alterAndSkip_303 : decode cX5_alterAndSkip 303 = .ok (.iload 10, 2) := by decide +kernel
theorem dX5_alterAndSkip_305 : decode cX5_alterAndSkip 305 = .ok (.ifCond .eq 7, 3) := by decide +kernel
theorem dX5_alterAndSkip_308 : decode cX5_alterAndSkip 308 = .ok (.iconst 1, 1) := by decide +kernel
theorem dX5_alterAndSkip_309 : decode cX5_alterAndSkip 309 = .ok (.goto 4, 3) := by decide +kernel
theorem dX5_alterAndSkip_312 : decode cX5_alterAndSkip 312 = .ok (.iconst 0, 1) := by decide +kernel
theorem dX5_alterAndSkip_313 : decode cX5_alterAndSkip 313 = .ok (.istore 13, 2) := by decide +kernel
theorem dX5_alterAndSkip_315 : decode cX5_alterAndSkip 315 = .ok (.aload_n 0, 1) := by decide +kernel
theorem dX5_alterAndSkip_316 : decode cX5_alterAndSkip 316 = .ok (.iload 12, 2) := by decide +kernel
theorem dX5_alterAndSkip_318 : decode cX5_alterAndSkip 318 = .ok (.ifCond .ne 28, 3) := by decide +kernel
theorem dX5_alterAndSkip_321 : decode cX5_alterAndSkip 321 = .ok (.iload 4, 2) := by decide +kernel
theorem dX5_alterAndSkip_323 : decode cX5_alterAndSkip 323 = .ok (.ifCond .eq 8, 3) := by decide +kernel
theorem dX5_alterAndSkip_326 : decode cX5_alterAndSkip 326 = .ok (.iload 8, 2) := by decide +kernel
theorem dX5_alterAndSkip_328 : decode cX5_alterAndSkip 328 = .ok (.ifCond .ne 18, 3) := by decide +kernel
theorem dX5_alterAndSkip_331 : decode cX5_alterAndSkip 331 = .ok (.iload 13, 2) := by decide +kernel
theorem dX5_alterAndSkip_333 : decode cX5_alterAndSkip 333 = .ok (.ifCond .ne 13, 3) := by decide +kernel
theorem dX5_alterAndSkip_336 : decode cX5_alterAndSkip 336 = .ok (.iload 7, 2) := by decide +kernel
theorem dX5_alterAndSkip_338 : decode cX5_alterAndSkip 338 = .ok (.ifCond .eq 12, 3) := by decide +kernel
theorem dX5_alterAndSkip_341 : decode cX5_alterAndSkip 341 = .ok (.iload 11, 2) := by decide +kernel
theorem dX5_alterAndSkip_343 : decode cX5_alterAndSkip 343 = .ok (.ifCond .eq 7, 3) := by decide +kernel
theorem dX5_alterAndSkip_346 : decode cX5_alterAndSkip 346 = .ok (.iconst 1, 1) := by decide +kernel
theorem dX5_alterAndSkip_347 : decode cX5_alterAndSkip 347 = .ok (.goto 4, 3) := by decide +kernel
theorem dX5_alterAndSkip_350 : decode cX5_alterAndSkip 350 = .ok (.iconst 0, 1) := by decide +kernel
theorem dX5_alterAndSkip_351 : decode cX5_alterAndSkip 351 = .ok (.invokevirtual 89, 3) := by decide +kernel
theorem dX5_alterAndSkip_354 : decode cX5_alterAndSkip 354 = .ok (.return_, 1) := by decide +kernel
theorem dX5_altered_0 : decode cX5_altered 0 = .ok (.iload_n 1, 1) := by decide +kernel
theorem dX5_altered_1 : decode cX5_altered 1 = .ok (.tableswitch 37 1 3 #[27, 29, 34], 27) := by decide +kernel
theorem dX5_altered_28 : decode cX5_altered 28 = .ok (.iconst 0, 1) := by decide +kernel
theorem dX5_altered_29 : decode cX5_altered 29 = .ok (.ireturn, 1) := by decide +kernel
theorem dX5_altered_30 : decode cX5_altered 30 = .ok (.iload_n 0, 1) := by decide +kernel
theorem dX5_altered_31 : decode cX5_altered 31 = .ok (.ldc 97, 2) := by decide +kernel
theorem dX5_altered_33 : decode cX5_altered 33 = .ok (.ixor, 1) := by decide +kernel
theorem dX5_altered_34 : decode cX5_altered 34 = .ok (.ireturn, 1) := by decide +kernel
theorem dX5_altered_35 : decode cX5_altered 35 = .ok (.ldc 97, 2) := by decide +kernel
theorem dX5_altered_37 : decode cX5_altered 37 = .ok (.ireturn, 1) := by decide +kernel
theorem dX5_altered_38 : decode cX5_altered 38 = .ok (.iload_n 0, 1) := by decide +kernel
theorem dX5_altered_39 : decode cX5_altered 39 = .ok (.ireturn, 1) := by decide +kernel
theorem dX5_alteredE_0 : decode cX5_alteredE 0 = .ok (.iload_n 1, 1) := by decide +kernel
theorem dX5_alteredE_1 : decode cX5_alteredE 1 = .ok (.tableswitch 35 1 3 #[27, 29, 33], 27) := by decide +kernel
theorem dX5_alteredE_28 : decode cX5_alteredE 28 = .ok (.iconst 0, 1) := by decide +kernel
theorem dX5_alteredE_29 : decode cX5_alteredE 29 = .ok (.ireturn, 1) := by decide +kernel
theorem dX5_alteredE_30 : decode cX5_alteredE 30 = .ok (.iconst 1, 1) := by decide +kernel
theorem dX5_alteredE_31 : decode cX5_alteredE 31 = .ok (.iload_n 0, 1) := by decide +kernel
theorem dX5_alteredE_32 : decode cX5_alteredE 32 = .ok (.isub, 1) := by decide +kernel
theorem dX5_alteredE_33 : decode cX5_alteredE 33 = .ok (.ireturn, 1) := by decide +kernel
theorem dX5_alteredE_34 : decode cX5_alteredE 34 = .ok (.iconst 1, 1) := by decide +kernel
theorem dX5_alteredE_35 : decode cX5_alteredE 35 = .ok (.ireturn, 1) := by decide +kernel
theorem dX5_alteredE_36 : decode cX5_alteredE 36 = .ok (.iload_n 0, 1) := by decide +kernel
theorem dX5_alteredE_37 : decode cX5_alteredE 37 = .ok (.ireturn, 1) := by decide +kernel
theorem dX5_incremented_0 : decode cX5_incremented 0 = .ok (.iload_n 1, 1) := by decide +kernel
theorem dX5_incremented_1 : decode cX5_incremented 1 = .ok (.ldc 97, 2) := by decide +kernel
theorem dX5_incremented_3 : decode cX5_incremented 3 = .ok (.if_icmp .ne 11, 3) := by decide +kernel
theorem dX5_incremented_6 : decode cX5_incremented 6 = .ok (.aload_n 0, 1) := by decide +kernel
theorem dX5_incremented_7 : decode cX5_incremented 7 = .ok (.getfield 15, 3) := by decide +kernel
theorem dX5_incremented_10 : decode cX5_incremented 10 = .ok (.iconst 1, 1) := by decide +kernel
theorem dX5_incremented_11 : decode cX5_incremented 11 = .ok (.putfield 98, 3) := by decide +kernel
theorem dX5_incremented_14 : decode cX5_incremented 14 = .ok (.iload_n 1, 1) := by decide +kernel
theorem dX5_incremented_15 : decode cX5_incremented 15 = .ok (.sipush 32767, 3) := by decide +kernel
theorem dX5_incremented_18 : decode cX5_incremented 18 = .ok (.if_icmp .ne 11, 3) := by decide +kernel
theorem dX5_incremented_21 : decode cX5_incremented 21 = .ok (.aload_n 0, 1) := by decide +kernel
theorem dX5_incremented_22 : decode cX5_incremented 22 = .ok (.getfield 15, 3) := by decide +kernel
theorem dX5_incremented_25 : decode cX5_incremented 25 = .ok (.iconst 1, 1) := by decide +kernel
theorem dX5_incremented_26 : decode cX5_incremented 26 = .ok (.putfield 101, 3) := by decide +kernel
theorem dX5_incremented_29 : decode cX5_incremented 29 = .ok (.iload_n 1, 1) := by decide +kernel
theorem dX5_incremented_30 : decode cX5_incremented 30 = .ok (.iconst 1, 1) := by decide +kernel
theorem dX5_incremented_31 : decode cX5_incremented 31 = .ok (.iadd, 1) := by decide +kernel
theorem dX5_incremented_32 : decode cX5_incremented 32 = .ok (.ldc 97, 2) := by decide +kernel
theorem dX5_incremented_34 : decode cX5_incremented 34 = .ok (.iand, 1) := by decide +kernel
theorem dX5_incremented_35 : decode cX5_incremented 35 = .ok (.ireturn, 1) := by decide +kernel
set_option maxRecDepth 20000 in
theorem ggX5_inputOrOutput_X5_registerOf : GoodIn wsX5_inputOrOutput wsX5_registerOf := goodIn_r _ [7] (by decide +kernel) (by decide +kernel)
set_option maxRecDepth 20000 in
theorem gX5_inputOrOutput_X5_registerOf : GoodIn wsX5_inputOrOutput (va_wsS RX5 73 yX5_registerOf wsX5_registerOf) := goodIn_app (goodIn_of _ (by decide +kernel)) ggX5_inputOrOutput_X5_registerOf
set_option maxRecDepth 20000 in
theorem ggX5_inputOrOutput_X6_halt : GoodIn wsX5_inputOrOutput wsX6_halt := goodIn_r _ [12, 13, 14, 113, 114, 115, 116, 117, 118] (by decide +kernel) (by decide +kernel)
set_option maxRecDepth 20000 in
theorem gX5_inputOrOutput_X6_halt : GoodIn wsX5_inputOrOutput (wsV RX5 70 RX6 yX6_halt wsX6_halt) := goodIn_app (goodIn_of _ (by decide +kernel)) ggX5_inputOrOutput_X6_halt
set_option maxRecDepth 20000 in
theorem ggX5_inputOrOutput_X0_putFlag : GoodIn wsX5_inputOrOutput wsX0_putFlag := goodIn_r _ [19, 20, 21, 22, 23, 24, 25, 26, 27, 18, 28, 29, 30, 31, 32, 33, 34, 35, 36, 119, 120, 121, 122, 123, 124, 125, 113, 114, 115, 116, 117, 118, 126, 127, 128] (by decide +kernel) (by decide +kernel)
set_option maxRecDepth 20000 in
theorem gX5_inputOrOutput_X0_putFlag : GoodIn wsX5_inputOrOutput (wsV RX5 120 RX0 yX0_putFlag wsX0_putFlag) := goodIn_app (goodIn_of _ (by decide +kernel)) ggX5_inputOrOutput_X0_putFlag
set_option maxRecDepth 20000 in
theorem ggX5_inputOrOutput_X0_flagOf : GoodIn wsX5_inputOrOutput wsX0_flagOf := goodIn_r _ [40, 20, 21, 25, 26, 27, 18, 28, 29, 119, 120, 121, 122, 123, 124, 125, 113, 114, 115, 116, 117, 118, 126, 127, 128] (by decide +kernel) (by decide +kernel)
set_option maxRecDepth 20000 in
theorem gX5_inputOrOutput_X0_flagOf : GoodIn wsX5_inputOrOutput (wsV RX5 125 RX0 yX0_flagOf wsX0_flagOf) := goodIn_app (goodIn_of _ (by decide +kernel)) ggX5_inputOrOutput_X0_flagOf
set_option maxRecDepth 20000 in
theorem ggX5_inputOrOutput_X5_skipIf : GoodIn wsX5_inputOrOutput wsX5_skipIf := goodIn_r _ [44, 1, 45, 46, 47, 11, 48, 49, 110, 111, 112, 113, 114, 115, 116, 117, 118] (by decide +kernel) (by decide +kernel)
set_option maxRecDepth 20000 in
theorem gX5_inputOrOutput_X5_skipIf : GoodIn wsX5_inputOrOutput (wsV RX5 89 RX5 yX5_skipIf wsX5_skipIf) := goodIn_app (goodIn_of _ (by decide +kernel)) ggX5_inputOrOutput_X5_skipIf
set_option maxRecDepth 20000 in
theorem ggX5_inputOrOutput_X4_read : GoodIn wsX5_inputOrOutput wsX4_read := goodIn_r _ [54, 55, 129] (by decide +kernel) (by decide +kernel)
set_option maxRecDepth 20000 in
theorem gX5_inputOrOutput_X4_read : GoodIn wsX5_inputOrOutput (wsV RX5 29 RX4 yX4_read wsX4_read) := goodIn_app (goodIn_of _ (by decide +kernel)) ggX5_inputOrOutput_X4_read
set_option maxRecDepth 20000 in
theorem ggX5_inputOrOutput_X0_tell : GoodIn wsX5_inputOrOutput wsX0_tell := goodIn_r _ [59, 60, 61, 62, 63, 18, 64, 65, 66, 67, 68, 69, 70, 119, 120, 121, 122, 123, 124, 125, 130, 131, 132, 133, 134, 135, 136, 137, 138, 139, 140, 141, 142, 143, 144, 145, 146, 147] (by decide +kernel) (by decide +kernel)
set_option maxRecDepth 20000 in
theorem gX5_inputOrOutput_X0_tell : GoodIn wsX5_inputOrOutput (wsV RX5 128 RX0 yX0_tell wsX0_tell) := goodIn_app (goodIn_of _ (by decide +kernel)) ggX5_inputOrOutput_X0_tell
set_option maxRecDepth 20000 in
theorem ggX5_inputOrOutput_X4_write : GoodIn wsX5_inputOrOutput wsX4_write := goodIn_r _ [74, 55, 75, 129] (by decide +kernel) (by decide +kernel)
set_option maxRecDepth 20000 in
theorem gX5_inputOrOutput_X4_write : GoodIn wsX5_inputOrOutput (wsV RX5 76 RX4 yX4_write wsX4_write) := goodIn_app (goodIn_of _ (by decide +kernel)) ggX5_inputOrOutput_X4_write
set_option maxRecDepth 20000 in
theorem ggX5_inputOrOutput_X0_take : GoodIn wsX5_inputOrOutput wsX0_take := goodIn_r _ [79, 80, 61, 62, 63, 18, 64, 65, 81, 82, 83, 84, 85, 86, 87, 88, 89, 90, 66, 67, 68, 69, 70, 119, 120, 121, 122, 123, 124, 125, 130, 131, 132, 133, 134, 135, 136, 137, 138, 139, 140, 141, 142, 143, 144, 145, 146, 147] (by decide +kernel) (by decide +kernel)
set_option maxRecDepth 20000 in
theorem gX5_inputOrOutput_X0_take : GoodIn wsX5_inputOrOutput (wsV RX5 131 RX0 yX0_take wsX0_take) := goodIn_app (goodIn_of _ (by decide +kernel)) ggX5_inputOrOutput_X0_take
set_option maxRecDepth 20000 in
theorem ggX5_inputOrOutput_X0_putControl : GoodIn wsX5_inputOrOutput wsX0_putControl := goodIn_r _ [94, 95, 96, 97, 18, 98, 25, 26, 27, 28, 29, 61, 62, 63, 64, 65, 99, 100, 101, 102, 66, 67, 68, 69, 70, 103, 104, 105, 106, 107, 108, 109, 130, 131, 132, 133, 134, 135, 136, 137, 126, 127, 128, 119, 120, 121, 122, 123, 124, 125, 138, 139, 140, 141, 142, 143, 144, 145, 146, 147] (by decide +kernel) (by decide +kernel)
set_option maxRecDepth 20000 in
theorem gX5_inputOrOutput_X0_putControl : GoodIn wsX5_inputOrOutput (wsV RX5 134 RX0 yX0_putControl wsX0_putControl) := goodIn_app (goodIn_of _ (by decide +kernel)) ggX5_inputOrOutput_X0_putControl
theorem dX5_inputOrOutput_0 : decode cX5_inputOrOutput 0 = .ok (.iload_n 1, 1) := by decide +kernel
theorem dX5_inputOrOutput_1 : decode cX5_inputOrOutput 1 = .ok (.bipush 63, 2) := by decide +kernel
theorem dX5_inputOrOutput_3 : decode cX5_inputOrOutput 3 = .ok (.iand, 1) := by decide +kernel
theorem dX5_inputOrOutput_4 : decode cX5_inputOrOutput 4 = .ok (.istore_n 2, 1) := by decide +kernel
theorem dX5_inputOrOutput_5 : decode cX5_inputOrOutput 5 = .ok (.iload_n 1, 1) := by decide +kernel
theorem dX5_inputOrOutput_6 : decode cX5_inputOrOutput 6 = .ok (.invokestatic 73, 3) := by decide +kernel
theorem dX5_inputOrOutput_9 : decode cX5_inputOrOutput 9 = .ok (.istore_n 3, 1) := by decide +kernel
theorem dX5_inputOrOutput_10 : decode cX5_inputOrOutput 10 = .ok (.iload_n 1, 1) := by decide +kernel
theorem dX5_inputOrOutput_11 : decode cX5_inputOrOutput 11 = .ok (.sipush 512, 3) := by decide +kernel
theorem dX5_inputOrOutput_14 : decode cX5_inputOrOutput 14 = .ok (.iand, 1) := by decide +kernel
theorem dX5_inputOrOutput_15 : decode cX5_inputOrOutput 15 = .ok (.ifCond .eq 7, 3) := by decide +kernel
theorem dX5_inputOrOutput_18 : decode cX5_inputOrOutput 18 = .ok (.iconst 1, 1) := by decide +kernel
theorem dX5_inputOrOutput_19 : decode cX5_inputOrOutput 19 = .ok (.goto 4, 3) := by decide +kernel
theorem dX5_inputOrOutput_22 : decode cX5_inputOrOutput 22 = .ok (.iconst 0, 1) := by decide +kernel
theorem dX5_inputOrOutput_23 : decode cX5_inputOrOutput 23 = .ok (.istore 4, 2) := by decide +kernel
theorem dX5_inputOrOutput_25 : decode cX5_inputOrOutput 25 = .ok (.iload_n 1, 1) := by decide +kernel
theorem dX5_inputOrOutput_26 : decode cX5_inputOrOutput 26 = .ok (.bipush 6, 2) := by decide +kernel
theorem dX5_inputOrOutput_28 : decode cX5_inputOrOutput 28 = .ok (.ishr, 1) := by decide +kernel
theorem dX5_inputOrOutput_29 : decode cX5_inputOrOutput 29 = .ok (.bipush 7, 2) := by decide +kernel
theorem dX5_inputOrOutput_31 : decode cX5_inputOrOutput 31 = .ok (.iand, 1) := by decide +kernel
theorem dX5_inputOrOutput_32 : decode cX5_inputOrOutput 32 = .ok (.tableswitch 182 0 6 #[44, 55, 82, 103, 116, 144, 163], 44) := by decide +kernel
theorem dX5_inputOrOutput_76 : decode cX5_inputOrOutput 76 = .ok (.aload_n 0, 1) := by decide +kernel
theorem dX5_inputOrOutput_77 : decode cX5_inputOrOutput 77 = .ok (.getfield 15, 3) := by decide +kernel
theorem dX5_inputOrOutput_80 : decode cX5_inputOrOutput 80 = .ok (.iload_n 2, 1) := by decide +kernel
theorem dX5_inputOrOutput_81 : decode cX5_inputOrOutput 81 = .ok (.invokevirtual 70, 3) := by decide +kernel
theorem dX5_inputOrOutput_84 : decode cX5_inputOrOutput 84 = .ok (.goto 155, 3) := by decide +kernel
theorem dX5_inputOrOutput_87 : decode cX5_inputOrOutput 87 = .ok (.aload_n 0, 1) := by decide +kernel
theorem dX5_inputOrOutput_88 : decode cX5_inputOrOutput 88 = .ok (.getfield 19, 3) := by decide +kernel
theorem dX5_inputOrOutput_91 : decode cX5_inputOrOutput 91 = .ok (.iload_n 2, 1) := by decide +kernel
theorem dX5_inputOrOutput_92 : decode cX5_inputOrOutput 92 = .ok (.iload 4, 2) := by decide +kernel
theorem dX5_inputOrOutput_94 : decode cX5_inputOrOutput 94 = .ok (.ifCond .ne 7, 3) := by decide +kernel
theorem dX5_inputOrOutput_97 : decode cX5_inputOrOutput 97 = .ok (.iconst 1, 1) := by decide +kernel
theorem dX5_inputOrOutput_98 : decode cX5_inputOrOutput 98 = .ok (.goto 4, 3) := by decide +kernel
theorem dX5_inputOrOutput_101 : decode cX5_inputOrOutput 101 = .ok (.iconst 0, 1) := by decide +kernel
theorem dX5_inputOrOutput_102 : decode cX5_inputOrOutput 102 = .ok (.invokevirtual 120, 3) := by decide +kernel
theorem dX5_inputOrOutput_105 : decode cX5_inputOrOutput 105 = .ok (.aload_n 0, 1) := by decide +kernel
theorem dX5_inputOrOutput_106 : decode cX5_inputOrOutput 106 = .ok (.getfield 15, 3) := by decide +kernel
theorem dX5_inputOrOutput_109 : decode cX5_inputOrOutput 109 = .ok (.iconst 1, 1) := by decide +kernel
theorem dX5_inputOrOutput_110 : decode cX5_inputOrOutput 110 = .ok (.putfield 93, 3) := by decide +kernel
theorem dX5_inputOrOutput_113 : decode cX5_inputOrOutput 113 = .ok (.return_, 1) := by decide +kernel
theorem dX5_inputOrOutput_114 : decode cX5_inputOrOutput 114 = .ok (.aload_n 0, 1) := by decide +kernel
theorem dX5_inputOrOutput_115 : decode cX5_inputOrOutput 115 = .ok (.aload_n 0, 1) := by decide +kernel
theorem dX5_inputOrOutput_116 : decode cX5_inputOrOutput 116 = .ok (.getfield 19, 3) := by decide +kernel
theorem dX5_inputOrOutput_119 : decode cX5_inputOrOutput 119 = .ok (.iload_n 2, 1) := by decide +kernel
theorem dX5_inputOrOutput_120 : decode cX5_inputOrOutput 120 = .ok (.invokevirtual 125, 3) := by decide +kernel
theorem dX5_inputOrOutput_123 : decode cX5_inputOrOutput 123 = .ok (.ifCond .ne 7, 3) := by decide +kernel
theorem dX5_inputOrOutput_126 : decode cX5_inputOrOutput 126 = .ok (.iconst 1, 1) := by decide +kernel
theorem dX5_inputOrOutput_127 : decode cX5_inputOrOutput 127 = .ok (.goto 4, 3) := by decide +kernel
theorem dX5_inputOrOutput_130 : decode cX5_inputOrOutput 130 = .ok (.iconst 0, 1) := by decide +kernel
theorem dX5_inputOrOutput_131 : decode cX5_inputOrOutput 131 = .ok (.invokevirtual 89, 3) := by decide +kernel
theorem dX5_inputOrOutput_134 : decode cX5_inputOrOutput 134 = .ok (.return_, 1) := by decide +kernel
theorem dX5_inputOrOutput_135 : decode cX5_inputOrOutput 135 = .ok (.aload_n 0, 1) := by decide +kernel
theorem dX5_inputOrOutput_136 : decode cX5_inputOrOutput 136 = .ok (.aload_n 0, 1) := by decide +kernel
theorem dX5_inputOrOutput_137 : decode cX5_inputOrOutput 137 = .ok (.getfield 19, 3) := by decide +kernel
theorem dX5_inputOrOutput_140 : decode cX5_inputOrOutput 140 = .ok (.iload_n 2, 1) := by decide +kernel
theorem dX5_inputOrOutput_141 : decode cX5_inputOrOutput 141 = .ok (.invokevirtual 125, 3) := by decide +kernel
theorem dX5_inputOrOutput_144 : decode cX5_inputOrOutput 144 = .ok (.invokevirtual 89, 3) := by decide +kernel
theorem dX5_inputOrOutput_147 : decode cX5_inputOrOutput 147 = .ok (.return_, 1) := by decide +kernel
theorem dX5_inputOrOutput_148 : decode cX5_inputOrOutput 148 = .ok (.aload_n 0, 1) := by decide +kernel
theorem dX5_inputOrOutput_149 : decode cX5_inputOrOutput 149 = .ok (.getfield 9, 3) := by decide +kernel
theorem dX5_inputOrOutput_152 : decode cX5_inputOrOutput 152 = .ok (.iload_n 3, 1) := by decide +kernel
theorem dX5_inputOrOutput_153 : decode cX5_inputOrOutput 153 = .ok (.aload_n 0, 1) := by decide +kernel
theorem dX5_inputOrOutput_154 : decode cX5_inputOrOutput 154 = .ok (.getfield 9, 3) := by decide +kernel
theorem dX5_inputOrOutput_157 : decode cX5_inputOrOutput 157 = .ok (.iload_n 3, 1) := by decide +kernel
theorem dX5_inputOrOutput_158 : decode cX5_inputOrOutput 158 = .ok (.invokevirtual 29, 3) := by decide +kernel
theorem dX5_inputOrOutput_161 : decode cX5_inputOrOutput 161 = .ok (.aload_n 0, 1) := by decide +kernel
theorem dX5_inputOrOutput_162 : decode cX5_inputOrOutput 162 = .ok (.getfield 19, 3) := by decide +kernel
theorem dX5_inputOrOutput_165 : decode cX5_inputOrOutput 165 = .ok (.iload_n 2, 1) := by decide +kernel
theorem dX5_inputOrOutput_166 : decode cX5_inputOrOutput 166 = .ok (.invokevirtual 128, 3) := by decide +kernel
theorem dX5_inputOrOutput_169 : decode cX5_inputOrOutput 169 = .ok (.ior, 1) := by decide +kernel
theorem dX5_inputOrOutput_170 : decode cX5_inputOrOutput 170 = .ok (.invokevirtual 76, 3) := by decide +kernel
theorem dX5_inputOrOutput_173 : decode cX5_inputOrOutput 173 = .ok (.goto 66, 3) := by decide +kernel
theorem dX5_inputOrOutput_176 : decode cX5_inputOrOutput 176 = .ok (.aload_n 0, 1) := by decide +kernel
theorem dX5_inputOrOutput_177 : decode cX5_inputOrOutput 177 = .ok (.getfield 9, 3) := by decide +kernel
theorem dX5_inputOrOutput_180 : decode cX5_inputOrOutput 180 = .ok (.iload_n 3, 1) := by decide +kernel
theorem dX5_inputOrOutput_181 : decode cX5_inputOrOutput 181 = .ok (.aload_n 0, 1) := by decide +kernel
theorem dX5_inputOrOutput_182 : decode cX5_inputOrOutput 182 = .ok (.getfield 19, 3) := by decide +kernel
theorem dX5_inputOrOutput_185 : decode cX5_inputOrOutput 185 = .ok (.iload_n 2, 1) := by decide +kernel
theorem dX5_inputOrOutput_186 : decode cX5_inputOrOutput 186 = .ok (.invokevirtual 128, 3) := by decide +kernel
theorem dX5_inputOrOutput_189 : decode cX5_inputOrOutput 189 = .ok (.invokevirtual 76, 3) := by decide +kernel
theorem dX5_inputOrOutput_192 : decode cX5_inputOrOutput 192 = .ok (.goto 47, 3) := by decide +kernel
theorem dX5_inputOrOutput_195 : decode cX5_inputOrOutput 195 = .ok (.aload_n 0, 1) := by decide +kernel
theorem dX5_inputOrOutput_196 : decode cX5_inputOrOutput 196 = .ok (.getfield 19, 3) := by decide +kernel
theorem dX5_inputOrOutput_199 : decode cX5_inputOrOutput 199 = .ok (.iload_n 2, 1) := by decide +kernel
theorem dX5_inputOrOutput_200 : decode cX5_inputOrOutput 200 = .ok (.aload_n 0, 1) := by decide +kernel
theorem dX5_inputOrOutput_201 : decode cX5_inputOrOutput 201 = .ok (.getfield 9, 3) := by decide +kernel
theorem dX5_inputOrOutput_204 : decode cX5_inputOrOutput 204 = .ok (.iload_n 3, 1) := by decide +kernel
theorem dX5_inputOrOutput_205 : decode cX5_inputOrOutput 205 = .ok (.invokevirtual 29, 3) := by decide +kernel
theorem dX5_inputOrOutput_208 : decode cX5_inputOrOutput 208 = .ok (.invokevirtual 131, 3) := by decide +kernel
theorem dX5_inputOrOutput_211 : decode cX5_inputOrOutput 211 = .ok (.goto 28, 3) := by decide +kernel
theorem dX5_inputOrOutput_214 : decode cX5_inputOrOutput 214 = .ok (.aload_n 0, 1) := by decide +kernel
theorem dX5_inputOrOutput_215 : decode cX5_inputOrOutput 215 = .ok (.getfield 19, 3) := by decide +kernel
theorem dX5_inputOrOutput_218 : decode cX5_inputOrOutput 218 = .ok (.iload_n 2, 1) := by decide +kernel
theorem dX5_inputOrOutput_219 : decode cX5_inputOrOutput 219 = .ok (.iload_n 3, 1) := by decide +kernel
theorem dX5_inputOrOutput_220 : decode cX5_inputOrOutput 220 = .ok (.ifCond .ne 7, 3) := by decide +kernel
theorem dX5_inputOrOutput_223 : decode cX5_inputOrOutput 223 = .ok (.iconst 1, 1) := by decide +kernel
theorem dX5_inputOrOutput_224 : decode cX5_inputOrOutput 224 = .ok (.goto 4, 3) := by decide +kernel
theorem dX5_inputOrOutput_227 : decode cX5_inputOrOutput 227 = .ok (.iconst 0, 1) := by decide +kernel
theorem dX5_inputOrOutput_228 : decode cX5_inputOrOutput 228 = .ok (.invokevirtual 134, 3) := by decide +kernel
theorem dX5_inputOrOutput_231 : decode cX5_inputOrOutput 231 = .ok (.aload_n 0, 1) := by decide +kernel
theorem dX5_inputOrOutput_232 : decode cX5_inputOrOutput 232 = .ok (.getfield 15, 3) := by decide +kernel
theorem dX5_inputOrOutput_235 : decode cX5_inputOrOutput 235 = .ok (.iconst 1, 1) := by decide +kernel
theorem dX5_inputOrOutput_236 : decode cX5_inputOrOutput 236 = .ok (.putfield 93, 3) := by decide +kernel
theorem dX5_inputOrOutput_239 : decode cX5_inputOrOutput 239 = .ok (.iload 4, 2) := by decide +kernel
theorem dX5_inputOrOutput_241 : decode cX5_inputOrOutput 241 = .ok (.ifCond .eq 20, 3) := by decide +kernel
theorem dX5_inputOrOutput_244 : decode cX5_inputOrOutput 244 = .ok (.aload_n 0, 1) := by decide +kernel
theorem dX5_inputOrOutput_245 : decode cX5_inputOrOutput 245 = .ok (.getfield 19, 3) := by decide +kernel
theorem dX5_inputOrOutput_248 : decode cX5_inputOrOutput 248 = .ok (.iload_n 2, 1) := by decide +kernel
theorem dX5_inputOrOutput_249 : decode cX5_inputOrOutput 249 = .ok (.iconst 0, 1) := by decide +kernel
theorem dX5_inputOrOutput_250 : decode cX5_inputOrOutput 250 = .ok (.invokevirtual 120, 3) := by decide +kernel
theorem dX5_inputOrOutput_253 : decode cX5_inputOrOutput 253 = .ok (.aload_n 0, 1) := by decide +kernel
theorem dX5_inputOrOutput_254 : decode cX5_inputOrOutput 254 = .ok (.getfield 15, 3) := by decide +kernel
theorem dX5_inputOrOutput_257 : decode cX5_inputOrOutput 257 = .ok (.iconst 1, 1) := by decide +kernel
theorem dX5_inputOrOutput_258 : decode cX5_inputOrOutput 258 = .ok (.putfield 93, 3) := by decide +kernel
theorem dX5_inputOrOutput_261 : decode cX5_inputOrOutput 261 = .ok (.return_, 1) := by decide +kernel
theorem dX5_hasAddressBehind_0 : decode cX5_hasAddressBehind 0 = .ok (.iload_n 0, 1) := by decide +kernel
theorem dX5_hasAddressBehind_1 : decode cX5_hasAddressBehind 1 = .ok (.ldc 137, 2) := by decide +kernel
theorem dX5_hasAddressBehind_3 : decode cX5_hasAddressBehind 3 = .ok (.if_icmp .eq 21, 3) := by decide +kernel
theorem dX5_hasAddressBehind_6 : decode cX5_hasAddressBehind 6 = .ok (.iload_n 0, 1) := by decide +kernel
theorem dX5_hasAddressBehind_7 : decode cX5_hasAddressBehind 7 = .ok (.ldc 138, 2) := by decide +kernel
theorem dX5_hasAddressBehind_9 : decode cX5_hasAddressBehind 9 = .ok (.if_icmp .eq 15, 3) := by decide +kernel
theorem dX5_hasAddressBehind_12 : decode cX5_hasAddressBehind 12 = .ok (.iload_n 0, 1) := by decide +kernel
theorem dX5_hasAddressBehind_13 : decode cX5_hasAddressBehind 13 = .ok (.ldc 139, 2) := by decide +kernel
theorem dX5_hasAddressBehind_15 : decode cX5_hasAddressBehind 15 = .ok (.if_icmp .eq 9, 3) := by decide +kernel
theorem dX5_hasAddressBehind_18 : decode cX5_hasAddressBehind 18 = .ok (.iload_n 0, 1) := by decide +kernel
theorem dX5_hasAddressBehind_19 : decode cX5_hasAddressBehind 19 = .ok (.ldc 140, 2) := by decide +kernel
theorem dX5_hasAddressBehind_21 : decode cX5_hasAddressBehind 21 = .ok (.if_icmp .ne 7, 3) := by decide +kernel
theorem dX5_hasAddressBehind_24 : decode cX5_hasAddressBehind 24 = .ok (.iconst 1, 1) := by decide +kernel
theorem dX5_hasAddressBehind_25 : decode cX5_hasAddressBehind 25 = .ok (.goto 4, 3) := by decide +kernel
theorem dX5_hasAddressBehind_28 : decode cX5_hasAddressBehind 28 = .ok (.iconst 0, 1) := by decide +kernel
theorem dX5_hasAddressBehind_29 : decode cX5_hasAddressBehind 29 = .ok (.ireturn, 1) := by decide +kernel
set_option maxRecDepth 20000 in
theorem ggX5_doubleWord_X4_read : GoodIn wsX5_doubleWord wsX4_read := goodIn_r _ [6, 7, 40] (by decide +kernel) (by decide +kernel)
set_option maxRecDepth 20000 in
theorem gX5_doubleWord_X4_read : GoodIn wsX5_doubleWord (wsV RX5 29 RX4 yX4_read wsX4_read) := goodIn_app (goodIn_of _ (by decide +kernel)) ggX5_doubleWord_X4_read
set_option maxRecDepth 20000 in
theorem ggX5_doubleWord_X5_multiply : GoodIn wsX5_doubleWord wsX5_multiply := goodIn_r _ [12, 1, 13, 2, 3, 4, 5, 6, 7, 14, 15, 16, 11, 17, 18, 19, 20, 21, 22, 37, 38, 39, 41, 42, 43, 44, 45, 46, 40] (by decide +kernel) (by decide +kernel)
set_option maxRecDepth 20000 in
theorem gX5_doubleWord_X5_multiply : GoodIn wsX5_doubleWord (wsV RX5 141 RX5 yX5_multiply wsX5_multiply) := goodIn_app (goodIn_of _ (by decide +kernel)) ggX5_doubleWord_X5_multiply
set_option maxRecDepth 20000 in
theorem ggX5_doubleWord_X5_divide : GoodIn wsX5_doubleWord wsX5_divide := goodIn_r _ [26, 13, 27, 28, 1, 29, 30, 31, 11, 32, 2, 3, 4, 5, 6, 7, 18, 19, 20, 21, 22, 37, 38, 39, 41, 42, 43, 44, 45, 46, 40] (by decide +kernel) (by decide +kernel)
set_option maxRecDepth 20000 in
theorem gX5_doubleWord_X5_divide : GoodIn wsX5_doubleWord (wsV RX5 144 RX5 yX5_divide wsX5_divide) := goodIn_app (goodIn_of _ (by decide +kernel)) ggX5_doubleWord_X5_divide
set_option maxRecDepth 20000 in
theorem ggX5_doubleWord_X5_writeTwo : GoodIn wsX5_doubleWord wsX5_writeTwo := goodIn_r _ [36, 1, 18, 19, 20, 5, 21, 7, 22, 37, 38, 39, 40] (by decide +kernel) (by decide +kernel)
set_option maxRecDepth 20000 in
theorem gX5_doubleWord_X5_writeTwo : GoodIn wsX5_doubleWord (wsV RX5 147 RX5 yX5_writeTwo wsX5_writeTwo) := goodIn_app (goodIn_of _ (by decide +kernel)) ggX5_doubleWord_X5_writeTwo
theorem dX5_doubleWord_0 : decode cX5_doubleWord 0 = .ok (.iload_n 2, 1) := by decide +kernel
theorem dX5_doubleWord_1 : decode cX5_doubleWord 1 = .ok (.iconst (-1), 1) := by decide +kernel
theorem dX5_doubleWord_2 : decode cX5_doubleWord 2 = .ok (.if_icmp .ne 4, 3) := by decide +kernel
theorem dX5_doubleWord_5 : decode cX5_doubleWord 5 = .ok (.return_, 1) := by decide +kernel
theorem dX5_doubleWord_6 : decode cX5_doubleWord 6 = .ok (.iload_n 2, 1) := by decide +kernel
theorem dX5_doubleWord_7 : decode cX5_doubleWord 7 = .ok (.iconst 1, 1) := by decide +kernel
theorem dX5_doubleWord_8 : decode cX5_doubleWord 8 = .ok (.iadd, 1) := by decide +kernel
theorem dX5_doubleWord_9 : decode cX5_doubleWord 9 = .ok (.sipush 32767, 3) := by decide +kernel
theorem dX5_doubleWord_12 : decode cX5_doubleWord 12 = .ok (.iand, 1) := by decide +kernel
theorem dX5_doubleWord_13 : decode cX5_doubleWord 13 = .ok (.istore_n 3, 1) := by decide +kernel
theorem dX5_doubleWord_14 : decode cX5_doubleWord 14 = .ok (.iload_n 1, 1) := by decide +kernel
theorem dX5_doubleWord_15 : decode cX5_doubleWord 15 = .ok (.lookupswitch 88 #[(32896, 33), (33024, 48), (34944, 63)], 33) := by decide +kernel
theorem dX5_doubleWord_48 : decode cX5_doubleWord 48 = .ok (.aload_n 0, 1) := by decide +kernel
theorem dX5_doubleWord_49 : decode cX5_doubleWord 49 = .ok (.aload_n 0, 1) := by decide +kernel
theorem dX5_doubleWord_50 : decode cX5_doubleWord 50 = .ok (.getfield 9, 3) := by decide +kernel
theorem dX5_doubleWord_53 : decode cX5_doubleWord 53 = .ok (.iload_n 2, 1) := by decide +kernel
theorem dX5_doubleWord_54 : decode cX5_doubleWord 54 = .ok (.invokevirtual 29, 3) := by decide +kernel
theorem dX5_doubleWord_57 : decode cX5_doubleWord 57 = .ok (.invokevirtual 141, 3) := by decide +kernel
theorem dX5_doubleWord_60 : decode cX5_doubleWord 60 = .ok (.goto 65, 3) := by decide +kernel
theorem dX5_doubleWord_63 : decode cX5_doubleWord 63 = .ok (.aload_n 0, 1) := by decide +kernel
theorem dX5_doubleWord_64 : decode cX5_doubleWord 64 = .ok (.aload_n 0, 1) := by decide +kernel
theorem dX5_doubleWord_65 : decode cX5_doubleWord 65 = .ok (.getfield 9, 3) := by decide +kernel
theorem dX5_doubleWord_68 : decode cX5_doubleWord 68 = .ok (.iload_n 2, 1) := by decide +kernel
theorem dX5_doubleWord_69 : decode cX5_doubleWord 69 = .ok (.invokevirtual 29, 3) := by decide +kernel
theorem dX5_doubleWord_72 : decode cX5_doubleWord 72 = .ok (.invokevirtual 144, 3) := by decide +kernel
theorem dX5_doubleWord_75 : decode cX5_doubleWord 75 = .ok (.goto 50, 3) := by decide +kernel
theorem dX5_doubleWord_78 : decode cX5_doubleWord 78 = .ok (.aload_n 0, 1) := by decide +kernel
theorem dX5_doubleWord_79 : decode cX5_doubleWord 79 = .ok (.iconst 0, 1) := by decide +kernel
theorem dX5_doubleWord_80 : decode cX5_doubleWord 80 = .ok (.aload_n 0, 1) := by decide +kernel
theorem dX5_doubleWord_81 : decode cX5_doubleWord 81 = .ok (.getfield 9, 3) := by decide +kernel
theorem dX5_doubleWord_84 : decode cX5_doubleWord 84 = .ok (.iload_n 2, 1) := by decide +kernel
theorem dX5_doubleWord_85 : decode cX5_doubleWord 85 = .ok (.invokevirtual 29, 3) := by decide +kernel
theorem dX5_doubleWord_88 : decode cX5_doubleWord 88 = .ok (.iconst 1, 1) := by decide +kernel
theorem dX5_doubleWord_89 : decode cX5_doubleWord 89 = .ok (.aload_n 0, 1) := by decide +kernel
theorem dX5_doubleWord_90 : decode cX5_doubleWord 90 = .ok (.getfield 9, 3) := by decide +kernel
theorem dX5_doubleWord_93 : decode cX5_doubleWord 93 = .ok (.iload_n 3, 1) := by decide +kernel
theorem dX5_doubleWord_94 : decode cX5_doubleWord 94 = .ok (.invokevirtual 29, 3) := by decide +kernel
theorem dX5_doubleWord_97 : decode cX5_doubleWord 97 = .ok (.invokevirtual 147, 3) := by decide +kernel
theorem dX5_doubleWord_100 : decode cX5_doubleWord 100 = .ok (.goto 25, 3) := by decide +kernel
theorem dX5_doubleWord_103 : decode cX5_doubleWord 103 = .ok (.aload_n 0, 1) := by decide +kernel
theorem dX5_doubleWord_104 : decode cX5_doubleWord 104 = .ok (.iload_n 2, 1) := by decide +kernel
theorem dX5_doubleWord_105 : decode cX5_doubleWord 105 = .ok (.aload_n 0, 1) := by decide +kernel
theorem dX5_doubleWord_106 : decode cX5_doubleWord 106 = .ok (.getfield 9, 3) := by decide +kernel
theorem dX5_doubleWord_109 : decode cX5_doubleWord 109 = .ok (.iconst 0, 1) := by decide +kernel
theorem dX5_doubleWord_110 : decode cX5_doubleWord 110 = .ok (.invokevirtual 29, 3) := by decide +kernel
theorem dX5_doubleWord_113 : decode cX5_doubleWord 113 = .ok (.iload_n 3, 1) := by decide +kernel
theorem dX5_doubleWord_114 : decode cX5_doubleWord 114 = .ok (.aload_n 0, 1) := by decide +kernel
theorem dX5_doubleWord_115 : decode cX5_doubleWord 115 = .ok (.getfield 9, 3) := by decide +kernel
theorem dX5_doubleWord_118 : decode cX5_doubleWord 118 = .ok (.iconst 1, 1) := by decide +kernel
theorem dX5_doubleWord_119 : decode cX5_doubleWord 119 = .ok (.invokevirtual 29, 3) := by decide +kernel
theorem dX5_doubleWord_122 : decode cX5_doubleWord 122 = .ok (.invokevirtual 147, 3) := by decide +kernel
theorem dX5_doubleWord_125 : decode cX5_doubleWord 125 = .ok (.return_, 1) := by decide +kernel
set_option maxRecDepth 20000 in
theorem ggX5_writeTwo_X4_write : GoodIn wsX5_writeTwo wsX4_write := goodIn_r _ [6, 7, 8, 12] (by decide +kernel) (by decide +kernel)
set_option maxRecDepth 20000 in
theorem gX5_writeTwo_X4_write : GoodIn wsX5_writeTwo (wsV RX5 76 RX4 yX4_write wsX4_write) := goodIn_app (goodIn_of _ (by decide +kernel)) ggX5_writeTwo_X4_write
theorem dX5_writeTwo_0 : decode cX5_writeTwo 0 = .ok (.aload_n 0, 1) := by decide +kernel
theorem dX5_writeTwo_1 : decode cX5_writeTwo 1 = .ok (.getfield 9, 3) := by decide +kernel
theorem dX5_writeTwo_4 : decode cX5_writeTwo 4 = .ok (.iload_n 1, 1) := by decide +kernel
theorem dX5_writeTwo_5 : decode cX5_writeTwo 5 = .ok (.iload_n 2, 1) := by decide +kernel
theorem dX5_writeTwo_6 : decode cX5_writeTwo 6 = .ok (.invokevirtual 76, 3) := by decide +kernel
theorem dX5_writeTwo_9 : decode cX5_writeTwo 9 = .ok (.aload_n 0, 1) := by decide +kernel
theorem dX5_writeTwo_10 : decode cX5_writeTwo 10 = .ok (.getfield 9, 3) := by decide +kernel
theorem dX5_writeTwo_13 : decode cX5_writeTwo 13 = .ok (.iload_n 3, 1) := by decide +kernel
theorem dX5_writeTwo_14 : decode cX5_writeTwo 14 = .ok (.iload 4, 2) := by decide +kernel
theorem dX5_writeTwo_16 : decode cX5_writeTwo 16 = .ok (.invokevirtual 76, 3) := by decide +kernel
theorem dX5_writeTwo_19 : decode cX5_writeTwo 19 = .ok (.return_, 1) := by decide +kernel
set_option maxRecDepth 20000 in
theorem ggX5_readPair_X4_read : GoodIn wsX5_readPair wsX4_read := goodIn_r _ [6, 7, 11] (by decide +kernel) (by decide +kernel)
set_option maxRecDepth 20000 in
theorem gX5_readPair_X4_read : GoodIn wsX5_readPair (wsV RX5 29 RX4 yX4_read wsX4_read) := goodIn_app (goodIn_of _ (by decide +kernel)) ggX5_readPair_X4_read
theorem dX5_readPair_0 : decode cX5_readPair 0 = .ok (.aload_n 0, 1) := by decide +kernel
theorem dX5_readPair_1 : decode cX5_readPair 1 = .ok (.getfield 9, 3) := by decide +kernel
theorem dX5_readPair_4 : decode cX5_readPair 4 = .ok (.iconst 1, 1) := by decide +kernel
theorem dX5_readPair_5 : decode cX5_readPair 5 = .ok (.invokevirtual 29, 3) := by decide +kernel
theorem dX5_readPair_8 : decode cX5_readPair 8 = .ok (.bipush 16, 2) := by decide +kernel
theorem dX5_readPair_10 : decode cX5_readPair 10 = .ok (.ishl, 1) := by decide +kernel
theorem dX5_readPair_11 : decode cX5_readPair 11 = .ok (.aload_n 0, 1) := by decide +kernel
theorem dX5_readPair_12 : decode cX5_readPair 12 = .ok (.getfield 9, 3) := by decide +kernel
theorem dX5_readPair_15 : decode cX5_readPair 15 = .ok (.iconst 0, 1) := by decide +kernel
theorem dX5_readPair_16 : decode cX5_readPair 16 = .ok (.invokevirtual 29, 3) := by decide +kernel
theorem dX5_readPair_19 : decode cX5_readPair 19 = .ok (.ior, 1) := by decide +kernel
theorem dX5_readPair_20 : decode cX5_readPair 20 = .ok (.ireturn, 1) := by decide +kernel
set_option maxRecDepth 20000 in
theorem ggX5_writePair_X4_write : GoodIn wsX5_writePair wsX4_write := goodIn_r _ [6, 7, 8, 12] (by decide +kernel) (by decide +kernel)
set_option maxRecDepth 20000 in
theorem gX5_writePair_X4_write : GoodIn wsX5_writePair (wsV RX5 76 RX4 yX4_write wsX4_write) := goodIn_app (goodIn_of _ (by decide +kernel)) ggX5_writePair_X4_write
theorem dX5_writePair_0 : decode cX5_writePair 0 = .ok (.aload_n 0, 1) := by decide +kernel
theorem dX5_writePair_1 : decode cX5_writePair 1 = .ok (.getfield 9, 3) := by decide +kernel
theorem dX5_writePair_4 : decode cX5_writePair 4 = .ok (.iconst 0, 1) := by decide +kernel
theorem dX5_writePair_5 : decode cX5_writePair 5 = .ok (.iload_n 1, 1) := by decide +kernel
theorem dX5_writePair_6 : decode cX5_writePair 6 = .ok (.invokevirtual 76, 3) := by decide +kernel
theorem dX5_writePair_9 : decode cX5_writePair 9 = .ok (.aload_n 0, 1) := by decide +kernel
theorem dX5_writePair_10 : decode cX5_writePair 10 = .ok (.getfield 9, 3) := by decide +kernel
theorem dX5_writePair_13 : decode cX5_writePair 13 = .ok (.iconst 1, 1) := by decide +kernel
theorem dX5_writePair_14 : decode cX5_writePair 14 = .ok (.iload_n 1, 1) := by decide +kernel
theorem dX5_writePair_15 : decode cX5_writePair 15 = .ok (.bipush 16, 2) := by decide +kernel
theorem dX5_writePair_17 : decode cX5_writePair 17 = .ok (.iushr, 1) := by decide +kernel
theorem dX5_writePair_18 : decode cX5_writePair 18 = .ok (.invokevirtual 76, 3) := by decide +kernel
theorem dX5_writePair_21 : decode cX5_writePair 21 = .ok (.return_, 1) := by decide +kernel
set_option maxRecDepth 20000 in
theorem ggX5_multiply_X4_read : GoodIn wsX5_multiply wsX4_read := goodIn_r _ [7, 8, 28] (by decide +kernel) (by decide +kernel)
set_option maxRecDepth 20000 in
theorem gX5_multiply_X4_read : GoodIn wsX5_multiply (wsV RX5 29 RX4 yX4_read wsX4_read) := goodIn_app (goodIn_of _ (by decide +kernel)) ggX5_multiply_X4_read
