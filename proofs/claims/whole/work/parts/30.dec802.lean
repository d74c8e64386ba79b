theorem dX8_sum_26 : decode cX8_sum 26 = .ok (.putfield 159, 3) := by decide +kernel
theorem dX8_sum_29 : decode cX8_sum 29 = .ok (.iload_n 1, 1) := by decide +kernel
theorem dX8_sum_30 : decode cX8_sum 30 = .ok (.iload_n 2, 1) := by decide +kernel
theorem dX8_sum_31 : decode cX8_sum 31 = .ok (.iadd, 1) := by decide +kernel
theorem dX8_sum_32 : decode cX8_sum 32 = .ok (.ldc 102, 2) := by decide +kernel
theorem dX8_sum_34 : decode cX8_sum 34 = .ok (.if_icmp .le 8, 3) := by decide +kernel
theorem dX8_sum_37 : decode cX8_sum 37 = .ok (.aload_n 0, 1) := by decide +kernel
theorem dX8_sum_38 : decode cX8_sum 38 = .ok (.iconst 1, 1) := by decide +kernel
theorem dX8_sum_39 : decode cX8_sum 39 = .ok (.putfield 162, 3) := by decide +kernel
theorem dX8_sum_42 : decode cX8_sum 42 = .ok (.iload_n 1, 1) := by decide +kernel
theorem dX8_sum_43 : decode cX8_sum 43 = .ok (.iload_n 2, 1) := by decide +kernel
theorem dX8_sum_44 : decode cX8_sum 44 = .ok (.iadd, 1) := by decide +kernel
theorem dX8_sum_45 : decode cX8_sum 45 = .ok (.ldc 102, 2) := by decide +kernel
theorem dX8_sum_47 : decode cX8_sum 47 = .ok (.iand, 1) := by decide +kernel
theorem dX8_sum_48 : decode cX8_sum 48 = .ok (.ireturn, 1) := by decide +kernel
theorem dX8_shifted_0 : decode cX8_shifted 0 = .ok (.iload_n 2, 1) := by decide +kernel
theorem dX8_shifted_1 : decode cX8_shifted 1 = .ok (.tableswitch 139 0 6 #[43, 56, 65, 77, 88, 96, 117], 43) := by decide +kernel
theorem dX8_shifted_44 : decode cX8_shifted 44 = .ok (.iload_n 1, 1) := by decide +kernel
theorem dX8_shifted_45 : decode cX8_shifted 45 = .ok (.ldc 143, 2) := by decide +kernel
theorem dX8_shifted_47 : decode cX8_shifted 47 = .ok (.iand, 1) := by decide +kernel
theorem dX8_shifted_48 : decode cX8_shifted 48 = .ok (.iload_n 1, 1) := by decide +kernel
theorem dX8_shifted_49 : decode cX8_shifted 49 = .ok (.iconst 1, 1) := by decide +kernel
theorem dX8_shifted_50 : decode cX8_shifted 50 = .ok (.ishl, 1) := by decide +kernel
theorem dX8_shifted_51 : decode cX8_shifted 51 = .ok (.sipush 32767, 3) := by decide +kernel
theorem dX8_shifted_54 : decode cX8_shifted 54 = .ok (.iand, 1) := by decide +kernel
theorem dX8_shifted_55 : decode cX8_shifted 55 = .ok (.ior, 1) := by decide +kernel
theorem dX8_shifted_56 : decode cX8_shifted 56 = .ok (.ireturn, 1) := by decide +kernel
theorem dX8_shifted_57 : decode cX8_shifted 57 = .ok (.iload_n 1, 1) := by decide +kernel
theorem dX8_shifted_58 : decode cX8_shifted 58 = .ok (.ldc 143, 2) := by decide +kernel
theorem dX8_shifted_60 : decode cX8_shifted 60 = .ok (.iand, 1) := by decide +kernel
theorem dX8_shifted_61 : decode cX8_shifted 61 = .ok (.iload_n 1, 1) := by decide +kernel
theorem dX8_shifted_62 : decode cX8_shifted 62 = .ok (.iconst 1, 1) := by decide +kernel
theorem dX8_shifted_63 : decode cX8_shifted 63 = .ok (.ishr, 1) := by decide +kernel
theorem dX8_shifted_64 : decode cX8_shifted 64 = .ok (.ior, 1) := by decide +kernel
theorem dX8_shifted_65 : decode cX8_shifted 65 = .ok (.ireturn, 1) := by decide +kernel
theorem dX8_shifted_66 : decode cX8_shifted 66 = .ok (.iload_n 1, 1) := by decide +kernel
theorem dX8_shifted_67 : decode cX8_shifted 67 = .ok (.iconst 1, 1) := by decide +kernel
theorem dX8_shifted_68 : decode cX8_shifted 68 = .ok (.ishl, 1) := by decide +kernel
theorem dX8_shifted_69 : decode cX8_shifted 69 = .ok (.ldc 102, 2) := by decide +kernel
theorem dX8_shifted_71 : decode cX8_shifted 71 = .ok (.iand, 1) := by decide +kernel
theorem dX8_shifted_72 : decode cX8_shifted 72 = .ok (.iload_n 1, 1) := by decide +kernel
theorem dX8_shifted_73 : decode cX8_shifted 73 = .ok (.bipush 15, 2) := by decide +kernel
theorem dX8_shifted_75 : decode cX8_shifted 75 = .ok (.ishr, 1) := by decide +kernel
theorem dX8_shifted_76 : decode cX8_shifted 76 = .ok (.ior, 1) := by decide +kernel
theorem dX8_shifted_77 : decode cX8_shifted 77 = .ok (.ireturn, 1) := by decide +kernel
theorem dX8_shifted_78 : decode cX8_shifted 78 = .ok (.iload_n 1, 1) := by decide +kernel
theorem dX8_shifted_79 : decode cX8_shifted 79 = .ok (.iconst 1, 1) := by decide +kernel
theorem dX8_shifted_80 : decode cX8_shifted 80 = .ok (.ishr, 1) := by decide +kernel
theorem dX8_shifted_81 : decode cX8_shifted 81 = .ok (.iload_n 1, 1) := by decide +kernel
theorem dX8_shifted_82 : decode cX8_shifted 82 = .ok (.iconst 1, 1) := by decide +kernel
theorem dX8_shifted_83 : decode cX8_shifted 83 = .ok (.iand, 1) := by decide +kernel
theorem dX8_shifted_84 : decode cX8_shifted 84 = .ok (.bipush 15, 2) := by decide +kernel
theorem dX8_shifted_86 : decode cX8_shifted 86 = .ok (.ishl, 1) := by decide +kernel
theorem dX8_shifted_87 : decode cX8_shifted 87 = .ok (.ior, 1) := by decide +kernel
theorem dX8_shifted_88 : decode cX8_shifted 88 = .ok (.ireturn, 1) := by decide +kernel
theorem dX8_shifted_89 : decode cX8_shifted 89 = .ok (.iload_n 1, 1) := by decide +kernel
theorem dX8_shifted_90 : decode cX8_shifted 90 = .ok (.iconst 1, 1) := by decide +kernel
theorem dX8_shifted_91 : decode cX8_shifted 91 = .ok (.ishl, 1) := by decide +kernel
theorem dX8_shifted_92 : decode cX8_shifted 92 = .ok (.sipush 32767, 3) := by decide +kernel
theorem dX8_shifted_95 : decode cX8_shifted 95 = .ok (.iand, 1) := by decide +kernel
theorem dX8_shifted_96 : decode cX8_shifted 96 = .ok (.ireturn, 1) := by decide +kernel
theorem dX8_shifted_97 : decode cX8_shifted 97 = .ok (.iload_n 1, 1) := by decide +kernel
theorem dX8_shifted_98 : decode cX8_shifted 98 = .ok (.iconst 1, 1) := by decide +kernel
theorem dX8_shifted_99 : decode cX8_shifted 99 = .ok (.ishr, 1) := by decide +kernel
theorem dX8_shifted_100 : decode cX8_shifted 100 = .ok (.aload_n 0, 1) := by decide +kernel
theorem dX8_shifted_101 : decode cX8_shifted 101 = .ok (.getfield 162, 3) := by decide +kernel
theorem dX8_shifted_104 : decode cX8_shifted 104 = .ok (.bipush 15, 2) := by decide +kernel
theorem dX8_shifted_106 : decode cX8_shifted 106 = .ok (.ishl, 1) := by decide +kernel
theorem dX8_shifted_107 : decode cX8_shifted 107 = .ok (.ior, 1) := by decide +kernel
theorem dX8_shifted_108 : decode cX8_shifted 108 = .ok (.istore_n 3, 1) := by decide +kernel
theorem dX8_shifted_109 : decode cX8_shifted 109 = .ok (.aload_n 0, 1) := by decide +kernel
theorem dX8_shifted_110 : decode cX8_shifted 110 = .ok (.iload_n 1, 1) := by decide +kernel
theorem dX8_shifted_111 : decode cX8_shifted 111 = .ok (.iconst 1, 1) := by decide +kernel
theorem dX8_shifted_112 : decode cX8_shifted 112 = .ok (.iand, 1) := by decide +kernel
theorem dX8_shifted_113 : decode cX8_shifted 113 = .ok (.putfield 162, 3) := by decide +kernel
theorem dX8_shifted_116 : decode cX8_shifted 116 = .ok (.iload_n 3, 1) := by decide +kernel
theorem dX8_shifted_117 : decode cX8_shifted 117 = .ok (.ireturn, 1) := by decide +kernel
theorem dX8_shifted_118 : decode cX8_shifted 118 = .ok (.iload_n 1, 1) := by decide +kernel
theorem dX8_shifted_119 : decode cX8_shifted 119 = .ok (.iconst 1, 1) := by decide +kernel
theorem dX8_shifted_120 : decode cX8_shifted 120 = .ok (.ishl, 1) := by decide +kernel
theorem dX8_shifted_121 : decode cX8_shifted 121 = .ok (.ldc 102, 2) := by decide +kernel
theorem dX8_shifted_123 : decode cX8_shifted 123 = .ok (.iand, 1) := by decide +kernel
theorem dX8_shifted_124 : decode cX8_shifted 124 = .ok (.aload_n 0, 1) := by decide +kernel
theorem dX8_shifted_125 : decode cX8_shifted 125 = .ok (.getfield 162, 3) := by decide +kernel
theorem dX8_shifted_128 : decode cX8_shifted 128 = .ok (.ior, 1) := by decide +kernel
theorem dX8_shifted_129 : decode cX8_shifted 129 = .ok (.istore_n 3, 1) := by decide +kernel
theorem dX8_shifted_130 : decode cX8_shifted 130 = .ok (.aload_n 0, 1) := by decide +kernel
theorem dX8_shifted_131 : decode cX8_shifted 131 = .ok (.iload_n 1, 1) := by decide +kernel
theorem dX8_shifted_132 : decode cX8_shifted 132 = .ok (.bipush 15, 2) := by decide +kernel
theorem dX8_shifted_134 : decode cX8_shifted 134 = .ok (.ishr, 1) := by decide +kernel
theorem dX8_shifted_135 : decode cX8_shifted 135 = .ok (.putfield 162, 3) := by decide +kernel
theorem dX8_shifted_138 : decode cX8_shifted 138 = .ok (.iload_n 3, 1) := by decide +kernel
theorem dX8_shifted_139 : decode cX8_shifted 139 = .ok (.ireturn, 1) := by decide +kernel
theorem dX8_shifted_140 : decode cX8_shifted 140 = .ok (.iload_n 1, 1) := by decide +kernel
theorem dX8_shifted_141 : decode cX8_shifted 141 = .ok (.iconst 4, 1) := by decide +kernel
theorem dX8_shifted_142 : decode cX8_shifted 142 = .ok (.ishl, 1) := by decide +kernel
theorem dX8_shifted_143 : decode cX8_shifted 143 = .ok (.ldc 102, 2) := by decide +kernel
theorem dX8_shifted_145 : decode cX8_shifted 145 = .ok (.iand, 1) := by decide +kernel
theorem dX8_shifted_146 : decode cX8_shifted 146 = .ok (.iload_n 1, 1) := by decide +kernel
theorem dX8_shifted_147 : decode cX8_shifted 147 = .ok (.bipush 12, 2) := by decide +kernel
theorem dX8_shifted_149 : decode cX8_shifted 149 = .ok (.ishr, 1) := by decide +kernel
theorem dX8_shifted_150 : decode cX8_shifted 150 = .ok (.ior, 1) := by decide +kernel
theorem dX8_shifted_151 : decode cX8_shifted 151 = .ok (.ireturn, 1) := by decide +kernel
theorem dX8_is_0 : decode cX8_is 0 = .ok (.iload_n 0, 1) := by decide +kernel
theorem dX8_is_1 : decode cX8_is 1 = .ok (.iload_n 1, 1) := by decide +kernel
theorem dX8_is_2 : decode cX8_is 2 = .ok (.ishr, 1) := by decide +kernel
theorem dX8_is_3 : decode cX8_is 3 = .ok (.iconst 1, 1) := by decide +kernel
theorem dX8_is_4 : decode cX8_is 4 = .ok (.iand, 1) := by decide +kernel
theorem dX8_is_5 : decode cX8_is 5 = .ok (.iconst 1, 1) := by decide +kernel
theorem dX8_is_6 : decode cX8_is 6 = .ok (.if_icmp .ne 7, 3) := by decide +kernel
theorem dX8_is_9 : decode cX8_is 9 = .ok (.iconst 1, 1) := by decide +kernel
theorem dX8_is_10 : decode cX8_is 10 = .ok (.goto 4, 3) := by decide +kernel
theorem dX8_is_13 : decode cX8_is 13 = .ok (.iconst 0, 1) := by decide +kernel
theorem dX8_is_14 : decode cX8_is 14 = .ok (.ireturn, 1) := by decide +kernel
set_option maxRecDepth 20000 in
theorem ggX8_registers_X8_is : GoodIn wsX8_registers wsX8_is := goodIn_r _ [7] (by decide +kernel) (by decide +kernel)
set_option maxRecDepth 20000 in
theorem gX8_registers_X8_is : GoodIn wsX8_registers (va_wsS RX8 165 yX8_is wsX8_is) := goodIn_app (goodIn_of _ (by decide +kernel)) ggX8_registers_X8_is
set_option maxRecDepth 20000 in
theorem ggX8_registers_X8_altered : GoodIn wsX8_registers wsX8_altered := goodIn_r _ [11, 12, 3, 13, 4, 5, 6, 7, 14, 15, 16, 17, 18, 19, 20, 21, 27, 28, 29, 30, 31, 32, 33, 34, 35, 36, 37, 38, 39, 40, 41, 42, 43, 44, 45, 46, 47, 48, 49, 50, 51, 52, 53, 54, 55, 56, 57, 58, 59, 60, 61] (by decide +kernel) (by decide +kernel)
set_option maxRecDepth 20000 in
theorem gX8_registers_X8_altered : GoodIn wsX8_registers (wsV RX8 169 RX8 yX8_altered wsX8_altered) := goodIn_app (goodIn_of _ (by decide +kernel)) ggX8_registers_X8_altered
set_option maxRecDepth 20000 in
theorem ggX8_registers_X8_shifted : GoodIn wsX8_registers wsX8_shifted := goodIn_r _ [25, 26, 12, 3, 27, 28, 29, 30, 31, 32, 33, 34, 35, 36, 37, 38, 39, 40, 41, 42, 43, 44, 45, 46, 47, 48, 49, 50, 51, 52, 53, 54, 55, 56, 57, 58, 59, 60, 61] (by decide +kernel) (by decide +kernel)
set_option maxRecDepth 20000 in
theorem gX8_registers_X8_shifted : GoodIn wsX8_registers (wsV RX8 172 RX8 yX8_shifted wsX8_shifted) := goodIn_app (goodIn_of _ (by decide +kernel)) ggX8_registers_X8_shifted
set_option maxRecDepth 20000 in
theorem ggX8_registers_X8_skip : GoodIn wsX8_registers wsX8_skip := goodIn_r _ [17, 18, 19, 20, 6, 21, 27, 28, 29, 30, 31, 32, 33, 34, 35, 36, 37, 38, 39, 40, 41, 42, 43, 44, 45, 46, 47, 48, 49, 50, 51, 52, 53, 54, 55, 56, 57, 58, 59, 60, 61] (by decide +kernel) (by decide +kernel)
set_option maxRecDepth 20000 in
theorem gX8_registers_X8_skip : GoodIn wsX8_registers (wsV RX8 147 RX8 yX8_skip wsX8_skip) := goodIn_app (goodIn_of _ (by decide +kernel)) ggX8_registers_X8_skip
theorem dX8_registers_0 : decode cX8_registers 0 = .ok (.iload_n 1, 1) := by decide +kernel
theorem dX8_registers_1 : decode cX8_registers 1 = .ok (.bipush 11, 2) := by decide +kernel
theorem dX8_registers_3 : decode cX8_registers 3 = .ok (.invokestatic 165, 3) := by decide +kernel
theorem dX8_registers_6 : decode cX8_registers 6 = .ok (.istore_n 2, 1) := by decide +kernel
theorem dX8_registers_7 : decode cX8_registers 7 = .ok (.iload_n 2, 1) := by decide +kernel
theorem dX8_registers_8 : decode cX8_registers 8 = .ok (.ifCond .eq 10, 3) := by decide +kernel
theorem dX8_registers_11 : decode cX8_registers 11 = .ok (.aload_n 0, 1) := by decide +kernel
theorem dX8_registers_12 : decode cX8_registers 12 = .ok (.getfield 81, 3) := by decide +kernel
theorem dX8_registers_15 : decode cX8_registers 15 = .ok (.goto 7, 3) := by decide +kernel
theorem dX8_registers_18 : decode cX8_registers 18 = .ok (.aload_n 0, 1) := by decide +kernel
theorem dX8_registers_19 : decode cX8_registers 19 = .ok (.getfield 78, 3) := by decide +kernel
theorem dX8_registers_22 : decode cX8_registers 22 = .ok (.istore_n 3, 1) := by decide +kernel
theorem dX8_registers_23 : decode cX8_registers 23 = .ok (.iload_n 1, 1) := by decide +kernel
theorem dX8_registers_24 : decode cX8_registers 24 = .ok (.bipush 10, 2) := by decide +kernel
theorem dX8_registers_26 : decode cX8_registers 26 = .ok (.invokestatic 165, 3) := by decide +kernel
theorem dX8_registers_29 : decode cX8_registers 29 = .ok (.ifCond .eq 13, 3) := by decide +kernel
theorem dX8_registers_32 : decode cX8_registers 32 = .ok (.aload_n 0, 1) := by decide +kernel
theorem dX8_registers_33 : decode cX8_registers 33 = .ok (.iload_n 1, 1) := by decide +kernel
theorem dX8_registers_34 : decode cX8_registers 34 = .ok (.iload_n 3, 1) := by decide +kernel
theorem dX8_registers_35 : decode cX8_registers 35 = .ok (.invokevirtual 169, 3) := by decide +kernel
theorem dX8_registers_38 : decode cX8_registers 38 = .ok (.istore_n 3, 1) := by decide +kernel
theorem dX8_registers_39 : decode cX8_registers 39 = .ok (.goto 79, 3) := by decide +kernel
theorem dX8_registers_42 : decode cX8_registers 42 = .ok (.iload_n 1, 1) := by decide +kernel
theorem dX8_registers_43 : decode cX8_registers 43 = .ok (.bipush 9, 2) := by decide +kernel
theorem dX8_registers_45 : decode cX8_registers 45 = .ok (.invokestatic 165, 3) := by decide +kernel
theorem dX8_registers_48 : decode cX8_registers 48 = .ok (.ifCond .eq 16, 3) := by decide +kernel
theorem dX8_registers_51 : decode cX8_registers 51 = .ok (.aload_n 0, 1) := by decide +kernel
theorem dX8_registers_52 : decode cX8_registers 52 = .ok (.iload_n 3, 1) := by decide +kernel
theorem dX8_registers_53 : decode cX8_registers 53 = .ok (.iload_n 1, 1) := by decide +kernel
theorem dX8_registers_54 : decode cX8_registers 54 = .ok (.bipush 6, 2) := by decide +kernel
theorem dX8_registers_56 : decode cX8_registers 56 = .ok (.ishr, 1) := by decide +kernel
theorem dX8_registers_57 : decode cX8_registers 57 = .ok (.bipush 7, 2) := by decide +kernel
theorem dX8_registers_59 : decode cX8_registers 59 = .ok (.iand, 1) := by decide +kernel
theorem dX8_registers_60 : decode cX8_registers 60 = .ok (.invokevirtual 172, 3) := by decide +kernel
theorem dX8_registers_63 : decode cX8_registers 63 = .ok (.istore_n 3, 1) := by decide +kernel
theorem dX8_registers_64 : decode cX8_registers 64 = .ok (.iload_n 1, 1) := by decide +kernel
theorem dX8_registers_65 : decode cX8_registers 65 = .ok (.iconst 5, 1) := by decide +kernel
theorem dX8_registers_66 : decode cX8_registers 66 = .ok (.invokestatic 165, 3) := by decide +kernel
theorem dX8_registers_69 : decode cX8_registers 69 = .ok (.ifCond .eq 8, 3) := by decide +kernel
theorem dX8_registers_72 : decode cX8_registers 72 = .ok (.aload_n 0, 1) := by decide +kernel
theorem dX8_registers_73 : decode cX8_registers 73 = .ok (.iconst 0, 1) := by decide +kernel
theorem dX8_registers_74 : decode cX8_registers 74 = .ok (.putfield 162, 3) := by decide +kernel
theorem dX8_registers_77 : decode cX8_registers 77 = .ok (.aload_n 0, 1) := by decide +kernel
theorem dX8_registers_78 : decode cX8_registers 78 = .ok (.iload_n 1, 1) := by decide +kernel
theorem dX8_registers_79 : decode cX8_registers 79 = .ok (.iconst 3, 1) := by decide +kernel
theorem dX8_registers_80 : decode cX8_registers 80 = .ok (.invokestatic 165, 3) := by decide +kernel
theorem dX8_registers_83 : decode cX8_registers 83 = .ok (.ifCond .eq 13, 3) := by decide +kernel
theorem dX8_registers_86 : decode cX8_registers 86 = .ok (.iload_n 3, 1) := by decide +kernel
theorem dX8_registers_87 : decode cX8_registers 87 = .ok (.iconst 1, 1) := by decide +kernel
theorem dX8_registers_88 : decode cX8_registers 88 = .ok (.iand, 1) := by decide +kernel
theorem dX8_registers_89 : decode cX8_registers 89 = .ok (.ifCond .ne 7, 3) := by decide +kernel
theorem dX8_registers_92 : decode cX8_registers 92 = .ok (.iconst 1, 1) := by decide +kernel
theorem dX8_registers_93 : decode cX8_registers 93 = .ok (.goto 4, 3) := by decide +kernel
theorem dX8_registers_96 : decode cX8_registers 96 = .ok (.iconst 0, 1) := by decide +kernel
theorem dX8_registers_97 : decode cX8_registers 97 = .ok (.invokevirtual 147, 3) := by decide +kernel
theorem dX8_registers_100 : decode cX8_registers 100 = .ok (.iload_n 1, 1) := by decide +kernel
theorem dX8_registers_101 : decode cX8_registers 101 = .ok (.iconst 4, 1) := by decide +kernel
theorem dX8_registers_102 : decode cX8_registers 102 = .ok (.invokestatic 165, 3) := by decide +kernel
theorem dX8_registers_105 : decode cX8_registers 105 = .ok (.ifCond .eq 13, 3) := by decide +kernel
theorem dX8_registers_108 : decode cX8_registers 108 = .ok (.aload_n 0, 1) := by decide +kernel
theorem dX8_registers_109 : decode cX8_registers 109 = .ok (.iload_n 3, 1) := by decide +kernel
theorem dX8_registers_110 : decode cX8_registers 110 = .ok (.iload_n 1, 1) := by decide +kernel
theorem dX8_registers_111 : decode cX8_registers 111 = .ok (.bipush 7, 2) := by decide +kernel
theorem dX8_registers_113 : decode cX8_registers 113 = .ok (.iand, 1) := by decide +kernel
theorem dX8_registers_114 : decode cX8_registers 114 = .ok (.invokevirtual 172, 3) := by decide +kernel
theorem dX8_registers_117 : decode cX8_registers 117 = .ok (.istore_n 3, 1) := by decide +kernel
theorem dX8_registers_118 : decode cX8_registers 118 = .ok (.iload_n 2, 1) := by decide +kernel
theorem dX8_registers_119 : decode cX8_registers 119 = .ok (.ifCond .eq 11, 3) := by decide +kernel
theorem dX8_registers_122 : decode cX8_registers 122 = .ok (.aload_n 0, 1) := by decide +kernel
theorem dX8_registers_123 : decode cX8_registers 123 = .ok (.iload_n 3, 1) := by decide +kernel
theorem dX8_registers_124 : decode cX8_registers 124 = .ok (.putfield 81, 3) := by decide +kernel
theorem dX8_registers_127 : decode cX8_registers 127 = .ok (.goto 8, 3) := by decide +kernel
theorem dX8_registers_130 : decode cX8_registers 130 = .ok (.aload_n 0, 1) := by decide +kernel
theorem dX8_registers_131 : decode cX8_registers 131 = .ok (.iload_n 3, 1) := by decide +kernel
theorem dX8_registers_132 : decode cX8_registers 132 = .ok (.putfield 78, 3) := by decide +kernel
theorem dX8_registers_135 : decode cX8_registers 135 = .ok (.return_, 1) := by decide +kernel
set_option maxRecDepth 20000 in
theorem ggX8_altered_X8_is : GoodIn wsX8_altered wsX8_is := goodIn_r _ [7] (by decide +kernel) (by decide +kernel)
set_option maxRecDepth 20000 in
theorem gX8_altered_X8_is : GoodIn wsX8_altered (va_wsS RX8 165 yX8_is wsX8_is) := goodIn_app (goodIn_of _ (by decide +kernel)) ggX8_altered_X8_is
set_option maxRecDepth 20000 in
theorem ggX8_altered_X8_skip : GoodIn wsX8_altered wsX8_skip := goodIn_r _ [11, 12, 13, 14, 6, 15, 16, 17, 18, 19, 20, 21, 22, 23, 24, 25, 26, 27, 28, 29, 30, 31, 32, 33, 34, 35, 36, 37, 38, 39, 40, 41, 42, 43, 44, 45, 46, 47, 48, 49, 50] (by decide +kernel) (by decide +kernel)
set_option maxRecDepth 20000 in
theorem gX8_altered_X8_skip : GoodIn wsX8_altered (wsV RX8 147 RX8 yX8_skip wsX8_skip) := goodIn_app (goodIn_of _ (by decide +kernel)) ggX8_altered_X8_skip
theorem dX8_altered_0 : decode cX8_altered 0 = .ok (.iload_n 2, 1) := by decide +kernel
theorem dX8_altered_1 : decode cX8_altered 1 = .ok (.istore_n 3, 1) := by decide +kernel
theorem dX8_altered_2 : decode cX8_altered 2 = .ok (.iload_n 1, 1) := by decide +kernel
theorem dX8_altered_3 : decode cX8_altered 3 = .ok (.bipush 8, 2) := by decide +kernel
theorem dX8_altered_5 : decode cX8_altered 5 = .ok (.ishr, 1) := by decide +kernel
theorem dX8_altered_6 : decode cX8_altered 6 = .ok (.iconst 3, 1) := by decide +kernel
theorem dX8_altered_7 : decode cX8_altered 7 = .ok (.iand, 1) := by decide +kernel
theorem dX8_altered_8 : decode cX8_altered 8 = .ok (.istore 4, 2) := by decide +kernel
theorem dX8_altered_10 : decode cX8_altered 10 = .ok (.iload 4, 2) := by decide +kernel
theorem dX8_altered_12 : decode cX8_altered 12 = .ok (.iconst 1, 1) := by decide +kernel
theorem dX8_altered_13 : decode cX8_altered 13 = .ok (.if_icmp .eq 9, 3) := by decide +kernel
theorem dX8_altered_16 : decode cX8_altered 16 = .ok (.iload 4, 2) := by decide +kernel
theorem dX8_altered_18 : decode cX8_altered 18 = .ok (.iconst 3, 1) := by decide +kernel
theorem dX8_altered_19 : decode cX8_altered 19 = .ok (.if_icmp .ne 5, 3) := by decide +kernel
theorem dX8_altered_22 : decode cX8_altered 22 = .ok (.iconst 0, 1) := by decide +kernel
theorem dX8_altered_23 : decode cX8_altered 23 = .ok (.istore_n 3, 1) := by decide +kernel
theorem dX8_altered_24 : decode cX8_altered 24 = .ok (.iload 4, 2) := by decide +kernel
theorem dX8_altered_26 : decode cX8_altered 26 = .ok (.iconst 1, 1) := by decide +kernel
theorem dX8_altered_27 : decode cX8_altered 27 = .ok (.if_icmp .le 10, 3) := by decide +kernel
theorem dX8_altered_30 : decode cX8_altered 30 = .ok (.iload_n 3, 1) := by decide +kernel
theorem dX8_altered_31 : decode cX8_altered 31 = .ok (.iconst (-1), 1) := by decide +kernel
theorem dX8_altered_32 : decode cX8_altered 32 = .ok (.ixor, 1) := by decide +kernel
theorem dX8_altered_33 : decode cX8_altered 33 = .ok (.ldc 102, 2) := by decide +kernel
theorem dX8_altered_35 : decode cX8_altered 35 = .ok (.iand, 1) := by decide +kernel
theorem dX8_altered_36 : decode cX8_altered 36 = .ok (.istore_n 3, 1) := by decide +kernel
theorem dX8_altered_37 : decode cX8_altered 37 = .ok (.iload_n 1, 1) := by decide +kernel
theorem dX8_altered_38 : decode cX8_altered 38 = .ok (.iconst 5, 1) := by decide +kernel
theorem dX8_altered_39 : decode cX8_altered 39 = .ok (.invokestatic 165, 3) := by decide +kernel
theorem dX8_altered_42 : decode cX8_altered 42 = .ok (.ifCond .eq 14, 3) := by decide +kernel
theorem dX8_altered_45 : decode cX8_altered 45 = .ok (.aload_n 0, 1) := by decide +kernel
theorem dX8_altered_46 : decode cX8_altered 46 = .ok (.getfield 162, 3) := by decide +kernel
theorem dX8_altered_49 : decode cX8_altered 49 = .ok (.ifCond .ne 7, 3) := by decide +kernel
theorem dX8_altered_52 : decode cX8_altered 52 = .ok (.iconst 1, 1) := by decide +kernel
theorem dX8_altered_53 : decode cX8_altered 53 = .ok (.goto 4, 3) := by decide +kernel
theorem dX8_altered_56 : decode cX8_altered 56 = .ok (.iconst 0, 1) := by decide +kernel
theorem dX8_altered_57 : decode cX8_altered 57 = .ok (.istore 5, 2) := by decide +kernel
theorem dX8_altered_59 : decode cX8_altered 59 = .ok (.iload_n 1, 1) := by decide +kernel
theorem dX8_altered_60 : decode cX8_altered 60 = .ok (.iconst 5, 1) := by decide +kernel
theorem dX8_altered_61 : decode cX8_altered 61 = .ok (.invokestatic 165, 3) := by decide +kernel
theorem dX8_altered_64 : decode cX8_altered 64 = .ok (.ifCond .eq 15, 3) := by decide +kernel
theorem dX8_altered_67 : decode cX8_altered 67 = .ok (.aload_n 0, 1) := by decide +kernel
theorem dX8_altered_68 : decode cX8_altered 68 = .ok (.getfield 162, 3) := by decide +kernel
theorem dX8_altered_71 : decode cX8_altered 71 = .ok (.iconst 1, 1) := by decide +kernel
theorem dX8_altered_72 : decode cX8_altered 72 = .ok (.if_icmp .ne 7, 3) := by decide +kernel
theorem dX8_altered_75 : decode cX8_altered 75 = .ok (.iconst 1, 1) := by decide +kernel
theorem dX8_altered_76 : decode cX8_altered 76 = .ok (.goto 4, 3) := by decide +kernel
theorem dX8_altered_79 : decode cX8_altered 79 = .ok (.iconst 0, 1) := by decide +kernel
theorem dX8_altered_80 : decode cX8_altered 80 = .ok (.istore 6, 2) := by decide +kernel
theorem dX8_altered_82 : decode cX8_altered 82 = .ok (.iload_n 1, 1) := by decide +kernel
theorem dX8_altered_83 : decode cX8_altered 83 = .ok (.bipush 6, 2) := by decide +kernel
theorem dX8_altered_85 : decode cX8_altered 85 = .ok (.ishr, 1) := by decide +kernel
theorem dX8_altered_86 : decode cX8_altered 86 = .ok (.iconst 3, 1) := by decide +kernel
theorem dX8_altered_87 : decode cX8_altered 87 = .ok (.iand, 1) := by decide +kernel
theorem dX8_altered_88 : decode cX8_altered 88 = .ok (.istore 7, 2) := by decide +kernel
theorem dX8_altered_90 : decode cX8_altered 90 = .ok (.iload 7, 2) := by decide +kernel
theorem dX8_altered_92 : decode cX8_altered 92 = .ok (.iconst 1, 1) := by decide +kernel
theorem dX8_altered_93 : decode cX8_altered 93 = .ok (.if_icmp .ne 8, 3) := by decide +kernel
theorem dX8_altered_96 : decode cX8_altered 96 = .ok (.aload_n 0, 1) := by decide +kernel
theorem dX8_altered_97 : decode cX8_altered 97 = .ok (.iconst 0, 1) := by decide +kernel
theorem dX8_altered_98 : decode cX8_altered 98 = .ok (.putfield 162, 3) := by decide +kernel
theorem dX8_altered_101 : decode cX8_altered 101 = .ok (.iload 7, 2) := by decide +kernel
theorem dX8_altered_103 : decode cX8_altered 103 = .ok (.iconst 2, 1) := by decide +kernel
theorem dX8_altered_104 : decode cX8_altered 104 = .ok (.if_icmp .ne 13, 3) := by decide +kernel
theorem dX8_altered_107 : decode cX8_altered 107 = .ok (.aload_n 0, 1) := by decide +kernel
theorem dX8_altered_108 : decode cX8_altered 108 = .ok (.iconst 1, 1) := by decide +kernel
theorem dX8_altered_109 : decode cX8_altered 109 = .ok (.aload_n 0, 1) := by decide +kernel
theorem dX8_altered_110 : decode cX8_altered 110 = .ok (.getfield 162, 3) := by decide +kernel
theorem dX8_altered_113 : decode cX8_altered 113 = .ok (.isub, 1) := by decide +kernel
theorem dX8_altered_114 : decode cX8_altered 114 = .ok (.putfield 162, 3) := by decide +kernel
theorem dX8_altered_117 : decode cX8_altered 117 = .ok (.iload 7, 2) := by decide +kernel
theorem dX8_altered_119 : decode cX8_altered 119 = .ok (.iconst 3, 1) := by decide +kernel
theorem dX8_altered_120 : decode cX8_altered 120 = .ok (.if_icmp .ne 8, 3) := by decide +kernel
theorem dX8_altered_123 : decode cX8_altered 123 = .ok (.aload_n 0, 1) := by decide +kernel
theorem dX8_altered_124 : decode cX8_altered 124 = .ok (.iconst 1, 1) := by decide +kernel
theorem dX8_altered_125 : decode cX8_altered 125 = .ok (.putfield 162, 3) := by decide +kernel
theorem dX8_altered_128 : decode cX8_altered 128 = .ok (.iload_n 3, 1) := by decide +kernel
theorem dX8_altered_129 : decode cX8_altered 129 = .ok (.bipush 15, 2) := by decide +kernel
theorem dX8_altered_131 : decode cX8_altered 131 = .ok (.ishr, 1) := by decide +kernel
theorem dX8_altered_132 : decode cX8_altered 132 = .ok (.iconst 1, 1) := by decide +kernel
theorem dX8_altered_133 : decode cX8_altered 133 = .ok (.if_icmp .ne 7, 3) := by decide +kernel
theorem dX8_altered_136 : decode cX8_altered 136 = .ok (.iconst 1, 1) := by decide +kernel
theorem dX8_altered_137 : decode cX8_altered 137 = .ok (.goto 4, 3) := by decide +kernel
theorem dX8_altered_140 : decode cX8_altered 140 = .ok (.iconst 0, 1) := by decide +kernel
theorem dX8_altered_141 : decode cX8_altered 141 = .ok (.istore 8, 2) := by decide +kernel
theorem dX8_altered_143 : decode cX8_altered 143 = .ok (.iload_n 3, 1) := by decide +kernel
theorem dX8_altered_144 : decode cX8_altered 144 = .ok (.iconst 1, 1) := by decide +kernel
theorem dX8_altered_145 : decode cX8_altered 145 = .ok (.iand, 1) := by decide +kernel
theorem dX8_altered_146 : decode cX8_altered 146 = .ok (.iconst 1, 1) := by decide +kernel
theorem dX8_altered_147 : decode cX8_altered 147 = .ok (.if_icmp .ne 7, 3) := by decide +kernel
theorem dX8_altered_150 : decode cX8_altered 150 = .ok (.iconst 1, 1) := by decide +kernel
theorem dX8_altered_151 : decode cX8_altered 151 = .ok (.goto 4, 3) := by decide +kernel
theorem dX8_altered_154 : decode cX8_altered 154 = .ok (.iconst 0, 1) := by decide +kernel
theorem dX8_altered_155 : decode cX8_altered 155 = .ok (.istore 9, 2) := by decide +kernel
theorem dX8_altered_157 : decode cX8_altered 157 = .ok (.iload 5, 2) := by decide +kernel
theorem dX8_altered_159 : decode cX8_altered 159 = .ok (.ifCond .ne 29, 3) := by decide +kernel
theorem dX8_altered_162 : decode cX8_altered 162 = .ok (.iload_n 1, 1) := by decide +kernel
theorem dX8_altered_163 : decode cX8_altered 163 = .ok (.iconst 4, 1) := by decide +kernel
theorem dX8_altered_164 : decode cX8_altered 164 = .ok (.invokestatic 165, 3) := by decide +kernel
theorem dX8_altered_167 : decode cX8_altered 167 = .ok (.ifCond .eq 8, 3) := by decide +kernel
theorem dX8_altered_170 : decode cX8_altered 170 = .ok (.iload 8, 2) := by decide +kernel
theorem dX8_altered_172 : decode cX8_altered 172 = .ok (.ifCond .eq 16, 3) := by decide +kernel
theorem dX8_altered_175 : decode cX8_altered 175 = .ok (.iload_n 1, 1) := by decide +kernel
theorem dX8_altered_176 : decode cX8_altered 176 = .ok (.iconst 3, 1) := by decide +kernel
theorem dX8_altered_177 : decode cX8_altered 177 = .ok (.invokestatic 165, 3) := by decide +kernel
theorem dX8_altered_180 : decode cX8_altered 180 = .ok (.ifCond .eq 12, 3) := by decide +kernel
theorem dX8_altered_183 : decode cX8_altered 183 = .ok (.iload 9, 2) := by decide +kernel
theorem dX8_altered_185 : decode cX8_altered 185 = .ok (.ifCond .ne 7, 3) := by decide +kernel
theorem dX8_altered_188 : decode cX8_altered 188 = .ok (.iconst 1, 1) := by decide +kernel
theorem dX8_altered_189 : decode cX8_altered 189 = .ok (.goto 4, 3) := by decide +kernel
theorem dX8_altered_192 : decode cX8_altered 192 = .ok (.iconst 0, 1) := by decide +kernel
theorem dX8_altered_193 : decode cX8_altered 193 = .ok (.istore 5, 2) := by decide +kernel
theorem dX8_altered_195 : decode cX8_altered 195 = .ok (.iload_n 1, 1) := by decide +kernel
theorem dX8_altered_196 : decode cX8_altered 196 = .ok (.iconst 4, 1) := by decide +kernel
theorem dX8_altered_197 : decode cX8_altered 197 = .ok (.invokestatic 165, 3) := by decide +kernel
theorem dX8_altered_200 : decode cX8_altered 200 = .ok (.ifCond .eq 36, 3) := by decide +kernel
theorem dX8_altered_203 : decode cX8_altered 203 = .ok (.iload_n 1, 1) := by decide +kernel
theorem dX8_altered_204 : decode cX8_altered 204 = .ok (.iconst 3, 1) := by decide +kernel
theorem dX8_altered_205 : decode cX8_altered 205 = .ok (.invokestatic 165, 3) := by decide +kernel
theorem dX8_altered_208 : decode cX8_altered 208 = .ok (.ifCond .eq 28, 3) := by decide +kernel
theorem dX8_altered_211 : decode cX8_altered 211 = .ok (.iload 6, 2) := by decide +kernel
theorem dX8_altered_213 : decode cX8_altered 213 = .ok (.ifCond .ne 13, 3) := by decide +kernel
theorem dX8_altered_216 : decode cX8_altered 216 = .ok (.iload 8, 2) := by decide +kernel
theorem dX8_altered_218 : decode cX8_altered 218 = .ok (.ifCond .eq 12, 3) := by decide +kernel
theorem dX8_altered_221 : decode cX8_altered 221 = .ok (.iload 9, 2) := by decide +kernel
theorem dX8_altered_223 : decode cX8_altered 223 = .ok (.ifCond .eq 7, 3) := by decide +kernel
theorem dX8_altered_226 : decode cX8_altered 226 = .ok (.iconst 1, 1) := by decide +kernel
theorem dX8_altered_227 : decode cX8_altered 227 = .ok (.goto 4, 3) := by decide +kernel
theorem dX8_altered_230 : decode cX8_altered 230 = .ok (.iconst 0, 1) := by decide +kernel
theorem dX8_altered_231 : decode cX8_altered 231 = .ok (.istore 6, 2) := by decide +kernel
theorem dX8_altered_233 : decode cX8_altered 233 = .ok (.goto 41, 3) := by decide +kernel
theorem dX8_altered_236 : decode cX8_altered 236 = .ok (.iload 6, 2) := by decide +kernel
theorem dX8_altered_238 : decode cX8_altered 238 = .ok (.ifCond .ne 29, 3) := by decide +kernel
theorem dX8_altered_241 : decode cX8_altered 241 = .ok (.iload_n 1, 1) := by decide +kernel
theorem dX8_altered_242 : decode cX8_altered 242 = .ok (.iconst 4, 1) := by decide +kernel
theorem dX8_altered_243 : decode cX8_altered 243 = .ok (.invokestatic 165, 3) := by decide +kernel
theorem dX8_altered_246 : decode cX8_altered 246 = .ok (.ifCond .eq 8, 3) := by decide +kernel
theorem dX8_altered_249 : decode cX8_altered 249 = .ok (.iload 8, 2) := by decide +kernel
theorem dX8_altered_251 : decode cX8_altered 251 = .ok (.ifCond .ne 16, 3) := by decide +kernel
theorem dX8_altered_254 : decode cX8_altered 254 = .ok (.iload_n 1, 1) := by decide +kernel
theorem dX8_altered_255 : decode cX8_altered 255 = .ok (.iconst 3, 1) := by decide +kernel
theorem dX8_altered_256 : decode cX8_altered 256 = .ok (.invokestatic 165, 3) := by decide +kernel
theorem dX8_altered_259 : decode cX8_altered 259 = .ok (.ifCond .eq 12, 3) := by decide +kernel
theorem dX8_altered_262 : decode cX8_altered 262 = .ok (.iload 9, 2) := by decide +kernel
theorem dX8_altered_264 : decode cX8_altered 264 = .ok (.ifCond .eq 7, 3) := by decide +kernel
theorem dX8_altered_267 : decode cX8_altered 267 = .ok (.iconst 1, 1) := by decide +kernel
theorem dX8_altered_268 : decode cX8_altered 268 = .ok (.goto 4, 3) := by decide +kernel
theorem dX8_altered_271 : decode cX8_altered 271 = .ok (.iconst 0, 1) := by decide +kernel
theorem dX8_altered_272 : decode cX8_altered 272 = .ok (.istore 6, 2) := by decide +kernel
theorem dX8_altered_274 : decode cX8_altered 274 = .ok (.iload_n 1, 1) := by decide +kernel
theorem dX8_altered_275 : decode cX8_altered 275 = .ok (.iconst 2, 1) := by decide +kernel
theorem dX8_altered_276 : decode cX8_altered 276 = .ok (.invokestatic 165, 3) := by decide +kernel
theorem dX8_altered_279 : decode cX8_altered 279 = .ok (.ifCond .eq 33, 3) := by decide +kernel
theorem dX8_altered_282 : decode cX8_altered 282 = .ok (.iload_n 3, 1) := by decide +kernel
theorem dX8_altered_283 : decode cX8_altered 283 = .ok (.ldc 102, 2) := by decide +kernel
theorem dX8_altered_285 : decode cX8_altered 285 = .ok (.if_icmp .ne 8, 3) := by decide +kernel
theorem dX8_altered_288 : decode cX8_altered 288 = .ok (.aload_n 0, 1) := by decide +kernel
theorem dX8_altered_289 : decode cX8_altered 289 = .ok (.iconst 1, 1) := by decide +kernel
theorem dX8_altered_290 : decode cX8_altered 290 = .ok (.putfield 162, 3) := by decide +kernel
theorem dX8_altered_293 : decode cX8_altered 293 = .ok (.iload_n 3, 1) := by decide +kernel
theorem dX8_altered_294 : decode cX8_altered 294 = .ok (.sipush 32767, 3) := by decide +kernel
theorem dX8_altered_297 : decode cX8_altered 297 = .ok (.if_icmp .ne 8, 3) := by decide +kernel
theorem dX8_altered_300 : decode cX8_altered 300 = .ok (.aload_n 0, 1) := by decide +kernel
theorem dX8_altered_301 : decode cX8_altered 301 = .ok (.iconst 1, 1) := by decide +kernel
theorem dX8_altered_302 : decode cX8_altered 302 = .ok (.putfield 159, 3) := by decide +kernel
theorem dX8_altered_305 : decode cX8_altered 305 = .ok (.iload_n 3, 1) := by decide +kernel
theorem dX8_altered_306 : decode cX8_altered 306 = .ok (.iconst 1, 1) := by decide +kernel
theorem dX8_altered_307 : decode cX8_altered 307 = .ok (.iadd, 1) := by decide +kernel
theorem dX8_altered_308 : decode cX8_altered 308 = .ok (.ldc 102, 2) := by decide +kernel
theorem dX8_altered_310 : decode cX8_altered 310 = .ok (.iand, 1) := by decide +kernel
theorem dX8_altered_311 : decode cX8_altered 311 = .ok (.istore_n 3, 1) := by decide +kernel
theorem dX8_altered_312 : decode cX8_altered 312 = .ok (.iload 5, 2) := by decide +kernel
theorem dX8_altered_314 : decode cX8_altered 314 = .ok (.ifCond .ne 15, 3) := by decide +kernel
theorem dX8_altered_317 : decode cX8_altered 317 = .ok (.iload_n 1, 1) := by decide +kernel
theorem dX8_altered_318 : decode cX8_altered 318 = .ok (.iconst 1, 1) := by decide +kernel
theorem dX8_altered_319 : decode cX8_altered 319 = .ok (.invokestatic 165, 3) := by decide +kernel
theorem dX8_altered_322 : decode cX8_altered 322 = .ok (.ifCond .eq 11, 3) := by decide +kernel
theorem dX8_altered_325 : decode cX8_altered 325 = .ok (.iload_n 3, 1) := by decide +kernel
theorem dX8_altered_326 : decode cX8_altered 326 = .ok (.ifCond .ne 7, 3) := by decide +kernel
theorem dX8_altered_329 : decode cX8_altered 329 = .ok (.iconst 1, 1) := by decide +kernel
theorem dX8_altered_330 : decode cX8_altered 330 = .ok (.goto 4, 3) := by decide +kernel
theorem dX8_altered_333 : decode cX8_altered 333 = .ok (.iconst 0, 1) := by decide +kernel
theorem dX8_altered_334 : decode cX8_altered 334 = .ok (.istore 5, 2) := by decide +kernel
theorem dX8_altered_336 : decode cX8_altered 336 = .ok (.iload 6, 2) := by decide +kernel
theorem dX8_altered_338 : decode cX8_altered 338 = .ok (.ifCond .ne 15, 3) := by decide +kernel
theorem dX8_altered_341 : decode cX8_altered 341 = .ok (.iload_n 1, 1) := by decide +kernel
theorem dX8_altered_342 : decode cX8_altered 342 = .ok (.iconst 1, 1) := by decide +kernel
theorem dX8_altered_343 : decode cX8_altered 343 = .ok (.invokestatic 165, 3) := by decide +kernel
theorem dX8_altered_346 : decode cX8_altered 346 = .ok (.ifCond .eq 11, 3) := by decide +kernel
theorem dX8_altered_349 : decode cX8_altered 349 = .ok (.iload_n 3, 1) := by decide +kernel
theorem dX8_altered_350 : decode cX8_altered 350 = .ok (.ifCond .eq 7, 3) := by decide +kernel
theorem dX8_altered_353 : decode cX8_altered 353 = .ok (.iconst 1, 1) := by decide +kernel
theorem dX8_altered_354 : decode cX8_altered 354 = .ok (.goto 4, 3) := by decide +kernel
theorem dX8_altered_357 : decode cX8_altered 357 = .ok (.iconst 0, 1) := by decide +kernel
theorem dX8_altered_358 : decode cX8_altered 358 = .ok (.istore 6, 2) := by decide +kernel
theorem dX8_altered_360 : decode cX8_altered 360 = .ok (.iload_n 1, 1) := by decide +kernel
theorem dX8_altered_361 : decode cX8_altered 361 = .ok (.iconst 5, 1) := by decide +kernel
theorem dX8_altered_362 : decode cX8_altered 362 = .ok (.invokestatic 165, 3) := by decide +kernel
theorem dX8_altered_365 : decode cX8_altered 365 = .ok (.ifCond .ne 31, 3) := by decide +kernel
theorem dX8_altered_368 : decode cX8_altered 368 = .ok (.iload_n 1, 1) := by decide +kernel
theorem dX8_altered_369 : decode cX8_altered 369 = .ok (.iconst 4, 1) := by decide +kernel
theorem dX8_altered_370 : decode cX8_altered 370 = .ok (.invokestatic 165, 3) := by decide +kernel
theorem dX8_altered_373 : decode cX8_altered 373 = .ok (.ifCond .ne 23, 3) := by decide +kernel
theorem dX8_altered_376 : decode cX8_altered 376 = .ok (.iload_n 1, 1) := by decide +kernel
theorem dX8_altered_377 : decode cX8_altered 377 = .ok (.iconst 3, 1) := by decide +kernel
theorem dX8_altered_378 : decode cX8_altered 378 = .ok (.invokestatic 165, 3) := by decide +kernel
theorem dX8_altered_381 : decode cX8_altered 381 = .ok (.ifCond .ne 15, 3) := by decide +kernel
theorem dX8_altered_384 : decode cX8_altered 384 = .ok (.iload_n 1, 1) := by decide +kernel
theorem dX8_altered_385 : decode cX8_altered 385 = .ok (.iconst 1, 1) := by decide +kernel
theorem dX8_altered_386 : decode cX8_altered 386 = .ok (.invokestatic 165, 3) := by decide +kernel
theorem dX8_altered_389 : decode cX8_altered 389 = .ok (.ifCond .ne 7, 3) := by decide +kernel
theorem dX8_altered_392 : decode cX8_altered 392 = .ok (.iconst 1, 1) := by decide +kernel
theorem dX8_altered_393 : decode cX8_altered 393 = .ok (.goto 4, 3) := by decide +kernel
theorem dX8_altered_396 : decode cX8_altered 396 = .ok (.iconst 0, 1) := by decide +kernel
theorem dX8_altered_397 : decode cX8_altered 397 = .ok (.istore 10, 2) := by decide +kernel
theorem dX8_altered_399 : decode cX8_altered 399 = .ok (.aload_n 0, 1) := by decide +kernel
theorem dX8_altered_400 : decode cX8_altered 400 = .ok (.iload_n 1, 1) := by decide +kernel
theorem dX8_altered_401 : decode cX8_altered 401 = .ok (.iconst 0, 1) := by decide +kernel
theorem dX8_altered_402 : decode cX8_altered 402 = .ok (.invokestatic 165, 3) := by decide +kernel
theorem dX8_altered_405 : decode cX8_altered 405 = .ok (.ifCond .eq 21, 3) := by decide +kernel
theorem dX8_altered_408 : decode cX8_altered 408 = .ok (.iload 10, 2) := by decide +kernel
theorem dX8_altered_410 : decode cX8_altered 410 = .ok (.ifCond .ne 8, 3) := by decide +kernel
theorem dX8_altered_413 : decode cX8_altered 413 = .ok (.iload 6, 2) := by decide +kernel
theorem dX8_altered_415 : decode cX8_altered 415 = .ok (.ifCond .eq 7, 3) := by decide +kernel
theorem dX8_altered_418 : decode cX8_altered 418 = .ok (.iconst 1, 1) := by decide +kernel
theorem dX8_altered_419 : decode cX8_altered 419 = .ok (.goto 9, 3) := by decide +kernel
theorem dX8_altered_422 : decode cX8_altered 422 = .ok (.iconst 0, 1) := by decide +kernel
theorem dX8_altered_423 : decode cX8_altered 423 = .ok (.goto 5, 3) := by decide +kernel
theorem dX8_altered_426 : decode cX8_altered 426 = .ok (.iload 5, 2) := by decide +kernel
theorem dX8_altered_428 : decode cX8_altered 428 = .ok (.invokevirtual 147, 3) := by decide +kernel
theorem dX8_altered_431 : decode cX8_altered 431 = .ok (.iload_n 3, 1) := by decide +kernel
theorem dX8_altered_432 : decode cX8_altered 432 = .ok (.ireturn, 1) := by decide +kernel
theorem dX8_flagOf_0 : decode cX8_flagOf 0 = .ok (.iload_n 1, 1) := by decide +kernel
theorem dX8_flagOf_1 : decode cX8_flagOf 1 = .ok (.ifCond .ne 10, 3) := by decide +kernel
theorem dX8_flagOf_4 : decode cX8_flagOf 4 = .ok (.aload_n 0, 1) := by decide +kernel
theorem dX8_flagOf_5 : decode cX8_flagOf 5 = .ok (.getfield 116, 3) := by decide +kernel
theorem dX8_flagOf_8 : decode cX8_flagOf 8 = .ok (.goto 50, 3) := by decide +kernel
