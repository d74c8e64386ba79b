theorem dX8_direct_23 : decode cX8_direct 23 = .ok (.putfield 91, 3) := by decide +kernel
theorem dX8_direct_26 : decode cX8_direct 26 = .ok (.aload_n 0, 1) := by decide +kernel
theorem dX8_direct_27 : decode cX8_direct 27 = .ok (.bipush 64, 2) := by decide +kernel
theorem dX8_direct_29 : decode cX8_direct 29 = .ok (.putfield 13, 3) := by decide +kernel
theorem dX8_direct_32 : decode cX8_direct 32 = .ok (.iconst (-1), 1) := by decide +kernel
theorem dX8_direct_33 : decode cX8_direct 33 = .ok (.ireturn, 1) := by decide +kernel
theorem dX8_direct_34 : decode cX8_direct 34 = .ok (.aload_n 0, 1) := by decide +kernel
theorem dX8_direct_35 : decode cX8_direct 35 = .ok (.iload_n 2, 1) := by decide +kernel
theorem dX8_direct_36 : decode cX8_direct 36 = .ok (.sipush 32767, 3) := by decide +kernel
theorem dX8_direct_39 : decode cX8_direct 39 = .ok (.iand, 1) := by decide +kernel
theorem dX8_direct_40 : decode cX8_direct 40 = .ok (.invokevirtual 95, 3) := by decide +kernel
theorem dX8_direct_43 : decode cX8_direct 43 = .ok (.istore_n 2, 1) := by decide +kernel
theorem dX8_direct_44 : decode cX8_direct 44 = .ok (.goto (-40), 3) := by decide +kernel
theorem dX8_direct_47 : decode cX8_direct 47 = .ok (.iload_n 2, 1) := by decide +kernel
theorem dX8_direct_48 : decode cX8_direct 48 = .ok (.ireturn, 1) := by decide +kernel
theorem dX8_started_0 : decode cX8_started 0 = .ok (.aload_n 0, 1) := by decide +kernel
theorem dX8_started_1 : decode cX8_started 1 = .ok (.getfield 60, 3) := by decide +kernel
theorem dX8_started_4 : decode cX8_started 4 = .ok (.iload_n 1, 1) := by decide +kernel
theorem dX8_started_5 : decode cX8_started 5 = .ok (.aload_n 0, 1) := by decide +kernel
theorem dX8_started_6 : decode cX8_started 6 = .ok (.getfield 54, 3) := by decide +kernel
theorem dX8_started_9 : decode cX8_started 9 = .ok (.iload_n 1, 1) := by decide +kernel
theorem dX8_started_10 : decode cX8_started 10 = .ok (.iaload, 1) := by decide +kernel
theorem dX8_started_11 : decode cX8_started 11 = .ok (.iastore, 1) := by decide +kernel
theorem dX8_started_12 : decode cX8_started 12 = .ok (.return_, 1) := by decide +kernel
theorem dX8_ready_0 : decode cX8_ready 0 = .ok (.aload_n 0, 1) := by decide +kernel
theorem dX8_ready_1 : decode cX8_ready 1 = .ok (.getfield 51, 3) := by decide +kernel
theorem dX8_ready_4 : decode cX8_ready 4 = .ok (.iload_n 1, 1) := by decide +kernel
theorem dX8_ready_5 : decode cX8_ready 5 = .ok (.baload, 1) := by decide +kernel
theorem dX8_ready_6 : decode cX8_ready 6 = .ok (.ifCond .eq 51, 3) := by decide +kernel
theorem dX8_ready_9 : decode cX8_ready 9 = .ok (.aload_n 0, 1) := by decide +kernel
theorem dX8_ready_10 : decode cX8_ready 10 = .ok (.getfield 66, 3) := by decide +kernel
theorem dX8_ready_13 : decode cX8_ready 13 = .ok (.iload_n 1, 1) := by decide +kernel
theorem dX8_ready_14 : decode cX8_ready 14 = .ok (.iaload, 1) := by decide +kernel
theorem dX8_ready_15 : decode cX8_ready 15 = .ok (.sipush 200, 3) := by decide +kernel
theorem dX8_ready_18 : decode cX8_ready 18 = .ok (.if_icmp .ge 26, 3) := by decide +kernel
theorem dX8_ready_21 : decode cX8_ready 21 = .ok (.aload_n 0, 1) := by decide +kernel
theorem dX8_ready_22 : decode cX8_ready 22 = .ok (.getfield 72, 3) := by decide +kernel
theorem dX8_ready_25 : decode cX8_ready 25 = .ok (.sipush 200, 3) := by decide +kernel
theorem dX8_ready_28 : decode cX8_ready 28 = .ok (.iload_n 1, 1) := by decide +kernel
theorem dX8_ready_29 : decode cX8_ready 29 = .ok (.imul, 1) := by decide +kernel
theorem dX8_ready_30 : decode cX8_ready 30 = .ok (.aload_n 0, 1) := by decide +kernel
theorem dX8_ready_31 : decode cX8_ready 31 = .ok (.getfield 66, 3) := by decide +kernel
theorem dX8_ready_34 : decode cX8_ready 34 = .ok (.iload_n 1, 1) := by decide +kernel
theorem dX8_ready_35 : decode cX8_ready 35 = .ok (.iaload, 1) := by decide +kernel
theorem dX8_ready_36 : decode cX8_ready 36 = .ok (.iadd, 1) := by decide +kernel
theorem dX8_ready_37 : decode cX8_ready 37 = .ok (.aload_n 0, 1) := by decide +kernel
theorem dX8_ready_38 : decode cX8_ready 38 = .ok (.getfield 57, 3) := by decide +kernel
theorem dX8_ready_41 : decode cX8_ready 41 = .ok (.iload_n 1, 1) := by decide +kernel
theorem dX8_ready_42 : decode cX8_ready 42 = .ok (.iaload, 1) := by decide +kernel
theorem dX8_ready_43 : decode cX8_ready 43 = .ok (.iastore, 1) := by decide +kernel
theorem dX8_ready_44 : decode cX8_ready 44 = .ok (.aload_n 0, 1) := by decide +kernel
theorem dX8_ready_45 : decode cX8_ready 45 = .ok (.getfield 66, 3) := by decide +kernel
theorem dX8_ready_48 : decode cX8_ready 48 = .ok (.iload_n 1, 1) := by decide +kernel
theorem dX8_ready_49 : decode cX8_ready 49 = .ok (.dup2, 1) := by decide +kernel
theorem dX8_ready_50 : decode cX8_ready 50 = .ok (.iaload, 1) := by decide +kernel
theorem dX8_ready_51 : decode cX8_ready 51 = .ok (.iconst 1, 1) := by decide +kernel
theorem dX8_ready_52 : decode cX8_ready 52 = .ok (.iadd, 1) := by decide +kernel
theorem dX8_ready_53 : decode cX8_ready 53 = .ok (.iastore, 1) := by decide +kernel
theorem dX8_ready_54 : decode cX8_ready 54 = .ok (.goto 86, 3) := by decide +kernel
theorem dX8_ready_57 : decode cX8_ready 57 = .ok (.aload_n 0, 1) := by decide +kernel
theorem dX8_ready_58 : decode cX8_ready 58 = .ok (.getfield 57, 3) := by decide +kernel
theorem dX8_ready_61 : decode cX8_ready 61 = .ok (.iload_n 1, 1) := by decide +kernel
theorem dX8_ready_62 : decode cX8_ready 62 = .ok (.iconst 0, 1) := by decide +kernel
theorem dX8_ready_63 : decode cX8_ready 63 = .ok (.iastore, 1) := by decide +kernel
theorem dX8_ready_64 : decode cX8_ready 64 = .ok (.aload_n 0, 1) := by decide +kernel
theorem dX8_ready_65 : decode cX8_ready 65 = .ok (.getfield 63, 3) := by decide +kernel
theorem dX8_ready_68 : decode cX8_ready 68 = .ok (.iload_n 1, 1) := by decide +kernel
theorem dX8_ready_69 : decode cX8_ready 69 = .ok (.iaload, 1) := by decide +kernel
theorem dX8_ready_70 : decode cX8_ready 70 = .ok (.ifCond .le 70, 3) := by decide +kernel
theorem dX8_ready_73 : decode cX8_ready 73 = .ok (.aload_n 0, 1) := by decide +kernel
theorem dX8_ready_74 : decode cX8_ready 74 = .ok (.getfield 57, 3) := by decide +kernel
theorem dX8_ready_77 : decode cX8_ready 77 = .ok (.iload_n 1, 1) := by decide +kernel
theorem dX8_ready_78 : decode cX8_ready 78 = .ok (.aload_n 0, 1) := by decide +kernel
theorem dX8_ready_79 : decode cX8_ready 79 = .ok (.getfield 69, 3) := by decide +kernel
theorem dX8_ready_82 : decode cX8_ready 82 = .ok (.bipush 100, 2) := by decide +kernel
theorem dX8_ready_84 : decode cX8_ready 84 = .ok (.iload_n 1, 1) := by decide +kernel
theorem dX8_ready_85 : decode cX8_ready 85 = .ok (.imul, 1) := by decide +kernel
theorem dX8_ready_86 : decode cX8_ready 86 = .ok (.iaload, 1) := by decide +kernel
theorem dX8_ready_87 : decode cX8_ready 87 = .ok (.iastore, 1) := by decide +kernel
theorem dX8_ready_88 : decode cX8_ready 88 = .ok (.aload_n 0, 1) := by decide +kernel
theorem dX8_ready_89 : decode cX8_ready 89 = .ok (.getfield 63, 3) := by decide +kernel
theorem dX8_ready_92 : decode cX8_ready 92 = .ok (.iload_n 1, 1) := by decide +kernel
theorem dX8_ready_93 : decode cX8_ready 93 = .ok (.dup2, 1) := by decide +kernel
theorem dX8_ready_94 : decode cX8_ready 94 = .ok (.iaload, 1) := by decide +kernel
theorem dX8_ready_95 : decode cX8_ready 95 = .ok (.iconst 1, 1) := by decide +kernel
theorem dX8_ready_96 : decode cX8_ready 96 = .ok (.isub, 1) := by decide +kernel
theorem dX8_ready_97 : decode cX8_ready 97 = .ok (.iastore, 1) := by decide +kernel
theorem dX8_ready_98 : decode cX8_ready 98 = .ok (.iconst 0, 1) := by decide +kernel
theorem dX8_ready_99 : decode cX8_ready 99 = .ok (.istore_n 2, 1) := by decide +kernel
theorem dX8_ready_100 : decode cX8_ready 100 = .ok (.iload_n 2, 1) := by decide +kernel
theorem dX8_ready_101 : decode cX8_ready 101 = .ok (.aload_n 0, 1) := by decide +kernel
theorem dX8_ready_102 : decode cX8_ready 102 = .ok (.getfield 63, 3) := by decide +kernel
theorem dX8_ready_105 : decode cX8_ready 105 = .ok (.iload_n 1, 1) := by decide +kernel
theorem dX8_ready_106 : decode cX8_ready 106 = .ok (.iaload, 1) := by decide +kernel
theorem dX8_ready_107 : decode cX8_ready 107 = .ok (.if_icmp .ge 33, 3) := by decide +kernel
theorem dX8_ready_110 : decode cX8_ready 110 = .ok (.aload_n 0, 1) := by decide +kernel
theorem dX8_ready_111 : decode cX8_ready 111 = .ok (.getfield 69, 3) := by decide +kernel
theorem dX8_ready_114 : decode cX8_ready 114 = .ok (.bipush 100, 2) := by decide +kernel
theorem dX8_ready_116 : decode cX8_ready 116 = .ok (.iload_n 1, 1) := by decide +kernel
theorem dX8_ready_117 : decode cX8_ready 117 = .ok (.imul, 1) := by decide +kernel
theorem dX8_ready_118 : decode cX8_ready 118 = .ok (.iload_n 2, 1) := by decide +kernel
theorem dX8_ready_119 : decode cX8_ready 119 = .ok (.iadd, 1) := by decide +kernel
theorem dX8_ready_120 : decode cX8_ready 120 = .ok (.aload_n 0, 1) := by decide +kernel
theorem dX8_ready_121 : decode cX8_ready 121 = .ok (.getfield 69, 3) := by decide +kernel
theorem dX8_ready_124 : decode cX8_ready 124 = .ok (.bipush 100, 2) := by decide +kernel
theorem dX8_ready_126 : decode cX8_ready 126 = .ok (.iload_n 1, 1) := by decide +kernel
theorem dX8_ready_127 : decode cX8_ready 127 = .ok (.imul, 1) := by decide +kernel
theorem dX8_ready_128 : decode cX8_ready 128 = .ok (.iload_n 2, 1) := by decide +kernel
theorem dX8_ready_129 : decode cX8_ready 129 = .ok (.iadd, 1) := by decide +kernel
theorem dX8_ready_130 : decode cX8_ready 130 = .ok (.iconst 1, 1) := by decide +kernel
theorem dX8_ready_131 : decode cX8_ready 131 = .ok (.iadd, 1) := by decide +kernel
theorem dX8_ready_132 : decode cX8_ready 132 = .ok (.iaload, 1) := by decide +kernel
theorem dX8_ready_133 : decode cX8_ready 133 = .ok (.iastore, 1) := by decide +kernel
theorem dX8_ready_134 : decode cX8_ready 134 = .ok (.iinc 2 1, 3) := by decide +kernel
theorem dX8_ready_137 : decode cX8_ready 137 = .ok (.goto (-37), 3) := by decide +kernel
theorem dX8_ready_140 : decode cX8_ready 140 = .ok (.aload_n 0, 1) := by decide +kernel
theorem dX8_ready_141 : decode cX8_ready 141 = .ok (.getfield 24, 3) := by decide +kernel
theorem dX8_ready_144 : decode cX8_ready 144 = .ok (.iload_n 1, 1) := by decide +kernel
theorem dX8_ready_145 : decode cX8_ready 145 = .ok (.iconst 1, 1) := by decide +kernel
theorem dX8_ready_146 : decode cX8_ready 146 = .ok (.bastore, 1) := by decide +kernel
theorem dX8_ready_147 : decode cX8_ready 147 = .ok (.aload_n 0, 1) := by decide +kernel
theorem dX8_ready_148 : decode cX8_ready 148 = .ok (.getfield 27, 3) := by decide +kernel
theorem dX8_ready_151 : decode cX8_ready 151 = .ok (.iload_n 1, 1) := by decide +kernel
theorem dX8_ready_152 : decode cX8_ready 152 = .ok (.iconst 1, 1) := by decide +kernel
theorem dX8_ready_153 : decode cX8_ready 153 = .ok (.bastore, 1) := by decide +kernel
theorem dX8_ready_154 : decode cX8_ready 154 = .ok (.return_, 1) := by decide +kernel
set_option maxRecDepth 20000 in
theorem ggX8_channel_X8_put : GoodIn wsX8_channel wsX8_put := goodIn_r _ [16, 17, 18, 19, 33, 34, 35, 36, 37, 38, 39, 40, 41, 42, 43, 44, 45, 46, 47, 48, 49, 50, 51, 52, 53, 54, 55, 56, 57, 58, 59, 60, 61, 62, 63, 64, 65, 66, 67] (by decide +kernel) (by decide +kernel)
set_option maxRecDepth 20000 in
theorem gX8_channel_X8_put : GoodIn wsX8_channel (wsV RX8 98 RX8 yX8_put wsX8_put) := goodIn_app (goodIn_of _ (by decide +kernel)) ggX8_channel_X8_put
set_option maxRecDepth 20000 in
theorem ggX8_channel_X8_at : GoodIn wsX8_channel wsX8_at := goodIn_r _ [23, 17, 18, 19, 33, 34, 35, 36, 37, 38, 39, 40, 41, 42, 43, 44, 45, 46, 47, 48, 49, 50, 51, 52, 53, 54, 55, 56, 57, 58, 59, 60, 61, 62, 63, 64, 65, 66, 67] (by decide +kernel) (by decide +kernel)
set_option maxRecDepth 20000 in
theorem gX8_channel_X8_at : GoodIn wsX8_channel (wsV RX8 95 RX8 yX8_at wsX8_at) := goodIn_app (goodIn_of _ (by decide +kernel)) ggX8_channel_X8_at
set_option maxRecDepth 20000 in
theorem ggX8_channel_X8_more : GoodIn wsX8_channel wsX8_more := goodIn_r _ [26] (by decide +kernel) (by decide +kernel)
set_option maxRecDepth 20000 in
theorem gX8_channel_X8_more : GoodIn wsX8_channel (va_wsS RX8 87 yX8_more wsX8_more) := goodIn_app (goodIn_of _ (by decide +kernel)) ggX8_channel_X8_more
set_option maxRecDepth 20000 in
theorem ggX8_channel_X8_started : GoodIn wsX8_channel wsX8_started := goodIn_r _ [30, 31, 32, 33, 34, 35, 36, 37, 38, 39, 40, 41, 42, 43, 44, 45, 46, 47, 48, 49, 50, 51, 52, 53, 54, 55, 56, 57, 58, 59, 60, 61, 62, 63, 64, 65, 66, 67] (by decide +kernel) (by decide +kernel)
set_option maxRecDepth 20000 in
theorem gX8_channel_X8_started : GoodIn wsX8_channel (wsV RX8 103 RX8 yX8_started wsX8_started) := goodIn_app (goodIn_of _ (by decide +kernel)) ggX8_channel_X8_started
theorem dX8_channel_0 : decode cX8_channel 0 = .ok (.aload_n 0, 1) := by decide +kernel
theorem dX8_channel_1 : decode cX8_channel 1 = .ok (.getfield 45, 3) := by decide +kernel
theorem dX8_channel_4 : decode cX8_channel 4 = .ok (.iload_n 1, 1) := by decide +kernel
theorem dX8_channel_5 : decode cX8_channel 5 = .ok (.iaload, 1) := by decide +kernel
theorem dX8_channel_6 : decode cX8_channel 6 = .ok (.bipush 63, 2) := by decide +kernel
theorem dX8_channel_8 : decode cX8_channel 8 = .ok (.iand, 1) := by decide +kernel
theorem dX8_channel_9 : decode cX8_channel 9 = .ok (.istore_n 2, 1) := by decide +kernel
theorem dX8_channel_10 : decode cX8_channel 10 = .ok (.aload_n 0, 1) := by decide +kernel
theorem dX8_channel_11 : decode cX8_channel 11 = .ok (.getfield 30, 3) := by decide +kernel
theorem dX8_channel_14 : decode cX8_channel 14 = .ok (.iload_n 1, 1) := by decide +kernel
theorem dX8_channel_15 : decode cX8_channel 15 = .ok (.baload, 1) := by decide +kernel
theorem dX8_channel_16 : decode cX8_channel 16 = .ok (.ifCond .eq 24, 3) := by decide +kernel
theorem dX8_channel_19 : decode cX8_channel 19 = .ok (.iload_n 2, 1) := by decide +kernel
theorem dX8_channel_20 : decode cX8_channel 20 = .ok (.bipush 8, 2) := by decide +kernel
theorem dX8_channel_22 : decode cX8_channel 22 = .ok (.if_icmp .lt 18, 3) := by decide +kernel
theorem dX8_channel_25 : decode cX8_channel 25 = .ok (.iload_n 2, 1) := by decide +kernel
theorem dX8_channel_26 : decode cX8_channel 26 = .ok (.bipush 12, 2) := by decide +kernel
theorem dX8_channel_28 : decode cX8_channel 28 = .ok (.if_icmp .ge 12, 3) := by decide +kernel
theorem dX8_channel_31 : decode cX8_channel 31 = .ok (.aload_n 0, 1) := by decide +kernel
theorem dX8_channel_32 : decode cX8_channel 32 = .ok (.getfield 24, 3) := by decide +kernel
theorem dX8_channel_35 : decode cX8_channel 35 = .ok (.iload_n 2, 1) := by decide +kernel
theorem dX8_channel_36 : decode cX8_channel 36 = .ok (.baload, 1) := by decide +kernel
theorem dX8_channel_37 : decode cX8_channel 37 = .ok (.ifCond .ne 4, 3) := by decide +kernel
theorem dX8_channel_40 : decode cX8_channel 40 = .ok (.return_, 1) := by decide +kernel
theorem dX8_channel_41 : decode cX8_channel 41 = .ok (.aload_n 0, 1) := by decide +kernel
theorem dX8_channel_42 : decode cX8_channel 42 = .ok (.getfield 33, 3) := by decide +kernel
theorem dX8_channel_45 : decode cX8_channel 45 = .ok (.iload_n 1, 1) := by decide +kernel
theorem dX8_channel_46 : decode cX8_channel 46 = .ok (.baload, 1) := by decide +kernel
theorem dX8_channel_47 : decode cX8_channel 47 = .ok (.ifCond .eq 22, 3) := by decide +kernel
theorem dX8_channel_50 : decode cX8_channel 50 = .ok (.aload_n 0, 1) := by decide +kernel
theorem dX8_channel_51 : decode cX8_channel 51 = .ok (.aload_n 0, 1) := by decide +kernel
theorem dX8_channel_52 : decode cX8_channel 52 = .ok (.getfield 39, 3) := by decide +kernel
theorem dX8_channel_55 : decode cX8_channel 55 = .ok (.iload_n 1, 1) := by decide +kernel
theorem dX8_channel_56 : decode cX8_channel 56 = .ok (.iaload, 1) := by decide +kernel
theorem dX8_channel_57 : decode cX8_channel 57 = .ok (.aload_n 0, 1) := by decide +kernel
theorem dX8_channel_58 : decode cX8_channel 58 = .ok (.getfield 57, 3) := by decide +kernel
theorem dX8_channel_61 : decode cX8_channel 61 = .ok (.iload_n 2, 1) := by decide +kernel
theorem dX8_channel_62 : decode cX8_channel 62 = .ok (.iaload, 1) := by decide +kernel
theorem dX8_channel_63 : decode cX8_channel 63 = .ok (.invokevirtual 98, 3) := by decide +kernel
theorem dX8_channel_66 : decode cX8_channel 66 = .ok (.goto 19, 3) := by decide +kernel
theorem dX8_channel_69 : decode cX8_channel 69 = .ok (.aload_n 0, 1) := by decide +kernel
theorem dX8_channel_70 : decode cX8_channel 70 = .ok (.getfield 57, 3) := by decide +kernel
theorem dX8_channel_73 : decode cX8_channel 73 = .ok (.iload_n 2, 1) := by decide +kernel
theorem dX8_channel_74 : decode cX8_channel 74 = .ok (.aload_n 0, 1) := by decide +kernel
theorem dX8_channel_75 : decode cX8_channel 75 = .ok (.aload_n 0, 1) := by decide +kernel
theorem dX8_channel_76 : decode cX8_channel 76 = .ok (.getfield 39, 3) := by decide +kernel
theorem dX8_channel_79 : decode cX8_channel 79 = .ok (.iload_n 1, 1) := by decide +kernel
theorem dX8_channel_80 : decode cX8_channel 80 = .ok (.iaload, 1) := by decide +kernel
theorem dX8_channel_81 : decode cX8_channel 81 = .ok (.invokevirtual 95, 3) := by decide +kernel
theorem dX8_channel_84 : decode cX8_channel 84 = .ok (.iastore, 1) := by decide +kernel
theorem dX8_channel_85 : decode cX8_channel 85 = .ok (.aload_n 0, 1) := by decide +kernel
theorem dX8_channel_86 : decode cX8_channel 86 = .ok (.getfield 24, 3) := by decide +kernel
theorem dX8_channel_89 : decode cX8_channel 89 = .ok (.iload_n 2, 1) := by decide +kernel
theorem dX8_channel_90 : decode cX8_channel 90 = .ok (.iconst 0, 1) := by decide +kernel
theorem dX8_channel_91 : decode cX8_channel 91 = .ok (.bastore, 1) := by decide +kernel
theorem dX8_channel_92 : decode cX8_channel 92 = .ok (.aload_n 0, 1) := by decide +kernel
theorem dX8_channel_93 : decode cX8_channel 93 = .ok (.getfield 27, 3) := by decide +kernel
theorem dX8_channel_96 : decode cX8_channel 96 = .ok (.iload_n 2, 1) := by decide +kernel
theorem dX8_channel_97 : decode cX8_channel 97 = .ok (.iconst 0, 1) := by decide +kernel
theorem dX8_channel_98 : decode cX8_channel 98 = .ok (.bastore, 1) := by decide +kernel
theorem dX8_channel_99 : decode cX8_channel 99 = .ok (.aload_n 0, 1) := by decide +kernel
theorem dX8_channel_100 : decode cX8_channel 100 = .ok (.getfield 39, 3) := by decide +kernel
theorem dX8_channel_103 : decode cX8_channel 103 = .ok (.iload_n 1, 1) := by decide +kernel
theorem dX8_channel_104 : decode cX8_channel 104 = .ok (.aload_n 0, 1) := by decide +kernel
theorem dX8_channel_105 : decode cX8_channel 105 = .ok (.getfield 39, 3) := by decide +kernel
theorem dX8_channel_108 : decode cX8_channel 108 = .ok (.iload_n 1, 1) := by decide +kernel
theorem dX8_channel_109 : decode cX8_channel 109 = .ok (.iaload, 1) := by decide +kernel
theorem dX8_channel_110 : decode cX8_channel 110 = .ok (.invokestatic 87, 3) := by decide +kernel
theorem dX8_channel_113 : decode cX8_channel 113 = .ok (.iastore, 1) := by decide +kernel
theorem dX8_channel_114 : decode cX8_channel 114 = .ok (.aload_n 0, 1) := by decide +kernel
theorem dX8_channel_115 : decode cX8_channel 115 = .ok (.getfield 42, 3) := by decide +kernel
theorem dX8_channel_118 : decode cX8_channel 118 = .ok (.iload_n 1, 1) := by decide +kernel
theorem dX8_channel_119 : decode cX8_channel 119 = .ok (.aload_n 0, 1) := by decide +kernel
theorem dX8_channel_120 : decode cX8_channel 120 = .ok (.getfield 42, 3) := by decide +kernel
theorem dX8_channel_123 : decode cX8_channel 123 = .ok (.iload_n 1, 1) := by decide +kernel
theorem dX8_channel_124 : decode cX8_channel 124 = .ok (.iaload, 1) := by decide +kernel
theorem dX8_channel_125 : decode cX8_channel 125 = .ok (.iconst 1, 1) := by decide +kernel
theorem dX8_channel_126 : decode cX8_channel 126 = .ok (.iadd, 1) := by decide +kernel
theorem dX8_channel_127 : decode cX8_channel 127 = .ok (.ldc 102, 2) := by decide +kernel
theorem dX8_channel_129 : decode cX8_channel 129 = .ok (.iand, 1) := by decide +kernel
theorem dX8_channel_130 : decode cX8_channel 130 = .ok (.iastore, 1) := by decide +kernel
theorem dX8_channel_131 : decode cX8_channel 131 = .ok (.aload_n 0, 1) := by decide +kernel
theorem dX8_channel_132 : decode cX8_channel 132 = .ok (.getfield 48, 3) := by decide +kernel
theorem dX8_channel_135 : decode cX8_channel 135 = .ok (.iload_n 1, 1) := by decide +kernel
theorem dX8_channel_136 : decode cX8_channel 136 = .ok (.dup2, 1) := by decide +kernel
theorem dX8_channel_137 : decode cX8_channel 137 = .ok (.iaload, 1) := by decide +kernel
theorem dX8_channel_138 : decode cX8_channel 138 = .ok (.iconst 1, 1) := by decide +kernel
theorem dX8_channel_139 : decode cX8_channel 139 = .ok (.iadd, 1) := by decide +kernel
theorem dX8_channel_140 : decode cX8_channel 140 = .ok (.iastore, 1) := by decide +kernel
theorem dX8_channel_141 : decode cX8_channel 141 = .ok (.aload_n 0, 1) := by decide +kernel
theorem dX8_channel_142 : decode cX8_channel 142 = .ok (.getfield 42, 3) := by decide +kernel
theorem dX8_channel_145 : decode cX8_channel 145 = .ok (.iload_n 1, 1) := by decide +kernel
theorem dX8_channel_146 : decode cX8_channel 146 = .ok (.iaload, 1) := by decide +kernel
theorem dX8_channel_147 : decode cX8_channel 147 = .ok (.ifCond .ne 49, 3) := by decide +kernel
theorem dX8_channel_150 : decode cX8_channel 150 = .ok (.aload_n 0, 1) := by decide +kernel
theorem dX8_channel_151 : decode cX8_channel 151 = .ok (.getfield 24, 3) := by decide +kernel
theorem dX8_channel_154 : decode cX8_channel 154 = .ok (.iload_n 1, 1) := by decide +kernel
theorem dX8_channel_155 : decode cX8_channel 155 = .ok (.iconst 1, 1) := by decide +kernel
theorem dX8_channel_156 : decode cX8_channel 156 = .ok (.bastore, 1) := by decide +kernel
theorem dX8_channel_157 : decode cX8_channel 157 = .ok (.aload_n 0, 1) := by decide +kernel
theorem dX8_channel_158 : decode cX8_channel 158 = .ok (.getfield 27, 3) := by decide +kernel
theorem dX8_channel_161 : decode cX8_channel 161 = .ok (.iload_n 1, 1) := by decide +kernel
theorem dX8_channel_162 : decode cX8_channel 162 = .ok (.iconst 1, 1) := by decide +kernel
theorem dX8_channel_163 : decode cX8_channel 163 = .ok (.bastore, 1) := by decide +kernel
theorem dX8_channel_164 : decode cX8_channel 164 = .ok (.aload_n 0, 1) := by decide +kernel
theorem dX8_channel_165 : decode cX8_channel 165 = .ok (.getfield 30, 3) := by decide +kernel
theorem dX8_channel_168 : decode cX8_channel 168 = .ok (.iload_n 1, 1) := by decide +kernel
theorem dX8_channel_169 : decode cX8_channel 169 = .ok (.iconst 0, 1) := by decide +kernel
theorem dX8_channel_170 : decode cX8_channel 170 = .ok (.bastore, 1) := by decide +kernel
theorem dX8_channel_171 : decode cX8_channel 171 = .ok (.aload_n 0, 1) := by decide +kernel
theorem dX8_channel_172 : decode cX8_channel 172 = .ok (.getfield 45, 3) := by decide +kernel
theorem dX8_channel_175 : decode cX8_channel 175 = .ok (.iload_n 1, 1) := by decide +kernel
theorem dX8_channel_176 : decode cX8_channel 176 = .ok (.iaload, 1) := by decide +kernel
theorem dX8_channel_177 : decode cX8_channel 177 = .ok (.bipush 13, 2) := by decide +kernel
theorem dX8_channel_179 : decode cX8_channel 179 = .ok (.ishr, 1) := by decide +kernel
theorem dX8_channel_180 : decode cX8_channel 180 = .ok (.iconst 1, 1) := by decide +kernel
theorem dX8_channel_181 : decode cX8_channel 181 = .ok (.iand, 1) := by decide +kernel
theorem dX8_channel_182 : decode cX8_channel 182 = .ok (.iconst 1, 1) := by decide +kernel
theorem dX8_channel_183 : decode cX8_channel 183 = .ok (.if_icmp .ne 38, 3) := by decide +kernel
theorem dX8_channel_186 : decode cX8_channel 186 = .ok (.aload_n 0, 1) := by decide +kernel
theorem dX8_channel_187 : decode cX8_channel 187 = .ok (.getfield 20, 3) := by decide +kernel
theorem dX8_channel_190 : decode cX8_channel 190 = .ok (.iload_n 2, 1) := by decide +kernel
theorem dX8_channel_191 : decode cX8_channel 191 = .ok (.iconst 0, 1) := by decide +kernel
theorem dX8_channel_192 : decode cX8_channel 192 = .ok (.bastore, 1) := by decide +kernel
theorem dX8_channel_193 : decode cX8_channel 193 = .ok (.goto 28, 3) := by decide +kernel
theorem dX8_channel_196 : decode cX8_channel 196 = .ok (.aload_n 0, 1) := by decide +kernel
theorem dX8_channel_197 : decode cX8_channel 197 = .ok (.getfield 45, 3) := by decide +kernel
theorem dX8_channel_200 : decode cX8_channel 200 = .ok (.iload_n 1, 1) := by decide +kernel
theorem dX8_channel_201 : decode cX8_channel 201 = .ok (.iaload, 1) := by decide +kernel
theorem dX8_channel_202 : decode cX8_channel 202 = .ok (.bipush 15, 2) := by decide +kernel
theorem dX8_channel_204 : decode cX8_channel 204 = .ok (.ishr, 1) := by decide +kernel
theorem dX8_channel_205 : decode cX8_channel 205 = .ok (.iconst 1, 1) := by decide +kernel
theorem dX8_channel_206 : decode cX8_channel 206 = .ok (.if_icmp .ne 15, 3) := by decide +kernel
theorem dX8_channel_209 : decode cX8_channel 209 = .ok (.aload_n 0, 1) := by decide +kernel
theorem dX8_channel_210 : decode cX8_channel 210 = .ok (.getfield 20, 3) := by decide +kernel
theorem dX8_channel_213 : decode cX8_channel 213 = .ok (.iload_n 2, 1) := by decide +kernel
theorem dX8_channel_214 : decode cX8_channel 214 = .ok (.iconst 1, 1) := by decide +kernel
theorem dX8_channel_215 : decode cX8_channel 215 = .ok (.bastore, 1) := by decide +kernel
theorem dX8_channel_216 : decode cX8_channel 216 = .ok (.aload_n 0, 1) := by decide +kernel
theorem dX8_channel_217 : decode cX8_channel 217 = .ok (.iload_n 2, 1) := by decide +kernel
theorem dX8_channel_218 : decode cX8_channel 218 = .ok (.invokevirtual 103, 3) := by decide +kernel
theorem dX8_channel_221 : decode cX8_channel 221 = .ok (.return_, 1) := by decide +kernel
set_option maxRecDepth 20000 in
theorem ggX8_turn_X8_ready : GoodIn wsX8_turn wsX8_ready := goodIn_r _ [16, 17, 18, 19, 20, 21, 22, 4, 7, 151, 152, 153, 154, 155, 156, 157, 158, 159, 160, 161, 162, 163, 164, 165, 166, 167, 168, 169, 170, 171, 172, 173, 174, 175, 176, 177, 178, 179, 180, 181, 182, 183, 184, 185] (by decide +kernel) (by decide +kernel)
set_option maxRecDepth 20000 in
theorem gX8_turn_X8_ready : GoodIn wsX8_turn (wsV RX8 110 RX8 yX8_ready wsX8_ready) := goodIn_app (goodIn_of _ (by decide +kernel)) ggX8_turn_X8_ready
set_option maxRecDepth 20000 in
theorem ggX8_turn_X8_channel : GoodIn wsX8_turn wsX8_channel := goodIn_r _ [26, 27, 28, 4, 29, 30, 20, 7, 31, 32, 33, 3, 34, 35, 36, 15, 37, 38, 39, 40, 41, 42, 43, 44, 45, 46, 47, 48, 49, 50, 51, 2, 52, 151, 152, 153, 154, 155, 156, 157, 158, 159, 160, 161, 162, 163, 164, 165, 166, 167, 168, 169, 170, 171, 172, 173, 174, 175, 176, 177, 178, 179, 180, 181, 182, 183, 184, 185] (by decide +kernel) (by decide +kernel)
set_option maxRecDepth 20000 in
theorem gX8_turn_X8_channel : GoodIn wsX8_turn (wsV RX8 113 RX8 yX8_channel wsX8_channel) := goodIn_app (goodIn_of _ (by decide +kernel)) ggX8_turn_X8_channel
set_option maxRecDepth 20000 in
theorem ggX8_turn_X8_at : GoodIn wsX8_turn wsX8_at := goodIn_r _ [44, 38, 39, 40, 151, 152, 153, 154, 155, 156, 157, 158, 159, 160, 161, 162, 163, 164, 165, 166, 167, 168, 169, 170, 171, 172, 173, 174, 175, 176, 177, 178, 179, 180, 181, 182, 183, 184, 185] (by decide +kernel) (by decide +kernel)
set_option maxRecDepth 20000 in
theorem gX8_turn_X8_at : GoodIn wsX8_turn (wsV RX8 95 RX8 yX8_at wsX8_at) := goodIn_app (goodIn_of _ (by decide +kernel)) ggX8_turn_X8_at
set_option maxRecDepth 20000 in
theorem ggX8_turn_X8_does : GoodIn wsX8_turn wsX8_does := goodIn_r _ [56, 57, 58, 59, 15, 60, 61, 38, 11, 8, 32, 39, 62, 63, 64, 65, 66, 67, 41, 42, 43, 44, 40, 34, 35, 36, 37, 45, 46, 47, 68, 69, 70, 71, 72, 73, 74, 75, 76, 77, 78, 79, 80, 81, 82, 83, 84, 85, 86, 87, 88, 89, 90, 91, 92, 93, 94, 95, 96, 97, 98, 99, 100, 101, 102, 103, 104, 5, 4, 7, 105, 106, 107, 108, 109, 110, 111, 112, 113, 31, 20, 114, 115, 116, 117, 118, 119, 30, 29, 27, 120, 121, 122, 123, 3, 28, 48, 49, 50, 51, 2, 52, 124, 125, 126, 127, 128, 129, 130, 131, 132, 133, 134, 135, 136, 137, 138, 139, 140, 141, 142, 143, 144, 145, 146, 147, 148, 149, 150, 151, 152, 153, 154, 155, 156, 157, 158, 159, 160, 161, 162, 163, 164, 165, 166, 167, 168, 169, 170, 171, 172, 173, 174, 175, 176, 177, 178, 179, 180, 181, 182, 183, 184, 185] (by decide +kernel) (by decide +kernel)
set_option maxRecDepth 20000 in
theorem gX8_turn_X8_does : GoodIn wsX8_turn (wsV RX8 128 RX8 yX8_does wsX8_does) := goodIn_app (goodIn_of _ (by decide +kernel)) ggX8_turn_X8_does
set_option maxRecDepth 20000 in
theorem ggX8_turn_X8_more : GoodIn wsX8_turn wsX8_more := goodIn_r _ [47] (by decide +kernel) (by decide +kernel)
set_option maxRecDepth 20000 in
theorem gX8_turn_X8_more : GoodIn wsX8_turn (va_wsS RX8 87 yX8_more wsX8_more) := goodIn_app (goodIn_of _ (by decide +kernel)) ggX8_turn_X8_more
theorem dX8_turn_0 : decode cX8_turn 0 = .ok (.aload_n 0, 1) := by decide +kernel
theorem dX8_turn_1 : decode cX8_turn 1 = .ok (.dup, 1) := by decide +kernel
theorem dX8_turn_2 : decode cX8_turn 2 = .ok (.getfield 107, 3) := by decide +kernel
theorem dX8_turn_5 : decode cX8_turn 5 = .ok (.iconst 1, 1) := by decide +kernel
theorem dX8_turn_6 : decode cX8_turn 6 = .ok (.iadd, 1) := by decide +kernel
theorem dX8_turn_7 : decode cX8_turn 7 = .ok (.putfield 107, 3) := by decide +kernel
theorem dX8_turn_10 : decode cX8_turn 10 = .ok (.bipush 8, 2) := by decide +kernel
theorem dX8_turn_12 : decode cX8_turn 12 = .ok (.istore_n 1, 1) := by decide +kernel
theorem dX8_turn_13 : decode cX8_turn 13 = .ok (.iload_n 1, 1) := by decide +kernel
theorem dX8_turn_14 : decode cX8_turn 14 = .ok (.bipush 12, 2) := by decide +kernel
theorem dX8_turn_16 : decode cX8_turn 16 = .ok (.if_icmp .ge 45, 3) := by decide +kernel
theorem dX8_turn_19 : decode cX8_turn 19 = .ok (.aload_n 0, 1) := by decide +kernel
theorem dX8_turn_20 : decode cX8_turn 20 = .ok (.getfield 60, 3) := by decide +kernel
theorem dX8_turn_23 : decode cX8_turn 23 = .ok (.iload_n 1, 1) := by decide +kernel
theorem dX8_turn_24 : decode cX8_turn 24 = .ok (.iaload, 1) := by decide +kernel
theorem dX8_turn_25 : decode cX8_turn 25 = .ok (.ifCond .ne 6, 3) := by decide +kernel
theorem dX8_turn_28 : decode cX8_turn 28 = .ok (.goto 27, 3) := by decide +kernel
theorem dX8_turn_31 : decode cX8_turn 31 = .ok (.aload_n 0, 1) := by decide +kernel
theorem dX8_turn_32 : decode cX8_turn 32 = .ok (.getfield 60, 3) := by decide +kernel
theorem dX8_turn_35 : decode cX8_turn 35 = .ok (.iload_n 1, 1) := by decide +kernel
theorem dX8_turn_36 : decode cX8_turn 36 = .ok (.dup2, 1) := by decide +kernel
theorem dX8_turn_37 : decode cX8_turn 37 = .ok (.iaload, 1) := by decide +kernel
theorem dX8_turn_38 : decode cX8_turn 38 = .ok (.iconst 1, 1) := by decide +kernel
theorem dX8_turn_39 : decode cX8_turn 39 = .ok (.isub, 1) := by decide +kernel
theorem dX8_turn_40 : decode cX8_turn 40 = .ok (.iastore, 1) := by decide +kernel
theorem dX8_turn_41 : decode cX8_turn 41 = .ok (.aload_n 0, 1) := by decide +kernel
theorem dX8_turn_42 : decode cX8_turn 42 = .ok (.getfield 60, 3) := by decide +kernel
theorem dX8_turn_45 : decode cX8_turn 45 = .ok (.iload_n 1, 1) := by decide +kernel
theorem dX8_turn_46 : decode cX8_turn 46 = .ok (.iaload, 1) := by decide +kernel
theorem dX8_turn_47 : decode cX8_turn 47 = .ok (.ifCond .ne 8, 3) := by decide +kernel
theorem dX8_turn_50 : decode cX8_turn 50 = .ok (.aload_n 0, 1) := by decide +kernel
theorem dX8_turn_51 : decode cX8_turn 51 = .ok (.iload_n 1, 1) := by decide +kernel
theorem dX8_turn_52 : decode cX8_turn 52 = .ok (.invokevirtual 110, 3) := by decide +kernel
theorem dX8_turn_55 : decode cX8_turn 55 = .ok (.iinc 1 1, 3) := by decide +kernel
theorem dX8_turn_58 : decode cX8_turn 58 = .ok (.goto (-45), 3) := by decide +kernel
theorem dX8_turn_61 : decode cX8_turn 61 = .ok (.aload_n 0, 1) := by decide +kernel
theorem dX8_turn_62 : decode cX8_turn 62 = .ok (.bipush 6, 2) := by decide +kernel
theorem dX8_turn_64 : decode cX8_turn 64 = .ok (.invokevirtual 113, 3) := by decide +kernel
theorem dX8_turn_67 : decode cX8_turn 67 = .ok (.aload_n 0, 1) := by decide +kernel
theorem dX8_turn_68 : decode cX8_turn 68 = .ok (.bipush 7, 2) := by decide +kernel
theorem dX8_turn_70 : decode cX8_turn 70 = .ok (.invokevirtual 113, 3) := by decide +kernel
theorem dX8_turn_73 : decode cX8_turn 73 = .ok (.bipush 6, 2) := by decide +kernel
theorem dX8_turn_75 : decode cX8_turn 75 = .ok (.istore_n 1, 1) := by decide +kernel
theorem dX8_turn_76 : decode cX8_turn 76 = .ok (.iload_n 1, 1) := by decide +kernel
theorem dX8_turn_77 : decode cX8_turn 77 = .ok (.bipush 12, 2) := by decide +kernel
theorem dX8_turn_79 : decode cX8_turn 79 = .ok (.if_icmp .ge 27, 3) := by decide +kernel
theorem dX8_turn_82 : decode cX8_turn 82 = .ok (.aload_n 0, 1) := by decide +kernel
theorem dX8_turn_83 : decode cX8_turn 83 = .ok (.getfield 20, 3) := by decide +kernel
theorem dX8_turn_86 : decode cX8_turn 86 = .ok (.iload_n 1, 1) := by decide +kernel
theorem dX8_turn_87 : decode cX8_turn 87 = .ok (.baload, 1) := by decide +kernel
theorem dX8_turn_88 : decode cX8_turn 88 = .ok (.ifCond .eq 12, 3) := by decide +kernel
theorem dX8_turn_91 : decode cX8_turn 91 = .ok (.aload_n 0, 1) := by decide +kernel
theorem dX8_turn_92 : decode cX8_turn 92 = .ok (.getfield 24, 3) := by decide +kernel
theorem dX8_turn_95 : decode cX8_turn 95 = .ok (.iload_n 1, 1) := by decide +kernel
theorem dX8_turn_96 : decode cX8_turn 96 = .ok (.baload, 1) := by decide +kernel
theorem dX8_turn_97 : decode cX8_turn 97 = .ok (.ifCond .ne 9, 3) := by decide +kernel
theorem dX8_turn_100 : decode cX8_turn 100 = .ok (.iinc 1 1, 3) := by decide +kernel
theorem dX8_turn_103 : decode cX8_turn 103 = .ok (.goto (-27), 3) := by decide +kernel
theorem dX8_turn_106 : decode cX8_turn 106 = .ok (.aload_n 0, 1) := by decide +kernel
theorem dX8_turn_107 : decode cX8_turn 107 = .ok (.getfield 116, 3) := by decide +kernel
theorem dX8_turn_110 : decode cX8_turn 110 = .ok (.ifCond .eq 29, 3) := by decide +kernel
theorem dX8_turn_113 : decode cX8_turn 113 = .ok (.aload_n 0, 1) := by decide +kernel
theorem dX8_turn_114 : decode cX8_turn 114 = .ok (.getfield 119, 3) := by decide +kernel
theorem dX8_turn_117 : decode cX8_turn 117 = .ok (.ifCond .ne 22, 3) := by decide +kernel
theorem dX8_turn_120 : decode cX8_turn 120 = .ok (.iload_n 1, 1) := by decide +kernel
theorem dX8_turn_121 : decode cX8_turn 121 = .ok (.bipush 12, 2) := by decide +kernel
theorem dX8_turn_123 : decode cX8_turn 123 = .ok (.if_icmp .ge 16, 3) := by decide +kernel
theorem dX8_turn_126 : decode cX8_turn 126 = .ok (.aload_n 0, 1) := by decide +kernel
theorem dX8_turn_127 : decode cX8_turn 127 = .ok (.getfield 27, 3) := by decide +kernel
theorem dX8_turn_130 : decode cX8_turn 130 = .ok (.iload_n 1, 1) := by decide +kernel
theorem dX8_turn_131 : decode cX8_turn 131 = .ok (.baload, 1) := by decide +kernel
theorem dX8_turn_132 : decode cX8_turn 132 = .ok (.ifCond .eq 7, 3) := by decide +kernel
theorem dX8_turn_135 : decode cX8_turn 135 = .ok (.iconst 1, 1) := by decide +kernel
theorem dX8_turn_136 : decode cX8_turn 136 = .ok (.goto 4, 3) := by decide +kernel
theorem dX8_turn_139 : decode cX8_turn 139 = .ok (.iconst 0, 1) := by decide +kernel
theorem dX8_turn_140 : decode cX8_turn 140 = .ok (.istore_n 2, 1) := by decide +kernel
theorem dX8_turn_141 : decode cX8_turn 141 = .ok (.aload_n 0, 1) := by decide +kernel
theorem dX8_turn_142 : decode cX8_turn 142 = .ok (.iconst 0, 1) := by decide +kernel
theorem dX8_turn_143 : decode cX8_turn 143 = .ok (.putfield 122, 3) := by decide +kernel
theorem dX8_turn_146 : decode cX8_turn 146 = .ok (.iload_n 2, 1) := by decide +kernel
theorem dX8_turn_147 : decode cX8_turn 147 = .ok (.ifCond .eq 38, 3) := by decide +kernel
theorem dX8_turn_150 : decode cX8_turn 150 = .ok (.aload_n 0, 1) := by decide +kernel
theorem dX8_turn_151 : decode cX8_turn 151 = .ok (.getfield 27, 3) := by decide +kernel
theorem dX8_turn_154 : decode cX8_turn 154 = .ok (.iload_n 1, 1) := by decide +kernel
theorem dX8_turn_155 : decode cX8_turn 155 = .ok (.iconst 0, 1) := by decide +kernel
theorem dX8_turn_156 : decode cX8_turn 156 = .ok (.bastore, 1) := by decide +kernel
theorem dX8_turn_157 : decode cX8_turn 157 = .ok (.aload_n 0, 1) := by decide +kernel
theorem dX8_turn_158 : decode cX8_turn 158 = .ok (.dup, 1) := by decide +kernel
theorem dX8_turn_159 : decode cX8_turn 159 = .ok (.getfield 125, 3) := by decide +kernel
theorem dX8_turn_162 : decode cX8_turn 162 = .ok (.iconst 1, 1) := by decide +kernel
theorem dX8_turn_163 : decode cX8_turn 163 = .ok (.iadd, 1) := by decide +kernel
theorem dX8_turn_164 : decode cX8_turn 164 = .ok (.putfield 125, 3) := by decide +kernel
theorem dX8_turn_167 : decode cX8_turn 167 = .ok (.aload_n 0, 1) := by decide +kernel
theorem dX8_turn_168 : decode cX8_turn 168 = .ok (.iload_n 1, 1) := by decide +kernel
theorem dX8_turn_169 : decode cX8_turn 169 = .ok (.putfield 17, 3) := by decide +kernel
theorem dX8_turn_172 : decode cX8_turn 172 = .ok (.aload_n 0, 1) := by decide +kernel
theorem dX8_turn_173 : decode cX8_turn 173 = .ok (.aload_n 0, 1) := by decide +kernel
theorem dX8_turn_174 : decode cX8_turn 174 = .ok (.iload_n 1, 1) := by decide +kernel
theorem dX8_turn_175 : decode cX8_turn 175 = .ok (.invokevirtual 95, 3) := by decide +kernel
theorem dX8_turn_178 : decode cX8_turn 178 = .ok (.iconst 0, 1) := by decide +kernel
theorem dX8_turn_179 : decode cX8_turn 179 = .ok (.invokevirtual 128, 3) := by decide +kernel
theorem dX8_turn_182 : decode cX8_turn 182 = .ok (.goto 33, 3) := by decide +kernel
theorem dX8_turn_185 : decode cX8_turn 185 = .ok (.aload_n 0, 1) := by decide +kernel
theorem dX8_turn_186 : decode cX8_turn 186 = .ok (.getfield 84, 3) := by decide +kernel
theorem dX8_turn_189 : decode cX8_turn 189 = .ok (.istore_n 3, 1) := by decide +kernel
theorem dX8_turn_190 : decode cX8_turn 190 = .ok (.aload_n 0, 1) := by decide +kernel
theorem dX8_turn_191 : decode cX8_turn 191 = .ok (.aload_n 0, 1) := by decide +kernel
theorem dX8_turn_192 : decode cX8_turn 192 = .ok (.getfield 84, 3) := by decide +kernel
theorem dX8_turn_195 : decode cX8_turn 195 = .ok (.invokestatic 87, 3) := by decide +kernel
theorem dX8_turn_198 : decode cX8_turn 198 = .ok (.putfield 84, 3) := by decide +kernel
theorem dX8_turn_201 : decode cX8_turn 201 = .ok (.aload_n 0, 1) := by decide +kernel
theorem dX8_turn_202 : decode cX8_turn 202 = .ok (.aload_n 0, 1) := by decide +kernel
theorem dX8_turn_203 : decode cX8_turn 203 = .ok (.iload_n 3, 1) := by decide +kernel
theorem dX8_turn_204 : decode cX8_turn 204 = .ok (.invokevirtual 95, 3) := by decide +kernel
theorem dX8_turn_207 : decode cX8_turn 207 = .ok (.iload_n 3, 1) := by decide +kernel
theorem dX8_turn_208 : decode cX8_turn 208 = .ok (.sipush 31744, 3) := by decide +kernel
theorem dX8_turn_211 : decode cX8_turn 211 = .ok (.iand, 1) := by decide +kernel
theorem dX8_turn_212 : decode cX8_turn 212 = .ok (.invokevirtual 128, 3) := by decide +kernel
theorem dX8_turn_215 : decode cX8_turn 215 = .ok (.aload_n 0, 1) := by decide +kernel
theorem dX8_turn_216 : decode cX8_turn 216 = .ok (.aload_n 0, 1) := by decide +kernel
theorem dX8_turn_217 : decode cX8_turn 217 = .ok (.getfield 122, 3) := by decide +kernel
theorem dX8_turn_220 : decode cX8_turn 220 = .ok (.putfield 119, 3) := by decide +kernel
theorem dX8_turn_223 : decode cX8_turn 223 = .ok (.return_, 1) := by decide +kernel
set_option maxRecDepth 20000 in
theorem ggX8_does_X8_memoryWord : GoodIn wsX8_does wsX8_memoryWord := goodIn_r _ [5, 6, 7, 8, 9, 10, 11, 12, 13, 14, 4, 15, 16, 17, 18, 19, 20, 21, 22, 23, 24, 25, 26, 27, 28, 29, 30, 31, 32, 33, 34, 35, 36, 37, 38, 39, 40, 41, 42, 43, 129, 130, 131, 132, 133, 134, 135, 136, 137, 138, 139, 140, 141, 142, 143, 144, 145, 146, 147, 148, 149, 150, 151, 152, 153, 154, 155, 156, 157, 158, 159, 160, 161, 162, 163] (by decide +kernel) (by decide +kernel)
set_option maxRecDepth 20000 in
theorem gX8_does_X8_memoryWord : GoodIn wsX8_does (wsV RX8 131 RX8 yX8_memoryWord wsX8_memoryWord) := goodIn_app (goodIn_of _ (by decide +kernel)) ggX8_does_X8_memoryWord
set_option maxRecDepth 20000 in
theorem ggX8_does_X8_registers : GoodIn wsX8_does wsX8_registers := goodIn_r _ [47, 11, 7, 39, 48, 49, 4, 50, 51, 52, 53, 54, 10, 38, 30, 31, 32, 33, 8, 27, 28, 29, 55, 56, 57, 58, 6, 129, 130, 131, 132, 133, 134, 135, 136, 137, 138, 139, 140, 141, 142, 143, 144, 145, 146, 147, 148, 149, 150, 151, 152, 153, 154, 155, 156, 157, 158, 159, 160, 161, 162, 163] (by decide +kernel) (by decide +kernel)
set_option maxRecDepth 20000 in
theorem gX8_does_X8_registers : GoodIn wsX8_does (wsV RX8 134 RX8 yX8_registers wsX8_registers) := goodIn_app (goodIn_of _ (by decide +kernel)) ggX8_does_X8_registers
set_option maxRecDepth 20000 in
theorem ggX8_does_X8_codes : GoodIn wsX8_does wsX8_codes := goodIn_r _ [62, 11, 7, 16, 17, 9, 48, 49, 4, 50, 63, 64, 65, 66, 67, 38, 68, 69, 70, 71, 72, 73, 30, 31, 32, 33, 8, 27, 28, 29, 74, 75, 76, 77, 78, 79, 80, 81, 82, 83, 84, 85, 86, 87, 88, 89, 90, 91, 92, 93, 94, 95, 96, 97, 98, 99, 100, 101, 129, 130, 131, 132, 133, 134, 135, 136, 137, 138, 139, 140, 141, 142, 143, 144, 145, 146, 147, 148, 149, 150, 151, 152, 153, 154, 155, 156, 157, 158, 159, 160, 161, 162, 163] (by decide +kernel) (by decide +kernel)
set_option maxRecDepth 20000 in
theorem gX8_does_X8_codes : GoodIn wsX8_does (wsV RX8 137 RX8 yX8_codes wsX8_codes) := goodIn_app (goodIn_of _ (by decide +kernel)) ggX8_does_X8_codes
set_option maxRecDepth 20000 in
theorem ggX8_does_X8_extended : GoodIn wsX8_does wsX8_extended := goodIn_r _ [105, 106, 107, 108, 109, 8, 38, 27, 28, 4, 29, 18, 19, 20, 21, 7, 11, 22, 12, 13, 14, 15, 16, 17, 110, 111, 112, 113, 114, 115, 10, 40, 41, 42, 43, 116, 117, 118, 119, 120, 121, 122, 123, 23, 24, 25, 26, 124, 125, 126, 127, 128, 129, 130, 131, 132, 133, 134, 135, 136, 137, 138, 139, 140, 141, 142, 143, 144, 145, 146, 147, 148, 149, 150, 151, 152, 153, 154, 155, 156, 157, 158, 159, 160, 161, 162, 163] (by decide +kernel) (by decide +kernel)
set_option maxRecDepth 20000 in
theorem gX8_does_X8_extended : GoodIn wsX8_does (wsV RX8 140 RX8 yX8_extended wsX8_extended) := goodIn_app (goodIn_of _ (by decide +kernel)) ggX8_does_X8_extended
theorem dX8_does_0 : decode cX8_does 0 = .ok (.iload_n 1, 1) := by decide +kernel
theorem dX8_does_1 : decode cX8_does 1 = .ok (.bipush 12, 2) := by decide +kernel
theorem dX8_does_3 : decode cX8_does 3 = .ok (.ishr, 1) := by decide +kernel
theorem dX8_does_4 : decode cX8_does 4 = .ok (.bipush 7, 2) := by decide +kernel
theorem dX8_does_6 : decode cX8_does 6 = .ok (.iand, 1) := by decide +kernel
theorem dX8_does_7 : decode cX8_does 7 = .ok (.ifCond .eq 12, 3) := by decide +kernel
theorem dX8_does_10 : decode cX8_does 10 = .ok (.aload_n 0, 1) := by decide +kernel
theorem dX8_does_11 : decode cX8_does 11 = .ok (.iload_n 1, 1) := by decide +kernel
theorem dX8_does_12 : decode cX8_does 12 = .ok (.iload_n 2, 1) := by decide +kernel
theorem dX8_does_13 : decode cX8_does 13 = .ok (.invokevirtual 131, 3) := by decide +kernel
theorem dX8_does_16 : decode cX8_does 16 = .ok (.goto 41, 3) := by decide +kernel
theorem dX8_does_19 : decode cX8_does 19 = .ok (.iload_n 1, 1) := by decide +kernel
theorem dX8_does_20 : decode cX8_does 20 = .ok (.bipush 15, 2) := by decide +kernel
theorem dX8_does_22 : decode cX8_does 22 = .ok (.ishr, 1) := by decide +kernel
theorem dX8_does_23 : decode cX8_does 23 = .ok (.ifCond .ne 11, 3) := by decide +kernel
theorem dX8_does_26 : decode cX8_does 26 = .ok (.aload_n 0, 1) := by decide +kernel
theorem dX8_does_27 : decode cX8_does 27 = .ok (.iload_n 1, 1) := by decide +kernel
theorem dX8_does_28 : decode cX8_does 28 = .ok (.invokevirtual 134, 3) := by decide +kernel
theorem dX8_does_31 : decode cX8_does 31 = .ok (.goto 26, 3) := by decide +kernel
theorem dX8_does_34 : decode cX8_does 34 = .ok (.iload_n 1, 1) := by decide +kernel
theorem dX8_does_35 : decode cX8_does 35 = .ok (.bipush 10, 2) := by decide +kernel
theorem dX8_does_37 : decode cX8_does 37 = .ok (.ishr, 1) := by decide +kernel
theorem dX8_does_38 : decode cX8_does 38 = .ok (.iconst 1, 1) := by decide +kernel
theorem dX8_does_39 : decode cX8_does 39 = .ok (.iand, 1) := by decide +kernel
theorem dX8_does_40 : decode cX8_does 40 = .ok (.iconst 1, 1) := by decide +kernel
theorem dX8_does_41 : decode cX8_does 41 = .ok (.if_icmp .ne 11, 3) := by decide +kernel
theorem dX8_does_44 : decode cX8_does 44 = .ok (.aload_n 0, 1) := by decide +kernel
theorem dX8_does_45 : decode cX8_does 45 = .ok (.iload_n 1, 1) := by decide +kernel
theorem dX8_does_46 : decode cX8_does 46 = .ok (.invokevirtual 137, 3) := by decide +kernel
theorem dX8_does_49 : decode cX8_does 49 = .ok (.goto 8, 3) := by decide +kernel
theorem dX8_does_52 : decode cX8_does 52 = .ok (.aload_n 0, 1) := by decide +kernel
theorem dX8_does_53 : decode cX8_does 53 = .ok (.iload_n 1, 1) := by decide +kernel
theorem dX8_does_54 : decode cX8_does 54 = .ok (.invokevirtual 140, 3) := by decide +kernel
theorem dX8_does_57 : decode cX8_does 57 = .ok (.return_, 1) := by decide +kernel
set_option maxRecDepth 20000 in
theorem ggX8_memoryWord_X8_direct : GoodIn wsX8_memoryWord wsX8_direct := goodIn_r _ [11, 12, 13, 14, 15, 16, 10, 17, 2, 6, 18, 40, 41, 42, 43, 44, 45, 46, 47, 48, 49, 50, 51, 52, 53, 54, 55, 56, 57, 58, 59, 60, 61, 62, 63, 64, 65, 66, 67, 68, 69, 70, 71, 72, 73, 74] (by decide +kernel) (by decide +kernel)
set_option maxRecDepth 20000 in
theorem gX8_memoryWord_X8_direct : GoodIn wsX8_memoryWord (wsV RX8 144 RX8 yX8_direct wsX8_direct) := goodIn_app (goodIn_of _ (by decide +kernel)) ggX8_memoryWord_X8_direct
set_option maxRecDepth 20000 in
theorem ggX8_memoryWord_X8_at : GoodIn wsX8_memoryWord wsX8_at := goodIn_r _ [17, 2, 6, 18, 40, 41, 42, 43, 44, 45, 46, 47, 48, 49, 50, 51, 52, 53, 54, 55, 56, 57, 58, 59, 60, 61, 62, 63, 64, 65, 66, 67, 68, 69, 70, 71, 72, 73, 74] (by decide +kernel) (by decide +kernel)
set_option maxRecDepth 20000 in
theorem gX8_memoryWord_X8_at : GoodIn wsX8_memoryWord (wsV RX8 95 RX8 yX8_at wsX8_at) := goodIn_app (goodIn_of _ (by decide +kernel)) ggX8_memoryWord_X8_at
set_option maxRecDepth 20000 in
theorem ggX8_memoryWord_X8_put : GoodIn wsX8_memoryWord wsX8_put := goodIn_r _ [22, 2, 6, 18, 40, 41, 42, 43, 44, 45, 46, 47, 48, 49, 50, 51, 52, 53, 54, 55, 56, 57, 58, 59, 60, 61, 62, 63, 64, 65, 66, 67, 68, 69, 70, 71, 72, 73, 74] (by decide +kernel) (by decide +kernel)
set_option maxRecDepth 20000 in
theorem gX8_memoryWord_X8_put : GoodIn wsX8_memoryWord (wsV RX8 98 RX8 yX8_put wsX8_put) := goodIn_app (goodIn_of _ (by decide +kernel)) ggX8_memoryWord_X8_put
set_option maxRecDepth 20000 in
theorem ggX8_memoryWord_X8_more : GoodIn wsX8_memoryWord wsX8_more := goodIn_r _ [25] (by decide +kernel) (by decide +kernel)
set_option maxRecDepth 20000 in
theorem gX8_memoryWord_X8_more : GoodIn wsX8_memoryWord (va_wsS RX8 87 yX8_more wsX8_more) := goodIn_app (goodIn_of _ (by decide +kernel)) ggX8_memoryWord_X8_more
set_option maxRecDepth 20000 in
theorem ggX8_memoryWord_X8_skip : GoodIn wsX8_memoryWord wsX8_skip := goodIn_r _ [29, 3, 23, 24, 10, 25, 40, 41, 42, 43, 44, 45, 46, 47, 48, 49, 50, 51, 52, 53, 54, 55, 56, 57, 58, 59, 60, 61, 62, 63, 64, 65, 66, 67, 68, 69, 70, 71, 72, 73, 74] (by decide +kernel) (by decide +kernel)
set_option maxRecDepth 20000 in
theorem gX8_memoryWord_X8_skip : GoodIn wsX8_memoryWord (wsV RX8 147 RX8 yX8_skip wsX8_skip) := goodIn_app (goodIn_of _ (by decide +kernel)) ggX8_memoryWord_X8_skip
set_option maxRecDepth 20000 in
theorem ggX8_memoryWord_X8_sum : GoodIn wsX8_memoryWord wsX8_sum := goodIn_r _ [33, 34, 5, 35, 36, 37, 10, 38, 39, 40, 41, 42, 43, 44, 45, 46, 47, 48, 49, 50, 51, 52, 53, 54, 55, 56, 57, 58, 59, 60, 61, 62, 63, 64, 65, 66, 67, 68, 69, 70, 71, 72, 73, 74] (by decide +kernel) (by decide +kernel)
set_option maxRecDepth 20000 in
theorem gX8_memoryWord_X8_sum : GoodIn wsX8_memoryWord (wsV RX8 151 RX8 yX8_sum wsX8_sum) := goodIn_app (goodIn_of _ (by decide +kernel)) ggX8_memoryWord_X8_sum
theorem dX8_memoryWord_0 : decode cX8_memoryWord 0 = .ok (.iload_n 1, 1) := by decide +kernel
theorem dX8_memoryWord_1 : decode cX8_memoryWord 1 = .ok (.sipush 1023, 3) := by decide +kernel
theorem dX8_memoryWord_4 : decode cX8_memoryWord 4 = .ok (.iand, 1) := by decide +kernel
theorem dX8_memoryWord_5 : decode cX8_memoryWord 5 = .ok (.istore_n 3, 1) := by decide +kernel
theorem dX8_memoryWord_6 : decode cX8_memoryWord 6 = .ok (.iload_n 1, 1) := by decide +kernel
theorem dX8_memoryWord_7 : decode cX8_memoryWord 7 = .ok (.bipush 10, 2) := by decide +kernel
theorem dX8_memoryWord_9 : decode cX8_memoryWord 9 = .ok (.ishr, 1) := by decide +kernel
theorem dX8_memoryWord_10 : decode cX8_memoryWord 10 = .ok (.iconst 1, 1) := by decide +kernel
theorem dX8_memoryWord_11 : decode cX8_memoryWord 11 = .ok (.iand, 1) := by decide +kernel
theorem dX8_memoryWord_12 : decode cX8_memoryWord 12 = .ok (.iconst 1, 1) := by decide +kernel
theorem dX8_memoryWord_13 : decode cX8_memoryWord 13 = .ok (.if_icmp .ne 7, 3) := by decide +kernel
theorem dX8_memoryWord_16 : decode cX8_memoryWord 16 = .ok (.iload_n 3, 1) := by decide +kernel
theorem dX8_memoryWord_17 : decode cX8_memoryWord 17 = .ok (.iload_n 2, 1) := by decide +kernel
theorem dX8_memoryWord_18 : decode cX8_memoryWord 18 = .ok (.ior, 1) := by decide +kernel
theorem dX8_memoryWord_19 : decode cX8_memoryWord 19 = .ok (.istore_n 3, 1) := by decide +kernel
theorem dX8_memoryWord_20 : decode cX8_memoryWord 20 = .ok (.iload_n 1, 1) := by decide +kernel
theorem dX8_memoryWord_21 : decode cX8_memoryWord 21 = .ok (.bipush 15, 2) := by decide +kernel
theorem dX8_memoryWord_23 : decode cX8_memoryWord 23 = .ok (.ishr, 1) := by decide +kernel
theorem dX8_memoryWord_24 : decode cX8_memoryWord 24 = .ok (.iconst 1, 1) := by decide +kernel
theorem dX8_memoryWord_25 : decode cX8_memoryWord 25 = .ok (.if_icmp .ne 7, 3) := by decide +kernel
theorem dX8_memoryWord_28 : decode cX8_memoryWord 28 = .ok (.iconst 1, 1) := by decide +kernel
theorem dX8_memoryWord_29 : decode cX8_memoryWord 29 = .ok (.goto 4, 3) := by decide +kernel
theorem dX8_memoryWord_32 : decode cX8_memoryWord 32 = .ok (.iconst 0, 1) := by decide +kernel
theorem dX8_memoryWord_33 : decode cX8_memoryWord 33 = .ok (.istore 4, 2) := by decide +kernel
theorem dX8_memoryWord_35 : decode cX8_memoryWord 35 = .ok (.iload 4, 2) := by decide +kernel
theorem dX8_memoryWord_37 : decode cX8_memoryWord 37 = .ok (.ifCond .eq 12, 3) := by decide +kernel
theorem dX8_memoryWord_40 : decode cX8_memoryWord 40 = .ok (.aload_n 0, 1) := by decide +kernel
theorem dX8_memoryWord_41 : decode cX8_memoryWord 41 = .ok (.iload_n 3, 1) := by decide +kernel
theorem dX8_memoryWord_42 : decode cX8_memoryWord 42 = .ok (.ldc 143, 2) := by decide +kernel
theorem dX8_memoryWord_44 : decode cX8_memoryWord 44 = .ok (.ior, 1) := by decide +kernel
theorem dX8_memoryWord_45 : decode cX8_memoryWord 45 = .ok (.invokevirtual 144, 3) := by decide +kernel
theorem dX8_memoryWord_48 : decode cX8_memoryWord 48 = .ok (.istore_n 3, 1) := by decide +kernel
theorem dX8_memoryWord_49 : decode cX8_memoryWord 49 = .ok (.iload_n 3, 1) := by decide +kernel
theorem dX8_memoryWord_50 : decode cX8_memoryWord 50 = .ok (.iconst (-1), 1) := by decide +kernel
theorem dX8_memoryWord_51 : decode cX8_memoryWord 51 = .ok (.if_icmp .ne 4, 3) := by decide +kernel
theorem dX8_memoryWord_54 : decode cX8_memoryWord 54 = .ok (.return_, 1) := by decide +kernel
theorem dX8_memoryWord_55 : decode cX8_memoryWord 55 = .ok (.iload_n 1, 1) := by decide +kernel
theorem dX8_memoryWord_56 : decode cX8_memoryWord 56 = .ok (.bipush 11, 2) := by decide +kernel
theorem dX8_memoryWord_58 : decode cX8_memoryWord 58 = .ok (.ishr, 1) := by decide +kernel
theorem dX8_memoryWord_59 : decode cX8_memoryWord 59 = .ok (.bipush 15, 2) := by decide +kernel
theorem dX8_memoryWord_61 : decode cX8_memoryWord 61 = .ok (.iand, 1) := by decide +kernel
theorem dX8_memoryWord_62 : decode cX8_memoryWord 62 = .ok (.istore 5, 2) := by decide +kernel
theorem dX8_memoryWord_64 : decode cX8_memoryWord 64 = .ok (.iload 5, 2) := by decide +kernel
theorem dX8_memoryWord_66 : decode cX8_memoryWord 66 = .ok (.tableswitch 317 2 14 #[66, 83, 109, 126, 140, 157, 193, 213, 233, 257, 281, 293, 305], 66) := by decide +kernel
theorem dX8_memoryWord_132 : decode cX8_memoryWord 132 = .ok (.aload_n 0, 1) := by decide +kernel
theorem dX8_memoryWord_133 : decode cX8_memoryWord 133 = .ok (.dup, 1) := by decide +kernel
theorem dX8_memoryWord_134 : decode cX8_memoryWord 134 = .ok (.getfield 78, 3) := by decide +kernel
theorem dX8_memoryWord_137 : decode cX8_memoryWord 137 = .ok (.aload_n 0, 1) := by decide +kernel
theorem dX8_memoryWord_138 : decode cX8_memoryWord 138 = .ok (.iload_n 3, 1) := by decide +kernel
theorem dX8_memoryWord_139 : decode cX8_memoryWord 139 = .ok (.invokevirtual 95, 3) := by decide +kernel
theorem dX8_memoryWord_142 : decode cX8_memoryWord 142 = .ok (.iand, 1) := by decide +kernel
theorem dX8_memoryWord_143 : decode cX8_memoryWord 143 = .ok (.putfield 78, 3) := by decide +kernel
theorem dX8_memoryWord_146 : decode cX8_memoryWord 146 = .ok (.goto 246, 3) := by decide +kernel
theorem dX8_memoryWord_149 : decode cX8_memoryWord 149 = .ok (.aload_n 0, 1) := by decide +kernel
theorem dX8_memoryWord_150 : decode cX8_memoryWord 150 = .ok (.iload_n 3, 1) := by decide +kernel
theorem dX8_memoryWord_151 : decode cX8_memoryWord 151 = .ok (.aload_n 0, 1) := by decide +kernel
theorem dX8_memoryWord_152 : decode cX8_memoryWord 152 = .ok (.getfield 84, 3) := by decide +kernel
theorem dX8_memoryWord_155 : decode cX8_memoryWord 155 = .ok (.invokevirtual 98, 3) := by decide +kernel
theorem dX8_memoryWord_158 : decode cX8_memoryWord 158 = .ok (.aload_n 0, 1) := by decide +kernel
theorem dX8_memoryWord_159 : decode cX8_memoryWord 159 = .ok (.iload_n 3, 1) := by decide +kernel
theorem dX8_memoryWord_160 : decode cX8_memoryWord 160 = .ok (.invokestatic 87, 3) := by decide +kernel
theorem dX8_memoryWord_163 : decode cX8_memoryWord 163 = .ok (.putfield 84, 3) := by decide +kernel
theorem dX8_memoryWord_166 : decode cX8_memoryWord 166 = .ok (.aload_n 0, 1) := by decide +kernel
theorem dX8_memoryWord_167 : decode cX8_memoryWord 167 = .ok (.iload 4, 2) := by decide +kernel
theorem dX8_memoryWord_169 : decode cX8_memoryWord 169 = .ok (.putfield 122, 3) := by decide +kernel
theorem dX8_memoryWord_172 : decode cX8_memoryWord 172 = .ok (.goto 220, 3) := by decide +kernel
theorem dX8_memoryWord_175 : decode cX8_memoryWord 175 = .ok (.aload_n 0, 1) := by decide +kernel
theorem dX8_memoryWord_176 : decode cX8_memoryWord 176 = .ok (.dup, 1) := by decide +kernel
theorem dX8_memoryWord_177 : decode cX8_memoryWord 177 = .ok (.getfield 78, 3) := by decide +kernel
theorem dX8_memoryWord_180 : decode cX8_memoryWord 180 = .ok (.aload_n 0, 1) := by decide +kernel
theorem dX8_memoryWord_181 : decode cX8_memoryWord 181 = .ok (.iload_n 3, 1) := by decide +kernel
theorem dX8_memoryWord_182 : decode cX8_memoryWord 182 = .ok (.invokevirtual 95, 3) := by decide +kernel
theorem dX8_memoryWord_185 : decode cX8_memoryWord 185 = .ok (.ixor, 1) := by decide +kernel
theorem dX8_memoryWord_186 : decode cX8_memoryWord 186 = .ok (.putfield 78, 3) := by decide +kernel
theorem dX8_memoryWord_189 : decode cX8_memoryWord 189 = .ok (.goto 203, 3) := by decide +kernel
theorem dX8_memoryWord_192 : decode cX8_memoryWord 192 = .ok (.aload_n 0, 1) := by decide +kernel
theorem dX8_memoryWord_193 : decode cX8_memoryWord 193 = .ok (.iload_n 3, 1) := by decide +kernel
theorem dX8_memoryWord_194 : decode cX8_memoryWord 194 = .ok (.putfield 84, 3) := by decide +kernel
theorem dX8_memoryWord_197 : decode cX8_memoryWord 197 = .ok (.aload_n 0, 1) := by decide +kernel
theorem dX8_memoryWord_198 : decode cX8_memoryWord 198 = .ok (.iload 4, 2) := by decide +kernel
theorem dX8_memoryWord_200 : decode cX8_memoryWord 200 = .ok (.putfield 122, 3) := by decide +kernel
theorem dX8_memoryWord_203 : decode cX8_memoryWord 203 = .ok (.goto 189, 3) := by decide +kernel
theorem dX8_memoryWord_206 : decode cX8_memoryWord 206 = .ok (.aload_n 0, 1) := by decide +kernel
theorem dX8_memoryWord_207 : decode cX8_memoryWord 207 = .ok (.dup, 1) := by decide +kernel
theorem dX8_memoryWord_208 : decode cX8_memoryWord 208 = .ok (.getfield 78, 3) := by decide +kernel
theorem dX8_memoryWord_211 : decode cX8_memoryWord 211 = .ok (.aload_n 0, 1) := by decide +kernel
theorem dX8_memoryWord_212 : decode cX8_memoryWord 212 = .ok (.iload_n 3, 1) := by decide +kernel
theorem dX8_memoryWord_213 : decode cX8_memoryWord 213 = .ok (.invokevirtual 95, 3) := by decide +kernel
theorem dX8_memoryWord_216 : decode cX8_memoryWord 216 = .ok (.ior, 1) := by decide +kernel
theorem dX8_memoryWord_217 : decode cX8_memoryWord 217 = .ok (.putfield 78, 3) := by decide +kernel
theorem dX8_memoryWord_220 : decode cX8_memoryWord 220 = .ok (.goto 172, 3) := by decide +kernel
theorem dX8_memoryWord_223 : decode cX8_memoryWord 223 = .ok (.aload_n 0, 1) := by decide +kernel
theorem dX8_memoryWord_224 : decode cX8_memoryWord 224 = .ok (.iload_n 3, 1) := by decide +kernel
theorem dX8_memoryWord_225 : decode cX8_memoryWord 225 = .ok (.invokevirtual 95, 3) := by decide +kernel
theorem dX8_memoryWord_228 : decode cX8_memoryWord 228 = .ok (.iconst 1, 1) := by decide +kernel
theorem dX8_memoryWord_229 : decode cX8_memoryWord 229 = .ok (.iadd, 1) := by decide +kernel
theorem dX8_memoryWord_230 : decode cX8_memoryWord 230 = .ok (.ldc 102, 2) := by decide +kernel
theorem dX8_memoryWord_232 : decode cX8_memoryWord 232 = .ok (.iand, 1) := by decide +kernel
theorem dX8_memoryWord_233 : decode cX8_memoryWord 233 = .ok (.istore 6, 2) := by decide +kernel
theorem dX8_memoryWord_235 : decode cX8_memoryWord 235 = .ok (.aload_n 0, 1) := by decide +kernel
theorem dX8_memoryWord_236 : decode cX8_memoryWord 236 = .ok (.iload_n 3, 1) := by decide +kernel
theorem dX8_memoryWord_237 : decode cX8_memoryWord 237 = .ok (.iload 6, 2) := by decide +kernel
theorem dX8_memoryWord_239 : decode cX8_memoryWord 239 = .ok (.invokevirtual 98, 3) := by decide +kernel
theorem dX8_memoryWord_242 : decode cX8_memoryWord 242 = .ok (.aload_n 0, 1) := by decide +kernel
theorem dX8_memoryWord_243 : decode cX8_memoryWord 243 = .ok (.iload 6, 2) := by decide +kernel
theorem dX8_memoryWord_245 : decode cX8_memoryWord 245 = .ok (.ifCond .ne 7, 3) := by decide +kernel
theorem dX8_memoryWord_248 : decode cX8_memoryWord 248 = .ok (.iconst 1, 1) := by decide +kernel
theorem dX8_memoryWord_249 : decode cX8_memoryWord 249 = .ok (.goto 4, 3) := by decide +kernel
theorem dX8_memoryWord_252 : decode cX8_memoryWord 252 = .ok (.iconst 0, 1) := by decide +kernel
theorem dX8_memoryWord_253 : decode cX8_memoryWord 253 = .ok (.invokevirtual 147, 3) := by decide +kernel
theorem dX8_memoryWord_256 : decode cX8_memoryWord 256 = .ok (.goto 136, 3) := by decide +kernel
theorem dX8_memoryWord_259 : decode cX8_memoryWord 259 = .ok (.aload_n 0, 1) := by decide +kernel
theorem dX8_memoryWord_260 : decode cX8_memoryWord 260 = .ok (.aload_n 0, 1) := by decide +kernel
theorem dX8_memoryWord_261 : decode cX8_memoryWord 261 = .ok (.aload_n 0, 1) := by decide +kernel
theorem dX8_memoryWord_262 : decode cX8_memoryWord 262 = .ok (.getfield 78, 3) := by decide +kernel
theorem dX8_memoryWord_265 : decode cX8_memoryWord 265 = .ok (.aload_n 0, 1) := by decide +kernel
theorem dX8_memoryWord_266 : decode cX8_memoryWord 266 = .ok (.iload_n 3, 1) := by decide +kernel
theorem dX8_memoryWord_267 : decode cX8_memoryWord 267 = .ok (.invokevirtual 95, 3) := by decide +kernel
theorem dX8_memoryWord_270 : decode cX8_memoryWord 270 = .ok (.invokevirtual 151, 3) := by decide +kernel
theorem dX8_memoryWord_273 : decode cX8_memoryWord 273 = .ok (.putfield 78, 3) := by decide +kernel
theorem dX8_memoryWord_276 : decode cX8_memoryWord 276 = .ok (.goto 116, 3) := by decide +kernel
theorem dX8_memoryWord_279 : decode cX8_memoryWord 279 = .ok (.aload_n 0, 1) := by decide +kernel
theorem dX8_memoryWord_280 : decode cX8_memoryWord 280 = .ok (.aload_n 0, 1) := by decide +kernel
theorem dX8_memoryWord_281 : decode cX8_memoryWord 281 = .ok (.aload_n 0, 1) := by decide +kernel
theorem dX8_memoryWord_282 : decode cX8_memoryWord 282 = .ok (.getfield 81, 3) := by decide +kernel
theorem dX8_memoryWord_285 : decode cX8_memoryWord 285 = .ok (.aload_n 0, 1) := by decide +kernel
theorem dX8_memoryWord_286 : decode cX8_memoryWord 286 = .ok (.iload_n 3, 1) := by decide +kernel
theorem dX8_memoryWord_287 : decode cX8_memoryWord 287 = .ok (.invokevirtual 95, 3) := by decide +kernel
theorem dX8_memoryWord_290 : decode cX8_memoryWord 290 = .ok (.invokevirtual 151, 3) := by decide +kernel
theorem dX8_memoryWord_293 : decode cX8_memoryWord 293 = .ok (.putfield 81, 3) := by decide +kernel
theorem dX8_memoryWord_296 : decode cX8_memoryWord 296 = .ok (.goto 96, 3) := by decide +kernel
theorem dX8_memoryWord_299 : decode cX8_memoryWord 299 = .ok (.aload_n 0, 1) := by decide +kernel
theorem dX8_memoryWord_300 : decode cX8_memoryWord 300 = .ok (.aload_n 0, 1) := by decide +kernel
theorem dX8_memoryWord_301 : decode cX8_memoryWord 301 = .ok (.getfield 78, 3) := by decide +kernel
theorem dX8_memoryWord_304 : decode cX8_memoryWord 304 = .ok (.aload_n 0, 1) := by decide +kernel
theorem dX8_memoryWord_305 : decode cX8_memoryWord 305 = .ok (.iload_n 3, 1) := by decide +kernel
theorem dX8_memoryWord_306 : decode cX8_memoryWord 306 = .ok (.invokevirtual 95, 3) := by decide +kernel
theorem dX8_memoryWord_309 : decode cX8_memoryWord 309 = .ok (.if_icmp .eq 7, 3) := by decide +kernel
theorem dX8_memoryWord_312 : decode cX8_memoryWord 312 = .ok (.iconst 1, 1) := by decide +kernel
theorem dX8_memoryWord_313 : decode cX8_memoryWord 313 = .ok (.goto 4, 3) := by decide +kernel
theorem dX8_memoryWord_316 : decode cX8_memoryWord 316 = .ok (.iconst 0, 1) := by decide +kernel
theorem dX8_memoryWord_317 : decode cX8_memoryWord 317 = .ok (.invokevirtual 147, 3) := by decide +kernel
theorem dX8_memoryWord_320 : decode cX8_memoryWord 320 = .ok (.goto 72, 3) := by decide +kernel
theorem dX8_memoryWord_323 : decode cX8_memoryWord 323 = .ok (.aload_n 0, 1) := by decide +kernel
theorem dX8_memoryWord_324 : decode cX8_memoryWord 324 = .ok (.aload_n 0, 1) := by decide +kernel
theorem dX8_memoryWord_325 : decode cX8_memoryWord 325 = .ok (.getfield 81, 3) := by decide +kernel
theorem dX8_memoryWord_328 : decode cX8_memoryWord 328 = .ok (.aload_n 0, 1) := by decide +kernel
theorem dX8_memoryWord_329 : decode cX8_memoryWord 329 = .ok (.iload_n 3, 1) := by decide +kernel
theorem dX8_memoryWord_330 : decode cX8_memoryWord 330 = .ok (.invokevirtual 95, 3) := by decide +kernel
theorem dX8_memoryWord_333 : decode cX8_memoryWord 333 = .ok (.if_icmp .eq 7, 3) := by decide +kernel
theorem dX8_memoryWord_336 : decode cX8_memoryWord 336 = .ok (.iconst 1, 1) := by decide +kernel
theorem dX8_memoryWord_337 : decode cX8_memoryWord 337 = .ok (.goto 4, 3) := by decide +kernel
theorem dX8_memoryWord_340 : decode cX8_memoryWord 340 = .ok (.iconst 0, 1) := by decide +kernel
theorem dX8_memoryWord_341 : decode cX8_memoryWord 341 = .ok (.invokevirtual 147, 3) := by decide +kernel
theorem dX8_memoryWord_344 : decode cX8_memoryWord 344 = .ok (.goto 48, 3) := by decide +kernel
theorem dX8_memoryWord_347 : decode cX8_memoryWord 347 = .ok (.aload_n 0, 1) := by decide +kernel
theorem dX8_memoryWord_348 : decode cX8_memoryWord 348 = .ok (.aload_n 0, 1) := by decide +kernel
theorem dX8_memoryWord_349 : decode cX8_memoryWord 349 = .ok (.iload_n 3, 1) := by decide +kernel
theorem dX8_memoryWord_350 : decode cX8_memoryWord 350 = .ok (.invokevirtual 95, 3) := by decide +kernel
theorem dX8_memoryWord_353 : decode cX8_memoryWord 353 = .ok (.putfield 78, 3) := by decide +kernel
theorem dX8_memoryWord_356 : decode cX8_memoryWord 356 = .ok (.goto 36, 3) := by decide +kernel
theorem dX8_memoryWord_359 : decode cX8_memoryWord 359 = .ok (.aload_n 0, 1) := by decide +kernel
theorem dX8_memoryWord_360 : decode cX8_memoryWord 360 = .ok (.aload_n 0, 1) := by decide +kernel
theorem dX8_memoryWord_361 : decode cX8_memoryWord 361 = .ok (.iload_n 3, 1) := by decide +kernel
theorem dX8_memoryWord_362 : decode cX8_memoryWord 362 = .ok (.invokevirtual 95, 3) := by decide +kernel
theorem dX8_memoryWord_365 : decode cX8_memoryWord 365 = .ok (.putfield 81, 3) := by decide +kernel
theorem dX8_memoryWord_368 : decode cX8_memoryWord 368 = .ok (.goto 24, 3) := by decide +kernel
theorem dX8_memoryWord_371 : decode cX8_memoryWord 371 = .ok (.aload_n 0, 1) := by decide +kernel
theorem dX8_memoryWord_372 : decode cX8_memoryWord 372 = .ok (.iload_n 3, 1) := by decide +kernel
theorem dX8_memoryWord_373 : decode cX8_memoryWord 373 = .ok (.aload_n 0, 1) := by decide +kernel
theorem dX8_memoryWord_374 : decode cX8_memoryWord 374 = .ok (.getfield 78, 3) := by decide +kernel
theorem dX8_memoryWord_377 : decode cX8_memoryWord 377 = .ok (.invokevirtual 98, 3) := by decide +kernel
theorem dX8_memoryWord_380 : decode cX8_memoryWord 380 = .ok (.goto 12, 3) := by decide +kernel
theorem dX8_memoryWord_383 : decode cX8_memoryWord 383 = .ok (.aload_n 0, 1) := by decide +kernel
theorem dX8_memoryWord_384 : decode cX8_memoryWord 384 = .ok (.iload_n 3, 1) := by decide +kernel
theorem dX8_memoryWord_385 : decode cX8_memoryWord 385 = .ok (.aload_n 0, 1) := by decide +kernel
theorem dX8_memoryWord_386 : decode cX8_memoryWord 386 = .ok (.getfield 81, 3) := by decide +kernel
theorem dX8_memoryWord_389 : decode cX8_memoryWord 389 = .ok (.invokevirtual 98, 3) := by decide +kernel
theorem dX8_memoryWord_392 : decode cX8_memoryWord 392 = .ok (.return_, 1) := by decide +kernel
theorem dX8_signed_0 : decode cX8_signed 0 = .ok (.iload_n 0, 1) := by decide +kernel
theorem dX8_signed_1 : decode cX8_signed 1 = .ok (.sipush 32767, 3) := by decide +kernel
theorem dX8_signed_4 : decode cX8_signed 4 = .ok (.if_icmp .le 10, 3) := by decide +kernel
theorem dX8_signed_7 : decode cX8_signed 7 = .ok (.iload_n 0, 1) := by decide +kernel
theorem dX8_signed_8 : decode cX8_signed 8 = .ok (.ldc 155, 2) := by decide +kernel
theorem dX8_signed_10 : decode cX8_signed 10 = .ok (.isub, 1) := by decide +kernel
theorem dX8_signed_11 : decode cX8_signed 11 = .ok (.goto 4, 3) := by decide +kernel
theorem dX8_signed_14 : decode cX8_signed 14 = .ok (.iload_n 0, 1) := by decide +kernel
theorem dX8_signed_15 : decode cX8_signed 15 = .ok (.ireturn, 1) := by decide +kernel
set_option maxRecDepth 20000 in
theorem ggX8_sum_X8_signed : GoodIn wsX8_sum wsX8_signed := goodIn_r _ [7, 8] (by decide +kernel) (by decide +kernel)
set_option maxRecDepth 20000 in
theorem gX8_sum_X8_signed : GoodIn wsX8_sum (va_wsS RX8 156 yX8_signed wsX8_signed) := goodIn_app (goodIn_of _ (by decide +kernel)) ggX8_sum_X8_signed
theorem dX8_sum_0 : decode cX8_sum 0 = .ok (.iload_n 1, 1) := by decide +kernel
theorem dX8_sum_1 : decode cX8_sum 1 = .ok (.invokestatic 156, 3) := by decide +kernel
theorem dX8_sum_4 : decode cX8_sum 4 = .ok (.iload_n 2, 1) := by decide +kernel
theorem dX8_sum_5 : decode cX8_sum 5 = .ok (.invokestatic 156, 3) := by decide +kernel
theorem dX8_sum_8 : decode cX8_sum 8 = .ok (.iadd, 1) := by decide +kernel
theorem dX8_sum_9 : decode cX8_sum 9 = .ok (.istore_n 3, 1) := by decide +kernel
theorem dX8_sum_10 : decode cX8_sum 10 = .ok (.iload_n 3, 1) := by decide +kernel
theorem dX8_sum_11 : decode cX8_sum 11 = .ok (.sipush (-32768), 3) := by decide +kernel
theorem dX8_sum_14 : decode cX8_sum 14 = .ok (.if_icmp .lt 10, 3) := by decide +kernel
theorem dX8_sum_17 : decode cX8_sum 17 = .ok (.iload_n 3, 1) := by decide +kernel
theorem dX8_sum_18 : decode cX8_sum 18 = .ok (.sipush 32767, 3) := by decide +kernel
theorem dX8_sum_21 : decode cX8_sum 21 = .ok (.if_icmp .le 8, 3) := by decide +kernel
theorem dX8_sum_24 : decode cX8_sum 24 = .ok (.aload_n 0, 1) := by decide +kernel
theorem dX8_sum_25 : decode cX8_sum 25 = .ok (.iconst 1, 1) := by decide +kernel
theorem dX8_sum_26 : decode cX8_sum 26 = .ok (.putfield 159, 3) := by decide +kernel
theorem dX8_sum_29 : decode cX8_sum 29 = .ok (.iload_n 1, 1) := by decide +kernel
theorem dX8_sum_30 : decode cX8_sum 30 = .ok (.iload_n 2, 1) := by decide +kernel
theorem dX8_sum_31 : decode cX8_sum 31 = .ok (.iadd, 1) := by decide +kernel
theorem dX8_sum_32 : decode cX8_sum 32 = .ok (.ldc 102, 2) := by decide +kernel
theorem dX8_sum_34 : decode cX8_sum 34 = .ok (.if_icmp .le 8, 3) := by decide +kernel
theorem dX8_sum_37 : decode cX8_sum 37 = .ok (.aload_n 0, 1) := by decide +kernel
theorem dX8_sum_38 : decode cX8_sum 38 = .ok (.iconst 1, 1) := by decide +kernel
theorem dX8_sum_39 : decode cX8_sum 39 = .ok (.putfield 162, 3) := by decide +kernel
theorem dX8_sum_42 : decode cX8_sum 42 = .ok (.iload_n 1, 1) := by decide +kernel
theorem dX8_sum_43 : decode cX8_sum 43 = .ok (.iload_n 2, 1) := by decide +kernel
theorem dX8_sum_44 : decode cX8_sum 44 = .ok (.iadd, 1) := by decide +kernel
theorem dX8_sum_45 : decode cX8_sum 45 = .ok (.ldc 102, 2) := by decide +kernel
theorem dX8_sum_47 : decode cX8_sum 47 = .ok (.iand, 1) := by decide +kernel
theorem dX8_sum_48 : decode cX8_sum 48 = .ok (.ireturn, 1) := by decide +kernel
theorem dX8_shifted_0 : decode cX8_shifted 0 = .ok (.iload_n 2, 1) := by decide +kernel
theorem dX8_shifted_1 : decode cX8_shifted 1 = .ok (.tableswitch 139 0 6 #[43, 56, 65, 77, 88, 96, 117], 43) := by decide +kernel
theorem dX8_shifted_44 : decode cX8_shifted 44 = .ok (.iload_n 1, 1) := by decide +kernel
theorem dX8_shifted_45 : decode cX8_shifted 45 = .ok (.ldc 143, 2) := by decide +kernel
theorem dX8_shifted_47 : decode cX8_shifted 47 = .ok (.iand, 1) := by decide +kernel
theorem dX8_shifted_48 : decode cX8_shifted 48 = .ok (.iload_n 1, 1) := by decide +kernel
theorem dX8_shifted_49 : decode cX8_shifted 49 = .ok (.iconst 1, 1) := by decide +kernel
theorem dX8_shifted_50 : decode cX8_shifted 50 = .ok (.ishl, 1) := by decide +kernel
theorem dX8_shifted_51 : decode cX8_shifted 51 = .ok (.sipush 32767, 3) := by decide +kernel
theorem dX8_shifted_54 : decode cX8_shifted 54 = .ok (.iand, 1) := by decide +kernel
theorem dX8_shifted_55 : decode cX8_shifted 55 = .ok (.ior, 1) := by decide +kernel
theorem dX8_shifted_56 : decode cX8_shifted 56 = .ok (.ireturn, 1) := by decide +kernel
theorem dX8_shifted_57 : decode cX8_shifted 57 = .ok (.iload_n 1, 1) := by decide +kernel
theorem dX8_shifted_58 : decode cX8_shifted 58 = .ok (.ldc 143, 2) := by decide +kernel
theorem dX8_shifted_60 : decode cX8_shifted 60 = .ok (.iand, 1) := by decide +kernel
theorem dX8_shifted_61 : decode cX8_shifted 61 = .ok (.iload_n 1, 1) := by decide +kernel
theorem dX8_shifted_62 : decode cX8_shifted 62 = .ok (.iconst 1, 1) := by decide +kernel
theorem dX8_shifted_63 : decode cX8_shifted 63 = .ok (.ishr, 1) := by decide +kernel
theorem dX8_shifted_64 : decode cX8_shifted 64 = .ok (.ior, 1) := by decide +kernel
theorem dX8_shifted_65 : decode cX8_shifted 65 = .ok (.ireturn, 1) := by decide +kernel
theorem dX8_shifted_66 : decode cX8_shifted 66 = .ok (.iload_n 1, 1) := by decide +kernel
theorem dX8_shifted_67 : decode cX8_shifted 67 = .ok (.iconst 1, 1) := by decide +kernel
theorem dX8_shifted_68 : decode cX8_shifted 68 = .ok (.ishl, 1) := by decide +kernel
theorem dX8_shifted_69 : decode cX8_shifted 69 = .ok (.ldc 102, 2) := by decide +kernel
theorem dX8_shifted_71 : decode cX8_shifted 71 = .ok (.iand, 1) := by decide +kernel
theorem dX8_shifted_72 : decode cX8_shifted 72 = .ok (.iload_n 1, 1) := by decide +kernel
theorem dX8_shifted_73 : decode cX8_shifted 73 = .ok (.bipush 15, 2) := by decide +kernel
theorem dX8_shifted_75 : decode cX8_shifted 75 = .ok (.ishr, 1) := by decide +kernel
theorem dX8_shifted_76 : decode cX8_shifted 76 = .ok (.ior, 1) := by decide +kernel
theorem dX8_shifted_77 : decode cX8_shifted 77 = .ok (.ireturn, 1) := by decide +kernel
theorem dX8_shifted_78 : decode cX8_shifted 78 = .ok (.iload_n 1, 1) := by decide +kernel
theorem dX8_shifted_79 : decode cX8_shifted 79 = .ok (.iconst 1, 1) := by decide +kernel
theorem dX8_shifted_80 : decode cX8_shifted 80 = .ok (.ishr, 1) := by decide +kernel
theorem dX8_shifted_81 : decode cX8_shifted 81 = .ok (.iload_n 1, 1) := by decide +kernel
theorem dX8_shifted_82 : decode cX8_shifted 82 = .ok (.iconst 1, 1) := by decide +kernel
theorem dX8_shifted_83 : decode cX8_shifted 83 = .ok (.iand, 1) := by decide +kernel
theorem dX8_shifted_84 : decode cX8_shifted 84 = .ok (.bipush 15, 2) := by decide +kernel
theorem dX8_shifted_86 : decode cX8_shifted 86 = .ok (.ishl, 1) := by decide +kernel
theorem dX8_shifted_87 : decode cX8_shifted 87 = .ok (.ior, 1) := by decide +kernel
theorem dX8_shifted_88 : decode cX8_shifted 88 = .ok (.ireturn, 1) := by decide +kernel
theorem dX8_shifted_89 : decode cX8_shifted 89 = .ok (.iload_n 1, 1) := by decide +kernel
theorem dX8_shifted_90 : decode cX8_shifted 90 = .ok (.iconst 1, 1) := by decide +kernel
theorem dX8_shifted_91 : decode cX8_shifted 91 = .ok (.ishl, 1) := by decide +kernel
theorem dX8_shifted_92 : decode cX8_shifted 92 = .ok (.sipush 32767, 3) := by decide +kernel
theorem dX8_shifted_95 : decode cX8_shifted 95 = .ok (.iand, 1) := by decide +kernel
theorem dX8_shifted_96 : decode cX8_shifted 96 = .ok (.ireturn, 1) := by decide +kernel
theorem dX8_shifted_97 : decode cX8_shifted 97 = .ok (.iload_n 1, 1) := by decide +kernel
theorem dX8_shifted_98 : decode cX8_shifted 98 = .ok (.iconst 1, 1) := by decide +kernel
theorem dX8_shifted_99 : decode cX8_shifted 99 = .ok (.ishr, 1) := by decide +kernel
theorem dX8_shifted_100 : decode cX8_shifted 100 = .ok (.aload_n 0, 1) := by decide +kernel
theorem dX8_shifted_101 : decode cX8_shifted 101 = .ok (.getfield 162, 3) := by decide +kernel
theorem dX8_shifted_104 : decode cX8_shifted 104 = .ok (.bipush 15, 2) := by decide +kernel
theorem dX8_shifted_106 : decode cX8_shifted 106 = .ok (.ishl, 1) := by decide +kernel
theorem dX8_shifted_107 : decode cX8_shifted 107 = .ok (.ior, 1) := by decide +kernel
theorem dX8_shifted_108 : decode cX8_shifted 108 = .ok (.istore_n 3, 1) := by decide +kernel
theorem dX8_shifted_109 : decode cX8_shifted 109 = .ok (.aload_n 0, 1) := by decide +kernel
theorem dX8_shifted_110 : decode cX8_shifted 110 = .ok (.iload_n 1, 1) := by decide +kernel
theorem dX8_shifted_111 : decode cX8_shifted 111 = .ok (.iconst 1, 1) := by decide +kernel
theorem dX8_shifted_112 : decode cX8_shifted 112 = .ok (.iand, 1) := by decide +kernel
theorem dX8_shifted_113 : decode cX8_shifted 113 = .ok (.putfield 162, 3) := by decide +kernel
theorem dX8_shifted_116 : decode cX8_shifted 116 = .ok (.iload_n 3, 1) := by decide +kernel
theorem dX8_shifted_117 : decode cX8_shifted 117 = .ok (.ireturn, 1) := by decide +kernel
theorem dX8_shifted_118 : decode cX8_shifted 118 = .ok (.iload_n 1, 1) := by decide +kernel
theorem dX8_shifted_119 : decode cX8_shifted 119 = .ok (.iconst 1, 1) := by decide +kernel
theorem dX8_shifted_120 : decode cX8_shifted 120 = .ok (.ishl, 1) := by decide +kernel
theorem dX8_shifted_121 : decode cX8_shifted 121 = .ok (.ldc 102, 2) := by decide +kernel
theorem dX8_shifted_123 : decode cX8_shifted 123 = .ok (.iand, 1) := by decide +kernel
theorem dX8_shifted_124 : decode cX8_shifted 124 = .ok (.aload_n 0, 1) := by decide +kernel
theorem dX8_shifted_125 : decode cX8_shifted 125 = .ok (.getfield 162, 3) := by decide +kernel
theorem dX8_shifted_128 : decode cX8_shifted 128 = .ok (.ior, 1) := by decide +kernel
theorem dX8_shifted_129 : decode cX8_shifted 129 = .ok (.istore_n 3, 1) := by decide +kernel
theorem dX8_shifted_130 : decode cX8_shifted 130 = .ok (.aload_n 0, 1) := by decide +kernel
theorem dX8_shifted_131 : decode cX8_shifted 131 = .ok (.iload_n 1, 1) := by decide +kernel
theorem dX8_shifted_132 : decode cX8_shifted 132 = .ok (.bipush 15, 2) := by decide +kernel
theorem dX8_shifted_134 : decode cX8_shifted 134 = .ok (.ishr, 1) := by decide +kernel
theorem dX8_shifted_135 : decode cX8_shifted 135 = .ok (.putfield 162, 3) := by decide +kernel
theorem dX8_shifted_138 : decode cX8_shifted 138 = .ok (.iload_n 3, 1) := by decide +kernel
theorem dX8_shifted_139 : decode cX8_shifted 139 = .ok (.ireturn, 1) := by decide +kernel
theorem dX8_shifted_140 : decode cX8_shifted 140 = .ok (.iload_n 1, 1) := by decide +kernel
theorem dX8_shifted_141 : decode cX8_shifted 141 = .ok (.iconst 4, 1) := by decide +kernel
theorem dX8_shifted_142 : decode cX8_shifted 142 = .ok (.ishl, 1) := by decide +kernel
theorem dX8_shifted_143 : decode cX8_shifted 143 = .ok (.ldc 102, 2) := by decide +kernel
theorem dX8_shifted_145 : decode cX8_shifted 145 = .ok (.iand, 1) := by decide +kernel
theorem dX8_shifted_146 : decode cX8_shifted 146 = .ok (.iload_n 1, 1) := by decide +kernel
theorem dX8_shifted_147 : decode cX8_shifted 147 = .ok (.bipush 12, 2) := by decide +kernel
theorem dX8_shifted_149 : decode cX8_shifted 149 = .ok (.ishr, 1) := by decide +kernel
theorem dX8_shifted_150 : decode cX8_shifted 150 = .ok (.ior, 1) := by decide +kernel
theorem dX8_shifted_151 : decode cX8_shifted 151 = .ok (.ireturn, 1) := by decide +kernel
theorem dX8_is_0 : decode cX8_is 0 = .ok (.iload_n 0, 1) := by decide +kernel
theorem dX8_is_1 : decode cX8_is 1 = .ok (.iload_n 1, 1) := by decide +kernel
theorem dX8_is_2 : decode cX8_is 2 = .ok (.ishr, 1) := by decide +kernel
theorem dX8_is_3 : decode cX8_is 3 = .ok (.iconst 1, 1) := by decide +kernel
theorem dX8_is_4 : decode cX8_is 4 = .ok (.iand, 1) := by decide +kernel
theorem dX8_is_5 : decode cX8_is 5 = .ok (.iconst 1, 1) := by decide +kernel
theorem dX8_is_6 : decode cX8_is 6 = .ok (.if_icmp .ne 7, 3) := by decide +kernel
theorem dX8_is_9 : decode cX8_is 9 = .ok (.iconst 1, 1) := by decide +kernel
theorem dX8_is_10 : decode cX8_is 10 = .ok (.goto 4, 3) := by decide +kernel
theorem dX8_is_13 : decode cX8_is 13 = .ok (.iconst 0, 1) := by decide +kernel
theorem dX8_is_14 : decode cX8_is 14 = .ok (.ireturn, 1) := by decide +kernel
set_option maxRecDepth 20000 in
theorem ggX8_registers_X8_is : GoodIn wsX8_registers wsX8_is := goodIn_r _ [7] (by decide +kernel) (by decide +kernel)
set_option maxRecDepth 20000 in
theorem gX8_registers_X8_is : GoodIn wsX8_registers (va_wsS RX8 165 yX8_is wsX8_is) := goodIn_app (goodIn_of _ (by decide +kernel)) ggX8_registers_X8_is
set_option maxRecDepth 20000 in
theorem ggX8_registers_X8_altered : GoodIn wsX8_registers wsX8_altered := goodIn_r _ [11, 12, 3, 13, 4, 5, 6, 7, 14, 15, 16, 17, 18, 19, 20, 21, 27, 28, 29, 30, 31, 32, 33, 34, 35, 36, 37, 38, 39, 40, 41, 42, 43, 44, 45, 46, 47, 48, 49, 50, 51, 52, 53, 54, 55, 56, 57, 58, 59, 60, 61] (by decide +kernel) (by decide +kernel)
set_option maxRecDepth 20000 in
theorem gX8_registers_X8_altered : GoodIn wsX8_registers (wsV RX8 169 RX8 yX8_altered wsX8_altered) := goodIn_app (goodIn_of _ (by decide +kernel)) ggX8_registers_X8_altered
set_option maxRecDepth 20000 in
theorem ggX8_registers_X8_shifted : GoodIn wsX8_registers wsX8_shifted := goodIn_r _ [25, 26, 12, 3, 27, 28, 29, 30, 31, 32, 33, 34, 35, 36, 37, 38, 39, 40, 41, 42, 43, 44, 45, 46, 47, 48, 49, 50, 51, 52, 53, 54, 55, 56, 57, 58, 59, 60, 61] (by decide +kernel) (by decide +kernel)
set_option maxRecDepth 20000 in
theorem gX8_registers_X8_shifted : GoodIn wsX8_registers (wsV RX8 172 RX8 yX8_shifted wsX8_shifted) := goodIn_app (goodIn_of _ (by decide +kernel)) ggX8_registers_X8_shifted
set_option maxRecDepth 20000 in
theorem ggX8_registers_X8_skip : GoodIn wsX8_registers wsX8_skip := goodIn_r _ [17, 18, 19, 20, 6, 21, 27, 28, 29, 30, 31, 32, 33, 34, 35, 36, 37, 38, 39, 40, 41, 42, 43, 44, 45, 46, 47, 48, 49, 50, 51, 52, 53, 54, 55, 56, 57, 58, 59, 60, 61] (by decide +kernel) (by decide +kernel)
set_option maxRecDepth 20000 in
theorem gX8_registers_X8_skip : GoodIn wsX8_registers (wsV RX8 147 RX8 yX8_skip wsX8_skip) := goodIn_app (goodIn_of _ (by decide +kernel)) ggX8_registers_X8_skip
theorem dX8_registers_0 : decode cX8_registers 0 = .ok (.iload_n 1, 1) := by decide +kernel
theorem dX8_registers_1 : decode cX8_registers 1 = .ok (.bipush 11, 2) := by decide +kernel
theorem dX8_registers_3 : decode cX8_registers 3 = .ok (.invokestatic 165, 3) := by decide +kernel
theorem dX8_registers_6 : decode cX8_registers 6 = .ok (.istore_n 2, 1) := by decide +kernel
theorem dX8_registers_7 : decode cX8_registers 7 = .ok (.iload_n 2, 1) := by decide +kernel
theorem dX8_registers_8 : decode cX8_registers 8 = .ok (.ifCond .eq 10, 3) := by decide +kernel
theorem dX8_registers_11 : decode cX8_registers 11 = .ok (.aload_n 0, 1) := by decide +kernel
theorem dX8_registers_12 : decode cX8_registers 12 = .ok (.getfield 81, 3) := by decide +kernel
theorem dX8_registers_15 : decode cX8_registers 15 = .ok (.goto 7, 3) := by decide +kernel
theorem dX8_registers_18 : decode cX8_registers 18 = .ok (.aload_n 0, 1) := by decide +kernel
theorem dX8_registers_19 : decode cX8_registers 19 = .ok (.getfield 78, 3) := by decide +kernel
theorem dX8_registers_22 : decode cX8_registers 22 = .ok (.istore_n 3, 1) := by decide +kernel
theorem dX8_registers_23 : decode cX8_registers 23 = .ok (.iload_n 1, 1) := by decide +kernel
theorem dX8_registers_24 : decode cX8_registers 24 = .ok (.bipush 10, 2) := by decide +kernel
theorem dX8_registers_26 : decode cX8_registers 26 = .ok (.invokestatic 165, 3) := by decide +kernel
theorem dX8_registers_29 : decode cX8_registers 29 = .ok (.ifCond .eq 13, 3) := by decide +kernel
theorem dX8_registers_32 : decode cX8_registers 32 = .ok (.aload_n 0, 1) := by decide +kernel
theorem dX8_registers_33 : decode cX8_registers 33 = .ok (.iload_n 1, 1) := by decide +kernel
theorem dX8_registers_34 : decode cX8_registers 34 = .ok (.iload_n 3, 1) := by decide +kernel
theorem dX8_registers_35 : decode cX8_registers 35 = .ok (.invokevirtual 169, 3) := by decide +kernel
theorem dX8_registers_38 : decode cX8_registers 38 = .ok (.istore_n 3, 1) := by decide +kernel
theorem dX8_registers_39 : decode cX8_registers 39 = .ok (.goto 79, 3) := by decide +kernel
theorem dX8_registers_42 : decode cX8_registers 42 = .ok (.iload_n 1, 1) := by decide +kernel
theorem dX8_registers_43 : decode cX8_registers 43 = .ok (.bipush 9, 2) := by decide +kernel
theorem dX8_registers_45 : decode cX8_registers 45 = .ok (.invokestatic 165, 3) := by decide +kernel
theorem dX8_registers_48 : decode cX8_registers 48 = .ok (.ifCond .eq 16, 3) := by decide +kernel
theorem dX8_registers_51 : decode cX8_registers 51 = .ok (.aload_n 0, 1) := by decide +kernel
theorem dX8_registers_52 : decode cX8_registers 52 = .ok (.iload_n 3, 1) := by decide +kernel
theorem dX8_registers_53 : decode cX8_registers 53 = .ok (.iload_n 1, 1) := by decide +kernel
theorem dX8_registers_54 : decode cX8_registers 54 = .ok (.bipush 6, 2) := by decide +kernel
theorem dX8_registers_56 : decode cX8_registers 56 = .ok (.ishr, 1) := by decide +kernel
theorem dX8_registers_57 : decode cX8_registers 57 = .ok (.bipush 7, 2) := by decide +kernel
theorem dX8_registers_59 : decode cX8_registers 59 = .ok (.iand, 1) := by decide +kernel
theorem dX8_registers_60 : decode cX8_registers 60 = .ok (.invokevirtual 172, 3) := by decide +kernel
theorem dX8_registers_63 : decode cX8_registers 63 = .ok (.istore_n 3, 1) := by decide +kernel
theorem dX8_registers_64 : decode cX8_registers 64 = .ok (.iload_n 1, 1) := by decide +kernel
theorem dX8_registers_65 : decode cX8_registers 65 = .ok (.iconst 5, 1) := by decide +kernel
theorem dX8_registers_66 : decode cX8_registers 66 = .ok (.invokestatic 165, 3) := by decide +kernel
theorem dX8_registers_69 : decode cX8_registers 69 = .ok (.ifCond .eq 8, 3) := by decide +kernel
theorem dX8_registers_72 : decode cX8_registers 72 = .ok (.aload_n 0, 1) := by decide +kernel
theorem dX8_registers_73 : decode cX8_registers 73 = .ok (.iconst 0, 1) := by decide +kernel
theorem dX8_registers_74 : decode cX8_registers 74 = .ok (.putfield 162, 3) := by decide +kernel
theorem dX8_registers_77 : decode cX8_registers 77 = .ok (.aload_n 0, 1) := by decide +kernel
theorem dX8_registers_78 : decode cX8_registers 78 = .ok (.iload_n 1, 1) := by decide +kernel
theorem dX8_registers_79 : decode cX8_registers 79 = .ok (.iconst 3, 1) := by decide +kernel
theorem dX8_registers_80 : decode cX8_registers 80 = .ok (.invokestatic 165, 3) := by decide +kernel
theorem dX8_registers_83 : decode cX8_registers 83 = .ok (.ifCond .eq 13, 3) := by decide +kernel
theorem dX8_registers_86 : decode cX8_registers 86 = .ok (.iload_n 3, 1) := by decide +kernel
theorem dX8_registers_87 : decode cX8_registers 87 = .ok (.iconst 1, 1) := by decide +kernel
theorem dX8_registers_88 : decode cX8_registers 88 = .ok (.iand, 1) := by decide +kernel
theorem dX8_registers_89 : decode cX8_registers 89 = .ok (.ifCond .ne 7, 3) := by decide +kernel
theorem dX8_registers_92 : decode cX8_registers 92 = .ok (.iconst 1, 1) := by decide +kernel
theorem dX8_registers_93 : decode cX8_registers 93 = .ok (.goto 4, 3) := by decide +kernel
theorem dX8_registers_96 : decode cX8_registers 96 = .ok (.iconst 0, 1) := by decide +kernel
theorem dX8_registers_97 : decode cX8_registers 97 = .ok (.invokevirtual 147, 3) := by decide +kernel
theorem dX8_registers_100 : decode cX8_registers 100 = .ok (.iload_n 1, 1) := by decide +kernel
theorem dX8_registers_101 : decode cX8_registers 101 = .ok (.iconst 4, 1) := by decide +kernel
theorem dX8_registers_102 : decode cX8_registers 102 = .ok (.invokestatic 165, 3) := by decide +kernel
theorem dX8_registers_105 : decode cX8_registers 105 = .ok (.ifCond .eq 13, 3) := by decide +kernel
theorem dX8_registers_108 : decode cX8_registers 108 = .ok (.aload_n 0, 1) := by decide +kernel
theorem dX8_registers_109 : decode cX8_registers 109 = .ok (.iload_n 3, 1) := by decide +kernel
theorem dX8_registers_110 : decode cX8_registers 110 = .ok (.iload_n 1, 1) := by decide +kernel
theorem dX8_registers_111 : decode cX8_registers 111 = .ok (.bipush 7, 2) := by decide +kernel
theorem dX8_registers_113 : decode cX8_registers 113 = .ok (.iand, 1) := by decide +kernel
theorem dX8_registers_114 : decode cX8_registers 114 = .ok (.invokevirtual 172, 3) := by decide +kernel
theorem dX8_registers_117 : decode cX8_registers 117 = .ok (.istore_n 3, 1) := by decide +kernel
theorem dX8_registers_118 : decode cX8_registers 118 = .ok (.iload_n 2, 1) := by decide +kernel
theorem dX8_registers_119 : decode cX8_registers 119 = .ok (.ifCond .eq 11, 3) := by decide +kernel
theorem dX8_registers_122 : decode cX8_registers 122 = .ok (.aload_n 0, 1) := by decide +kernel
theorem dX8_registers_123 : decode cX8_registers 123 = .ok (.iload_n 3, 1) := by decide +kernel
theorem dX8_registers_124 : decode cX8_registers 124 = .ok (.putfield 81, 3) := by decide +kernel
theorem dX8_registers_127 : decode cX8_registers 127 = .ok (.goto 8, 3) := by decide +kernel
theorem dX8_registers_130 : decode cX8_registers 130 = .ok (.aload_n 0, 1) := by decide +kernel
theorem dX8_registers_131 : decode cX8_registers 131 = .ok (.iload_n 3, 1) := by decide +kernel
theorem dX8_registers_132 : decode cX8_registers 132 = .ok (.putfield 78, 3) := by decide +kernel
theorem dX8_registers_135 : decode cX8_registers 135 = .ok (.return_, 1) := by decide +kernel
set_option maxRecDepth 20000 in
theorem ggX8_altered_X8_is : GoodIn wsX8_altered wsX8_is := goodIn_r _ [7] (by decide +kernel) (by decide +kernel)
set_option maxRecDepth 20000 in
theorem gX8_altered_X8_is : GoodIn wsX8_altered (va_wsS RX8 165 yX8_is wsX8_is) := goodIn_app (goodIn_of _ (by decide +kernel)) ggX8_altered_X8_is
set_option maxRecDepth 20000 in
theorem ggX8_altered_X8_skip : GoodIn wsX8_altered wsX8_skip := goodIn_r _ [11, 12, 13, 14, 6, 15, 16, 17, 18, 19, 20, 21, 22, 23, 24, 25, 26, 27, 28, 29, 30, 31, 32, 33, 34, 35, 36, 37, 38, 39, 40, 41, 42, 43, 44, 45, 46, 47, 48, 49, 50] (by decide +kernel) (by decide +kernel)
set_option maxRecDepth 20000 in
theorem gX8_altered_X8_skip : GoodIn wsX8_altered (wsV RX8 147 RX8 yX8_skip wsX8_skip) := goodIn_app (goodIn_of _ (by decide +kernel)) ggX8_altered_X8_skip
theorem dX8_altered_0 : decode cX8_altered 0 = .ok (.iload_n 2, 1) := by decide +kernel
theorem dX8_altered_1 : decode cX8_altered 1 = .ok (.istore_n 3, 1) := by decide +kernel
theorem dX8_altered_2 : decode cX8_altered 2 = .ok (.iload_n 1, 1) := by decide +kernel
theorem dX8_altered_3 : decode cX8_altered 3 = .ok (.bipush 8, 2) := by decide +kernel
theorem dX8_altered_5 : decode cX8_altered 5 = .ok (.ishr, 1) := by decide +kernel
theorem dX8_altered_6 : decode cX8_altered 6 = .ok (.iconst 3, 1) := by decide +kernel
theorem dX8_altered_7 : decode cX8_altered 7 = .ok (.iand, 1) := by decide +kernel
theorem dX8_altered_8 : decode cX8_altered 8 = .ok (.istore 4, 2) := by decide +kernel
theorem dX8_altered_10 : decode cX8_altered 10 = .ok (.iload 4, 2) := by decide +kernel
theorem dX8_altered_12 : decode cX8_altered 12 = .ok (.iconst 1, 1) := by decide +kernel
theorem dX8_altered_13 : decode cX8_altered 13 = .ok (.if_icmp .eq 9, 3) := by decide +kernel
theorem dX8_altered_16 : decode cX8_altered 16 = .ok (.iload 4, 2) := by decide +kernel
theorem dX8_altered_18 : decode cX8_altered 18 = .ok (.iconst 3, 1) := by decide +kernel
theorem dX8_altered_19 : decode cX8_altered 19 = .ok (.if_icmp .ne 5, 3) := by decide +kernel
theorem dX8_altered_22 : decode cX8_altered 22 = .ok (.iconst 0, 1) := by decide +kernel
theorem dX8_altered_23 : decode cX8_altered 23 = .ok (.istore_n 3, 1) := by decide +kernel
theorem dX8_altered_24 : decode cX8_altered 24 = .ok (.iload 4, 2) := by decide +kernel
theorem dX8_altered_26 : decode cX8_altered 26 = .ok (.iconst 1, 1) := by decide +kernel
theorem dX8_altered_27 : decode cX8_altered 27 = .ok (.if_icmp .le 10, 3) := by decide +kernel
theorem dX8_altered_30 : decode cX8_altered 30 = .ok (.iload_n 3, 1) := by decide +kernel
theorem dX8_altered_31 : decode cX8_altered 31 = .ok (.iconst (-1), 1) := by decide +kernel
theorem dX8_altered_32 : decode cX8_altered 32 = .ok (.ixor, 1) := by decide +kernel
theorem dX8_altered_33 : decode cX8_altered 33 = .ok (.ldc 102, 2) := by decide +kernel
theorem dX8_altered_35 : decode cX8_altered 35 = .ok (.iand, 1) := by decide +kernel
theorem dX8_altered_36 : decode cX8_altered 36 = .ok (.istore_n 3, 1) := by decide +kernel
theorem dX8_altered_37 : decode cX8_altered 37 = .ok (.iload_n 1, 1) := by decide +kernel
theorem dX8_altered_38 : decode cX8_altered 38 = .ok (.iconst 5, 1) := by decide +kernel
theorem dX8_altered_39 : decode cX8_altered 39 = .ok (.invokestatic 165, 3) := by decide +kernel
theorem dX8_altered_42 : decode cX8_altered 42 = .ok (.ifCond .eq 14, 3) := by decide +kernel
theorem dX8_altered_45 : decode cX8_altered 45 = .ok (.aload_n 0, 1) := by decide +kernel
theorem dX8_altered_46 : decode cX8_altered 46 = .ok (.getfield 162, 3) := by decide +kernel
theorem dX8_altered_49 : decode cX8_altered 49 = .ok (.ifCond .ne 7, 3) := by decide +kernel
theorem dX8_altered_52 : decode cX8_altered 52 = .ok (.iconst 1, 1) := by decide +kernel
theorem dX8_altered_53 : decode cX8_altered 53 = .ok (.goto 4, 3) := by decide +kernel
theorem dX8_altered_56 : decode cX8_altered 56 = .ok (.iconst 0, 1) := by decide +kernel
theorem dX8_altered_57 : decode cX8_altered 57 = .ok (.istore 5, 2) := by decide +kernel
theorem dX8_altered_59 : decode cX8_altered 59 = .ok (.iload_n 1, 1) := by decide +kernel
theorem dX8_altered_60 : decode cX8_altered 60 = .ok (.iconst 5, 1) := by decide +kernel
theorem dX8_altered_61 : decode cX8_altered 61 = .ok (.invokestatic 165, 3) := by decide +kernel
theorem dX8_altered_64 : decode cX8_altered 64 = .ok (.ifCond .eq 15, 3) := by decide +kernel
theorem dX8_altered_67 : decode cX8_altered 67 = .ok (.aload_n 0, 1) := by decide +kernel
theorem dX8_altered_68 : decode cX8_altered 68 = .ok (.getfield 162, 3) := by decide +kernel
theorem dX8_altered_71 : decode cX8_altered 71 = .ok (.iconst 1, 1) := by decide +kernel
theorem dX8_altered_72 : decode cX8_altered 72 = .ok (.if_icmp .ne 7, 3) := by decide +kernel
theorem dX8_altered_75 : decode cX8_altered 75 = .ok (.iconst 1, 1) := by decide +kernel
theorem dX8_altered_76 : decode cX8_altered 76 = .ok (.goto 4, 3) := by decide +kernel
theorem dX8_altered_79 : decode cX8_altered 79 = .ok (.iconst 0, 1) := by decide +kernel
theorem dX8_altered_80 : decode cX8_altered 80 = .ok (.istore 6, 2) := by decide +kernel
theorem dX8_altered_82 : decode cX8_altered 82 = .ok (.iload_n 1, 1) := by decide +kernel
theorem dX8_altered_83 : decode cX8_altered 83 = .ok (.bipush 6, 2) := by decide +kernel
theorem dX8_altered_85 : decode cX8_altered 85 = .ok (.ishr, 1) := by decide +kernel
theorem dX8_altered_86 : decode cX8_altered 86 = .ok (.iconst 3, 1) := by decide +kernel
theorem dX8_altered_87 : decode cX8_altered 87 = .ok (.iand, 1) := by decide +kernel
theorem dX8_altered_88 : decode cX8_altered 88 = .ok (.istore 7, 2) := by decide +kernel
theorem dX8_altered_90 : decode cX8_altered 90 = .ok (.iload 7, 2) := by decide +kernel
theorem dX8_altered_92 : decode cX8_altered 92 = .ok (.iconst 1, 1) := by decide +kernel
theorem dX8_altered_93 : decode cX8_altered 93 = .ok (.if_icmp .ne 8, 3) := by decide +kernel
theorem dX8_altered_96 : decode cX8_altered 96 = .ok (.aload_n 0, 1) := by decide +kernel
theorem dX8_altered_97 : decode cX8_altered 97 = .ok (.iconst 0, 1) := by decide +kernel
theorem dX8_altered_98 : decode cX8_altered 98 = .ok (.putfield 162, 3) := by decide +kernel
theorem dX8_altered_101 : decode cX8_altered 101 = .ok (.iload 7, 2) := by decide +kernel
theorem dX8_altered_103 : decode cX8_altered 103 = .ok (.iconst 2, 1) := by decide +kernel
theorem dX8_altered_104 : decode cX8_altered 104 = .ok (.if_icmp .ne 13, 3) := by decide +kernel
theorem dX8_altered_107 : decode cX8_altered 107 = .ok (.aload_n 0, 1) := by decide +kernel
theorem dX8_altered_108 : decode cX8_altered 108 = .ok (.iconst 1, 1) := by decide +kernel
theorem dX8_altered_109 : decode cX8_altered 109 = .ok (.aload_n 0, 1) := by decide +kernel
theorem dX8_altered_110 : decode cX8_altered 110 = .ok (.getfield 162, 3) := by decide +kernel
theorem dX8_altered_113 : decode cX8_altered 113 = .ok (.isub, 1) := by decide +kernel
theorem dX8_altered_114 : decode cX8_altered 114 = .ok (.putfield 162, 3) := by decide +kernel
theorem dX8_altered_117 : decode cX8_altered 117 = .ok (.iload 7, 2) := by decide +kernel
theorem dX8_altered_119 : decode cX8_altered 119 = .ok (.iconst 3, 1) := by decide +kernel
theorem dX8_altered_120 : decode cX8_altered 120 = .ok (.if_icmp .ne 8, 3) := by decide +kernel
theorem dX8_altered_123 : decode cX8_altered 123 = .ok (.aload_n 0, 1) := by decide +kernel
theorem dX8_altered_124 : decode cX8_altered 124 = .ok (.iconst 1, 1) := by decide +kernel
theorem dX8_altered_125 : decode cX8_altered 125 = .ok (.putfield 162, 3) := by decide +kernel
theorem dX8_altered_128 : decode cX8_altered 128 = .ok (.iload_n 3, 1) := by decide +kernel
theorem dX8_altered_129 : decode cX8_altered 129 = .ok (.bipush 15, 2) := by decide +kernel
theorem dX8_altered_131 : decode cX8_altered 131 = .ok (.ishr, 1) := by decide +kernel
theorem dX8_altered_132 : decode cX8_altered 132 = .ok (.iconst 1, 1) := by decide +kernel
theorem dX8_altered_133 : decode cX8_altered 133 = .ok (.if_icmp .ne 7, 3) := by decide +kernel
theorem dX8_altered_136 : decode cX8_altered 136 = .ok (.iconst 1, 1) := by decide +kernel
theorem dX8_altered_137 : decode cX8_altered 137 = .ok (.goto 4, 3) := by decide +kernel
theorem dX8_altered_140 : decode cX8_altered 140 = .ok (.iconst 0, 1) := by decide +kernel
theorem dX8_altered_141 : decode cX8_altered 141 = .ok (.istore 8, 2) := by decide +kernel
theorem dX8_altered_143 : decode cX8_altered 143 = .ok (.iload_n 3, 1) := by decide +kernel
theorem dX8_altered_144 : decode cX8_altered 144 = .ok (.iconst 1, 1) := by decide +kernel
theorem dX8_altered_145 : decode cX8_altered 145 = .ok (.iand, 1) := by decide +kernel
theorem dX8_altered_146 : decode cX8_altered 146 = .ok (.iconst 1, 1) := by decide +kernel
theorem dX8_altered_147 : decode cX8_altered 147 = .ok (.if_icmp .ne 7, 3) := by decide +kernel
theorem dX8_altered_150 : decode cX8_altered 150 = .ok (.iconst 1, 1) := by decide +kernel
theorem dX8_altered_151 : decode cX8_altered 151 = .ok (.goto 4, 3) := by decide +kernel
theorem dX8_altered_154 : decode cX8_altered 154 = .ok (.iconst 0, 1) := by decide +kernel
theorem dX8_altered_155 : decode cX8_altered 155 = .ok (.istore 9, 2) := by decide +kernel
theorem dX8_altered_157 : decode cX8_altered 157 = .ok (.iload 5, 2) := by decide +kernel
theorem dX8_altered_159 : decode cX8_altered 159 = .ok (.ifCond .ne 29, 3) := by decide +kernel
theorem dX8_altered_162 : decode cX8_altered 162 = .ok (.iload_n 1, 1) := by decide +kernel
theorem dX8_altered_163 : decode cX8_altered 163 = .ok (.iconst 4, 1) := by decide +kernel
theorem dX8_altered_164 : decode cX8_altered 164 = .ok (.invokestatic 165, 3) := by decide +kernel
theorem dX8_altered_167 : decode cX8_altered 167 = .ok (.ifCond .eq 8, 3) := by decide +kernel
theorem dX8_altered_170 : decode cX8_altered 170 = .ok (.iload 8, 2) := by decide +kernel
theorem dX8_altered_172 : decode cX8_altered 172 = .ok (.ifCond .eq 16, 3) := by decide +kernel
theorem dX8_altered_175 : decode cX8_altered 175 = .ok (.iload_n 1, 1) := by decide +kernel
theorem dX8_altered_176 : decode cX8_altered 176 = .ok (.iconst 3, 1) := by decide +kernel
theorem dX8_altered_177 : decode cX8_altered 177 = .ok (.invokestatic 165, 3) := by decide +kernel
theorem dX8_altered_180 : decode cX8_altered 180 = .ok (.ifCond .eq 12, 3) := by decide +kernel
theorem dX8_altered_183 : decode cX8_altered 183 = .ok (.iload 9, 2) := by decide +kernel
theorem dX8_altered_185 : decode cX8_altered 185 = .ok (.ifCond .ne 7, 3) := by decide +kernel
theorem dX8_altered_188 : decode cX8_altered 188 = .ok (.iconst 1, 1) := by decide +kernel
theorem dX8_altered_189 : decode cX8_altered 189 = .ok (.goto 4, 3) := by decide +kernel
theorem dX8_altered_192 : decode cX8_altered 192 = .ok (.iconst 0, 1) := by decide +kernel
theorem dX8_altered_193 : decode cX8_altered 193 = .ok (.istore 5, 2) := by decide +kernel
theorem dX8_altered_195 : decode cX8_altered 195 = .ok (.iload_n 1, 1) := by decide +kernel
theorem dX8_altered_196 : decode cX8_altered 196 = .ok (.iconst 4, 1) := by decide +kernel
theorem dX8_altered_197 : decode cX8_altered 197 = .ok (.invokestatic 165, 3) := by decide +kernel
theorem dX8_altered_200 : decode cX8_altered 200 = .ok (.ifCond .eq 36, 3) := by decide +kernel
theorem dX8_altered_203 : decode cX8_altered 203 = .ok (.iload_n 1, 1) := by decide +kernel
theorem dX8_altered_204 : decode cX8_altered 204 = .ok (.iconst 3, 1) := by decide +kernel
theorem dX8_altered_205 : decode cX8_altered 205 = .ok (.invokestatic 165, 3) := by decide +kernel
theorem dX8_altered_208 : decode cX8_altered 208 = .ok (.ifCond .eq 28, 3) := by decide +kernel
theorem dX8_altered_211 : decode cX8_altered 211 = .ok (.iload 6, 2) := by decide +kernel
theorem dX8_altered_213 : decode cX8_altered 213 = .ok (.ifCond .ne 13, 3) := by decide +kernel
theorem dX8_altered_216 : decode cX8_altered 216 = .ok (.iload 8, 2) := by decide +kernel
theorem dX8_altered_218 : decode cX8_altered 218 = .ok (.ifCond .eq 12, 3) := by decide +kernel
theorem dX8_altered_221 : decode cX8_altered 221 = .ok (.iload 9, 2) := by decide +kernel
theorem dX8_altered_223 : decode cX8_altered 223 = .ok (.ifCond .eq 7, 3) := by decide +kernel
theorem dX8_altered_226 : decode cX8_altered 226 = .ok (.iconst 1, 1) := by decide +kernel
theorem dX8_altered_227 : decode cX8_altered 227 = .ok (.goto 4, 3) := by decide +kernel
theorem dX8_altered_230 : decode cX8_altered 230 = .ok (.iconst 0, 1) := by decide +kernel
theorem dX8_altered_231 : decode cX8_altered 231 = .ok (.istore 6, 2) := by decide +kernel
theorem dX8_altered_233 : decode cX8_altered 233 = .ok (.goto 41, 3) := by decide +kernel
theorem dX8_altered_236 : decode cX8_altered 236 = .ok (.iload 6, 2) := by decide +kernel
theorem dX8_altered_238 : decode cX8_altered 238 = .ok (.ifCond .ne 29, 3) := by decide +kernel
theorem dX8_altered_241 : decode cX8_altered 241 = .ok (.iload_n 1, 1) := by decide +kernel
theorem dX8_altered_242 : decode cX8_altered 242 = .ok (.iconst 4, 1) := by decide +kernel
theorem dX8_altered_243 : decode cX8_altered 243 = .ok (.invokestatic 165, 3) := by decide +kernel
theorem dX8_altered_246 : decode cX8_altered 246 = .ok (.ifCond .eq 8, 3) := by decide +kernel
theorem dX8_altered_249 : decode cX8_altered 249 = .ok (.iload 8, 2) := by decide +kernel
theorem dX8_altered_251 : decode cX8_altered 251 = .ok (.ifCond .ne 16, 3) := by decide +kernel
theorem dX8_altered_254 : decode cX8_altered 254 = .ok (.iload_n 1, 1) := by decide +kernel
theorem dX8_altered_255 : decode cX8_altered 255 = .ok (.iconst 3, 1) := by decide +kernel
theorem dX8_altered_256 : decode cX8_altered 256 = .ok (.invokestatic 165, 3) := by decide +kernel
theorem dX8_altered_259 : decode cX8_altered 259 = .ok (.ifCond .eq 12, 3) := by decide +kernel
theorem dX8_altered_262 : decode cX8_altered 262 = .ok (.iload 9, 2) := by decide +kernel
theorem dX8_altered_264 : decode cX8_altered 264 = .ok (.ifCond .eq 7, 3) := by decide +kernel
theorem dX8_altered_267 : decode cX8_altered 267 = .ok (.iconst 1, 1) := by decide +kernel
theorem dX8_altered_268 : decode cX8_altered 268 = .ok (.goto 4, 3) := by decide +kernel
theorem dX8_altered_271 : decode cX8_altered 271 = .ok (.iconst 0, 1) := by decide +kernel
theorem dX8_altered_272 : decode cX8_altered 272 = .ok (.istore 6, 2) := by decide +kernel
theorem dX8_altered_274 : decode cX8_altered 274 = .ok (.iload_n 1, 1) := by decide +kernel
theorem dX8_altered_275 : decode cX8_altered 275 = .ok (.iconst 2, 1) := by decide +kernel
theorem dX8_altered_276 : decode cX8_altered 276 = .ok (.invokestatic 165, 3) := by decide +kernel
theorem dX8_altered_279 : decode cX8_altered 279 = .ok (.ifCond .eq 33, 3) := by decide +kernel
theorem dX8_altered_282 : decode cX8_altered 282 = .ok (.iload_n 3, 1) := by decide +kernel
theorem dX8_altered_283 : decode cX8_altered 283 = .ok (.ldc 102, 2) := by decide +kernel
theorem dX8_altered_285 : decode cX8_altered 285 = .ok (.if_icmp .ne 8, 3) := by decide +kernel
theorem dX8_altered_288 : decode cX8_altered 288 = .ok (.aload_n 0, 1) := by decide +kernel
theorem dX8_altered_289 : decode cX8_altered 289 = .ok (.iconst 1, 1) := by decide +kernel
theorem dX8_altered_290 : decode cX8_altered 290 = .ok (.putfield 162, 3) := by decide +kernel
theorem dX8_altered_293 : decode cX8_altered 293 = .ok (.iload_n 3, 1) := by decide +kernel
theorem dX8_altered_294 : decode cX8_altered 294 = .ok (.sipush 32767, 3) := by decide +kernel
theorem dX8_altered_297 : decode cX8_altered 297 = .ok (.if_icmp .ne 8, 3) := by decide +kernel
theorem dX8_altered_300 : decode cX8_altered 300 = .ok (.aload_n 0, 1) := by decide +kernel
theorem dX8_altered_301 : decode cX8_altered 301 = .ok (.iconst 1, 1) := by decide +kernel
theorem dX8_altered_302 : decode cX8_altered 302 = .ok (.putfield 159, 3) := by decide +kernel
theorem dX8_altered_305 : decode cX8_altered 305 = .ok (.iload_n 3, 1) := by decide +kernel
theorem dX8_altered_306 : decode cX8_altered 306 = .ok (.iconst 1, 1) := by decide +kernel
theorem dX8_altered_307 : decode cX8_altered 307 = .ok (.iadd, 1) := by decide +kernel
theorem dX8_altered_308 : decode cX8_altered 308 = .ok (.ldc 102, 2) := by decide +kernel
theorem dX8_altered_310 : decode cX8_altered 310 = .ok (.iand, 1) := by decide +kernel
theorem dX8_altered_311 : decode cX8_altered 311 = .ok (.istore_n 3, 1) := by decide +kernel
theorem dX8_altered_312 : decode cX8_altered 312 = .ok (.iload 5, 2) := by decide +kernel
theorem dX8_altered_314 : decode cX8_altered 314 = .ok (.ifCond .ne 15, 3) := by decide +kernel
theorem dX8_altered_317 : decode cX8_altered 317 = .ok (.iload_n 1, 1) := by decide +kernel
theorem dX8_altered_318 : decode cX8_altered 318 = .ok (.iconst 1, 1) := by decide +kernel
theorem dX8_altered_319 : decode cX8_altered 319 = .ok (.invokestatic 165, 3) := by decide +kernel
theorem dX8_altered_322 : decode cX8_altered 322 = .ok (.ifCond .eq 11, 3) := by decide +kernel
theorem dX8_altered_325 : decode cX8_altered 325 = .ok (.iload_n 3, 1) := by decide +kernel
theorem dX8_altered_326 : decode cX8_altered 326 = .ok (.ifCond .ne 7, 3) := by decide +kernel
theorem dX8_altered_329 : decode cX8_altered 329 = .ok (.iconst 1, 1) := by decide +kernel
theorem dX8_altered_330 : decode cX8_altered 330 = .ok (.goto 4, 3) := by decide +kernel
theorem dX8_altered_333 : decode cX8_altered 333 = .ok (.iconst 0, 1) := by decide +kernel
theorem dX8_altered_334 : decode cX8_altered 334 = .ok (.istore 5, 2) := by decide +kernel
theorem dX8_altered_336 : decode cX8_altered 336 = .ok (.iload 6, 2) := by decide +kernel
theorem dX8_altered_338 : decode cX8_altered 338 = .ok (.ifCond .ne 15, 3) := by decide +kernel
theorem dX8_altered_341 : decode cX8_altered 341 = .ok (.iload_n 1, 1) := by decide +kernel
theorem dX8_altered_342 : decode cX8_altered 342 = .ok (.iconst 1, 1) := by decide +kernel
theorem dX8_altered_343 : decode cX8_altered 343 = .ok (.invokestatic 165, 3) := by decide +kernel
theorem dX8_altered_346 : decode cX8_altered 346 = .ok (.ifCond .eq 11, 3) := by decide +kernel
theorem dX8_altered_349 : decode cX8_altered 349 = .ok (.iload_n 3, 1) := by decide +kernel
theorem dX8_altered_350 : decode cX8_altered 350 = .ok (.ifCond .eq 7, 3) := by decide +kernel
theorem dX8_altered_353 : decode cX8_altered 353 = .ok (.iconst 1, 1) := by decide +kernel
theorem dX8_altered_354 : decode cX8_altered 354 = .ok (.goto 4, 3) := by decide +kernel
theorem dX8_altered_357 : decode cX8_altered 357 = .ok (.iconst 0, 1) := by decide +kernel
theorem dX8_altered_358 : decode cX8_altered 358 = .ok (.istore 6, 2) := by decide +kernel
theorem dX8_altered_360 : decode cX8_altered 360 = .ok (.iload_n 1, 1) := by decide +kernel
theorem dX8_altered_361 : decode cX8_altered 361 = .ok (.iconst 5, 1) := by decide +kernel
theorem dX8_altered_362 : decode cX8_altered 362 = .ok (.invokestatic 165, 3) := by decide +kernel
theorem dX8_altered_365 : decode cX8_altered 365 = .ok (.ifCond .ne 31, 3) := by decide +kernel
theorem dX8_altered_368 : decode cX8_altered 368 = .ok (.iload_n 1, 1) := by decide +kernel
theorem dX8_altered_369 : decode cX8_altered 369 = .ok (.iconst 4, 1) := by decide +kernel
theorem dX8_altered_370 : decode cX8_altered 370 = .ok (.invokestatic 165, 3) := by decide +kernel
theorem dX8_altered_373 : decode cX8_altered 373 = .ok (.ifCond .ne 23, 3) := by decide +kernel
theorem dX8_altered_376 : decode cX8_altered 376 = .ok (.iload_n 1, 1) := by decide +kernel
theorem dX8_altered_377 : decode cX8_altered 377 = .ok (.iconst 3, 1) := by decide +kernel
theorem dX8_altered_378 : decode cX8_altered 378 = .ok (.invokestatic 165, 3) := by decide +kernel
theorem dX8_altered_381 : decode cX8_altered 381 = .ok (.ifCond .ne 15, 3) := by decide +kernel
theorem dX8_altered_384 : decode cX8_altered 384 = .ok (.iload_n 1, 1) := by decide +kernel
theorem dX8_altered_385 : decode cX8_altered 385 = .ok (.iconst 1, 1) := by decide +kernel
theorem dX8_altered_386 : decode cX8_altered 386 = .ok (.invokestatic 165, 3) := by decide +kernel
theorem dX8_altered_389 : decode cX8_altered 389 = .ok (.ifCond .ne 7, 3) := by decide +kernel
theorem dX8_altered_392 : decode cX8_altered 392 = .ok (.iconst 1, 1) := by decide +kernel
theorem dX8_altered_393 : decode cX8_altered 393 = .ok (.goto 4, 3) := by decide +kernel
theorem dX8_altered_396 : decode cX8_altered 396 = .ok (.iconst 0, 1) := by decide +kernel
theorem dX8_altered_397 : decode cX8_altered 397 = .ok (.istore 10, 2) := by decide +kernel
theorem dX8_altered_399 : decode cX8_altered 399 = .ok (.aload_n 0, 1) := by decide +kernel
theorem dX8_altered_400 : decode cX8_altered 400 = .ok (.iload_n 1, 1) := by decide +kernel
theorem dX8_altered_401 : decode cX8_altered 401 = .ok (.iconst 0, 1) := by decide +kernel
theorem dX8_altered_402 : decode cX8_altered 402 = .ok (.invokestatic 165, 3) := by decide +kernel
theorem dX8_altered_405 : decode cX8_altered 405 = .ok (.ifCond .eq 21, 3) := by decide +kernel
theorem dX8_altered_408 : decode cX8_altered 408 = .ok (.iload 10, 2) := by decide +kernel
theorem dX8_altered_410 : decode cX8_altered 410 = .ok (.ifCond .ne 8, 3) := by decide +kernel
theorem dX8_altered_413 : decode cX8_altered 413 = .ok (.iload 6, 2) := by decide +kernel
theorem dX8_altered_415 : decode cX8_altered 415 = .ok (.ifCond .eq 7, 3) := by decide +kernel
theorem dX8_altered_418 : decode cX8_altered 418 = .ok (.iconst 1, 1) := by decide +kernel
theorem dX8_altered_419 : decode cX8_altered 419 = .ok (.goto 9, 3) := by decide +kernel
theorem dX8_altered_422 : decode cX8_altered 422 = .ok (.iconst 0, 1) := by decide +kernel
theorem dX8_altered_423 : decode cX8_altered 423 = .ok (.goto 5, 3) := by decide +kernel
theorem dX8_altered_426 : decode cX8_altered 426 = .ok (.iload 5, 2) := by decide +kernel
theorem dX8_altered_428 : decode cX8_altered 428 = .ok (.invokevirtual 147, 3) := by decide +kernel
theorem dX8_altered_431 : decode cX8_altered 431 = .ok (.iload_n 3, 1) := by decide +kernel
theorem dX8_altered_432 : decode cX8_altered 432 = .ok (.ireturn, 1) := by decide +kernel
theorem dX8_flagOf_0 : decode cX8_flagOf 0 = .ok (.iload_n 1, 1) := by decide +kernel
theorem dX8_flagOf_1 : decode cX8_flagOf 1 = .ok (.ifCond .ne 10, 3) := by decide +kernel
theorem dX8_flagOf_4 : decode cX8_flagOf 4 = .ok (.aload_n 0, 1) := by decide +kernel
theorem dX8_flagOf_5 : decode cX8_flagOf 5 = .ok (.getfield 116, 3) := by decide +kernel
theorem dX8_flagOf_8 : decode cX8_flagOf 8 = .ok (.goto 50, 3) := by decide +kernel
theorem dX8_flagOf_11 : decode cX8_flagOf 11 = .ok (.iload_n 1, 1) := by decide +kernel
theorem dX8_flagOf_12 : decode cX8_flagOf 12 = .ok (.iconst 1, 1) := by decide +kernel
theorem dX8_flagOf_13 : decode cX8_flagOf 13 = .ok (.if_icmp .ne 19, 3) := by decide +kernel
theorem dX8_flagOf_16 : decode cX8_flagOf 16 = .ok (.aload_n 0, 1) := by decide +kernel
theorem dX8_flagOf_17 : decode cX8_flagOf 17 = .ok (.getfield 159, 3) := by decide +kernel
theorem dX8_flagOf_20 : decode cX8_flagOf 20 = .ok (.iconst 1, 1) := by decide +kernel
theorem dX8_flagOf_21 : decode cX8_flagOf 21 = .ok (.if_icmp .ne 7, 3) := by decide +kernel
theorem dX8_flagOf_24 : decode cX8_flagOf 24 = .ok (.iconst 1, 1) := by decide +kernel
theorem dX8_flagOf_25 : decode cX8_flagOf 25 = .ok (.goto 33, 3) := by decide +kernel
theorem dX8_flagOf_28 : decode cX8_flagOf 28 = .ok (.iconst 0, 1) := by decide +kernel
theorem dX8_flagOf_29 : decode cX8_flagOf 29 = .ok (.goto 29, 3) := by decide +kernel
theorem dX8_flagOf_32 : decode cX8_flagOf 32 = .ok (.iload_n 1, 1) := by decide +kernel
theorem dX8_flagOf_33 : decode cX8_flagOf 33 = .ok (.bipush 6, 2) := by decide +kernel
theorem dX8_flagOf_35 : decode cX8_flagOf 35 = .ok (.if_icmp .lt 22, 3) := by decide +kernel
theorem dX8_flagOf_38 : decode cX8_flagOf 38 = .ok (.iload_n 1, 1) := by decide +kernel
theorem dX8_flagOf_39 : decode cX8_flagOf 39 = .ok (.bipush 12, 2) := by decide +kernel
theorem dX8_flagOf_41 : decode cX8_flagOf 41 = .ok (.if_icmp .ge 16, 3) := by decide +kernel
theorem dX8_flagOf_44 : decode cX8_flagOf 44 = .ok (.aload_n 0, 1) := by decide +kernel
theorem dX8_flagOf_45 : decode cX8_flagOf 45 = .ok (.getfield 24, 3) := by decide +kernel
theorem dX8_flagOf_48 : decode cX8_flagOf 48 = .ok (.iload_n 1, 1) := by decide +kernel
theorem dX8_flagOf_49 : decode cX8_flagOf 49 = .ok (.baload, 1) := by decide +kernel
theorem dX8_flagOf_50 : decode cX8_flagOf 50 = .ok (.ifCond .eq 7, 3) := by decide +kernel
theorem dX8_flagOf_53 : decode cX8_flagOf 53 = .ok (.iconst 1, 1) := by decide +kernel
theorem dX8_flagOf_54 : decode cX8_flagOf 54 = .ok (.goto 4, 3) := by decide +kernel
theorem dX8_flagOf_57 : decode cX8_flagOf 57 = .ok (.iconst 0, 1) := by decide +kernel
theorem dX8_flagOf_58 : decode cX8_flagOf 58 = .ok (.ireturn, 1) := by decide +kernel
theorem dX8_setFlag_0 : decode cX8_setFlag 0 = .ok (.iload_n 1, 1) := by decide +kernel
theorem dX8_setFlag_1 : decode cX8_setFlag 1 = .ok (.ifCond .ne 8, 3) := by decide +kernel
theorem dX8_setFlag_4 : decode cX8_setFlag 4 = .ok (.aload_n 0, 1) := by decide +kernel
theorem dX8_setFlag_5 : decode cX8_setFlag 5 = .ok (.iload_n 2, 1) := by decide +kernel
theorem dX8_setFlag_6 : decode cX8_setFlag 6 = .ok (.putfield 116, 3) := by decide +kernel
theorem dX8_setFlag_9 : decode cX8_setFlag 9 = .ok (.iload_n 1, 1) := by decide +kernel
theorem dX8_setFlag_10 : decode cX8_setFlag 10 = .ok (.iconst 1, 1) := by decide +kernel
theorem dX8_setFlag_11 : decode cX8_setFlag 11 = .ok (.if_icmp .ne 16, 3) := by decide +kernel
theorem dX8_setFlag_14 : decode cX8_setFlag 14 = .ok (.aload_n 0, 1) := by decide +kernel
theorem dX8_setFlag_15 : decode cX8_setFlag 15 = .ok (.iload_n 2, 1) := by decide +kernel
theorem dX8_setFlag_16 : decode cX8_setFlag 16 = .ok (.ifCond .eq 7, 3) := by decide +kernel
theorem dX8_setFlag_19 : decode cX8_setFlag 19 = .ok (.iconst 1, 1) := by decide +kernel
theorem dX8_setFlag_20 : decode cX8_setFlag 20 = .ok (.goto 4, 3) := by decide +kernel
theorem dX8_setFlag_23 : decode cX8_setFlag 23 = .ok (.iconst 0, 1) := by decide +kernel
theorem dX8_setFlag_24 : decode cX8_setFlag 24 = .ok (.putfield 159, 3) := by decide +kernel
theorem dX8_setFlag_27 : decode cX8_setFlag 27 = .ok (.iload_n 1, 1) := by decide +kernel
theorem dX8_setFlag_28 : decode cX8_setFlag 28 = .ok (.bipush 6, 2) := by decide +kernel
theorem dX8_setFlag_30 : decode cX8_setFlag 30 = .ok (.if_icmp .lt 9, 3) := by decide +kernel
theorem dX8_setFlag_33 : decode cX8_setFlag 33 = .ok (.iload_n 1, 1) := by decide +kernel
theorem dX8_setFlag_34 : decode cX8_setFlag 34 = .ok (.bipush 12, 2) := by decide +kernel
theorem dX8_setFlag_36 : decode cX8_setFlag 36 = .ok (.if_icmp .lt 4, 3) := by decide +kernel
theorem dX8_setFlag_39 : decode cX8_setFlag 39 = .ok (.return_, 1) := by decide +kernel
theorem dX8_setFlag_40 : decode cX8_setFlag 40 = .ok (.aload_n 0, 1) := by decide +kernel
theorem dX8_setFlag_41 : decode cX8_setFlag 41 = .ok (.getfield 24, 3) := by decide +kernel
theorem dX8_setFlag_44 : decode cX8_setFlag 44 = .ok (.iload_n 1, 1) := by decide +kernel
theorem dX8_setFlag_45 : decode cX8_setFlag 45 = .ok (.iload_n 2, 1) := by decide +kernel
theorem dX8_setFlag_46 : decode cX8_setFlag 46 = .ok (.bastore, 1) := by decide +kernel
theorem dX8_setFlag_47 : decode cX8_setFlag 47 = .ok (.aload_n 0, 1) := by decide +kernel
theorem dX8_setFlag_48 : decode cX8_setFlag 48 = .ok (.getfield 27, 3) := by decide +kernel
theorem dX8_setFlag_51 : decode cX8_setFlag 51 = .ok (.iload_n 1, 1) := by decide +kernel
theorem dX8_setFlag_52 : decode cX8_setFlag 52 = .ok (.iload_n 2, 1) := by decide +kernel
theorem dX8_setFlag_53 : decode cX8_setFlag 53 = .ok (.bastore, 1) := by decide +kernel
theorem dX8_setFlag_54 : decode cX8_setFlag 54 = .ok (.return_, 1) := by decide +kernel
theorem dX8_told_0 : decode cX8_told 0 = .ok (.iload_n 1, 1) := by decide +kernel
theorem dX8_told_1 : decode cX8_told 1 = .ok (.iconst 1, 1) := by decide +kernel
theorem dX8_told_2 : decode cX8_told 2 = .ok (.if_icmp .ne 8, 3) := by decide +kernel
theorem dX8_told_5 : decode cX8_told 5 = .ok (.aload_n 0, 1) := by decide +kernel
theorem dX8_told_6 : decode cX8_told 6 = .ok (.getfield 175, 3) := by decide +kernel
theorem dX8_told_9 : decode cX8_told 9 = .ok (.ireturn, 1) := by decide +kernel
theorem dX8_told_10 : decode cX8_told 10 = .ok (.iload_n 1, 1) := by decide +kernel
theorem dX8_told_11 : decode cX8_told 11 = .ok (.iconst 2, 1) := by decide +kernel
theorem dX8_told_12 : decode cX8_told 12 = .ok (.if_icmp .eq 8, 3) := by decide +kernel
theorem dX8_told_15 : decode cX8_told 15 = .ok (.iload_n 1, 1) := by decide +kernel
theorem dX8_told_16 : decode cX8_told 16 = .ok (.iconst 3, 1) := by decide +kernel
theorem dX8_told_17 : decode cX8_told 17 = .ok (.if_icmp .ne 12, 3) := by decide +kernel
theorem dX8_told_20 : decode cX8_told 20 = .ok (.aload_n 0, 1) := by decide +kernel
theorem dX8_told_21 : decode cX8_told 21 = .ok (.getfield 42, 3) := by decide +kernel
theorem dX8_told_24 : decode cX8_told 24 = .ok (.iload_n 1, 1) := by decide +kernel
theorem dX8_told_25 : decode cX8_told 25 = .ok (.iconst 4, 1) := by decide +kernel
theorem dX8_told_26 : decode cX8_told 26 = .ok (.iadd, 1) := by decide +kernel
theorem dX8_told_27 : decode cX8_told 27 = .ok (.iaload, 1) := by decide +kernel
theorem dX8_told_28 : decode cX8_told 28 = .ok (.ireturn, 1) := by decide +kernel
theorem dX8_told_29 : decode cX8_told 29 = .ok (.iload_n 1, 1) := by decide +kernel
theorem dX8_told_30 : decode cX8_told 30 = .ok (.bipush 8, 2) := by decide +kernel
theorem dX8_told_32 : decode cX8_told 32 = .ok (.if_icmp .lt 18, 3) := by decide +kernel
theorem dX8_told_35 : decode cX8_told 35 = .ok (.iload_n 1, 1) := by decide +kernel
theorem dX8_told_36 : decode cX8_told 36 = .ok (.bipush 12, 2) := by decide +kernel
theorem dX8_told_38 : decode cX8_told 38 = .ok (.if_icmp .ge 12, 3) := by decide +kernel
theorem dX8_told_41 : decode cX8_told 41 = .ok (.aload_n 0, 1) := by decide +kernel
theorem dX8_told_42 : decode cX8_told 42 = .ok (.getfield 57, 3) := by decide +kernel
theorem dX8_told_45 : decode cX8_told 45 = .ok (.iload_n 1, 1) := by decide +kernel
theorem dX8_told_46 : decode cX8_told 46 = .ok (.iaload, 1) := by decide +kernel
theorem dX8_told_47 : decode cX8_told 47 = .ok (.goto 4, 3) := by decide +kernel
theorem dX8_told_50 : decode cX8_told 50 = .ok (.iconst 0, 1) := by decide +kernel
theorem dX8_told_51 : decode cX8_told 51 = .ok (.ireturn, 1) := by decide +kernel
theorem dX8_goes_0 : decode cX8_goes 0 = .ok (.iload_n 1, 1) := by decide +kernel
theorem dX8_goes_1 : decode cX8_goes 1 = .ok (.iconst 1, 1) := by decide +kernel
theorem dX8_goes_2 : decode cX8_goes 2 = .ok (.if_icmp .ne 8, 3) := by decide +kernel
theorem dX8_goes_5 : decode cX8_goes 5 = .ok (.aload_n 0, 1) := by decide +kernel
theorem dX8_goes_6 : decode cX8_goes 6 = .ok (.iload_n 2, 1) := by decide +kernel
theorem dX8_goes_7 : decode cX8_goes 7 = .ok (.putfield 178, 3) := by decide +kernel
theorem dX8_goes_10 : decode cX8_goes 10 = .ok (.iload_n 1, 1) := by decide +kernel
theorem dX8_goes_11 : decode cX8_goes 11 = .ok (.iconst 2, 1) := by decide +kernel
theorem dX8_goes_12 : decode cX8_goes 12 = .ok (.if_icmp .eq 8, 3) := by decide +kernel
theorem dX8_goes_15 : decode cX8_goes 15 = .ok (.iload_n 1, 1) := by decide +kernel
theorem dX8_goes_16 : decode cX8_goes 16 = .ok (.iconst 3, 1) := by decide +kernel
theorem dX8_goes_17 : decode cX8_goes 17 = .ok (.if_icmp .ne 56, 3) := by decide +kernel
theorem dX8_goes_20 : decode cX8_goes 20 = .ok (.iload_n 1, 1) := by decide +kernel
theorem dX8_goes_21 : decode cX8_goes 21 = .ok (.iconst 4, 1) := by decide +kernel
theorem dX8_goes_22 : decode cX8_goes 22 = .ok (.iadd, 1) := by decide +kernel
theorem dX8_goes_23 : decode cX8_goes 23 = .ok (.istore_n 3, 1) := by decide +kernel
theorem dX8_goes_24 : decode cX8_goes 24 = .ok (.aload_n 0, 1) := by decide +kernel
theorem dX8_goes_25 : decode cX8_goes 25 = .ok (.getfield 36, 3) := by decide +kernel
theorem dX8_goes_28 : decode cX8_goes 28 = .ok (.iload_n 3, 1) := by decide +kernel
theorem dX8_goes_29 : decode cX8_goes 29 = .ok (.baload, 1) := by decide +kernel
theorem dX8_goes_30 : decode cX8_goes 30 = .ok (.ifCond .eq 13, 3) := by decide +kernel
theorem dX8_goes_33 : decode cX8_goes 33 = .ok (.aload_n 0, 1) := by decide +kernel
theorem dX8_goes_34 : decode cX8_goes 34 = .ok (.getfield 42, 3) := by decide +kernel
theorem dX8_goes_37 : decode cX8_goes 37 = .ok (.iload_n 3, 1) := by decide +kernel
theorem dX8_goes_38 : decode cX8_goes 38 = .ok (.iload_n 2, 1) := by decide +kernel
theorem dX8_goes_39 : decode cX8_goes 39 = .ok (.iastore, 1) := by decide +kernel
theorem dX8_goes_40 : decode cX8_goes 40 = .ok (.goto 33, 3) := by decide +kernel
theorem dX8_goes_43 : decode cX8_goes 43 = .ok (.aload_n 0, 1) := by decide +kernel
theorem dX8_goes_44 : decode cX8_goes 44 = .ok (.getfield 39, 3) := by decide +kernel
theorem dX8_goes_47 : decode cX8_goes 47 = .ok (.iload_n 3, 1) := by decide +kernel
theorem dX8_goes_48 : decode cX8_goes 48 = .ok (.iload_n 2, 1) := by decide +kernel
theorem dX8_goes_49 : decode cX8_goes 49 = .ok (.sipush 32767, 3) := by decide +kernel
theorem dX8_goes_52 : decode cX8_goes 52 = .ok (.iand, 1) := by decide +kernel
theorem dX8_goes_53 : decode cX8_goes 53 = .ok (.iastore, 1) := by decide +kernel
theorem dX8_goes_54 : decode cX8_goes 54 = .ok (.aload_n 0, 1) := by decide +kernel
theorem dX8_goes_55 : decode cX8_goes 55 = .ok (.getfield 33, 3) := by decide +kernel
theorem dX8_goes_58 : decode cX8_goes 58 = .ok (.iload_n 3, 1) := by decide +kernel
theorem dX8_goes_59 : decode cX8_goes 59 = .ok (.iload_n 2, 1) := by decide +kernel
theorem dX8_goes_60 : decode cX8_goes 60 = .ok (.bipush 15, 2) := by decide +kernel
theorem dX8_goes_62 : decode cX8_goes 62 = .ok (.ishr, 1) := by decide +kernel
theorem dX8_goes_63 : decode cX8_goes 63 = .ok (.iconst 1, 1) := by decide +kernel
theorem dX8_goes_64 : decode cX8_goes 64 = .ok (.if_icmp .ne 7, 3) := by decide +kernel
theorem dX8_goes_67 : decode cX8_goes 67 = .ok (.iconst 1, 1) := by decide +kernel
theorem dX8_goes_68 : decode cX8_goes 68 = .ok (.goto 4, 3) := by decide +kernel
theorem dX8_goes_71 : decode cX8_goes 71 = .ok (.iconst 0, 1) := by decide +kernel
theorem dX8_goes_72 : decode cX8_goes 72 = .ok (.bastore, 1) := by decide +kernel
theorem dX8_goes_73 : decode cX8_goes 73 = .ok (.iload_n 1, 1) := by decide +kernel
theorem dX8_goes_74 : decode cX8_goes 74 = .ok (.bipush 6, 2) := by decide +kernel
theorem dX8_goes_76 : decode cX8_goes 76 = .ok (.if_icmp .eq 9, 3) := by decide +kernel
theorem dX8_goes_79 : decode cX8_goes 79 = .ok (.iload_n 1, 1) := by decide +kernel
theorem dX8_goes_80 : decode cX8_goes 80 = .ok (.bipush 7, 2) := by decide +kernel
theorem dX8_goes_82 : decode cX8_goes 82 = .ok (.if_icmp .ne 10, 3) := by decide +kernel
theorem dX8_goes_85 : decode cX8_goes 85 = .ok (.aload_n 0, 1) := by decide +kernel
theorem dX8_goes_86 : decode cX8_goes 86 = .ok (.getfield 45, 3) := by decide +kernel
theorem dX8_goes_89 : decode cX8_goes 89 = .ok (.iload_n 1, 1) := by decide +kernel
theorem dX8_goes_90 : decode cX8_goes 90 = .ok (.iload_n 2, 1) := by decide +kernel
theorem dX8_goes_91 : decode cX8_goes 91 = .ok (.iastore, 1) := by decide +kernel
theorem dX8_goes_92 : decode cX8_goes 92 = .ok (.iload_n 1, 1) := by decide +kernel
theorem dX8_goes_93 : decode cX8_goes 93 = .ok (.bipush 8, 2) := by decide +kernel
theorem dX8_goes_95 : decode cX8_goes 95 = .ok (.if_icmp .lt 16, 3) := by decide +kernel
theorem dX8_goes_98 : decode cX8_goes 98 = .ok (.iload_n 1, 1) := by decide +kernel
theorem dX8_goes_99 : decode cX8_goes 99 = .ok (.bipush 12, 2) := by decide +kernel
theorem dX8_goes_101 : decode cX8_goes 101 = .ok (.if_icmp .ge 10, 3) := by decide +kernel
theorem dX8_goes_104 : decode cX8_goes 104 = .ok (.aload_n 0, 1) := by decide +kernel
theorem dX8_goes_105 : decode cX8_goes 105 = .ok (.getfield 57, 3) := by decide +kernel
theorem dX8_goes_108 : decode cX8_goes 108 = .ok (.iload_n 1, 1) := by decide +kernel
theorem dX8_goes_109 : decode cX8_goes 109 = .ok (.iload_n 2, 1) := by decide +kernel
theorem dX8_goes_110 : decode cX8_goes 110 = .ok (.iastore, 1) := by decide +kernel
theorem dX8_goes_111 : decode cX8_goes 111 = .ok (.return_, 1) := by decide +kernel
set_option maxRecDepth 20000 in
theorem ggX8_setControl_X8_started : GoodIn wsX8_setControl wsX8_started := goodIn_r _ [8, 9, 10, 11, 12, 13, 14, 15, 16, 17, 18, 19, 20, 21, 22, 23, 24, 25, 26, 27, 28, 29, 30, 31, 32, 33, 34, 35, 36, 37, 38, 39, 40, 41, 42, 43, 44, 45] (by decide +kernel) (by decide +kernel)
set_option maxRecDepth 20000 in
theorem gX8_setControl_X8_started : GoodIn wsX8_setControl (wsV RX8 103 RX8 yX8_started wsX8_started) := goodIn_app (goodIn_of _ (by decide +kernel)) ggX8_setControl_X8_started
theorem dX8_setControl_0 : decode cX8_setControl 0 = .ok (.iload_n 1, 1) := by decide +kernel
theorem dX8_setControl_1 : decode cX8_setControl 1 = .ok (.iconst 2, 1) := by decide +kernel
theorem dX8_setControl_2 : decode cX8_setControl 2 = .ok (.if_icmp .eq 8, 3) := by decide +kernel
theorem dX8_setControl_5 : decode cX8_setControl 5 = .ok (.iload_n 1, 1) := by decide +kernel
theorem dX8_setControl_6 : decode cX8_setControl 6 = .ok (.iconst 3, 1) := by decide +kernel
theorem dX8_setControl_7 : decode cX8_setControl 7 = .ok (.if_icmp .ne 12, 3) := by decide +kernel
theorem dX8_setControl_10 : decode cX8_setControl 10 = .ok (.aload_n 0, 1) := by decide +kernel
theorem dX8_setControl_11 : decode cX8_setControl 11 = .ok (.getfield 36, 3) := by decide +kernel
theorem dX8_setControl_14 : decode cX8_setControl 14 = .ok (.iload_n 1, 1) := by decide +kernel
theorem dX8_setControl_15 : decode cX8_setControl 15 = .ok (.iconst 4, 1) := by decide +kernel
theorem dX8_setControl_16 : decode cX8_setControl 16 = .ok (.iadd, 1) := by decide +kernel
theorem dX8_setControl_17 : decode cX8_setControl 17 = .ok (.iload_n 2, 1) := by decide +kernel
theorem dX8_setControl_18 : decode cX8_setControl 18 = .ok (.bastore, 1) := by decide +kernel
theorem dX8_setControl_19 : decode cX8_setControl 19 = .ok (.iload_n 1, 1) := by decide +kernel
theorem dX8_setControl_20 : decode cX8_setControl 20 = .ok (.ifCond .ne 36, 3) := by decide +kernel
theorem dX8_setControl_23 : decode cX8_setControl 23 = .ok (.iload_n 2, 1) := by decide +kernel
theorem dX8_setControl_24 : decode cX8_setControl 24 = .ok (.ifCond .ne 32, 3) := by decide +kernel
theorem dX8_setControl_27 : decode cX8_setControl 27 = .ok (.bipush 6, 2) := by decide +kernel
theorem dX8_setControl_29 : decode cX8_setControl 29 = .ok (.istore_n 3, 1) := by decide +kernel
theorem dX8_setControl_30 : decode cX8_setControl 30 = .ok (.iload_n 3, 1) := by decide +kernel
theorem dX8_setControl_31 : decode cX8_setControl 31 = .ok (.bipush 12, 2) := by decide +kernel
theorem dX8_setControl_33 : decode cX8_setControl 33 = .ok (.if_icmp .ge 23, 3) := by decide +kernel
theorem dX8_setControl_36 : decode cX8_setControl 36 = .ok (.aload_n 0, 1) := by decide +kernel
theorem dX8_setControl_37 : decode cX8_setControl 37 = .ok (.getfield 20, 3) := by decide +kernel
theorem dX8_setControl_40 : decode cX8_setControl 40 = .ok (.iload_n 3, 1) := by decide +kernel
theorem dX8_setControl_41 : decode cX8_setControl 41 = .ok (.iconst 0, 1) := by decide +kernel
theorem dX8_setControl_42 : decode cX8_setControl 42 = .ok (.bastore, 1) := by decide +kernel
theorem dX8_setControl_43 : decode cX8_setControl 43 = .ok (.aload_n 0, 1) := by decide +kernel
theorem dX8_setControl_44 : decode cX8_setControl 44 = .ok (.getfield 30, 3) := by decide +kernel
theorem dX8_setControl_47 : decode cX8_setControl 47 = .ok (.iload_n 3, 1) := by decide +kernel
theorem dX8_setControl_48 : decode cX8_setControl 48 = .ok (.iconst 0, 1) := by decide +kernel
theorem dX8_setControl_49 : decode cX8_setControl 49 = .ok (.bastore, 1) := by decide +kernel
theorem dX8_setControl_50 : decode cX8_setControl 50 = .ok (.iinc 3 1, 3) := by decide +kernel
theorem dX8_setControl_53 : decode cX8_setControl 53 = .ok (.goto (-23), 3) := by decide +kernel
theorem dX8_setControl_56 : decode cX8_setControl 56 = .ok (.iload_n 1, 1) := by decide +kernel
theorem dX8_setControl_57 : decode cX8_setControl 57 = .ok (.bipush 6, 2) := by decide +kernel
theorem dX8_setControl_59 : decode cX8_setControl 59 = .ok (.if_icmp .lt 9, 3) := by decide +kernel
theorem dX8_setControl_62 : decode cX8_setControl 62 = .ok (.iload_n 1, 1) := by decide +kernel
theorem dX8_setControl_63 : decode cX8_setControl 63 = .ok (.bipush 12, 2) := by decide +kernel
theorem dX8_setControl_65 : decode cX8_setControl 65 = .ok (.if_icmp .lt 4, 3) := by decide +kernel
theorem dX8_setControl_68 : decode cX8_setControl 68 = .ok (.return_, 1) := by decide +kernel
theorem dX8_setControl_69 : decode cX8_setControl 69 = .ok (.aload_n 0, 1) := by decide +kernel
theorem dX8_setControl_70 : decode cX8_setControl 70 = .ok (.getfield 20, 3) := by decide +kernel
theorem dX8_setControl_73 : decode cX8_setControl 73 = .ok (.iload_n 1, 1) := by decide +kernel
theorem dX8_setControl_74 : decode cX8_setControl 74 = .ok (.iload_n 2, 1) := by decide +kernel
theorem dX8_setControl_75 : decode cX8_setControl 75 = .ok (.bastore, 1) := by decide +kernel
theorem dX8_setControl_76 : decode cX8_setControl 76 = .ok (.iload_n 1, 1) := by decide +kernel
theorem dX8_setControl_77 : decode cX8_setControl 77 = .ok (.bipush 8, 2) := by decide +kernel
theorem dX8_setControl_79 : decode cX8_setControl 79 = .ok (.if_icmp .ge 13, 3) := by decide +kernel
theorem dX8_setControl_82 : decode cX8_setControl 82 = .ok (.aload_n 0, 1) := by decide +kernel
theorem dX8_setControl_83 : decode cX8_setControl 83 = .ok (.getfield 30, 3) := by decide +kernel
theorem dX8_setControl_86 : decode cX8_setControl 86 = .ok (.iload_n 1, 1) := by decide +kernel
theorem dX8_setControl_87 : decode cX8_setControl 87 = .ok (.iload_n 2, 1) := by decide +kernel
theorem dX8_setControl_88 : decode cX8_setControl 88 = .ok (.bastore, 1) := by decide +kernel
theorem dX8_setControl_89 : decode cX8_setControl 89 = .ok (.goto 12, 3) := by decide +kernel
theorem dX8_setControl_92 : decode cX8_setControl 92 = .ok (.iload_n 2, 1) := by decide +kernel
theorem dX8_setControl_93 : decode cX8_setControl 93 = .ok (.ifCond .eq 8, 3) := by decide +kernel
theorem dX8_setControl_96 : decode cX8_setControl 96 = .ok (.aload_n 0, 1) := by decide +kernel
theorem dX8_setControl_97 : decode cX8_setControl 97 = .ok (.iload_n 1, 1) := by decide +kernel
theorem dX8_setControl_98 : decode cX8_setControl 98 = .ok (.invokevirtual 103, 3) := by decide +kernel
theorem dX8_setControl_101 : decode cX8_setControl 101 = .ok (.return_, 1) := by decide +kernel
set_option maxRecDepth 20000 in
theorem ggX8_codes_X8_is : GoodIn wsX8_codes wsX8_is := goodIn_r _ [9] (by decide +kernel) (by decide +kernel)
set_option maxRecDepth 20000 in
theorem gX8_codes_X8_is : GoodIn wsX8_codes (va_wsS RX8 165 yX8_is wsX8_is) := goodIn_app (goodIn_of _ (by decide +kernel)) ggX8_codes_X8_is
set_option maxRecDepth 20000 in
theorem ggX8_codes_X8_setFlag : GoodIn wsX8_codes wsX8_setFlag := goodIn_r _ [13, 14, 15, 16, 17, 58, 59, 60, 61, 62, 63, 64, 65, 66, 67, 68, 69, 70, 71, 72, 73, 74, 75, 76, 77, 78, 79, 80, 81, 82, 83, 84, 85, 86, 87, 88, 89, 90, 91, 92] (by decide +kernel) (by decide +kernel)
set_option maxRecDepth 20000 in
theorem gX8_codes_X8_setFlag : GoodIn wsX8_codes (wsV RX8 181 RX8 yX8_setFlag wsX8_setFlag) := goodIn_app (goodIn_of _ (by decide +kernel)) ggX8_codes_X8_setFlag
set_option maxRecDepth 20000 in
theorem ggX8_codes_X8_flagOf : GoodIn wsX8_codes wsX8_flagOf := goodIn_r _ [21, 14, 15, 16, 58, 59, 60, 61, 62, 63, 64, 65, 66, 67, 68, 69, 70, 71, 72, 73, 74, 75, 76, 77, 78, 79, 80, 81, 82, 83, 84, 85, 86, 87, 88, 89, 90, 91, 92] (by decide +kernel) (by decide +kernel)
set_option maxRecDepth 20000 in
theorem gX8_codes_X8_flagOf : GoodIn wsX8_codes (wsV RX8 185 RX8 yX8_flagOf wsX8_flagOf) := goodIn_app (goodIn_of _ (by decide +kernel)) ggX8_codes_X8_flagOf
set_option maxRecDepth 20000 in
theorem ggX8_codes_X8_skip : GoodIn wsX8_codes wsX8_skip := goodIn_r _ [25, 26, 27, 28, 8, 29, 58, 59, 60, 61, 62, 63, 64, 65, 66, 67, 68, 69, 70, 71, 72, 73, 74, 75, 76, 77, 78, 79, 80, 81, 82, 83, 84, 85, 86, 87, 88, 89, 90, 91, 92] (by decide +kernel) (by decide +kernel)
set_option maxRecDepth 20000 in
theorem gX8_codes_X8_skip : GoodIn wsX8_codes (wsV RX8 147 RX8 yX8_skip wsX8_skip) := goodIn_app (goodIn_of _ (by decide +kernel)) ggX8_codes_X8_skip
set_option maxRecDepth 20000 in
theorem ggX8_codes_X8_told : GoodIn wsX8_codes wsX8_told := goodIn_r _ [33, 34, 35, 36, 58, 59, 60, 61, 62, 63, 64, 65, 66, 67, 68, 69, 70, 71, 72, 73, 74, 75, 76, 77, 78, 79, 80, 81, 82, 83, 84, 85, 86, 87, 88, 89, 90, 91, 92] (by decide +kernel) (by decide +kernel)
set_option maxRecDepth 20000 in
theorem gX8_codes_X8_told : GoodIn wsX8_codes (wsV RX8 189 RX8 yX8_told wsX8_told) := goodIn_app (goodIn_of _ (by decide +kernel)) ggX8_codes_X8_told
set_option maxRecDepth 20000 in
theorem ggX8_codes_X8_goes : GoodIn wsX8_codes wsX8_goes := goodIn_r _ [40, 41, 42, 35, 43, 44, 45, 36, 58, 59, 60, 61, 62, 63, 64, 65, 66, 67, 68, 69, 70, 71, 72, 73, 74, 75, 76, 77, 78, 79, 80, 81, 82, 83, 84, 85, 86, 87, 88, 89, 90, 91, 92] (by decide +kernel) (by decide +kernel)
set_option maxRecDepth 20000 in
theorem gX8_codes_X8_goes : GoodIn wsX8_codes (wsV RX8 192 RX8 yX8_goes wsX8_goes) := goodIn_app (goodIn_of _ (by decide +kernel)) ggX8_codes_X8_goes
set_option maxRecDepth 20000 in
theorem ggX8_codes_X8_setControl : GoodIn wsX8_codes wsX8_setControl := goodIn_r _ [49, 42, 50, 51, 52, 53, 54, 8, 55, 56, 57, 58, 59, 60, 61, 62, 63, 64, 65, 66, 67, 68, 69, 70, 71, 72, 73, 74, 75, 76, 77, 78, 79, 80, 81, 82, 83, 84, 85, 86, 87, 88, 89, 90, 91, 92] (by decide +kernel) (by decide +kernel)
set_option maxRecDepth 20000 in
theorem gX8_codes_X8_setControl : GoodIn wsX8_codes (wsV RX8 195 RX8 yX8_setControl wsX8_setControl) := goodIn_app (goodIn_of _ (by decide +kernel)) ggX8_codes_X8_setControl
theorem dX8_codes_0 : decode cX8_codes 0 = .ok (.iload_n 1, 1) := by decide +kernel
theorem dX8_codes_1 : decode cX8_codes 1 = .ok (.bipush 63, 2) := by decide +kernel
theorem dX8_codes_3 : decode cX8_codes 3 = .ok (.iand, 1) := by decide +kernel
theorem dX8_codes_4 : decode cX8_codes 4 = .ok (.istore_n 2, 1) := by decide +kernel
theorem dX8_codes_5 : decode cX8_codes 5 = .ok (.iload_n 1, 1) := by decide +kernel
theorem dX8_codes_6 : decode cX8_codes 6 = .ok (.bipush 11, 2) := by decide +kernel
theorem dX8_codes_8 : decode cX8_codes 8 = .ok (.invokestatic 165, 3) := by decide +kernel
theorem dX8_codes_11 : decode cX8_codes 11 = .ok (.istore_n 3, 1) := by decide +kernel
theorem dX8_codes_12 : decode cX8_codes 12 = .ok (.iload_n 1, 1) := by decide +kernel
theorem dX8_codes_13 : decode cX8_codes 13 = .ok (.bipush 9, 2) := by decide +kernel
theorem dX8_codes_15 : decode cX8_codes 15 = .ok (.invokestatic 165, 3) := by decide +kernel
theorem dX8_codes_18 : decode cX8_codes 18 = .ok (.istore 4, 2) := by decide +kernel
theorem dX8_codes_20 : decode cX8_codes 20 = .ok (.iload_n 1, 1) := by decide +kernel
theorem dX8_codes_21 : decode cX8_codes 21 = .ok (.bipush 6, 2) := by decide +kernel
theorem dX8_codes_23 : decode cX8_codes 23 = .ok (.ishr, 1) := by decide +kernel
theorem dX8_codes_24 : decode cX8_codes 24 = .ok (.bipush 7, 2) := by decide +kernel
theorem dX8_codes_26 : decode cX8_codes 26 = .ok (.iand, 1) := by decide +kernel
theorem dX8_codes_27 : decode cX8_codes 27 = .ok (.istore 5, 2) := by decide +kernel
theorem dX8_codes_29 : decode cX8_codes 29 = .ok (.iload_n 3, 1) := by decide +kernel
theorem dX8_codes_30 : decode cX8_codes 30 = .ok (.ifCond .eq 10, 3) := by decide +kernel
theorem dX8_codes_33 : decode cX8_codes 33 = .ok (.aload_n 0, 1) := by decide +kernel
theorem dX8_codes_34 : decode cX8_codes 34 = .ok (.getfield 81, 3) := by decide +kernel
theorem dX8_codes_37 : decode cX8_codes 37 = .ok (.goto 7, 3) := by decide +kernel
theorem dX8_codes_40 : decode cX8_codes 40 = .ok (.aload_n 0, 1) := by decide +kernel
theorem dX8_codes_41 : decode cX8_codes 41 = .ok (.getfield 78, 3) := by decide +kernel
theorem dX8_codes_44 : decode cX8_codes 44 = .ok (.istore 6, 2) := by decide +kernel
theorem dX8_codes_46 : decode cX8_codes 46 = .ok (.iload 5, 2) := by decide +kernel
theorem dX8_codes_48 : decode cX8_codes 48 = .ok (.tableswitch 140 0 6 #[44, 57, 75, 95, 107, 120, 130], 44) := by decide +kernel
theorem dX8_codes_92 : decode cX8_codes 92 = .ok (.aload_n 0, 1) := by decide +kernel
theorem dX8_codes_93 : decode cX8_codes 93 = .ok (.iconst 1, 1) := by decide +kernel
theorem dX8_codes_94 : decode cX8_codes 94 = .ok (.putfield 91, 3) := by decide +kernel
theorem dX8_codes_97 : decode cX8_codes 97 = .ok (.aload_n 0, 1) := by decide +kernel
theorem dX8_codes_98 : decode cX8_codes 98 = .ok (.iload_n 2, 1) := by decide +kernel
theorem dX8_codes_99 : decode cX8_codes 99 = .ok (.putfield 13, 3) := by decide +kernel
theorem dX8_codes_102 : decode cX8_codes 102 = .ok (.goto 100, 3) := by decide +kernel
theorem dX8_codes_105 : decode cX8_codes 105 = .ok (.aload_n 0, 1) := by decide +kernel
theorem dX8_codes_106 : decode cX8_codes 106 = .ok (.iload_n 2, 1) := by decide +kernel
theorem dX8_codes_107 : decode cX8_codes 107 = .ok (.iload 4, 2) := by decide +kernel
theorem dX8_codes_109 : decode cX8_codes 109 = .ok (.ifCond .ne 7, 3) := by decide +kernel
theorem dX8_codes_112 : decode cX8_codes 112 = .ok (.iconst 1, 1) := by decide +kernel
theorem dX8_codes_113 : decode cX8_codes 113 = .ok (.goto 4, 3) := by decide +kernel
theorem dX8_codes_116 : decode cX8_codes 116 = .ok (.iconst 0, 1) := by decide +kernel
theorem dX8_codes_117 : decode cX8_codes 117 = .ok (.invokevirtual 181, 3) := by decide +kernel
theorem dX8_codes_120 : decode cX8_codes 120 = .ok (.goto 82, 3) := by decide +kernel
theorem dX8_codes_123 : decode cX8_codes 123 = .ok (.aload_n 0, 1) := by decide +kernel
theorem dX8_codes_124 : decode cX8_codes 124 = .ok (.aload_n 0, 1) := by decide +kernel
theorem dX8_codes_125 : decode cX8_codes 125 = .ok (.iload_n 2, 1) := by decide +kernel
theorem dX8_codes_126 : decode cX8_codes 126 = .ok (.invokevirtual 185, 3) := by decide +kernel
theorem dX8_codes_129 : decode cX8_codes 129 = .ok (.ifCond .ne 7, 3) := by decide +kernel
theorem dX8_codes_132 : decode cX8_codes 132 = .ok (.iconst 1, 1) := by decide +kernel
theorem dX8_codes_133 : decode cX8_codes 133 = .ok (.goto 4, 3) := by decide +kernel
theorem dX8_codes_136 : decode cX8_codes 136 = .ok (.iconst 0, 1) := by decide +kernel
theorem dX8_codes_137 : decode cX8_codes 137 = .ok (.invokevirtual 147, 3) := by decide +kernel
theorem dX8_codes_140 : decode cX8_codes 140 = .ok (.goto 62, 3) := by decide +kernel
theorem dX8_codes_143 : decode cX8_codes 143 = .ok (.aload_n 0, 1) := by decide +kernel
theorem dX8_codes_144 : decode cX8_codes 144 = .ok (.aload_n 0, 1) := by decide +kernel
theorem dX8_codes_145 : decode cX8_codes 145 = .ok (.iload_n 2, 1) := by decide +kernel
theorem dX8_codes_146 : decode cX8_codes 146 = .ok (.invokevirtual 185, 3) := by decide +kernel
theorem dX8_codes_149 : decode cX8_codes 149 = .ok (.invokevirtual 147, 3) := by decide +kernel
theorem dX8_codes_152 : decode cX8_codes 152 = .ok (.goto 50, 3) := by decide +kernel
theorem dX8_codes_155 : decode cX8_codes 155 = .ok (.iload 6, 2) := by decide +kernel
theorem dX8_codes_157 : decode cX8_codes 157 = .ok (.aload_n 0, 1) := by decide +kernel
theorem dX8_codes_158 : decode cX8_codes 158 = .ok (.iload_n 2, 1) := by decide +kernel
theorem dX8_codes_159 : decode cX8_codes 159 = .ok (.invokevirtual 189, 3) := by decide +kernel
theorem dX8_codes_162 : decode cX8_codes 162 = .ok (.ior, 1) := by decide +kernel
theorem dX8_codes_163 : decode cX8_codes 163 = .ok (.istore 6, 2) := by decide +kernel
theorem dX8_codes_165 : decode cX8_codes 165 = .ok (.goto 37, 3) := by decide +kernel
theorem dX8_codes_168 : decode cX8_codes 168 = .ok (.aload_n 0, 1) := by decide +kernel
theorem dX8_codes_169 : decode cX8_codes 169 = .ok (.iload_n 2, 1) := by decide +kernel
theorem dX8_codes_170 : decode cX8_codes 170 = .ok (.invokevirtual 189, 3) := by decide +kernel
theorem dX8_codes_173 : decode cX8_codes 173 = .ok (.istore 6, 2) := by decide +kernel
theorem dX8_codes_175 : decode cX8_codes 175 = .ok (.goto 27, 3) := by decide +kernel
theorem dX8_codes_178 : decode cX8_codes 178 = .ok (.aload_n 0, 1) := by decide +kernel
theorem dX8_codes_179 : decode cX8_codes 179 = .ok (.iload_n 2, 1) := by decide +kernel
theorem dX8_codes_180 : decode cX8_codes 180 = .ok (.iload 6, 2) := by decide +kernel
theorem dX8_codes_182 : decode cX8_codes 182 = .ok (.invokevirtual 192, 3) := by decide +kernel
theorem dX8_codes_185 : decode cX8_codes 185 = .ok (.goto 17, 3) := by decide +kernel
theorem dX8_codes_188 : decode cX8_codes 188 = .ok (.aload_n 0, 1) := by decide +kernel
theorem dX8_codes_189 : decode cX8_codes 189 = .ok (.iload_n 2, 1) := by decide +kernel
theorem dX8_codes_190 : decode cX8_codes 190 = .ok (.iload_n 3, 1) := by decide +kernel
theorem dX8_codes_191 : decode cX8_codes 191 = .ok (.ifCond .ne 7, 3) := by decide +kernel
theorem dX8_codes_194 : decode cX8_codes 194 = .ok (.iconst 1, 1) := by decide +kernel
theorem dX8_codes_195 : decode cX8_codes 195 = .ok (.goto 4, 3) := by decide +kernel
theorem dX8_codes_198 : decode cX8_codes 198 = .ok (.iconst 0, 1) := by decide +kernel
theorem dX8_codes_199 : decode cX8_codes 199 = .ok (.invokevirtual 195, 3) := by decide +kernel
theorem dX8_codes_202 : decode cX8_codes 202 = .ok (.iload 5, 2) := by decide +kernel
theorem dX8_codes_204 : decode cX8_codes 204 = .ok (.iconst 4, 1) := by decide +kernel
theorem dX8_codes_205 : decode cX8_codes 205 = .ok (.if_icmp .eq 9, 3) := by decide +kernel
theorem dX8_codes_208 : decode cX8_codes 208 = .ok (.iload 5, 2) := by decide +kernel
theorem dX8_codes_210 : decode cX8_codes 210 = .ok (.iconst 5, 1) := by decide +kernel
