theorem dX8_init_0 : decode cX8_init 0 = .ok (.aload_n 0, 1) := by decide +kernel
theorem dX8_init_1 : decode cX8_init 1 = .ok (.invokespecial 1, 3) := by decide +kernel
theorem dX8_init_4 : decode cX8_init 4 = .ok (.aload_n 0, 1) := by decide +kernel
theorem dX8_init_5 : decode cX8_init 5 = .ok (.sipush 4096, 3) := by decide +kernel
theorem dX8_init_8 : decode cX8_init 8 = .ok (.newarray .int, 2) := by decide +kernel
theorem dX8_init_10 : decode cX8_init 10 = .ok (.putfield 9, 3) := by decide +kernel
theorem dX8_init_13 : decode cX8_init 13 = .ok (.aload_n 0, 1) := by decide +kernel
theorem dX8_init_14 : decode cX8_init 14 = .ok (.iconst (-1), 1) := by decide +kernel
theorem dX8_init_15 : decode cX8_init 15 = .ok (.putfield 13, 3) := by decide +kernel
theorem dX8_init_18 : decode cX8_init 18 = .ok (.aload_n 0, 1) := by decide +kernel
theorem dX8_init_19 : decode cX8_init 19 = .ok (.iconst (-1), 1) := by decide +kernel
theorem dX8_init_20 : decode cX8_init 20 = .ok (.putfield 17, 3) := by decide +kernel
theorem dX8_init_23 : decode cX8_init 23 = .ok (.aload_n 0, 1) := by decide +kernel
theorem dX8_init_24 : decode cX8_init 24 = .ok (.bipush 12, 2) := by decide +kernel
theorem dX8_init_26 : decode cX8_init 26 = .ok (.newarray .boolean, 2) := by decide +kernel
theorem dX8_init_28 : decode cX8_init 28 = .ok (.putfield 20, 3) := by decide +kernel
theorem dX8_init_31 : decode cX8_init 31 = .ok (.aload_n 0, 1) := by decide +kernel
theorem dX8_init_32 : decode cX8_init 32 = .ok (.bipush 12, 2) := by decide +kernel
theorem dX8_init_34 : decode cX8_init 34 = .ok (.newarray .boolean, 2) := by decide +kernel
theorem dX8_init_36 : decode cX8_init 36 = .ok (.putfield 24, 3) := by decide +kernel
theorem dX8_init_39 : decode cX8_init 39 = .ok (.aload_n 0, 1) := by decide +kernel
theorem dX8_init_40 : decode cX8_init 40 = .ok (.bipush 12, 2) := by decide +kernel
theorem dX8_init_42 : decode cX8_init 42 = .ok (.newarray .boolean, 2) := by decide +kernel
theorem dX8_init_44 : decode cX8_init 44 = .ok (.putfield 27, 3) := by decide +kernel
theorem dX8_init_47 : decode cX8_init 47 = .ok (.aload_n 0, 1) := by decide +kernel
theorem dX8_init_48 : decode cX8_init 48 = .ok (.bipush 12, 2) := by decide +kernel
theorem dX8_init_50 : decode cX8_init 50 = .ok (.newarray .boolean, 2) := by decide +kernel
theorem dX8_init_52 : decode cX8_init 52 = .ok (.putfield 30, 3) := by decide +kernel
theorem dX8_init_55 : decode cX8_init 55 = .ok (.aload_n 0, 1) := by decide +kernel
theorem dX8_init_56 : decode cX8_init 56 = .ok (.bipush 12, 2) := by decide +kernel
theorem dX8_init_58 : decode cX8_init 58 = .ok (.newarray .boolean, 2) := by decide +kernel
theorem dX8_init_60 : decode cX8_init 60 = .ok (.putfield 33, 3) := by decide +kernel
theorem dX8_init_63 : decode cX8_init 63 = .ok (.aload_n 0, 1) := by decide +kernel
theorem dX8_init_64 : decode cX8_init 64 = .ok (.bipush 12, 2) := by decide +kernel
theorem dX8_init_66 : decode cX8_init 66 = .ok (.newarray .boolean, 2) := by decide +kernel
theorem dX8_init_68 : decode cX8_init 68 = .ok (.putfield 36, 3) := by decide +kernel
theorem dX8_init_71 : decode cX8_init 71 = .ok (.aload_n 0, 1) := by decide +kernel
theorem dX8_init_72 : decode cX8_init 72 = .ok (.bipush 12, 2) := by decide +kernel
theorem dX8_init_74 : decode cX8_init 74 = .ok (.newarray .int, 2) := by decide +kernel
theorem dX8_init_76 : decode cX8_init 76 = .ok (.putfield 39, 3) := by decide +kernel
theorem dX8_init_79 : decode cX8_init 79 = .ok (.aload_n 0, 1) := by decide +kernel
theorem dX8_init_80 : decode cX8_init 80 = .ok (.bipush 12, 2) := by decide +kernel
theorem dX8_init_82 : decode cX8_init 82 = .ok (.newarray .int, 2) := by decide +kernel
theorem dX8_init_84 : decode cX8_init 84 = .ok (.putfield 42, 3) := by decide +kernel
theorem dX8_init_87 : decode cX8_init 87 = .ok (.aload_n 0, 1) := by decide +kernel
theorem dX8_init_88 : decode cX8_init 88 = .ok (.bipush 12, 2) := by decide +kernel
theorem dX8_init_90 : decode cX8_init 90 = .ok (.newarray .int, 2) := by decide +kernel
theorem dX8_init_92 : decode cX8_init 92 = .ok (.putfield 45, 3) := by decide +kernel
theorem dX8_init_95 : decode cX8_init 95 = .ok (.aload_n 0, 1) := by decide +kernel
theorem dX8_init_96 : decode cX8_init 96 = .ok (.bipush 12, 2) := by decide +kernel
theorem dX8_init_98 : decode cX8_init 98 = .ok (.newarray .int, 2) := by decide +kernel
theorem dX8_init_100 : decode cX8_init 100 = .ok (.putfield 48, 3) := by decide +kernel
theorem dX8_init_103 : decode cX8_init 103 = .ok (.aload_n 0, 1) := by decide +kernel
theorem dX8_init_104 : decode cX8_init 104 = .ok (.bipush 12, 2) := by decide +kernel
theorem dX8_init_106 : decode cX8_init 106 = .ok (.newarray .boolean, 2) := by decide +kernel
theorem dX8_init_108 : decode cX8_init 108 = .ok (.putfield 51, 3) := by decide +kernel
theorem dX8_init_111 : decode cX8_init 111 = .ok (.aload_n 0, 1) := by decide +kernel
theorem dX8_init_112 : decode cX8_init 112 = .ok (.bipush 12, 2) := by decide +kernel
theorem dX8_init_114 : decode cX8_init 114 = .ok (.newarray .int, 2) := by decide +kernel
theorem dX8_init_116 : decode cX8_init 116 = .ok (.putfield 54, 3) := by decide +kernel
theorem dX8_init_119 : decode cX8_init 119 = .ok (.aload_n 0, 1) := by decide +kernel
theorem dX8_init_120 : decode cX8_init 120 = .ok (.bipush 12, 2) := by decide +kernel
theorem dX8_init_122 : decode cX8_init 122 = .ok (.newarray .int, 2) := by decide +kernel
theorem dX8_init_124 : decode cX8_init 124 = .ok (.putfield 57, 3) := by decide +kernel
theorem dX8_init_127 : decode cX8_init 127 = .ok (.aload_n 0, 1) := by decide +kernel
theorem dX8_init_128 : decode cX8_init 128 = .ok (.bipush 12, 2) := by decide +kernel
theorem dX8_init_130 : decode cX8_init 130 = .ok (.newarray .int, 2) := by decide +kernel
theorem dX8_init_132 : decode cX8_init 132 = .ok (.putfield 60, 3) := by decide +kernel
theorem dX8_init_135 : decode cX8_init 135 = .ok (.aload_n 0, 1) := by decide +kernel
theorem dX8_init_136 : decode cX8_init 136 = .ok (.bipush 12, 2) := by decide +kernel
theorem dX8_init_138 : decode cX8_init 138 = .ok (.newarray .int, 2) := by decide +kernel
theorem dX8_init_140 : decode cX8_init 140 = .ok (.putfield 63, 3) := by decide +kernel
theorem dX8_init_143 : decode cX8_init 143 = .ok (.aload_n 0, 1) := by decide +kernel
theorem dX8_init_144 : decode cX8_init 144 = .ok (.bipush 12, 2) := by decide +kernel
theorem dX8_init_146 : decode cX8_init 146 = .ok (.newarray .int, 2) := by decide +kernel
theorem dX8_init_148 : decode cX8_init 148 = .ok (.putfield 66, 3) := by decide +kernel
theorem dX8_init_151 : decode cX8_init 151 = .ok (.aload_n 0, 1) := by decide +kernel
theorem dX8_init_152 : decode cX8_init 152 = .ok (.sipush 1200, 3) := by decide +kernel
theorem dX8_init_155 : decode cX8_init 155 = .ok (.newarray .int, 2) := by decide +kernel
theorem dX8_init_157 : decode cX8_init 157 = .ok (.putfield 69, 3) := by decide +kernel
theorem dX8_init_160 : decode cX8_init 160 = .ok (.aload_n 0, 1) := by decide +kernel
theorem dX8_init_161 : decode cX8_init 161 = .ok (.sipush 2400, 3) := by decide +kernel
theorem dX8_init_164 : decode cX8_init 164 = .ok (.newarray .int, 2) := by decide +kernel
theorem dX8_init_166 : decode cX8_init 166 = .ok (.putfield 72, 3) := by decide +kernel
theorem dX8_init_169 : decode cX8_init 169 = .ok (.bipush 8, 2) := by decide +kernel
theorem dX8_init_171 : decode cX8_init 171 = .ok (.istore_n 1, 1) := by decide +kernel
theorem dX8_init_172 : decode cX8_init 172 = .ok (.iload_n 1, 1) := by decide +kernel
theorem dX8_init_173 : decode cX8_init 173 = .ok (.bipush 12, 2) := by decide +kernel
theorem dX8_init_175 : decode cX8_init 175 = .ok (.if_icmp .ge 16, 3) := by decide +kernel
theorem dX8_init_178 : decode cX8_init 178 = .ok (.aload_n 0, 1) := by decide +kernel
theorem dX8_init_179 : decode cX8_init 179 = .ok (.getfield 54, 3) := by decide +kernel
theorem dX8_init_182 : decode cX8_init 182 = .ok (.iload_n 1, 1) := by decide +kernel
theorem dX8_init_183 : decode cX8_init 183 = .ok (.iconst 1, 1) := by decide +kernel
theorem dX8_init_184 : decode cX8_init 184 = .ok (.iastore, 1) := by decide +kernel
theorem dX8_init_185 : decode cX8_init 185 = .ok (.iinc 1 1, 3) := by decide +kernel
theorem dX8_init_188 : decode cX8_init 188 = .ok (.goto (-16), 3) := by decide +kernel
theorem dX8_init_191 : decode cX8_init 191 = .ok (.return_, 1) := by decide +kernel
theorem dX8_thrown_0 : decode cX8_thrown 0 = .ok (.aload_n 0, 1) := by decide +kernel
theorem dX8_thrown_1 : decode cX8_thrown 1 = .ok (.getfield 75, 3) := by decide +kernel
theorem dX8_thrown_4 : decode cX8_thrown 4 = .ok (.ireturn, 1) := by decide +kernel
theorem dX8_at_0 : decode cX8_at 0 = .ok (.iload_n 1, 1) := by decide +kernel
theorem dX8_at_1 : decode cX8_at 1 = .ok (.ifCond .ne 10, 3) := by decide +kernel
theorem dX8_at_4 : decode cX8_at 4 = .ok (.aload_n 0, 1) := by decide +kernel
theorem dX8_at_5 : decode cX8_at 5 = .ok (.getfield 78, 3) := by decide +kernel
theorem dX8_at_8 : decode cX8_at 8 = .ok (.goto 32, 3) := by decide +kernel
theorem dX8_at_11 : decode cX8_at 11 = .ok (.iload_n 1, 1) := by decide +kernel
theorem dX8_at_12 : decode cX8_at 12 = .ok (.iconst 1, 1) := by decide +kernel
theorem dX8_at_13 : decode cX8_at 13 = .ok (.if_icmp .ne 10, 3) := by decide +kernel
theorem dX8_at_16 : decode cX8_at 16 = .ok (.aload_n 0, 1) := by decide +kernel
theorem dX8_at_17 : decode cX8_at 17 = .ok (.getfield 81, 3) := by decide +kernel
theorem dX8_at_20 : decode cX8_at 20 = .ok (.goto 20, 3) := by decide +kernel
theorem dX8_at_23 : decode cX8_at 23 = .ok (.iload_n 1, 1) := by decide +kernel
theorem dX8_at_24 : decode cX8_at 24 = .ok (.sipush 4096, 3) := by decide +kernel
theorem dX8_at_27 : decode cX8_at 27 = .ok (.if_icmp .ge 12, 3) := by decide +kernel
theorem dX8_at_30 : decode cX8_at 30 = .ok (.aload_n 0, 1) := by decide +kernel
theorem dX8_at_31 : decode cX8_at 31 = .ok (.getfield 9, 3) := by decide +kernel
theorem dX8_at_34 : decode cX8_at 34 = .ok (.iload_n 1, 1) := by decide +kernel
theorem dX8_at_35 : decode cX8_at 35 = .ok (.iaload, 1) := by decide +kernel
theorem dX8_at_36 : decode cX8_at 36 = .ok (.goto 4, 3) := by decide +kernel
theorem dX8_at_39 : decode cX8_at 39 = .ok (.iconst 0, 1) := by decide +kernel
theorem dX8_at_40 : decode cX8_at 40 = .ok (.ireturn, 1) := by decide +kernel
theorem dX8_put_0 : decode cX8_put 0 = .ok (.iload_n 1, 1) := by decide +kernel
theorem dX8_put_1 : decode cX8_put 1 = .ok (.ifCond .ne 11, 3) := by decide +kernel
theorem dX8_put_4 : decode cX8_put 4 = .ok (.aload_n 0, 1) := by decide +kernel
theorem dX8_put_5 : decode cX8_put 5 = .ok (.iload_n 2, 1) := by decide +kernel
theorem dX8_put_6 : decode cX8_put 6 = .ok (.putfield 78, 3) := by decide +kernel
theorem dX8_put_9 : decode cX8_put 9 = .ok (.goto 30, 3) := by decide +kernel
theorem dX8_put_12 : decode cX8_put 12 = .ok (.iload_n 1, 1) := by decide +kernel
theorem dX8_put_13 : decode cX8_put 13 = .ok (.iconst 1, 1) := by decide +kernel
theorem dX8_put_14 : decode cX8_put 14 = .ok (.if_icmp .ne 11, 3) := by decide +kernel
theorem dX8_put_17 : decode cX8_put 17 = .ok (.aload_n 0, 1) := by decide +kernel
theorem dX8_put_18 : decode cX8_put 18 = .ok (.iload_n 2, 1) := by decide +kernel
theorem dX8_put_19 : decode cX8_put 19 = .ok (.putfield 81, 3) := by decide +kernel
theorem dX8_put_22 : decode cX8_put 22 = .ok (.goto 17, 3) := by decide +kernel
theorem dX8_put_25 : decode cX8_put 25 = .ok (.iload_n 1, 1) := by decide +kernel
theorem dX8_put_26 : decode cX8_put 26 = .ok (.sipush 4096, 3) := by decide +kernel
theorem dX8_put_29 : decode cX8_put 29 = .ok (.if_icmp .ge 10, 3) := by decide +kernel
theorem dX8_put_32 : decode cX8_put 32 = .ok (.aload_n 0, 1) := by decide +kernel
theorem dX8_put_33 : decode cX8_put 33 = .ok (.getfield 9, 3) := by decide +kernel
theorem dX8_put_36 : decode cX8_put 36 = .ok (.iload_n 1, 1) := by decide +kernel
theorem dX8_put_37 : decode cX8_put 37 = .ok (.iload_n 2, 1) := by decide +kernel
theorem dX8_put_38 : decode cX8_put 38 = .ok (.iastore, 1) := by decide +kernel
theorem dX8_put_39 : decode cX8_put 39 = .ok (.return_, 1) := by decide +kernel
theorem dX8_more_0 : decode cX8_more 0 = .ok (.iload_n 0, 1) := by decide +kernel
theorem dX8_more_1 : decode cX8_more 1 = .ok (.iconst 1, 1) := by decide +kernel
theorem dX8_more_2 : decode cX8_more 2 = .ok (.iadd, 1) := by decide +kernel
theorem dX8_more_3 : decode cX8_more 3 = .ok (.sipush 32767, 3) := by decide +kernel
theorem dX8_more_6 : decode cX8_more 6 = .ok (.iand, 1) := by decide +kernel
theorem dX8_more_7 : decode cX8_more 7 = .ok (.ireturn, 1) := by decide +kernel
set_option maxRecDepth 20000 in
theorem ggX8_skip_X8_more : GoodIn wsX8_skip wsX8_more := goodIn_r _ [5] (by decide +kernel) (by decide +kernel)
set_option maxRecDepth 20000 in
theorem gX8_skip_X8_more : GoodIn wsX8_skip (va_wsS RX8 87 yX8_more wsX8_more) := goodIn_app (goodIn_of _ (by decide +kernel)) ggX8_skip_X8_more
theorem dX8_skip_0 : decode cX8_skip 0 = .ok (.iload_n 1, 1) := by decide +kernel
theorem dX8_skip_1 : decode cX8_skip 1 = .ok (.ifCond .eq 14, 3) := by decide +kernel
theorem dX8_skip_4 : decode cX8_skip 4 = .ok (.aload_n 0, 1) := by decide +kernel
theorem dX8_skip_5 : decode cX8_skip 5 = .ok (.aload_n 0, 1) := by decide +kernel
theorem dX8_skip_6 : decode cX8_skip 6 = .ok (.getfield 84, 3) := by decide +kernel
theorem dX8_skip_9 : decode cX8_skip 9 = .ok (.invokestatic 87, 3) := by decide +kernel
theorem dX8_skip_12 : decode cX8_skip 12 = .ok (.putfield 84, 3) := by decide +kernel
theorem dX8_skip_15 : decode cX8_skip 15 = .ok (.return_, 1) := by decide +kernel
set_option maxRecDepth 20000 in
theorem ggX8_direct_X8_at : GoodIn wsX8_direct wsX8_at := goodIn_r _ [7, 8, 9, 10, 11, 12, 13, 14, 15, 16, 17, 18, 19, 20, 21, 22, 23, 24, 25, 26, 27, 28, 29, 30, 31, 32, 33, 34, 35, 36, 37, 38, 39, 40, 41, 42, 43, 44, 45] (by decide +kernel) (by decide +kernel)
set_option maxRecDepth 20000 in
theorem gX8_direct_X8_at : GoodIn wsX8_direct (wsV RX8 95 RX8 yX8_at wsX8_at) := goodIn_app (goodIn_of _ (by decide +kernel)) ggX8_direct_X8_at
theorem dX8_direct_0 : decode cX8_direct 0 = .ok (.iload_n 1, 1) := by decide +kernel
theorem dX8_direct_1 : decode cX8_direct 1 = .ok (.istore_n 2, 1) := by decide +kernel
theorem dX8_direct_2 : decode cX8_direct 2 = .ok (.iconst 0, 1) := by decide +kernel
theorem dX8_direct_3 : decode cX8_direct 3 = .ok (.istore_n 3, 1) := by decide +kernel
theorem dX8_direct_4 : decode cX8_direct 4 = .ok (.iload_n 2, 1) := by decide +kernel
theorem dX8_direct_5 : decode cX8_direct 5 = .ok (.bipush 15, 2) := by decide +kernel
theorem dX8_direct_7 : decode cX8_direct 7 = .ok (.ishr, 1) := by decide +kernel
theorem dX8_direct_8 : decode cX8_direct 8 = .ok (.iconst 1, 1) := by decide +kernel
theorem dX8_direct_9 : decode cX8_direct 9 = .ok (.if_icmp .ne 38, 3) := by decide +kernel
theorem dX8_direct_12 : decode cX8_direct 12 = .ok (.iinc 3 1, 3) := by decide +kernel
theorem dX8_direct_15 : decode cX8_direct 15 = .ok (.iload_n 3, 1) := by decide +kernel
theorem dX8_direct_16 : decode cX8_direct 16 = .ok (.bipush 33, 2) := by decide +kernel
theorem dX8_direct_18 : decode cX8_direct 18 = .ok (.if_icmp .ne 16, 3) := by decide +kernel
theorem dX8_direct_21 : decode cX8_direct 21 = .ok (.aload_n 0, 1) := by decide +kernel
theorem dX8_direct_22 : decode cX8_direct 22 = .ok (.iconst 1, 1) := by decide +kernel
theorem dX8_direct_23 : decode cX8_direct 23 = .ok (.putfield 91, 3) := by decide +kernel
theorem dX8_direct_26 : decode cX8_direct 26 = .ok (.aload_n 0, 1) := by decide +kernel
theorem dX8_direct_27 : decode cX8_direct 27 = .ok (.bipush 64, 2) := by decide +kernel
theorem dX8_direct_29 : decode cX8_direct 29 = .ok (.putfield 13, 3) := by decide +kernel
theorem dX8_direct_32 : decode cX8_direct 32 = .ok (.iconst (-1), 1) := by decide +kernel
theorem dX8_direct_33 : decode cX8_direct 33 = .ok (.ireturn, 1) := by decide +kernel
theorem dX8_direct_34 : decode cX8_direct 34 = .ok (.aload_n 0, 1) := by decide +kernel
theorem dX8_direct_35 : decode cX8_direct 35 = .ok (.iload_n 2, 1) := by decide +kernel
theorem dX8_direct_36 : decode cX8_direct 36 = .ok (.sipush 32767, 3) := by decide +kernel
theorem dX8_direct_39 : decode cX8_direct 39 = .ok (.iand, 1) := by decide +kernel
theorem dX8_direct_40 : decode cX8_direct 40 = .ok (.invokevirtual 95, 3) := by decide +kernel
theorem dX8_direct_43 : decode cX8_direct 43 = .ok (.istore_n 2, 1) := by decide +kernel
theorem dX8_direct_44 : decode cX8_direct 44 = .ok (.goto (-40), 3) := by decide +kernel
theorem dX8_direct_47 : decode cX8_direct 47 = .ok (.iload_n 2, 1) := by decide +kernel
theorem dX8_direct_48 : decode cX8_direct 48 = .ok (.ireturn, 1) := by decide +kernel
theorem dX8_started_0 : decode cX8_started 0 = .ok (.aload_n 0, 1) := by decide +kernel
theorem dX8_started_1 : decode cX8_started 1 = .ok (.getfield 60, 3) := by decide +kernel
theorem dX8_started_4 : decode cX8_started 4 = .ok (.iload_n 1, 1) := by decide +kernel
theorem dX8_started_5 : decode cX8_started 5 = .ok (.aload_n 0, 1) := by decide +kernel
theorem dX8_started_6 : decode cX8_started 6 = .ok (.getfield 54, 3) := by decide +kernel
theorem dX8_started_9 : decode cX8_started 9 = .ok (.iload_n 1, 1) := by decide +kernel
theorem dX8_started_10 : decode cX8_started 10 = .ok (.iaload, 1) := by decide +kernel
theorem dX8_started_11 : decode cX8_started 11 = .ok (.iastore, 1) := by decide +kernel
theorem dX8_started_12 : decode cX8_started 12 = .ok (.return_, 1) := by decide +kernel
theorem dX8_ready_0 : decode cX8_ready 0 = .ok (.aload_n 0, 1) := by decide +kernel
theorem dX8_ready_1 : decode cX8_ready 1 = .ok (.getfield 51, 3) := by decide +kernel
theorem dX8_ready_4 : decode cX8_ready 4 = .ok (.iload_n 1, 1) := by decide +kernel
theorem dX8_ready_5 : decode cX8_ready 5 = .ok (.baload, 1) := by decide +kernel
theorem dX8_ready_6 : decode cX8_ready 6 = .ok (.ifCond .eq 51, 3) := by decide +kernel
theorem dX8_ready_9 : decode cX8_ready 9 = .ok (.aload_n 0, 1) := by decide +kernel
theorem dX8_ready_10 : decode cX8_ready 10 = .ok (.getfield 66, 3) := by decide +kernel
theorem dX8_ready_13 : decode cX8_ready 13 = .ok (.iload_n 1, 1) := by decide +kernel
theorem dX8_ready_14 : decode cX8_ready 14 = .ok (.iaload, 1) := by decide +kernel
theorem dX8_ready_15 : decode cX8_ready 15 = .ok (.sipush 200, 3) := by decide +kernel
theorem dX8_ready_18 : decode cX8_ready 18 = .ok (.if_icmp .ge 26, 3) := by decide +kernel
theorem dX8_ready_21 : decode cX8_ready 21 = .ok (.aload_n 0, 1) := by decide +kernel
theorem dX8_ready_22 : decode cX8_ready 22 = .ok (.getfield 72, 3) := by decide +kernel
theorem dX8_ready_25 : decode cX8_ready 25 = .ok (.sipush 200, 3) := by decide +kernel
theorem dX8_ready_28 : decode cX8_ready 28 = .ok (.iload_n 1, 1) := by decide +kernel
theorem dX8_ready_29 : decode cX8_ready 29 = .ok (.imul, 1) := by decide +kernel
theorem dX8_ready_30 : decode cX8_ready 30 = .ok (.aload_n 0, 1) := by decide +kernel
theorem dX8_ready_31 : decode cX8_ready 31 = .ok (.getfield 66, 3) := by decide +kernel
theorem dX8_ready_34 : decode cX8_ready 34 = .ok (.iload_n 1, 1) := by decide +kernel
theorem dX8_ready_35 : decode cX8_ready 35 = .ok (.iaload, 1) := by decide +kernel
theorem dX8_ready_36 : decode cX8_ready 36 = .ok (.iadd, 1) := by decide +kernel
theorem dX8_ready_37 : decode cX8_ready 37 = .ok (.aload_n 0, 1) := by decide +kernel
theorem dX8_ready_38 : decode cX8_ready 38 = .ok (.getfield 57, 3) := by decide +kernel
theorem dX8_ready_41 : decode cX8_ready 41 = .ok (.iload_n 1, 1) := by decide +kernel
theorem dX8_ready_42 : decode cX8_ready 42 = .ok (.iaload, 1) := by decide +kernel
theorem dX8_ready_43 : decode cX8_ready 43 = .ok (.iastore, 1) := by decide +kernel
theorem dX8_ready_44 : decode cX8_ready 44 = .ok (.aload_n 0, 1) := by decide +kernel
theorem dX8_ready_45 : decode cX8_ready 45 = .ok (.getfield 66, 3) := by decide +kernel
theorem dX8_ready_48 : decode cX8_ready 48 = .ok (.iload_n 1, 1) := by decide +kernel
theorem dX8_ready_49 : decode cX8_ready 49 = .ok (.dup2, 1) := by decide +kernel
theorem dX8_ready_50 : decode cX8_ready 50 = .ok (.iaload, 1) := by decide +kernel
theorem dX8_ready_51 : decode cX8_ready 51 = .ok (.iconst 1, 1) := by decide +kernel
theorem dX8_ready_52 : decode cX8_ready 52 = .ok (.iadd, 1) := by decide +kernel
theorem dX8_ready_53 : decode cX8_ready 53 = .ok (.iastore, 1) := by decide +kernel
theorem dX8_ready_54 : decode cX8_ready 54 = .ok (.goto 86, 3) := by decide +kernel
theorem dX8_ready_57 : decode cX8_ready 57 = .ok (.aload_n 0, 1) := by decide +kernel
theorem dX8_ready_58 : decode cX8_ready 58 = .ok (.getfield 57, 3) := by decide +kernel
theorem dX8_ready_61 : decode cX8_ready 61 = .ok (.iload_n 1, 1) := by decide +kernel
theorem dX8_ready_62 : decode cX8_ready 62 = .ok (.iconst 0, 1) := by decide +kernel
theorem dX8_ready_63 : decode cX8_ready 63 = .ok (.iastore, 1) := by decide +kernel
theorem dX8_ready_64 : decode cX8_ready 64 = .ok (.aload_n 0, 1) := by decide +kernel
theorem dX8_ready_65 : decode cX8_ready 65 = .ok (.getfield 63, 3) := by decide +kernel
theorem dX8_ready_68 : decode cX8_ready 68 = .ok (.iload_n 1, 1) := by decide +kernel
theorem dX8_ready_69 : decode cX8_ready 69 = .ok (.iaload, 1) := by decide +kernel
theorem dX8_ready_70 : decode cX8_ready 70 = .ok (.ifCond .le 70, 3) := by decide +kernel
theorem dX8_ready_73 : decode cX8_ready 73 = .ok (.aload_n 0, 1) := by decide +kernel
theorem dX8_ready_74 : decode cX8_ready 74 = .ok (.getfield 57, 3) := by decide +kernel
theorem dX8_ready_77 : decode cX8_ready 77 = .ok (.iload_n 1, 1) := by decide +kernel
theorem dX8_ready_78 : decode cX8_ready 78 = .ok (.aload_n 0, 1) := by decide +kernel
theorem dX8_ready_79 : decode cX8_ready 79 = .ok (.getfield 69, 3) := by decide +kernel
theorem dX8_ready_82 : decode cX8_ready 82 = .ok (.bipush 100, 2) := by decide +kernel
theorem dX8_ready_84 : decode cX8_ready 84 = .ok (.iload_n 1, 1) := by decide +kernel
theorem dX8_ready_85 : decode cX8_ready 85 = .ok (.imul, 1) := by decide +kernel
theorem dX8_ready_86 : decode cX8_ready 86 = .ok (.iaload, 1) := by decide +kernel
theorem dX8_ready_87 : decode cX8_ready 87 = .ok (.iastore, 1) := by decide +kernel
theorem dX8_ready_88 : decode cX8_ready 88 = .ok (.aload_n 0, 1) := by decide +kernel
theorem dX8_ready_89 : decode cX8_ready 89 = .ok (.getfield 63, 3) := by decide +kernel
theorem dX8_ready_92 : decode cX8_ready 92 = .ok (.iload_n 1, 1) := by decide +kernel
theorem dX8_ready_93 : decode cX8_ready 93 = .ok (.dup2, 1) := by decide +kernel
theorem dX8_ready_94 : decode cX8_ready 94 = .ok (.iaload, 1) := by decide +kernel
theorem dX8_ready_95 : decode cX8_ready 95 = .ok (.iconst 1, 1) := by decide +kernel
theorem dX8_ready_96 : decode cX8_ready 96 = .ok (.isub, 1) := by decide +kernel
theorem dX8_ready_97 : decode cX8_ready 97 = .ok (.iastore, 1) := by decide +kernel
theorem dX8_ready_98 : decode cX8_ready 98 = .ok (.iconst 0, 1) := by decide +kernel
theorem dX8_ready_99 : decode cX8_ready 99 = .ok (.istore_n 2, 1) := by decide +kernel
theorem dX8_ready_100 : decode cX8_ready 100 = .ok (.iload_n 2, 1) := by decide +kernel
theorem dX8_ready_101 : decode cX8_ready 101 = .ok (.aload_n 0, 1) := by decide +kernel
theorem dX8_ready_102 : decode cX8_ready 102 = .ok (.getfield 63, 3) := by decide +kernel
theorem dX8_ready_105 : decode cX8_ready 105 = .ok (.iload_n 1, 1) := by decide +kernel
theorem dX8_ready_106 : decode cX8_ready 106 = .ok (.iaload, 1) := by decide +kernel
theorem dX8_ready_107 : decode cX8_ready 107 = .ok (.if_icmp .ge 33, 3) := by decide +kernel
theorem dX8_ready_110 : decode cX8_ready 110 = .ok (.aload_n 0, 1) := by decide +kernel
theorem dX8_ready_111 : decode cX8_ready 111 = .ok (.getfield 69, 3) := by decide +kernel
theorem dX8_ready_114 : decode cX8_ready 114 = .ok (.bipush 100, 2) := by decide +kernel
theorem dX8_ready_116 : decode cX8_ready 116 = .ok (.iload_n 1, 1) := by decide +kernel
theorem dX8_ready_117 : decode cX8_ready 117 = .ok (.imul, 1) := by decide +kernel
theorem dX8_ready_118 : decode cX8_ready 118 = .ok (.iload_n 2, 1) := by decide +kernel
theorem dX8_ready_119 : decode cX8_ready 119 = .ok (.iadd, 1) := by decide +kernel
theorem dX8_ready_120 : decode cX8_ready 120 = .ok (.aload_n 0, 1) := by decide +kernel
theorem dX8_ready_121 : decode cX8_ready 121 = .ok (.getfield 69, 3) := by decide +kernel
theorem dX8_ready_124 : decode cX8_ready 124 = .ok (.bipush 100, 2) := by decide +kernel
theorem dX8_ready_126 : decode cX8_ready 126 = .ok (.iload_n 1, 1) := by decide +kernel
theorem dX8_ready_127 : decode cX8_ready 127 = .ok (.imul, 1) := by decide +kernel
theorem dX8_ready_128 : decode cX8_ready 128 = .ok (.iload_n 2, 1) := by decide +kernel
theorem dX8_ready_129 : decode cX8_ready 129 = .ok (.iadd, 1) := by decide +kernel
theorem dX8_ready_130 : decode cX8_ready 130 = .ok (.iconst 1, 1) := by decide +kernel
theorem dX8_ready_131 : decode cX8_ready 131 = .ok (.iadd, 1) := by decide +kernel
theorem dX8_ready_132 : decode cX8_ready 132 = .ok (.iaload, 1) := by decide +kernel
theorem dX8_ready_133 : decode cX8_ready 133 = .ok (.iastore, 1) := by decide +kernel
theorem dX8_ready_134 : decode cX8_ready 134 = .ok (.iinc 2 1, 3) := by decide +kernel
theorem dX8_ready_137 : decode cX8_ready 137 = .ok (.goto (-37), 3) := by decide +kernel
theorem dX8_ready_140 : decode cX8_ready 140 = .ok (.aload_n 0, 1) := by decide +kernel
theorem dX8_ready_141 : decode cX8_ready 141 = .ok (.getfield 24, 3) := by decide +kernel
theorem dX8_ready_144 : decode cX8_ready 144 = .ok (.iload_n 1, 1) := by decide +kernel
theorem dX8_ready_145 : decode cX8_ready 145 = .ok (.iconst 1, 1) := by decide +kernel
theorem dX8_ready_146 : decode cX8_ready 146 = .ok (.bastore, 1) := by decide +kernel
theorem dX8_ready_147 : decode cX8_ready 147 = .ok (.aload_n 0, 1) := by decide +kernel
theorem dX8_ready_148 : decode cX8_ready 148 = .ok (.getfield 27, 3) := by decide +kernel
theorem dX8_ready_151 : decode cX8_ready 151 = .ok (.iload_n 1, 1) := by decide +kernel
theorem dX8_ready_152 : decode cX8_ready 152 = .ok (.iconst 1, 1) := by decide +kernel
theorem dX8_ready_153 : decode cX8_ready 153 = .ok (.bastore, 1) := by decide +kernel
theorem dX8_ready_154 : decode cX8_ready 154 = .ok (.return_, 1) := by decide +kernel
set_option maxRecDepth 20000 in
theorem ggX8_channel_X8_put : GoodIn wsX8_channel wsX8_put := goodIn_r _ [16, 17, 18, 19, 33, 34, 35, 36, 37, 38, 39, 40, 41, 42, 43, 44, 45, 46, 47, 48, 49, 50, 51, 52, 53, 54, 55, 56, 57, 58, 59, 60, 61, 62, 63, 64, 65, 66, 67] (by decide +kernel) (by decide +kernel)
set_option maxRecDepth 20000 in
theorem gX8_channel_X8_put : GoodIn wsX8_channel (wsV RX8 98 RX8 yX8_put wsX8_put) := goodIn_app (goodIn_of _ (by decide +kernel)) ggX8_channel_X8_put
set_option maxRecDepth 20000 in
theorem ggX8_channel_X8_at : GoodIn wsX8_channel wsX8_at := goodIn_r _ [23, 17, 18, 19, 33, 34, 35, 36, 37, 38, 39, 40, 41, 42, 43, 44, 45, 46, 47, 48, 49, 50, 51, 52, 53, 54, 55, 56, 57, 58, 59, 60, 61, 62, 63, 64, 65, 66, 67] (by decide +kernel) (by decide +kernel)
set_option maxRecDepth 20000 in
theorem gX8_channel_X8_at : GoodIn wsX8_channel (wsV RX8 95 RX8 yX8_at wsX8_at) := goodIn_app (goodIn_of _ (by decide +kernel)) ggX8_channel_X8_at
set_option maxRecDepth 20000 in
theorem ggX8_channel_X8_more : GoodIn wsX8_channel wsX8_more := goodIn_r _ [26] (by decide +kernel) (by decide +kernel)
set_option maxRecDepth 20000 in
theorem gX8_channel_X8_more : GoodIn wsX8_channel (va_wsS RX8 87 yX8_more wsX8_more) := goodIn_app (goodIn_of _ (by decide +kernel)) ggX8_channel_X8_more
set_option maxRecDepth 20000 in
theorem ggX8_channel_X8_started : GoodIn wsX8_channel wsX8_started := goodIn_r _ [30, 31, 32, 33, 34, 35, 36, 37, 38, 39, 40, 41, 42, 43, 44, 45, 46, 47, 48, 49, 50, 51, 52, 53, 54, 55, 56, 57, 58, 59, 60, 61, 62, 63, 64, 65, 66, 67] (by decide +kernel) (by decide +kernel)
set_option maxRecDepth 20000 in
theorem gX8_channel_X8_started : GoodIn wsX8_channel (wsV RX8 103 RX8 yX8_started wsX8_started) := goodIn_app (goodIn_of _ (by decide +kernel)) ggX8_channel_X8_started
theorem dX8_channel_0 : decode cX8_channel 0 = .ok (.aload_n 0, 1) := by decide +kernel
theorem dX8_channel_1 : decode cX8_channel 1 = .ok (.getfield 45, 3) := by decide +kernel
theorem dX8_channel_4 : decode cX8_channel 4 = .ok (.iload_n 1, 1) := by decide +kernel
theorem dX8_channel_5 : decode cX8_channel 5 = .ok (.iaload, 1) := by decide +kernel
theorem dX8_channel_6 : decode cX8_channel 6 = .ok (.bipush 63, 2) := by decide +kernel
theorem dX8_channel_8 : decode cX8_channel 8 = .ok (.iand, 1) := by decide +kernel
theorem dX8_channel_9 : decode cX8_channel 9 = .ok (.istore_n 2, 1) := by decide +kernel
theorem dX8_channel_10 : decode cX8_channel 10 = .ok (.aload_n 0, 1) := by decide +kernel
theorem dX8_channel_11 : decode cX8_channel 11 = .ok (.getfield 30, 3) := by decide +kernel
theorem dX8_channel_14 : decode cX8_channel 14 = .ok (.iload_n 1, 1) := by decide +kernel
theorem dX8_channel_15 : decode cX8_channel 15 = .ok (.baload, 1) := by decide +kernel
theorem dX8_channel_16 : decode cX8_channel 16 = .ok (.ifCond .eq 24, 3) := by decide +kernel
theorem dX8_channel_19 : decode cX8_channel 19 = .ok (.iload_n 2, 1) := by decide +kernel
theorem dX8_channel_20 : decode cX8_channel 20 = .ok (.bipush 8, 2) := by decide +kernel
theorem dX8_channel_22 : decode cX8_channel 22 = .ok (.if_icmp .lt 18, 3) := by decide +kernel
theorem dX8_channel_25 : decode cX8_channel 25 = .ok (.iload_n 2, 1) := by decide +kernel
theorem dX8_channel_26 : decode cX8_channel 26 = .ok (.bipush 12, 2) := by decide +kernel
theorem dX8_channel_28 : decode cX8_channel 28 = .ok (.if_icmp .ge 12, 3) := by decide +kernel
theorem dX8_channel_31 : decode cX8_channel 31 = .ok (.aload_n 0, 1) := by decide +kernel
theorem dX8_channel_32 : decode cX8_channel 32 = .ok (.getfield 24, 3) := by decide +kernel
theorem dX8_channel_35 : decode cX8_channel 35 = .ok (.iload_n 2, 1) := by decide +kernel
theorem dX8_channel_36 : decode cX8_channel 36 = .ok (.baload, 1) := by decide +kernel
theorem dX8_channel_37 : decode cX8_channel 37 = .ok (.ifCond .ne 4, 3) := by decide +kernel
theorem dX8_channel_40 : decode cX8_channel 40 = .ok (.return_, 1) := by decide +kernel
theorem dX8_channel_41 : decode cX8_channel 41 = .ok (.aload_n 0, 1) := by decide +kernel
theorem dX8_channel_42 : decode cX8_channel 42 = .ok (.getfield 33, 3) := by decide +kernel
theorem dX8_channel_45 : decode cX8_channel 45 = .ok (.iload_n 1, 1) := by decide +kernel
theorem dX8_channel_46 : decode cX8_channel 46 = .ok (.baload, 1) := by decide +kernel
theorem dX8_channel_47 : decode cX8_channel 47 = .ok (.ifCond .eq 22, 3) := by decide +kernel
theorem dX8_channel_50 : decode cX8_channel 50 = .ok (.aload_n 0, 1) := by decide +kernel
theorem dX8_channel_51 : decode cX8_channel 51 = .ok (.aload_n 0, 1) := by decide +kernel
theorem dX8_channel_52 : decode cX8_channel 52 = .ok (.getfield 39, 3) := by decide +kernel
theorem dX8_channel_55 : decode cX8_channel 55 = .ok (.iload_n 1, 1) := by decide +kernel
theorem dX8_channel_56 : decode cX8_channel 56 = .ok (.iaload, 1) := by decide +kernel
theorem dX8_channel_57 : decode cX8_channel 57 = .ok (.aload_n 0, 1) := by decide +kernel
theorem dX8_channel_58 : decode cX8_channel 58 = .ok (.getfield 57, 3) := by decide +kernel
theorem dX8_channel_61 : decode cX8_channel 61 = .ok (.iload_n 2, 1) := by decide +kernel
theorem dX8_channel_62 : decode cX8_channel 62 = .ok (.iaload, 1) := by decide +kernel
theorem dX8_channel_63 : decode cX8_channel 63 = .ok (.invokevirtual 98, 3) := by decide +kernel
theorem dX8_channel_66 : decode cX8_channel 66 = .ok (.goto 19, 3) := by decide +kernel
theorem dX8_channel_69 : decode cX8_channel 69 = .ok (.aload_n 0, 1) := by decide +kernel
theorem dX8_channel_70 : decode cX8_channel 70 = .ok (.getfield 57, 3) := by decide +kernel
theorem dX8_channel_73 : decode cX8_channel 73 = .ok (.iload_n 2, 1) := by decide +kernel
theorem dX8_channel_74 : decode cX8_channel 74 = .ok (.aload_n 0, 1) := by decide +kernel
theorem dX8_channel_75 : decode cX8_channel 75 = .ok (.aload_n 0, 1) := by decide +kernel
theorem dX8_channel_76 : decode cX8_channel 76 = .ok (.getfield 39, 3) := by decide +kernel
theorem dX8_channel_79 : decode cX8_channel 79 = .ok (.iload_n 1, 1) := by decide +kernel
theorem dX8_channel_80 : decode cX8_channel 80 = .ok (.iaload, 1) := by decide +kernel
theorem dX8_channel_81 : decode cX8_channel 81 = .ok (.invokevirtual 95, 3) := by decide +kernel
theorem dX8_channel_84 : decode cX8_channel 84 = .ok (.iastore, 1) := by decide +kernel
theorem dX8_channel_85 : decode cX8_channel 85 = .ok (.aload_n 0, 1) := by decide +kernel
theorem dX8_channel_86 : decode cX8_channel 86 = .ok (.getfield 24, 3) := by decide +kernel
theorem dX8_channel_89 : decode cX8_channel 89 = .ok (.iload_n 2, 1) := by decide +kernel
theorem dX8_channel_90 : decode cX8_channel 90 = .ok (.iconst 0, 1) := by decide +kernel
theorem dX8_channel_91 : decode cX8_channel 91 = .ok (.bastore, 1) := by decide +kernel
theorem dX8_channel_92 : decode cX8_channel 92 = .ok (.aload_n 0, 1) := by decide +kernel
theorem dX8_channel_93 : decode cX8_channel 93 = .ok (.getfield 27, 3) := by decide +kernel
theorem dX8_channel_96 : decode cX8_channel 96 = .ok (.iload_n 2, 1) := by decide +kernel
theorem dX8_channel_97 : decode cX8_channel 97 = .ok (.iconst 0, 1) := by decide +kernel
theorem dX8_channel_98 : decode cX8_channel 98 = .ok (.bastore, 1) := by decide +kernel
theorem dX8_channel_99 : decode cX8_channel 99 = .ok (.aload_n 0, 1) := by decide +kernel
theorem dX8_channel_100 : decode cX8_channel 100 = .ok (.getfield 39, 3) := by decide +kernel
theorem dX8_channel_103 : decode cX8_channel 103 = .ok (.iload_n 1, 1) := by decide +kernel
theorem dX8_channel_104 : decode cX8_channel 104 = .ok (.aload_n 0, 1) := by decide +kernel
theorem dX8_channel_105 : decode cX8_channel 105 = .ok (.getfield 39, 3) := by decide +kernel
theorem dX8_channel_108 : decode cX8_channel 108 = .ok (.iload_n 1, 1) := by decide +kernel
theorem dX8_channel_109 : decode cX8_channel 109 = .ok (.iaload, 1) := by decide +kernel
theorem dX8_channel_110 : decode cX8_channel 110 = .ok (.invokestatic 87, 3) := by decide +kernel
theorem dX8_channel_113 : decode cX8_channel 113 = .ok (.iastore, 1) := by decide +kernel
theorem dX8_channel_114 : decode cX8_channel 114 = .ok (.aload_n 0, 1) := by decide +kernel
theorem dX8_channel_115 : decode cX8_channel 115 = .ok (.getfield 42, 3) := by decide +kernel
theorem dX8_channel_118 : decode cX8_channel 118 = .ok (.iload_n 1, 1) := by decide +kernel
theorem dX8_channel_119 : decode cX8_channel 119 = .ok (.aload_n 0, 1) := by decide +kernel
theorem dX8_channel_120 : decode cX8_channel 120 = .ok (.getfield 42, 3) := by decide +kernel
theorem dX8_channel_123 : decode cX8_channel 123 = .ok (.iload_n 1, 1) := by decide +kernel
theorem dX8_channel_124 : decode cX8_channel 124 = .ok (.iaload, 1) := by decide +kernel
theorem dX8_channel_125 : decode cX8_channel 125 = .ok (.iconst 1, 1) := by decide +kernel
theorem dX8_channel_126 : decode cX8_channel 126 = .ok (.iadd, 1) := by decide +kernel
theorem dX8_channel_127 : decode cX8_channel 127 = .ok (.ldc 102, 2) := by decide +kernel
theorem dX8_channel_129 : decode cX8_channel 129 = .ok (.iand, 1) := by decide +kernel
theorem dX8_channel_130 : decode cX8_channel 130 = .ok (.iastore, 1) := by decide +kernel
theorem dX8_channel_131 : decode cX8_channel 131 = .ok (.aload_n 0, 1) := by decide +kernel
theorem dX8_channel_132 : decode cX8_channel 132 = .ok (.getfield 48, 3) := by decide +kernel
theorem dX8_channel_135 : decode cX8_channel 135 = .ok (.iload_n 1, 1) := by decide +kernel
theorem dX8_channel_136 : decode cX8_channel 136 = .ok (.dup2, 1) := by decide +kernel
theorem dX8_channel_137 : decode cX8_channel 137 = .ok (.iaload, 1) := by decide +kernel
theorem dX8_channel_138 : decode cX8_channel 138 = .ok (.iconst 1, 1) := by decide +kernel
theorem dX8_channel_139 : decode cX8_channel 139 = .ok (.iadd, 1) := by decide +kernel
theorem dX8_channel_140 : decode cX8_channel 140 = .ok (.iastore, 1) := by decide +kernel
theorem dX8_channel_141 : decode cX8_channel 141 = .ok (.aload_n 0, 1) := by decide +kernel
theorem dX8_channel_142 : decode cX8_channel 142 = .ok (.getfield 42, 3) := by decide +kernel
theorem dX8_channel_145 : decode cX8_channel 145 = .ok (.iload_n 1, 1) := by decide +kernel
theorem dX8_channel_146 : decode cX8_channel 146 = .ok (.iaload, 1) := by decide +kernel
theorem dX8_channel_147 : decode cX8_channel 147 = .ok (.ifCond .ne 49, 3) := by decide +kernel
theorem dX8_channel_150 : decode cX8_channel 150 = .ok (.aload_n 0, 1) := by decide +kernel
theorem dX8_channel_151 : decode cX8_channel 151 = .ok (.getfield 24, 3) := by decide +kernel
theorem dX8_channel_154 : decode cX8_channel 154 = .ok (.iload_n 1, 1) := by decide +kernel
theorem dX8_channel_155 : decode cX8_channel 155 = .ok (.iconst 1, 1) := by decide +kernel
theorem dX8_channel_156 : decode cX8_channel 156 = .ok (.bastore, 1) := by decide +kernel
theorem dX8_channel_157 : decode cX8_channel 157 = .ok (.aload_n 0, 1) := by decide +kernel
theorem dX8_channel_158 : decode cX8_channel 158 = .ok (.getfield 27, 3) := by decide +kernel
theorem dX8_channel_161 : decode cX8_channel 161 = .ok (.iload_n 1, 1) := by decide +kernel
theorem dX8_channel_162 : decode cX8_channel 162 = .ok (.iconst 1, 1) := by decide +kernel
theorem dX8_channel_163 : decode cX8_channel 163 = .ok (.bastore, 1) := by decide +kernel
theorem dX8_channel_164 : decode cX8_channel 164 = .ok (.aload_n 0, 1) := by decide +kernel
theorem dX8_channel_165 : decode cX8_channel 165 = .ok (.getfield 30, 3) := by decide +kernel
theorem dX8_channel_168 : decode cX8_channel 168 = .ok (.iload_n 1, 1) := by decide +kernel
theorem dX8_channel_169 : decode cX8_channel 169 = .ok (.iconst 0, 1) := by decide +kernel
theorem dX8_channel_170 : decode cX8_channel 170 = .ok (.bastore, 1) := by decide +kernel
theorem dX8_channel_171 : decode cX8_channel 171 = .ok (.aload_n 0, 1) := by decide +kernel
theorem dX8_channel_172 : decode cX8_channel 172 = .ok (.getfield 45, 3) := by decide +kernel
theorem dX8_channel_175 : decode cX8_channel 175 = .ok (.iload_n 1, 1) := by decide +kernel
theorem dX8_channel_176 : decode cX8_channel 176 = .ok (.iaload, 1) := by decide +kernel
theorem dX8_channel_177 : decode cX8_channel 177 = .ok (.bipush 13, 2) := by decide +kernel
theorem dX8_channel_179 : decode cX8_channel 179 = .ok (.ishr, 1) := by decide +kernel
theorem dX8_channel_180 : decode cX8_channel 180 = .ok (.iconst 1, 1) := by decide +kernel
theorem dX8_channel_181 : decode cX8_channel 181 = .ok (.iand, 1) := by decide +kernel
theorem dX8_channel_182 : decode cX8_channel 182 = .ok (.iconst 1, 1) := by decide +kernel
theorem dX8_channel_183 : decode cX8_channel 183 = .ok (.if_icmp .ne 38, 3) := by decide +kernel
theorem dX8_channel_186 : decode cX8_channel 186 = .ok (.aload_n 0, 1) := by decide +kernel
theorem dX8_channel_187 : decode cX8_channel 187 = .ok (.getfield 20, 3) := by decide +kernel
theorem dX8_channel_190 : decode cX8_channel 190 = .ok (.iload_n 2, 1) := by decide +kernel
theorem dX8_channel_191 : decode cX8_channel 191 = .ok (.iconst 0, 1) := by decide +kernel
theorem dX8_channel_192 : decode cX8_channel 192 = .ok (.bastore, 1) := by decide +kernel
theorem dX8_channel_193 : decode cX8_channel 193 = .ok (.goto 28, 3) := by decide +kernel
theorem dX8_channel_196 : decode cX8_channel 196 = .ok (.aload_n 0, 1) := by decide +kernel
theorem dX8_channel_197 : decode cX8_channel 197 = .ok (.getfield 45, 3) := by decide +kernel
theorem dX8_channel_200 : decode cX8_channel 200 = .ok (.iload_n 1, 1) := by decide +kernel
