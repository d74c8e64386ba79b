set_option maxRecDepth 20000 in
theorem ggX7_device_X0_deviceAt : GoodIn wsX7_device wsX0_deviceAt := goodIn_r _ [10, 11, 28, 29, 30, 31, 32, 33, 34] (by decide +kernel) (by decide +kernel)
set_option maxRecDepth 20000 in
theorem gX7_device_X0_deviceAt : GoodIn wsX7_device (wsV RX7 107 RX0 yX0_deviceAt wsX0_deviceAt) := goodIn_app (goodIn_of _ (by decide +kernel)) ggX7_device_X0_deviceAt
set_option maxRecDepth 20000 in
theorem ggX7_device_X2_equip : GoodIn wsX7_device wsX2_equip := goodIn_r _ [16, 17, 18, 19, 20, 35, 36, 37, 38, 39, 40, 41, 42, 43, 44] (by decide +kernel) (by decide +kernel)
set_option maxRecDepth 20000 in
theorem gX7_device_X2_equip : GoodIn wsX7_device (wsV RX7 115 RX2 yX2_equip wsX2_equip) := goodIn_app (goodIn_of _ (by decide +kernel)) ggX7_device_X2_equip
theorem dX7_device_0 : decode cX7_device 0 = .ok (.aload_n 0, 1) := by decide +kernel
theorem dX7_device_1 : decode cX7_device 1 = .ok (.getfield 28, 3) := by decide +kernel
theorem dX7_device_4 : decode cX7_device 4 = .ok (.iload_n 1, 1) := by decide +kernel
theorem dX7_device_5 : decode cX7_device 5 = .ok (.invokevirtual 107, 3) := by decide +kernel
theorem dX7_device_8 : decode cX7_device 8 = .ok (.astore 4, 2) := by decide +kernel
theorem dX7_device_10 : decode cX7_device 10 = .ok (.aload 4, 2) := by decide +kernel
theorem dX7_device_12 : decode cX7_device 12 = .ok (.ifnonnull 13, 3) := by decide +kernel
theorem dX7_device_15 : decode cX7_device 15 = .ok (.new 65, 3) := by decide +kernel
theorem dX7_device_18 : decode cX7_device 18 = .ok (.dup, 1) := by decide +kernel
theorem dX7_device_19 : decode cX7_device 19 = .ok (.ldc 111, 2) := by decide +kernel
theorem dX7_device_21 : decode cX7_device 21 = .ok (.invokespecial 69, 3) := by decide +kernel
theorem dX7_device_24 : decode cX7_device 24 = .ok (.athrow, 1) := by decide +kernel
theorem dX7_device_25 : decode cX7_device 25 = .ok (.iload_n 3, 1) := by decide +kernel
theorem dX7_device_26 : decode cX7_device 26 = .ok (.iconst 1, 1) := by decide +kernel
theorem dX7_device_27 : decode cX7_device 27 = .ok (.if_icmp .lt 9, 3) := by decide +kernel
theorem dX7_device_30 : decode cX7_device 30 = .ok (.iload_n 3, 1) := by decide +kernel
theorem dX7_device_31 : decode cX7_device 31 = .ok (.bipush 100, 2) := by decide +kernel
theorem dX7_device_33 : decode cX7_device 33 = .ok (.if_icmp .le 13, 3) := by decide +kernel
theorem dX7_device_36 : decode cX7_device 36 = .ok (.new 45, 3) := by decide +kernel
theorem dX7_device_39 : decode cX7_device 39 = .ok (.dup, 1) := by decide +kernel
theorem dX7_device_40 : decode cX7_device 40 = .ok (.ldc 113, 2) := by decide +kernel
theorem dX7_device_42 : decode cX7_device 42 = .ok (.invokespecial 49, 3) := by decide +kernel
theorem dX7_device_45 : decode cX7_device 45 = .ok (.athrow, 1) := by decide +kernel
theorem dX7_device_46 : decode cX7_device 46 = .ok (.aload 4, 2) := by decide +kernel
theorem dX7_device_48 : decode cX7_device 48 = .ok (.iload_n 2, 1) := by decide +kernel
theorem dX7_device_49 : decode cX7_device 49 = .ok (.iload_n 3, 1) := by decide +kernel
theorem dX7_device_50 : decode cX7_device 50 = .ok (.invokevirtual 115, 3) := by decide +kernel
theorem dX7_device_53 : decode cX7_device 53 = .ok (.return_, 1) := by decide +kernel
set_option maxRecDepth 20000 in
theorem ggX7_give_X0_deviceAt : GoodIn wsX7_give wsX0_deviceAt := goodIn_r _ [11, 12, 38, 39, 40, 41, 42, 43, 44] (by decide +kernel) (by decide +kernel)
set_option maxRecDepth 20000 in
theorem gX7_give_X0_deviceAt : GoodIn wsX7_give (wsV RX7 107 RX0 yX0_deviceAt wsX0_deviceAt) := goodIn_app (goodIn_of _ (by decide +kernel)) ggX7_give_X0_deviceAt
set_option maxRecDepth 20000 in
theorem ggX7_give_X2_putOnTape : GoodIn wsX7_give wsX2_putOnTape := goodIn_r _ [17, 18, 19, 20, 28, 29, 30, 31, 32, 33, 34, 35, 36, 37] (by decide +kernel) (by decide +kernel)
set_option maxRecDepth 20000 in
theorem gX7_give_X2_putOnTape : GoodIn wsX7_give (wsV RX7 129 RX2 yX2_putOnTape wsX2_putOnTape) := goodIn_app (goodIn_of _ (by decide +kernel)) ggX7_give_X2_putOnTape
theorem dX7_give_0 : decode cX7_give 0 = .ok (.aload_n 0, 1) := by decide +kernel
theorem dX7_give_1 : decode cX7_give 1 = .ok (.getfield 28, 3) := by decide +kernel
theorem dX7_give_4 : decode cX7_give 4 = .ok (.iload_n 1, 1) := by decide +kernel
theorem dX7_give_5 : decode cX7_give 5 = .ok (.invokevirtual 107, 3) := by decide +kernel
theorem dX7_give_8 : decode cX7_give 8 = .ok (.astore_n 3, 1) := by decide +kernel
theorem dX7_give_9 : decode cX7_give 9 = .ok (.aload_n 3, 1) := by decide +kernel
theorem dX7_give_10 : decode cX7_give 10 = .ok (.ifnonnull 13, 3) := by decide +kernel
theorem dX7_give_13 : decode cX7_give 13 = .ok (.new 65, 3) := by decide +kernel
theorem dX7_give_16 : decode cX7_give 16 = .ok (.dup, 1) := by decide +kernel
theorem dX7_give_17 : decode cX7_give 17 = .ok (.ldc 111, 2) := by decide +kernel
theorem dX7_give_19 : decode cX7_give 19 = .ok (.invokespecial 69, 3) := by decide +kernel
theorem dX7_give_22 : decode cX7_give 22 = .ok (.athrow, 1) := by decide +kernel
theorem dX7_give_23 : decode cX7_give 23 = .ok (.aload_n 3, 1) := by decide +kernel
theorem dX7_give_24 : decode cX7_give 24 = .ok (.getfield 121, 3) := by decide +kernel
theorem dX7_give_27 : decode cX7_give 27 = .ok (.bipush 100, 2) := by decide +kernel
theorem dX7_give_29 : decode cX7_give 29 = .ok (.if_icmp .lt 13, 3) := by decide +kernel
theorem dX7_give_32 : decode cX7_give 32 = .ok (.new 124, 3) := by decide +kernel
theorem dX7_give_35 : decode cX7_give 35 = .ok (.dup, 1) := by decide +kernel
theorem dX7_give_36 : decode cX7_give 36 = .ok (.ldc 126, 2) := by decide +kernel
theorem dX7_give_38 : decode cX7_give 38 = .ok (.invokespecial 128, 3) := by decide +kernel
theorem dX7_give_41 : decode cX7_give 41 = .ok (.athrow, 1) := by decide +kernel
theorem dX7_give_42 : decode cX7_give 42 = .ok (.aload_n 3, 1) := by decide +kernel
theorem dX7_give_43 : decode cX7_give 43 = .ok (.iload_n 2, 1) := by decide +kernel
theorem dX7_give_44 : decode cX7_give 44 = .ok (.ldc 103, 2) := by decide +kernel
theorem dX7_give_46 : decode cX7_give 46 = .ok (.iand, 1) := by decide +kernel
theorem dX7_give_47 : decode cX7_give 47 = .ok (.invokevirtual 129, 3) := by decide +kernel
theorem dX7_give_50 : decode cX7_give 50 = .ok (.aload_n 3, 1) := by decide +kernel
theorem dX7_give_51 : decode cX7_give 51 = .ok (.getfield 121, 3) := by decide +kernel
theorem dX7_give_54 : decode cX7_give 54 = .ok (.ireturn, 1) := by decide +kernel
set_option maxRecDepth 20000 in
theorem ggX7_out_X0_deviceAt : GoodIn wsX7_out wsX0_deviceAt := goodIn_r _ [8, 9, 24, 25, 26, 27, 28, 29, 30] (by decide +kernel) (by decide +kernel)
set_option maxRecDepth 20000 in
theorem gX7_out_X0_deviceAt : GoodIn wsX7_out (wsV RX7 107 RX0 yX0_deviceAt wsX0_deviceAt) := goodIn_app (goodIn_of _ (by decide +kernel)) ggX7_out_X0_deviceAt
set_option maxRecDepth 20000 in
theorem ggX7_out_X2_keptOut : GoodIn wsX7_out wsX2_keptOut := goodIn_r _ [14, 15, 16, 31, 32, 33, 34, 35, 36, 37, 38, 39, 40] (by decide +kernel) (by decide +kernel)
set_option maxRecDepth 20000 in
theorem gX7_out_X2_keptOut : GoodIn wsX7_out (wsV RX7 133 RX2 yX2_keptOut wsX2_keptOut) := goodIn_app (goodIn_of _ (by decide +kernel)) ggX7_out_X2_keptOut
theorem dX7_out_0 : decode cX7_out 0 = .ok (.aload_n 0, 1) := by decide +kernel
theorem dX7_out_1 : decode cX7_out 1 = .ok (.getfield 28, 3) := by decide +kernel
theorem dX7_out_4 : decode cX7_out 4 = .ok (.iload_n 1, 1) := by decide +kernel
theorem dX7_out_5 : decode cX7_out 5 = .ok (.invokevirtual 107, 3) := by decide +kernel
theorem dX7_out_8 : decode cX7_out 8 = .ok (.astore_n 3, 1) := by decide +kernel
theorem dX7_out_9 : decode cX7_out 9 = .ok (.aload_n 3, 1) := by decide +kernel
theorem dX7_out_10 : decode cX7_out 10 = .ok (.ifnonnull 13, 3) := by decide +kernel
theorem dX7_out_13 : decode cX7_out 13 = .ok (.new 65, 3) := by decide +kernel
theorem dX7_out_16 : decode cX7_out 16 = .ok (.dup, 1) := by decide +kernel
theorem dX7_out_17 : decode cX7_out 17 = .ok (.ldc 111, 2) := by decide +kernel
theorem dX7_out_19 : decode cX7_out 19 = .ok (.invokespecial 69, 3) := by decide +kernel
theorem dX7_out_22 : decode cX7_out 22 = .ok (.athrow, 1) := by decide +kernel
theorem dX7_out_23 : decode cX7_out 23 = .ok (.aload_n 3, 1) := by decide +kernel
theorem dX7_out_24 : decode cX7_out 24 = .ok (.iload_n 2, 1) := by decide +kernel
theorem dX7_out_25 : decode cX7_out 25 = .ok (.invokevirtual 133, 3) := by decide +kernel
theorem dX7_out_28 : decode cX7_out 28 = .ok (.ireturn, 1) := by decide +kernel
set_option maxRecDepth 20000 in
theorem ggX7_code_X0_lineOf : GoodIn wsX7_code wsX0_lineOf := goodIn_r _ [6, 7, 54, 55, 56, 57, 58, 59, 60] (by decide +kernel) (by decide +kernel)
set_option maxRecDepth 20000 in
theorem gX7_code_X0_lineOf : GoodIn wsX7_code (wsV RX7 136 RX0 yX0_lineOf wsX0_lineOf) := goodIn_app (goodIn_of _ (by decide +kernel)) ggX7_code_X0_lineOf
set_option maxRecDepth 20000 in
theorem ggX7_code_X7_bit : GoodIn wsX7_code wsX7_bit := goodIn_r _ [11] (by decide +kernel) (by decide +kernel)
set_option maxRecDepth 20000 in
theorem gX7_code_X7_bit : GoodIn wsX7_code (va_wsS RX7 87 yX7_bit wsX7_bit) := goodIn_app (goodIn_of _ (by decide +kernel)) ggX7_code_X7_bit
set_option maxRecDepth 20000 in
theorem ggX7_code_X0_channelAt : GoodIn wsX7_code wsX0_channelAt := goodIn_r _ [15, 16, 54, 55, 56, 57, 58, 59, 60] (by decide +kernel) (by decide +kernel)
set_option maxRecDepth 20000 in
theorem gX7_code_X0_channelAt : GoodIn wsX7_code (wsV RX7 151 RX0 yX0_channelAt wsX0_channelAt) := goodIn_app (goodIn_of _ (by decide +kernel)) ggX7_code_X0_channelAt
set_option maxRecDepth 20000 in
theorem ggX7_code_X1_tellPart : GoodIn wsX7_code wsX1_tellPart := goodIn_r _ [21, 22, 23, 24, 25, 26, 27, 9, 10, 11, 61, 62, 63, 64, 65, 66, 67, 68] (by decide +kernel) (by decide +kernel)
set_option maxRecDepth 20000 in
theorem gX7_code_X1_tellPart : GoodIn wsX7_code (wsV RX7 155 RX1 yX1_tellPart wsX1_tellPart) := goodIn_app (goodIn_of _ (by decide +kernel)) ggX7_code_X1_tellPart
set_option maxRecDepth 20000 in
theorem ggX7_code_X0_deviceAt : GoodIn wsX7_code wsX0_deviceAt := goodIn_r _ [31, 32, 54, 55, 56, 57, 58, 59, 60] (by decide +kernel) (by decide +kernel)
set_option maxRecDepth 20000 in
theorem gX7_code_X0_deviceAt : GoodIn wsX7_code (wsV RX7 107 RX0 yX0_deviceAt wsX0_deviceAt) := goodIn_app (goodIn_of _ (by decide +kernel)) ggX7_code_X0_deviceAt
set_option maxRecDepth 20000 in
theorem ggX7_code_X2_tellPart : GoodIn wsX7_code wsX2_tellPart := goodIn_r _ [37, 38, 39, 40, 41, 42, 43, 9, 10, 11, 69, 70, 71, 72, 73, 74, 75, 76, 77, 78] (by decide +kernel) (by decide +kernel)
set_option maxRecDepth 20000 in
theorem gX7_code_X2_tellPart : GoodIn wsX7_code (wsV RX7 160 RX2 yX2_tellPart wsX2_tellPart) := goodIn_app (goodIn_of _ (by decide +kernel)) ggX7_code_X2_tellPart
theorem dX7_code_0 : decode cX7_code 0 = .ok (.aload_n 0, 1) := by decide +kernel
theorem dX7_code_1 : decode cX7_code 1 = .ok (.getfield 28, 3) := by decide +kernel
theorem dX7_code_4 : decode cX7_code 4 = .ok (.iload_n 1, 1) := by decide +kernel
theorem dX7_code_5 : decode cX7_code 5 = .ok (.invokevirtual 136, 3) := by decide +kernel
theorem dX7_code_8 : decode cX7_code 8 = .ok (.astore_n 3, 1) := by decide +kernel
theorem dX7_code_9 : decode cX7_code 9 = .ok (.aload_n 3, 1) := by decide +kernel
theorem dX7_code_10 : decode cX7_code 10 = .ok (.ifnonnull 5, 3) := by decide +kernel
theorem dX7_code_13 : decode cX7_code 13 = .ok (.iconst (-1), 1) := by decide +kernel
theorem dX7_code_14 : decode cX7_code 14 = .ok (.ireturn, 1) := by decide +kernel
theorem dX7_code_15 : decode cX7_code 15 = .ok (.iload_n 2, 1) := by decide +kernel
theorem dX7_code_16 : decode cX7_code 16 = .ok (.tableswitch 52 0 2 #[28, 36, 44], 28) := by decide +kernel
theorem dX7_code_44 : decode cX7_code 44 = .ok (.aload_n 3, 1) := by decide +kernel
theorem dX7_code_45 : decode cX7_code 45 = .ok (.getfield 140, 3) := by decide +kernel
theorem dX7_code_48 : decode cX7_code 48 = .ok (.invokestatic 87, 3) := by decide +kernel
theorem dX7_code_51 : decode cX7_code 51 = .ok (.ireturn, 1) := by decide +kernel
theorem dX7_code_52 : decode cX7_code 52 = .ok (.aload_n 3, 1) := by decide +kernel
theorem dX7_code_53 : decode cX7_code 53 = .ok (.getfield 145, 3) := by decide +kernel
theorem dX7_code_56 : decode cX7_code 56 = .ok (.invokestatic 87, 3) := by decide +kernel
theorem dX7_code_59 : decode cX7_code 59 = .ok (.ireturn, 1) := by decide +kernel
theorem dX7_code_60 : decode cX7_code 60 = .ok (.aload_n 3, 1) := by decide +kernel
theorem dX7_code_61 : decode cX7_code 61 = .ok (.getfield 148, 3) := by decide +kernel
theorem dX7_code_64 : decode cX7_code 64 = .ok (.invokestatic 87, 3) := by decide +kernel
theorem dX7_code_67 : decode cX7_code 67 = .ok (.ireturn, 1) := by decide +kernel
theorem dX7_code_68 : decode cX7_code 68 = .ok (.aload_n 0, 1) := by decide +kernel
theorem dX7_code_69 : decode cX7_code 69 = .ok (.getfield 28, 3) := by decide +kernel
theorem dX7_code_72 : decode cX7_code 72 = .ok (.iload_n 1, 1) := by decide +kernel
theorem dX7_code_73 : decode cX7_code 73 = .ok (.bipush 6, 2) := by decide +kernel
theorem dX7_code_75 : decode cX7_code 75 = .ok (.isub, 1) := by decide +kernel
theorem dX7_code_76 : decode cX7_code 76 = .ok (.invokevirtual 151, 3) := by decide +kernel
theorem dX7_code_79 : decode cX7_code 79 = .ok (.astore 4, 2) := by decide +kernel
theorem dX7_code_81 : decode cX7_code 81 = .ok (.aload 4, 2) := by decide +kernel
theorem dX7_code_83 : decode cX7_code 83 = .ok (.ifnull 10, 3) := by decide +kernel
theorem dX7_code_86 : decode cX7_code 86 = .ok (.aload 4, 2) := by decide +kernel
theorem dX7_code_88 : decode cX7_code 88 = .ok (.iload_n 2, 1) := by decide +kernel
theorem dX7_code_89 : decode cX7_code 89 = .ok (.invokevirtual 155, 3) := by decide +kernel
theorem dX7_code_92 : decode cX7_code 92 = .ok (.ireturn, 1) := by decide +kernel
theorem dX7_code_93 : decode cX7_code 93 = .ok (.aload_n 0, 1) := by decide +kernel
theorem dX7_code_94 : decode cX7_code 94 = .ok (.getfield 28, 3) := by decide +kernel
theorem dX7_code_97 : decode cX7_code 97 = .ok (.iload_n 1, 1) := by decide +kernel
theorem dX7_code_98 : decode cX7_code 98 = .ok (.bipush 8, 2) := by decide +kernel
theorem dX7_code_100 : decode cX7_code 100 = .ok (.isub, 1) := by decide +kernel
theorem dX7_code_101 : decode cX7_code 101 = .ok (.invokevirtual 107, 3) := by decide +kernel
theorem dX7_code_104 : decode cX7_code 104 = .ok (.astore 5, 2) := by decide +kernel
theorem dX7_code_106 : decode cX7_code 106 = .ok (.aload 5, 2) := by decide +kernel
theorem dX7_code_108 : decode cX7_code 108 = .ok (.ifnonnull 7, 3) := by decide +kernel
theorem dX7_code_111 : decode cX7_code 111 = .ok (.iconst (-1), 1) := by decide +kernel
theorem dX7_code_112 : decode cX7_code 112 = .ok (.goto 9, 3) := by decide +kernel
theorem dX7_code_115 : decode cX7_code 115 = .ok (.aload 5, 2) := by decide +kernel
theorem dX7_code_117 : decode cX7_code 117 = .ok (.iload_n 2, 1) := by decide +kernel
theorem dX7_code_118 : decode cX7_code 118 = .ok (.invokevirtual 160, 3) := by decide +kernel
theorem dX7_code_121 : decode cX7_code 121 = .ok (.ireturn, 1) := by decide +kernel
set_option maxRecDepth 20000 in
theorem ggX7_sum_X4_read : GoodIn wsX7_sum wsX4_read := goodIn_r _ [6, 7, 15] (by decide +kernel) (by decide +kernel)
set_option maxRecDepth 20000 in
theorem gX7_sum_X4_read : GoodIn wsX7_sum (wsV RX7 70 RX4 yX4_read wsX4_read) := goodIn_app (goodIn_of _ (by decide +kernel)) ggX7_sum_X4_read
theorem dX7_sum_0 : decode cX7_sum 0 = .ok (.iconst 0, 1) := by decide +kernel
theorem dX7_sum_1 : decode cX7_sum 1 = .ok (.istore_n 1, 1) := by decide +kernel
theorem dX7_sum_2 : decode cX7_sum 2 = .ok (.iconst 0, 1) := by decide +kernel
theorem dX7_sum_3 : decode cX7_sum 3 = .ok (.istore_n 2, 1) := by decide +kernel
theorem dX7_sum_4 : decode cX7_sum 4 = .ok (.iload_n 2, 1) := by decide +kernel
theorem dX7_sum_5 : decode cX7_sum 5 = .ok (.sipush 4096, 3) := by decide +kernel
theorem dX7_sum_8 : decode cX7_sum 8 = .ok (.if_icmp .ge 23, 3) := by decide +kernel
theorem dX7_sum_11 : decode cX7_sum 11 = .ok (.bipush 31, 2) := by decide +kernel
theorem dX7_sum_13 : decode cX7_sum 13 = .ok (.iload_n 1, 1) := by decide +kernel
theorem dX7_sum_14 : decode cX7_sum 14 = .ok (.imul, 1) := by decide +kernel
theorem dX7_sum_15 : decode cX7_sum 15 = .ok (.aload_n 0, 1) := by decide +kernel
theorem dX7_sum_16 : decode cX7_sum 16 = .ok (.getfield 10, 3) := by decide +kernel
theorem dX7_sum_19 : decode cX7_sum 19 = .ok (.iload_n 2, 1) := by decide +kernel
theorem dX7_sum_20 : decode cX7_sum 20 = .ok (.invokevirtual 70, 3) := by decide +kernel
theorem dX7_sum_23 : decode cX7_sum 23 = .ok (.iadd, 1) := by decide +kernel
theorem dX7_sum_24 : decode cX7_sum 24 = .ok (.istore_n 1, 1) := by decide +kernel
theorem dX7_sum_25 : decode cX7_sum 25 = .ok (.iinc 2 1, 3) := by decide +kernel
theorem dX7_sum_28 : decode cX7_sum 28 = .ok (.goto (-24), 3) := by decide +kernel
theorem dX7_sum_31 : decode cX7_sum 31 = .ok (.iload_n 1, 1) := by decide +kernel
theorem dX7_sum_32 : decode cX7_sum 32 = .ok (.ireturn, 1) := by decide +kernel
set_option maxRecDepth 20000 in
theorem ggX7_doTurn_X0_advanceDevices : GoodIn wsX7_doTurn wsX0_advanceDevices := goodIn_r _ [11, 12, 13, 14, 10, 15, 16, 17, 18, 19, 20, 21, 22, 23, 24, 25, 26, 27, 28, 29, 30, 31, 32, 33, 34, 35, 36, 37, 38, 39, 40, 41, 42, 43, 44, 45, 278, 279, 280, 281, 282, 283, 284, 291, 292, 293, 294, 295, 296, 297, 298, 299, 300, 301, 302, 303] (by decide +kernel) (by decide +kernel)
set_option maxRecDepth 20000 in
theorem gX7_doTurn_X0_advanceDevices : GoodIn wsX7_doTurn (wsV RX7 161 RX0 yX0_advanceDevices wsX0_advanceDevices) := goodIn_app (goodIn_of _ (by decide +kernel)) ggX7_doTurn_X0_advanceDevices
set_option maxRecDepth 20000 in
theorem ggX7_doTurn_X0_advanceChannels : GoodIn wsX7_doTurn wsX0_advanceChannels := goodIn_r _ [49, 50, 51, 52, 10, 53, 54, 12, 13, 14, 15, 16, 55, 56, 57, 58, 59, 60, 61, 62, 63, 64, 65, 66, 67, 68, 69, 70, 71, 72, 73, 74, 75, 76, 77, 78, 40, 41, 42, 43, 44, 45, 79, 80, 81, 82, 83, 84, 85, 86, 87, 20, 88, 89, 22, 304, 305, 306, 307, 308, 309, 310, 311, 291, 292, 293, 294, 295, 296, 297, 298, 299, 300, 301, 302, 303, 278, 279, 280, 281, 282, 283, 284, 312] (by decide +kernel) (by decide +kernel)
set_option maxRecDepth 20000 in
theorem gX7_doTurn_X0_advanceChannels : GoodIn wsX7_doTurn (wsV RX7 164 RX0 yX0_advanceChannels wsX0_advanceChannels) := goodIn_app (goodIn_of _ (by decide +kernel)) ggX7_doTurn_X0_advanceChannels
set_option maxRecDepth 20000 in
theorem ggX7_doTurn_X0_takeInterrupt : GoodIn wsX7_doTurn wsX0_takeInterrupt := goodIn_r _ [93, 94, 95, 96, 10, 97, 98, 301, 302, 303, 278, 279, 280, 281, 282, 283, 284] (by decide +kernel) (by decide +kernel)
set_option maxRecDepth 20000 in
theorem gX7_doTurn_X0_takeInterrupt : GoodIn wsX7_doTurn (wsV RX7 168 RX0 yX0_takeInterrupt wsX0_takeInterrupt) := goodIn_app (goodIn_of _ (by decide +kernel)) ggX7_doTurn_X0_takeInterrupt
set_option maxRecDepth 20000 in
theorem ggX7_doTurn_X4_read : GoodIn wsX7_doTurn wsX4_read := goodIn_r _ [77, 72, 312] (by decide +kernel) (by decide +kernel)
set_option maxRecDepth 20000 in
theorem gX7_doTurn_X4_read : GoodIn wsX7_doTurn (wsV RX7 70 RX4 yX4_read wsX4_read) := goodIn_app (goodIn_of _ (by decide +kernel)) ggX7_doTurn_X4_read
set_option maxRecDepth 20000 in
theorem ggX7_doTurn_X5_perform_p1 : GoodIn wsX7_doTurn (.code yX5_perform cX5_perform 5 none :: wsX5_perform_r1) := goodIn_r _ [104, 105, 106, 107, 108, 103, 109, 110, 111, 112, 75, 76, 70, 77, 72, 113, 114, 115, 116, 117, 118, 119, 120, 121, 122] (by decide +kernel) (by decide +kernel)
set_option maxRecDepth 20000 in
theorem ggX7_doTurn_X5_perform_p2 : GoodIn wsX7_doTurn (wsX5_perform_r2) := goodIn_r _ [123, 124, 125, 126, 127, 68, 69, 71, 73, 128, 129, 130, 131, 132, 133, 134, 135, 136, 137, 138, 139, 140, 141, 142] (by decide +kernel) (by decide +kernel)
set_option maxRecDepth 20000 in
theorem ggX7_doTurn_X5_perform_p3 : GoodIn wsX7_doTurn (wsX5_perform_r3) := goodIn_r _ [143, 144, 145, 146, 147, 148, 149, 150, 151, 152, 153, 154, 155, 156, 157, 158, 159, 160, 161, 162, 163, 164, 165, 166] (by decide +kernel) (by decide +kernel)
set_option maxRecDepth 20000 in
theorem ggX7_doTurn_X5_perform_p4 : GoodIn wsX7_doTurn (wsX5_perform_r4) := goodIn_r _ [167, 168, 169, 170, 171, 172, 173, 174, 175, 176, 177, 178, 179, 180, 181, 182, 183, 10, 184, 185, 186, 187, 188, 189] (by decide +kernel) (by decide +kernel)
set_option maxRecDepth 20000 in
theorem ggX7_doTurn_X5_perform_p5 : GoodIn wsX7_doTurn (wsX5_perform_r5) := goodIn_r _ [94, 95, 96, 97, 98, 190, 40, 41, 42, 43, 44, 45, 191, 192, 193, 194, 195, 196, 197, 198, 199, 50, 51, 52] (by decide +kernel) (by decide +kernel)
set_option maxRecDepth 20000 in
theorem ggX7_doTurn_X5_perform_p6 : GoodIn wsX7_doTurn (wsX5_perform_r6) := goodIn_r _ [53, 54, 12, 13, 14, 15, 16, 200, 201, 202, 203, 204, 205, 206, 207, 58, 208, 209, 62, 61, 66, 60, 210, 211] (by decide +kernel) (by decide +kernel)
set_option maxRecDepth 20000 in
theorem ggX7_doTurn_X5_perform_p7 : GoodIn wsX7_doTurn (wsX5_perform_r7) := goodIn_r _ [212, 213, 214, 215, 216, 217, 218, 219, 220, 221, 222, 86, 87, 20, 88, 89, 22, 223, 224, 225, 226, 227, 228, 229] (by decide +kernel) (by decide +kernel)
set_option maxRecDepth 20000 in
theorem ggX7_doTurn_X5_perform_p8 : GoodIn wsX7_doTurn (wsX5_perform_r8) := goodIn_r _ [230, 231, 232, 233, 234, 235, 236, 237, 238, 239, 240, 241, 242, 243, 244, 245, 246, 247, 248, 249, 250, 251, 252, 253] (by decide +kernel) (by decide +kernel)
set_option maxRecDepth 20000 in
theorem ggX7_doTurn_X5_perform_p9 : GoodIn wsX7_doTurn (wsX5_perform_r9) := goodIn_r _ [254, 255, 256, 257, 258, 259, 260, 261, 262, 263, 264, 265, 266, 267, 268, 269] (by decide +kernel) (by decide +kernel)
set_option maxRecDepth 20000 in
theorem ggX7_doTurn_X5_perform_p10 : GoodIn wsX7_doTurn (wsX50) := goodIn_r _ [313, 314, 315] (by decide +kernel) (by decide +kernel)
set_option maxRecDepth 20000 in
theorem ggX7_doTurn_X5_perform_p11 : GoodIn wsX7_doTurn (wsX40) := goodIn_r _ [312] (by decide +kernel) (by decide +kernel)
set_option maxRecDepth 20000 in
theorem ggX7_doTurn_X5_perform_p12 : GoodIn wsX7_doTurn (wsX60) := goodIn_r _ [285, 286, 287, 288, 289, 290] (by decide +kernel) (by decide +kernel)
set_option maxRecDepth 20000 in
theorem ggX7_doTurn_X5_perform_p13 : GoodIn wsX7_doTurn (wsX00) := goodIn_r _ [278, 279, 280, 281, 282, 283, 284] (by decide +kernel) (by decide +kernel)
set_option maxRecDepth 20000 in
theorem ggX7_doTurn_X5_perform_p14 : GoodIn wsX7_doTurn (wsX30) := goodIn_r _ [301, 302, 303] (by decide +kernel) (by decide +kernel)
set_option maxRecDepth 20000 in
theorem ggX7_doTurn_X5_perform_p15 : GoodIn wsX7_doTurn (wsX10) := goodIn_r _ [304, 305, 306, 307, 308, 309, 310, 311] (by decide +kernel) (by decide +kernel)
set_option maxRecDepth 20000 in
theorem ggX7_doTurn_X5_perform_p16 : GoodIn wsX7_doTurn (wsX20) := goodIn_r _ [291, 292, 293, 294, 295, 296, 297, 298, 299, 300] (by decide +kernel) (by decide +kernel)
theorem ggX7_doTurn_X5_perform : GoodIn wsX7_doTurn wsX5_perform := (goodIn_ca (goodIn_ca (goodIn_ca (goodIn_ca (goodIn_ca (goodIn_ca (goodIn_ca (goodIn_ca ggX7_doTurn_X5_perform_p1 (goodIn_app ggX7_doTurn_X5_perform_p2 (goodIn_app ggX7_doTurn_X5_perform_p3 (goodIn_app ggX7_doTurn_X5_perform_p4 (goodIn_app ggX7_doTurn_X5_perform_p5 (goodIn_app ggX7_doTurn_X5_perform_p6 (goodIn_app ggX7_doTurn_X5_perform_p7 (goodIn_app ggX7_doTurn_X5_perform_p8 ggX7_doTurn_X5_perform_p9)))))))) ggX7_doTurn_X5_perform_p10) ggX7_doTurn_X5_perform_p11) ggX7_doTurn_X5_perform_p12) ggX7_doTurn_X5_perform_p13) ggX7_doTurn_X5_perform_p14) ggX7_doTurn_X5_perform_p15) ggX7_doTurn_X5_perform_p16)
set_option maxRecDepth 20000 in
theorem gX7_doTurn_X5_perform : GoodIn wsX7_doTurn (wsV RX7 172 RX5 yX5_perform wsX5_perform) := goodIn_app (goodIn_of _ (by decide +kernel)) ggX7_doTurn_X5_perform
set_option maxRecDepth 20000 in
theorem ggX7_doTurn_X5_nextWord : GoodIn wsX7_doTurn wsX5_nextWord := goodIn_r _ [233, 110, 111, 112, 75, 76, 70, 77, 72, 141, 142, 143, 116, 144, 145, 313, 314, 315, 285, 286, 287, 288, 289, 290, 312] (by decide +kernel) (by decide +kernel)
set_option maxRecDepth 20000 in
theorem gX7_doTurn_X5_nextWord : GoodIn wsX7_doTurn (wsV RX7 175 RX5 yX5_nextWord wsX5_nextWord) := goodIn_app (goodIn_of _ (by decide +kernel)) ggX7_doTurn_X5_nextWord
