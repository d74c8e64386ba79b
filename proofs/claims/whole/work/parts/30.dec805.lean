theorem dX8_state_152 : decode cX8_state 152 = .ok (.getfield 125, 3) := by decide +kernel
theorem dX8_state_155 : decode cX8_state 155 = .ok (.ireturn, 1) := by decide +kernel
theorem dX8_state_156 : decode cX8_state 156 = .ok (.aload_n 0, 1) := by decide +kernel
theorem dX8_state_157 : decode cX8_state 157 = .ok (.getfield 17, 3) := by decide +kernel
theorem dX8_state_160 : decode cX8_state 160 = .ok (.ireturn, 1) := by decide +kernel
theorem dX8_state_161 : decode cX8_state 161 = .ok (.iconst (-1), 1) := by decide +kernel
theorem dX8_state_162 : decode cX8_state 162 = .ok (.ireturn, 1) := by decide +kernel
theorem dX8_switches_0 : decode cX8_switches 0 = .ok (.aload_n 0, 1) := by decide +kernel
theorem dX8_switches_1 : decode cX8_switches 1 = .ok (.iconst 0, 1) := by decide +kernel
theorem dX8_switches_2 : decode cX8_switches 2 = .ok (.putfield 75, 3) := by decide +kernel
theorem dX8_switches_5 : decode cX8_switches 5 = .ok (.aload_n 0, 1) := by decide +kernel
theorem dX8_switches_6 : decode cX8_switches 6 = .ok (.iload_n 1, 1) := by decide +kernel
theorem dX8_switches_7 : decode cX8_switches 7 = .ok (.ldc 102, 2) := by decide +kernel
theorem dX8_switches_9 : decode cX8_switches 9 = .ok (.iand, 1) := by decide +kernel
theorem dX8_switches_10 : decode cX8_switches 10 = .ok (.putfield 175, 3) := by decide +kernel
theorem dX8_switches_13 : decode cX8_switches 13 = .ok (.return_, 1) := by decide +kernel
set_option maxRecDepth 20000 in
theorem ggX8_device_X8_lacks : GoodIn wsX8_device wsX8_lacks := goodIn_r _ [10, 1, 11, 12, 13, 14, 15, 16, 17, 18, 19, 20, 21, 22, 23, 24, 25, 26, 27, 28, 29, 30, 31, 32, 33, 34, 35, 36, 37, 38, 39, 40, 41, 42, 43, 44, 45] (by decide +kernel) (by decide +kernel)
set_option maxRecDepth 20000 in
theorem gX8_device_X8_lacks : GoodIn wsX8_device (wsV RX8 224 RX8 yX8_lacks wsX8_lacks) := goodIn_app (goodIn_of _ (by decide +kernel)) ggX8_device_X8_lacks
theorem dX8_device_0 : decode cX8_device 0 = .ok (.aload_n 0, 1) := by decide +kernel
theorem dX8_device_1 : decode cX8_device 1 = .ok (.iload_n 1, 1) := by decide +kernel
theorem dX8_device_2 : decode cX8_device 2 = .ok (.iconst 4, 1) := by decide +kernel
theorem dX8_device_3 : decode cX8_device 3 = .ok (.invokevirtual 224, 3) := by decide +kernel
theorem dX8_device_6 : decode cX8_device 6 = .ok (.ifCond .eq 4, 3) := by decide +kernel
theorem dX8_device_9 : decode cX8_device 9 = .ok (.return_, 1) := by decide +kernel
theorem dX8_device_10 : decode cX8_device 10 = .ok (.aload_n 0, 1) := by decide +kernel
theorem dX8_device_11 : decode cX8_device 11 = .ok (.iload_n 3, 1) := by decide +kernel
theorem dX8_device_12 : decode cX8_device 12 = .ok (.iconst 1, 1) := by decide +kernel
theorem dX8_device_13 : decode cX8_device 13 = .ok (.if_icmp .lt 9, 3) := by decide +kernel
theorem dX8_device_16 : decode cX8_device 16 = .ok (.iload_n 3, 1) := by decide +kernel
theorem dX8_device_17 : decode cX8_device 17 = .ok (.bipush 100, 2) := by decide +kernel
theorem dX8_device_19 : decode cX8_device 19 = .ok (.if_icmp .le 7, 3) := by decide +kernel
theorem dX8_device_22 : decode cX8_device 22 = .ok (.iconst 2, 1) := by decide +kernel
theorem dX8_device_23 : decode cX8_device 23 = .ok (.goto 4, 3) := by decide +kernel
theorem dX8_device_26 : decode cX8_device 26 = .ok (.iconst 0, 1) := by decide +kernel
theorem dX8_device_27 : decode cX8_device 27 = .ok (.putfield 75, 3) := by decide +kernel
theorem dX8_device_30 : decode cX8_device 30 = .ok (.aload_n 0, 1) := by decide +kernel
theorem dX8_device_31 : decode cX8_device 31 = .ok (.getfield 75, 3) := by decide +kernel
theorem dX8_device_34 : decode cX8_device 34 = .ok (.ifCond .le 4, 3) := by decide +kernel
theorem dX8_device_37 : decode cX8_device 37 = .ok (.return_, 1) := by decide +kernel
theorem dX8_device_38 : decode cX8_device 38 = .ok (.bipush 8, 2) := by decide +kernel
theorem dX8_device_40 : decode cX8_device 40 = .ok (.iload_n 1, 1) := by decide +kernel
theorem dX8_device_41 : decode cX8_device 41 = .ok (.iadd, 1) := by decide +kernel
theorem dX8_device_42 : decode cX8_device 42 = .ok (.istore 4, 2) := by decide +kernel
theorem dX8_device_44 : decode cX8_device 44 = .ok (.aload_n 0, 1) := by decide +kernel
theorem dX8_device_45 : decode cX8_device 45 = .ok (.getfield 51, 3) := by decide +kernel
theorem dX8_device_48 : decode cX8_device 48 = .ok (.iload 4, 2) := by decide +kernel
theorem dX8_device_50 : decode cX8_device 50 = .ok (.iload_n 2, 1) := by decide +kernel
theorem dX8_device_51 : decode cX8_device 51 = .ok (.ifCond .ne 7, 3) := by decide +kernel
theorem dX8_device_54 : decode cX8_device 54 = .ok (.iconst 1, 1) := by decide +kernel
theorem dX8_device_55 : decode cX8_device 55 = .ok (.goto 4, 3) := by decide +kernel
theorem dX8_device_58 : decode cX8_device 58 = .ok (.iconst 0, 1) := by decide +kernel
theorem dX8_device_59 : decode cX8_device 59 = .ok (.bastore, 1) := by decide +kernel
theorem dX8_device_60 : decode cX8_device 60 = .ok (.aload_n 0, 1) := by decide +kernel
theorem dX8_device_61 : decode cX8_device 61 = .ok (.getfield 54, 3) := by decide +kernel
theorem dX8_device_64 : decode cX8_device 64 = .ok (.iload 4, 2) := by decide +kernel
theorem dX8_device_66 : decode cX8_device 66 = .ok (.iload_n 3, 1) := by decide +kernel
theorem dX8_device_67 : decode cX8_device 67 = .ok (.iastore, 1) := by decide +kernel
theorem dX8_device_68 : decode cX8_device 68 = .ok (.aload_n 0, 1) := by decide +kernel
theorem dX8_device_69 : decode cX8_device 69 = .ok (.getfield 60, 3) := by decide +kernel
theorem dX8_device_72 : decode cX8_device 72 = .ok (.iload 4, 2) := by decide +kernel
theorem dX8_device_74 : decode cX8_device 74 = .ok (.iconst 0, 1) := by decide +kernel
theorem dX8_device_75 : decode cX8_device 75 = .ok (.iastore, 1) := by decide +kernel
theorem dX8_device_76 : decode cX8_device 76 = .ok (.aload_n 0, 1) := by decide +kernel
theorem dX8_device_77 : decode cX8_device 77 = .ok (.getfield 57, 3) := by decide +kernel
theorem dX8_device_80 : decode cX8_device 80 = .ok (.iload 4, 2) := by decide +kernel
theorem dX8_device_82 : decode cX8_device 82 = .ok (.iconst 0, 1) := by decide +kernel
theorem dX8_device_83 : decode cX8_device 83 = .ok (.iastore, 1) := by decide +kernel
theorem dX8_device_84 : decode cX8_device 84 = .ok (.return_, 1) := by decide +kernel
set_option maxRecDepth 20000 in
theorem ggX8_give_X8_lacks : GoodIn wsX8_give wsX8_lacks := goodIn_r _ [9, 2, 10, 11, 12, 13, 14, 15, 16, 17, 18, 19, 20, 21, 22, 23, 24, 25, 26, 27, 28, 29, 30, 31, 32, 33, 34, 35, 36, 37, 38, 39, 40, 41, 42, 43, 44] (by decide +kernel) (by decide +kernel)
set_option maxRecDepth 20000 in
theorem gX8_give_X8_lacks : GoodIn wsX8_give (wsV RX8 224 RX8 yX8_lacks wsX8_lacks) := goodIn_app (goodIn_of _ (by decide +kernel)) ggX8_give_X8_lacks
theorem dX8_give_0 : decode cX8_give 0 = .ok (.aload_n 0, 1) := by decide +kernel
theorem dX8_give_1 : decode cX8_give 1 = .ok (.iload_n 1, 1) := by decide +kernel
theorem dX8_give_2 : decode cX8_give 2 = .ok (.iconst 4, 1) := by decide +kernel
theorem dX8_give_3 : decode cX8_give 3 = .ok (.invokevirtual 224, 3) := by decide +kernel
theorem dX8_give_6 : decode cX8_give 6 = .ok (.ifCond .eq 5, 3) := by decide +kernel
theorem dX8_give_9 : decode cX8_give 9 = .ok (.iconst 0, 1) := by decide +kernel
theorem dX8_give_10 : decode cX8_give 10 = .ok (.ireturn, 1) := by decide +kernel
theorem dX8_give_11 : decode cX8_give 11 = .ok (.bipush 8, 2) := by decide +kernel
theorem dX8_give_13 : decode cX8_give 13 = .ok (.iload_n 1, 1) := by decide +kernel
theorem dX8_give_14 : decode cX8_give 14 = .ok (.iadd, 1) := by decide +kernel
theorem dX8_give_15 : decode cX8_give 15 = .ok (.istore_n 3, 1) := by decide +kernel
theorem dX8_give_16 : decode cX8_give 16 = .ok (.aload_n 0, 1) := by decide +kernel
theorem dX8_give_17 : decode cX8_give 17 = .ok (.aload_n 0, 1) := by decide +kernel
theorem dX8_give_18 : decode cX8_give 18 = .ok (.getfield 63, 3) := by decide +kernel
theorem dX8_give_21 : decode cX8_give 21 = .ok (.iload_n 3, 1) := by decide +kernel
theorem dX8_give_22 : decode cX8_give 22 = .ok (.iaload, 1) := by decide +kernel
theorem dX8_give_23 : decode cX8_give 23 = .ok (.bipush 100, 2) := by decide +kernel
theorem dX8_give_25 : decode cX8_give 25 = .ok (.if_icmp .ne 7, 3) := by decide +kernel
theorem dX8_give_28 : decode cX8_give 28 = .ok (.iconst 2, 1) := by decide +kernel
theorem dX8_give_29 : decode cX8_give 29 = .ok (.goto 4, 3) := by decide +kernel
theorem dX8_give_32 : decode cX8_give 32 = .ok (.iconst 0, 1) := by decide +kernel
theorem dX8_give_33 : decode cX8_give 33 = .ok (.putfield 75, 3) := by decide +kernel
theorem dX8_give_36 : decode cX8_give 36 = .ok (.aload_n 0, 1) := by decide +kernel
theorem dX8_give_37 : decode cX8_give 37 = .ok (.getfield 75, 3) := by decide +kernel
theorem dX8_give_40 : decode cX8_give 40 = .ok (.ifCond .le 5, 3) := by decide +kernel
theorem dX8_give_43 : decode cX8_give 43 = .ok (.iconst 0, 1) := by decide +kernel
theorem dX8_give_44 : decode cX8_give 44 = .ok (.ireturn, 1) := by decide +kernel
theorem dX8_give_45 : decode cX8_give 45 = .ok (.aload_n 0, 1) := by decide +kernel
theorem dX8_give_46 : decode cX8_give 46 = .ok (.getfield 69, 3) := by decide +kernel
theorem dX8_give_49 : decode cX8_give 49 = .ok (.bipush 100, 2) := by decide +kernel
theorem dX8_give_51 : decode cX8_give 51 = .ok (.iload_n 3, 1) := by decide +kernel
theorem dX8_give_52 : decode cX8_give 52 = .ok (.imul, 1) := by decide +kernel
theorem dX8_give_53 : decode cX8_give 53 = .ok (.aload_n 0, 1) := by decide +kernel
theorem dX8_give_54 : decode cX8_give 54 = .ok (.getfield 63, 3) := by decide +kernel
theorem dX8_give_57 : decode cX8_give 57 = .ok (.iload_n 3, 1) := by decide +kernel
theorem dX8_give_58 : decode cX8_give 58 = .ok (.iaload, 1) := by decide +kernel
theorem dX8_give_59 : decode cX8_give 59 = .ok (.iadd, 1) := by decide +kernel
theorem dX8_give_60 : decode cX8_give 60 = .ok (.iload_n 2, 1) := by decide +kernel
theorem dX8_give_61 : decode cX8_give 61 = .ok (.ldc 102, 2) := by decide +kernel
theorem dX8_give_63 : decode cX8_give 63 = .ok (.iand, 1) := by decide +kernel
theorem dX8_give_64 : decode cX8_give 64 = .ok (.iastore, 1) := by decide +kernel
theorem dX8_give_65 : decode cX8_give 65 = .ok (.aload_n 0, 1) := by decide +kernel
theorem dX8_give_66 : decode cX8_give 66 = .ok (.getfield 63, 3) := by decide +kernel
theorem dX8_give_69 : decode cX8_give 69 = .ok (.iload_n 3, 1) := by decide +kernel
theorem dX8_give_70 : decode cX8_give 70 = .ok (.dup2, 1) := by decide +kernel
theorem dX8_give_71 : decode cX8_give 71 = .ok (.iaload, 1) := by decide +kernel
theorem dX8_give_72 : decode cX8_give 72 = .ok (.iconst 1, 1) := by decide +kernel
theorem dX8_give_73 : decode cX8_give 73 = .ok (.iadd, 1) := by decide +kernel
theorem dX8_give_74 : decode cX8_give 74 = .ok (.iastore, 1) := by decide +kernel
theorem dX8_give_75 : decode cX8_give 75 = .ok (.aload_n 0, 1) := by decide +kernel
theorem dX8_give_76 : decode cX8_give 76 = .ok (.getfield 63, 3) := by decide +kernel
theorem dX8_give_79 : decode cX8_give 79 = .ok (.iload_n 3, 1) := by decide +kernel
theorem dX8_give_80 : decode cX8_give 80 = .ok (.iaload, 1) := by decide +kernel
theorem dX8_give_81 : decode cX8_give 81 = .ok (.ireturn, 1) := by decide +kernel
set_option maxRecDepth 20000 in
theorem ggX8_out_X8_lacks : GoodIn wsX8_out wsX8_lacks := goodIn_r _ [7, 8, 9, 10, 11, 12, 13, 14, 15, 16, 17, 18, 19, 20, 21, 22, 23, 24, 25, 26, 27, 28, 29, 30, 31, 32, 33, 34, 35, 36, 37, 38, 39, 40, 41, 42, 43] (by decide +kernel) (by decide +kernel)
set_option maxRecDepth 20000 in
theorem gX8_out_X8_lacks : GoodIn wsX8_out (wsV RX8 224 RX8 yX8_lacks wsX8_lacks) := goodIn_app (goodIn_of _ (by decide +kernel)) ggX8_out_X8_lacks
theorem dX8_out_0 : decode cX8_out 0 = .ok (.aload_n 0, 1) := by decide +kernel
theorem dX8_out_1 : decode cX8_out 1 = .ok (.iload_n 1, 1) := by decide +kernel
theorem dX8_out_2 : decode cX8_out 2 = .ok (.iconst 4, 1) := by decide +kernel
theorem dX8_out_3 : decode cX8_out 3 = .ok (.invokevirtual 224, 3) := by decide +kernel
theorem dX8_out_6 : decode cX8_out 6 = .ok (.ifCond .eq 5, 3) := by decide +kernel
theorem dX8_out_9 : decode cX8_out 9 = .ok (.iconst 0, 1) := by decide +kernel
theorem dX8_out_10 : decode cX8_out 10 = .ok (.ireturn, 1) := by decide +kernel
theorem dX8_out_11 : decode cX8_out 11 = .ok (.bipush 8, 2) := by decide +kernel
theorem dX8_out_13 : decode cX8_out 13 = .ok (.iload_n 1, 1) := by decide +kernel
theorem dX8_out_14 : decode cX8_out 14 = .ok (.iadd, 1) := by decide +kernel
theorem dX8_out_15 : decode cX8_out 15 = .ok (.istore_n 3, 1) := by decide +kernel
theorem dX8_out_16 : decode cX8_out 16 = .ok (.iload_n 2, 1) := by decide +kernel
theorem dX8_out_17 : decode cX8_out 17 = .ok (.ifCond .lt 20, 3) := by decide +kernel
theorem dX8_out_20 : decode cX8_out 20 = .ok (.iload_n 2, 1) := by decide +kernel
theorem dX8_out_21 : decode cX8_out 21 = .ok (.aload_n 0, 1) := by decide +kernel
theorem dX8_out_22 : decode cX8_out 22 = .ok (.getfield 66, 3) := by decide +kernel
theorem dX8_out_25 : decode cX8_out 25 = .ok (.iload_n 3, 1) := by decide +kernel
theorem dX8_out_26 : decode cX8_out 26 = .ok (.iaload, 1) := by decide +kernel
theorem dX8_out_27 : decode cX8_out 27 = .ok (.if_icmp .ge 10, 3) := by decide +kernel
theorem dX8_out_30 : decode cX8_out 30 = .ok (.iload_n 2, 1) := by decide +kernel
theorem dX8_out_31 : decode cX8_out 31 = .ok (.sipush 200, 3) := by decide +kernel
theorem dX8_out_34 : decode cX8_out 34 = .ok (.if_icmp .lt 7, 3) := by decide +kernel
theorem dX8_out_37 : decode cX8_out 37 = .ok (.iconst (-1), 1) := by decide +kernel
theorem dX8_out_38 : decode cX8_out 38 = .ok (.goto 15, 3) := by decide +kernel
theorem dX8_out_41 : decode cX8_out 41 = .ok (.aload_n 0, 1) := by decide +kernel
theorem dX8_out_42 : decode cX8_out 42 = .ok (.getfield 72, 3) := by decide +kernel
theorem dX8_out_45 : decode cX8_out 45 = .ok (.sipush 200, 3) := by decide +kernel
theorem dX8_out_48 : decode cX8_out 48 = .ok (.iload_n 3, 1) := by decide +kernel
theorem dX8_out_49 : decode cX8_out 49 = .ok (.imul, 1) := by decide +kernel
theorem dX8_out_50 : decode cX8_out 50 = .ok (.iload_n 2, 1) := by decide +kernel
theorem dX8_out_51 : decode cX8_out 51 = .ok (.iadd, 1) := by decide +kernel
theorem dX8_out_52 : decode cX8_out 52 = .ok (.iaload, 1) := by decide +kernel
theorem dX8_out_53 : decode cX8_out 53 = .ok (.ireturn, 1) := by decide +kernel
theorem dX8_code_0 : decode cX8_code 0 = .ok (.aload_n 0, 1) := by decide +kernel
theorem dX8_code_1 : decode cX8_code 1 = .ok (.iconst 0, 1) := by decide +kernel
theorem dX8_code_2 : decode cX8_code 2 = .ok (.putfield 75, 3) := by decide +kernel
theorem dX8_code_5 : decode cX8_code 5 = .ok (.iload_n 1, 1) := by decide +kernel
theorem dX8_code_6 : decode cX8_code 6 = .ok (.bipush 6, 2) := by decide +kernel
theorem dX8_code_8 : decode cX8_code 8 = .ok (.if_icmp .lt 9, 3) := by decide +kernel
theorem dX8_code_11 : decode cX8_code 11 = .ok (.iload_n 1, 1) := by decide +kernel
theorem dX8_code_12 : decode cX8_code 12 = .ok (.bipush 12, 2) := by decide +kernel
theorem dX8_code_14 : decode cX8_code 14 = .ok (.if_icmp .lt 5, 3) := by decide +kernel
theorem dX8_code_17 : decode cX8_code 17 = .ok (.iconst (-1), 1) := by decide +kernel
theorem dX8_code_18 : decode cX8_code 18 = .ok (.ireturn, 1) := by decide +kernel
theorem dX8_code_19 : decode cX8_code 19 = .ok (.iload_n 2, 1) := by decide +kernel
theorem dX8_code_20 : decode cX8_code 20 = .ok (.tableswitch 253 0 8 #[52, 67, 82, 97, 127, 149, 171, 209, 231], 52) := by decide +kernel
theorem dX8_code_72 : decode cX8_code 72 = .ok (.aload_n 0, 1) := by decide +kernel
theorem dX8_code_73 : decode cX8_code 73 = .ok (.getfield 20, 3) := by decide +kernel
theorem dX8_code_76 : decode cX8_code 76 = .ok (.iload_n 1, 1) := by decide +kernel
theorem dX8_code_77 : decode cX8_code 77 = .ok (.baload, 1) := by decide +kernel
theorem dX8_code_78 : decode cX8_code 78 = .ok (.ifCond .eq 7, 3) := by decide +kernel
theorem dX8_code_81 : decode cX8_code 81 = .ok (.iconst 1, 1) := by decide +kernel
theorem dX8_code_82 : decode cX8_code 82 = .ok (.goto 4, 3) := by decide +kernel
theorem dX8_code_85 : decode cX8_code 85 = .ok (.iconst 0, 1) := by decide +kernel
theorem dX8_code_86 : decode cX8_code 86 = .ok (.ireturn, 1) := by decide +kernel
theorem dX8_code_87 : decode cX8_code 87 = .ok (.aload_n 0, 1) := by decide +kernel
theorem dX8_code_88 : decode cX8_code 88 = .ok (.getfield 24, 3) := by decide +kernel
theorem dX8_code_91 : decode cX8_code 91 = .ok (.iload_n 1, 1) := by decide +kernel
theorem dX8_code_92 : decode cX8_code 92 = .ok (.baload, 1) := by decide +kernel
theorem dX8_code_93 : decode cX8_code 93 = .ok (.ifCond .eq 7, 3) := by decide +kernel
theorem dX8_code_96 : decode cX8_code 96 = .ok (.iconst 1, 1) := by decide +kernel
theorem dX8_code_97 : decode cX8_code 97 = .ok (.goto 4, 3) := by decide +kernel
theorem dX8_code_100 : decode cX8_code 100 = .ok (.iconst 0, 1) := by decide +kernel
theorem dX8_code_101 : decode cX8_code 101 = .ok (.ireturn, 1) := by decide +kernel
theorem dX8_code_102 : decode cX8_code 102 = .ok (.aload_n 0, 1) := by decide +kernel
theorem dX8_code_103 : decode cX8_code 103 = .ok (.getfield 27, 3) := by decide +kernel
theorem dX8_code_106 : decode cX8_code 106 = .ok (.iload_n 1, 1) := by decide +kernel
theorem dX8_code_107 : decode cX8_code 107 = .ok (.baload, 1) := by decide +kernel
theorem dX8_code_108 : decode cX8_code 108 = .ok (.ifCond .eq 7, 3) := by decide +kernel
theorem dX8_code_111 : decode cX8_code 111 = .ok (.iconst 1, 1) := by decide +kernel
theorem dX8_code_112 : decode cX8_code 112 = .ok (.goto 4, 3) := by decide +kernel
theorem dX8_code_115 : decode cX8_code 115 = .ok (.iconst 0, 1) := by decide +kernel
theorem dX8_code_116 : decode cX8_code 116 = .ok (.ireturn, 1) := by decide +kernel
theorem dX8_code_117 : decode cX8_code 117 = .ok (.iload_n 1, 1) := by decide +kernel
theorem dX8_code_118 : decode cX8_code 118 = .ok (.bipush 8, 2) := by decide +kernel
theorem dX8_code_120 : decode cX8_code 120 = .ok (.if_icmp .ge 20, 3) := by decide +kernel
theorem dX8_code_123 : decode cX8_code 123 = .ok (.aload_n 0, 1) := by decide +kernel
theorem dX8_code_124 : decode cX8_code 124 = .ok (.getfield 30, 3) := by decide +kernel
theorem dX8_code_127 : decode cX8_code 127 = .ok (.iload_n 1, 1) := by decide +kernel
theorem dX8_code_128 : decode cX8_code 128 = .ok (.baload, 1) := by decide +kernel
theorem dX8_code_129 : decode cX8_code 129 = .ok (.ifCond .eq 7, 3) := by decide +kernel
theorem dX8_code_132 : decode cX8_code 132 = .ok (.iconst 1, 1) := by decide +kernel
theorem dX8_code_133 : decode cX8_code 133 = .ok (.goto 13, 3) := by decide +kernel
theorem dX8_code_136 : decode cX8_code 136 = .ok (.iconst 0, 1) := by decide +kernel
theorem dX8_code_137 : decode cX8_code 137 = .ok (.goto 9, 3) := by decide +kernel
theorem dX8_code_140 : decode cX8_code 140 = .ok (.aload_n 0, 1) := by decide +kernel
theorem dX8_code_141 : decode cX8_code 141 = .ok (.getfield 60, 3) := by decide +kernel
theorem dX8_code_144 : decode cX8_code 144 = .ok (.iload_n 1, 1) := by decide +kernel
theorem dX8_code_145 : decode cX8_code 145 = .ok (.iaload, 1) := by decide +kernel
theorem dX8_code_146 : decode cX8_code 146 = .ok (.ireturn, 1) := by decide +kernel
theorem dX8_code_147 : decode cX8_code 147 = .ok (.iload_n 1, 1) := by decide +kernel
theorem dX8_code_148 : decode cX8_code 148 = .ok (.bipush 8, 2) := by decide +kernel
theorem dX8_code_150 : decode cX8_code 150 = .ok (.if_icmp .ge 12, 3) := by decide +kernel
theorem dX8_code_153 : decode cX8_code 153 = .ok (.aload_n 0, 1) := by decide +kernel
theorem dX8_code_154 : decode cX8_code 154 = .ok (.getfield 39, 3) := by decide +kernel
theorem dX8_code_157 : decode cX8_code 157 = .ok (.iload_n 1, 1) := by decide +kernel
theorem dX8_code_158 : decode cX8_code 158 = .ok (.iaload, 1) := by decide +kernel
theorem dX8_code_159 : decode cX8_code 159 = .ok (.goto 9, 3) := by decide +kernel
theorem dX8_code_162 : decode cX8_code 162 = .ok (.aload_n 0, 1) := by decide +kernel
theorem dX8_code_163 : decode cX8_code 163 = .ok (.getfield 57, 3) := by decide +kernel
theorem dX8_code_166 : decode cX8_code 166 = .ok (.iload_n 1, 1) := by decide +kernel
theorem dX8_code_167 : decode cX8_code 167 = .ok (.iaload, 1) := by decide +kernel
theorem dX8_code_168 : decode cX8_code 168 = .ok (.ireturn, 1) := by decide +kernel
theorem dX8_code_169 : decode cX8_code 169 = .ok (.iload_n 1, 1) := by decide +kernel
theorem dX8_code_170 : decode cX8_code 170 = .ok (.bipush 8, 2) := by decide +kernel
theorem dX8_code_172 : decode cX8_code 172 = .ok (.if_icmp .ge 12, 3) := by decide +kernel
theorem dX8_code_175 : decode cX8_code 175 = .ok (.aload_n 0, 1) := by decide +kernel
theorem dX8_code_176 : decode cX8_code 176 = .ok (.getfield 42, 3) := by decide +kernel
theorem dX8_code_179 : decode cX8_code 179 = .ok (.iload_n 1, 1) := by decide +kernel
theorem dX8_code_180 : decode cX8_code 180 = .ok (.iaload, 1) := by decide +kernel
theorem dX8_code_181 : decode cX8_code 181 = .ok (.goto 9, 3) := by decide +kernel
theorem dX8_code_184 : decode cX8_code 184 = .ok (.aload_n 0, 1) := by decide +kernel
theorem dX8_code_185 : decode cX8_code 185 = .ok (.getfield 63, 3) := by decide +kernel
theorem dX8_code_188 : decode cX8_code 188 = .ok (.iload_n 1, 1) := by decide +kernel
theorem dX8_code_189 : decode cX8_code 189 = .ok (.iaload, 1) := by decide +kernel
theorem dX8_code_190 : decode cX8_code 190 = .ok (.ireturn, 1) := by decide +kernel
theorem dX8_code_191 : decode cX8_code 191 = .ok (.iload_n 1, 1) := by decide +kernel
theorem dX8_code_192 : decode cX8_code 192 = .ok (.bipush 8, 2) := by decide +kernel
theorem dX8_code_194 : decode cX8_code 194 = .ok (.if_icmp .ge 20, 3) := by decide +kernel
theorem dX8_code_197 : decode cX8_code 197 = .ok (.aload_n 0, 1) := by decide +kernel
theorem dX8_code_198 : decode cX8_code 198 = .ok (.getfield 33, 3) := by decide +kernel
theorem dX8_code_201 : decode cX8_code 201 = .ok (.iload_n 1, 1) := by decide +kernel
theorem dX8_code_202 : decode cX8_code 202 = .ok (.baload, 1) := by decide +kernel
theorem dX8_code_203 : decode cX8_code 203 = .ok (.ifCond .eq 7, 3) := by decide +kernel
theorem dX8_code_206 : decode cX8_code 206 = .ok (.iconst 1, 1) := by decide +kernel
theorem dX8_code_207 : decode cX8_code 207 = .ok (.goto 21, 3) := by decide +kernel
theorem dX8_code_210 : decode cX8_code 210 = .ok (.iconst 0, 1) := by decide +kernel
theorem dX8_code_211 : decode cX8_code 211 = .ok (.goto 17, 3) := by decide +kernel
theorem dX8_code_214 : decode cX8_code 214 = .ok (.aload_n 0, 1) := by decide +kernel
theorem dX8_code_215 : decode cX8_code 215 = .ok (.getfield 51, 3) := by decide +kernel
theorem dX8_code_218 : decode cX8_code 218 = .ok (.iload_n 1, 1) := by decide +kernel
theorem dX8_code_219 : decode cX8_code 219 = .ok (.baload, 1) := by decide +kernel
theorem dX8_code_220 : decode cX8_code 220 = .ok (.ifCond .eq 7, 3) := by decide +kernel
theorem dX8_code_223 : decode cX8_code 223 = .ok (.iconst 0, 1) := by decide +kernel
theorem dX8_code_224 : decode cX8_code 224 = .ok (.goto 4, 3) := by decide +kernel
theorem dX8_code_227 : decode cX8_code 227 = .ok (.iconst 1, 1) := by decide +kernel
theorem dX8_code_228 : decode cX8_code 228 = .ok (.ireturn, 1) := by decide +kernel
theorem dX8_code_229 : decode cX8_code 229 = .ok (.iload_n 1, 1) := by decide +kernel
theorem dX8_code_230 : decode cX8_code 230 = .ok (.bipush 8, 2) := by decide +kernel
theorem dX8_code_232 : decode cX8_code 232 = .ok (.if_icmp .ge 12, 3) := by decide +kernel
theorem dX8_code_235 : decode cX8_code 235 = .ok (.aload_n 0, 1) := by decide +kernel
theorem dX8_code_236 : decode cX8_code 236 = .ok (.getfield 45, 3) := by decide +kernel
theorem dX8_code_239 : decode cX8_code 239 = .ok (.iload_n 1, 1) := by decide +kernel
theorem dX8_code_240 : decode cX8_code 240 = .ok (.iaload, 1) := by decide +kernel
theorem dX8_code_241 : decode cX8_code 241 = .ok (.goto 9, 3) := by decide +kernel
theorem dX8_code_244 : decode cX8_code 244 = .ok (.aload_n 0, 1) := by decide +kernel
theorem dX8_code_245 : decode cX8_code 245 = .ok (.getfield 54, 3) := by decide +kernel
theorem dX8_code_248 : decode cX8_code 248 = .ok (.iload_n 1, 1) := by decide +kernel
theorem dX8_code_249 : decode cX8_code 249 = .ok (.iaload, 1) := by decide +kernel
theorem dX8_code_250 : decode cX8_code 250 = .ok (.ireturn, 1) := by decide +kernel
theorem dX8_code_251 : decode cX8_code 251 = .ok (.iload_n 1, 1) := by decide +kernel
theorem dX8_code_252 : decode cX8_code 252 = .ok (.bipush 8, 2) := by decide +kernel
theorem dX8_code_254 : decode cX8_code 254 = .ok (.if_icmp .ge 12, 3) := by decide +kernel
theorem dX8_code_257 : decode cX8_code 257 = .ok (.aload_n 0, 1) := by decide +kernel
theorem dX8_code_258 : decode cX8_code 258 = .ok (.getfield 48, 3) := by decide +kernel
theorem dX8_code_261 : decode cX8_code 261 = .ok (.iload_n 1, 1) := by decide +kernel
theorem dX8_code_262 : decode cX8_code 262 = .ok (.iaload, 1) := by decide +kernel
theorem dX8_code_263 : decode cX8_code 263 = .ok (.goto 9, 3) := by decide +kernel
theorem dX8_code_266 : decode cX8_code 266 = .ok (.aload_n 0, 1) := by decide +kernel
theorem dX8_code_267 : decode cX8_code 267 = .ok (.getfield 66, 3) := by decide +kernel
theorem dX8_code_270 : decode cX8_code 270 = .ok (.iload_n 1, 1) := by decide +kernel
theorem dX8_code_271 : decode cX8_code 271 = .ok (.iaload, 1) := by decide +kernel
theorem dX8_code_272 : decode cX8_code 272 = .ok (.ireturn, 1) := by decide +kernel
theorem dX8_code_273 : decode cX8_code 273 = .ok (.iconst (-1), 1) := by decide +kernel
theorem dX8_code_274 : decode cX8_code 274 = .ok (.ireturn, 1) := by decide +kernel
set_option maxRecDepth 20000 in
theorem ggX8_sum__X8_at : GoodIn wsX8_sum_ wsX8_at := goodIn_r _ [6, 7, 8, 9, 10, 11, 12, 13, 14, 15, 16, 17, 18, 19, 20, 21, 22, 23, 24, 25, 26, 27, 28, 29, 30, 31, 32, 33, 34, 35, 36, 37, 38, 39, 40, 41, 42, 43, 44] (by decide +kernel) (by decide +kernel)
set_option maxRecDepth 20000 in
theorem gX8_sum__X8_at : GoodIn wsX8_sum_ (wsV RX8 95 RX8 yX8_at wsX8_at) := goodIn_app (goodIn_of _ (by decide +kernel)) ggX8_sum__X8_at
theorem dX8_sum__0 : decode cX8_sum_ 0 = .ok (.aload_n 0, 1) := by decide +kernel
theorem dX8_sum__1 : decode cX8_sum_ 1 = .ok (.iconst 0, 1) := by decide +kernel
theorem dX8_sum__2 : decode cX8_sum_ 2 = .ok (.putfield 75, 3) := by decide +kernel
theorem dX8_sum__5 : decode cX8_sum_ 5 = .ok (.iconst 0, 1) := by decide +kernel
theorem dX8_sum__6 : decode cX8_sum_ 6 = .ok (.istore_n 1, 1) := by decide +kernel
theorem dX8_sum__7 : decode cX8_sum_ 7 = .ok (.iconst 0, 1) := by decide +kernel
theorem dX8_sum__8 : decode cX8_sum_ 8 = .ok (.istore_n 2, 1) := by decide +kernel
theorem dX8_sum__9 : decode cX8_sum_ 9 = .ok (.iload_n 2, 1) := by decide +kernel
theorem dX8_sum__10 : decode cX8_sum_ 10 = .ok (.sipush 4096, 3) := by decide +kernel
theorem dX8_sum__13 : decode cX8_sum_ 13 = .ok (.if_icmp .ge 20, 3) := by decide +kernel
theorem dX8_sum__16 : decode cX8_sum_ 16 = .ok (.bipush 31, 2) := by decide +kernel
theorem dX8_sum__18 : decode cX8_sum_ 18 = .ok (.iload_n 1, 1) := by decide +kernel
theorem dX8_sum__19 : decode cX8_sum_ 19 = .ok (.imul, 1) := by decide +kernel
theorem dX8_sum__20 : decode cX8_sum_ 20 = .ok (.aload_n 0, 1) := by decide +kernel
theorem dX8_sum__21 : decode cX8_sum_ 21 = .ok (.iload_n 2, 1) := by decide +kernel
theorem dX8_sum__22 : decode cX8_sum_ 22 = .ok (.invokevirtual 95, 3) := by decide +kernel
theorem dX8_sum__25 : decode cX8_sum_ 25 = .ok (.iadd, 1) := by decide +kernel
theorem dX8_sum__26 : decode cX8_sum_ 26 = .ok (.istore_n 1, 1) := by decide +kernel
theorem dX8_sum__27 : decode cX8_sum_ 27 = .ok (.iinc 2 1, 3) := by decide +kernel
theorem dX8_sum__30 : decode cX8_sum_ 30 = .ok (.goto (-21), 3) := by decide +kernel
theorem dX8_sum__33 : decode cX8_sum_ 33 = .ok (.iload_n 1, 1) := by decide +kernel
theorem dX8_sum__34 : decode cX8_sum_ 34 = .ok (.ireturn, 1) := by decide +kernel
