set_option maxRecDepth 20000 in
theorem ggX0_init_X1_init : GoodIn wsX0_init wsX1_init := goodIn_r _ [16, 17, 2, 3, 18, 19, 20, 21, 22, 23, 24, 60, 61, 62, 42, 43, 44, 45, 46, 47, 48, 49] (by decide +kernel) (by decide +kernel)
set_option maxRecDepth 20000 in
theorem gX0_init_X1_init_n33 : GoodIn wsX0_init (wsX1_init) := ggX0_init_X1_init
set_option maxRecDepth 20000 in
theorem ggX0_init_X2_init : GoodIn wsX0_init wsX2_init := goodIn_r _ [26, 27, 2, 3, 28, 19, 20, 29, 30, 31, 32, 33, 34, 22, 23, 24, 60, 61, 62, 50, 51, 52, 53, 54, 55, 56, 57, 58, 59] (by decide +kernel) (by decide +kernel)
set_option maxRecDepth 20000 in
theorem gX0_init_X2_init_n38 : GoodIn wsX0_init (wsX2_init) := ggX0_init_X2_init
theorem dX0_init_0 : decode cX0_init 0 = .ok (.aload_n 0, 1) := by decide +kernel
theorem dX0_init_1 : decode cX0_init 1 = .ok (.invokespecial 3, 3) := by decide +kernel
theorem dX0_init_4 : decode cX0_init 4 = .ok (.aload_n 0, 1) := by decide +kernel
theorem dX0_init_5 : decode cX0_init 5 = .ok (.iconst 2, 1) := by decide +kernel
theorem dX0_init_6 : decode cX0_init 6 = .ok (.anewarray 9, 3) := by decide +kernel
theorem dX0_init_9 : decode cX0_init 9 = .ok (.putfield 11, 3) := by decide +kernel
theorem dX0_init_12 : decode cX0_init 12 = .ok (.aload_n 0, 1) := by decide +kernel
theorem dX0_init_13 : decode cX0_init 13 = .ok (.iconst 4, 1) := by decide +kernel
theorem dX0_init_14 : decode cX0_init 14 = .ok (.anewarray 17, 3) := by decide +kernel
theorem dX0_init_17 : decode cX0_init 17 = .ok (.putfield 19, 3) := by decide +kernel
theorem dX0_init_20 : decode cX0_init 20 = .ok (.aload_n 0, 1) := by decide +kernel
theorem dX0_init_21 : decode cX0_init 21 = .ok (.bipush 6, 2) := by decide +kernel
theorem dX0_init_23 : decode cX0_init 23 = .ok (.anewarray 23, 3) := by decide +kernel
theorem dX0_init_26 : decode cX0_init 26 = .ok (.putfield 25, 3) := by decide +kernel
theorem dX0_init_29 : decode cX0_init 29 = .ok (.aload_n 0, 1) := by decide +kernel
theorem dX0_init_30 : decode cX0_init 30 = .ok (.aload_n 1, 1) := by decide +kernel
theorem dX0_init_31 : decode cX0_init 31 = .ok (.putfield 29, 3) := by decide +kernel
theorem dX0_init_34 : decode cX0_init 34 = .ok (.iconst 0, 1) := by decide +kernel
theorem dX0_init_35 : decode cX0_init 35 = .ok (.istore_n 2, 1) := by decide +kernel
theorem dX0_init_36 : decode cX0_init 36 = .ok (.iload_n 2, 1) := by decide +kernel
theorem dX0_init_37 : decode cX0_init 37 = .ok (.iconst 2, 1) := by decide +kernel
theorem dX0_init_38 : decode cX0_init 38 = .ok (.if_icmp .ge 34, 3) := by decide +kernel
theorem dX0_init_41 : decode cX0_init 41 = .ok (.new 9, 3) := by decide +kernel
theorem dX0_init_44 : decode cX0_init 44 = .ok (.dup, 1) := by decide +kernel
theorem dX0_init_45 : decode cX0_init 45 = .ok (.invokespecial 33, 3) := by decide +kernel
theorem dX0_init_48 : decode cX0_init 48 = .ok (.astore_n 3, 1) := by decide +kernel
theorem dX0_init_49 : decode cX0_init 49 = .ok (.aload_n 0, 1) := by decide +kernel
theorem dX0_init_50 : decode cX0_init 50 = .ok (.getfield 11, 3) := by decide +kernel
theorem dX0_init_53 : decode cX0_init 53 = .ok (.iload_n 2, 1) := by decide +kernel
theorem dX0_init_54 : decode cX0_init 54 = .ok (.aload_n 3, 1) := by decide +kernel
theorem dX0_init_55 : decode cX0_init 55 = .ok (.aastore, 1) := by decide +kernel
theorem dX0_init_56 : decode cX0_init 56 = .ok (.aload_n 0, 1) := by decide +kernel
theorem dX0_init_57 : decode cX0_init 57 = .ok (.getfield 25, 3) := by decide +kernel
theorem dX0_init_60 : decode cX0_init 60 = .ok (.iload_n 2, 1) := by decide +kernel
theorem dX0_init_61 : decode cX0_init 61 = .ok (.aload_n 3, 1) := by decide +kernel
theorem dX0_init_62 : decode cX0_init 62 = .ok (.getfield 34, 3) := by decide +kernel
theorem dX0_init_65 : decode cX0_init 65 = .ok (.aastore, 1) := by decide +kernel
theorem dX0_init_66 : decode cX0_init 66 = .ok (.iinc 2 1, 3) := by decide +kernel
theorem dX0_init_69 : decode cX0_init 69 = .ok (.goto (-33), 3) := by decide +kernel
theorem dX0_init_72 : decode cX0_init 72 = .ok (.iconst 0, 1) := by decide +kernel
theorem dX0_init_73 : decode cX0_init 73 = .ok (.istore_n 2, 1) := by decide +kernel
theorem dX0_init_74 : decode cX0_init 74 = .ok (.iload_n 2, 1) := by decide +kernel
theorem dX0_init_75 : decode cX0_init 75 = .ok (.iconst 4, 1) := by decide +kernel
theorem dX0_init_76 : decode cX0_init 76 = .ok (.if_icmp .ge 36, 3) := by decide +kernel
theorem dX0_init_79 : decode cX0_init 79 = .ok (.new 17, 3) := by decide +kernel
theorem dX0_init_82 : decode cX0_init 82 = .ok (.dup, 1) := by decide +kernel
theorem dX0_init_83 : decode cX0_init 83 = .ok (.invokespecial 38, 3) := by decide +kernel
theorem dX0_init_86 : decode cX0_init 86 = .ok (.astore_n 3, 1) := by decide +kernel
theorem dX0_init_87 : decode cX0_init 87 = .ok (.aload_n 0, 1) := by decide +kernel
theorem dX0_init_88 : decode cX0_init 88 = .ok (.getfield 19, 3) := by decide +kernel
theorem dX0_init_91 : decode cX0_init 91 = .ok (.iload_n 2, 1) := by decide +kernel
theorem dX0_init_92 : decode cX0_init 92 = .ok (.aload_n 3, 1) := by decide +kernel
theorem dX0_init_93 : decode cX0_init 93 = .ok (.aastore, 1) := by decide +kernel
theorem dX0_init_94 : decode cX0_init 94 = .ok (.aload_n 0, 1) := by decide +kernel
theorem dX0_init_95 : decode cX0_init 95 = .ok (.getfield 25, 3) := by decide +kernel
theorem dX0_init_98 : decode cX0_init 98 = .ok (.iconst 2, 1) := by decide +kernel
theorem dX0_init_99 : decode cX0_init 99 = .ok (.iload_n 2, 1) := by decide +kernel
theorem dX0_init_100 : decode cX0_init 100 = .ok (.iadd, 1) := by decide +kernel
theorem dX0_init_101 : decode cX0_init 101 = .ok (.aload_n 3, 1) := by decide +kernel
theorem dX0_init_102 : decode cX0_init 102 = .ok (.getfield 39, 3) := by decide +kernel
theorem dX0_init_105 : decode cX0_init 105 = .ok (.aastore, 1) := by decide +kernel
theorem dX0_init_106 : decode cX0_init 106 = .ok (.iinc 2 1, 3) := by decide +kernel
theorem dX0_init_109 : decode cX0_init 109 = .ok (.goto (-35), 3) := by decide +kernel
theorem dX0_init_112 : decode cX0_init 112 = .ok (.return_, 1) := by decide +kernel
theorem dX0_channelAt_0 : decode cX0_channelAt 0 = .ok (.iload_n 1, 1) := by decide +kernel
theorem dX0_channelAt_1 : decode cX0_channelAt 1 = .ok (.ifCond .lt 21, 3) := by decide +kernel
theorem dX0_channelAt_4 : decode cX0_channelAt 4 = .ok (.iload_n 1, 1) := by decide +kernel
theorem dX0_channelAt_5 : decode cX0_channelAt 5 = .ok (.aload_n 0, 1) := by decide +kernel
theorem dX0_channelAt_6 : decode cX0_channelAt 6 = .ok (.getfield 11, 3) := by decide +kernel
theorem dX0_channelAt_9 : decode cX0_channelAt 9 = .ok (.arraylength, 1) := by decide +kernel
theorem dX0_channelAt_10 : decode cX0_channelAt 10 = .ok (.if_icmp .ge 12, 3) := by decide +kernel
theorem dX0_channelAt_13 : decode cX0_channelAt 13 = .ok (.aload_n 0, 1) := by decide +kernel
theorem dX0_channelAt_14 : decode cX0_channelAt 14 = .ok (.getfield 11, 3) := by decide +kernel
theorem dX0_channelAt_17 : decode cX0_channelAt 17 = .ok (.iload_n 1, 1) := by decide +kernel
theorem dX0_channelAt_18 : decode cX0_channelAt 18 = .ok (.aaload, 1) := by decide +kernel
theorem dX0_channelAt_19 : decode cX0_channelAt 19 = .ok (.goto 4, 3) := by decide +kernel
theorem dX0_channelAt_22 : decode cX0_channelAt 22 = .ok (.aconst_null, 1) := by decide +kernel
theorem dX0_channelAt_23 : decode cX0_channelAt 23 = .ok (.areturn, 1) := by decide +kernel
theorem dX0_deviceAt_0 : decode cX0_deviceAt 0 = .ok (.iload_n 1, 1) := by decide +kernel
theorem dX0_deviceAt_1 : decode cX0_deviceAt 1 = .ok (.ifCond .lt 21, 3) := by decide +kernel
theorem dX0_deviceAt_4 : decode cX0_deviceAt 4 = .ok (.iload_n 1, 1) := by decide +kernel
theorem dX0_deviceAt_5 : decode cX0_deviceAt 5 = .ok (.aload_n 0, 1) := by decide +kernel
theorem dX0_deviceAt_6 : decode cX0_deviceAt 6 = .ok (.getfield 19, 3) := by decide +kernel
theorem dX0_deviceAt_9 : decode cX0_deviceAt 9 = .ok (.arraylength, 1) := by decide +kernel
theorem dX0_deviceAt_10 : decode cX0_deviceAt 10 = .ok (.if_icmp .ge 12, 3) := by decide +kernel
theorem dX0_deviceAt_13 : decode cX0_deviceAt 13 = .ok (.aload_n 0, 1) := by decide +kernel
theorem dX0_deviceAt_14 : decode cX0_deviceAt 14 = .ok (.getfield 19, 3) := by decide +kernel
theorem dX0_deviceAt_17 : decode cX0_deviceAt 17 = .ok (.iload_n 1, 1) := by decide +kernel
theorem dX0_deviceAt_18 : decode cX0_deviceAt 18 = .ok (.aaload, 1) := by decide +kernel
theorem dX0_deviceAt_19 : decode cX0_deviceAt 19 = .ok (.goto 4, 3) := by decide +kernel
theorem dX0_deviceAt_22 : decode cX0_deviceAt 22 = .ok (.aconst_null, 1) := by decide +kernel
theorem dX0_deviceAt_23 : decode cX0_deviceAt 23 = .ok (.areturn, 1) := by decide +kernel
theorem dX0_lineOf_0 : decode cX0_lineOf 0 = .ok (.iload_n 1, 1) := by decide +kernel
theorem dX0_lineOf_1 : decode cX0_lineOf 1 = .ok (.bipush 6, 2) := by decide +kernel
theorem dX0_lineOf_3 : decode cX0_lineOf 3 = .ok (.isub, 1) := by decide +kernel
theorem dX0_lineOf_4 : decode cX0_lineOf 4 = .ok (.istore_n 2, 1) := by decide +kernel
theorem dX0_lineOf_5 : decode cX0_lineOf 5 = .ok (.iload_n 2, 1) := by decide +kernel
theorem dX0_lineOf_6 : decode cX0_lineOf 6 = .ok (.ifCond .lt 21, 3) := by decide +kernel
theorem dX0_lineOf_9 : decode cX0_lineOf 9 = .ok (.iload_n 2, 1) := by decide +kernel
theorem dX0_lineOf_10 : decode cX0_lineOf 10 = .ok (.aload_n 0, 1) := by decide +kernel
theorem dX0_lineOf_11 : decode cX0_lineOf 11 = .ok (.getfield 25, 3) := by decide +kernel
theorem dX0_lineOf_14 : decode cX0_lineOf 14 = .ok (.arraylength, 1) := by decide +kernel
theorem dX0_lineOf_15 : decode cX0_lineOf 15 = .ok (.if_icmp .ge 12, 3) := by decide +kernel
theorem dX0_lineOf_18 : decode cX0_lineOf 18 = .ok (.aload_n 0, 1) := by decide +kernel
theorem dX0_lineOf_19 : decode cX0_lineOf 19 = .ok (.getfield 25, 3) := by decide +kernel
theorem dX0_lineOf_22 : decode cX0_lineOf 22 = .ok (.iload_n 2, 1) := by decide +kernel
theorem dX0_lineOf_23 : decode cX0_lineOf 23 = .ok (.aaload, 1) := by decide +kernel
theorem dX0_lineOf_24 : decode cX0_lineOf 24 = .ok (.goto 4, 3) := by decide +kernel
theorem dX0_lineOf_27 : decode cX0_lineOf 27 = .ok (.aconst_null, 1) := by decide +kernel
theorem dX0_lineOf_28 : decode cX0_lineOf 28 = .ok (.areturn, 1) := by decide +kernel
set_option maxRecDepth 20000 in
theorem ggX0_advanceDevices_X0_deviceAt : GoodIn wsX0_advanceDevices wsX0_deviceAt := goodIn_r _ [5, 6, 36, 37, 38, 39, 40, 41, 42] (by decide +kernel) (by decide +kernel)
set_option maxRecDepth 20000 in
theorem gX0_advanceDevices_X0_deviceAt : GoodIn wsX0_advanceDevices (wsV RX0 40 RX0 yX0_deviceAt wsX0_deviceAt) := goodIn_app (goodIn_of _ (by decide +kernel)) ggX0_advanceDevices_X0_deviceAt
set_option maxRecDepth 20000 in
theorem ggX0_advanceDevices_X2_advance : GoodIn wsX0_advanceDevices wsX2_advance := goodIn_r _ [11, 12, 13, 14, 15, 16, 17, 18, 10, 19, 20, 21, 22, 23, 24, 25, 26, 27, 28, 29, 30, 31, 32, 33, 34, 35, 43, 44, 45, 46, 47, 48, 49, 50, 51, 52, 53, 54, 55] (by decide +kernel) (by decide +kernel)
set_option maxRecDepth 20000 in
theorem gX0_advanceDevices_X2_advance : GoodIn wsX0_advanceDevices (wsV RX0 44 RX2 yX2_advance wsX2_advance) := goodIn_app (goodIn_of _ (by decide +kernel)) ggX0_advanceDevices_X2_advance
theorem dX0_advanceDevices_0 : decode cX0_advanceDevices 0 = .ok (.iconst 0, 1) := by decide +kernel
theorem dX0_advanceDevices_1 : decode cX0_advanceDevices 1 = .ok (.istore_n 1, 1) := by decide +kernel
theorem dX0_advanceDevices_2 : decode cX0_advanceDevices 2 = .ok (.iload_n 1, 1) := by decide +kernel
theorem dX0_advanceDevices_3 : decode cX0_advanceDevices 3 = .ok (.iconst 4, 1) := by decide +kernel
theorem dX0_advanceDevices_4 : decode cX0_advanceDevices 4 = .ok (.if_icmp .ge 23, 3) := by decide +kernel
theorem dX0_advanceDevices_7 : decode cX0_advanceDevices 7 = .ok (.aload_n 0, 1) := by decide +kernel
theorem dX0_advanceDevices_8 : decode cX0_advanceDevices 8 = .ok (.iload_n 1, 1) := by decide +kernel
theorem dX0_advanceDevices_9 : decode cX0_advanceDevices 9 = .ok (.invokevirtual 40, 3) := by decide +kernel
theorem dX0_advanceDevices_12 : decode cX0_advanceDevices 12 = .ok (.astore_n 2, 1) := by decide +kernel
theorem dX0_advanceDevices_13 : decode cX0_advanceDevices 13 = .ok (.aload_n 2, 1) := by decide +kernel
theorem dX0_advanceDevices_14 : decode cX0_advanceDevices 14 = .ok (.ifnull 7, 3) := by decide +kernel
theorem dX0_advanceDevices_17 : decode cX0_advanceDevices 17 = .ok (.aload_n 2, 1) := by decide +kernel
theorem dX0_advanceDevices_18 : decode cX0_advanceDevices 18 = .ok (.invokevirtual 44, 3) := by decide +kernel
theorem dX0_advanceDevices_21 : decode cX0_advanceDevices 21 = .ok (.iinc 1 1, 3) := by decide +kernel
theorem dX0_advanceDevices_24 : decode cX0_advanceDevices 24 = .ok (.goto (-22), 3) := by decide +kernel
theorem dX0_advanceDevices_27 : decode cX0_advanceDevices 27 = .ok (.return_, 1) := by decide +kernel
set_option maxRecDepth 20000 in
theorem ggX0_advanceChannels_X0_channelAt : GoodIn wsX0_advanceChannels wsX0_channelAt := goodIn_r _ [5, 6, 76, 77, 78, 79, 80, 81, 82] (by decide +kernel) (by decide +kernel)
set_option maxRecDepth 20000 in
theorem gX0_advanceChannels_X0_channelAt : GoodIn wsX0_advanceChannels (wsV RX0 47 RX0 yX0_channelAt wsX0_channelAt) := goodIn_app (goodIn_of _ (by decide +kernel)) ggX0_advanceChannels_X0_channelAt
set_option maxRecDepth 20000 in
theorem ggX0_advanceChannels_X0_deviceAt : GoodIn wsX0_advanceChannels wsX0_deviceAt := goodIn_r _ [10, 11, 76, 77, 78, 79, 80, 81, 82] (by decide +kernel) (by decide +kernel)
set_option maxRecDepth 20000 in
theorem gX0_advanceChannels_X0_deviceAt : GoodIn wsX0_advanceChannels (wsV RX0 40 RX0 yX0_deviceAt wsX0_deviceAt) := goodIn_app (goodIn_of _ (by decide +kernel)) ggX0_advanceChannels_X0_deviceAt
set_option maxRecDepth 20000 in
theorem ggX0_advanceChannels_X1_move : GoodIn wsX0_advanceChannels wsX1_move := goodIn_r _ [16, 17, 18, 19, 20, 21, 22, 23, 24, 25, 26, 27, 28, 29, 30, 31, 32, 33, 34, 35, 36, 37, 38, 39, 40, 41, 42, 43, 44, 15, 45, 46, 47, 48, 49, 50, 51, 52, 53, 54, 55, 56, 57, 58, 59, 60, 61, 62, 63, 64, 65, 66, 67, 68, 69, 70, 71, 72, 73, 74, 75, 83] (by decide +kernel) (by decide +kernel)
set_option maxRecDepth 20000 in
theorem gX0_advanceChannels_X1_move : GoodIn wsX0_advanceChannels (wsV RX0 62 RX1 yX1_move wsX1_move) := goodIn_app (goodIn_of _ (by decide +kernel)) ggX0_advanceChannels_X1_move
theorem dX0_advanceChannels_0 : decode cX0_advanceChannels 0 = .ok (.iconst 0, 1) := by decide +kernel
theorem dX0_advanceChannels_1 : decode cX0_advanceChannels 1 = .ok (.istore_n 2, 1) := by decide +kernel
theorem dX0_advanceChannels_2 : decode cX0_advanceChannels 2 = .ok (.iload_n 2, 1) := by decide +kernel
theorem dX0_advanceChannels_3 : decode cX0_advanceChannels 3 = .ok (.iconst 2, 1) := by decide +kernel
theorem dX0_advanceChannels_4 : decode cX0_advanceChannels 4 = .ok (.if_icmp .ge 65, 3) := by decide +kernel
theorem dX0_advanceChannels_7 : decode cX0_advanceChannels 7 = .ok (.aload_n 0, 1) := by decide +kernel
theorem dX0_advanceChannels_8 : decode cX0_advanceChannels 8 = .ok (.iload_n 2, 1) := by decide +kernel
theorem dX0_advanceChannels_9 : decode cX0_advanceChannels 9 = .ok (.invokevirtual 47, 3) := by decide +kernel
theorem dX0_advanceChannels_12 : decode cX0_advanceChannels 12 = .ok (.astore_n 3, 1) := by decide +kernel
theorem dX0_advanceChannels_13 : decode cX0_advanceChannels 13 = .ok (.aload_n 3, 1) := by decide +kernel
theorem dX0_advanceChannels_14 : decode cX0_advanceChannels 14 = .ok (.ifnull 49, 3) := by decide +kernel
theorem dX0_advanceChannels_17 : decode cX0_advanceChannels 17 = .ok (.aload_n 3, 1) := by decide +kernel
theorem dX0_advanceChannels_18 : decode cX0_advanceChannels 18 = .ok (.getfield 51, 3) := by decide +kernel
theorem dX0_advanceChannels_21 : decode cX0_advanceChannels 21 = .ok (.ifCond .eq 42, 3) := by decide +kernel
theorem dX0_advanceChannels_24 : decode cX0_advanceChannels 24 = .ok (.aload_n 0, 1) := by decide +kernel
theorem dX0_advanceChannels_25 : decode cX0_advanceChannels 25 = .ok (.aload_n 3, 1) := by decide +kernel
theorem dX0_advanceChannels_26 : decode cX0_advanceChannels 26 = .ok (.getfield 55, 3) := by decide +kernel
theorem dX0_advanceChannels_29 : decode cX0_advanceChannels 29 = .ok (.bipush 63, 2) := by decide +kernel
theorem dX0_advanceChannels_31 : decode cX0_advanceChannels 31 = .ok (.iand, 1) := by decide +kernel
theorem dX0_advanceChannels_32 : decode cX0_advanceChannels 32 = .ok (.bipush 8, 2) := by decide +kernel
theorem dX0_advanceChannels_34 : decode cX0_advanceChannels 34 = .ok (.isub, 1) := by decide +kernel
theorem dX0_advanceChannels_35 : decode cX0_advanceChannels 35 = .ok (.invokevirtual 40, 3) := by decide +kernel
theorem dX0_advanceChannels_38 : decode cX0_advanceChannels 38 = .ok (.astore 4, 2) := by decide +kernel
theorem dX0_advanceChannels_40 : decode cX0_advanceChannels 40 = .ok (.aload 4, 2) := by decide +kernel
theorem dX0_advanceChannels_42 : decode cX0_advanceChannels 42 = .ok (.ifnull 21, 3) := by decide +kernel
theorem dX0_advanceChannels_45 : decode cX0_advanceChannels 45 = .ok (.aload 4, 2) := by decide +kernel
theorem dX0_advanceChannels_47 : decode cX0_advanceChannels 47 = .ok (.getfield 39, 3) := by decide +kernel
theorem dX0_advanceChannels_50 : decode cX0_advanceChannels 50 = .ok (.getfield 59, 3) := by decide +kernel
theorem dX0_advanceChannels_53 : decode cX0_advanceChannels 53 = .ok (.ifCond .eq 10, 3) := by decide +kernel
theorem dX0_advanceChannels_56 : decode cX0_advanceChannels 56 = .ok (.aload_n 3, 1) := by decide +kernel
theorem dX0_advanceChannels_57 : decode cX0_advanceChannels 57 = .ok (.aload 4, 2) := by decide +kernel
theorem dX0_advanceChannels_59 : decode cX0_advanceChannels 59 = .ok (.aload_n 1, 1) := by decide +kernel
theorem dX0_advanceChannels_60 : decode cX0_advanceChannels 60 = .ok (.invokevirtual 62, 3) := by decide +kernel
theorem dX0_advanceChannels_63 : decode cX0_advanceChannels 63 = .ok (.iinc 2 1, 3) := by decide +kernel
theorem dX0_advanceChannels_66 : decode cX0_advanceChannels 66 = .ok (.goto (-64), 3) := by decide +kernel
theorem dX0_advanceChannels_69 : decode cX0_advanceChannels 69 = .ok (.return_, 1) := by decide +kernel
set_option maxRecDepth 20000 in
theorem ggX0_takeInterrupt_X0_lineOf : GoodIn wsX0_takeInterrupt wsX0_lineOf := goodIn_r _ [5, 6, 10, 11, 12, 13, 14, 15, 16] (by decide +kernel) (by decide +kernel)
set_option maxRecDepth 20000 in
theorem gX0_takeInterrupt_X0_lineOf : GoodIn wsX0_takeInterrupt (wsV RX0 66 RX0 yX0_lineOf wsX0_lineOf) := goodIn_app (goodIn_of _ (by decide +kernel)) ggX0_takeInterrupt_X0_lineOf
theorem dX0_takeInterrupt_0 : decode cX0_takeInterrupt 0 = .ok (.bipush 6, 2) := by decide +kernel
theorem dX0_takeInterrupt_2 : decode cX0_takeInterrupt 2 = .ok (.istore_n 1, 1) := by decide +kernel
theorem dX0_takeInterrupt_3 : decode cX0_takeInterrupt 3 = .ok (.iload_n 1, 1) := by decide +kernel
theorem dX0_takeInterrupt_4 : decode cX0_takeInterrupt 4 = .ok (.bipush 11, 2) := by decide +kernel
theorem dX0_takeInterrupt_6 : decode cX0_takeInterrupt 6 = .ok (.if_icmp .gt 53, 3) := by decide +kernel
theorem dX0_takeInterrupt_9 : decode cX0_takeInterrupt 9 = .ok (.aload_n 0, 1) := by decide +kernel
theorem dX0_takeInterrupt_10 : decode cX0_takeInterrupt 10 = .ok (.iload_n 1, 1) := by decide +kernel
theorem dX0_takeInterrupt_11 : decode cX0_takeInterrupt 11 = .ok (.invokevirtual 66, 3) := by decide +kernel
theorem dX0_takeInterrupt_14 : decode cX0_takeInterrupt 14 = .ok (.astore_n 2, 1) := by decide +kernel
theorem dX0_takeInterrupt_15 : decode cX0_takeInterrupt 15 = .ok (.aload_n 2, 1) := by decide +kernel
theorem dX0_takeInterrupt_16 : decode cX0_takeInterrupt 16 = .ok (.ifnull 37, 3) := by decide +kernel
theorem dX0_takeInterrupt_19 : decode cX0_takeInterrupt 19 = .ok (.aload_n 2, 1) := by decide +kernel
theorem dX0_takeInterrupt_20 : decode cX0_takeInterrupt 20 = .ok (.getfield 70, 3) := by decide +kernel
theorem dX0_takeInterrupt_23 : decode cX0_takeInterrupt 23 = .ok (.ifCond .eq 30, 3) := by decide +kernel
theorem dX0_takeInterrupt_26 : decode cX0_takeInterrupt 26 = .ok (.aload_n 2, 1) := by decide +kernel
theorem dX0_takeInterrupt_27 : decode cX0_takeInterrupt 27 = .ok (.getfield 59, 3) := by decide +kernel
theorem dX0_takeInterrupt_30 : decode cX0_takeInterrupt 30 = .ok (.ifCond .eq 23, 3) := by decide +kernel
theorem dX0_takeInterrupt_33 : decode cX0_takeInterrupt 33 = .ok (.aload_n 2, 1) := by decide +kernel
theorem dX0_takeInterrupt_34 : decode cX0_takeInterrupt 34 = .ok (.getfield 73, 3) := by decide +kernel
theorem dX0_takeInterrupt_37 : decode cX0_takeInterrupt 37 = .ok (.istore_n 3, 1) := by decide +kernel
theorem dX0_takeInterrupt_38 : decode cX0_takeInterrupt 38 = .ok (.aload_n 2, 1) := by decide +kernel
theorem dX0_takeInterrupt_39 : decode cX0_takeInterrupt 39 = .ok (.iconst 0, 1) := by decide +kernel
theorem dX0_takeInterrupt_40 : decode cX0_takeInterrupt 40 = .ok (.putfield 73, 3) := by decide +kernel
theorem dX0_takeInterrupt_43 : decode cX0_takeInterrupt 43 = .ok (.iload_n 3, 1) := by decide +kernel
theorem dX0_takeInterrupt_44 : decode cX0_takeInterrupt 44 = .ok (.ifCond .eq 7, 3) := by decide +kernel
theorem dX0_takeInterrupt_47 : decode cX0_takeInterrupt 47 = .ok (.iload_n 1, 1) := by decide +kernel
theorem dX0_takeInterrupt_48 : decode cX0_takeInterrupt 48 = .ok (.goto 4, 3) := by decide +kernel
theorem dX0_takeInterrupt_51 : decode cX0_takeInterrupt 51 = .ok (.iconst (-1), 1) := by decide +kernel
theorem dX0_takeInterrupt_52 : decode cX0_takeInterrupt 52 = .ok (.ireturn, 1) := by decide +kernel
theorem dX0_takeInterrupt_53 : decode cX0_takeInterrupt 53 = .ok (.iinc 1 1, 3) := by decide +kernel
theorem dX0_takeInterrupt_56 : decode cX0_takeInterrupt 56 = .ok (.goto (-53), 3) := by decide +kernel
theorem dX0_takeInterrupt_59 : decode cX0_takeInterrupt 59 = .ok (.iconst (-1), 1) := by decide +kernel
theorem dX0_takeInterrupt_60 : decode cX0_takeInterrupt 60 = .ok (.ireturn, 1) := by decide +kernel
set_option maxRecDepth 20000 in
theorem ggX0_flagOf_X0_lineOf : GoodIn wsX0_flagOf wsX0_lineOf := goodIn_r _ [7, 8, 9, 10, 11, 12, 13, 14, 15] (by decide +kernel) (by decide +kernel)
set_option maxRecDepth 20000 in
theorem gX0_flagOf_X0_lineOf : GoodIn wsX0_flagOf (wsV RX0 66 RX0 yX0_lineOf wsX0_lineOf) := goodIn_app (goodIn_of _ (by decide +kernel)) ggX0_flagOf_X0_lineOf
theorem dX0_flagOf_0 : decode cX0_flagOf 0 = .ok (.iload_n 1, 1) := by decide +kernel
theorem dX0_flagOf_1 : decode cX0_flagOf 1 = .ok (.ifCond .ne 8, 3) := by decide +kernel
theorem dX0_flagOf_4 : decode cX0_flagOf 4 = .ok (.aload_n 0, 1) := by decide +kernel
theorem dX0_flagOf_5 : decode cX0_flagOf 5 = .ok (.getfield 76, 3) := by decide +kernel
theorem dX0_flagOf_8 : decode cX0_flagOf 8 = .ok (.ireturn, 1) := by decide +kernel
theorem dX0_flagOf_9 : decode cX0_flagOf 9 = .ok (.iload_n 1, 1) := by decide +kernel
theorem dX0_flagOf_10 : decode cX0_flagOf 10 = .ok (.iconst 1, 1) := by decide +kernel
theorem dX0_flagOf_11 : decode cX0_flagOf 11 = .ok (.if_icmp .ne 19, 3) := by decide +kernel
theorem dX0_flagOf_14 : decode cX0_flagOf 14 = .ok (.aload_n 0, 1) := by decide +kernel
theorem dX0_flagOf_15 : decode cX0_flagOf 15 = .ok (.getfield 29, 3) := by decide +kernel
theorem dX0_flagOf_18 : decode cX0_flagOf 18 = .ok (.getfield 79, 3) := by decide +kernel
theorem dX0_flagOf_21 : decode cX0_flagOf 21 = .ok (.ifCond .eq 7, 3) := by decide +kernel
theorem dX0_flagOf_24 : decode cX0_flagOf 24 = .ok (.iconst 1, 1) := by decide +kernel
theorem dX0_flagOf_25 : decode cX0_flagOf 25 = .ok (.goto 4, 3) := by decide +kernel
theorem dX0_flagOf_28 : decode cX0_flagOf 28 = .ok (.iconst 0, 1) := by decide +kernel
theorem dX0_flagOf_29 : decode cX0_flagOf 29 = .ok (.ireturn, 1) := by decide +kernel
theorem dX0_flagOf_30 : decode cX0_flagOf 30 = .ok (.aload_n 0, 1) := by decide +kernel
theorem dX0_flagOf_31 : decode cX0_flagOf 31 = .ok (.iload_n 1, 1) := by decide +kernel
theorem dX0_flagOf_32 : decode cX0_flagOf 32 = .ok (.invokevirtual 66, 3) := by decide +kernel
theorem dX0_flagOf_35 : decode cX0_flagOf 35 = .ok (.astore_n 2, 1) := by decide +kernel
theorem dX0_flagOf_36 : decode cX0_flagOf 36 = .ok (.aload_n 2, 1) := by decide +kernel
theorem dX0_flagOf_37 : decode cX0_flagOf 37 = .ok (.ifnull 14, 3) := by decide +kernel
theorem dX0_flagOf_40 : decode cX0_flagOf 40 = .ok (.aload_n 2, 1) := by decide +kernel
theorem dX0_flagOf_41 : decode cX0_flagOf 41 = .ok (.getfield 59, 3) := by decide +kernel
theorem dX0_flagOf_44 : decode cX0_flagOf 44 = .ok (.ifCond .eq 7, 3) := by decide +kernel
theorem dX0_flagOf_47 : decode cX0_flagOf 47 = .ok (.iconst 1, 1) := by decide +kernel
theorem dX0_flagOf_48 : decode cX0_flagOf 48 = .ok (.goto 4, 3) := by decide +kernel
theorem dX0_flagOf_51 : decode cX0_flagOf 51 = .ok (.iconst 0, 1) := by decide +kernel
theorem dX0_flagOf_52 : decode cX0_flagOf 52 = .ok (.ireturn, 1) := by decide +kernel
set_option maxRecDepth 20000 in
theorem ggX0_putFlag_X7_bit : GoodIn wsX0_putFlag wsX7_bit := goodIn_r _ [5] (by decide +kernel) (by decide +kernel)
set_option maxRecDepth 20000 in
theorem gX0_putFlag_X7_bit_n84 : GoodIn wsX0_putFlag (wsX7_bit) := ggX0_putFlag_X7_bit
set_option maxRecDepth 20000 in
theorem ggX0_putFlag_X0_lineOf : GoodIn wsX0_putFlag wsX0_lineOf := goodIn_r _ [10, 11, 19, 20, 21, 22, 23, 24, 25] (by decide +kernel) (by decide +kernel)
set_option maxRecDepth 20000 in
theorem gX0_putFlag_X0_lineOf : GoodIn wsX0_putFlag (wsV RX0 66 RX0 yX0_lineOf wsX0_lineOf) := goodIn_app (goodIn_of _ (by decide +kernel)) ggX0_putFlag_X0_lineOf
set_option maxRecDepth 20000 in
theorem ggX0_putFlag_X3_putFlag : GoodIn wsX0_putFlag wsX3_putFlag := goodIn_r _ [16, 17, 18, 32, 33, 34] (by decide +kernel) (by decide +kernel)
set_option maxRecDepth 20000 in
theorem gX0_putFlag_X3_putFlag : GoodIn wsX0_putFlag (wsV RX0 88 RX3 yX3_putFlag wsX3_putFlag) := goodIn_app (goodIn_of _ (by decide +kernel)) ggX0_putFlag_X3_putFlag
theorem dX0_putFlag_0 : decode cX0_putFlag 0 = .ok (.iload_n 1, 1) := by decide +kernel
theorem dX0_putFlag_1 : decode cX0_putFlag 1 = .ok (.ifCond .ne 9, 3) := by decide +kernel
theorem dX0_putFlag_4 : decode cX0_putFlag 4 = .ok (.aload_n 0, 1) := by decide +kernel
theorem dX0_putFlag_5 : decode cX0_putFlag 5 = .ok (.iload_n 2, 1) := by decide +kernel
theorem dX0_putFlag_6 : decode cX0_putFlag 6 = .ok (.putfield 76, 3) := by decide +kernel
theorem dX0_putFlag_9 : decode cX0_putFlag 9 = .ok (.return_, 1) := by decide +kernel
theorem dX0_putFlag_10 : decode cX0_putFlag 10 = .ok (.iload_n 1, 1) := by decide +kernel
theorem dX0_putFlag_11 : decode cX0_putFlag 11 = .ok (.iconst 1, 1) := by decide +kernel
theorem dX0_putFlag_12 : decode cX0_putFlag 12 = .ok (.if_icmp .ne 15, 3) := by decide +kernel
theorem dX0_putFlag_15 : decode cX0_putFlag 15 = .ok (.aload_n 0, 1) := by decide +kernel
theorem dX0_putFlag_16 : decode cX0_putFlag 16 = .ok (.getfield 29, 3) := by decide +kernel
theorem dX0_putFlag_19 : decode cX0_putFlag 19 = .ok (.iload_n 2, 1) := by decide +kernel
theorem dX0_putFlag_20 : decode cX0_putFlag 20 = .ok (.invokestatic 84, 3) := by decide +kernel
theorem dX0_putFlag_23 : decode cX0_putFlag 23 = .ok (.putfield 79, 3) := by decide +kernel
theorem dX0_putFlag_26 : decode cX0_putFlag 26 = .ok (.return_, 1) := by decide +kernel
theorem dX0_putFlag_27 : decode cX0_putFlag 27 = .ok (.aload_n 0, 1) := by decide +kernel
theorem dX0_putFlag_28 : decode cX0_putFlag 28 = .ok (.iload_n 1, 1) := by decide +kernel
theorem dX0_putFlag_29 : decode cX0_putFlag 29 = .ok (.invokevirtual 66, 3) := by decide +kernel
theorem dX0_putFlag_32 : decode cX0_putFlag 32 = .ok (.astore_n 3, 1) := by decide +kernel
theorem dX0_putFlag_33 : decode cX0_putFlag 33 = .ok (.aload_n 3, 1) := by decide +kernel
theorem dX0_putFlag_34 : decode cX0_putFlag 34 = .ok (.ifnull 8, 3) := by decide +kernel
theorem dX0_putFlag_37 : decode cX0_putFlag 37 = .ok (.aload_n 3, 1) := by decide +kernel
theorem dX0_putFlag_38 : decode cX0_putFlag 38 = .ok (.iload_n 2, 1) := by decide +kernel
theorem dX0_putFlag_39 : decode cX0_putFlag 39 = .ok (.invokevirtual 88, 3) := by decide +kernel
theorem dX0_putFlag_42 : decode cX0_putFlag 42 = .ok (.return_, 1) := by decide +kernel
set_option maxRecDepth 20000 in
theorem ggX0_tell_X0_channelAt : GoodIn wsX0_tell wsX0_channelAt := goodIn_r _ [6, 7, 13, 14, 15, 16, 17, 18, 19] (by decide +kernel) (by decide +kernel)
set_option maxRecDepth 20000 in
theorem gX0_tell_X0_channelAt : GoodIn wsX0_tell (wsV RX0 47 RX0 yX0_channelAt wsX0_channelAt) := goodIn_app (goodIn_of _ (by decide +kernel)) ggX0_tell_X0_channelAt
set_option maxRecDepth 20000 in
theorem ggX0_tell_X0_deviceAt : GoodIn wsX0_tell wsX0_deviceAt := goodIn_r _ [11, 12, 13, 14, 15, 16, 17, 18, 19] (by decide +kernel) (by decide +kernel)
set_option maxRecDepth 20000 in
theorem gX0_tell_X0_deviceAt : GoodIn wsX0_tell (wsV RX0 40 RX0 yX0_deviceAt wsX0_deviceAt) := goodIn_app (goodIn_of _ (by decide +kernel)) ggX0_tell_X0_deviceAt
theorem dX0_tell_0 : decode cX0_tell 0 = .ok (.iload_n 1, 1) := by decide +kernel
theorem dX0_tell_1 : decode cX0_tell 1 = .ok (.iconst 1, 1) := by decide +kernel
theorem dX0_tell_2 : decode cX0_tell 2 = .ok (.if_icmp .ne 8, 3) := by decide +kernel
theorem dX0_tell_5 : decode cX0_tell 5 = .ok (.aload_n 0, 1) := by decide +kernel
theorem dX0_tell_6 : decode cX0_tell 6 = .ok (.getfield 92, 3) := by decide +kernel
theorem dX0_tell_9 : decode cX0_tell 9 = .ok (.ireturn, 1) := by decide +kernel
theorem dX0_tell_10 : decode cX0_tell 10 = .ok (.aload_n 0, 1) := by decide +kernel
theorem dX0_tell_11 : decode cX0_tell 11 = .ok (.iload_n 1, 1) := by decide +kernel
theorem dX0_tell_12 : decode cX0_tell 12 = .ok (.iconst 2, 1) := by decide +kernel
theorem dX0_tell_13 : decode cX0_tell 13 = .ok (.isub, 1) := by decide +kernel
theorem dX0_tell_14 : decode cX0_tell 14 = .ok (.invokevirtual 47, 3) := by decide +kernel
theorem dX0_tell_17 : decode cX0_tell 17 = .ok (.astore_n 2, 1) := by decide +kernel
theorem dX0_tell_18 : decode cX0_tell 18 = .ok (.aload_n 2, 1) := by decide +kernel
theorem dX0_tell_19 : decode cX0_tell 19 = .ok (.ifnull 8, 3) := by decide +kernel
theorem dX0_tell_22 : decode cX0_tell 22 = .ok (.aload_n 2, 1) := by decide +kernel
theorem dX0_tell_23 : decode cX0_tell 23 = .ok (.getfield 95, 3) := by decide +kernel
theorem dX0_tell_26 : decode cX0_tell 26 = .ok (.ireturn, 1) := by decide +kernel
theorem dX0_tell_27 : decode cX0_tell 27 = .ok (.aload_n 0, 1) := by decide +kernel
theorem dX0_tell_28 : decode cX0_tell 28 = .ok (.iload_n 1, 1) := by decide +kernel
theorem dX0_tell_29 : decode cX0_tell 29 = .ok (.bipush 8, 2) := by decide +kernel
theorem dX0_tell_31 : decode cX0_tell 31 = .ok (.isub, 1) := by decide +kernel
theorem dX0_tell_32 : decode cX0_tell 32 = .ok (.invokevirtual 40, 3) := by decide +kernel
theorem dX0_tell_35 : decode cX0_tell 35 = .ok (.astore_n 3, 1) := by decide +kernel
theorem dX0_tell_36 : decode cX0_tell 36 = .ok (.aload_n 3, 1) := by decide +kernel
theorem dX0_tell_37 : decode cX0_tell 37 = .ok (.ifnonnull 7, 3) := by decide +kernel
theorem dX0_tell_40 : decode cX0_tell 40 = .ok (.iconst 0, 1) := by decide +kernel
theorem dX0_tell_41 : decode cX0_tell 41 = .ok (.goto 7, 3) := by decide +kernel
theorem dX0_tell_44 : decode cX0_tell 44 = .ok (.aload_n 3, 1) := by decide +kernel
theorem dX0_tell_45 : decode cX0_tell 45 = .ok (.getfield 98, 3) := by decide +kernel
theorem dX0_tell_48 : decode cX0_tell 48 = .ok (.ireturn, 1) := by decide +kernel
set_option maxRecDepth 20000 in
theorem ggX0_take_X0_channelAt : GoodIn wsX0_take wsX0_channelAt := goodIn_r _ [6, 7, 23, 24, 25, 26, 27, 28, 29] (by decide +kernel) (by decide +kernel)
set_option maxRecDepth 20000 in
theorem gX0_take_X0_channelAt : GoodIn wsX0_take (wsV RX0 47 RX0 yX0_channelAt wsX0_channelAt) := goodIn_app (goodIn_of _ (by decide +kernel)) ggX0_take_X0_channelAt
set_option maxRecDepth 20000 in
theorem ggX0_take_X1_takeRegister : GoodIn wsX0_take wsX1_takeRegister := goodIn_r _ [12, 13, 14, 15, 16, 17, 30, 31, 32, 33, 34, 35, 36, 37] (by decide +kernel) (by decide +kernel)
set_option maxRecDepth 20000 in
theorem gX0_take_X1_takeRegister : GoodIn wsX0_take (wsV RX0 104 RX1 yX1_takeRegister wsX1_takeRegister) := goodIn_app (goodIn_of _ (by decide +kernel)) ggX0_take_X1_takeRegister
set_option maxRecDepth 20000 in
theorem ggX0_take_X0_deviceAt : GoodIn wsX0_take wsX0_deviceAt := goodIn_r _ [21, 22, 23, 24, 25, 26, 27, 28, 29] (by decide +kernel) (by decide +kernel)
set_option maxRecDepth 20000 in
theorem gX0_take_X0_deviceAt : GoodIn wsX0_take (wsV RX0 40 RX0 yX0_deviceAt wsX0_deviceAt) := goodIn_app (goodIn_of _ (by decide +kernel)) ggX0_take_X0_deviceAt
theorem dX0_take_0 : decode cX0_take 0 = .ok (.iload_n 1, 1) := by decide +kernel
theorem dX0_take_1 : decode cX0_take 1 = .ok (.iconst 1, 1) := by decide +kernel
theorem dX0_take_2 : decode cX0_take 2 = .ok (.if_icmp .ne 9, 3) := by decide +kernel
theorem dX0_take_5 : decode cX0_take 5 = .ok (.aload_n 0, 1) := by decide +kernel
theorem dX0_take_6 : decode cX0_take 6 = .ok (.iload_n 2, 1) := by decide +kernel
theorem dX0_take_7 : decode cX0_take 7 = .ok (.putfield 101, 3) := by decide +kernel
theorem dX0_take_10 : decode cX0_take 10 = .ok (.return_, 1) := by decide +kernel
theorem dX0_take_11 : decode cX0_take 11 = .ok (.aload_n 0, 1) := by decide +kernel
theorem dX0_take_12 : decode cX0_take 12 = .ok (.iload_n 1, 1) := by decide +kernel
theorem dX0_take_13 : decode cX0_take 13 = .ok (.iconst 2, 1) := by decide +kernel
theorem dX0_take_14 : decode cX0_take 14 = .ok (.isub, 1) := by decide +kernel
theorem dX0_take_15 : decode cX0_take 15 = .ok (.invokevirtual 47, 3) := by decide +kernel
theorem dX0_take_18 : decode cX0_take 18 = .ok (.astore_n 3, 1) := by decide +kernel
theorem dX0_take_19 : decode cX0_take 19 = .ok (.aload_n 3, 1) := by decide +kernel
theorem dX0_take_20 : decode cX0_take 20 = .ok (.ifnull 9, 3) := by decide +kernel
theorem dX0_take_23 : decode cX0_take 23 = .ok (.aload_n 3, 1) := by decide +kernel
theorem dX0_take_24 : decode cX0_take 24 = .ok (.iload_n 2, 1) := by decide +kernel
theorem dX0_take_25 : decode cX0_take 25 = .ok (.invokevirtual 104, 3) := by decide +kernel
theorem dX0_take_28 : decode cX0_take 28 = .ok (.return_, 1) := by decide +kernel
theorem dX0_take_29 : decode cX0_take 29 = .ok (.aload_n 0, 1) := by decide +kernel
theorem dX0_take_30 : decode cX0_take 30 = .ok (.iload_n 1, 1) := by decide +kernel
theorem dX0_take_31 : decode cX0_take 31 = .ok (.bipush 6, 2) := by decide +kernel
theorem dX0_take_33 : decode cX0_take 33 = .ok (.isub, 1) := by decide +kernel
theorem dX0_take_34 : decode cX0_take 34 = .ok (.invokevirtual 47, 3) := by decide +kernel
theorem dX0_take_37 : decode cX0_take 37 = .ok (.astore 4, 2) := by decide +kernel
theorem dX0_take_39 : decode cX0_take 39 = .ok (.aload 4, 2) := by decide +kernel
theorem dX0_take_41 : decode cX0_take 41 = .ok (.ifnull 10, 3) := by decide +kernel
theorem dX0_take_44 : decode cX0_take 44 = .ok (.aload 4, 2) := by decide +kernel
theorem dX0_take_46 : decode cX0_take 46 = .ok (.iload_n 2, 1) := by decide +kernel
theorem dX0_take_47 : decode cX0_take 47 = .ok (.putfield 55, 3) := by decide +kernel
theorem dX0_take_50 : decode cX0_take 50 = .ok (.return_, 1) := by decide +kernel
theorem dX0_take_51 : decode cX0_take 51 = .ok (.aload_n 0, 1) := by decide +kernel
theorem dX0_take_52 : decode cX0_take 52 = .ok (.iload_n 1, 1) := by decide +kernel
theorem dX0_take_53 : decode cX0_take 53 = .ok (.bipush 8, 2) := by decide +kernel
theorem dX0_take_55 : decode cX0_take 55 = .ok (.isub, 1) := by decide +kernel
theorem dX0_take_56 : decode cX0_take 56 = .ok (.invokevirtual 40, 3) := by decide +kernel
theorem dX0_take_59 : decode cX0_take 59 = .ok (.astore 5, 2) := by decide +kernel
theorem dX0_take_61 : decode cX0_take 61 = .ok (.aload 5, 2) := by decide +kernel
theorem dX0_take_63 : decode cX0_take 63 = .ok (.ifnull 9, 3) := by decide +kernel
theorem dX0_take_66 : decode cX0_take 66 = .ok (.aload 5, 2) := by decide +kernel
theorem dX0_take_68 : decode cX0_take 68 = .ok (.iload_n 2, 1) := by decide +kernel
theorem dX0_take_69 : decode cX0_take 69 = .ok (.putfield 98, 3) := by decide +kernel
theorem dX0_take_72 : decode cX0_take 72 = .ok (.return_, 1) := by decide +kernel
set_option maxRecDepth 20000 in
theorem ggX0_putControl_X0_resetAllControls : GoodIn wsX0_putControl wsX0_resetAllControls := goodIn_r _ [5, 6, 7, 8, 4, 9, 10, 11, 12, 13, 14, 15, 40, 41, 42, 32, 33, 34, 35, 36, 37, 38, 39, 43, 44, 45, 46, 47, 48, 49] (by decide +kernel) (by decide +kernel)
set_option maxRecDepth 20000 in
theorem gX0_putControl_X0_resetAllControls : GoodIn wsX0_putControl (wsV RX0 108 RX0 yX0_resetAllControls wsX0_resetAllControls) := goodIn_app (goodIn_of _ (by decide +kernel)) ggX0_putControl_X0_resetAllControls
set_option maxRecDepth 20000 in
theorem ggX0_putControl_X0_channelAt : GoodIn wsX0_putControl wsX0_channelAt := goodIn_r _ [14, 15, 43, 44, 45, 46, 47, 48, 49] (by decide +kernel) (by decide +kernel)
set_option maxRecDepth 20000 in
theorem gX0_putControl_X0_channelAt : GoodIn wsX0_putControl (wsV RX0 47 RX0 yX0_channelAt wsX0_channelAt) := goodIn_app (goodIn_of _ (by decide +kernel)) ggX0_putControl_X0_channelAt
set_option maxRecDepth 20000 in
theorem ggX0_putControl_X0_putLineControl : GoodIn wsX0_putControl wsX0_putLineControl := goodIn_r _ [19, 6, 7, 8, 4, 9, 10, 11, 12, 13, 14, 15, 20, 21, 22, 23, 24, 25, 26, 27, 28, 29, 30, 31, 40, 41, 42, 32, 33, 34, 35, 36, 37, 38, 39, 43, 44, 45, 46, 47, 48, 49, 50, 51, 52, 53, 54, 55, 56, 57, 58, 59] (by decide +kernel) (by decide +kernel)
set_option maxRecDepth 20000 in
theorem gX0_putControl_X0_putLineControl : GoodIn wsX0_putControl (wsV RX0 114 RX0 yX0_putLineControl wsX0_putLineControl) := goodIn_app (goodIn_of _ (by decide +kernel)) ggX0_putControl_X0_putLineControl
theorem dX0_putControl_0 : decode cX0_putControl 0 = .ok (.iload_n 1, 1) := by decide +kernel
theorem dX0_putControl_1 : decode cX0_putControl 1 = .ok (.ifCond .ne 12, 3) := by decide +kernel
theorem dX0_putControl_4 : decode cX0_putControl 4 = .ok (.iload_n 2, 1) := by decide +kernel
theorem dX0_putControl_5 : decode cX0_putControl 5 = .ok (.ifCond .ne 8, 3) := by decide +kernel
theorem dX0_putControl_8 : decode cX0_putControl 8 = .ok (.aload_n 0, 1) := by decide +kernel
theorem dX0_putControl_9 : decode cX0_putControl 9 = .ok (.invokevirtual 108, 3) := by decide +kernel
theorem dX0_putControl_12 : decode cX0_putControl 12 = .ok (.return_, 1) := by decide +kernel
theorem dX0_putControl_13 : decode cX0_putControl 13 = .ok (.aload_n 0, 1) := by decide +kernel
theorem dX0_putControl_14 : decode cX0_putControl 14 = .ok (.iload_n 1, 1) := by decide +kernel
theorem dX0_putControl_15 : decode cX0_putControl 15 = .ok (.iconst 2, 1) := by decide +kernel
theorem dX0_putControl_16 : decode cX0_putControl 16 = .ok (.isub, 1) := by decide +kernel
theorem dX0_putControl_17 : decode cX0_putControl 17 = .ok (.invokevirtual 47, 3) := by decide +kernel
theorem dX0_putControl_20 : decode cX0_putControl 20 = .ok (.astore_n 3, 1) := by decide +kernel
theorem dX0_putControl_21 : decode cX0_putControl 21 = .ok (.aload_n 3, 1) := by decide +kernel
theorem dX0_putControl_22 : decode cX0_putControl 22 = .ok (.ifnull 9, 3) := by decide +kernel
theorem dX0_putControl_25 : decode cX0_putControl 25 = .ok (.aload_n 3, 1) := by decide +kernel
theorem dX0_putControl_26 : decode cX0_putControl 26 = .ok (.iload_n 2, 1) := by decide +kernel
theorem dX0_putControl_27 : decode cX0_putControl 27 = .ok (.putfield 111, 3) := by decide +kernel
theorem dX0_putControl_30 : decode cX0_putControl 30 = .ok (.return_, 1) := by decide +kernel
theorem dX0_putControl_31 : decode cX0_putControl 31 = .ok (.aload_n 0, 1) := by decide +kernel
theorem dX0_putControl_32 : decode cX0_putControl 32 = .ok (.iload_n 1, 1) := by decide +kernel
theorem dX0_putControl_33 : decode cX0_putControl 33 = .ok (.iload_n 2, 1) := by decide +kernel
theorem dX0_putControl_34 : decode cX0_putControl 34 = .ok (.invokevirtual 114, 3) := by decide +kernel
theorem dX0_putControl_37 : decode cX0_putControl 37 = .ok (.return_, 1) := by decide +kernel
set_option maxRecDepth 20000 in
theorem ggX0_putLineControl_X0_lineOf : GoodIn wsX0_putLineControl wsX0_lineOf := goodIn_r _ [5, 6, 35, 36, 37, 38, 39, 40, 41] (by decide +kernel) (by decide +kernel)
set_option maxRecDepth 20000 in
theorem gX0_putLineControl_X0_lineOf : GoodIn wsX0_putLineControl (wsV RX0 66 RX0 yX0_lineOf wsX0_lineOf) := goodIn_app (goodIn_of _ (by decide +kernel)) ggX0_putLineControl_X0_lineOf
set_option maxRecDepth 20000 in
theorem ggX0_putLineControl_X0_channelAt : GoodIn wsX0_putLineControl wsX0_channelAt := goodIn_r _ [10, 11, 35, 36, 37, 38, 39, 40, 41] (by decide +kernel) (by decide +kernel)
set_option maxRecDepth 20000 in
theorem gX0_putLineControl_X0_channelAt : GoodIn wsX0_putLineControl (wsV RX0 47 RX0 yX0_channelAt wsX0_channelAt) := goodIn_app (goodIn_of _ (by decide +kernel)) ggX0_putLineControl_X0_channelAt
set_option maxRecDepth 20000 in
theorem ggX0_putLineControl_X0_deviceAt : GoodIn wsX0_putLineControl wsX0_deviceAt := goodIn_r _ [15, 16, 35, 36, 37, 38, 39, 40, 41] (by decide +kernel) (by decide +kernel)
set_option maxRecDepth 20000 in
theorem gX0_putLineControl_X0_deviceAt : GoodIn wsX0_putLineControl (wsV RX0 40 RX0 yX0_deviceAt wsX0_deviceAt) := goodIn_app (goodIn_of _ (by decide +kernel)) ggX0_putLineControl_X0_deviceAt
set_option maxRecDepth 20000 in
theorem ggX0_putLineControl_X2_start : GoodIn wsX0_putLineControl wsX2_start := goodIn_r _ [21, 22, 23, 42, 43, 44, 45, 46, 47, 48, 49, 50, 51] (by decide +kernel) (by decide +kernel)
set_option maxRecDepth 20000 in
theorem gX0_putLineControl_X2_start : GoodIn wsX0_putLineControl (wsV RX0 118 RX2 yX2_start wsX2_start) := goodIn_app (goodIn_of _ (by decide +kernel)) ggX0_putLineControl_X2_start
theorem dX0_putLineControl_0 : decode cX0_putLineControl 0 = .ok (.aload_n 0, 1) := by decide +kernel
theorem dX0_putLineControl_1 : decode cX0_putLineControl 1 = .ok (.iload_n 1, 1) := by decide +kernel
theorem dX0_putLineControl_2 : decode cX0_putLineControl 2 = .ok (.invokevirtual 66, 3) := by decide +kernel
theorem dX0_putLineControl_5 : decode cX0_putLineControl 5 = .ok (.astore_n 3, 1) := by decide +kernel
theorem dX0_putLineControl_6 : decode cX0_putLineControl 6 = .ok (.aload_n 3, 1) := by decide +kernel
theorem dX0_putLineControl_7 : decode cX0_putLineControl 7 = .ok (.ifnonnull 4, 3) := by decide +kernel
theorem dX0_putLineControl_10 : decode cX0_putLineControl 10 = .ok (.return_, 1) := by decide +kernel
theorem dX0_putLineControl_11 : decode cX0_putLineControl 11 = .ok (.aload_n 3, 1) := by decide +kernel
theorem dX0_putLineControl_12 : decode cX0_putLineControl 12 = .ok (.iload_n 2, 1) := by decide +kernel
theorem dX0_putLineControl_13 : decode cX0_putLineControl 13 = .ok (.putfield 70, 3) := by decide +kernel
theorem dX0_putLineControl_16 : decode cX0_putLineControl 16 = .ok (.aload_n 0, 1) := by decide +kernel
theorem dX0_putLineControl_17 : decode cX0_putLineControl 17 = .ok (.iload_n 1, 1) := by decide +kernel
theorem dX0_putLineControl_18 : decode cX0_putLineControl 18 = .ok (.bipush 6, 2) := by decide +kernel
theorem dX0_putLineControl_20 : decode cX0_putLineControl 20 = .ok (.isub, 1) := by decide +kernel
theorem dX0_putLineControl_21 : decode cX0_putLineControl 21 = .ok (.invokevirtual 47, 3) := by decide +kernel
theorem dX0_putLineControl_24 : decode cX0_putLineControl 24 = .ok (.astore 4, 2) := by decide +kernel
theorem dX0_putLineControl_26 : decode cX0_putLineControl 26 = .ok (.aload 4, 2) := by decide +kernel
theorem dX0_putLineControl_28 : decode cX0_putLineControl 28 = .ok (.ifnull 9, 3) := by decide +kernel
theorem dX0_putLineControl_31 : decode cX0_putLineControl 31 = .ok (.aload 4, 2) := by decide +kernel
theorem dX0_putLineControl_33 : decode cX0_putLineControl 33 = .ok (.iload_n 2, 1) := by decide +kernel
theorem dX0_putLineControl_34 : decode cX0_putLineControl 34 = .ok (.putfield 51, 3) := by decide +kernel
theorem dX0_putLineControl_37 : decode cX0_putLineControl 37 = .ok (.aload_n 0, 1) := by decide +kernel
theorem dX0_putLineControl_38 : decode cX0_putLineControl 38 = .ok (.iload_n 1, 1) := by decide +kernel
theorem dX0_putLineControl_39 : decode cX0_putLineControl 39 = .ok (.bipush 8, 2) := by decide +kernel
theorem dX0_putLineControl_41 : decode cX0_putLineControl 41 = .ok (.isub, 1) := by decide +kernel
theorem dX0_putLineControl_42 : decode cX0_putLineControl 42 = .ok (.invokevirtual 40, 3) := by decide +kernel
theorem dX0_putLineControl_45 : decode cX0_putLineControl 45 = .ok (.astore 5, 2) := by decide +kernel
theorem dX0_putLineControl_47 : decode cX0_putLineControl 47 = .ok (.aload 5, 2) := by decide +kernel
theorem dX0_putLineControl_49 : decode cX0_putLineControl 49 = .ok (.ifnull 12, 3) := by decide +kernel
theorem dX0_putLineControl_52 : decode cX0_putLineControl 52 = .ok (.iload_n 2, 1) := by decide +kernel
theorem dX0_putLineControl_53 : decode cX0_putLineControl 53 = .ok (.ifCond .eq 8, 3) := by decide +kernel
theorem dX0_putLineControl_56 : decode cX0_putLineControl 56 = .ok (.aload 5, 2) := by decide +kernel
theorem dX0_putLineControl_58 : decode cX0_putLineControl 58 = .ok (.invokevirtual 118, 3) := by decide +kernel
theorem dX0_putLineControl_61 : decode cX0_putLineControl 61 = .ok (.return_, 1) := by decide +kernel
set_option maxRecDepth 20000 in
theorem ggX0_resetAllControls_X0_lineOf : GoodIn wsX0_resetAllControls wsX0_lineOf := goodIn_r _ [5, 6, 23, 24, 25, 26, 27, 28, 29] (by decide +kernel) (by decide +kernel)
set_option maxRecDepth 20000 in
theorem gX0_resetAllControls_X0_lineOf : GoodIn wsX0_resetAllControls (wsV RX0 66 RX0 yX0_lineOf wsX0_lineOf) := goodIn_app (goodIn_of _ (by decide +kernel)) ggX0_resetAllControls_X0_lineOf
set_option maxRecDepth 20000 in
theorem ggX0_resetAllControls_X0_channelAt : GoodIn wsX0_resetAllControls wsX0_channelAt := goodIn_r _ [10, 11, 23, 24, 25, 26, 27, 28, 29] (by decide +kernel) (by decide +kernel)
set_option maxRecDepth 20000 in
theorem gX0_resetAllControls_X0_channelAt : GoodIn wsX0_resetAllControls (wsV RX0 47 RX0 yX0_channelAt wsX0_channelAt) := goodIn_app (goodIn_of _ (by decide +kernel)) ggX0_resetAllControls_X0_channelAt
theorem dX0_resetAllControls_0 : decode cX0_resetAllControls 0 = .ok (.bipush 6, 2) := by decide +kernel
theorem dX0_resetAllControls_2 : decode cX0_resetAllControls 2 = .ok (.istore_n 1, 1) := by decide +kernel
theorem dX0_resetAllControls_3 : decode cX0_resetAllControls 3 = .ok (.iload_n 1, 1) := by decide +kernel
theorem dX0_resetAllControls_4 : decode cX0_resetAllControls 4 = .ok (.bipush 11, 2) := by decide +kernel
theorem dX0_resetAllControls_6 : decode cX0_resetAllControls 6 = .ok (.if_icmp .gt 24, 3) := by decide +kernel
theorem dX0_resetAllControls_9 : decode cX0_resetAllControls 9 = .ok (.aload_n 0, 1) := by decide +kernel
theorem dX0_resetAllControls_10 : decode cX0_resetAllControls 10 = .ok (.iload_n 1, 1) := by decide +kernel
theorem dX0_resetAllControls_11 : decode cX0_resetAllControls 11 = .ok (.invokevirtual 66, 3) := by decide +kernel
theorem dX0_resetAllControls_14 : decode cX0_resetAllControls 14 = .ok (.astore_n 2, 1) := by decide +kernel
theorem dX0_resetAllControls_15 : decode cX0_resetAllControls 15 = .ok (.aload_n 2, 1) := by decide +kernel
theorem dX0_resetAllControls_16 : decode cX0_resetAllControls 16 = .ok (.ifnull 8, 3) := by decide +kernel
theorem dX0_resetAllControls_19 : decode cX0_resetAllControls 19 = .ok (.aload_n 2, 1) := by decide +kernel
theorem dX0_resetAllControls_20 : decode cX0_resetAllControls 20 = .ok (.iconst 0, 1) := by decide +kernel
theorem dX0_resetAllControls_21 : decode cX0_resetAllControls 21 = .ok (.putfield 70, 3) := by decide +kernel
theorem dX0_resetAllControls_24 : decode cX0_resetAllControls 24 = .ok (.iinc 1 1, 3) := by decide +kernel
theorem dX0_resetAllControls_27 : decode cX0_resetAllControls 27 = .ok (.goto (-24), 3) := by decide +kernel
theorem dX0_resetAllControls_30 : decode cX0_resetAllControls 30 = .ok (.iconst 0, 1) := by decide +kernel
theorem dX0_resetAllControls_31 : decode cX0_resetAllControls 31 = .ok (.istore_n 1, 1) := by decide +kernel
theorem dX0_resetAllControls_32 : decode cX0_resetAllControls 32 = .ok (.iload_n 1, 1) := by decide +kernel
theorem dX0_resetAllControls_33 : decode cX0_resetAllControls 33 = .ok (.iconst 2, 1) := by decide +kernel
theorem dX0_resetAllControls_34 : decode cX0_resetAllControls 34 = .ok (.if_icmp .ge 24, 3) := by decide +kernel
theorem dX0_resetAllControls_37 : decode cX0_resetAllControls 37 = .ok (.aload_n 0, 1) := by decide +kernel
theorem dX0_resetAllControls_38 : decode cX0_resetAllControls 38 = .ok (.iload_n 1, 1) := by decide +kernel
theorem dX0_resetAllControls_39 : decode cX0_resetAllControls 39 = .ok (.invokevirtual 47, 3) := by decide +kernel
theorem dX0_resetAllControls_42 : decode cX0_resetAllControls 42 = .ok (.astore_n 2, 1) := by decide +kernel
theorem dX0_resetAllControls_43 : decode cX0_resetAllControls 43 = .ok (.aload_n 2, 1) := by decide +kernel
theorem dX0_resetAllControls_44 : decode cX0_resetAllControls 44 = .ok (.ifnull 8, 3) := by decide +kernel
theorem dX0_resetAllControls_47 : decode cX0_resetAllControls 47 = .ok (.aload_n 2, 1) := by decide +kernel
theorem dX0_resetAllControls_48 : decode cX0_resetAllControls 48 = .ok (.iconst 0, 1) := by decide +kernel
theorem dX0_resetAllControls_49 : decode cX0_resetAllControls 49 = .ok (.putfield 51, 3) := by decide +kernel
theorem dX0_resetAllControls_52 : decode cX0_resetAllControls 52 = .ok (.iinc 1 1, 3) := by decide +kernel
theorem dX0_resetAllControls_55 : decode cX0_resetAllControls 55 = .ok (.goto (-23), 3) := by decide +kernel
theorem dX0_resetAllControls_58 : decode cX0_resetAllControls 58 = .ok (.return_, 1) := by decide +kernel
set_option maxRecDepth 20000 in
theorem ggX1_init_X3_init : GoodIn wsX1_init wsX3_init := goodIn_r _ [9, 10, 2, 3] (by decide +kernel) (by decide +kernel)
set_option maxRecDepth 20000 in
theorem gX1_init_X3_init_n11 : GoodIn wsX1_init (wsX3_init) := ggX1_init_X3_init
theorem dX1_init_0 : decode cX1_init 0 = .ok (.aload_n 0, 1) := by decide +kernel
theorem dX1_init_1 : decode cX1_init 1 = .ok (.invokespecial 3, 3) := by decide +kernel
theorem dX1_init_4 : decode cX1_init 4 = .ok (.aload_n 0, 1) := by decide +kernel
theorem dX1_init_5 : decode cX1_init 5 = .ok (.new 9, 3) := by decide +kernel
theorem dX1_init_8 : decode cX1_init 8 = .ok (.dup, 1) := by decide +kernel
theorem dX1_init_9 : decode cX1_init 9 = .ok (.invokespecial 11, 3) := by decide +kernel
theorem dX1_init_12 : decode cX1_init 12 = .ok (.putfield 12, 3) := by decide +kernel
theorem dX1_init_15 : decode cX1_init 15 = .ok (.return_, 1) := by decide +kernel
set_option maxRecDepth 20000 in
theorem ggX1_move_X4_write : GoodIn wsX1_move wsX4_write := goodIn_r _ [12, 13, 14, 61] (by decide +kernel) (by decide +kernel)
set_option maxRecDepth 20000 in
theorem gX1_move_X4_write : GoodIn wsX1_move (wsV RX1 31 RX4 yX4_write wsX4_write) := goodIn_app (goodIn_of _ (by decide +kernel)) ggX1_move_X4_write
set_option maxRecDepth 20000 in
theorem ggX1_move_X4_read : GoodIn wsX1_move wsX4_read := goodIn_r _ [18, 13, 61] (by decide +kernel) (by decide +kernel)
set_option maxRecDepth 20000 in
theorem gX1_move_X4_read : GoodIn wsX1_move (wsV RX1 37 RX4 yX4_read wsX4_read) := goodIn_app (goodIn_of _ (by decide +kernel)) ggX1_move_X4_read
set_option maxRecDepth 20000 in
theorem ggX1_move_X3_putFlag : GoodIn wsX1_move wsX3_putFlag := goodIn_r _ [23, 24, 25, 58, 59, 60] (by decide +kernel) (by decide +kernel)
set_option maxRecDepth 20000 in
theorem gX1_move_X3_putFlag : GoodIn wsX1_move (wsV RX1 42 RX3 yX3_putFlag wsX3_putFlag) := goodIn_app (goodIn_of _ (by decide +kernel)) ggX1_move_X3_putFlag
set_option maxRecDepth 20000 in
theorem ggX1_move_X1_finish : GoodIn wsX1_move wsX1_finish := goodIn_r _ [30, 31, 32, 6, 19, 20, 21, 22, 23, 24, 25, 40, 41, 42, 43, 44, 45, 46, 47, 48, 49, 50, 51, 52, 53, 54, 55, 56, 57, 58, 59, 60] (by decide +kernel) (by decide +kernel)
set_option maxRecDepth 20000 in
theorem gX1_move_X1_finish : GoodIn wsX1_move (wsV RX1 53 RX1 yX1_finish wsX1_finish) := goodIn_app (goodIn_of _ (by decide +kernel)) ggX1_move_X1_finish
set_option maxRecDepth 20000 in
theorem ggX1_move_X2_start : GoodIn wsX1_move wsX2_start := goodIn_r _ [37, 38, 39, 48, 49, 50, 51, 52, 53, 54, 55, 56, 57] (by decide +kernel) (by decide +kernel)
set_option maxRecDepth 20000 in
theorem gX1_move_X2_start : GoodIn wsX1_move (wsV RX1 64 RX2 yX2_start wsX2_start) := goodIn_app (goodIn_of _ (by decide +kernel)) ggX1_move_X2_start
theorem dX1_move_0 : decode cX1_move 0 = .ok (.aload_n 0, 1) := by decide +kernel
theorem dX1_move_1 : decode cX1_move 1 = .ok (.getfield 18, 3) := by decide +kernel
theorem dX1_move_4 : decode cX1_move 4 = .ok (.ifCond .eq 18, 3) := by decide +kernel
theorem dX1_move_7 : decode cX1_move 7 = .ok (.aload_n 2, 1) := by decide +kernel
theorem dX1_move_8 : decode cX1_move 8 = .ok (.aload_n 0, 1) := by decide +kernel
theorem dX1_move_9 : decode cX1_move 9 = .ok (.getfield 22, 3) := by decide +kernel
theorem dX1_move_12 : decode cX1_move 12 = .ok (.aload_n 1, 1) := by decide +kernel
theorem dX1_move_13 : decode cX1_move 13 = .ok (.getfield 26, 3) := by decide +kernel
theorem dX1_move_16 : decode cX1_move 16 = .ok (.invokevirtual 31, 3) := by decide +kernel
theorem dX1_move_19 : decode cX1_move 19 = .ok (.goto 15, 3) := by decide +kernel
theorem dX1_move_22 : decode cX1_move 22 = .ok (.aload_n 1, 1) := by decide +kernel
theorem dX1_move_23 : decode cX1_move 23 = .ok (.aload_n 2, 1) := by decide +kernel
theorem dX1_move_24 : decode cX1_move 24 = .ok (.aload_n 0, 1) := by decide +kernel
theorem dX1_move_25 : decode cX1_move 25 = .ok (.getfield 22, 3) := by decide +kernel
theorem dX1_move_28 : decode cX1_move 28 = .ok (.invokevirtual 37, 3) := by decide +kernel
theorem dX1_move_31 : decode cX1_move 31 = .ok (.putfield 26, 3) := by decide +kernel
theorem dX1_move_34 : decode cX1_move 34 = .ok (.aload_n 1, 1) := by decide +kernel
theorem dX1_move_35 : decode cX1_move 35 = .ok (.getfield 41, 3) := by decide +kernel
theorem dX1_move_38 : decode cX1_move 38 = .ok (.iconst 0, 1) := by decide +kernel
theorem dX1_move_39 : decode cX1_move 39 = .ok (.invokevirtual 42, 3) := by decide +kernel
theorem dX1_move_42 : decode cX1_move 42 = .ok (.aload_n 0, 1) := by decide +kernel
theorem dX1_move_43 : decode cX1_move 43 = .ok (.aload_n 0, 1) := by decide +kernel
theorem dX1_move_44 : decode cX1_move 44 = .ok (.getfield 22, 3) := by decide +kernel
theorem dX1_move_47 : decode cX1_move 47 = .ok (.iconst 1, 1) := by decide +kernel
theorem dX1_move_48 : decode cX1_move 48 = .ok (.iadd, 1) := by decide +kernel
theorem dX1_move_49 : decode cX1_move 49 = .ok (.sipush 32767, 3) := by decide +kernel
theorem dX1_move_52 : decode cX1_move 52 = .ok (.iand, 1) := by decide +kernel
theorem dX1_move_53 : decode cX1_move 53 = .ok (.putfield 22, 3) := by decide +kernel
theorem dX1_move_56 : decode cX1_move 56 = .ok (.aload_n 0, 1) := by decide +kernel
theorem dX1_move_57 : decode cX1_move 57 = .ok (.aload_n 0, 1) := by decide +kernel
theorem dX1_move_58 : decode cX1_move 58 = .ok (.getfield 46, 3) := by decide +kernel
theorem dX1_move_61 : decode cX1_move 61 = .ok (.iconst 1, 1) := by decide +kernel
theorem dX1_move_62 : decode cX1_move 62 = .ok (.iadd, 1) := by decide +kernel
theorem dX1_move_63 : decode cX1_move 63 = .ok (.ldc 49, 2) := by decide +kernel
theorem dX1_move_65 : decode cX1_move 65 = .ok (.iand, 1) := by decide +kernel
theorem dX1_move_66 : decode cX1_move 66 = .ok (.putfield 46, 3) := by decide +kernel
theorem dX1_move_69 : decode cX1_move 69 = .ok (.aload_n 0, 1) := by decide +kernel
theorem dX1_move_70 : decode cX1_move 70 = .ok (.dup, 1) := by decide +kernel
theorem dX1_move_71 : decode cX1_move 71 = .ok (.getfield 50, 3) := by decide +kernel
theorem dX1_move_74 : decode cX1_move 74 = .ok (.iconst 1, 1) := by decide +kernel
theorem dX1_move_75 : decode cX1_move 75 = .ok (.iadd, 1) := by decide +kernel
theorem dX1_move_76 : decode cX1_move 76 = .ok (.putfield 50, 3) := by decide +kernel
theorem dX1_move_79 : decode cX1_move 79 = .ok (.aload_n 0, 1) := by decide +kernel
theorem dX1_move_80 : decode cX1_move 80 = .ok (.getfield 46, 3) := by decide +kernel
theorem dX1_move_83 : decode cX1_move 83 = .ok (.ifCond .ne 11, 3) := by decide +kernel
theorem dX1_move_86 : decode cX1_move 86 = .ok (.aload_n 0, 1) := by decide +kernel
theorem dX1_move_87 : decode cX1_move 87 = .ok (.aload_n 1, 1) := by decide +kernel
theorem dX1_move_88 : decode cX1_move 88 = .ok (.invokevirtual 53, 3) := by decide +kernel
theorem dX1_move_91 : decode cX1_move 91 = .ok (.goto 25, 3) := by decide +kernel
theorem dX1_move_94 : decode cX1_move 94 = .ok (.aload_n 0, 1) := by decide +kernel
theorem dX1_move_95 : decode cX1_move 95 = .ok (.getfield 57, 3) := by decide +kernel
theorem dX1_move_98 : decode cX1_move 98 = .ok (.ldc 60, 2) := by decide +kernel
theorem dX1_move_100 : decode cX1_move 100 = .ok (.iand, 1) := by decide +kernel
theorem dX1_move_101 : decode cX1_move 101 = .ok (.ifCond .eq 15, 3) := by decide +kernel
theorem dX1_move_104 : decode cX1_move 104 = .ok (.aload_n 1, 1) := by decide +kernel
theorem dX1_move_105 : decode cX1_move 105 = .ok (.getfield 41, 3) := by decide +kernel
theorem dX1_move_108 : decode cX1_move 108 = .ok (.iconst 1, 1) := by decide +kernel
theorem dX1_move_109 : decode cX1_move 109 = .ok (.putfield 61, 3) := by decide +kernel
theorem dX1_move_112 : decode cX1_move 112 = .ok (.aload_n 1, 1) := by decide +kernel
theorem dX1_move_113 : decode cX1_move 113 = .ok (.invokevirtual 64, 3) := by decide +kernel
theorem dX1_move_116 : decode cX1_move 116 = .ok (.return_, 1) := by decide +kernel
set_option maxRecDepth 20000 in
theorem ggX1_finish_X3_putFlag : GoodIn wsX1_finish wsX3_putFlag := goodIn_r _ [8, 9, 10, 29, 30, 31] (by decide +kernel) (by decide +kernel)
set_option maxRecDepth 20000 in
theorem gX1_finish_X3_putFlag : GoodIn wsX1_finish (wsV RX1 42 RX3 yX3_putFlag wsX3_putFlag) := goodIn_app (goodIn_of _ (by decide +kernel)) ggX1_finish_X3_putFlag
theorem dX1_finish_0 : decode cX1_finish 0 = .ok (.aload_n 0, 1) := by decide +kernel
theorem dX1_finish_1 : decode cX1_finish 1 = .ok (.getfield 12, 3) := by decide +kernel
theorem dX1_finish_4 : decode cX1_finish 4 = .ok (.iconst 1, 1) := by decide +kernel
theorem dX1_finish_5 : decode cX1_finish 5 = .ok (.invokevirtual 42, 3) := by decide +kernel
theorem dX1_finish_8 : decode cX1_finish 8 = .ok (.aload_n 0, 1) := by decide +kernel
theorem dX1_finish_9 : decode cX1_finish 9 = .ok (.iconst 0, 1) := by decide +kernel
theorem dX1_finish_10 : decode cX1_finish 10 = .ok (.putfield 67, 3) := by decide +kernel
theorem dX1_finish_13 : decode cX1_finish 13 = .ok (.aload_n 0, 1) := by decide +kernel
theorem dX1_finish_14 : decode cX1_finish 14 = .ok (.getfield 57, 3) := by decide +kernel
theorem dX1_finish_17 : decode cX1_finish 17 = .ok (.sipush 8192, 3) := by decide +kernel
theorem dX1_finish_20 : decode cX1_finish 20 = .ok (.iand, 1) := by decide +kernel
theorem dX1_finish_21 : decode cX1_finish 21 = .ok (.ifCond .eq 11, 3) := by decide +kernel
theorem dX1_finish_24 : decode cX1_finish 24 = .ok (.aload_n 1, 1) := by decide +kernel
theorem dX1_finish_25 : decode cX1_finish 25 = .ok (.getfield 41, 3) := by decide +kernel
theorem dX1_finish_28 : decode cX1_finish 28 = .ok (.iconst 0, 1) := by decide +kernel
theorem dX1_finish_29 : decode cX1_finish 29 = .ok (.putfield 61, 3) := by decide +kernel
theorem dX1_finish_32 : decode cX1_finish 32 = .ok (.return_, 1) := by decide +kernel
theorem dX1_takeRegister_0 : decode cX1_takeRegister 0 = .ok (.aload_n 0, 1) := by decide +kernel
theorem dX1_takeRegister_1 : decode cX1_takeRegister 1 = .ok (.getfield 70, 3) := by decide +kernel
theorem dX1_takeRegister_4 : decode cX1_takeRegister 4 = .ok (.ifCond .eq 11, 3) := by decide +kernel
theorem dX1_takeRegister_7 : decode cX1_takeRegister 7 = .ok (.aload_n 0, 1) := by decide +kernel
theorem dX1_takeRegister_8 : decode cX1_takeRegister 8 = .ok (.iload_n 1, 1) := by decide +kernel
theorem dX1_takeRegister_9 : decode cX1_takeRegister 9 = .ok (.putfield 46, 3) := by decide +kernel
theorem dX1_takeRegister_12 : decode cX1_takeRegister 12 = .ok (.goto 28, 3) := by decide +kernel
theorem dX1_takeRegister_15 : decode cX1_takeRegister 15 = .ok (.aload_n 0, 1) := by decide +kernel
theorem dX1_takeRegister_16 : decode cX1_takeRegister 16 = .ok (.iload_n 1, 1) := by decide +kernel
theorem dX1_takeRegister_17 : decode cX1_takeRegister 17 = .ok (.sipush 32767, 3) := by decide +kernel
theorem dX1_takeRegister_20 : decode cX1_takeRegister 20 = .ok (.iand, 1) := by decide +kernel
theorem dX1_takeRegister_21 : decode cX1_takeRegister 21 = .ok (.putfield 22, 3) := by decide +kernel
theorem dX1_takeRegister_24 : decode cX1_takeRegister 24 = .ok (.aload_n 0, 1) := by decide +kernel
theorem dX1_takeRegister_25 : decode cX1_takeRegister 25 = .ok (.iload_n 1, 1) := by decide +kernel
theorem dX1_takeRegister_26 : decode cX1_takeRegister 26 = .ok (.ldc 60, 2) := by decide +kernel
theorem dX1_takeRegister_28 : decode cX1_takeRegister 28 = .ok (.iand, 1) := by decide +kernel
theorem dX1_takeRegister_29 : decode cX1_takeRegister 29 = .ok (.ifCond .eq 7, 3) := by decide +kernel
theorem dX1_takeRegister_32 : decode cX1_takeRegister 32 = .ok (.iconst 1, 1) := by decide +kernel
theorem dX1_takeRegister_33 : decode cX1_takeRegister 33 = .ok (.goto 4, 3) := by decide +kernel
theorem dX1_takeRegister_36 : decode cX1_takeRegister 36 = .ok (.iconst 0, 1) := by decide +kernel
theorem dX1_takeRegister_37 : decode cX1_takeRegister 37 = .ok (.putfield 18, 3) := by decide +kernel
theorem dX1_takeRegister_40 : decode cX1_takeRegister 40 = .ok (.return_, 1) := by decide +kernel
set_option maxRecDepth 20000 in
theorem ggX1_tellPart_X7_bit : GoodIn wsX1_tellPart wsX7_bit := goodIn_r _ [9] (by decide +kernel) (by decide +kernel)
set_option maxRecDepth 20000 in
theorem gX1_tellPart_X7_bit_n73 : GoodIn wsX1_tellPart (wsX7_bit) := ggX1_tellPart_X7_bit
theorem dX1_tellPart_0 : decode cX1_tellPart 0 = .ok (.iload_n 1, 1) := by decide +kernel
theorem dX1_tellPart_1 : decode cX1_tellPart 1 = .ok (.tableswitch 75 3 8 #[39, 47, 52, 57, 65, 70], 39) := by decide +kernel
theorem dX1_tellPart_40 : decode cX1_tellPart 40 = .ok (.aload_n 0, 1) := by decide +kernel
theorem dX1_tellPart_41 : decode cX1_tellPart 41 = .ok (.getfield 67, 3) := by decide +kernel
theorem dX1_tellPart_44 : decode cX1_tellPart 44 = .ok (.invokestatic 73, 3) := by decide +kernel
theorem dX1_tellPart_47 : decode cX1_tellPart 47 = .ok (.ireturn, 1) := by decide +kernel
theorem dX1_tellPart_48 : decode cX1_tellPart 48 = .ok (.aload_n 0, 1) := by decide +kernel
theorem dX1_tellPart_49 : decode cX1_tellPart 49 = .ok (.getfield 22, 3) := by decide +kernel
theorem dX1_tellPart_52 : decode cX1_tellPart 52 = .ok (.ireturn, 1) := by decide +kernel
theorem dX1_tellPart_53 : decode cX1_tellPart 53 = .ok (.aload_n 0, 1) := by decide +kernel
theorem dX1_tellPart_54 : decode cX1_tellPart 54 = .ok (.getfield 46, 3) := by decide +kernel
theorem dX1_tellPart_57 : decode cX1_tellPart 57 = .ok (.ireturn, 1) := by decide +kernel
theorem dX1_tellPart_58 : decode cX1_tellPart 58 = .ok (.aload_n 0, 1) := by decide +kernel
theorem dX1_tellPart_59 : decode cX1_tellPart 59 = .ok (.getfield 18, 3) := by decide +kernel
theorem dX1_tellPart_62 : decode cX1_tellPart 62 = .ok (.invokestatic 73, 3) := by decide +kernel
theorem dX1_tellPart_65 : decode cX1_tellPart 65 = .ok (.ireturn, 1) := by decide +kernel
theorem dX1_tellPart_66 : decode cX1_tellPart 66 = .ok (.aload_n 0, 1) := by decide +kernel
theorem dX1_tellPart_67 : decode cX1_tellPart 67 = .ok (.getfield 57, 3) := by decide +kernel
theorem dX1_tellPart_70 : decode cX1_tellPart 70 = .ok (.ireturn, 1) := by decide +kernel
theorem dX1_tellPart_71 : decode cX1_tellPart 71 = .ok (.aload_n 0, 1) := by decide +kernel
theorem dX1_tellPart_72 : decode cX1_tellPart 72 = .ok (.getfield 50, 3) := by decide +kernel
theorem dX1_tellPart_75 : decode cX1_tellPart 75 = .ok (.ireturn, 1) := by decide +kernel
theorem dX1_tellPart_76 : decode cX1_tellPart 76 = .ok (.iconst (-1), 1) := by decide +kernel
theorem dX1_tellPart_77 : decode cX1_tellPart 77 = .ok (.ireturn, 1) := by decide +kernel
set_option maxRecDepth 20000 in
theorem ggX2_init_X3_init : GoodIn wsX2_init wsX3_init := goodIn_r _ [14, 15, 2, 3] (by decide +kernel) (by decide +kernel)
set_option maxRecDepth 20000 in
theorem gX2_init_X3_init_n11 : GoodIn wsX2_init (wsX3_init) := ggX2_init_X3_init
theorem dX2_init_0 : decode cX2_init 0 = .ok (.aload_n 0, 1) := by decide +kernel
theorem dX2_init_1 : decode cX2_init 1 = .ok (.invokespecial 3, 3) := by decide +kernel
theorem dX2_init_4 : decode cX2_init 4 = .ok (.aload_n 0, 1) := by decide +kernel
theorem dX2_init_5 : decode cX2_init 5 = .ok (.new 9, 3) := by decide +kernel
theorem dX2_init_8 : decode cX2_init 8 = .ok (.dup, 1) := by decide +kernel
theorem dX2_init_9 : decode cX2_init 9 = .ok (.invokespecial 11, 3) := by decide +kernel
theorem dX2_init_12 : decode cX2_init 12 = .ok (.putfield 12, 3) := by decide +kernel
theorem dX2_init_15 : decode cX2_init 15 = .ok (.aload_n 0, 1) := by decide +kernel
theorem dX2_init_16 : decode cX2_init 16 = .ok (.bipush 100, 2) := by decide +kernel
theorem dX2_init_18 : decode cX2_init 18 = .ok (.newarray .int, 2) := by decide +kernel
theorem dX2_init_20 : decode cX2_init 20 = .ok (.putfield 18, 3) := by decide +kernel
theorem dX2_init_23 : decode cX2_init 23 = .ok (.aload_n 0, 1) := by decide +kernel
theorem dX2_init_24 : decode cX2_init 24 = .ok (.sipush 200, 3) := by decide +kernel
theorem dX2_init_27 : decode cX2_init 27 = .ok (.newarray .int, 2) := by decide +kernel
theorem dX2_init_29 : decode cX2_init 29 = .ok (.putfield 22, 3) := by decide +kernel
theorem dX2_init_32 : decode cX2_init 32 = .ok (.aload_n 0, 1) := by decide +kernel
theorem dX2_init_33 : decode cX2_init 33 = .ok (.iconst 1, 1) := by decide +kernel
theorem dX2_init_34 : decode cX2_init 34 = .ok (.putfield 25, 3) := by decide +kernel
theorem dX2_init_37 : decode cX2_init 37 = .ok (.aload_n 0, 1) := by decide +kernel
theorem dX2_init_38 : decode cX2_init 38 = .ok (.iconst 1, 1) := by decide +kernel
theorem dX2_init_39 : decode cX2_init 39 = .ok (.putfield 29, 3) := by decide +kernel
theorem dX2_init_42 : decode cX2_init 42 = .ok (.return_, 1) := by decide +kernel
theorem dX2_equip_0 : decode cX2_equip 0 = .ok (.aload_n 0, 1) := by decide +kernel
theorem dX2_equip_1 : decode cX2_equip 1 = .ok (.iload_n 1, 1) := by decide +kernel
theorem dX2_equip_2 : decode cX2_equip 2 = .ok (.putfield 25, 3) := by decide +kernel
theorem dX2_equip_5 : decode cX2_equip 5 = .ok (.aload_n 0, 1) := by decide +kernel
theorem dX2_equip_6 : decode cX2_equip 6 = .ok (.iload_n 2, 1) := by decide +kernel
theorem dX2_equip_7 : decode cX2_equip 7 = .ok (.putfield 29, 3) := by decide +kernel
theorem dX2_equip_10 : decode cX2_equip 10 = .ok (.aload_n 0, 1) := by decide +kernel
theorem dX2_equip_11 : decode cX2_equip 11 = .ok (.iconst 0, 1) := by decide +kernel
theorem dX2_equip_12 : decode cX2_equip 12 = .ok (.putfield 33, 3) := by decide +kernel
theorem dX2_equip_15 : decode cX2_equip 15 = .ok (.aload_n 0, 1) := by decide +kernel
theorem dX2_equip_16 : decode cX2_equip 16 = .ok (.iconst 0, 1) := by decide +kernel
theorem dX2_equip_17 : decode cX2_equip 17 = .ok (.putfield 36, 3) := by decide +kernel
theorem dX2_equip_20 : decode cX2_equip 20 = .ok (.return_, 1) := by decide +kernel
theorem dX2_start_0 : decode cX2_start 0 = .ok (.aload_n 0, 1) := by decide +kernel
theorem dX2_start_1 : decode cX2_start 1 = .ok (.aload_n 0, 1) := by decide +kernel
theorem dX2_start_2 : decode cX2_start 2 = .ok (.getfield 29, 3) := by decide +kernel
theorem dX2_start_5 : decode cX2_start 5 = .ok (.putfield 33, 3) := by decide +kernel
theorem dX2_start_8 : decode cX2_start 8 = .ok (.return_, 1) := by decide +kernel
set_option maxRecDepth 20000 in
theorem ggX2_advance_X2_takeFromTape : GoodIn wsX2_advance wsX2_takeFromTape := goodIn_r _ [9, 10, 11, 12, 26, 27, 28, 29, 30, 31, 32, 33, 34, 35] (by decide +kernel) (by decide +kernel)
set_option maxRecDepth 20000 in
theorem gX2_advance_X2_takeFromTape : GoodIn wsX2_advance (wsV RX2 39 RX2 yX2_takeFromTape wsX2_takeFromTape) := goodIn_app (goodIn_of _ (by decide +kernel)) ggX2_advance_X2_takeFromTape
set_option maxRecDepth 20000 in
theorem ggX2_advance_X2_putOut : GoodIn wsX2_advance wsX2_putOut := goodIn_r _ [16, 17, 18, 26, 27, 28, 29, 30, 31, 32, 33, 34, 35] (by decide +kernel) (by decide +kernel)
set_option maxRecDepth 20000 in
theorem gX2_advance_X2_putOut : GoodIn wsX2_advance (wsV RX2 43 RX2 yX2_putOut wsX2_putOut) := goodIn_app (goodIn_of _ (by decide +kernel)) ggX2_advance_X2_putOut
set_option maxRecDepth 20000 in
theorem ggX2_advance_X3_putFlag : GoodIn wsX2_advance wsX3_putFlag := goodIn_r _ [23, 24, 25, 36, 37, 38] (by decide +kernel) (by decide +kernel)
set_option maxRecDepth 20000 in
theorem gX2_advance_X3_putFlag : GoodIn wsX2_advance (wsV RX2 47 RX3 yX3_putFlag wsX3_putFlag) := goodIn_app (goodIn_of _ (by decide +kernel)) ggX2_advance_X3_putFlag
theorem dX2_advance_0 : decode cX2_advance 0 = .ok (.aload_n 0, 1) := by decide +kernel
theorem dX2_advance_1 : decode cX2_advance 1 = .ok (.getfield 33, 3) := by decide +kernel
theorem dX2_advance_4 : decode cX2_advance 4 = .ok (.ifCond .ne 4, 3) := by decide +kernel
theorem dX2_advance_7 : decode cX2_advance 7 = .ok (.return_, 1) := by decide +kernel
theorem dX2_advance_8 : decode cX2_advance 8 = .ok (.aload_n 0, 1) := by decide +kernel
theorem dX2_advance_9 : decode cX2_advance 9 = .ok (.dup, 1) := by decide +kernel
theorem dX2_advance_10 : decode cX2_advance 10 = .ok (.getfield 33, 3) := by decide +kernel
theorem dX2_advance_13 : decode cX2_advance 13 = .ok (.iconst 1, 1) := by decide +kernel
theorem dX2_advance_14 : decode cX2_advance 14 = .ok (.isub, 1) := by decide +kernel
theorem dX2_advance_15 : decode cX2_advance 15 = .ok (.putfield 33, 3) := by decide +kernel
theorem dX2_advance_18 : decode cX2_advance 18 = .ok (.aload_n 0, 1) := by decide +kernel
theorem dX2_advance_19 : decode cX2_advance 19 = .ok (.getfield 33, 3) := by decide +kernel
theorem dX2_advance_22 : decode cX2_advance 22 = .ok (.ifCond .le 4, 3) := by decide +kernel
theorem dX2_advance_25 : decode cX2_advance 25 = .ok (.return_, 1) := by decide +kernel
theorem dX2_advance_26 : decode cX2_advance 26 = .ok (.aload_n 0, 1) := by decide +kernel
theorem dX2_advance_27 : decode cX2_advance 27 = .ok (.getfield 25, 3) := by decide +kernel
theorem dX2_advance_30 : decode cX2_advance 30 = .ok (.ifCond .eq 14, 3) := by decide +kernel
theorem dX2_advance_33 : decode cX2_advance 33 = .ok (.aload_n 0, 1) := by decide +kernel
theorem dX2_advance_34 : decode cX2_advance 34 = .ok (.aload_n 0, 1) := by decide +kernel
theorem dX2_advance_35 : decode cX2_advance 35 = .ok (.invokevirtual 39, 3) := by decide +kernel
theorem dX2_advance_38 : decode cX2_advance 38 = .ok (.putfield 36, 3) := by decide +kernel
theorem dX2_advance_41 : decode cX2_advance 41 = .ok (.goto 11, 3) := by decide +kernel
theorem dX2_advance_44 : decode cX2_advance 44 = .ok (.aload_n 0, 1) := by decide +kernel
theorem dX2_advance_45 : decode cX2_advance 45 = .ok (.aload_n 0, 1) := by decide +kernel
theorem dX2_advance_46 : decode cX2_advance 46 = .ok (.getfield 36, 3) := by decide +kernel
theorem dX2_advance_49 : decode cX2_advance 49 = .ok (.invokevirtual 43, 3) := by decide +kernel
theorem dX2_advance_52 : decode cX2_advance 52 = .ok (.aload_n 0, 1) := by decide +kernel
theorem dX2_advance_53 : decode cX2_advance 53 = .ok (.getfield 12, 3) := by decide +kernel
theorem dX2_advance_56 : decode cX2_advance 56 = .ok (.iconst 1, 1) := by decide +kernel
theorem dX2_advance_57 : decode cX2_advance 57 = .ok (.invokevirtual 47, 3) := by decide +kernel
theorem dX2_advance_60 : decode cX2_advance 60 = .ok (.return_, 1) := by decide +kernel
theorem dX2_putOnTape_0 : decode cX2_putOnTape 0 = .ok (.aload_n 0, 1) := by decide +kernel
theorem dX2_putOnTape_1 : decode cX2_putOnTape 1 = .ok (.getfield 51, 3) := by decide +kernel
theorem dX2_putOnTape_4 : decode cX2_putOnTape 4 = .ok (.aload_n 0, 1) := by decide +kernel
theorem dX2_putOnTape_5 : decode cX2_putOnTape 5 = .ok (.getfield 54, 3) := by decide +kernel
theorem dX2_putOnTape_8 : decode cX2_putOnTape 8 = .ok (.iadd, 1) := by decide +kernel
theorem dX2_putOnTape_9 : decode cX2_putOnTape 9 = .ok (.istore_n 2, 1) := by decide +kernel
theorem dX2_putOnTape_10 : decode cX2_putOnTape 10 = .ok (.iload_n 2, 1) := by decide +kernel
theorem dX2_putOnTape_11 : decode cX2_putOnTape 11 = .ok (.bipush 100, 2) := by decide +kernel
theorem dX2_putOnTape_13 : decode cX2_putOnTape 13 = .ok (.if_icmp .lt 6, 3) := by decide +kernel
theorem dX2_putOnTape_16 : decode cX2_putOnTape 16 = .ok (.iinc 2 (-100), 3) := by decide +kernel
theorem dX2_putOnTape_19 : decode cX2_putOnTape 19 = .ok (.aload_n 0, 1) := by decide +kernel
theorem dX2_putOnTape_20 : decode cX2_putOnTape 20 = .ok (.getfield 54, 3) := by decide +kernel
theorem dX2_putOnTape_23 : decode cX2_putOnTape 23 = .ok (.bipush 100, 2) := by decide +kernel
theorem dX2_putOnTape_25 : decode cX2_putOnTape 25 = .ok (.if_icmp .ge 33, 3) := by decide +kernel
theorem dX2_putOnTape_28 : decode cX2_putOnTape 28 = .ok (.iload_n 2, 1) := by decide +kernel
theorem dX2_putOnTape_29 : decode cX2_putOnTape 29 = .ok (.ifCond .lt 29, 3) := by decide +kernel
theorem dX2_putOnTape_32 : decode cX2_putOnTape 32 = .ok (.iload_n 2, 1) := by decide +kernel
theorem dX2_putOnTape_33 : decode cX2_putOnTape 33 = .ok (.aload_n 0, 1) := by decide +kernel
theorem dX2_putOnTape_34 : decode cX2_putOnTape 34 = .ok (.getfield 18, 3) := by decide +kernel
theorem dX2_putOnTape_37 : decode cX2_putOnTape 37 = .ok (.arraylength, 1) := by decide +kernel
theorem dX2_putOnTape_38 : decode cX2_putOnTape 38 = .ok (.if_icmp .ge 20, 3) := by decide +kernel
theorem dX2_putOnTape_41 : decode cX2_putOnTape 41 = .ok (.aload_n 0, 1) := by decide +kernel
theorem dX2_putOnTape_42 : decode cX2_putOnTape 42 = .ok (.getfield 18, 3) := by decide +kernel
theorem dX2_putOnTape_45 : decode cX2_putOnTape 45 = .ok (.iload_n 2, 1) := by decide +kernel
theorem dX2_putOnTape_46 : decode cX2_putOnTape 46 = .ok (.iload_n 1, 1) := by decide +kernel
theorem dX2_putOnTape_47 : decode cX2_putOnTape 47 = .ok (.iastore, 1) := by decide +kernel
theorem dX2_putOnTape_48 : decode cX2_putOnTape 48 = .ok (.aload_n 0, 1) := by decide +kernel
theorem dX2_putOnTape_49 : decode cX2_putOnTape 49 = .ok (.dup, 1) := by decide +kernel
theorem dX2_putOnTape_50 : decode cX2_putOnTape 50 = .ok (.getfield 54, 3) := by decide +kernel
theorem dX2_putOnTape_53 : decode cX2_putOnTape 53 = .ok (.iconst 1, 1) := by decide +kernel
theorem dX2_putOnTape_54 : decode cX2_putOnTape 54 = .ok (.iadd, 1) := by decide +kernel
theorem dX2_putOnTape_55 : decode cX2_putOnTape 55 = .ok (.putfield 54, 3) := by decide +kernel
theorem dX2_putOnTape_58 : decode cX2_putOnTape 58 = .ok (.return_, 1) := by decide +kernel
theorem dX2_takeFromTape_0 : decode cX2_takeFromTape 0 = .ok (.aload_n 0, 1) := by decide +kernel
theorem dX2_takeFromTape_1 : decode cX2_takeFromTape 1 = .ok (.getfield 54, 3) := by decide +kernel
theorem dX2_takeFromTape_4 : decode cX2_takeFromTape 4 = .ok (.ifCond .eq 22, 3) := by decide +kernel
theorem dX2_takeFromTape_7 : decode cX2_takeFromTape 7 = .ok (.aload_n 0, 1) := by decide +kernel
theorem dX2_takeFromTape_8 : decode cX2_takeFromTape 8 = .ok (.getfield 51, 3) := by decide +kernel
theorem dX2_takeFromTape_11 : decode cX2_takeFromTape 11 = .ok (.ifCond .lt 15, 3) := by decide +kernel
theorem dX2_takeFromTape_14 : decode cX2_takeFromTape 14 = .ok (.aload_n 0, 1) := by decide +kernel
theorem dX2_takeFromTape_15 : decode cX2_takeFromTape 15 = .ok (.getfield 51, 3) := by decide +kernel
theorem dX2_takeFromTape_18 : decode cX2_takeFromTape 18 = .ok (.aload_n 0, 1) := by decide +kernel
theorem dX2_takeFromTape_19 : decode cX2_takeFromTape 19 = .ok (.getfield 18, 3) := by decide +kernel
theorem dX2_takeFromTape_22 : decode cX2_takeFromTape 22 = .ok (.arraylength, 1) := by decide +kernel
theorem dX2_takeFromTape_23 : decode cX2_takeFromTape 23 = .ok (.if_icmp .lt 5, 3) := by decide +kernel
theorem dX2_takeFromTape_26 : decode cX2_takeFromTape 26 = .ok (.iconst 0, 1) := by decide +kernel
theorem dX2_takeFromTape_27 : decode cX2_takeFromTape 27 = .ok (.ireturn, 1) := by decide +kernel
theorem dX2_takeFromTape_28 : decode cX2_takeFromTape 28 = .ok (.aload_n 0, 1) := by decide +kernel
theorem dX2_takeFromTape_29 : decode cX2_takeFromTape 29 = .ok (.getfield 18, 3) := by decide +kernel
theorem dX2_takeFromTape_32 : decode cX2_takeFromTape 32 = .ok (.aload_n 0, 1) := by decide +kernel
theorem dX2_takeFromTape_33 : decode cX2_takeFromTape 33 = .ok (.getfield 51, 3) := by decide +kernel
theorem dX2_takeFromTape_36 : decode cX2_takeFromTape 36 = .ok (.iaload, 1) := by decide +kernel
theorem dX2_takeFromTape_37 : decode cX2_takeFromTape 37 = .ok (.istore_n 1, 1) := by decide +kernel
theorem dX2_takeFromTape_38 : decode cX2_takeFromTape 38 = .ok (.aload_n 0, 1) := by decide +kernel
theorem dX2_takeFromTape_39 : decode cX2_takeFromTape 39 = .ok (.aload_n 0, 1) := by decide +kernel
theorem dX2_takeFromTape_40 : decode cX2_takeFromTape 40 = .ok (.getfield 51, 3) := by decide +kernel
theorem dX2_takeFromTape_43 : decode cX2_takeFromTape 43 = .ok (.iconst 1, 1) := by decide +kernel
theorem dX2_takeFromTape_44 : decode cX2_takeFromTape 44 = .ok (.iadd, 1) := by decide +kernel
theorem dX2_takeFromTape_45 : decode cX2_takeFromTape 45 = .ok (.bipush 100, 2) := by decide +kernel
theorem dX2_takeFromTape_47 : decode cX2_takeFromTape 47 = .ok (.if_icmp .ge 12, 3) := by decide +kernel
theorem dX2_takeFromTape_50 : decode cX2_takeFromTape 50 = .ok (.aload_n 0, 1) := by decide +kernel
theorem dX2_takeFromTape_51 : decode cX2_takeFromTape 51 = .ok (.getfield 51, 3) := by decide +kernel
theorem dX2_takeFromTape_54 : decode cX2_takeFromTape 54 = .ok (.iconst 1, 1) := by decide +kernel
theorem dX2_takeFromTape_55 : decode cX2_takeFromTape 55 = .ok (.iadd, 1) := by decide +kernel
theorem dX2_takeFromTape_56 : decode cX2_takeFromTape 56 = .ok (.goto 4, 3) := by decide +kernel
theorem dX2_takeFromTape_59 : decode cX2_takeFromTape 59 = .ok (.iconst 0, 1) := by decide +kernel
theorem dX2_takeFromTape_60 : decode cX2_takeFromTape 60 = .ok (.putfield 51, 3) := by decide +kernel
theorem dX2_takeFromTape_63 : decode cX2_takeFromTape 63 = .ok (.aload_n 0, 1) := by decide +kernel
theorem dX2_takeFromTape_64 : decode cX2_takeFromTape 64 = .ok (.dup, 1) := by decide +kernel
theorem dX2_takeFromTape_65 : decode cX2_takeFromTape 65 = .ok (.getfield 54, 3) := by decide +kernel
theorem dX2_takeFromTape_68 : decode cX2_takeFromTape 68 = .ok (.iconst 1, 1) := by decide +kernel
theorem dX2_takeFromTape_69 : decode cX2_takeFromTape 69 = .ok (.isub, 1) := by decide +kernel
theorem dX2_takeFromTape_70 : decode cX2_takeFromTape 70 = .ok (.putfield 54, 3) := by decide +kernel
theorem dX2_takeFromTape_73 : decode cX2_takeFromTape 73 = .ok (.iload_n 1, 1) := by decide +kernel
theorem dX2_takeFromTape_74 : decode cX2_takeFromTape 74 = .ok (.ireturn, 1) := by decide +kernel
theorem dX2_putOut_0 : decode cX2_putOut 0 = .ok (.aload_n 0, 1) := by decide +kernel
theorem dX2_putOut_1 : decode cX2_putOut 1 = .ok (.getfield 57, 3) := by decide +kernel
theorem dX2_putOut_4 : decode cX2_putOut 4 = .ok (.ifCond .lt 25, 3) := by decide +kernel
theorem dX2_putOut_7 : decode cX2_putOut 7 = .ok (.aload_n 0, 1) := by decide +kernel
theorem dX2_putOut_8 : decode cX2_putOut 8 = .ok (.getfield 57, 3) := by decide +kernel
theorem dX2_putOut_11 : decode cX2_putOut 11 = .ok (.aload_n 0, 1) := by decide +kernel
theorem dX2_putOut_12 : decode cX2_putOut 12 = .ok (.getfield 22, 3) := by decide +kernel
theorem dX2_putOut_15 : decode cX2_putOut 15 = .ok (.arraylength, 1) := by decide +kernel
theorem dX2_putOut_16 : decode cX2_putOut 16 = .ok (.if_icmp .ge 13, 3) := by decide +kernel
theorem dX2_putOut_19 : decode cX2_putOut 19 = .ok (.aload_n 0, 1) := by decide +kernel
theorem dX2_putOut_20 : decode cX2_putOut 20 = .ok (.getfield 22, 3) := by decide +kernel
theorem dX2_putOut_23 : decode cX2_putOut 23 = .ok (.aload_n 0, 1) := by decide +kernel
theorem dX2_putOut_24 : decode cX2_putOut 24 = .ok (.getfield 57, 3) := by decide +kernel
theorem dX2_putOut_27 : decode cX2_putOut 27 = .ok (.iload_n 1, 1) := by decide +kernel
theorem dX2_putOut_28 : decode cX2_putOut 28 = .ok (.iastore, 1) := by decide +kernel
theorem dX2_putOut_29 : decode cX2_putOut 29 = .ok (.aload_n 0, 1) := by decide +kernel
theorem dX2_putOut_30 : decode cX2_putOut 30 = .ok (.dup, 1) := by decide +kernel
theorem dX2_putOut_31 : decode cX2_putOut 31 = .ok (.getfield 57, 3) := by decide +kernel
theorem dX2_putOut_34 : decode cX2_putOut 34 = .ok (.iconst 1, 1) := by decide +kernel
theorem dX2_putOut_35 : decode cX2_putOut 35 = .ok (.iadd, 1) := by decide +kernel
theorem dX2_putOut_36 : decode cX2_putOut 36 = .ok (.putfield 57, 3) := by decide +kernel
theorem dX2_putOut_39 : decode cX2_putOut 39 = .ok (.return_, 1) := by decide +kernel
theorem dX2_keptOut_0 : decode cX2_keptOut 0 = .ok (.iload_n 1, 1) := by decide +kernel
theorem dX2_keptOut_1 : decode cX2_keptOut 1 = .ok (.ifCond .lt 29, 3) := by decide +kernel
theorem dX2_keptOut_4 : decode cX2_keptOut 4 = .ok (.iload_n 1, 1) := by decide +kernel
theorem dX2_keptOut_5 : decode cX2_keptOut 5 = .ok (.aload_n 0, 1) := by decide +kernel
theorem dX2_keptOut_6 : decode cX2_keptOut 6 = .ok (.getfield 57, 3) := by decide +kernel
theorem dX2_keptOut_9 : decode cX2_keptOut 9 = .ok (.if_icmp .ge 21, 3) := by decide +kernel
theorem dX2_keptOut_12 : decode cX2_keptOut 12 = .ok (.iload_n 1, 1) := by decide +kernel
theorem dX2_keptOut_13 : decode cX2_keptOut 13 = .ok (.aload_n 0, 1) := by decide +kernel
theorem dX2_keptOut_14 : decode cX2_keptOut 14 = .ok (.getfield 22, 3) := by decide +kernel
theorem dX2_keptOut_17 : decode cX2_keptOut 17 = .ok (.arraylength, 1) := by decide +kernel
theorem dX2_keptOut_18 : decode cX2_keptOut 18 = .ok (.if_icmp .ge 12, 3) := by decide +kernel
theorem dX2_keptOut_21 : decode cX2_keptOut 21 = .ok (.aload_n 0, 1) := by decide +kernel
theorem dX2_keptOut_22 : decode cX2_keptOut 22 = .ok (.getfield 22, 3) := by decide +kernel
theorem dX2_keptOut_25 : decode cX2_keptOut 25 = .ok (.iload_n 1, 1) := by decide +kernel
theorem dX2_keptOut_26 : decode cX2_keptOut 26 = .ok (.iaload, 1) := by decide +kernel
theorem dX2_keptOut_27 : decode cX2_keptOut 27 = .ok (.goto 4, 3) := by decide +kernel
theorem dX2_keptOut_30 : decode cX2_keptOut 30 = .ok (.iconst (-1), 1) := by decide +kernel
theorem dX2_keptOut_31 : decode cX2_keptOut 31 = .ok (.ireturn, 1) := by decide +kernel
set_option maxRecDepth 20000 in
theorem ggX2_tellPart_X7_bit : GoodIn wsX2_tellPart wsX7_bit := goodIn_r _ [9] (by decide +kernel) (by decide +kernel)
set_option maxRecDepth 20000 in
theorem gX2_tellPart_X7_bit_n60 : GoodIn wsX2_tellPart (wsX7_bit) := ggX2_tellPart_X7_bit
theorem dX2_tellPart_0 : decode cX2_tellPart 0 = .ok (.iload_n 1, 1) := by decide +kernel
theorem dX2_tellPart_1 : decode cX2_tellPart 1 = .ok (.tableswitch 72 3 8 #[39, 44, 49, 54, 62, 67], 39) := by decide +kernel
theorem dX2_tellPart_40 : decode cX2_tellPart 40 = .ok (.aload_n 0, 1) := by decide +kernel
theorem dX2_tellPart_41 : decode cX2_tellPart 41 = .ok (.getfield 33, 3) := by decide +kernel
theorem dX2_tellPart_44 : decode cX2_tellPart 44 = .ok (.ireturn, 1) := by decide +kernel
theorem dX2_tellPart_45 : decode cX2_tellPart 45 = .ok (.aload_n 0, 1) := by decide +kernel
theorem dX2_tellPart_46 : decode cX2_tellPart 46 = .ok (.getfield 36, 3) := by decide +kernel
theorem dX2_tellPart_49 : decode cX2_tellPart 49 = .ok (.ireturn, 1) := by decide +kernel
theorem dX2_tellPart_50 : decode cX2_tellPart 50 = .ok (.aload_n 0, 1) := by decide +kernel
theorem dX2_tellPart_51 : decode cX2_tellPart 51 = .ok (.getfield 54, 3) := by decide +kernel
theorem dX2_tellPart_54 : decode cX2_tellPart 54 = .ok (.ireturn, 1) := by decide +kernel
theorem dX2_tellPart_55 : decode cX2_tellPart 55 = .ok (.aload_n 0, 1) := by decide +kernel
theorem dX2_tellPart_56 : decode cX2_tellPart 56 = .ok (.getfield 25, 3) := by decide +kernel
theorem dX2_tellPart_59 : decode cX2_tellPart 59 = .ok (.invokestatic 60, 3) := by decide +kernel
theorem dX2_tellPart_62 : decode cX2_tellPart 62 = .ok (.ireturn, 1) := by decide +kernel
theorem dX2_tellPart_63 : decode cX2_tellPart 63 = .ok (.aload_n 0, 1) := by decide +kernel
theorem dX2_tellPart_64 : decode cX2_tellPart 64 = .ok (.getfield 29, 3) := by decide +kernel
theorem dX2_tellPart_67 : decode cX2_tellPart 67 = .ok (.ireturn, 1) := by decide +kernel
theorem dX2_tellPart_68 : decode cX2_tellPart 68 = .ok (.aload_n 0, 1) := by decide +kernel
theorem dX2_tellPart_69 : decode cX2_tellPart 69 = .ok (.getfield 57, 3) := by decide +kernel
theorem dX2_tellPart_72 : decode cX2_tellPart 72 = .ok (.ireturn, 1) := by decide +kernel
theorem dX2_tellPart_73 : decode cX2_tellPart 73 = .ok (.iconst (-1), 1) := by decide +kernel
theorem dX2_tellPart_74 : decode cX2_tellPart 74 = .ok (.ireturn, 1) := by decide +kernel
theorem dX3_init_0 : decode cX3_init 0 = .ok (.aload_n 0, 1) := by decide +kernel
theorem dX3_init_1 : decode cX3_init 1 = .ok (.invokespecial 1, 3) := by decide +kernel
theorem dX3_init_4 : decode cX3_init 4 = .ok (.return_, 1) := by decide +kernel
theorem dX3_putFlag_0 : decode cX3_putFlag 0 = .ok (.aload_n 0, 1) := by decide +kernel
theorem dX3_putFlag_1 : decode cX3_putFlag 1 = .ok (.iload_n 1, 1) := by decide +kernel
theorem dX3_putFlag_2 : decode cX3_putFlag 2 = .ok (.putfield 7, 3) := by decide +kernel
theorem dX3_putFlag_5 : decode cX3_putFlag 5 = .ok (.aload_n 0, 1) := by decide +kernel
theorem dX3_putFlag_6 : decode cX3_putFlag 6 = .ok (.iload_n 1, 1) := by decide +kernel
theorem dX3_putFlag_7 : decode cX3_putFlag 7 = .ok (.putfield 13, 3) := by decide +kernel
theorem dX3_putFlag_10 : decode cX3_putFlag 10 = .ok (.return_, 1) := by decide +kernel
theorem dX4_init_0 : decode cX4_init 0 = .ok (.aload_n 0, 1) := by decide +kernel
theorem dX4_init_1 : decode cX4_init 1 = .ok (.invokespecial 3, 3) := by decide +kernel
theorem dX4_init_4 : decode cX4_init 4 = .ok (.aload_n 0, 1) := by decide +kernel
theorem dX4_init_5 : decode cX4_init 5 = .ok (.sipush 4096, 3) := by decide +kernel
theorem dX4_init_8 : decode cX4_init 8 = .ok (.newarray .int, 2) := by decide +kernel
theorem dX4_init_10 : decode cX4_init 10 = .ok (.putfield 9, 3) := by decide +kernel
theorem dX4_init_13 : decode cX4_init 13 = .ok (.return_, 1) := by decide +kernel
theorem dX4_read_0 : decode cX4_read 0 = .ok (.iload_n 1, 1) := by decide +kernel
theorem dX4_read_1 : decode cX4_read 1 = .ok (.ifCond .lt 21, 3) := by decide +kernel
theorem dX4_read_4 : decode cX4_read 4 = .ok (.iload_n 1, 1) := by decide +kernel
theorem dX4_read_5 : decode cX4_read 5 = .ok (.aload_n 0, 1) := by decide +kernel
theorem dX4_read_6 : decode cX4_read 6 = .ok (.getfield 9, 3) := by decide +kernel
theorem dX4_read_9 : decode cX4_read 9 = .ok (.arraylength, 1) := by decide +kernel
theorem dX4_read_10 : decode cX4_read 10 = .ok (.if_icmp .ge 12, 3) := by decide +kernel
theorem dX4_read_13 : decode cX4_read 13 = .ok (.aload_n 0, 1) := by decide +kernel
theorem dX4_read_14 : decode cX4_read 14 = .ok (.getfield 9, 3) := by decide +kernel
theorem dX4_read_17 : decode cX4_read 17 = .ok (.iload_n 1, 1) := by decide +kernel
theorem dX4_read_18 : decode cX4_read 18 = .ok (.iaload, 1) := by decide +kernel
theorem dX4_read_19 : decode cX4_read 19 = .ok (.goto 4, 3) := by decide +kernel
theorem dX4_read_22 : decode cX4_read 22 = .ok (.iconst 0, 1) := by decide +kernel
theorem dX4_read_23 : decode cX4_read 23 = .ok (.ireturn, 1) := by decide +kernel
theorem dX4_write_0 : decode cX4_write 0 = .ok (.iload_n 1, 1) := by decide +kernel
theorem dX4_write_1 : decode cX4_write 1 = .ok (.ifCond .lt 22, 3) := by decide +kernel
theorem dX4_write_4 : decode cX4_write 4 = .ok (.iload_n 1, 1) := by decide +kernel
theorem dX4_write_5 : decode cX4_write 5 = .ok (.aload_n 0, 1) := by decide +kernel
theorem dX4_write_6 : decode cX4_write 6 = .ok (.getfield 9, 3) := by decide +kernel
theorem dX4_write_9 : decode cX4_write 9 = .ok (.arraylength, 1) := by decide +kernel
theorem dX4_write_10 : decode cX4_write 10 = .ok (.if_icmp .ge 13, 3) := by decide +kernel
theorem dX4_write_13 : decode cX4_write 13 = .ok (.aload_n 0, 1) := by decide +kernel
theorem dX4_write_14 : decode cX4_write 14 = .ok (.getfield 9, 3) := by decide +kernel
theorem dX4_write_17 : decode cX4_write 17 = .ok (.iload_n 1, 1) := by decide +kernel
theorem dX4_write_18 : decode cX4_write 18 = .ok (.iload_n 2, 1) := by decide +kernel
theorem dX4_write_19 : decode cX4_write 19 = .ok (.ldc 15, 2) := by decide +kernel
theorem dX4_write_21 : decode cX4_write 21 = .ok (.iand, 1) := by decide +kernel
theorem dX4_write_22 : decode cX4_write 22 = .ok (.iastore, 1) := by decide +kernel
theorem dX4_write_23 : decode cX4_write 23 = .ok (.return_, 1) := by decide +kernel
theorem dX5_init_0 : decode cX5_init 0 = .ok (.aload_n 0, 1) := by decide +kernel
theorem dX5_init_1 : decode cX5_init 1 = .ok (.invokespecial 3, 3) := by decide +kernel
theorem dX5_init_4 : decode cX5_init 4 = .ok (.aload_n 0, 1) := by decide +kernel
theorem dX5_init_5 : decode cX5_init 5 = .ok (.aload_n 1, 1) := by decide +kernel
theorem dX5_init_6 : decode cX5_init 6 = .ok (.putfield 9, 3) := by decide +kernel
theorem dX5_init_9 : decode cX5_init 9 = .ok (.aload_n 0, 1) := by decide +kernel
theorem dX5_init_10 : decode cX5_init 10 = .ok (.aload_n 2, 1) := by decide +kernel
theorem dX5_init_11 : decode cX5_init 11 = .ok (.putfield 15, 3) := by decide +kernel
theorem dX5_init_14 : decode cX5_init 14 = .ok (.aload_n 0, 1) := by decide +kernel
theorem dX5_init_15 : decode cX5_init 15 = .ok (.aload_n 3, 1) := by decide +kernel
theorem dX5_init_16 : decode cX5_init 16 = .ok (.putfield 19, 3) := by decide +kernel
theorem dX5_init_19 : decode cX5_init 19 = .ok (.return_, 1) := by decide +kernel
set_option maxRecDepth 20000 in
theorem ggX5_nextWord_X4_read : GoodIn wsX5_nextWord wsX4_read := goodIn_r _ [7, 8, 24] (by decide +kernel) (by decide +kernel)
set_option maxRecDepth 20000 in
theorem gX5_nextWord_X4_read : GoodIn wsX5_nextWord (wsV RX5 29 RX4 yX4_read wsX4_read) := goodIn_app (goodIn_of _ (by decide +kernel)) ggX5_nextWord_X4_read
set_option maxRecDepth 20000 in
theorem ggX5_nextWord_X6_stepOn : GoodIn wsX5_nextWord wsX6_stepOn := goodIn_r _ [13, 14, 18, 19, 20, 21, 22, 23] (by decide +kernel) (by decide +kernel)
set_option maxRecDepth 20000 in
theorem gX5_nextWord_X6_stepOn : GoodIn wsX5_nextWord (wsV RX5 35 RX6 yX6_stepOn wsX6_stepOn) := goodIn_app (goodIn_of _ (by decide +kernel)) ggX5_nextWord_X6_stepOn
theorem dX5_nextWord_0 : decode cX5_nextWord 0 = .ok (.aload_n 0, 1) := by decide +kernel
theorem dX5_nextWord_1 : decode cX5_nextWord 1 = .ok (.getfield 9, 3) := by decide +kernel
theorem dX5_nextWord_4 : decode cX5_nextWord 4 = .ok (.aload_n 0, 1) := by decide +kernel
theorem dX5_nextWord_5 : decode cX5_nextWord 5 = .ok (.getfield 15, 3) := by decide +kernel
theorem dX5_nextWord_8 : decode cX5_nextWord 8 = .ok (.getfield 23, 3) := by decide +kernel
theorem dX5_nextWord_11 : decode cX5_nextWord 11 = .ok (.invokevirtual 29, 3) := by decide +kernel
theorem dX5_nextWord_14 : decode cX5_nextWord 14 = .ok (.istore_n 1, 1) := by decide +kernel
theorem dX5_nextWord_15 : decode cX5_nextWord 15 = .ok (.aload_n 0, 1) := by decide +kernel
theorem dX5_nextWord_16 : decode cX5_nextWord 16 = .ok (.getfield 15, 3) := by decide +kernel
theorem dX5_nextWord_19 : decode cX5_nextWord 19 = .ok (.invokevirtual 35, 3) := by decide +kernel
theorem dX5_nextWord_22 : decode cX5_nextWord 22 = .ok (.iload_n 1, 1) := by decide +kernel
theorem dX5_nextWord_23 : decode cX5_nextWord 23 = .ok (.ireturn, 1) := by decide +kernel
set_option maxRecDepth 20000 in
theorem ggX5_perform_X5_resolve : GoodIn wsX5_perform wsX5_resolve := goodIn_r _ [6, 1, 7, 8, 9, 10, 11, 12, 13, 14, 15, 16, 17, 18, 19, 20, 21, 209, 210, 211, 212, 213, 214, 215, 216, 217, 218] (by decide +kernel) (by decide +kernel)
set_option maxRecDepth 20000 in
theorem gX5_perform_X5_resolve : GoodIn wsX5_perform (wsV RX5 39 RX5 yX5_resolve wsX5_resolve) := goodIn_app (goodIn_of _ (by decide +kernel)) ggX5_perform_X5_resolve
set_option maxRecDepth 20000 in
theorem ggX5_perform_X5_referToMemory : GoodIn wsX5_perform wsX5_referToMemory := goodIn_r _ [25, 1, 7, 8, 26, 27, 5, 28, 9, 10, 11, 12, 13, 14, 29, 30, 31, 32, 33, 34, 35, 36, 37, 38, 39, 40, 41, 42, 43, 44, 45, 46, 47, 48, 49, 18, 50, 51, 52, 53, 54, 55, 209, 210, 211, 213, 214, 215, 216, 217, 218, 212] (by decide +kernel) (by decide +kernel)
set_option maxRecDepth 20000 in
theorem gX5_perform_X5_referToMemory : GoodIn wsX5_perform (wsV RX5 42 RX5 yX5_referToMemory wsX5_referToMemory) := goodIn_app (goodIn_of _ (by decide +kernel)) ggX5_perform_X5_referToMemory
set_option maxRecDepth 20000 in
theorem ggX5_perform_X5_alterAndSkip : GoodIn wsX5_perform wsX5_alterAndSkip := goodIn_r _ [59, 7, 8, 1, 26, 27, 5, 28, 9, 10, 11, 12, 13, 14, 60, 61, 62, 42, 63, 64, 65, 66, 67, 68, 69, 29, 30, 31, 32, 33, 43, 44, 45, 46, 47, 48, 49, 18, 50, 51, 209, 210, 211, 213, 214, 215, 216, 217, 218, 212] (by decide +kernel) (by decide +kernel)
set_option maxRecDepth 20000 in
theorem gX5_perform_X5_alterAndSkip : GoodIn wsX5_perform (wsV RX5 46 RX5 yX5_alterAndSkip wsX5_alterAndSkip) := goodIn_app (goodIn_of _ (by decide +kernel)) ggX5_perform_X5_alterAndSkip
set_option maxRecDepth 20000 in
theorem ggX5_perform_X5_shiftAndSkip : GoodIn wsX5_perform wsX5_shiftAndSkip := goodIn_r _ [73, 7, 8, 26, 27, 5, 28, 9, 10, 11, 12, 13, 14, 74, 75, 76, 77, 1, 42, 78, 79, 80, 81, 29, 30, 31, 32, 33, 43, 44, 45, 46, 47, 48, 49, 18, 50, 51, 209, 210, 211, 213, 214, 215, 216, 217, 218, 212] (by decide +kernel) (by decide +kernel)
set_option maxRecDepth 20000 in
theorem gX5_perform_X5_shiftAndSkip : GoodIn wsX5_perform (wsV RX5 50 RX5 yX5_shiftAndSkip wsX5_shiftAndSkip) := goodIn_app (goodIn_of _ (by decide +kernel)) ggX5_perform_X5_shiftAndSkip
set_option maxRecDepth 20000 in
theorem ggX5_perform_X5_inputOrOutput : GoodIn wsX5_perform wsX5_inputOrOutput := goodIn_r _ [85, 8, 86, 7, 26, 27, 5, 28, 15, 16, 17, 18, 19, 20, 21, 87, 88, 89, 90, 91, 92, 93, 94, 95, 96, 97, 98, 99, 100, 101, 102, 103, 104, 105, 106, 107, 108, 109, 110, 111, 112, 43, 44, 45, 46, 47, 48, 49, 50, 51, 9, 10, 11, 12, 13, 14, 113, 114, 115, 116, 117, 118, 119, 120, 121, 122, 123, 124, 125, 126, 127, 29, 30, 31, 32, 33, 128, 129, 130, 131, 132, 133, 134, 135, 136, 137, 138, 139, 140, 141, 142, 143, 144, 145, 146, 147, 148, 149, 150, 151, 152, 153, 154, 155, 156, 157, 158, 159, 160, 161, 209, 210, 211, 213, 214, 215, 216, 217, 218, 219, 220, 221, 222, 223, 224, 225, 226, 227, 228, 212, 229, 230, 231, 232, 233, 234, 235, 236, 237, 238, 239, 240, 241, 242, 243, 244, 245, 246] (by decide +kernel) (by decide +kernel)
set_option maxRecDepth 20000 in
theorem gX5_perform_X5_inputOrOutput : GoodIn wsX5_perform (wsV RX5 53 RX5 yX5_inputOrOutput wsX5_inputOrOutput) := goodIn_app (goodIn_of _ (by decide +kernel)) ggX5_perform_X5_inputOrOutput
set_option maxRecDepth 20000 in
theorem ggX5_perform_X5_hasAddressBehind : GoodIn wsX5_perform wsX5_hasAddressBehind := goodIn_r _ [164, 165, 166, 167, 168] (by decide +kernel) (by decide +kernel)
set_option maxRecDepth 20000 in
theorem gX5_perform_X5_hasAddressBehind : GoodIn wsX5_perform (va_wsS RX5 56 yX5_hasAddressBehind wsX5_hasAddressBehind) := goodIn_app (goodIn_of _ (by decide +kernel)) ggX5_perform_X5_hasAddressBehind
set_option maxRecDepth 20000 in
theorem ggX5_perform_X5_nextWord : GoodIn wsX5_perform wsX5_nextWord := goodIn_r _ [172, 7, 8, 9, 10, 11, 12, 13, 14, 47, 48, 49, 18, 50, 51, 209, 210, 211, 213, 214, 215, 216, 217, 218, 212] (by decide +kernel) (by decide +kernel)
set_option maxRecDepth 20000 in
theorem gX5_perform_X5_nextWord : GoodIn wsX5_perform (wsV RX5 60 RX5 yX5_nextWord wsX5_nextWord) := goodIn_app (goodIn_of _ (by decide +kernel)) ggX5_perform_X5_nextWord
set_option maxRecDepth 20000 in
theorem ggX5_perform_X5_doubleWord : GoodIn wsX5_perform wsX5_doubleWord := goodIn_r _ [176, 7, 9, 10, 11, 12, 13, 14, 177, 178, 179, 5, 180, 8, 181, 182, 183, 184, 29, 30, 31, 32, 33, 185, 186, 187, 188, 189, 190, 191, 192, 193, 194, 195, 196, 197, 198, 209, 210, 211, 212, 213, 214, 215, 216, 217, 218] (by decide +kernel) (by decide +kernel)
set_option maxRecDepth 20000 in
theorem gX5_perform_X5_doubleWord : GoodIn wsX5_perform (wsV RX5 64 RX5 yX5_doubleWord wsX5_doubleWord) := goodIn_app (goodIn_of _ (by decide +kernel)) ggX5_perform_X5_doubleWord
set_option maxRecDepth 20000 in
theorem ggX5_perform_X5_longShift : GoodIn wsX5_perform wsX5_longShift := goodIn_r _ [202, 203, 204, 205, 8, 191, 192, 193, 5, 194, 7, 9, 10, 11, 12, 13, 14, 181, 182, 183, 184, 29, 30, 31, 32, 33, 206, 207, 208, 94, 95, 96, 209, 210, 211, 213, 214, 215, 216, 217, 218, 212] (by decide +kernel) (by decide +kernel)
set_option maxRecDepth 20000 in
theorem gX5_perform_X5_longShift : GoodIn wsX5_perform (wsV RX5 67 RX5 yX5_longShift wsX5_longShift) := goodIn_app (goodIn_of _ (by decide +kernel)) ggX5_perform_X5_longShift
theorem dX5_perform_0 : decode cX5_perform 0 = .ok (.iload_n 1, 1) := by decide +kernel
theorem dX5_perform_1 : decode cX5_perform 1 = .ok (.sipush 1024, 3) := by decide +kernel
theorem dX5_perform_4 : decode cX5_perform 4 = .ok (.iand, 1) := by decide +kernel
theorem dX5_perform_5 : decode cX5_perform 5 = .ok (.ifCond .eq 7, 3) := by decide +kernel
theorem dX5_perform_8 : decode cX5_perform 8 = .ok (.iconst 1, 1) := by decide +kernel
theorem dX5_perform_9 : decode cX5_perform 9 = .ok (.goto 4, 3) := by decide +kernel
theorem dX5_perform_12 : decode cX5_perform 12 = .ok (.iconst 0, 1) := by decide +kernel
theorem dX5_perform_13 : decode cX5_perform 13 = .ok (.istore_n 3, 1) := by decide +kernel
theorem dX5_perform_14 : decode cX5_perform 14 = .ok (.iload_n 1, 1) := by decide +kernel
theorem dX5_perform_15 : decode cX5_perform 15 = .ok (.sipush 28672, 3) := by decide +kernel
theorem dX5_perform_18 : decode cX5_perform 18 = .ok (.iand, 1) := by decide +kernel
theorem dX5_perform_19 : decode cX5_perform 19 = .ok (.ifCond .eq 39, 3) := by decide +kernel
theorem dX5_perform_22 : decode cX5_perform 22 = .ok (.iload_n 3, 1) := by decide +kernel
theorem dX5_perform_23 : decode cX5_perform 23 = .ok (.ifCond .eq 7, 3) := by decide +kernel
theorem dX5_perform_26 : decode cX5_perform 26 = .ok (.iload_n 2, 1) := by decide +kernel
theorem dX5_perform_27 : decode cX5_perform 27 = .ok (.goto 4, 3) := by decide +kernel
theorem dX5_perform_30 : decode cX5_perform 30 = .ok (.iconst 0, 1) := by decide +kernel
theorem dX5_perform_31 : decode cX5_perform 31 = .ok (.iload_n 1, 1) := by decide +kernel
theorem dX5_perform_32 : decode cX5_perform 32 = .ok (.sipush 1023, 3) := by decide +kernel
theorem dX5_perform_35 : decode cX5_perform 35 = .ok (.iand, 1) := by decide +kernel
theorem dX5_perform_36 : decode cX5_perform 36 = .ok (.ior, 1) := by decide +kernel
theorem dX5_perform_37 : decode cX5_perform 37 = .ok (.istore 4, 2) := by decide +kernel
theorem dX5_perform_39 : decode cX5_perform 39 = .ok (.aload_n 0, 1) := by decide +kernel
theorem dX5_perform_40 : decode cX5_perform 40 = .ok (.iload_n 1, 1) := by decide +kernel
theorem dX5_perform_41 : decode cX5_perform 41 = .ok (.aload_n 0, 1) := by decide +kernel
theorem dX5_perform_42 : decode cX5_perform 42 = .ok (.iload_n 1, 1) := by decide +kernel
theorem dX5_perform_43 : decode cX5_perform 43 = .ok (.ldc 38, 2) := by decide +kernel
theorem dX5_perform_45 : decode cX5_perform 45 = .ok (.iand, 1) := by decide +kernel
theorem dX5_perform_46 : decode cX5_perform 46 = .ok (.iload 4, 2) := by decide +kernel
theorem dX5_perform_48 : decode cX5_perform 48 = .ok (.ior, 1) := by decide +kernel
theorem dX5_perform_49 : decode cX5_perform 49 = .ok (.invokevirtual 39, 3) := by decide +kernel
theorem dX5_perform_52 : decode cX5_perform 52 = .ok (.invokevirtual 42, 3) := by decide +kernel
theorem dX5_perform_55 : decode cX5_perform 55 = .ok (.goto 70, 3) := by decide +kernel
theorem dX5_perform_58 : decode cX5_perform 58 = .ok (.iload_n 1, 1) := by decide +kernel
theorem dX5_perform_59 : decode cX5_perform 59 = .ok (.ldc 38, 2) := by decide +kernel
theorem dX5_perform_61 : decode cX5_perform 61 = .ok (.iand, 1) := by decide +kernel
theorem dX5_perform_62 : decode cX5_perform 62 = .ok (.ifCond .ne 23, 3) := by decide +kernel
theorem dX5_perform_65 : decode cX5_perform 65 = .ok (.iload_n 3, 1) := by decide +kernel
theorem dX5_perform_66 : decode cX5_perform 66 = .ok (.ifCond .eq 11, 3) := by decide +kernel
theorem dX5_perform_69 : decode cX5_perform 69 = .ok (.aload_n 0, 1) := by decide +kernel
theorem dX5_perform_70 : decode cX5_perform 70 = .ok (.iload_n 1, 1) := by decide +kernel
theorem dX5_perform_71 : decode cX5_perform 71 = .ok (.invokevirtual 46, 3) := by decide +kernel
theorem dX5_perform_74 : decode cX5_perform 74 = .ok (.goto 51, 3) := by decide +kernel
theorem dX5_perform_77 : decode cX5_perform 77 = .ok (.aload_n 0, 1) := by decide +kernel
theorem dX5_perform_78 : decode cX5_perform 78 = .ok (.iload_n 1, 1) := by decide +kernel
theorem dX5_perform_79 : decode cX5_perform 79 = .ok (.invokevirtual 50, 3) := by decide +kernel
theorem dX5_perform_82 : decode cX5_perform 82 = .ok (.goto 43, 3) := by decide +kernel
theorem dX5_perform_85 : decode cX5_perform 85 = .ok (.iload_n 3, 1) := by decide +kernel
theorem dX5_perform_86 : decode cX5_perform 86 = .ok (.ifCond .eq 11, 3) := by decide +kernel
theorem dX5_perform_89 : decode cX5_perform 89 = .ok (.aload_n 0, 1) := by decide +kernel
theorem dX5_perform_90 : decode cX5_perform 90 = .ok (.iload_n 1, 1) := by decide +kernel
theorem dX5_perform_91 : decode cX5_perform 91 = .ok (.invokevirtual 53, 3) := by decide +kernel
theorem dX5_perform_94 : decode cX5_perform 94 = .ok (.goto 31, 3) := by decide +kernel
theorem dX5_perform_97 : decode cX5_perform 97 = .ok (.iload_n 1, 1) := by decide +kernel
theorem dX5_perform_98 : decode cX5_perform 98 = .ok (.invokestatic 56, 3) := by decide +kernel
theorem dX5_perform_101 : decode cX5_perform 101 = .ok (.ifCond .eq 19, 3) := by decide +kernel
theorem dX5_perform_104 : decode cX5_perform 104 = .ok (.aload_n 0, 1) := by decide +kernel
theorem dX5_perform_105 : decode cX5_perform 105 = .ok (.iload_n 1, 1) := by decide +kernel
theorem dX5_perform_106 : decode cX5_perform 106 = .ok (.aload_n 0, 1) := by decide +kernel
theorem dX5_perform_107 : decode cX5_perform 107 = .ok (.aload_n 0, 1) := by decide +kernel
theorem dX5_perform_108 : decode cX5_perform 108 = .ok (.invokevirtual 60, 3) := by decide +kernel
theorem dX5_perform_111 : decode cX5_perform 111 = .ok (.invokevirtual 39, 3) := by decide +kernel
theorem dX5_perform_114 : decode cX5_perform 114 = .ok (.invokevirtual 64, 3) := by decide +kernel
theorem dX5_perform_117 : decode cX5_perform 117 = .ok (.goto 8, 3) := by decide +kernel
theorem dX5_perform_120 : decode cX5_perform 120 = .ok (.aload_n 0, 1) := by decide +kernel
theorem dX5_perform_121 : decode cX5_perform 121 = .ok (.iload_n 1, 1) := by decide +kernel
theorem dX5_perform_122 : decode cX5_perform 122 = .ok (.invokevirtual 67, 3) := by decide +kernel
theorem dX5_perform_125 : decode cX5_perform 125 = .ok (.return_, 1) := by decide +kernel
set_option maxRecDepth 20000 in
theorem ggX5_resolve_X4_read : GoodIn wsX5_resolve wsX4_read := goodIn_r _ [8, 9, 20] (by decide +kernel) (by decide +kernel)
set_option maxRecDepth 20000 in
theorem gX5_resolve_X4_read : GoodIn wsX5_resolve (wsV RX5 29 RX4 yX4_read wsX4_read) := goodIn_app (goodIn_of _ (by decide +kernel)) ggX5_resolve_X4_read
set_option maxRecDepth 20000 in
theorem ggX5_resolve_X6_halt : GoodIn wsX5_resolve wsX6_halt := goodIn_r _ [14, 15, 16, 21, 22, 23, 24, 25, 26] (by decide +kernel) (by decide +kernel)
set_option maxRecDepth 20000 in
theorem gX5_resolve_X6_halt : GoodIn wsX5_resolve (wsV RX5 70 RX6 yX6_halt wsX6_halt) := goodIn_app (goodIn_of _ (by decide +kernel)) ggX5_resolve_X6_halt
theorem dX5_resolve_0 : decode cX5_resolve 0 = .ok (.iload_n 1, 1) := by decide +kernel
theorem dX5_resolve_1 : decode cX5_resolve 1 = .ok (.istore_n 2, 1) := by decide +kernel
theorem dX5_resolve_2 : decode cX5_resolve 2 = .ok (.iconst 0, 1) := by decide +kernel
theorem dX5_resolve_3 : decode cX5_resolve 3 = .ok (.istore_n 3, 1) := by decide +kernel
theorem dX5_resolve_4 : decode cX5_resolve 4 = .ok (.iload_n 3, 1) := by decide +kernel
theorem dX5_resolve_5 : decode cX5_resolve 5 = .ok (.bipush 32, 2) := by decide +kernel
theorem dX5_resolve_7 : decode cX5_resolve 7 = .ok (.if_icmp .ge 29, 3) := by decide +kernel
theorem dX5_resolve_10 : decode cX5_resolve 10 = .ok (.iload_n 2, 1) := by decide +kernel
theorem dX5_resolve_11 : decode cX5_resolve 11 = .ok (.ldc 38, 2) := by decide +kernel
theorem dX5_resolve_13 : decode cX5_resolve 13 = .ok (.iand, 1) := by decide +kernel
theorem dX5_resolve_14 : decode cX5_resolve 14 = .ok (.ifCond .eq 22, 3) := by decide +kernel
theorem dX5_resolve_17 : decode cX5_resolve 17 = .ok (.aload_n 0, 1) := by decide +kernel
theorem dX5_resolve_18 : decode cX5_resolve 18 = .ok (.getfield 9, 3) := by decide +kernel
theorem dX5_resolve_21 : decode cX5_resolve 21 = .ok (.iload_n 2, 1) := by decide +kernel
theorem dX5_resolve_22 : decode cX5_resolve 22 = .ok (.sipush 32767, 3) := by decide +kernel
theorem dX5_resolve_25 : decode cX5_resolve 25 = .ok (.iand, 1) := by decide +kernel
theorem dX5_resolve_26 : decode cX5_resolve 26 = .ok (.invokevirtual 29, 3) := by decide +kernel
theorem dX5_resolve_29 : decode cX5_resolve 29 = .ok (.istore_n 2, 1) := by decide +kernel
theorem dX5_resolve_30 : decode cX5_resolve 30 = .ok (.iinc 3 1, 3) := by decide +kernel
theorem dX5_resolve_33 : decode cX5_resolve 33 = .ok (.goto (-29), 3) := by decide +kernel
theorem dX5_resolve_36 : decode cX5_resolve 36 = .ok (.iload_n 2, 1) := by decide +kernel
theorem dX5_resolve_37 : decode cX5_resolve 37 = .ok (.ldc 38, 2) := by decide +kernel
theorem dX5_resolve_39 : decode cX5_resolve 39 = .ok (.iand, 1) := by decide +kernel
theorem dX5_resolve_40 : decode cX5_resolve 40 = .ok (.ifCond .eq 14, 3) := by decide +kernel
theorem dX5_resolve_43 : decode cX5_resolve 43 = .ok (.aload_n 0, 1) := by decide +kernel
theorem dX5_resolve_44 : decode cX5_resolve 44 = .ok (.getfield 15, 3) := by decide +kernel
theorem dX5_resolve_47 : decode cX5_resolve 47 = .ok (.bipush 64, 2) := by decide +kernel
theorem dX5_resolve_49 : decode cX5_resolve 49 = .ok (.invokevirtual 70, 3) := by decide +kernel
theorem dX5_resolve_52 : decode cX5_resolve 52 = .ok (.iconst (-1), 1) := by decide +kernel
theorem dX5_resolve_53 : decode cX5_resolve 53 = .ok (.ireturn, 1) := by decide +kernel
theorem dX5_resolve_54 : decode cX5_resolve 54 = .ok (.iload_n 2, 1) := by decide +kernel
theorem dX5_resolve_55 : decode cX5_resolve 55 = .ok (.ireturn, 1) := by decide +kernel
set_option maxRecDepth 20000 in
theorem ggX5_referToMemory_X5_registerOf : GoodIn wsX5_referToMemory wsX5_registerOf := goodIn_r _ [7] (by decide +kernel) (by decide +kernel)
set_option maxRecDepth 20000 in
theorem gX5_referToMemory_X5_registerOf : GoodIn wsX5_referToMemory (va_wsS RX5 73 yX5_registerOf wsX5_registerOf) := goodIn_app (goodIn_of _ (by decide +kernel)) ggX5_referToMemory_X5_registerOf
set_option maxRecDepth 20000 in
theorem ggX5_referToMemory_X4_read : GoodIn wsX5_referToMemory wsX4_read := goodIn_r _ [12, 13, 51] (by decide +kernel) (by decide +kernel)
set_option maxRecDepth 20000 in
theorem gX5_referToMemory_X4_read : GoodIn wsX5_referToMemory (wsV RX5 29 RX4 yX4_read wsX4_read) := goodIn_app (goodIn_of _ (by decide +kernel)) ggX5_referToMemory_X4_read
set_option maxRecDepth 20000 in
theorem ggX5_referToMemory_X4_write : GoodIn wsX5_referToMemory wsX4_write := goodIn_r _ [17, 13, 18, 51] (by decide +kernel) (by decide +kernel)
set_option maxRecDepth 20000 in
theorem gX5_referToMemory_X4_write : GoodIn wsX5_referToMemory (wsV RX5 76 RX4 yX4_write wsX4_write) := goodIn_app (goodIn_of _ (by decide +kernel)) ggX5_referToMemory_X4_write
set_option maxRecDepth 20000 in
theorem ggX5_referToMemory_X5_jump : GoodIn wsX5_referToMemory wsX5_jump := goodIn_r _ [22, 3, 42, 43, 44, 45, 46, 47, 48, 49, 50] (by decide +kernel) (by decide +kernel)
set_option maxRecDepth 20000 in
theorem gX5_referToMemory_X5_jump : GoodIn wsX5_referToMemory (wsV RX5 79 RX5 yX5_jump wsX5_jump) := goodIn_app (goodIn_of _ (by decide +kernel)) ggX5_referToMemory_X5_jump
set_option maxRecDepth 20000 in
theorem ggX5_referToMemory_X5_incrementAndSkip : GoodIn wsX5_referToMemory wsX5_incrementAndSkip := goodIn_r _ [26, 27, 2, 14, 15, 16, 11, 17, 13, 18, 28, 29, 30, 6, 31, 3, 32, 33, 34, 35, 36, 37, 42, 43, 44, 51, 45, 46, 47, 48, 49, 50] (by decide +kernel) (by decide +kernel)
set_option maxRecDepth 20000 in
theorem gX5_referToMemory_X5_incrementAndSkip : GoodIn wsX5_referToMemory (wsV RX5 83 RX5 yX5_incrementAndSkip wsX5_incrementAndSkip) := goodIn_app (goodIn_of _ (by decide +kernel)) ggX5_referToMemory_X5_incrementAndSkip
set_option maxRecDepth 20000 in
theorem ggX5_referToMemory_X5_add : GoodIn wsX5_referToMemory wsX5_add := goodIn_r _ [41, 2, 27, 3, 1, 8, 9, 10, 11, 12, 13, 14, 15, 16, 17, 18, 42, 43, 44, 45, 46, 47, 48, 49, 50, 51] (by decide +kernel) (by decide +kernel)
set_option maxRecDepth 20000 in
theorem gX5_referToMemory_X5_add : GoodIn wsX5_referToMemory (wsV RX5 86 RX5 yX5_add wsX5_add) := goodIn_app (goodIn_of _ (by decide +kernel)) ggX5_referToMemory_X5_add
set_option maxRecDepth 20000 in
theorem ggX5_referToMemory_X5_skipIf : GoodIn wsX5_referToMemory wsX5_skipIf := goodIn_r _ [31, 3, 32, 33, 34, 35, 36, 37, 42, 43, 44, 45, 46, 47, 48, 49, 50] (by decide +kernel) (by decide +kernel)
set_option maxRecDepth 20000 in
theorem gX5_referToMemory_X5_skipIf : GoodIn wsX5_referToMemory (wsV RX5 89 RX5 yX5_skipIf wsX5_skipIf) := goodIn_app (goodIn_of _ (by decide +kernel)) ggX5_referToMemory_X5_skipIf
theorem dX5_referToMemory_0 : decode cX5_referToMemory 0 = .ok (.iload_n 2, 1) := by decide +kernel
theorem dX5_referToMemory_1 : decode cX5_referToMemory 1 = .ok (.iconst (-1), 1) := by decide +kernel
theorem dX5_referToMemory_2 : decode cX5_referToMemory 2 = .ok (.if_icmp .ne 4, 3) := by decide +kernel
theorem dX5_referToMemory_5 : decode cX5_referToMemory 5 = .ok (.return_, 1) := by decide +kernel
theorem dX5_referToMemory_6 : decode cX5_referToMemory 6 = .ok (.iload_n 1, 1) := by decide +kernel
theorem dX5_referToMemory_7 : decode cX5_referToMemory 7 = .ok (.ldc 38, 2) := by decide +kernel
theorem dX5_referToMemory_9 : decode cX5_referToMemory 9 = .ok (.iand, 1) := by decide +kernel
theorem dX5_referToMemory_10 : decode cX5_referToMemory 10 = .ok (.ifCond .eq 7, 3) := by decide +kernel
theorem dX5_referToMemory_13 : decode cX5_referToMemory 13 = .ok (.iconst 1, 1) := by decide +kernel
theorem dX5_referToMemory_14 : decode cX5_referToMemory 14 = .ok (.goto 4, 3) := by decide +kernel
theorem dX5_referToMemory_17 : decode cX5_referToMemory 17 = .ok (.iconst 0, 1) := by decide +kernel
theorem dX5_referToMemory_18 : decode cX5_referToMemory 18 = .ok (.istore_n 3, 1) := by decide +kernel
theorem dX5_referToMemory_19 : decode cX5_referToMemory 19 = .ok (.iload_n 1, 1) := by decide +kernel
theorem dX5_referToMemory_20 : decode cX5_referToMemory 20 = .ok (.invokestatic 73, 3) := by decide +kernel
theorem dX5_referToMemory_23 : decode cX5_referToMemory 23 = .ok (.istore 4, 2) := by decide +kernel
theorem dX5_referToMemory_25 : decode cX5_referToMemory 25 = .ok (.aload_n 0, 1) := by decide +kernel
theorem dX5_referToMemory_26 : decode cX5_referToMemory 26 = .ok (.getfield 9, 3) := by decide +kernel
theorem dX5_referToMemory_29 : decode cX5_referToMemory 29 = .ok (.iload_n 2, 1) := by decide +kernel
theorem dX5_referToMemory_30 : decode cX5_referToMemory 30 = .ok (.invokevirtual 29, 3) := by decide +kernel
theorem dX5_referToMemory_33 : decode cX5_referToMemory 33 = .ok (.istore 5, 2) := by decide +kernel
theorem dX5_referToMemory_35 : decode cX5_referToMemory 35 = .ok (.iload_n 1, 1) := by decide +kernel
theorem dX5_referToMemory_36 : decode cX5_referToMemory 36 = .ok (.bipush 11, 2) := by decide +kernel
theorem dX5_referToMemory_38 : decode cX5_referToMemory 38 = .ok (.ishr, 1) := by decide +kernel
theorem dX5_referToMemory_39 : decode cX5_referToMemory 39 = .ok (.bipush 15, 2) := by decide +kernel
theorem dX5_referToMemory_41 : decode cX5_referToMemory 41 = .ok (.iand, 1) := by decide +kernel
theorem dX5_referToMemory_42 : decode cX5_referToMemory 42 = .ok (.tableswitch 252 2 15 #[70, 92, 118, 140, 149, 171, 181, 181, 192, 192, 218, 218, 232, 232], 70) := by decide +kernel
theorem dX5_referToMemory_112 : decode cX5_referToMemory 112 = .ok (.aload_n 0, 1) := by decide +kernel
theorem dX5_referToMemory_113 : decode cX5_referToMemory 113 = .ok (.getfield 9, 3) := by decide +kernel
theorem dX5_referToMemory_116 : decode cX5_referToMemory 116 = .ok (.iconst 0, 1) := by decide +kernel
theorem dX5_referToMemory_117 : decode cX5_referToMemory 117 = .ok (.aload_n 0, 1) := by decide +kernel
theorem dX5_referToMemory_118 : decode cX5_referToMemory 118 = .ok (.getfield 9, 3) := by decide +kernel
theorem dX5_referToMemory_121 : decode cX5_referToMemory 121 = .ok (.iconst 0, 1) := by decide +kernel
theorem dX5_referToMemory_122 : decode cX5_referToMemory 122 = .ok (.invokevirtual 29, 3) := by decide +kernel
theorem dX5_referToMemory_125 : decode cX5_referToMemory 125 = .ok (.iload 5, 2) := by decide +kernel
theorem dX5_referToMemory_127 : decode cX5_referToMemory 127 = .ok (.iand, 1) := by decide +kernel
theorem dX5_referToMemory_128 : decode cX5_referToMemory 128 = .ok (.invokevirtual 76, 3) := by decide +kernel
theorem dX5_referToMemory_131 : decode cX5_referToMemory 131 = .ok (.goto 163, 3) := by decide +kernel
theorem dX5_referToMemory_134 : decode cX5_referToMemory 134 = .ok (.aload_n 0, 1) := by decide +kernel
theorem dX5_referToMemory_135 : decode cX5_referToMemory 135 = .ok (.getfield 9, 3) := by decide +kernel
theorem dX5_referToMemory_138 : decode cX5_referToMemory 138 = .ok (.iload_n 2, 1) := by decide +kernel
theorem dX5_referToMemory_139 : decode cX5_referToMemory 139 = .ok (.aload_n 0, 1) := by decide +kernel
theorem dX5_referToMemory_140 : decode cX5_referToMemory 140 = .ok (.getfield 15, 3) := by decide +kernel
theorem dX5_referToMemory_143 : decode cX5_referToMemory 143 = .ok (.getfield 23, 3) := by decide +kernel
theorem dX5_referToMemory_146 : decode cX5_referToMemory 146 = .ok (.invokevirtual 76, 3) := by decide +kernel
theorem dX5_referToMemory_149 : decode cX5_referToMemory 149 = .ok (.aload_n 0, 1) := by decide +kernel
theorem dX5_referToMemory_150 : decode cX5_referToMemory 150 = .ok (.iload_n 2, 1) := by decide +kernel
theorem dX5_referToMemory_151 : decode cX5_referToMemory 151 = .ok (.iconst 1, 1) := by decide +kernel
theorem dX5_referToMemory_152 : decode cX5_referToMemory 152 = .ok (.iadd, 1) := by decide +kernel
theorem dX5_referToMemory_153 : decode cX5_referToMemory 153 = .ok (.iload_n 3, 1) := by decide +kernel
theorem dX5_referToMemory_154 : decode cX5_referToMemory 154 = .ok (.invokevirtual 79, 3) := by decide +kernel
theorem dX5_referToMemory_157 : decode cX5_referToMemory 157 = .ok (.goto 137, 3) := by decide +kernel
theorem dX5_referToMemory_160 : decode cX5_referToMemory 160 = .ok (.aload_n 0, 1) := by decide +kernel
theorem dX5_referToMemory_161 : decode cX5_referToMemory 161 = .ok (.getfield 9, 3) := by decide +kernel
theorem dX5_referToMemory_164 : decode cX5_referToMemory 164 = .ok (.iconst 0, 1) := by decide +kernel
theorem dX5_referToMemory_165 : decode cX5_referToMemory 165 = .ok (.aload_n 0, 1) := by decide +kernel
theorem dX5_referToMemory_166 : decode cX5_referToMemory 166 = .ok (.getfield 9, 3) := by decide +kernel
theorem dX5_referToMemory_169 : decode cX5_referToMemory 169 = .ok (.iconst 0, 1) := by decide +kernel
theorem dX5_referToMemory_170 : decode cX5_referToMemory 170 = .ok (.invokevirtual 29, 3) := by decide +kernel
theorem dX5_referToMemory_173 : decode cX5_referToMemory 173 = .ok (.iload 5, 2) := by decide +kernel
theorem dX5_referToMemory_175 : decode cX5_referToMemory 175 = .ok (.ixor, 1) := by decide +kernel
theorem dX5_referToMemory_176 : decode cX5_referToMemory 176 = .ok (.invokevirtual 76, 3) := by decide +kernel
theorem dX5_referToMemory_179 : decode cX5_referToMemory 179 = .ok (.goto 115, 3) := by decide +kernel
theorem dX5_referToMemory_182 : decode cX5_referToMemory 182 = .ok (.aload_n 0, 1) := by decide +kernel
theorem dX5_referToMemory_183 : decode cX5_referToMemory 183 = .ok (.iload_n 2, 1) := by decide +kernel
theorem dX5_referToMemory_184 : decode cX5_referToMemory 184 = .ok (.iload_n 3, 1) := by decide +kernel
theorem dX5_referToMemory_185 : decode cX5_referToMemory 185 = .ok (.invokevirtual 79, 3) := by decide +kernel
theorem dX5_referToMemory_188 : decode cX5_referToMemory 188 = .ok (.goto 106, 3) := by decide +kernel
theorem dX5_referToMemory_191 : decode cX5_referToMemory 191 = .ok (.aload_n 0, 1) := by decide +kernel
theorem dX5_referToMemory_192 : decode cX5_referToMemory 192 = .ok (.getfield 9, 3) := by decide +kernel
theorem dX5_referToMemory_195 : decode cX5_referToMemory 195 = .ok (.iconst 0, 1) := by decide +kernel
theorem dX5_referToMemory_196 : decode cX5_referToMemory 196 = .ok (.aload_n 0, 1) := by decide +kernel
theorem dX5_referToMemory_197 : decode cX5_referToMemory 197 = .ok (.getfield 9, 3) := by decide +kernel
theorem dX5_referToMemory_200 : decode cX5_referToMemory 200 = .ok (.iconst 0, 1) := by decide +kernel
theorem dX5_referToMemory_201 : decode cX5_referToMemory 201 = .ok (.invokevirtual 29, 3) := by decide +kernel
theorem dX5_referToMemory_204 : decode cX5_referToMemory 204 = .ok (.iload 5, 2) := by decide +kernel
theorem dX5_referToMemory_206 : decode cX5_referToMemory 206 = .ok (.ior, 1) := by decide +kernel
theorem dX5_referToMemory_207 : decode cX5_referToMemory 207 = .ok (.invokevirtual 76, 3) := by decide +kernel
theorem dX5_referToMemory_210 : decode cX5_referToMemory 210 = .ok (.goto 84, 3) := by decide +kernel
theorem dX5_referToMemory_213 : decode cX5_referToMemory 213 = .ok (.aload_n 0, 1) := by decide +kernel
theorem dX5_referToMemory_214 : decode cX5_referToMemory 214 = .ok (.iload_n 2, 1) := by decide +kernel
theorem dX5_referToMemory_215 : decode cX5_referToMemory 215 = .ok (.iload 5, 2) := by decide +kernel
theorem dX5_referToMemory_217 : decode cX5_referToMemory 217 = .ok (.invokevirtual 83, 3) := by decide +kernel
theorem dX5_referToMemory_220 : decode cX5_referToMemory 220 = .ok (.goto 74, 3) := by decide +kernel
theorem dX5_referToMemory_223 : decode cX5_referToMemory 223 = .ok (.aload_n 0, 1) := by decide +kernel
theorem dX5_referToMemory_224 : decode cX5_referToMemory 224 = .ok (.iload 4, 2) := by decide +kernel
theorem dX5_referToMemory_226 : decode cX5_referToMemory 226 = .ok (.iload 5, 2) := by decide +kernel
theorem dX5_referToMemory_228 : decode cX5_referToMemory 228 = .ok (.invokevirtual 86, 3) := by decide +kernel
theorem dX5_referToMemory_231 : decode cX5_referToMemory 231 = .ok (.goto 63, 3) := by decide +kernel
theorem dX5_referToMemory_234 : decode cX5_referToMemory 234 = .ok (.aload_n 0, 1) := by decide +kernel
theorem dX5_referToMemory_235 : decode cX5_referToMemory 235 = .ok (.aload_n 0, 1) := by decide +kernel
theorem dX5_referToMemory_236 : decode cX5_referToMemory 236 = .ok (.getfield 9, 3) := by decide +kernel
theorem dX5_referToMemory_239 : decode cX5_referToMemory 239 = .ok (.iload 4, 2) := by decide +kernel
theorem dX5_referToMemory_241 : decode cX5_referToMemory 241 = .ok (.invokevirtual 29, 3) := by decide +kernel
theorem dX5_referToMemory_244 : decode cX5_referToMemory 244 = .ok (.iload 5, 2) := by decide +kernel
theorem dX5_referToMemory_246 : decode cX5_referToMemory 246 = .ok (.if_icmp .eq 7, 3) := by decide +kernel
theorem dX5_referToMemory_249 : decode cX5_referToMemory 249 = .ok (.iconst 1, 1) := by decide +kernel
theorem dX5_referToMemory_250 : decode cX5_referToMemory 250 = .ok (.goto 4, 3) := by decide +kernel
theorem dX5_referToMemory_253 : decode cX5_referToMemory 253 = .ok (.iconst 0, 1) := by decide +kernel
theorem dX5_referToMemory_254 : decode cX5_referToMemory 254 = .ok (.invokevirtual 89, 3) := by decide +kernel
theorem dX5_referToMemory_257 : decode cX5_referToMemory 257 = .ok (.goto 37, 3) := by decide +kernel
theorem dX5_referToMemory_260 : decode cX5_referToMemory 260 = .ok (.aload_n 0, 1) := by decide +kernel
theorem dX5_referToMemory_261 : decode cX5_referToMemory 261 = .ok (.getfield 9, 3) := by decide +kernel
theorem dX5_referToMemory_264 : decode cX5_referToMemory 264 = .ok (.iload 4, 2) := by decide +kernel
theorem dX5_referToMemory_266 : decode cX5_referToMemory 266 = .ok (.iload 5, 2) := by decide +kernel
theorem dX5_referToMemory_268 : decode cX5_referToMemory 268 = .ok (.invokevirtual 76, 3) := by decide +kernel
theorem dX5_referToMemory_271 : decode cX5_referToMemory 271 = .ok (.goto 23, 3) := by decide +kernel
theorem dX5_referToMemory_274 : decode cX5_referToMemory 274 = .ok (.aload_n 0, 1) := by decide +kernel
theorem dX5_referToMemory_275 : decode cX5_referToMemory 275 = .ok (.getfield 9, 3) := by decide +kernel
theorem dX5_referToMemory_278 : decode cX5_referToMemory 278 = .ok (.iload_n 2, 1) := by decide +kernel
theorem dX5_referToMemory_279 : decode cX5_referToMemory 279 = .ok (.aload_n 0, 1) := by decide +kernel
theorem dX5_referToMemory_280 : decode cX5_referToMemory 280 = .ok (.getfield 9, 3) := by decide +kernel
theorem dX5_referToMemory_283 : decode cX5_referToMemory 283 = .ok (.iload 4, 2) := by decide +kernel
theorem dX5_referToMemory_285 : decode cX5_referToMemory 285 = .ok (.invokevirtual 29, 3) := by decide +kernel
theorem dX5_referToMemory_288 : decode cX5_referToMemory 288 = .ok (.invokevirtual 76, 3) := by decide +kernel
theorem dX5_referToMemory_291 : decode cX5_referToMemory 291 = .ok (.goto 3, 3) := by decide +kernel
theorem dX5_referToMemory_294 : decode cX5_referToMemory 294 = .ok (.return_, 1) := by decide +kernel
theorem dX5_registerOf_0 : decode cX5_registerOf 0 = .ok (.iload_n 0, 1) := by decide +kernel
theorem dX5_registerOf_1 : decode cX5_registerOf 1 = .ok (.sipush 2048, 3) := by decide +kernel
theorem dX5_registerOf_4 : decode cX5_registerOf 4 = .ok (.iand, 1) := by decide +kernel
theorem dX5_registerOf_5 : decode cX5_registerOf 5 = .ok (.ifCond .ne 7, 3) := by decide +kernel
theorem dX5_registerOf_8 : decode cX5_registerOf 8 = .ok (.iconst 0, 1) := by decide +kernel
theorem dX5_registerOf_9 : decode cX5_registerOf 9 = .ok (.goto 4, 3) := by decide +kernel
theorem dX5_registerOf_12 : decode cX5_registerOf 12 = .ok (.iconst 1, 1) := by decide +kernel
theorem dX5_registerOf_13 : decode cX5_registerOf 13 = .ok (.ireturn, 1) := by decide +kernel
set_option maxRecDepth 20000 in
theorem ggX5_skipIf_X6_stepOn : GoodIn wsX5_skipIf wsX6_stepOn := goodIn_r _ [6, 7, 11, 12, 13, 14, 15, 16] (by decide +kernel) (by decide +kernel)
set_option maxRecDepth 20000 in
theorem gX5_skipIf_X6_stepOn : GoodIn wsX5_skipIf (wsV RX5 35 RX6 yX6_stepOn wsX6_stepOn) := goodIn_app (goodIn_of _ (by decide +kernel)) ggX5_skipIf_X6_stepOn
theorem dX5_skipIf_0 : decode cX5_skipIf 0 = .ok (.iload_n 1, 1) := by decide +kernel
theorem dX5_skipIf_1 : decode cX5_skipIf 1 = .ok (.ifCond .eq 10, 3) := by decide +kernel
theorem dX5_skipIf_4 : decode cX5_skipIf 4 = .ok (.aload_n 0, 1) := by decide +kernel
theorem dX5_skipIf_5 : decode cX5_skipIf 5 = .ok (.getfield 15, 3) := by decide +kernel
theorem dX5_skipIf_8 : decode cX5_skipIf 8 = .ok (.invokevirtual 35, 3) := by decide +kernel
theorem dX5_skipIf_11 : decode cX5_skipIf 11 = .ok (.return_, 1) := by decide +kernel
theorem dX5_jump_0 : decode cX5_jump 0 = .ok (.aload_n 0, 1) := by decide +kernel
theorem dX5_jump_1 : decode cX5_jump 1 = .ok (.getfield 15, 3) := by decide +kernel
theorem dX5_jump_4 : decode cX5_jump 4 = .ok (.iload_n 1, 1) := by decide +kernel
theorem dX5_jump_5 : decode cX5_jump 5 = .ok (.sipush 32767, 3) := by decide +kernel
theorem dX5_jump_8 : decode cX5_jump 8 = .ok (.iand, 1) := by decide +kernel
theorem dX5_jump_9 : decode cX5_jump 9 = .ok (.putfield 23, 3) := by decide +kernel
theorem dX5_jump_12 : decode cX5_jump 12 = .ok (.aload_n 0, 1) := by decide +kernel
theorem dX5_jump_13 : decode cX5_jump 13 = .ok (.getfield 15, 3) := by decide +kernel
theorem dX5_jump_16 : decode cX5_jump 16 = .ok (.iload_n 2, 1) := by decide +kernel
theorem dX5_jump_17 : decode cX5_jump 17 = .ok (.putfield 93, 3) := by decide +kernel
theorem dX5_jump_20 : decode cX5_jump 20 = .ok (.return_, 1) := by decide +kernel
set_option maxRecDepth 20000 in
theorem ggX5_incrementAndSkip_X4_write : GoodIn wsX5_incrementAndSkip wsX4_write := goodIn_r _ [7, 8, 9, 25] (by decide +kernel) (by decide +kernel)
set_option maxRecDepth 20000 in
theorem gX5_incrementAndSkip_X4_write : GoodIn wsX5_incrementAndSkip (wsV RX5 76 RX4 yX4_write wsX4_write) := goodIn_app (goodIn_of _ (by decide +kernel)) ggX5_incrementAndSkip_X4_write
set_option maxRecDepth 20000 in
theorem ggX5_incrementAndSkip_X5_skipIf : GoodIn wsX5_incrementAndSkip wsX5_skipIf := goodIn_r _ [14, 15, 16, 17, 18, 19, 20, 21, 22, 23, 24, 26, 27, 28, 29, 30, 31] (by decide +kernel) (by decide +kernel)
set_option maxRecDepth 20000 in
theorem gX5_incrementAndSkip_X5_skipIf : GoodIn wsX5_incrementAndSkip (wsV RX5 89 RX5 yX5_skipIf wsX5_skipIf) := goodIn_app (goodIn_of _ (by decide +kernel)) ggX5_incrementAndSkip_X5_skipIf
theorem dX5_incrementAndSkip_0 : decode cX5_incrementAndSkip 0 = .ok (.iload_n 2, 1) := by decide +kernel
theorem dX5_incrementAndSkip_1 : decode cX5_incrementAndSkip 1 = .ok (.iconst 1, 1) := by decide +kernel
theorem dX5_incrementAndSkip_2 : decode cX5_incrementAndSkip 2 = .ok (.iadd, 1) := by decide +kernel
theorem dX5_incrementAndSkip_3 : decode cX5_incrementAndSkip 3 = .ok (.ldc 97, 2) := by decide +kernel
theorem dX5_incrementAndSkip_5 : decode cX5_incrementAndSkip 5 = .ok (.iand, 1) := by decide +kernel
theorem dX5_incrementAndSkip_6 : decode cX5_incrementAndSkip 6 = .ok (.istore_n 3, 1) := by decide +kernel
theorem dX5_incrementAndSkip_7 : decode cX5_incrementAndSkip 7 = .ok (.aload_n 0, 1) := by decide +kernel
theorem dX5_incrementAndSkip_8 : decode cX5_incrementAndSkip 8 = .ok (.getfield 9, 3) := by decide +kernel
theorem dX5_incrementAndSkip_11 : decode cX5_incrementAndSkip 11 = .ok (.iload_n 1, 1) := by decide +kernel
theorem dX5_incrementAndSkip_12 : decode cX5_incrementAndSkip 12 = .ok (.iload_n 3, 1) := by decide +kernel
theorem dX5_incrementAndSkip_13 : decode cX5_incrementAndSkip 13 = .ok (.invokevirtual 76, 3) := by decide +kernel
theorem dX5_incrementAndSkip_16 : decode cX5_incrementAndSkip 16 = .ok (.aload_n 0, 1) := by decide +kernel
theorem dX5_incrementAndSkip_17 : decode cX5_incrementAndSkip 17 = .ok (.iload_n 3, 1) := by decide +kernel
theorem dX5_incrementAndSkip_18 : decode cX5_incrementAndSkip 18 = .ok (.ifCond .ne 7, 3) := by decide +kernel
theorem dX5_incrementAndSkip_21 : decode cX5_incrementAndSkip 21 = .ok (.iconst 1, 1) := by decide +kernel
theorem dX5_incrementAndSkip_22 : decode cX5_incrementAndSkip 22 = .ok (.goto 4, 3) := by decide +kernel
theorem dX5_incrementAndSkip_25 : decode cX5_incrementAndSkip 25 = .ok (.iconst 0, 1) := by decide +kernel
theorem dX5_incrementAndSkip_26 : decode cX5_incrementAndSkip 26 = .ok (.invokevirtual 89, 3) := by decide +kernel
theorem dX5_incrementAndSkip_29 : decode cX5_incrementAndSkip 29 = .ok (.return_, 1) := by decide +kernel
set_option maxRecDepth 20000 in
theorem ggX5_add_X4_read : GoodIn wsX5_add wsX4_read := goodIn_r _ [9, 10, 25] (by decide +kernel) (by decide +kernel)
set_option maxRecDepth 20000 in
theorem gX5_add_X4_read : GoodIn wsX5_add (wsV RX5 29 RX4 yX4_read wsX4_read) := goodIn_app (goodIn_of _ (by decide +kernel)) ggX5_add_X4_read
set_option maxRecDepth 20000 in
theorem ggX5_add_X4_write : GoodIn wsX5_add wsX4_write := goodIn_r _ [14, 10, 15, 25] (by decide +kernel) (by decide +kernel)
set_option maxRecDepth 20000 in
theorem gX5_add_X4_write : GoodIn wsX5_add (wsV RX5 76 RX4 yX4_write wsX4_write) := goodIn_app (goodIn_of _ (by decide +kernel)) ggX5_add_X4_write
theorem dX5_add_0 : decode cX5_add 0 = .ok (.aload_n 0, 1) := by decide +kernel
theorem dX5_add_1 : decode cX5_add 1 = .ok (.getfield 9, 3) := by decide +kernel
theorem dX5_add_4 : decode cX5_add 4 = .ok (.iload_n 1, 1) := by decide +kernel
theorem dX5_add_5 : decode cX5_add 5 = .ok (.invokevirtual 29, 3) := by decide +kernel
theorem dX5_add_8 : decode cX5_add 8 = .ok (.istore_n 3, 1) := by decide +kernel
theorem dX5_add_9 : decode cX5_add 9 = .ok (.iload_n 3, 1) := by decide +kernel
theorem dX5_add_10 : decode cX5_add 10 = .ok (.iload_n 2, 1) := by decide +kernel
theorem dX5_add_11 : decode cX5_add 11 = .ok (.iadd, 1) := by decide +kernel
theorem dX5_add_12 : decode cX5_add 12 = .ok (.istore 4, 2) := by decide +kernel
theorem dX5_add_14 : decode cX5_add 14 = .ok (.aload_n 0, 1) := by decide +kernel
theorem dX5_add_15 : decode cX5_add 15 = .ok (.getfield 9, 3) := by decide +kernel
theorem dX5_add_18 : decode cX5_add 18 = .ok (.iload_n 1, 1) := by decide +kernel
theorem dX5_add_19 : decode cX5_add 19 = .ok (.iload 4, 2) := by decide +kernel
theorem dX5_add_21 : decode cX5_add 21 = .ok (.invokevirtual 76, 3) := by decide +kernel
theorem dX5_add_24 : decode cX5_add 24 = .ok (.iload 4, 2) := by decide +kernel
theorem dX5_add_26 : decode cX5_add 26 = .ok (.ldc 97, 2) := by decide +kernel
theorem dX5_add_28 : decode cX5_add 28 = .ok (.if_icmp .le 11, 3) := by decide +kernel
theorem dX5_add_31 : decode cX5_add 31 = .ok (.aload_n 0, 1) := by decide +kernel
theorem dX5_add_32 : decode cX5_add 32 = .ok (.getfield 15, 3) := by decide +kernel
theorem dX5_add_35 : decode cX5_add 35 = .ok (.iconst 1, 1) := by decide +kernel
theorem dX5_add_36 : decode cX5_add 36 = .ok (.putfield 98, 3) := by decide +kernel
theorem dX5_add_39 : decode cX5_add 39 = .ok (.iload_n 3, 1) := by decide +kernel
theorem dX5_add_40 : decode cX5_add 40 = .ok (.iload 4, 2) := by decide +kernel
theorem dX5_add_42 : decode cX5_add 42 = .ok (.ixor, 1) := by decide +kernel
theorem dX5_add_43 : decode cX5_add 43 = .ok (.iload_n 2, 1) := by decide +kernel
theorem dX5_add_44 : decode cX5_add 44 = .ok (.iload 4, 2) := by decide +kernel
theorem dX5_add_46 : decode cX5_add 46 = .ok (.ixor, 1) := by decide +kernel
theorem dX5_add_47 : decode cX5_add 47 = .ok (.iand, 1) := by decide +kernel
theorem dX5_add_48 : decode cX5_add 48 = .ok (.ldc 38, 2) := by decide +kernel
theorem dX5_add_50 : decode cX5_add 50 = .ok (.iand, 1) := by decide +kernel
theorem dX5_add_51 : decode cX5_add 51 = .ok (.ifCond .eq 11, 3) := by decide +kernel
theorem dX5_add_54 : decode cX5_add 54 = .ok (.aload_n 0, 1) := by decide +kernel
theorem dX5_add_55 : decode cX5_add 55 = .ok (.getfield 15, 3) := by decide +kernel
theorem dX5_add_58 : decode cX5_add 58 = .ok (.iconst 1, 1) := by decide +kernel
theorem dX5_add_59 : decode cX5_add 59 = .ok (.putfield 101, 3) := by decide +kernel
theorem dX5_add_62 : decode cX5_add 62 = .ok (.return_, 1) := by decide +kernel
set_option maxRecDepth 20000 in
theorem ggX5_shiftAndSkip_X5_registerOf : GoodIn wsX5_shiftAndSkip wsX5_registerOf := goodIn_r _ [6] (by decide +kernel) (by decide +kernel)
set_option maxRecDepth 20000 in
theorem gX5_shiftAndSkip_X5_registerOf : GoodIn wsX5_shiftAndSkip (va_wsS RX5 73 yX5_registerOf wsX5_registerOf) := goodIn_app (goodIn_of _ (by decide +kernel)) ggX5_shiftAndSkip_X5_registerOf
set_option maxRecDepth 20000 in
theorem ggX5_shiftAndSkip_X4_read : GoodIn wsX5_shiftAndSkip wsX4_read := goodIn_r _ [11, 12, 47] (by decide +kernel) (by decide +kernel)
set_option maxRecDepth 20000 in
theorem gX5_shiftAndSkip_X4_read : GoodIn wsX5_shiftAndSkip (wsV RX5 29 RX4 yX4_read wsX4_read) := goodIn_app (goodIn_of _ (by decide +kernel)) ggX5_shiftAndSkip_X4_read
set_option maxRecDepth 20000 in
theorem ggX5_shiftAndSkip_X5_shifted : GoodIn wsX5_shiftAndSkip wsX5_shifted := goodIn_r _ [16, 17, 18, 2, 19, 20, 21, 5, 22, 38, 39, 40, 41, 42, 43, 44, 45, 46] (by decide +kernel) (by decide +kernel)
set_option maxRecDepth 20000 in
theorem gX5_shiftAndSkip_X5_shifted : GoodIn wsX5_shiftAndSkip (wsV RX5 104 RX5 yX5_shifted wsX5_shifted) := goodIn_app (goodIn_of _ (by decide +kernel)) ggX5_shiftAndSkip_X5_shifted
set_option maxRecDepth 20000 in
theorem ggX5_shiftAndSkip_X4_write : GoodIn wsX5_shiftAndSkip wsX4_write := goodIn_r _ [26, 12, 27, 47] (by decide +kernel) (by decide +kernel)
set_option maxRecDepth 20000 in
theorem gX5_shiftAndSkip_X4_write : GoodIn wsX5_shiftAndSkip (wsV RX5 76 RX4 yX4_write wsX4_write) := goodIn_app (goodIn_of _ (by decide +kernel)) ggX5_shiftAndSkip_X4_write
set_option maxRecDepth 20000 in
theorem ggX5_shiftAndSkip_X5_skipIf : GoodIn wsX5_shiftAndSkip wsX5_skipIf := goodIn_r _ [31, 2, 32, 33, 34, 35, 36, 37, 38, 39, 40, 41, 42, 43, 44, 45, 46] (by decide +kernel) (by decide +kernel)
set_option maxRecDepth 20000 in
theorem gX5_shiftAndSkip_X5_skipIf : GoodIn wsX5_shiftAndSkip (wsV RX5 89 RX5 yX5_skipIf wsX5_skipIf) := goodIn_app (goodIn_of _ (by decide +kernel)) ggX5_shiftAndSkip_X5_skipIf
theorem dX5_shiftAndSkip_0 : decode cX5_shiftAndSkip 0 = .ok (.iload_n 1, 1) := by decide +kernel
theorem dX5_shiftAndSkip_1 : decode cX5_shiftAndSkip 1 = .ok (.invokestatic 73, 3) := by decide +kernel
theorem dX5_shiftAndSkip_4 : decode cX5_shiftAndSkip 4 = .ok (.istore_n 2, 1) := by decide +kernel
theorem dX5_shiftAndSkip_5 : decode cX5_shiftAndSkip 5 = .ok (.iload_n 1, 1) := by decide +kernel
theorem dX5_shiftAndSkip_6 : decode cX5_shiftAndSkip 6 = .ok (.sipush 512, 3) := by decide +kernel
theorem dX5_shiftAndSkip_9 : decode cX5_shiftAndSkip 9 = .ok (.iand, 1) := by decide +kernel
theorem dX5_shiftAndSkip_10 : decode cX5_shiftAndSkip 10 = .ok (.ifCond .eq 30, 3) := by decide +kernel
theorem dX5_shiftAndSkip_13 : decode cX5_shiftAndSkip 13 = .ok (.aload_n 0, 1) := by decide +kernel
theorem dX5_shiftAndSkip_14 : decode cX5_shiftAndSkip 14 = .ok (.getfield 9, 3) := by decide +kernel
theorem dX5_shiftAndSkip_17 : decode cX5_shiftAndSkip 17 = .ok (.iload_n 2, 1) := by decide +kernel
theorem dX5_shiftAndSkip_18 : decode cX5_shiftAndSkip 18 = .ok (.aload_n 0, 1) := by decide +kernel
theorem dX5_shiftAndSkip_19 : decode cX5_shiftAndSkip 19 = .ok (.aload_n 0, 1) := by decide +kernel
theorem dX5_shiftAndSkip_20 : decode cX5_shiftAndSkip 20 = .ok (.getfield 9, 3) := by decide +kernel
theorem dX5_shiftAndSkip_23 : decode cX5_shiftAndSkip 23 = .ok (.iload_n 2, 1) := by decide +kernel
theorem dX5_shiftAndSkip_24 : decode cX5_shiftAndSkip 24 = .ok (.invokevirtual 29, 3) := by decide +kernel
theorem dX5_shiftAndSkip_27 : decode cX5_shiftAndSkip 27 = .ok (.iload_n 1, 1) := by decide +kernel
theorem dX5_shiftAndSkip_28 : decode cX5_shiftAndSkip 28 = .ok (.bipush 6, 2) := by decide +kernel
theorem dX5_shiftAndSkip_30 : decode cX5_shiftAndSkip 30 = .ok (.ishr, 1) := by decide +kernel
theorem dX5_shiftAndSkip_31 : decode cX5_shiftAndSkip 31 = .ok (.bipush 7, 2) := by decide +kernel
theorem dX5_shiftAndSkip_33 : decode cX5_shiftAndSkip 33 = .ok (.iand, 1) := by decide +kernel
theorem dX5_shiftAndSkip_34 : decode cX5_shiftAndSkip 34 = .ok (.invokevirtual 104, 3) := by decide +kernel
theorem dX5_shiftAndSkip_37 : decode cX5_shiftAndSkip 37 = .ok (.invokevirtual 76, 3) := by decide +kernel
theorem dX5_shiftAndSkip_40 : decode cX5_shiftAndSkip 40 = .ok (.iload_n 1, 1) := by decide +kernel
theorem dX5_shiftAndSkip_41 : decode cX5_shiftAndSkip 41 = .ok (.bipush 32, 2) := by decide +kernel
theorem dX5_shiftAndSkip_43 : decode cX5_shiftAndSkip 43 = .ok (.iand, 1) := by decide +kernel
theorem dX5_shiftAndSkip_44 : decode cX5_shiftAndSkip 44 = .ok (.ifCond .eq 11, 3) := by decide +kernel
theorem dX5_shiftAndSkip_47 : decode cX5_shiftAndSkip 47 = .ok (.aload_n 0, 1) := by decide +kernel
theorem dX5_shiftAndSkip_48 : decode cX5_shiftAndSkip 48 = .ok (.getfield 15, 3) := by decide +kernel
theorem dX5_shiftAndSkip_51 : decode cX5_shiftAndSkip 51 = .ok (.iconst 0, 1) := by decide +kernel
theorem dX5_shiftAndSkip_52 : decode cX5_shiftAndSkip 52 = .ok (.putfield 98, 3) := by decide +kernel
theorem dX5_shiftAndSkip_55 : decode cX5_shiftAndSkip 55 = .ok (.aload_n 0, 1) := by decide +kernel
theorem dX5_shiftAndSkip_56 : decode cX5_shiftAndSkip 56 = .ok (.iload_n 1, 1) := by decide +kernel
theorem dX5_shiftAndSkip_57 : decode cX5_shiftAndSkip 57 = .ok (.bipush 8, 2) := by decide +kernel
theorem dX5_shiftAndSkip_59 : decode cX5_shiftAndSkip 59 = .ok (.iand, 1) := by decide +kernel
theorem dX5_shiftAndSkip_60 : decode cX5_shiftAndSkip 60 = .ok (.ifCond .eq 20, 3) := by decide +kernel
theorem dX5_shiftAndSkip_63 : decode cX5_shiftAndSkip 63 = .ok (.aload_n 0, 1) := by decide +kernel
theorem dX5_shiftAndSkip_64 : decode cX5_shiftAndSkip 64 = .ok (.getfield 9, 3) := by decide +kernel
theorem dX5_shiftAndSkip_67 : decode cX5_shiftAndSkip 67 = .ok (.iload_n 2, 1) := by decide +kernel
theorem dX5_shiftAndSkip_68 : decode cX5_shiftAndSkip 68 = .ok (.invokevirtual 29, 3) := by decide +kernel
theorem dX5_shiftAndSkip_71 : decode cX5_shiftAndSkip 71 = .ok (.iconst 1, 1) := by decide +kernel
theorem dX5_shiftAndSkip_72 : decode cX5_shiftAndSkip 72 = .ok (.iand, 1) := by decide +kernel
theorem dX5_shiftAndSkip_73 : decode cX5_shiftAndSkip 73 = .ok (.ifCond .ne 7, 3) := by decide +kernel
theorem dX5_shiftAndSkip_76 : decode cX5_shiftAndSkip 76 = .ok (.iconst 1, 1) := by decide +kernel
theorem dX5_shiftAndSkip_77 : decode cX5_shiftAndSkip 77 = .ok (.goto 4, 3) := by decide +kernel
theorem dX5_shiftAndSkip_80 : decode cX5_shiftAndSkip 80 = .ok (.iconst 0, 1) := by decide +kernel
theorem dX5_shiftAndSkip_81 : decode cX5_shiftAndSkip 81 = .ok (.invokevirtual 89, 3) := by decide +kernel
theorem dX5_shiftAndSkip_84 : decode cX5_shiftAndSkip 84 = .ok (.iload_n 1, 1) := by decide +kernel
theorem dX5_shiftAndSkip_85 : decode cX5_shiftAndSkip 85 = .ok (.bipush 16, 2) := by decide +kernel
theorem dX5_shiftAndSkip_87 : decode cX5_shiftAndSkip 87 = .ok (.iand, 1) := by decide +kernel
theorem dX5_shiftAndSkip_88 : decode cX5_shiftAndSkip 88 = .ok (.ifCond .eq 27, 3) := by decide +kernel
theorem dX5_shiftAndSkip_91 : decode cX5_shiftAndSkip 91 = .ok (.aload_n 0, 1) := by decide +kernel
theorem dX5_shiftAndSkip_92 : decode cX5_shiftAndSkip 92 = .ok (.getfield 9, 3) := by decide +kernel
theorem dX5_shiftAndSkip_95 : decode cX5_shiftAndSkip 95 = .ok (.iload_n 2, 1) := by decide +kernel
theorem dX5_shiftAndSkip_96 : decode cX5_shiftAndSkip 96 = .ok (.aload_n 0, 1) := by decide +kernel
theorem dX5_shiftAndSkip_97 : decode cX5_shiftAndSkip 97 = .ok (.aload_n 0, 1) := by decide +kernel
theorem dX5_shiftAndSkip_98 : decode cX5_shiftAndSkip 98 = .ok (.getfield 9, 3) := by decide +kernel
theorem dX5_shiftAndSkip_101 : decode cX5_shiftAndSkip 101 = .ok (.iload_n 2, 1) := by decide +kernel
theorem dX5_shiftAndSkip_102 : decode cX5_shiftAndSkip 102 = .ok (.invokevirtual 29, 3) := by decide +kernel
theorem dX5_shiftAndSkip_105 : decode cX5_shiftAndSkip 105 = .ok (.iload_n 1, 1) := by decide +kernel
theorem dX5_shiftAndSkip_106 : decode cX5_shiftAndSkip 106 = .ok (.bipush 7, 2) := by decide +kernel
theorem dX5_shiftAndSkip_108 : decode cX5_shiftAndSkip 108 = .ok (.iand, 1) := by decide +kernel
theorem dX5_shiftAndSkip_109 : decode cX5_shiftAndSkip 109 = .ok (.invokevirtual 104, 3) := by decide +kernel
theorem dX5_shiftAndSkip_112 : decode cX5_shiftAndSkip 112 = .ok (.invokevirtual 76, 3) := by decide +kernel
theorem dX5_shiftAndSkip_115 : decode cX5_shiftAndSkip 115 = .ok (.return_, 1) := by decide +kernel
set_option maxRecDepth 20000 in
theorem ggX5_shifted_X5_throughE : GoodIn wsX5_shifted wsX5_throughE := goodIn_r _ [8, 3, 9, 10, 11, 12, 13, 14, 15, 16, 17] (by decide +kernel) (by decide +kernel)
set_option maxRecDepth 20000 in
theorem gX5_shifted_X5_throughE : GoodIn wsX5_shifted (wsV RX5 108 RX5 yX5_throughE wsX5_throughE) := goodIn_app (goodIn_of _ (by decide +kernel)) ggX5_shifted_X5_throughE
theorem dX5_shifted_0 : decode cX5_shifted 0 = .ok (.iload_n 2, 1) := by decide +kernel
theorem dX5_shifted_1 : decode cX5_shifted 1 = .ok (.tableswitch 142 0 6 #[43, 56, 65, 77, 89, 97, 119], 43) := by decide +kernel
theorem dX5_shifted_44 : decode cX5_shifted 44 = .ok (.iload_n 1, 1) := by decide +kernel
theorem dX5_shifted_45 : decode cX5_shifted 45 = .ok (.ldc 38, 2) := by decide +kernel
theorem dX5_shifted_47 : decode cX5_shifted 47 = .ok (.iand, 1) := by decide +kernel
theorem dX5_shifted_48 : decode cX5_shifted 48 = .ok (.iload_n 1, 1) := by decide +kernel
theorem dX5_shifted_49 : decode cX5_shifted 49 = .ok (.iconst 1, 1) := by decide +kernel
theorem dX5_shifted_50 : decode cX5_shifted 50 = .ok (.ishl, 1) := by decide +kernel
theorem dX5_shifted_51 : decode cX5_shifted 51 = .ok (.sipush 32767, 3) := by decide +kernel
theorem dX5_shifted_54 : decode cX5_shifted 54 = .ok (.iand, 1) := by decide +kernel
theorem dX5_shifted_55 : decode cX5_shifted 55 = .ok (.ior, 1) := by decide +kernel
theorem dX5_shifted_56 : decode cX5_shifted 56 = .ok (.ireturn, 1) := by decide +kernel
theorem dX5_shifted_57 : decode cX5_shifted 57 = .ok (.iload_n 1, 1) := by decide +kernel
theorem dX5_shifted_58 : decode cX5_shifted 58 = .ok (.ldc 38, 2) := by decide +kernel
theorem dX5_shifted_60 : decode cX5_shifted 60 = .ok (.iand, 1) := by decide +kernel
theorem dX5_shifted_61 : decode cX5_shifted 61 = .ok (.iload_n 1, 1) := by decide +kernel
theorem dX5_shifted_62 : decode cX5_shifted 62 = .ok (.iconst 1, 1) := by decide +kernel
theorem dX5_shifted_63 : decode cX5_shifted 63 = .ok (.ishr, 1) := by decide +kernel
theorem dX5_shifted_64 : decode cX5_shifted 64 = .ok (.ior, 1) := by decide +kernel
theorem dX5_shifted_65 : decode cX5_shifted 65 = .ok (.ireturn, 1) := by decide +kernel
theorem dX5_shifted_66 : decode cX5_shifted 66 = .ok (.iload_n 1, 1) := by decide +kernel
theorem dX5_shifted_67 : decode cX5_shifted 67 = .ok (.iconst 1, 1) := by decide +kernel
theorem dX5_shifted_68 : decode cX5_shifted 68 = .ok (.ishl, 1) := by decide +kernel
theorem dX5_shifted_69 : decode cX5_shifted 69 = .ok (.iload_n 1, 1) := by decide +kernel
theorem dX5_shifted_70 : decode cX5_shifted 70 = .ok (.bipush 15, 2) := by decide +kernel
theorem dX5_shifted_72 : decode cX5_shifted 72 = .ok (.ishr, 1) := by decide +kernel
theorem dX5_shifted_73 : decode cX5_shifted 73 = .ok (.ior, 1) := by decide +kernel
theorem dX5_shifted_74 : decode cX5_shifted 74 = .ok (.ldc 97, 2) := by decide +kernel
theorem dX5_shifted_76 : decode cX5_shifted 76 = .ok (.iand, 1) := by decide +kernel
theorem dX5_shifted_77 : decode cX5_shifted 77 = .ok (.ireturn, 1) := by decide +kernel
theorem dX5_shifted_78 : decode cX5_shifted 78 = .ok (.iload_n 1, 1) := by decide +kernel
theorem dX5_shifted_79 : decode cX5_shifted 79 = .ok (.iconst 1, 1) := by decide +kernel
theorem dX5_shifted_80 : decode cX5_shifted 80 = .ok (.ishr, 1) := by decide +kernel
theorem dX5_shifted_81 : decode cX5_shifted 81 = .ok (.iload_n 1, 1) := by decide +kernel
theorem dX5_shifted_82 : decode cX5_shifted 82 = .ok (.bipush 15, 2) := by decide +kernel
theorem dX5_shifted_84 : decode cX5_shifted 84 = .ok (.ishl, 1) := by decide +kernel
