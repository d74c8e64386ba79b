set_option maxRecDepth 20000 in
theorem ggX0_init_X1_init : GoodIn wsX0_init wsX1_init := goodIn_r _ [16, 17, 2, 3, 18, 19, 20, 21, 22, 23, 24, 60, 61, 62, 42, 43, 44, 45, 46, 47, 48, 49] (by decide +kernel) (by decide +kernel)
set_option maxRecDepth 20000 in
theorem gX0_init_X1_init_n33 : GoodIn wsX0_init (wsX1_init) := ggX0_init_X1_init
set_option maxRecDepth 20000 in
theorem ggX0_init_X2_init : GoodIn wsX0_init wsX2_init := goodIn_r _ [26, 27, 2, 3, 28, 19, 20, 29, 30, 31, 32, 33, 34, 22, 23, 24, 60, 61, 62, 50, 51, 52, 53, 54, 55, 56, 57, 58, 59] (by decide +kernel) (by decide +kernel)
set_option maxRecDepth 20000 in
theorem gX0_init_X2_init_n38 : GoodIn wsX0_init (wsX2_init) := ggX0_init_X2_init
theorem dX0_init_0 : decode cX0_init 0 = .ok (.aload_n 0, 1) := by decide +kernel
theorem dX0_init_1 : decode cX0_init 1 = .ok (.invokespecial 3, 3) := by decide +kernel
theorem dX0_init_4 : decode cX0_init 4 = .ok (.aload_n 0, 1) := by decide +kernel
theorem dX0_init_5 : decode cX0_init 5 = .ok (.iconst 2, 1) := by decide +kernel
theorem dX0_init_6 : decode cX0_init 6 = .ok (.anewarray 9, 3) := by decide +kernel
theorem dX0_init_9 : decode cX0_init 9 = .ok (.putfield 11, 3) := by decide +kernel
theorem dX0_init_12 : decode cX0_init 12 = .ok (.aload_n 0, 1) := by decide +kernel
theorem dX0_init_13 : decode cX0_init 13 = .ok (.iconst 4, 1) := by decide +kernel
theorem dX0_init_14 : decode cX0_init 14 = .ok (.anewarray 17, 3) := by decide +kernel
theorem dX0_init_17 : decode cX0_init 17 = .ok (.putfield 19, 3) := by decide +kernel
theorem dX0_init_20 : decode cX0_init 20 = .ok (.aload_n 0, 1) := by decide +kernel
theorem dX0_init_21 : decode cX0_init 21 = .ok (.bipush 6, 2) := by decide +kernel
theorem dX0_init_23 : decode cX0_init 23 = .ok (.anewarray 23, 3) := by decide +kernel
theorem dX0_init_26 : decode cX0_init 26 = .ok (.putfield 25, 3) := by decide +kernel
theorem dX0_init_29 : decode cX0_init 29 = .ok (.aload_n 0, 1) := by decide +kernel
theorem dX0_init_30 : decode cX0_init 30 = .ok (.aload_n 1, 1) := by decide +kernel
theorem dX0_init_31 : decode cX0_init 31 = .ok (.putfield 29, 3) := by decide +kernel
theorem dX0_init_34 : decode cX0_init 34 = .ok (.iconst 0, 1) := by decide +kernel
theorem dX0_init_35 : decode cX0_init 35 = .ok (.istore_n 2, 1) := by decide +kernel
theorem dX0_init_36 : decode cX0_init 36 = .ok (.iload_n 2, 1) := by decide +kernel
theorem dX0_init_37 : decode cX0_init 37 = .ok (.iconst 2, 1) := by decide +kernel
theorem dX0_init_38 : decode cX0_init 38 = .ok (.if_icmp .ge 34, 3) := by decide +kernel
theorem dX0_init_41 : decode cX0_init 41 = .ok (.new 9, 3) := by decide +kernel
theorem dX0_init_44 : decode cX0_init 44 = .ok (.dup, 1) := by decide +kernel
theorem dX0_init_45 : decode cX0_init 45 = .ok (.invokespecial 33, 3) := by decide +kernel
theorem dX0_init_48 : decode cX0_init 48 = .ok (.astore_n 3, 1) := by decide +kernel
theorem dX0_init_49 : decode cX0_init 49 = .ok (.aload_n 0, 1) := by decide +kernel
theorem dX0_init_50 : decode cX0_init 50 = .ok (.getfield 11, 3) := by decide +kernel
theorem dX0_init_53 : decode cX0_init 53 = .ok (.iload_n 2, 1) := by decide +kernel
theorem dX0_init_54 : decode cX0_init 54 = .ok (.aload_n 3, 1) := by decide +kernel
theorem dX0_init_55 : decode cX0_init 55 = .ok (.aastore, 1) := by decide +kernel
theorem dX0_init_56 : decode cX0_init 56 = .ok (.aload_n 0, 1) := by decide +kernel
theorem dX0_init_57 : decode cX0_init 57 = .ok (.getfield 25, 3) := by decide +kernel
theorem dX0_init_60 : decode cX0_init 60 = .ok (.iload_n 2, 1) := by decide +kernel
theorem dX0_init_61 : decode cX0_init 61 = .ok (.aload_n 3, 1) := by decide +kernel
theorem dX0_init_62 : decode cX0_init 62 = .ok (.getfield 34, 3) := by decide +kernel
theorem dX0_init_65 : decode cX0_init 65 = .ok (.aastore, 1) := by decide +kernel
theorem dX0_init_66 : decode cX0_init 66 = .ok (.iinc 2 1, 3) := by decide +kernel
theorem dX0_init_69 : decode cX0_init 69 = .ok (.goto (-33), 3) := by decide +kernel
theorem dX0_init_72 : decode cX0_init 72 = .ok (.iconst 0, 1) := by decide +kernel
theorem dX0_init_73 : decode cX0_init 73 = .ok (.istore_n 2, 1) := by decide +kernel
theorem dX0_init_74 : decode cX0_init 74 = .ok (.iload_n 2, 1) := by decide +kernel
theorem dX0_init_75 : decode cX0_init 75 = .ok (.iconst 4, 1) := by decide +kernel
theorem dX0_init_76 : decode cX0_init 76 = .ok (.if_icmp .ge 36, 3) := by decide +kernel
theorem dX0_init_79 : decode cX0_init 79 = .ok (.new 17, 3) := by decide +kernel
theorem dX0_init_82 : decode cX0_init 82 = .ok (.dup, 1) := by decide +kernel
theorem dX0_init_83 : decode cX0_init 83 = .ok (.invokespecial 38, 3) := by decide +kernel
theorem dX0_init_86 : decode cX0_init 86 = .ok (.astore_n 3, 1) := by decide +kernel
theorem dX0_init_87 : decode cX0_init 87 = .ok (.aload_n 0, 1) := by decide +kernel
theorem dX0_init_88 : decode cX0_init 88 = .ok (.getfield 19, 3) := by decide +kernel
theorem dX0_init_91 : decode cX0_init 91 = .ok (.iload_n 2, 1) := by decide +kernel
theorem dX0_init_92 : decode cX0_init 92 = .ok (.aload_n 3, 1) := by decide +kernel
theorem dX0_init_93 : decode cX0_init 93 = .ok (.aastore, 1) := by decide +kernel
theorem dX0_init_94 : decode cX0_init 94 = .ok (.aload_n 0, 1) := by decide +kernel
theorem dX0_init_95 : decode cX0_init 95 = .ok (.getfield 25, 3) := by decide +kernel
theorem dX0_init_98 : decode cX0_init 98 = .ok (.iconst 2, 1) := by decide +kernel
theorem dX0_init_99 : decode cX0_init 99 = .ok (.iload_n 2, 1) := by decide +kernel
theorem dX0_init_100 : decode cX0_init 100 = .ok (.iadd, 1) := by decide +kernel
theorem dX0_init_101 : decode cX0_init 101 = .ok (.aload_n 3, 1) := by decide +kernel
theorem dX0_init_102 : decode cX0_init 102 = .ok (.getfield 39, 3) := by decide +kernel
theorem dX0_init_105 : decode cX0_init 105 = .ok (.aastore, 1) := by decide +kernel
theorem dX0_init_106 : decode cX0_init 106 = .ok (.iinc 2 1, 3) := by decide +kernel
theorem dX0_init_109 : decode cX0_init 109 = .ok (.goto (-35), 3) := by decide +kernel
theorem dX0_init_112 : decode cX0_init 112 = .ok (.return_, 1) := by decide +kernel
theorem dX0_channelAt_0 : decode cX0_channelAt 0 = .ok (.iload_n 1, 1) := by decide +kernel
theorem dX0_channelAt_1 : decode cX0_channelAt 1 = .ok (.ifCond .lt 21, 3) := by decide +kernel
theorem dX0_channelAt_4 : decode cX0_channelAt 4 = .ok (.iload_n 1, 1) := by decide +kernel
theorem dX0_channelAt_5 : decode cX0_channelAt 5 = .ok (.aload_n 0, 1) := by decide +kernel
theorem dX0_channelAt_6 : decode cX0_channelAt 6 = .ok (.getfield 11, 3) := by decide +kernel
theorem dX0_channelAt_9 : decode cX0_channelAt 9 = .ok (.arraylength, 1) := by decide +kernel
theorem dX0_channelAt_10 : decode cX0_channelAt 10 = .ok (.if_icmp .ge 12, 3) := by decide +kernel
theorem dX0_channelAt_13 : decode cX0_channelAt 13 = .ok (.aload_n 0, 1) := by decide +kernel
theorem dX0_channelAt_14 : decode cX0_channelAt 14 = .ok (.getfield 11, 3) := by decide +kernel
theorem dX0_channelAt_17 : decode cX0_channelAt 17 = .ok (.iload_n 1, 1) := by decide +kernel
theorem dX0_channelAt_18 : decode cX0_channelAt 18 = .ok (.aaload, 1) := by decide +kernel
theorem dX0_channelAt_19 : decode cX0_channelAt 19 = .ok (.goto 4, 3) := by decide +kernel
theorem dX0_channelAt_22 : decode cX0_channelAt 22 = .ok (.aconst_null, 1) := by decide +kernel
theorem dX0_channelAt_23 : decode cX0_channelAt 23 = .ok (.areturn, 1) := by decide +kernel
theorem dX0_deviceAt_0 : decode cX0_deviceAt 0 = .ok (.iload_n 1, 1) := by decide +kernel
theorem dX0_deviceAt_1 : decode cX0_deviceAt 1 = .ok (.ifCond .lt 21, 3) := by decide +kernel
theorem dX0_deviceAt_4 : decode cX0_deviceAt 4 = .ok (.iload_n 1, 1) := by decide +kernel
theorem dX0_deviceAt_5 : decode cX0_deviceAt 5 = .ok (.aload_n 0, 1) := by decide +kernel
theorem dX0_deviceAt_6 : decode cX0_deviceAt 6 = .ok (.getfield 19, 3) := by decide +kernel
theorem dX0_deviceAt_9 : decode cX0_deviceAt 9 = .ok (.arraylength, 1) := by decide +kernel
theorem dX0_deviceAt_10 : decode cX0_deviceAt 10 = .ok (.if_icmp .ge 12, 3) := by decide +kernel
theorem dX0_deviceAt_13 : decode cX0_deviceAt 13 = .ok (.aload_n 0, 1) := by decide +kernel
theorem dX0_deviceAt_14 : decode cX0_deviceAt 14 = .ok (.getfield 19, 3) := by decide +kernel
theorem dX0_deviceAt_17 : decode cX0_deviceAt 17 = .ok (.iload_n 1, 1) := by decide +kernel
theorem dX0_deviceAt_18 : decode cX0_deviceAt 18 = .ok (.aaload, 1) := by decide +kernel
theorem dX0_deviceAt_19 : decode cX0_deviceAt 19 = .ok (.goto 4, 3) := by decide +kernel
theorem dX0_deviceAt_22 : decode cX0_deviceAt 22 = .ok (.aconst_null, 1) := by decide +kernel
theorem dX0_deviceAt_23 : decode cX0_deviceAt 23 = .ok (.areturn, 1) := by decide +kernel
theorem dX0_lineOf_0 : decode cX0_lineOf 0 = .ok (.iload_n 1, 1) := by decide +kernel
theorem dX0_lineOf_1 : decode cX0_lineOf 1 = .ok (.bipush 6, 2) := by decide +kernel
theorem dX0_lineOf_3 : decode cX0_lineOf 3 = .ok (.isub, 1) := by decide +kernel
theorem dX0_lineOf_4 : decode cX0_lineOf 4 = .ok (.istore_n 2, 1) := by decide +kernel
theorem dX0_lineOf_5 : decode cX0_lineOf 5 = .ok (.iload_n 2, 1) := by decide +kernel
theorem dX0_lineOf_6 : decode cX0_lineOf 6 = .ok (.ifCond .lt 21, 3) := by decide +kernel
theorem dX0_lineOf_9 : decode cX0_lineOf 9 = .ok (.iload_n 2, 1) := by decide +kernel
theorem dX0_lineOf_10 : decode cX0_lineOf 10 = .ok (.aload_n 0, 1) := by decide +kernel
theorem dX0_lineOf_11 : decode cX0_lineOf 11 = .ok (.getfield 25, 3) := by decide +kernel
theorem dX0_lineOf_14 : decode cX0_lineOf 14 = .ok (.arraylength, 1) := by decide +kernel
theorem dX0_lineOf_15 : decode cX0_lineOf 15 = .ok (.if_icmp .ge 12, 3) := by decide +kernel
theorem dX0_lineOf_18 : decode cX0_lineOf 18 = .ok (.aload_n 0, 1) := by decide +kernel
theorem dX0_lineOf_19 : decode cX0_lineOf 19 = .ok (.getfield 25, 3) := by decide +kernel
theorem dX0_lineOf_22 : decode cX0_lineOf 22 = .ok (.iload_n 2, 1) := by decide +kernel
theorem dX0_lineOf_23 : decode cX0_lineOf 23 = .ok (.aaload, 1) := by decide +kernel
theorem dX0_lineOf_24 : decode cX0_lineOf 24 = .ok (.goto 4, 3) := by decide +kernel
theorem dX0_lineOf_27 : decode cX0_lineOf 27 = .ok (.aconst_null, 1) := by decide +kernel
theorem dX0_lineOf_28 : decode cX0_lineOf 28 = .ok (.areturn, 1) := by decide +kernel
set_option maxRecDepth 20000 in
theorem ggX0_advanceDevices_X0_deviceAt : GoodIn wsX0_advanceDevices wsX0_deviceAt := goodIn_r _ [5, 6, 36, 37, 38, 39, 40, 41, 42] (by decide +kernel) (by decide +kernel)
set_option maxRecDepth 20000 in
theorem gX0_advanceDevices_X0_deviceAt : GoodIn wsX0_advanceDevices (wsV RX0 40 RX0 yX0_deviceAt wsX0_deviceAt) := goodIn_app (goodIn_of _ (by decide +kernel)) ggX0_advanceDevices_X0_deviceAt
set_option maxRecDepth 20000 in
theorem ggX0_advanceDevices_X2_advance : GoodIn wsX0_advanceDevices wsX2_advance := goodIn_r _ [11, 12, 13, 14, 15, 16, 17, 18, 10, 19, 20, 21, 22, 23, 24, 25, 26, 27, 28, 29, 30, 31, 32, 33, 34, 35, 43, 44, 45, 46, 47, 48, 49, 50, 51, 52, 53, 54, 55] (by decide +kernel) (by decide +kernel)
set_option maxRecDepth 20000 in
theorem gX0_advanceDevices_X2_advance : GoodIn wsX0_advanceDevices (wsV RX0 44 RX2 yX2_advance wsX2_advance) := goodIn_app (goodIn_of _ (by decide +kernel)) ggX0_advanceDevices_X2_advance
theorem dX0_advanceDevices_0 : decode cX0_advanceDevices 0 = .ok (.iconst 0, 1) := by decide +kernel
theorem dX0_advanceDevices_1 : decode cX0_advanceDevices 1 = .ok (.istore_n 1, 1) := by decide +kernel
theorem dX0_advanceDevices_2 : decode cX0_advanceDevices 2 = .ok (.iload_n 1, 1) := by decide +kernel
theorem dX0_advanceDevices_3 : decode cX0_advanceDevices 3 = .ok (.iconst 4, 1) := by decide +kernel
theorem dX0_advanceDevices_4 : decode cX0_advanceDevices 4 = .ok (.if_icmp .ge 23, 3) := by decide +kernel
theorem dX0_advanceDevices_7 : decode cX0_advanceDevices 7 = .ok (.aload_n 0, 1) := by decide +kernel
theorem dX0_advanceDevices_8 : decode cX0_advanceDevices 8 = .ok (.iload_n 1, 1) := by decide +kernel
theorem dX0_advanceDevices_9 : decode cX0_advanceDevices 9 = .ok (.invokevirtual 40, 3) := by decide +kernel
theorem dX0_advanceDevices_12 : decode cX0_advanceDevices 12 = .ok (.astore_n 2, 1) := by decide +kernel
theorem dX0_advanceDevices_13 : decode cX0_advanceDevices 13 = .ok (.aload_n 2, 1) := by decide +kernel
theorem dX0_advanceDevices_14 : decode cX0_advanceDevices 14 = .ok (.ifnull 7, 3) := by decide +kernel
theorem dX0_advanceDevices_17 : decode cX0_advanceDevices 17 = .ok (.aload_n 2, 1) := by decide +kernel
theorem dX0_advanceDevices_18 : decode cX0_advanceDevices 18 = .ok (.invokevirtual 44, 3) := by decide +kernel
theorem dX0_advanceDevices_21 : decode cX0_advanceDevices 21 = .ok (.iinc 1 1, 3) := by decide +kernel
theorem dX0_advanceDevices_24 : decode cX0_advanceDevices 24 = .ok (.goto (-22), 3) := by decide +kernel
theorem dX0_advanceDevices_27 : decode cX0_advanceDevices 27 = .ok (.return_, 1) := by decide +kernel
set_option maxRecDepth 20000 in
theorem ggX0_advanceChannels_X0_channelAt : GoodIn wsX0_advanceChannels wsX0_channelAt := goodIn_r _ [5, 6, 76, 77, 78, 79, 80, 81, 82] (by decide +kernel) (by decide +kernel)
set_option maxRecDepth 20000 in
theorem gX0_advanceChannels_X0_channelAt : GoodIn wsX0_advanceChannels (wsV RX0 47 RX0 yX0_channelAt wsX0_channelAt) := goodIn_app (goodIn_of _ (by decide +kernel)) ggX0_advanceChannels_X0_channelAt
set_option maxRecDepth 20000 in
theorem ggX0_advanceChannels_X0_deviceAt : GoodIn wsX0_advanceChannels wsX0_deviceAt := goodIn_r _ [10, 11, 76, 77, 78, 79, 80, 81, 82] (by decide +kernel) (by decide +kernel)
set_option maxRecDepth 20000 in
theorem gX0_advanceChannels_X0_deviceAt : GoodIn wsX0_advanceChannels (wsV RX0 40 RX0 yX0_deviceAt wsX0_deviceAt) := goodIn_app (goodIn_of _ (by decide +kernel)) ggX0_advanceChannels_X0_deviceAt
set_option maxRecDepth 20000 in
theorem ggX0_advanceChannels_X1_move : GoodIn wsX0_advanceChannels wsX1_move := goodIn_r _ [16, 17, 18, 19, 20, 21, 22, 23, 24, 25, 26, 27, 28, 29, 30, 31, 32, 33, 34, 35, 36, 37, 38, 39, 40, 41, 42, 43, 44, 15, 45, 46, 47, 48, 49, 50, 51, 52, 53, 54, 55, 56, 57, 58, 59, 60, 61, 62, 63, 64, 65, 66, 67, 68, 69, 70, 71, 72, 73, 74, 75, 83] (by decide +kernel) (by decide +kernel)
set_option maxRecDepth 20000 in
theorem gX0_advanceChannels_X1_move : GoodIn wsX0_advanceChannels (wsV RX0 62 RX1 yX1_move wsX1_move) := goodIn_app (goodIn_of _ (by decide +kernel)) ggX0_advanceChannels_X1_move
theorem dX0_advanceChannels_0 : decode cX0_advanceChannels 0 = .ok (.iconst 0, 1) := by decide +kernel
theorem dX0_advanceChannels_1 : decode cX0_advanceChannels 1 = .ok (.istore_n 2, 1) := by decide +kernel
theorem dX0_advanceChannels_2 : decode cX0_advanceChannels 2 = .ok (.iload_n 2, 1) := by decide +kernel
theorem dX0_advanceChannels_3 : decode cX0_advanceChannels 3 = .ok (.iconst 2, 1) := by decide +kernel
theorem dX0_advanceChannels_4 : decode cX0_advanceChannels 4 = .ok (.if_icmp .ge 65, 3) := by decide +kernel
theorem dX0_advanceChannels_7 : decode cX0_advanceChannels 7 = .ok (.aload_n 0, 1) := by decide +kernel
theorem dX0_advanceChannels_8 : decode cX0_advanceChannels 8 = .ok (.iload_n 2, 1) := by decide +kernel
theorem dX0_advanceChannels_9 : decode cX0_advanceChannels 9 = .ok (.invokevirtual 47, 3) := by decide +kernel
theorem dX0_advanceChannels_12 : decode cX0_advanceChannels 12 = .ok (.astore_n 3, 1) := by decide +kernel
theorem dX0_advanceChannels_13 : decode cX0_advanceChannels 13 = .ok (.aload_n 3, 1) := by decide +kernel
theorem dX0_advanceChannels_14 : decode cX0_advanceChannels 14 = .ok (.ifnull 49, 3) := by decide +kernel
theorem dX0_advanceChannels_17 : decode cX0_advanceChannels 17 = .ok (.aload_n 3, 1) := by decide +kernel
theorem dX0_advanceChannels_18 : decode cX0_advanceChannels 18 = .ok (.getfield 51, 3) := by decide +kernel
theorem dX0_advanceChannels_21 : decode cX0_advanceChannels 21 = .ok (.ifCond .eq 42, 3) := by decide +kernel
theorem dX0_advanceChannels_24 : decode cX0_advanceChannels 24 = .ok (.aload_n 0, 1) := by decide +kernel
theorem dX0_advanceChannels_25 : decode cX0_advanceChannels 25 = .ok (.aload_n 3, 1) := by decide +kernel
theorem dX0_advanceChannels_26 : decode cX0_advanceChannels 26 = .ok (.getfield 55, 3) := by decide +kernel
theorem dX0_advanceChannels_29 : decode cX0_advanceChannels 29 = .ok (.bipush 63, 2) := by decide +kernel
theorem dX0_advanceChannels_31 : decode cX0_advanceChannels 31 = .ok (.iand, 1) := by decide +kernel
theorem dX0_advanceChannels_32 : decode cX0_advanceChannels 32 = .ok (.bipush 8, 2) := by decide +kernel
theorem dX0_advanceChannels_34 : decode cX0_advanceChannels 34 = .ok (.isub, 1) := by decide +kernel
theorem dX0_advanceChannels_35 : decode cX0_advanceChannels 35 = .ok (.invokevirtual 40, 3) := by decide +kernel
theorem dX0_advanceChannels_38 : decode cX0_advanceChannels 38 = .ok (.astore 4, 2) := by decide +kernel
theorem dX0_advanceChannels_40 : decode cX0_advanceChannels 40 = .ok (.aload 4, 2) := by decide +kernel
theorem dX0_advanceChannels_42 : decode cX0_advanceChannels 42 = .ok (.ifnull 21, 3) := by decide +kernel
theorem dX0_advanceChannels_45 : decode cX0_advanceChannels 45 = .ok (.aload 4, 2) := by decide +kernel
theorem dX0_advanceChannels_47 : decode cX0_advanceChannels 47 = .ok (.getfield 39, 3) := by decide +kernel
theorem dX0_advanceChannels_50 : decode cX0_advanceChannels 50 = .ok (.getfield 59, 3) := by decide +kernel
theorem dX0_advanceChannels_53 : decode cX0_advanceChannels 53 = .ok (.ifCond .eq 10, 3) := by decide +kernel
theorem dX0_advanceChannels_56 : decode cX0_advanceChannels 56 = .ok (.aload_n 3, 1) := by decide +kernel
theorem dX0_advanceChannels_57 : decode cX0_advanceChannels 57 = .ok (.aload 4, 2) := by decide +kernel
theorem dX0_advanceChannels_59 : decode cX0_advanceChannels 59 = .ok (.aload_n 1, 1) := by decide +kernel
theorem dX0_advanceChannels_60 : decode cX0_advanceChannels 60 = .ok (.invokevirtual 62, 3) := by decide +kernel
theorem dX0_advanceChannels_63 : decode cX0_advanceChannels 63 = .ok (.iinc 2 1, 3) := by decide +kernel
theorem dX0_advanceChannels_66 : decode cX0_advanceChannels 66 = .ok (.goto (-64), 3) := by decide +kernel
theorem dX0_advanceChannels_69 : decode cX0_advanceChannels 69 = .ok (.return_, 1) := by decide +kernel
set_option maxRecDepth 20000 in
theorem ggX0_takeInterrupt_X0_lineOf : GoodIn wsX0_takeInterrupt wsX0_lineOf := goodIn_r _ [5, 6, 10, 11, 12, 13, 14, 15, 16] (by decide +kernel) (by decide +kernel)
set_option maxRecDepth 20000 in
theorem gX0_takeInterrupt_X0_lineOf : GoodIn wsX0_takeInterrupt (wsV RX0 66 RX0 yX0_lineOf wsX0_lineOf) := goodIn_app (goodIn_of _ (by decide +kernel)) ggX0_takeInterrupt_X0_lineOf
theorem dX0_takeInterrupt_0 : decode cX0_takeInterrupt 0 = .ok (.bipush 6, 2) := by decide +kernel
theorem dX0_takeInterrupt_2 : decode cX0_takeInterrupt 2 = .ok (.istore_n 1, 1) := by decide +kernel
theorem dX0_takeInterrupt_3 : decode cX0_takeInterrupt 3 = .ok (.iload_n 1, 1) := by decide +kernel
theorem dX0_takeInterrupt_4 : decode cX0_takeInterrupt 4 = .ok (.bipush 11, 2) := by decide +kernel
theorem dX0_takeInterrupt_6 : decode cX0_takeInterrupt 6 = .ok (.if_icmp .gt 53, 3) := by decide +kernel
theorem dX0_takeInterrupt_9 : decode cX0_takeInterrupt 9 = .ok (.aload_n 0, 1) := by decide +kernel
theorem dX0_takeInterrupt_10 : decode cX0_takeInterrupt 10 = .ok (.iload_n 1, 1) := by decide +kernel
theorem dX0_takeInterrupt_11 : decode cX0_takeInterrupt 11 = .ok (.invokevirtual 66, 3) := by decide +kernel
theorem dX0_takeInterrupt_14 : decode cX0_takeInterrupt 14 = .ok (.astore_n 2, 1) := by decide +kernel
theorem dX0_takeInterrupt_15 : decode cX0_takeInterrupt 15 = .ok (.aload_n 2, 1) := by decide +kernel
theorem dX0_takeInterrupt_16 : decode cX0_takeInterrupt 16 = .ok (.ifnull 37, 3) := by decide +kernel
theorem dX0_takeInterrupt_19 : decode cX0_takeInterrupt 19 = .ok (.aload_n 2, 1) := by decide +kernel
theorem dX0_takeInterrupt_20 : decode cX0_takeInterrupt 20 = .ok (.getfield 70, 3) := by decide +kernel
theorem dX0_takeInterrupt_23 : decode cX0_takeInterrupt 23 = .ok (.ifCond .eq 30, 3) := by decide +kernel
theorem dX0_takeInterrupt_26 : decode cX0_takeInterrupt 26 = .ok (.aload_n 2, 1) := by decide +kernel
theorem dX0_takeInterrupt_27 : decode cX0_takeInterrupt 27 = .ok (.getfield 59, 3) := by decide +kernel
theorem dX0_takeInterrupt_30 : decode cX0_takeInterrupt 30 = .ok (.ifCond .eq 23, 3) := by decide +kernel
theorem dX0_takeInterrupt_33 : decode cX0_takeInterrupt 33 = .ok (.aload_n 2, 1) := by decide +kernel
theorem dX0_takeInterrupt_34 : decode cX0_takeInterrupt 34 = .ok (.getfield 73, 3) := by decide +kernel
theorem dX0_takeInterrupt_37 : decode cX0_takeInterrupt 37 = .ok (.istore_n 3, 1) := by decide +kernel
theorem dX0_takeInterrupt_38 : decode cX0_takeInterrupt 38 = .ok (.aload_n 2, 1) := by decide +kernel
theorem dX0_takeInterrupt_39 : decode cX0_takeInterrupt 39 = .ok (.iconst 0, 1) := by decide +kernel
theorem dX0_takeInterrupt_40 : decode cX0_takeInterrupt 40 = .ok (.putfield 73, 3) := by decide +kernel
theorem dX0_takeInterrupt_43 : decode cX0_takeInterrupt 43 = .ok (.iload_n 3, 1) := by decide +kernel
theorem dX0_takeInterrupt_44 : decode cX0_takeInterrupt 44 = .ok (.ifCond .eq 7, 3) := by decide +kernel
theorem dX0_takeInterrupt_47 : decode cX0_takeInterrupt 47 = .ok (.iload_n 1, 1) := by decide +kernel
theorem dX0_takeInterrupt_48 : decode cX0_takeInterrupt 48 = .ok (.goto 4, 3) := by decide +kernel
theorem dX0_takeInterrupt_51 : decode cX0_takeInterrupt 51 = .ok (.iconst (-1), 1) := by decide +kernel
theorem dX0_takeInterrupt_52 : decode cX0_takeInterrupt 52 = .ok (.ireturn, 1) := by decide +kernel
theorem dX0_takeInterrupt_53 : decode cX0_takeInterrupt 53 = .ok (.iinc 1 1, 3) := by decide +kernel
theorem dX0_takeInterrupt_56 : decode cX0_takeInterrupt 56 = .ok (.goto (-53), 3) := by decide +kernel
theorem dX0_takeInterrupt_59 : decode cX0_takeInterrupt 59 = .ok (.iconst (-1), 1) := by decide +kernel
theorem dX0_takeInterrupt_60 : decode cX0_takeInterrupt 60 = .ok (.ireturn, 1) := by decide +kernel
set_option maxRecDepth 20000 in
theorem ggX0_flagOf_X0_lineOf : GoodIn wsX0_flagOf wsX0_lineOf := goodIn_r _ [7, 8, 9, 10, 11, 12, 13, 14, 15] (by decide +kernel) (by decide +kernel)
set_option maxRecDepth 20000 in
theorem gX0_flagOf_X0_lineOf : GoodIn wsX0_flagOf (wsV RX0 66 RX0 yX0_lineOf wsX0_lineOf) := goodIn_app (goodIn_of _ (by decide +kernel)) ggX0_flagOf_X0_lineOf
theorem dX0_flagOf_0 : decode cX0_flagOf 0 = .ok (.iload_n 1, 1) := by decide +kernel
theorem dX0_flagOf_1 : decode cX0_flagOf 1 = .ok (.ifCond .ne 8, 3) := by decide +kernel
theorem dX0_flagOf_4 : decode cX0_flagOf 4 = .ok (.aload_n 0, 1) := by decide +kernel
theorem dX0_flagOf_5 : decode cX0_flagOf 5 = .ok (.getfield 76, 3) := by decide +kernel
theorem dX0_flagOf_8 : decode cX0_flagOf 8 = .ok (.ireturn, 1) := by decide +kernel
theorem dX0_flagOf_9 : decode cX0_flagOf 9 = .ok (.iload_n 1, 1) := by decide +kernel
theorem dX0_flagOf_10 : decode cX0_flagOf 10 = .ok (.iconst 1, 1) := by decide +kernel
theorem dX0_flagOf_11 : decode cX0_flagOf 11 = .ok (.if_icmp .ne 19, 3) := by decide +kernel
theorem dX0_flagOf_14 : decode cX0_flagOf 14 = .ok (.aload_n 0, 1) := by decide +kernel
theorem dX0_flagOf_15 : decode cX0_flagOf 15 = .ok (.getfield 29, 3) := by decide +kernel
theorem dX0_flagOf_18 : decode cX0_flagOf 18 = .ok (.getfield 79, 3) := by decide +kernel
theorem dX0_flagOf_21 : decode cX0_flagOf 21 = .ok (.ifCond .eq 7, 3) := by decide +kernel
theorem dX0_flagOf_24 : decode cX0_flagOf 24 = .ok (.iconst 1, 1) := by decide +kernel
theorem dX0_flagOf_25 : decode cX0_flagOf 25 = .ok (.goto 4, 3) := by decide +kernel
theorem dX0_flagOf_28 : decode cX0_flagOf 28 = .ok (.iconst 0, 1) := by decide +kernel
theorem dX0_flagOf_29 : decode cX0_flagOf 29 = .ok (.ireturn, 1) := by decide +kernel
theorem dX0_flagOf_30 : decode cX0_flagOf 30 = .ok (.aload_n 0, 1) := by decide +kernel
theorem dX0_flagOf_31 : decode cX0_flagOf 31 = .ok (.iload_n 1, 1) := by decide +kernel
theorem dX0_flagOf_32 : decode cX0_flagOf 32 = .ok (.invokevirtual 66, 3) := by decide +kernel
theorem dX0_flagOf_35 : decode cX0_flagOf 35 = .ok (.astore_n 2, 1) := by decide +kernel
theorem dX0_flagOf_36 : decode cX0_flagOf 36 = .ok (.aload_n 2, 1) := by decide +kernel
theorem dX0_flagOf_37 : decode cX0_flagOf 37 = .ok (.ifnull 14, 3) := by decide +kernel
theorem dX0_flagOf_40 : decode cX0_flagOf 40 = .ok (.aload_n 2, 1) := by decide +kernel
theorem dX0_flagOf_41 : decode cX0_flagOf 41 = .ok (.getfield 59, 3) := by decide +kernel
theorem dX0_flagOf_44 : decode cX0_flagOf 44 = .ok (.ifCond .eq 7, 3) := by decide +kernel
theorem dX0_flagOf_47 : decode cX0_flagOf 47 = .ok (.iconst 1, 1) := by decide +kernel
theorem dX0_flagOf_48 : decode cX0_flagOf 48 = .ok (.goto 4, 3) := by decide +kernel
theorem dX0_flagOf_51 : decode cX0_flagOf 51 = .ok (.iconst 0, 1) := by decide +kernel
theorem dX0_flagOf_52 : decode cX0_flagOf 52 = .ok (.ireturn, 1) := by decide +kernel
set_option maxRecDepth 20000 in
theorem ggX0_putFlag_X7_bit : GoodIn wsX0_putFlag wsX7_bit := goodIn_r _ [5] (by decide +kernel) (by decide +kernel)
set_option maxRecDepth 20000 in
theorem gX0_putFlag_X7_bit_n84 : GoodIn wsX0_putFlag (wsX7_bit) := ggX0_putFlag_X7_bit
set_option maxRecDepth 20000 in
theorem ggX0_putFlag_X0_lineOf : GoodIn wsX0_putFlag wsX0_lineOf := goodIn_r _ [10, 11, 19, 20, 21, 22, 23, 24, 25] (by decide +kernel) (by decide +kernel)
set_option maxRecDepth 20000 in
theorem gX0_putFlag_X0_lineOf : GoodIn wsX0_putFlag (wsV RX0 66 RX0 yX0_lineOf wsX0_lineOf) := goodIn_app (goodIn_of _ (by decide +kernel)) ggX0_putFlag_X0_lineOf
set_option maxRecDepth 20000 in
theorem ggX0_putFlag_X3_putFlag : GoodIn wsX0_putFlag wsX3_putFlag := goodIn_r _ [16, 17, 18, 32, 33, 34] (by decide +kernel) (by decide +kernel)
set_option maxRecDepth 20000 in
theorem gX0_putFlag_X3_putFlag : GoodIn wsX0_putFlag (wsV RX0 88 RX3 yX3_putFlag wsX3_putFlag) := goodIn_app (goodIn_of _ (by decide +kernel)) ggX0_putFlag_X3_putFlag
theorem dX0_putFlag_0 : decode cX0_putFlag 0 = .ok (.iload_n 1, 1) := by decide +kernel
theorem dX0_putFlag_1 : decode cX0_putFlag 1 = .ok (.ifCond .ne 9, 3) := by decide +kernel
theorem dX0_putFlag_4 : decode cX0_putFlag 4 = .ok (.aload_n 0, 1) := by decide +kernel
theorem dX0_putFlag_5 : decode cX0_putFlag 5 = .ok (.iload_n 2, 1) := by decide +kernel
theorem dX0_putFlag_6 : decode cX0_putFlag 6 = .ok (.putfield 76, 3) := by decide +kernel
theorem dX0_putFlag_9 : decode cX0_putFlag 9 = .ok (.return_, 1) := by decide +kernel
theorem dX0_putFlag_10 : decode cX0_putFlag 10 = .ok (.iload_n 1, 1) := by decide +kernel
theorem dX0_putFlag_11 : decode cX0_putFlag 11 = .ok (.iconst 1, 1) := by decide +kernel
theorem dX0_putFlag_12 : decode cX0_putFlag 12 = .ok (.if_icmp .ne 15, 3) := by decide +kernel
theorem dX0_putFlag_15 : decode cX0_putFlag 15 = .ok (.aload_n 0, 1) := by decide +kernel
theorem dX0_putFlag_16 : decode cX0_putFlag 16 = .ok (.getfield 29, 3) := by decide +kernel
theorem dX0_putFlag_19 : decode cX0_putFlag 19 = .ok (.iload_n 2, 1) := by decide +kernel
theorem dX0_putFlag_20 : decode cX0_putFlag 20 = .ok (.invokestatic 84, 3) := by decide +kernel
theorem dX0_putFlag_23 : decode cX0_putFlag 23 = .ok (.putfield 79, 3) := by decide +kernel
theorem dX0_putFlag_26 : decode cX0_putFlag 26 = .ok (.return_, 1) := by decide +kernel
theorem dX0_putFlag_27 : decode cX0_putFlag 27 = .ok (.aload_n 0, 1) := by decide +kernel
theorem dX0_putFlag_28 : decode cX0_putFlag 28 = .ok (.iload_n 1, 1) := by decide +kernel
theorem dX0_putFlag_29 : decode cX0_putFlag 29 = .ok (.invokevirtual 66, 3) := by decide +kernel
theorem dX0_putFlag_32 : decode cX0_putFlag 32 = .ok (.astore_n 3, 1) := by decide +kernel
theorem dX0_putFlag_33 : decode cX0_putFlag 33 = .ok (.aload_n 3, 1) := by decide +kernel
theorem dX0_putFlag_34 : decode cX0_putFlag 34 = .ok (.ifnull 8, 3) := by decide +kernel
theorem dX0_putFlag_37 : decode cX0_putFlag 37 = .ok (.aload_n 3, 1) := by decide +kernel
theorem dX0_putFlag_38 : decode cX0_putFlag 38 = .ok (.iload_n 2, 1) := by decide +kernel
theorem dX0_putFlag_39 : decode cX0_putFlag 39 = .ok (.invokevirtual 88, 3) := by decide +kernel
theorem dX0_putFlag_42 : decode cX0_putFlag 42 = .ok (.return_, 1) := by decide +kernel
set_option maxRecDepth 20000 in
theorem ggX0_tell_X0_channelAt : GoodIn wsX0_tell wsX0_channelAt := goodIn_r _ [6, 7, 13, 14, 15, 16, 17, 18, 19] (by decide +kernel) (by decide +kernel)
set_option maxRecDepth 20000 in
theorem gX0_tell_X0_channelAt : GoodIn wsX0_tell (wsV RX0 47 RX0 yX0_channelAt wsX0_channelAt) := goodIn_app (goodIn_of _ (by decide +kernel)) ggX0_tell_X0_channelAt
set_option maxRecDepth 20000 in
theorem ggX0_tell_X0_deviceAt : GoodIn wsX0_tell wsX0_deviceAt := goodIn_r _ [11, 12, 13, 14, 15, 16, 17, 18, 19] (by decide +kernel) (by decide +kernel)
set_option maxRecDepth 20000 in
theorem gX0_tell_X0_deviceAt : GoodIn wsX0_tell (wsV RX0 40 RX0 yX0_deviceAt wsX0_deviceAt) := goodIn_app (goodIn_of _ (by decide +kernel)) ggX0_tell_X0_deviceAt
theorem dX0_tell_0 : decode cX0_tell 0 = .ok (.iload_n 1, 1) := by decide +kernel
theorem dX0_tell_1 : decode cX0_tell 1 = .ok (.iconst 1, 1) := by decide +kernel
theorem dX0_tell_2 : decode cX0_tell 2 = .ok (.if_icmp .ne 8, 3) := by decide +kernel
theorem dX0_tell_5 : decode cX0_tell 5 = .ok (.aload_n 0, 1) := by decide +kernel
theorem dX0_tell_6 : decode cX0_tell 6 = .ok (.getfield 92, 3) := by decide +kernel
theorem dX0_tell_9 : decode cX0_tell 9 = .ok (.ireturn, 1) := by decide +kernel
theorem dX0_tell_10 : decode cX0_tell 10 = .ok (.aload_n 0, 1) := by decide +kernel
theorem dX0_tell_11 : decode cX0_tell 11 = .ok (.iload_n 1, 1) := by decide +kernel
theorem dX0_tell_12 : decode cX0_tell 12 = .ok (.iconst 2, 1) := by decide +kernel
theorem dX0_tell_13 : decode cX0_tell 13 = .ok (.isub, 1) := by decide +kernel
theorem dX0_tell_14 : decode cX0_tell 14 = .ok (.invokevirtual 47, 3) := by decide +kernel
theorem dX0_tell_17 : decode cX0_tell 17 = .ok (.astore_n 2, 1) := by decide +kernel
theorem dX0_tell_18 : decode cX0_tell 18 = .ok (.aload_n 2, 1) := by decide +kernel
theorem dX0_tell_19 : decode cX0_tell 19 = .ok (.ifnull 8, 3) := by decide +kernel
theorem dX0_tell_22 : decode cX0_tell 22 = .ok (.aload_n 2, 1) := by decide +kernel
theorem dX0_tell_23 : decode cX0_tell 23 = .ok (.getfield 95, 3) := by decide +kernel
theorem dX0_tell_26 : decode cX0_tell 26 = .ok (.ireturn, 1) := by decide +kernel
theorem dX0_tell_27 : decode cX0_tell 27 = .ok (.aload_n 0, 1) := by decide +kernel
theorem dX0_tell_28 : decode cX0_tell 28 = .ok (.iload_n 1, 1) := by decide +kernel
theorem dX0_tell_29 : decode cX0_tell 29 = .ok (.bipush 8, 2) := by decide +kernel
theorem dX0_tell_31 : decode cX0_tell 31 = .ok (.isub, 1) := by decide +kernel
theorem dX0_tell_32 : decode cX0_tell 32 = .ok (.invokevirtual 40, 3) := by decide +kernel
theorem dX0_tell_35 : decode cX0_tell 35 = .ok (.astore_n 3, 1) := by decide +kernel
theorem dX0_tell_36 : decode cX0_tell 36 = .ok (.aload_n 3, 1) := by decide +kernel
theorem dX0_tell_37 : decode cX0_tell 37 = .ok (.ifnonnull 7, 3) := by decide +kernel
theorem dX0_tell_40 : decode cX0_tell 40 = .ok (.iconst 0, 1) := by decide +kernel
theorem dX0_tell_41 : decode cX0_tell 41 = .ok (.goto 7, 3) := by decide +kernel
theorem dX0_tell_44 : decode cX0_tell 44 = .ok (.aload_n 3, 1) := by decide +kernel
theorem dX0_tell_45 : decode cX0_tell 45 = .ok (.getfield 98, 3) := by decide +kernel
theorem dX0_tell_48 : decode cX0_tell 48 = .ok (.ireturn, 1) := by decide +kernel
set_option maxRecDepth 20000 in
theorem ggX0_take_X0_channelAt : GoodIn wsX0_take wsX0_channelAt := goodIn_r _ [6, 7, 23, 24, 25, 26, 27, 28, 29] (by decide +kernel) (by decide +kernel)
set_option maxRecDepth 20000 in
theorem gX0_take_X0_channelAt : GoodIn wsX0_take (wsV RX0 47 RX0 yX0_channelAt wsX0_channelAt) := goodIn_app (goodIn_of _ (by decide +kernel)) ggX0_take_X0_channelAt
set_option maxRecDepth 20000 in
theorem ggX0_take_X1_takeRegister : GoodIn wsX0_take wsX1_takeRegister := goodIn_r _ [12, 13, 14, 15, 16, 17, 30, 31, 32, 33, 34, 35, 36, 37] (by decide +kernel) (by decide +kernel)
set_option maxRecDepth 20000 in
theorem gX0_take_X1_takeRegister : GoodIn wsX0_take (wsV RX0 104 RX1 yX1_takeRegister wsX1_takeRegister) := goodIn_app (goodIn_of _ (by decide +kernel)) ggX0_take_X1_takeRegister
set_option maxRecDepth 20000 in
theorem ggX0_take_X0_deviceAt : GoodIn wsX0_take wsX0_deviceAt := goodIn_r _ [21, 22, 23, 24, 25, 26, 27, 28, 29] (by decide +kernel) (by decide +kernel)
set_option maxRecDepth 20000 in
theorem gX0_take_X0_deviceAt : GoodIn wsX0_take (wsV RX0 40 RX0 yX0_deviceAt wsX0_deviceAt) := goodIn_app (goodIn_of _ (by decide +kernel)) ggX0_take_X0_deviceAt
theorem dX0_take_0 : decode cX0_take 0 = .ok (.iload_n 1, 1) := by decide +kernel
theorem dX0_take_1 : decode cX0_take 1 = .ok (.iconst 1, 1) := by decide +kernel
theorem dX0_take_2 : decode cX0_take 2 = .ok (.if_icmp .ne 9, 3) := by decide +kernel
theorem dX0_take_5 : decode cX0_take 5 = .ok (.aload_n 0, 1) := by decide +kernel
theorem dX0_take_6 : decode cX0_take 6 = .ok (.iload_n 2, 1) := by decide +kernel
theorem dX0_take_7 : decode cX0_take 7 = .ok (.putfield 101, 3) := by decide +kernel
theorem dX0_take_10 : decode cX0_take 10 = .ok (.return_, 1) := by decide +kernel
theorem dX0_take_11 : decode cX0_take 11 = .ok (.aload_n 0, 1) := by decide +kernel
theorem dX0_take_12 : decode cX0_take 12 = .ok (.iload_n 1, 1) := by decide +kernel
theorem dX0_take_13 : decode cX0_take 13 = .ok (.iconst 2, 1) := by decide +kernel
theorem dX0_take_14 : decode cX0_take 14 = .ok (.isub, 1) := by decide +kernel
theorem dX0_take_15 : decode cX0_take 15 = .ok (.invokevirtual 47, 3) := by decide +kernel
theorem dX0_take_18 : decode cX0_take 18 = .ok (.astore_n 3, 1) := by decide +kernel
theorem dX0_take_19 : decode cX0_take 19 = .ok (.aload_n 3, 1) := by decide +kernel
theorem dX0_take_20 : decode cX0_take 20 = .ok (.ifnull 9, 3) := by decide +kernel
theorem dX0_take_23 : decode cX0_take 23 = .ok (.aload_n 3, 1) := by decide +kernel
theorem dX0_take_24 : decode cX0_take 24 = .ok (.iload_n 2, 1) := by decide +kernel
theorem dX0_take_25 : decode cX0_take 25 = .ok (.invokevirtual 104, 3) := by decide +kernel
theorem dX0_take_28 : decode cX0_take 28 = .ok (.return_, 1) := by decide +kernel
theorem dX0_take_29 : decode cX0_take 29 = .ok (.aload_n 0, 1) := by decide +kernel
theorem dX0_take_30 : decode cX0_take 30 = .ok (.iload_n 1, 1) := by decide +kernel
theorem dX0_take_31 : decode cX0_take 31 = .ok (.bipush 6, 2) := by decide +kernel
theorem dX0_take_33 : decode cX0_take 33 = .ok (.isub, 1) := by decide +kernel
theorem dX0_take_34 : decode cX0_take 34 = .ok (.invokevirtual 47, 3) := by decide +kernel
theorem dX0_take_37 : decode cX0_take 37 = .ok (.astore 4, 2) := by decide +kernel
theorem dX0_take_39 : decode cX0_take 39 = .ok (.aload 4, 2) := by decide +kernel
theorem dX0_take_41 : decode cX0_take 41 = .ok (.ifnull 10, 3) := by decide +kernel
theorem dX0_take_44 : decode cX0_take 44 = .ok (.aload 4, 2) := by decide +kernel
theorem dX0_take_46 : decode cX0_take 46 = .ok (.iload_n 2, 1) := by decide +kernel
theorem dX0_take_47 : decode cX0_take 47 = .ok (.putfield 55, 3) := by decide +kernel
theorem dX0_take_50 : decode cX0_take 50 = .ok (.return_, 1) := by decide +kernel
theorem dX0_take_51 : decode cX0_take 51 = .ok (.aload_n 0, 1) := by decide +kernel
theorem dX0_take_52 : decode cX0_take 52 = .ok (.iload_n 1, 1) := by decide +kernel
theorem dX0_take_53 : decode cX0_take 53 = .ok (.bipush 8, 2) := by decide +kernel
theorem dX0_take_55 : decode cX0_take 55 = .ok (.isub, 1) := by decide +kernel
theorem dX0_take_56 : decode cX0_take 56 = .ok (.invokevirtual 40, 3) := by decide +kernel
theorem dX0_take_59 : decode cX0_take 59 = .ok (.astore 5, 2) := by decide +kernel
theorem dX0_take_61 : decode cX0_take 61 = .ok (.aload 5, 2) := by decide +kernel
theorem dX0_take_63 : decode cX0_take 63 = .ok (.ifnull 9, 3) := by decide +kernel
theorem dX0_take_66 : decode cX0_take 66 = .ok (.aload 5, 2) := by decide +kernel
theorem dX0_take_68 : decode cX0_take 68 = .ok (.iload_n 2, 1) := by decide +kernel
theorem dX0_take_69 : decode cX0_take 69 = .ok (.putfield 98, 3) := by decide +kernel
theorem dX0_take_72 : decode cX0_take 72 = .ok (.return_, 1) := by decide +kernel
set_option maxRecDepth 20000 in
theorem ggX0_putControl_X0_resetAllControls : GoodIn wsX0_putControl wsX0_resetAllControls := goodIn_r _ [5, 6, 7, 8, 4, 9, 10, 11, 12, 13, 14, 15, 40, 41, 42, 32, 33, 34, 35, 36, 37, 38, 39, 43, 44, 45, 46, 47, 48, 49] (by decide +kernel) (by decide +kernel)
set_option maxRecDepth 20000 in
theorem gX0_putControl_X0_resetAllControls : GoodIn wsX0_putControl (wsV RX0 108 RX0 yX0_resetAllControls wsX0_resetAllControls) := goodIn_app (goodIn_of _ (by decide +kernel)) ggX0_putControl_X0_resetAllControls
set_option maxRecDepth 20000 in
theorem ggX0_putControl_X0_channelAt : GoodIn wsX0_putControl wsX0_channelAt := goodIn_r _ [14, 15, 43, 44, 45, 46, 47, 48, 49] (by decide +kernel) (by decide +kernel)
set_option maxRecDepth 20000 in
theorem gX0_putControl_X0_channelAt : GoodIn wsX0_putControl (wsV RX0 47 RX0 yX0_channelAt wsX0_channelAt) := goodIn_app (goodIn_of _ (by decide +kernel)) ggX0_putControl_X0_channelAt
set_option maxRecDepth 20000 in
theorem ggX0_putControl_X0_putLineControl : GoodIn wsX0_putControl wsX0_putLineControl := goodIn_r _ [19, 6, 7, 8, 4, 9, 10, 11, 12, 13, 14, 15, 20, 21, 22, 23, 24, 25, 26, 27, 28, 29, 30, 31, 40, 41, 42, 32, 33, 34, 35, 36, 37, 38, 39, 43, 44, 45, 46, 47, 48, 49, 50, 51, 52, 53, 54, 55, 56, 57, 58, 59] (by decide +kernel) (by decide +kernel)
set_option maxRecDepth 20000 in
theorem gX0_putControl_X0_putLineControl : GoodIn wsX0_putControl (wsV RX0 114 RX0 yX0_putLineControl wsX0_putLineControl) := goodIn_app (goodIn_of _ (by decide +kernel)) ggX0_putControl_X0_putLineControl
theorem dX0_putControl_0 : decode cX0_putControl 0 = .ok (.iload_n 1, 1) := by decide +kernel
theorem dX0_putControl_1 : decode cX0_putControl 1 = .ok (.ifCond .ne 12, 3) := by decide +kernel
theorem dX0_putControl_4 : decode cX0_putControl 4 = .ok (.iload_n 2, 1) := by decide +kernel
theorem dX0_putControl_5 : decode cX0_putControl 5 = .ok (.ifCond .ne 8, 3) := by decide +kernel
theorem dX0_putControl_8 : decode cX0_putControl 8 = .ok (.aload_n 0, 1) := by decide +kernel
theorem dX0_putControl_9 : decode cX0_putControl 9 = .ok (.invokevirtual 108, 3) := by decide +kernel
theorem dX0_putControl_12 : decode cX0_putControl 12 = .ok (.return_, 1) := by decide +kernel
theorem dX0_putControl_13 : decode cX0_putControl 13 = .ok (.aload_n 0, 1) := by decide +kernel
theorem dX0_putControl_14 : decode cX0_putControl 14 = .ok (.iload_n 1, 1) := by decide +kernel
theorem dX0_putControl_15 : decode cX0_putControl 15 = .ok (.iconst 2, 1) := by decide +kernel
theorem dX0_putControl_16 : decode cX0_putControl 16 = .ok (.isub, 1) := by decide +kernel
theorem dX0_putControl_17 : decode cX0_putControl 17 = .ok (.invokevirtual 47, 3) := by decide +kernel
theorem dX0_putControl_20 : decode cX0_putControl 20 = .ok (.astore_n 3, 1) := by decide +kernel
theorem dX0_putControl_21 : decode cX0_putControl 21 = .ok (.aload_n 3, 1) := by decide +kernel
theorem dX0_putControl_22 : decode cX0_putControl 22 = .ok (.ifnull 9, 3) := by decide +kernel
theorem dX0_putControl_25 : decode cX0_putControl 25 = .ok (.aload_n 3, 1) := by decide +kernel
theorem dX0_putControl_26 : decode cX0_putControl 26 = .ok (.iload_n 2, 1) := by decide +kernel
theorem dX0_putControl_27 : decode cX0_putControl 27 = .ok (.putfield 111, 3) := by decide +kernel
theorem dX0_putControl_30 : decode cX0_putControl 30 = .ok (.return_, 1) := by decide +kernel
theorem dX0_putControl_31 : decode cX0_putControl 31 = .ok (.aload_n 0, 1) := by decide +kernel
theorem dX0_putControl_32 : decode cX0_putControl 32 = .ok (.iload_n 1, 1) := by decide +kernel
theorem dX0_putControl_33 : decode cX0_putControl 33 = .ok (.iload_n 2, 1) := by decide +kernel
theorem dX0_putControl_34 : decode cX0_putControl 34 = .ok (.invokevirtual 114, 3) := by decide +kernel
theorem dX0_putControl_37 : decode cX0_putControl 37 = .ok (.return_, 1) := by decide +kernel
set_option maxRecDepth 20000 in
theorem ggX0_putLineControl_X0_lineOf : GoodIn wsX0_putLineControl wsX0_lineOf := goodIn_r _ [5, 6, 35, 36, 37, 38, 39, 40, 41] (by decide +kernel) (by decide +kernel)
set_option maxRecDepth 20000 in
theorem gX0_putLineControl_X0_lineOf : GoodIn wsX0_putLineControl (wsV RX0 66 RX0 yX0_lineOf wsX0_lineOf) := goodIn_app (goodIn_of _ (by decide +kernel)) ggX0_putLineControl_X0_lineOf
set_option maxRecDepth 20000 in
theorem ggX0_putLineControl_X0_channelAt : GoodIn wsX0_putLineControl wsX0_channelAt := goodIn_r _ [10, 11, 35, 36, 37, 38, 39, 40, 41] (by decide +kernel) (by decide +kernel)
set_option maxRecDepth 20000 in
theorem gX0_putLineControl_X0_channelAt : GoodIn wsX0_putLineControl (wsV RX0 47 RX0 yX0_channelAt wsX0_channelAt) := goodIn_app (goodIn_of _ (by decide +kernel)) ggX0_putLineControl_X0_channelAt
set_option maxRecDepth 20000 in
theorem ggX0_putLineControl_X0_deviceAt : GoodIn wsX0_putLineControl wsX0_deviceAt := goodIn_r _ [15, 16, 35, 36, 37, 38, 39, 40, 41] (by decide +kernel) (by decide +kernel)
set_option maxRecDepth 20000 in
theorem gX0_putLineControl_X0_deviceAt : GoodIn wsX0_putLineControl (wsV RX0 40 RX0 yX0_deviceAt wsX0_deviceAt) := goodIn_app (goodIn_of _ (by decide +kernel)) ggX0_putLineControl_X0_deviceAt
set_option maxRecDepth 20000 in
theorem ggX0_putLineControl_X2_start : GoodIn wsX0_putLineControl wsX2_start := goodIn_r _ [21, 22, 23, 42, 43, 44, 45, 46, 47, 48, 49, 50, 51] (by decide +kernel) (by decide +kernel)
set_option maxRecDepth 20000 in
theorem gX0_putLineControl_X2_start : GoodIn wsX0_putLineControl (wsV RX0 118 RX2 yX2_start wsX2_start) := goodIn_app (goodIn_of _ (by decide +kernel)) ggX0_putLineControl_X2_start
theorem dX0_putLineControl_0 : decode cX0_putLineControl 0 = .ok (.aload_n 0, 1) := by decide +kernel
theorem dX0_putLineControl_1 : decode cX0_putLineControl 1 = .ok (.iload_n 1, 1) := by decide +kernel
theorem dX0_putLineControl_2 : decode cX0_putLineControl 2 = .ok (.invokevirtual 66, 3) := by decide +kernel
theorem dX0_putLineControl_5 : decode cX0_putLineControl 5 = .ok (.astore_n 3, 1) := by decide +kernel
theorem dX0_putLineControl_6 : decode cX0_putLineControl 6 = .ok (.aload_n 3, 1) := by decide +kernel
theorem dX0_putLineControl_7 : decode cX0_putLineControl 7 = .ok (.ifnonnull 4, 3) := by decide +kernel
theorem dX0_putLineControl_10 : decode cX0_putLineControl 10 = .ok (.return_, 1) := by decide +kernel
theorem dX0_putLineControl_11 : decode cX0_putLineControl 11 = .ok (.aload_n 3, 1) := by decide +kernel
theorem dX0_putLineControl_12 : decode cX0_putLineControl 12 = .ok (.iload_n 2, 1) := by decide +kernel
theorem dX0_putLineControl_13 : decode cX0_putLineControl 13 = .ok (.putfield 70, 3) := by decide +kernel
theorem dX0_putLineControl_16 : decode cX0_putLineControl 16 = .ok (.aload_n 0, 1) := by decide +kernel
theorem dX0_putLineControl_17 : decode cX0_putLineControl 17 = .ok (.iload_n 1, 1) := by decide +kernel
theorem dX0_putLineControl_18 : decode cX0_putLineControl 18 = .ok (.bipush 6, 2) := by decide +kernel
theorem dX0_putLineControl_20 : decode cX0_putLineControl 20 = .ok (.isub, 1) := by decide +kernel
theorem dX0_putLineControl_21 : decode cX0_putLineControl 21 = .ok (.invokevirtual 47, 3) := by decide +kernel
theorem dX0_putLineControl_24 : decode cX0_putLineControl 24 = .ok (.astore 4, 2) := by decide +kernel
theorem dX0_putLineControl_26 : decode cX0_putLineControl 26 = .ok (.aload 4, 2) := by decide +kernel
theorem dX0_putLineControl_28 : decode cX0_putLineControl 28 = .ok (.ifnull 9, 3) := by decide +kernel
theorem dX0_putLineControl_31 : decode cX0_putLineControl 31 = .ok (.aload 4, 2) := by decide +kernel
theorem dX0_putLineControl_33 : decode cX0_putLineControl 33 = .ok (.iload_n 2, 1) := by decide +kernel
theorem dX0_putLineControl_34 : decode cX0_putLineControl 34 = .ok (.putfield 51, 3) := by decide +kernel
theorem dX0_putLineControl_37 : decode cX0_putLineControl 37 = .ok (.aload_n 0, 1) := by decide +kernel
theorem dX0_putLineControl_38 : decode cX0_putLineControl 38 = .ok (.iload_n 1, 1) := by decide +kernel
theorem dX0_putLineControl_39 : decode cX0_putLineControl 39 = .ok (.bipush 8, 2) := by decide +kernel
theorem dX0_putLineControl_41 : decode cX0_putLineControl 41 = .ok (.isub, 1) := by decide +kernel
theorem dX0_putLineControl_42 : decode cX0_putLineControl 42 = .ok (.invokevirtual 40, 3) := by decide +kernel
theorem dX0_putLineControl_45 : decode cX0_putLineControl 45 = .ok (.astore 5, 2) := by decide +kernel
theorem dX0_putLineControl_47 : decode cX0_putLineControl 47 = .ok (.aload 5, 2) := by decide +kernel
theorem dX0_putLineControl_49 : decode cX0_putLineControl 49 = .ok (.ifnull 12, 3) := by decide +kernel
theorem dX0_putLineControl_52 : decode cX0_putLineControl 52 = .ok (.iload_n 2, 1) := by decide +kernel
theorem dX0_putLineControl_53 : decode cX0_putLineControl 53 = .ok (.ifCond .eq 8, 3) := by decide +kernel
theorem dX0_putLineControl_56 : decode cX0_putLineControl 56 = .ok (.aload 5, 2) := by decide +kernel
theorem dX0_putLineControl_58 : decode cX0_putLineControl 58 = .ok (.invokevirtual 118, 3) := by decide +kernel
theorem dX0_putLineControl_61 : decode cX0_putLineControl 61 = .ok (.return_, 1) := by decide +kernel
set_option maxRecDepth 20000 in
theorem ggX0_resetAllControls_X0_lineOf : GoodIn wsX0_resetAllControls wsX0_lineOf := goodIn_r _ [5, 6, 23, 24, 25, 26, 27, 28, 29] (by decide +kernel) (by decide +kernel)
set_option maxRecDepth 20000 in
theorem gX0_resetAllControls_X0_lineOf : GoodIn wsX0_resetAllControls (wsV RX0 66 RX0 yX0_lineOf wsX0_lineOf) := goodIn_app (goodIn_of _ (by decide +kernel)) ggX0_resetAllControls_X0_lineOf
set_option maxRecDepth 20000 in
theorem ggX0_resetAllControls_X0_channelAt : GoodIn wsX0_resetAllControls wsX0_channelAt := goodIn_r _ [10, 11, 23, 24, 25, 26, 27, 28, 29] (by decide +kernel) (by decide +kernel)
set_option maxRecDepth 20000 in
theorem gX0_resetAllControls_X0_channelAt : GoodIn wsX0_resetAllControls (wsV RX0 47 RX0 yX0_channelAt wsX0_channelAt) := goodIn_app (goodIn_of _ (by decide +kernel)) ggX0_resetAllControls_X0_channelAt
theorem dX0_resetAllControls_0 : decode cX0_resetAllControls 0 = .ok (.bipush 6, 2) := by decide +kernel
theorem dX0_resetAllControls_2 : decode cX0_resetAllControls 2 = .ok (.istore_n 1, 1) := by decide +kernel
theorem dX0_resetAllControls_3 : decode cX0_resetAllControls 3 = .ok (.iload_n 1, 1) := by decide +kernel
theorem dX0_resetAllControls_4 : decode cX0_resetAllControls 4 = .ok (.bipush 11, 2) := by decide +kernel
theorem dX0_resetAllControls_6 : decode cX0_resetAllControls 6 = .ok (.if_icmp .gt 24, 3) := by decide +kernel
theorem dX0_resetAllControls_9 : decode cX0_resetAllControls 9 = .ok (.aload_n 0, 1) := by decide +kernel
theorem dX0_resetAllControls_10 : decode cX0_resetAllControls 10 = .ok (.iload_n 1, 1) := by decide +kernel
theorem dX0_resetAllControls_11 : decode cX0_resetAllControls 11 = .ok (.invokevirtual 66, 3) := by decide +kernel
theorem dX0_resetAllControls_14 : decode cX0_resetAllControls 14 = .ok (.astore_n 2, 1) := by decide +kernel
theorem dX0_resetAllControls_15 : decode cX0_resetAllControls 15 = .ok (.aload_n 2, 1) := by decide +kernel
theorem dX0_resetAllControls_16 : decode cX0_resetAllControls 16 = .ok (.ifnull 8, 3) := by decide +kernel
theorem dX0_resetAllControls_19 : decode cX0_resetAllControls 19 = .ok (.aload_n 2, 1) := by decide +kernel
theorem dX0_resetAllControls_20 : decode cX0_resetAllControls 20 = .ok (.iconst 0, 1) := by decide +kernel
theorem dX0_resetAllControls_21 : decode cX0_resetAllControls 21 = .ok (.putfield 70, 3) := by decide +kernel
theorem dX0_resetAllControls_24 : decode cX0_resetAllControls 24 = .ok (.iinc 1 1, 3) := by decide +kernel
theorem dX0_resetAllControls_27 : decode cX0_resetAllControls 27 = .ok (.goto (-24), 3) := by decide +kernel
theorem dX0_resetAllControls_30 : decode cX0_resetAllControls 30 = .ok (.iconst 0, 1) := by decide +kernel
theorem dX0_resetAllControls_31 : decode cX0_resetAllControls 31 = .ok (.istore_n 1, 1) := by decide +kernel
theorem dX0_resetAllControls_32 : decode cX0_resetAllControls 32 = .ok (.iload_n 1, 1) := by decide +kernel
theorem dX0_resetAllControls_33 : decode cX0_resetAllControls 33 = .ok (.iconst 2, 1) := by decide +kernel
theorem dX0_resetAllControls_34 : decode cX0_resetAllControls 34 = .ok (.if_icmp .ge 24, 3) := by decide +kernel
theorem dX0_resetAllControls_37 : decode cX0_resetAllControls 37 = .ok (.aload_n 0, 1) := by decide +kernel
theorem dX0_resetAllControls_38 : decode cX0_resetAllControls 38 = .ok (.iload_n 1, 1) := by decide +kernel
theorem dX0_resetAllControls_39 : decode cX0_resetAllControls 39 = .ok (.invokevirtual 47, 3) := by decide +kernel
theorem dX0_resetAllControls_42 : decode cX0_resetAllControls 42 = .ok (.astore_n 2, 1) := by decide +kernel
theorem dX0_resetAllControls_43 : decode cX0_resetAllControls 43 = .ok (.aload_n 2, 1) := by decide +kernel
theorem dX0_resetAllControls_44 : decode cX0_resetAllControls 44 = .ok (.ifnull 8, 3) := by decide +kernel
theorem dX0_resetAllControls_47 : decode cX0_resetAllControls 47 = .ok (.aload_n 2, 1) := by decide +kernel
theorem dX0_resetAllControls_48 : decode cX0_resetAllControls 48 = .ok (.iconst 0, 1) := by decide +kernel
theorem dX0_resetAllControls_49 : decode cX0_resetAllControls 49 = .ok (.putfield 51, 3) := by decide +kernel
theorem dX0_resetAllControls_52 : decode cX0_resetAllControls 52 = .ok (.iinc 1 1, 3) := by decide +kernel
theorem dX0_resetAllControls_55 : decode cX0_resetAllControls 55 = .ok (.goto (-23), 3) := by decide +kernel
theorem dX0_resetAllControls_58 : decode cX0_resetAllControls 58 = .ok (.return_, 1) := by decide +kernel
set_option maxRecDepth 20000 in
theorem ggX1_init_X3_init : GoodIn wsX1_init wsX3_init := goodIn_r _ [9, 10, 2, 3] (by decide +kernel) (by decide +kernel)
set_option maxRecDepth 20000 in
theorem gX1_init_X3_init_n11 : GoodIn wsX1_init (wsX3_init) := ggX1_init_X3_init
theorem dX1_init_0 : decode cX1_init 0 = .ok (.aload_n 0, 1) := by decide +kernel
theorem dX1_init_1 : decode cX1_init 1 = .ok (.invokespecial 3, 3) := by decide +kernel
theorem dX1_init_4 : decode cX1_init 4 = .ok (.aload_n 0, 1) := by decide +kernel
theorem dX1_init_5 : decode cX1_init 5 = .ok (.new 9, 3) := by decide +kernel
theorem dX1_init_8 : decode cX1_init 8 = .ok (.dup, 1) := by decide +kernel
theorem dX1_init_9 : decode cX1_init 9 = .ok (.invokespecial 11, 3) := by decide +kernel
theorem dX1_init_12 : decode cX1_init 12 = .ok (.putfield 12, 3) := by decide +kernel
theorem dX1_init_15 : decode cX1_init 15 = .ok (.return_, 1) := by decide +kernel
set_option maxRecDepth 20000 in
theorem ggX1_move_X4_write : GoodIn wsX1_move wsX4_write := goodIn_r _ [12, 13, 14, 61] (by decide +kernel) (by decide +kernel)
set_option maxRecDepth 20000 in
theorem gX1_move_X4_write : GoodIn wsX1_move (wsV RX1 31 RX4 yX4_write wsX4_write) := goodIn_app (goodIn_of _ (by decide +kernel)) ggX1_move_X4_write
set_option maxRecDepth 20000 in
theorem ggX1_move_X4_read : GoodIn wsX1_move wsX4_read := goodIn_r _ [18, 13, 61] (by decide +kernel) (by decide +kernel)
set_option maxRecDepth 20000 in
theorem gX1_move_X4_read : GoodIn wsX1_move (wsV RX1 37 RX4 yX4_read wsX4_read) := goodIn_app (goodIn_of _ (by decide +kernel)) ggX1_move_X4_read
set_option maxRecDepth 20000 in
theorem ggX1_move_X3_putFlag : GoodIn wsX1_move wsX3_putFlag := goodIn_r _ [23, 24, 25, 58, 59, 60] (by decide +kernel) (by decide +kernel)
set_option maxRecDepth 20000 in
theorem gX1_move_X3_putFlag : GoodIn wsX1_move (wsV RX1 42 RX3 yX3_putFlag wsX3_putFlag) := goodIn_app (goodIn_of _ (by decide +kernel)) ggX1_move_X3_putFlag
set_option maxRecDepth 20000 in
theorem ggX1_move_X1_finish : GoodIn wsX1_move wsX1_finish := goodIn_r _ [30, 31, 32, 6, 19, 20, 21, 22, 23, 24, 25, 40, 41, 42, 43, 44, 45, 46, 47, 48, 49, 50, 51, 52, 53, 54, 55, 56, 57, 58, 59, 60] (by decide +kernel) (by decide +kernel)
set_option maxRecDepth 20000 in
theorem gX1_move_X1_finish : GoodIn wsX1_move (wsV RX1 53 RX1 yX1_finish wsX1_finish) := goodIn_app (goodIn_of _ (by decide +kernel)) ggX1_move_X1_finish
set_option maxRecDepth 20000 in
theorem ggX1_move_X2_start : GoodIn wsX1_move wsX2_start := goodIn_r _ [37, 38, 39, 48, 49, 50, 51, 52, 53, 54, 55, 56, 57] (by decide +kernel) (by decide +kernel)
set_option maxRecDepth 20000 in
theorem gX1_move_X2_start : GoodIn wsX1_move (wsV RX1 64 RX2 yX2_start wsX2_start) := goodIn_app (goodIn_of _ (by decide +kernel)) ggX1_move_X2_start
theorem dX1_move_0 : decode cX1_move 0 = .ok (.aload_n 0, 1) := by decide +kernel
theorem dX1_move_1 : decode cX1_move 1 = .ok (.getfield 18, 3) := by decide +kernel
theorem dX1_move_4 : decode cX1_move 4 = .ok (.ifCond .eq 18, 3) := by decide +kernel
theorem dX1_move_7 : decode cX1_move 7 = .ok (.aload_n 2, 1) := by decide +kernel
theorem dX1_move_8 : decode cX1_move 8 = .ok (.aload_n 0, 1) := by decide +kernel
theorem dX1_move_9 : decode cX1_move 9 = .ok (.getfield 22, 3) := by decide +kernel
theorem dX1_move_12 : decode cX1_move 12 = .ok (.aload_n 1, 1) := by decide +kernel
theorem dX1_move_13 : decode cX1_move 13 = .ok (.getfield 26, 3) := by decide +kernel
theorem dX1_move_16 : decode cX1_move 16 = .ok (.invokevirtual 31, 3) := by decide +kernel
theorem dX1_move_19 : decode cX1_move 19 = .ok (.goto 15, 3) := by decide +kernel
theorem dX1_move_22 : decode cX1_move 22 = .ok (.aload_n 1, 1) := by decide +kernel
theorem dX1_move_23 : decode cX1_move 23 = .ok (.aload_n 2, 1) := by decide +kernel
theorem dX1_move_24 : decode cX1_move 24 = .ok (.aload_n 0, 1) := by decide +kernel
theorem dX1_move_25 : decode cX1_move 25 = .ok (.getfield 22, 3) := by decide +kernel
theorem dX1_move_28 : decode cX1_move 28 = .ok (.invokevirtual 37, 3) := by decide +kernel
theorem dX1_move_31 : decode cX1_move 31 = .ok (.putfield 26, 3) := by decide +kernel
theorem dX1_move_34 : decode cX1_move 34 = .ok (.aload_n 1, 1) := by decide +kernel
theorem dX1_move_35 : decode cX1_move 35 = .ok (.getfield 41, 3) := by decide +kernel
theorem dX1_move_38 : decode cX1_move 38 = .ok (.iconst 0, 1) := by decide +kernel
theorem dX1_move_39 : decode cX1_move 39 = .ok (.invokevirtual 42, 3) := by decide +kernel
theorem dX1_move_42 : decode cX1_move 42 = .ok (.aload_n 0, 1) := by decide +kernel
theorem dX1_move_43 : decode cX1_move 43 = .ok (.aload_n 0, 1) := by decide +kernel
theorem dX1_move_44 : decode cX1_move 44 = .ok (.getfield 22, 3) := by decide +kernel
theorem dX1_move_47 : decode cX1_move 47 = .ok (.iconst 1, 1) := by decide +kernel
theorem dX1_move_48 : decode cX1_move 48 = .ok (.iadd, 1) := by decide +kernel
theorem dX1_move_49 : decode cX1_move 49 = .ok (.sipush 32767, 3) := by decide +kernel
theorem dX1_move_52 : decode cX1_move 52 = .ok (.iand, 1) := by decide +kernel
theorem dX1_move_53 : decode cX1_move 53 = .ok (.putfield 22, 3) := by decide +kernel
theorem dX1_move_56 : decode cX1_move 56 = .ok (.aload_n 0, 1) := by decide +kernel
theorem dX1_move_57 : decode cX1_move 57 = .ok (.aload_n 0, 1) := by decide +kernel
theorem dX1_move_58 : decode cX1_move 58 = .ok (.getfield 46, 3) := by decide +kernel
theorem dX1_move_61 : decode cX1_move 61 = .ok (.iconst 1, 1) := by decide +kernel
theorem dX1_move_62 : decode cX1_move 62 = .ok (.iadd, 1) := by decide +kernel
theorem dX1_move_63 : decode cX1_move 63 = .ok (.ldc 49, 2) := by decide +kernel
theorem dX1_move_65 : decode cX1_move 65 = .ok (.iand, 1) := by decide +kernel
theorem dX1_move_66 : decode cX1_move 66 = .ok (.putfield 46, 3) := by decide +kernel
theorem dX1_move_69 : decode cX1_move 69 = .ok (.aload_n 0, 1) := by decide +kernel
theorem dX1_move_70 : decode cX1_move 70 = .ok (.dup, 1) := by decide +kernel
theorem dX1_move_71 : decode cX1_move 71 = .ok (.getfield 50, 3) := by decide +kernel
theorem dX1_move_74 : decode cX1_move 74 = .ok (.iconst 1, 1) := by decide +kernel
theorem dX1_move_75 : decode cX1_move 75 = .ok (.iadd, 1) := by decide +kernel
theorem dX1_move_76 : decode cX1_move 76 = .ok (.putfield 50, 3) := by decide +kernel
theorem dX1_move_79 : decode cX1_move 79 = .ok (.aload_n 0, 1) := by decide +kernel
theorem dX1_move_80 : decode cX1_move 80 = .ok (.getfield 46, 3) := by decide +kernel
theorem dX1_move_83 : decode cX1_move 83 = .ok (.ifCond .ne 11, 3) := by decide +kernel
theorem dX1_move_86 : decode cX1_move 86 = .ok (.aload_n 0, 1) := by decide +kernel
theorem dX1_move_87 : decode cX1_move 87 = .ok (.aload_n 1, 1) := by decide +kernel
theorem dX1_move_88 : decode cX1_move 88 = .ok (.invokevirtual 53, 3) := by decide +kernel
theorem dX1_move_91 : decode cX1_move 91 = .ok (.goto 25, 3) := by decide +kernel
theorem dX1_move_94 : decode cX1_move 94 = .ok (.aload_n 0, 1) := by decide +kernel
theorem dX1_move_95 : decode cX1_move 95 = .ok (.getfield 57, 3) := by decide +kernel
theorem dX1_move_98 : decode cX1_move 98 = .ok (.ldc 60, 2) := by decide +kernel
theorem dX1_move_100 : decode cX1_move 100 = .ok (.iand, 1) := by decide +kernel
theorem dX1_move_101 : decode cX1_move 101 = .ok (.ifCond .eq 15, 3) := by decide +kernel
theorem dX1_move_104 : decode cX1_move 104 = .ok (.aload_n 1, 1) := by decide +kernel
theorem dX1_move_105 : decode cX1_move 105 = .ok (.getfield 41, 3) := by decide +kernel
theorem dX1_move_108 : decode cX1_move 108 = .ok (.iconst 1, 1) := by decide +kernel
theorem dX1_move_109 : decode cX1_move 109 = .ok (.putfield 61, 3) := by decide +kernel
theorem dX1_move_112 : decode cX1_move 112 = .ok (.aload_n 1, 1) := by decide +kernel
theorem dX1_move_113 : decode cX1_move 113 = .ok (.invokevirtual 64, 3) := by decide +kernel
theorem dX1_move_116 : decode cX1_move 116 = .ok (.return_, 1) := by decide +kernel
set_option maxRecDepth 20000 in
theorem ggX1_finish_X3_putFlag : GoodIn wsX1_finish wsX3_putFlag := goodIn_r _ [8, 9, 10, 29, 30, 31] (by decide +kernel) (by decide +kernel)
set_option maxRecDepth 20000 in
theorem gX1_finish_X3_putFlag : GoodIn wsX1_finish (wsV RX1 42 RX3 yX3_putFlag wsX3_putFlag) := goodIn_app (goodIn_of _ (by decide +kernel)) ggX1_finish_X3_putFlag
theorem dX1_finish_0 : decode cX1_finish 0 = .ok (.aload_n 0, 1) := by decide +kernel
theorem dX1_finish_1 : decode cX1_finish 1 = .ok (.getfield 12, 3) := by decide +kernel
theorem dX1_finish_4 : decode cX1_finish 4 = .ok (.iconst 1, 1) := by decide +kernel
theorem dX1_finish_5 : decode cX1_finish 5 = .ok (.invokevirtual 42, 3) := by decide +kernel
theorem dX1_finish_8 : decode cX1_finish 8 = .ok (.aload_n 0, 1) := by decide +kernel
theorem dX1_finish_9 : decode cX1_finish 9 = .ok (.iconst 0, 1) := by decide +kernel
theorem dX1_finish_10 : decode cX1_finish 10 = .ok (.putfield 67, 3) := by decide +kernel
theorem dX1_finish_13 : decode cX1_finish 13 = .ok (.aload_n 0, 1) := by decide +kernel
theorem dX1_finish_14 : decode cX1_finish 14 = .ok (.getfield 57, 3) := by decide +kernel
theorem dX1_finish_17 : decode cX1_finish 17 = .ok (.sipush 8192, 3) := by decide +kernel
theorem dX1_finish_20 : decode cX1_finish 20 = .ok (.iand, 1) := by decide +kernel
theorem dX1_finish_21 : decode cX1_finish 21 = .ok (.ifCond .eq 11, 3) := by decide +kernel
theorem dX1_finish_24 : decode cX1_finish 24 = .ok (.aload_n 1, 1) := by decide +kernel
theorem dX1_finish_25 : decode cX1_finish 25 = .ok (.getfield 41, 3) := by decide +kernel
theorem dX1_finish_28 : decode cX1_finish 28 = .ok (.iconst 0, 1) := by decide +kernel
theorem dX1_finish_29 : decode cX1_finish 29 = .ok (.putfield 61, 3) := by decide +kernel
theorem dX1_finish_32 : decode cX1_finish 32 = .ok (.return_, 1) := by decide +kernel
theorem dX1_takeRegister_0 : decode cX1_takeRegister 0 = .ok (.aload_n 0, 1) := by decide +kernel
theorem dX1_takeRegister_1 : decode cX1_takeRegister 1 = .ok (.getfield 70, 3) := by decide +kernel
theorem dX1_takeRegister_4 : decode cX1_takeRegister 4 = .ok (.ifCond .eq 11, 3) := by decide +kernel
theorem dX1_takeRegister_7 : decode cX1_takeRegister 7 = .ok (.aload_n 0, 1) := by decide +kernel
theorem dX1_takeRegister_8 : decode cX1_takeRegister 8 = .ok (.iload_n 1, 1) := by decide +kernel
theorem dX1_takeRegister_9 : decode cX1_takeRegister 9 = .ok (.putfield 46, 3) := by decide +kernel
theorem dX1_takeRegister_12 : decode cX1_takeRegister 12 = .ok (.goto 28, 3) := by decide +kernel
theorem dX1_takeRegister_15 : decode cX1_takeRegister 15 = .ok (.aload_n 0, 1) := by decide +kernel
theorem dX1_takeRegister_16 : decode cX1_takeRegister 16 = .ok (.iload_n 1, 1) := by decide +kernel
theorem dX1_takeRegister_17 : decode cX1_takeRegister 17 = .ok (.sipush 32767, 3) := by decide +kernel
theorem dX1_takeRegister_20 : decode cX1_takeRegister 20 = .ok (.iand, 1) := by decide +kernel
theorem dX1_takeRegister_21 : decode cX1_takeRegister 21 = .ok (.putfield 22, 3) := by decide +kernel
theorem dX1_takeRegister_24 : decode cX1_takeRegister 24 = .ok (.aload_n 0, 1) := by decide +kernel
theorem dX1_takeRegister_25 : decode cX1_takeRegister 25 = .ok (.iload_n 1, 1) := by decide +kernel
theorem dX1_takeRegister_26 : decode cX1_takeRegister 26 = .ok (.ldc 60, 2) := by decide +kernel
theorem dX1_takeRegister_28 : decode cX1_takeRegister 28 = .ok (.iand, 1) := by decide +kernel
theorem dX1_takeRegister_29 : decode cX1_takeRegister 29 = .ok (.ifCond .eq 7, 3) := by decide +kernel
theorem dX1_takeRegister_32 : decode cX1_takeRegister 32 = .ok (.iconst 1, 1) := by decide +kernel
theorem dX1_takeRegister_33 : decode cX1_takeRegister 33 = .ok (.goto 4, 3) := by decide +kernel
theorem dX1_takeRegister_36 : decode cX1_takeRegister 36 = .ok (.iconst 0, 1) := by decide +kernel
theorem dX1_takeRegister_37 : decode cX1_takeRegister 37 = .ok (.putfield 18, 3) := by decide +kernel
theorem dX1_takeRegister_40 : decode cX1_takeRegister 40 = .ok (.return_, 1) := by decide +kernel
set_option maxRecDepth 20000 in
theorem ggX1_tellPart_X7_bit : GoodIn wsX1_tellPart wsX7_bit := goodIn_r _ [9] (by decide +kernel) (by decide +kernel)
set_option maxRecDepth 20000 in
theorem gX1_tellPart_X7_bit_n73 : GoodIn wsX1_tellPart (wsX7_bit) := ggX1_tellPart_X7_bit
theorem dX1_tellPart_0 : decode cX1_tellPart 0 = .ok (.iload_n 1, 1) := by decide +kernel
theorem dX1_tellPart_1 : decode cX1_tellPart 1 = .ok (.tableswitch 75 3 8 #[39, 47, 52, 57, 65, 70], 39) := by decide +kernel
theorem dX1_tellPart_40 : decode cX1_tellPart 40 = .ok (.aload_n 0, 1) := by decide +kernel
theorem dX1_tellPart_41 : decode cX1_tellPart 41 = .ok (.getfield 67, 3) := by decide +kernel
theorem dX1_tellPart_44 : decode cX1_tellPart 44 = .ok (.invokestatic 73, 3) := by decide +kernel
theorem dX1_tellPart_47 : decode cX1_tellPart 47 = .ok (.ireturn, 1) := by decide +kernel
theorem dX1_tellPart_48 : decode cX1_tellPart 48 = .ok (.aload_n 0, 1) := by decide +kernel
theorem dX1_tellPart_49 : decode cX1_tellPart 49 = .ok (.getfield 22, 3) := by decide +kernel
theorem dX1_tellPart_52 : decode cX1_tellPart 52 = .ok (.ireturn, 1) := by decide +kernel
theorem dX1_tellPart_53 : decode cX1_tellPart 53 = .ok (.aload_n 0, 1) := by decide +kernel
theorem dX1_tellPart_54 : decode cX1_tellPart 54 = .ok (.getfield 46, 3) := by decide +kernel
theorem dX1_tellPart_57 : decode cX1_tellPart 57 = .ok (.ireturn, 1) := by decide +kernel
theorem dX1_tellPart_58 : decode cX1_tellPart 58 = .ok (.aload_n 0, 1) := by decide +kernel
theorem dX1_tellPart_59 : decode cX1_tellPart 59 = .ok (.getfield 18, 3) := by decide +kernel
theorem dX1_tellPart_62 : decode cX1_tellPart 62 = .ok (.invokestatic 73, 3) := by decide +kernel
theorem dX1_tellPart_65 : decode cX1_tellPart 65 = .ok (.ireturn, 1) := by decide +kernel
theorem dX1_tellPart_66 : decode cX1_tellPart 66 = .ok (.aload_n 0, 1) := by decide +kernel
theorem dX1_tellPart_67 : decode cX1_tellPart 67 = .ok (.getfield 57, 3) := by decide +kernel
theorem dX1_tellPart_70 : decode cX1_tellPart 70 = .ok (.ireturn, 1) := by decide +kernel
theorem dX1_tellPart_71 : decode cX1_tellPart 71 = .ok (.aload_n 0, 1) := by decide +kernel
theorem dX1_tellPart_72 : decode cX1_tellPart 72 = .ok (.getfield 50, 3) := by decide +kernel
theorem dX1_tellPart_75 : decode cX1_tellPart 75 = .ok (.ireturn, 1) := by decide +kernel
theorem dX1_tellPart_76 : decode cX1_tellPart 76 = .ok (.iconst (-1), 1) := by decide +kernel
theorem dX1_tellPart_77 : decode cX1_tellPart 77 = .ok (.ireturn, 1) := by decide +kernel
set_option maxRecDepth 20000 in
theorem ggX2_init_X3_init : GoodIn wsX2_init wsX3_init := goodIn_r _ [14, 15, 2, 3] (by decide +kernel) (by decide +kernel)
set_option maxRecDepth 20000 in
theorem gX2_init_X3_init_n11 : GoodIn wsX2_init (wsX3_init) := ggX2_init_X3_init
theorem dX2_init_0 : decode cX2_init 0 = .ok (.aload_n 0, 1) := by decide +kernel
theorem dX2_init_1 : decode cX2_init 1 = .ok (.invokespecial 3, 3) := by decide +kernel
theorem dX2_init_4 : decode cX2_init 4 = .ok (.aload_n 0, 1) := by decide +kernel
theorem dX2_init_5 : decode cX2_init 5 = .ok (.new 9, 3) := by decide +kernel
theorem dX2_init_8 : decode cX2_init 8 = .ok (.dup, 1) := by decide +kernel
theorem dX2_init_9 : decode cX2_init 9 = .ok (.invokespecial 11, 3) := by decide +kernel
theorem dX2_init_12 : decode cX2_init 12 = .ok (.putfield 12, 3) := by decide +kernel
theorem dX2_init_15 : decode cX2_init 15 = .ok (.aload_n 0, 1) := by decide +kernel
theorem dX2_init_16 : decode cX2_init 16 = .ok (.bipush 100, 2) := by decide +kernel
theorem dX2_init_18 : decode cX2_init 18 = .ok (.newarray .int, 2) := by decide +kernel
theorem dX2_init_20 : decode cX2_init 20 = .ok (.putfield 18, 3) := by decide +kernel
theorem dX2_init_23 : decode cX2_init 23 = .ok (.aload_n 0, 1) := by decide +kernel
theorem dX2_init_24 : decode cX2_init 24 = .ok (.sipush 200, 3) := by decide +kernel
theorem dX2_init_27 : decode cX2_init 27 = .ok (.newarray .int, 2) := by decide +kernel
theorem dX2_init_29 : decode cX2_init 29 = .ok (.putfield 22, 3) := by decide +kernel
