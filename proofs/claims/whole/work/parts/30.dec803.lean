theorem dX8_flagOf_11 : decode cX8_flagOf 11 = .ok (.iload_n 1, 1) := by decide +kernel
theorem dX8_flagOf_12 : decode cX8_flagOf 12 = .ok (.iconst 1, 1) := by decide +kernel
theorem dX8_flagOf_13 : decode cX8_flagOf 13 = .ok (.if_icmp .ne 19, 3) := by decide +kernel
theorem dX8_flagOf_16 : decode cX8_flagOf 16 = .ok (.aload_n 0, 1) := by decide +kernel
theorem dX8_flagOf_17 : decode cX8_flagOf 17 = .ok (.getfield 159, 3) := by decide +kernel
theorem dX8_flagOf_20 : decode cX8_flagOf 20 = .ok (.iconst 1, 1) := by decide +kernel
theorem dX8_flagOf_21 : decode cX8_flagOf 21 = .ok (.if_icmp .ne 7, 3) := by decide +kernel
theorem dX8_flagOf_24 : decode cX8_flagOf 24 = .ok (.iconst 1, 1) := by decide +kernel
theorem dX8_flagOf_25 : decode cX8_flagOf 25 = .ok (.goto 33, 3) := by decide +kernel
theorem dX8_flagOf_28 : decode cX8_flagOf 28 = .ok (.iconst 0, 1) := by decide +kernel
theorem dX8_flagOf_29 : decode cX8_flagOf 29 = .ok (.goto 29, 3) := by decide +kernel
theorem dX8_flagOf_32 : decode cX8_flagOf 32 = .ok (.iload_n 1, 1) := by decide +kernel
theorem dX8_flagOf_33 : decode cX8_flagOf 33 = .ok (.bipush 6, 2) := by decide +kernel
theorem dX8_flagOf_35 : decode cX8_flagOf 35 = .ok (.if_icmp .lt 22, 3) := by decide +kernel
theorem dX8_flagOf_38 : decode cX8_flagOf 38 = .ok (.iload_n 1, 1) := by decide +kernel
theorem dX8_flagOf_39 : decode cX8_flagOf 39 = .ok (.bipush 12, 2) := by decide +kernel
theorem dX8_flagOf_41 : decode cX8_flagOf 41 = .ok (.if_icmp .ge 16, 3) := by decide +kernel
theorem dX8_flagOf_44 : decode cX8_flagOf 44 = .ok (.aload_n 0, 1) := by decide +kernel
theorem dX8_flagOf_45 : decode cX8_flagOf 45 = .ok (.getfield 24, 3) := by decide +kernel
theorem dX8_flagOf_48 : decode cX8_flagOf 48 = .ok (.iload_n 1, 1) := by decide +kernel
theorem dX8_flagOf_49 : decode cX8_flagOf 49 = .ok (.baload, 1) := by decide +kernel
theorem dX8_flagOf_50 : decode cX8_flagOf 50 = .ok (.ifCond .eq 7, 3) := by decide +kernel
theorem dX8_flagOf_53 : decode cX8_flagOf 53 = .ok (.iconst 1, 1) := by decide +kernel
theorem dX8_flagOf_54 : decode cX8_flagOf 54 = .ok (.goto 4, 3) := by decide +kernel
theorem dX8_flagOf_57 : decode cX8_flagOf 57 = .ok (.iconst 0, 1) := by decide +kernel
theorem dX8_flagOf_58 : decode cX8_flagOf 58 = .ok (.ireturn, 1) := by decide +kernel
theorem dX8_setFlag_0 : decode cX8_setFlag 0 = .ok (.iload_n 1, 1) := by decide +kernel
theorem dX8_setFlag_1 : decode cX8_setFlag 1 = .ok (.ifCond .ne 8, 3) := by decide +kernel
theorem dX8_setFlag_4 : decode cX8_setFlag 4 = .ok (.aload_n 0, 1) := by decide +kernel
theorem dX8_setFlag_5 : decode cX8_setFlag 5 = .ok (.iload_n 2, 1) := by decide +kernel
theorem dX8_setFlag_6 : decode cX8_setFlag 6 = .ok (.putfield 116, 3) := by decide +kernel
theorem dX8_setFlag_9 : decode cX8_setFlag 9 = .ok (.iload_n 1, 1) := by decide +kernel
theorem dX8_setFlag_10 : decode cX8_setFlag 10 = .ok (.iconst 1, 1) := by decide +kernel
theorem dX8_setFlag_11 : decode cX8_setFlag 11 = .ok (.if_icmp .ne 16, 3) := by decide +kernel
theorem dX8_setFlag_14 : decode cX8_setFlag 14 = .ok (.aload_n 0, 1) := by decide +kernel
theorem dX8_setFlag_15 : decode cX8_setFlag 15 = .ok (.iload_n 2, 1) := by decide +kernel
theorem dX8_setFlag_16 : decode cX8_setFlag 16 = .ok (.ifCond .eq 7, 3) := by decide +kernel
theorem dX8_setFlag_19 : decode cX8_setFlag 19 = .ok (.iconst 1, 1) := by decide +kernel
theorem dX8_setFlag_20 : decode cX8_setFlag 20 = .ok (.goto 4, 3) := by decide +kernel
theorem dX8_setFlag_23 : decode cX8_setFlag 23 = .ok (.iconst 0, 1) := by decide +kernel
theorem dX8_setFlag_24 : decode cX8_setFlag 24 = .ok (.putfield 159, 3) := by decide +kernel
theorem dX8_setFlag_27 : decode cX8_setFlag 27 = .ok (.iload_n 1, 1) := by decide +kernel
theorem dX8_setFlag_28 : decode cX8_setFlag 28 = .ok (.bipush 6, 2) := by decide +kernel
theorem dX8_setFlag_30 : decode cX8_setFlag 30 = .ok (.if_icmp .lt 9, 3) := by decide +kernel
theorem dX8_setFlag_33 : decode cX8_setFlag 33 = .ok (.iload_n 1, 1) := by decide +kernel
theorem dX8_setFlag_34 : decode cX8_setFlag 34 = .ok (.bipush 12, 2) := by decide +kernel
theorem dX8_setFlag_36 : decode cX8_setFlag 36 = .ok (.if_icmp .lt 4, 3) := by decide +kernel
theorem dX8_setFlag_39 : decode cX8_setFlag 39 = .ok (.return_, 1) := by decide +kernel
theorem dX8_setFlag_40 : decode cX8_setFlag 40 = .ok (.aload_n 0, 1) := by decide +kernel
theorem dX8_setFlag_41 : decode cX8_setFlag 41 = .ok (.getfield 24, 3) := by decide +kernel
theorem dX8_setFlag_44 : decode cX8_setFlag 44 = .ok (.iload_n 1, 1) := by decide +kernel
theorem dX8_setFlag_45 : decode cX8_setFlag 45 = .ok (.iload_n 2, 1) := by decide +kernel
theorem dX8_setFlag_46 : decode cX8_setFlag 46 = .ok (.bastore, 1) := by decide +kernel
theorem dX8_setFlag_47 : decode cX8_setFlag 47 = .ok (.aload_n 0, 1) := by decide +kernel
theorem dX8_setFlag_48 : decode cX8_setFlag 48 = .ok (.getfield 27, 3) := by decide +kernel
theorem dX8_setFlag_51 : decode cX8_setFlag 51 = .ok (.iload_n 1, 1) := by decide +kernel
theorem dX8_setFlag_52 : decode cX8_setFlag 52 = .ok (.iload_n 2, 1) := by decide +kernel
theorem dX8_setFlag_53 : decode cX8_setFlag 53 = .ok (.bastore, 1) := by decide +kernel
theorem dX8_setFlag_54 : decode cX8_setFlag 54 = .ok (.return_, 1) := by decide +kernel
theorem dX8_told_0 : decode cX8_told 0 = .ok (.iload_n 1, 1) := by decide +kernel
theorem dX8_told_1 : decode cX8_told 1 = .ok (.iconst 1, 1) := by decide +kernel
theorem dX8_told_2 : decode cX8_told 2 = .ok (.if_icmp .ne 8, 3) := by decide +kernel
theorem dX8_told_5 : decode cX8_told 5 = .ok (.aload_n 0, 1) := by decide +kernel
theorem dX8_told_6 : decode cX8_told 6 = .ok (.getfield 175, 3) := by decide +kernel
theorem dX8_told_9 : decode cX8_told 9 = .ok (.ireturn, 1) := by decide +kernel
theorem dX8_told_10 : decode cX8_told 10 = .ok (.iload_n 1, 1) := by decide +kernel
theorem dX8_told_11 : decode cX8_told 11 = .ok (.iconst 2, 1) := by decide +kernel
theorem dX8_told_12 : decode cX8_told 12 = .ok (.if_icmp .eq 8, 3) := by decide +kernel
theorem dX8_told_15 : decode cX8_told 15 = .ok (.iload_n 1, 1) := by decide +kernel
theorem dX8_told_16 : decode cX8_told 16 = .ok (.iconst 3, 1) := by decide +kernel
theorem dX8_told_17 : decode cX8_told 17 = .ok (.if_icmp .ne 12, 3) := by decide +kernel
theorem dX8_told_20 : decode cX8_told 20 = .ok (.aload_n 0, 1) := by decide +kernel
theorem dX8_told_21 : decode cX8_told 21 = .ok (.getfield 42, 3) := by decide +kernel
theorem dX8_told_24 : decode cX8_told 24 = .ok (.iload_n 1, 1) := by decide +kernel
theorem dX8_told_25 : decode cX8_told 25 = .ok (.iconst 4, 1) := by decide +kernel
theorem dX8_told_26 : decode cX8_told 26 = .ok (.iadd, 1) := by decide +kernel
theorem dX8_told_27 : decode cX8_told 27 = .ok (.iaload, 1) := by decide +kernel
theorem dX8_told_28 : decode cX8_told 28 = .ok (.ireturn, 1) := by decide +kernel
theorem dX8_told_29 : decode cX8_told 29 = .ok (.iload_n 1, 1) := by decide +kernel
theorem dX8_told_30 : decode cX8_told 30 = .ok (.bipush 8, 2) := by decide +kernel
theorem dX8_told_32 : decode cX8_told 32 = .ok (.if_icmp .lt 18, 3) := by decide +kernel
theorem dX8_told_35 : decode cX8_told 35 = .ok (.iload_n 1, 1) := by decide +kernel
theorem dX8_told_36 : decode cX8_told 36 = .ok (.bipush 12, 2) := by decide +kernel
theorem dX8_told_38 : decode cX8_told 38 = .ok (.if_icmp .ge 12, 3) := by decide +kernel
theorem dX8_told_41 : decode cX8_told 41 = .ok (.aload_n 0, 1) := by decide +kernel
theorem dX8_told_42 : decode cX8_told 42 = .ok (.getfield 57, 3) := by decide +kernel
theorem dX8_told_45 : decode cX8_told 45 = .ok (.iload_n 1, 1) := by decide +kernel
theorem dX8_told_46 : decode cX8_told 46 = .ok (.iaload, 1) := by decide +kernel
theorem dX8_told_47 : decode cX8_told 47 = .ok (.goto 4, 3) := by decide +kernel
theorem dX8_told_50 : decode cX8_told 50 = .ok (.iconst 0, 1) := by decide +kernel
theorem dX8_told_51 : decode cX8_told 51 = .ok (.ireturn, 1) := by decide +kernel
theorem dX8_goes_0 : decode cX8_goes 0 = .ok (.iload_n 1, 1) := by decide +kernel
theorem dX8_goes_1 : decode cX8_goes 1 = .ok (.iconst 1, 1) := by decide +kernel
theorem dX8_goes_2 : decode cX8_goes 2 = .ok (.if_icmp .ne 8, 3) := by decide +kernel
theorem dX8_goes_5 : decode cX8_goes 5 = .ok (.aload_n 0, 1) := by decide +kernel
theorem dX8_goes_6 : decode cX8_goes 6 = .ok (.iload_n 2, 1) := by decide +kernel
theorem dX8_goes_7 : decode cX8_goes 7 = .ok (.putfield 178, 3) := by decide +kernel
theorem dX8_goes_10 : decode cX8_goes 10 = .ok (.iload_n 1, 1) := by decide +kernel
theorem dX8_goes_11 : decode cX8_goes 11 = .ok (.iconst 2, 1) := by decide +kernel
theorem dX8_goes_12 : decode cX8_goes 12 = .ok (.if_icmp .eq 8, 3) := by decide +kernel
theorem dX8_goes_15 : decode cX8_goes 15 = .ok (.iload_n 1, 1) := by decide +kernel
theorem dX8_goes_16 : decode cX8_goes 16 = .ok (.iconst 3, 1) := by decide +kernel
theorem dX8_goes_17 : decode cX8_goes 17 = .ok (.if_icmp .ne 56, 3) := by decide +kernel
theorem dX8_goes_20 : decode cX8_goes 20 = .ok (.iload_n 1, 1) := by decide +kernel
theorem dX8_goes_21 : decode cX8_goes 21 = .ok (.iconst 4, 1) := by decide +kernel
theorem dX8_goes_22 : decode cX8_goes 22 = .ok (.iadd, 1) := by decide +kernel
theorem dX8_goes_23 : decode cX8_goes 23 = .ok (.istore_n 3, 1) := by decide +kernel
theorem dX8_goes_24 : decode cX8_goes 24 = .ok (.aload_n 0, 1) := by decide +kernel
theorem dX8_goes_25 : decode cX8_goes 25 = .ok (.getfield 36, 3) := by decide +kernel
theorem dX8_goes_28 : decode cX8_goes 28 = .ok (.iload_n 3, 1) := by decide +kernel
theorem dX8_goes_29 : decode cX8_goes 29 = .ok (.baload, 1) := by decide +kernel
theorem dX8_goes_30 : decode cX8_goes 30 = .ok (.ifCond .eq 13, 3) := by decide +kernel
theorem dX8_goes_33 : decode cX8_goes 33 = .ok (.aload_n 0, 1) := by decide +kernel
theorem dX8_goes_34 : decode cX8_goes 34 = .ok (.getfield 42, 3) := by decide +kernel
theorem dX8_goes_37 : decode cX8_goes 37 = .ok (.iload_n 3, 1) := by decide +kernel
theorem dX8_goes_38 : decode cX8_goes 38 = .ok (.iload_n 2, 1) := by decide +kernel
theorem dX8_goes_39 : decode cX8_goes 39 = .ok (.iastore, 1) := by decide +kernel
theorem dX8_goes_40 : decode cX8_goes 40 = .ok (.goto 33, 3) := by decide +kernel
theorem dX8_goes_43 : decode cX8_goes 43 = .ok (.aload_n 0, 1) := by decide +kernel
theorem dX8_goes_44 : decode cX8_goes 44 = .ok (.getfield 39, 3) := by decide +kernel
theorem dX8_goes_47 : decode cX8_goes 47 = .ok (.iload_n 3, 1) := by decide +kernel
theorem dX8_goes_48 : decode cX8_goes 48 = .ok (.iload_n 2, 1) := by decide +kernel
theorem dX8_goes_49 : decode cX8_goes 49 = .ok (.sipush 32767, 3) := by decide +kernel
theorem dX8_goes_52 : decode cX8_goes 52 = .ok (.iand, 1) := by decide +kernel
theorem dX8_goes_53 : decode cX8_goes 53 = .ok (.iastore, 1) := by decide +kernel
theorem dX8_goes_54 : decode cX8_goes 54 = .ok (.aload_n 0, 1) := by decide +kernel
theorem dX8_goes_55 : decode cX8_goes 55 = .ok (.getfield 33, 3) := by decide +kernel
theorem dX8_goes_58 : decode cX8_goes 58 = .ok (.iload_n 3, 1) := by decide +kernel
theorem dX8_goes_59 : decode cX8_goes 59 = .ok (.iload_n 2, 1) := by decide +kernel
theorem dX8_goes_60 : decode cX8_goes 60 = .ok (.bipush 15, 2) := by decide +kernel
theorem dX8_goes_62 : decode cX8_goes 62 = .ok (.ishr, 1) := by decide +kernel
theorem dX8_goes_63 : decode cX8_goes 63 = .ok (.iconst 1, 1) := by decide +kernel
theorem dX8_goes_64 : decode cX8_goes 64 = .ok (.if_icmp .ne 7, 3) := by decide +kernel
theorem dX8_goes_67 : decode cX8_goes 67 = .ok (.iconst 1, 1) := by decide +kernel
theorem dX8_goes_68 : decode cX8_goes 68 = .ok (.goto 4, 3) := by decide +kernel
theorem dX8_goes_71 : decode cX8_goes 71 = .ok (.iconst 0, 1) := by decide +kernel
theorem dX8_goes_72 : decode cX8_goes 72 = .ok (.bastore, 1) := by decide +kernel
theorem dX8_goes_73 : decode cX8_goes 73 = .ok (.iload_n 1, 1) := by decide +kernel
theorem dX8_goes_74 : decode cX8_goes 74 = .ok (.bipush 6, 2) := by decide +kernel
theorem dX8_goes_76 : decode cX8_goes 76 = .ok (.if_icmp .eq 9, 3) := by decide +kernel
theorem dX8_goes_79 : decode cX8_goes 79 = .ok (.iload_n 1, 1) := by decide +kernel
theorem dX8_goes_80 : decode cX8_goes 80 = .ok (.bipush 7, 2) := by decide +kernel
theorem dX8_goes_82 : decode cX8_goes 82 = .ok (.if_icmp .ne 10, 3) := by decide +kernel
theorem dX8_goes_85 : decode cX8_goes 85 = .ok (.aload_n 0, 1) := by decide +kernel
theorem dX8_goes_86 : decode cX8_goes 86 = .ok (.getfield 45, 3) := by decide +kernel
theorem dX8_goes_89 : decode cX8_goes 89 = .ok (.iload_n 1, 1) := by decide +kernel
theorem dX8_goes_90 : decode cX8_goes 90 = .ok (.iload_n 2, 1) := by decide +kernel
theorem dX8_goes_91 : decode cX8_goes 91 = .ok (.iastore, 1) := by decide +kernel
theorem dX8_goes_92 : decode cX8_goes 92 = .ok (.iload_n 1, 1) := by decide +kernel
theorem dX8_goes_93 : decode cX8_goes 93 = .ok (.bipush 8, 2) := by decide +kernel
theorem dX8_goes_95 : decode cX8_goes 95 = .ok (.if_icmp .lt 16, 3) := by decide +kernel
theorem dX8_goes_98 : decode cX8_goes 98 = .ok (.iload_n 1, 1) := by decide +kernel
theorem dX8_goes_99 : decode cX8_goes 99 = .ok (.bipush 12, 2) := by decide +kernel
theorem dX8_goes_101 : decode cX8_goes 101 = .ok (.if_icmp .ge 10, 3) := by decide +kernel
theorem dX8_goes_104 : decode cX8_goes 104 = .ok (.aload_n 0, 1) := by decide +kernel
theorem dX8_goes_105 : decode cX8_goes 105 = .ok (.getfield 57, 3) := by decide +kernel
theorem dX8_goes_108 : decode cX8_goes 108 = .ok (.iload_n 1, 1) := by decide +kernel
theorem dX8_goes_109 : decode cX8_goes 109 = .ok (.iload_n 2, 1) := by decide +kernel
theorem dX8_goes_110 : decode cX8_goes 110 = .ok (.iastore, 1) := by decide +kernel
theorem dX8_goes_111 : decode cX8_goes 111 = .ok (.return_, 1) := by decide +kernel
set_option maxRecDepth 20000 in
theorem ggX8_setControl_X8_started : GoodIn wsX8_setControl wsX8_started := goodIn_r _ [8, 9, 10, 11, 12, 13, 14, 15, 16, 17, 18, 19, 20, 21, 22, 23, 24, 25, 26, 27, 28, 29, 30, 31, 32, 33, 34, 35, 36, 37, 38, 39, 40, 41, 42, 43, 44, 45] (by decide +kernel) (by decide +kernel)
set_option maxRecDepth 20000 in
theorem gX8_setControl_X8_started : GoodIn wsX8_setControl (wsV RX8 103 RX8 yX8_started wsX8_started) := goodIn_app (goodIn_of _ (by decide +kernel)) ggX8_setControl_X8_started
theorem dX8_setControl_0 : decode cX8_setControl 0 = .ok (.iload_n 1, 1) := by decide +kernel
theorem dX8_setControl_1 : decode cX8_setControl 1 = .ok (.iconst 2, 1) := by decide +kernel
theorem dX8_setControl_2 : decode cX8_setControl 2 = .ok (.if_icmp .eq 8, 3) := by decide +kernel
theorem dX8_setControl_5 : decode cX8_setControl 5 = .ok (.iload_n 1, 1) := by decide +kernel
theorem dX8_setControl_6 : decode cX8_setControl 6 = .ok (.iconst 3, 1) := by decide +kernel
theorem dX8_setControl_7 : decode cX8_setControl 7 = .ok (.if_icmp .ne 12, 3) := by decide +kernel
theorem dX8_setControl_10 : decode cX8_setControl 10 = .ok (.aload_n 0, 1) := by decide +kernel
theorem dX8_setControl_11 : decode cX8_setControl 11 = .ok (.getfield 36, 3) := by decide +kernel
theorem dX8_setControl_14 : decode cX8_setControl 14 = .ok (.iload_n 1, 1) := by decide +kernel
theorem dX8_setControl_15 : decode cX8_setControl 15 = .ok (.iconst 4, 1) := by decide +kernel
theorem dX8_setControl_16 : decode cX8_setControl 16 = .ok (.iadd, 1) := by decide +kernel
theorem dX8_setControl_17 : decode cX8_setControl 17 = .ok (.iload_n 2, 1) := by decide +kernel
theorem dX8_setControl_18 : decode cX8_setControl 18 = .ok (.bastore, 1) := by decide +kernel
theorem dX8_setControl_19 : decode cX8_setControl 19 = .ok (.iload_n 1, 1) := by decide +kernel
theorem dX8_setControl_20 : decode cX8_setControl 20 = .ok (.ifCond .ne 36, 3) := by decide +kernel
theorem dX8_setControl_23 : decode cX8_setControl 23 = .ok (.iload_n 2, 1) := by decide +kernel
theorem dX8_setControl_24 : decode cX8_setControl 24 = .ok (.ifCond .ne 32, 3) := by decide +kernel
theorem dX8_setControl_27 : decode cX8_setControl 27 = .ok (.bipush 6, 2) := by decide +kernel
theorem dX8_setControl_29 : decode cX8_setControl 29 = .ok (.istore_n 3, 1) := by decide +kernel
theorem dX8_setControl_30 : decode cX8_setControl 30 = .ok (.iload_n 3, 1) := by decide +kernel
theorem dX8_setControl_31 : decode cX8_setControl 31 = .ok (.bipush 12, 2) := by decide +kernel
theorem dX8_setControl_33 : decode cX8_setControl 33 = .ok (.if_icmp .ge 23, 3) := by decide +kernel
theorem dX8_setControl_36 : decode cX8_setControl 36 = .ok (.aload_n 0, 1) := by decide +kernel
theorem dX8_setControl_37 : decode cX8_setControl 37 = .ok (.getfield 20, 3) := by decide +kernel
theorem dX8_setControl_40 : decode cX8_setControl 40 = .ok (.iload_n 3, 1) := by decide +kernel
theorem dX8_setControl_41 : decode cX8_setControl 41 = .ok (.iconst 0, 1) := by decide +kernel
theorem dX8_setControl_42 : decode cX8_setControl 42 = .ok (.bastore, 1) := by decide +kernel
theorem dX8_setControl_43 : decode cX8_setControl 43 = .ok (.aload_n 0, 1) := by decide +kernel
theorem dX8_setControl_44 : decode cX8_setControl 44 = .ok (.getfield 30, 3) := by decide +kernel
theorem dX8_setControl_47 : decode cX8_setControl 47 = .ok (.iload_n 3, 1) := by decide +kernel
theorem dX8_setControl_48 : decode cX8_setControl 48 = .ok (.iconst 0, 1) := by decide +kernel
theorem dX8_setControl_49 : decode cX8_setControl 49 = .ok (.bastore, 1) := by decide +kernel
theorem dX8_setControl_50 : decode cX8_setControl 50 = .ok (.iinc 3 1, 3) := by decide +kernel
theorem dX8_setControl_53 : decode cX8_setControl 53 = .ok (.goto (-23), 3) := by decide +kernel
theorem dX8_setControl_56 : decode cX8_setControl 56 = .ok (.iload_n 1, 1) := by decide +kernel
theorem dX8_setControl_57 : decode cX8_setControl 57 = .ok (.bipush 6, 2) := by decide +kernel
theorem dX8_setControl_59 : decode cX8_setControl 59 = .ok (.if_icmp .lt 9, 3) := by decide +kernel
theorem dX8_setControl_62 : decode cX8_setControl 62 = .ok (.iload_n 1, 1) := by decide +kernel
theorem dX8_setControl_63 : decode cX8_setControl 63 = .ok (.bipush 12, 2) := by decide +kernel
theorem dX8_setControl_65 : decode cX8_setControl 65 = .ok (.if_icmp .lt 4, 3) := by decide +kernel
theorem dX8_setControl_68 : decode cX8_setControl 68 = .ok (.return_, 1) := by decide +kernel
theorem dX8_setControl_69 : decode cX8_setControl 69 = .ok (.aload_n 0, 1) := by decide +kernel
theorem dX8_setControl_70 : decode cX8_setControl 70 = .ok (.getfield 20, 3) := by decide +kernel
theorem dX8_setControl_73 : decode cX8_setControl 73 = .ok (.iload_n 1, 1) := by decide +kernel
theorem dX8_setControl_74 : decode cX8_setControl 74 = .ok (.iload_n 2, 1) := by decide +kernel
theorem dX8_setControl_75 : decode cX8_setControl 75 = .ok (.bastore, 1) := by decide +kernel
theorem dX8_setControl_76 : decode cX8_setControl 76 = .ok (.iload_n 1, 1) := by decide +kernel
theorem dX8_setControl_77 : decode cX8_setControl 77 = .ok (.bipush 8, 2) := by decide +kernel
theorem dX8_setControl_79 : decode cX8_setControl 79 = .ok (.if_icmp .ge 13, 3) := by decide +kernel
theorem dX8_setControl_82 : decode cX8_setControl 82 = .ok (.aload_n 0, 1) := by decide +kernel
theorem dX8_setControl_83 : decode cX8_setControl 83 = .ok (.getfield 30, 3) := by decide +kernel
theorem dX8_setControl_86 : decode cX8_setControl 86 = .ok (.iload_n 1, 1) := by decide +kernel
theorem dX8_setControl_87 : decode cX8_setControl 87 = .ok (.iload_n 2, 1) := by decide +kernel
theorem dX8_setControl_88 : decode cX8_setControl 88 = .ok (.bastore, 1) := by decide +kernel
theorem dX8_setControl_89 : decode cX8_setControl 89 = .ok (.goto 12, 3) := by decide +kernel
theorem dX8_setControl_92 : decode cX8_setControl 92 = .ok (.iload_n 2, 1) := by decide +kernel
theorem dX8_setControl_93 : decode cX8_setControl 93 = .ok (.ifCond .eq 8, 3) := by decide +kernel
theorem dX8_setControl_96 : decode cX8_setControl 96 = .ok (.aload_n 0, 1) := by decide +kernel
theorem dX8_setControl_97 : decode cX8_setControl 97 = .ok (.iload_n 1, 1) := by decide +kernel
theorem dX8_setControl_98 : decode cX8_setControl 98 = .ok (.invokevirtual 103, 3) := by decide +kernel
theorem dX8_setControl_101 : decode cX8_setControl 101 = .ok (.return_, 1) := by decide +kernel
set_option maxRecDepth 20000 in
theorem ggX8_codes_X8_is : GoodIn wsX8_codes wsX8_is := goodIn_r _ [9] (by decide +kernel) (by decide +kernel)
set_option maxRecDepth 20000 in
theorem gX8_codes_X8_is : GoodIn wsX8_codes (va_wsS RX8 165 yX8_is wsX8_is) := goodIn_app (goodIn_of _ (by decide +kernel)) ggX8_codes_X8_is
set_option maxRecDepth 20000 in
theorem ggX8_codes_X8_setFlag : GoodIn wsX8_codes wsX8_setFlag := goodIn_r _ [13, 14, 15, 16, 17, 58, 59, 60, 61, 62, 63, 64, 65, 66, 67, 68, 69, 70, 71, 72, 73, 74, 75, 76, 77, 78, 79, 80, 81, 82, 83, 84, 85, 86, 87, 88, 89, 90, 91, 92] (by decide +kernel) (by decide +kernel)
set_option maxRecDepth 20000 in
theorem gX8_codes_X8_setFlag : GoodIn wsX8_codes (wsV RX8 181 RX8 yX8_setFlag wsX8_setFlag) := goodIn_app (goodIn_of _ (by decide +kernel)) ggX8_codes_X8_setFlag
set_option maxRecDepth 20000 in
theorem ggX8_codes_X8_flagOf : GoodIn wsX8_codes wsX8_flagOf := goodIn_r _ [21, 14, 15, 16, 58, 59, 60, 61, 62, 63, 64, 65, 66, 67, 68, 69, 70, 71, 72, 73, 74, 75, 76, 77, 78, 79, 80, 81, 82, 83, 84, 85, 86, 87, 88, 89, 90, 91, 92] (by decide +kernel) (by decide +kernel)
set_option maxRecDepth 20000 in
theorem gX8_codes_X8_flagOf : GoodIn wsX8_codes (wsV RX8 185 RX8 yX8_flagOf wsX8_flagOf) := goodIn_app (goodIn_of _ (by decide +kernel)) ggX8_codes_X8_flagOf
set_option maxRecDepth 20000 in
theorem ggX8_codes_X8_skip : GoodIn wsX8_codes wsX8_skip := goodIn_r _ [25, 26, 27, 28, 8, 29, 58, 59, 60, 61, 62, 63, 64, 65, 66, 67, 68, 69, 70, 71, 72, 73, 74, 75, 76, 77, 78, 79, 80, 81, 82, 83, 84, 85, 86, 87, 88, 89, 90, 91, 92] (by decide +kernel) (by decide +kernel)
set_option maxRecDepth 20000 in
theorem gX8_codes_X8_skip : GoodIn wsX8_codes (wsV RX8 147 RX8 yX8_skip wsX8_skip) := goodIn_app (goodIn_of _ (by decide +kernel)) ggX8_codes_X8_skip
set_option maxRecDepth 20000 in
theorem ggX8_codes_X8_told : GoodIn wsX8_codes wsX8_told := goodIn_r _ [33, 34, 35, 36, 58, 59, 60, 61, 62, 63, 64, 65, 66, 67, 68, 69, 70, 71, 72, 73, 74, 75, 76, 77, 78, 79, 80, 81, 82, 83, 84, 85, 86, 87, 88, 89, 90, 91, 92] (by decide +kernel) (by decide +kernel)
set_option maxRecDepth 20000 in
theorem gX8_codes_X8_told : GoodIn wsX8_codes (wsV RX8 189 RX8 yX8_told wsX8_told) := goodIn_app (goodIn_of _ (by decide +kernel)) ggX8_codes_X8_told
set_option maxRecDepth 20000 in
theorem ggX8_codes_X8_goes : GoodIn wsX8_codes wsX8_goes := goodIn_r _ [40, 41, 42, 35, 43, 44, 45, 36, 58, 59, 60, 61, 62, 63, 64, 65, 66, 67, 68, 69, 70, 71, 72, 73, 74, 75, 76, 77, 78, 79, 80, 81, 82, 83, 84, 85, 86, 87, 88, 89, 90, 91, 92] (by decide +kernel) (by decide +kernel)
set_option maxRecDepth 20000 in
theorem gX8_codes_X8_goes : GoodIn wsX8_codes (wsV RX8 192 RX8 yX8_goes wsX8_goes) := goodIn_app (goodIn_of _ (by decide +kernel)) ggX8_codes_X8_goes
set_option maxRecDepth 20000 in
theorem ggX8_codes_X8_setControl : GoodIn wsX8_codes wsX8_setControl := goodIn_r _ [49, 42, 50, 51, 52, 53, 54, 8, 55, 56, 57, 58, 59, 60, 61, 62, 63, 64, 65, 66, 67, 68, 69, 70, 71, 72, 73, 74, 75, 76, 77, 78, 79, 80, 81, 82, 83, 84, 85, 86, 87, 88, 89, 90, 91, 92] (by decide +kernel) (by decide +kernel)
set_option maxRecDepth 20000 in
theorem gX8_codes_X8_setControl : GoodIn wsX8_codes (wsV RX8 195 RX8 yX8_setControl wsX8_setControl) := goodIn_app (goodIn_of _ (by decide +kernel)) ggX8_codes_X8_setControl
theorem dX8_codes_0 : decode cX8_codes 0 = .ok (.iload_n 1, 1) := by decide +kernel
theorem dX8_codes_1 : decode cX8_codes 1 = .ok (.bipush 63, 2) := by decide +kernel
theorem dX8_codes_3 : decode cX8_codes 3 = .ok (.iand, 1) := by decide +kernel
theorem dX8_codes_4 : decode cX8_codes 4 = .ok (.istore_n 2, 1) := by decide +kernel
theorem dX8_codes_5 : decode cX8_codes 5 = .ok (.iload_n 1, 1) := by decide +kernel
theorem dX8_codes_6 : decode cX8_codes 6 = .ok (.bipush 11, 2) := by decide +kernel
theorem dX8_codes_8 : decode cX8_codes 8 = .ok (.invokestatic 165, 3) := by decide +kernel
theorem dX8_codes_11 : decode cX8_codes 11 = .ok (.istore_n 3, 1) := by decide +kernel
theorem dX8_codes_12 : decode cX8_codes 12 = .ok (.iload_n 1, 1) := by decide +kernel
theorem dX8_codes_13 : decode cX8_codes 13 = .ok (.bipush 9, 2) := by decide +kernel
theorem dX8_codes_15 : decode cX8_codes 15 = .ok (.invokestatic 165, 3) := by decide +kernel
theorem dX8_codes_18 : decode cX8_codes 18 = .ok (.istore 4, 2) := by decide +kernel
theorem dX8_codes_20 : decode cX8_codes 20 = .ok (.iload_n 1, 1) := by decide +kernel
theorem dX8_codes_21 : decode cX8_codes 21 = .ok (.bipush 6, 2) := by decide +kernel
theorem dX8_codes_23 : decode cX8_codes 23 = .ok (.ishr, 1) := by decide +kernel
theorem dX8_codes_24 : decode cX8_codes 24 = .ok (.bipush 7, 2) := by decide +kernel
theorem dX8_codes_26 : decode cX8_codes 26 = .ok (.iand, 1) := by decide +kernel
theorem dX8_codes_27 : decode cX8_codes 27 = .ok (.istore 5, 2) := by decide +kernel
theorem dX8_codes_29 : decode cX8_codes 29 = .ok (.iload_n 3, 1) := by decide +kernel
theorem dX8_codes_30 : decode cX8_codes 30 = .ok (.ifCond .eq 10, 3) := by decide +kernel
theorem dX8_codes_33 : decode cX8_codes 33 = .ok (.aload_n 0, 1) := by decide +kernel
theorem dX8_codes_34 : decode cX8_codes 34 = .ok (.getfield 81, 3) := by decide +kernel
theorem dX8_codes_37 : decode cX8_codes 37 = .ok (.goto 7, 3) := by decide +kernel
theorem dX8_codes_40 : decode cX8_codes 40 = .ok (.aload_n 0, 1) := by decide +kernel
theorem dX8_codes_41 : decode cX8_codes 41 = .ok (.getfield 78, 3) := by decide +kernel
theorem dX8_codes_44 : decode cX8_codes 44 = .ok (.istore 6, 2) := by decide +kernel
theorem dX8_codes_46 : decode cX8_codes 46 = .ok (.iload 5, 2) := by decide +kernel
theorem dX8_codes_48 : decode cX8_codes 48 = .ok (.tableswitch 140 0 6 #[44, 57, 75, 95, 107, 120, 130], 44) := by decide +kernel
theorem dX8_codes_92 : decode cX8_codes 92 = .ok (.aload_n 0, 1) := by decide +kernel
theorem dX8_codes_93 : decode cX8_codes 93 = .ok (.iconst 1, 1) := by decide +kernel
theorem dX8_codes_94 : decode cX8_codes 94 = .ok (.putfield 91, 3) := by decide +kernel
theorem dX8_codes_97 : decode cX8_codes 97 = .ok (.aload_n 0, 1) := by decide +kernel
theorem dX8_codes_98 : decode cX8_codes 98 = .ok (.iload_n 2, 1) := by decide +kernel
theorem dX8_codes_99 : decode cX8_codes 99 = .ok (.putfield 13, 3) := by decide +kernel
theorem dX8_codes_102 : decode cX8_codes 102 = .ok (.goto 100, 3) := by decide +kernel
theorem dX8_codes_105 : decode cX8_codes 105 = .ok (.aload_n 0, 1) := by decide +kernel
theorem dX8_codes_106 : decode cX8_codes 106 = .ok (.iload_n 2, 1) := by decide +kernel
theorem dX8_codes_107 : decode cX8_codes 107 = .ok (.iload 4, 2) := by decide +kernel
theorem dX8_codes_109 : decode cX8_codes 109 = .ok (.ifCond .ne 7, 3) := by decide +kernel
theorem dX8_codes_112 : decode cX8_codes 112 = .ok (.iconst 1, 1) := by decide +kernel
theorem dX8_codes_113 : decode cX8_codes 113 = .ok (.goto 4, 3) := by decide +kernel
theorem dX8_codes_116 : decode cX8_codes 116 = .ok (.iconst 0, 1) := by decide +kernel
theorem dX8_codes_117 : decode cX8_codes 117 = .ok (.invokevirtual 181, 3) := by decide +kernel
theorem dX8_codes_120 : decode cX8_codes 120 = .ok (.goto 82, 3) := by decide +kernel
theorem dX8_codes_123 : decode cX8_codes 123 = .ok (.aload_n 0, 1) := by decide +kernel
theorem dX8_codes_124 : decode cX8_codes 124 = .ok (.aload_n 0, 1) := by decide +kernel
theorem dX8_codes_125 : decode cX8_codes 125 = .ok (.iload_n 2, 1) := by decide +kernel
theorem dX8_codes_126 : decode cX8_codes 126 = .ok (.invokevirtual 185, 3) := by decide +kernel
theorem dX8_codes_129 : decode cX8_codes 129 = .ok (.ifCond .ne 7, 3) := by decide +kernel
theorem dX8_codes_132 : decode cX8_codes 132 = .ok (.iconst 1, 1) := by decide +kernel
theorem dX8_codes_133 : decode cX8_codes 133 = .ok (.goto 4, 3) := by decide +kernel
theorem dX8_codes_136 : decode cX8_codes 136 = .ok (.iconst 0, 1) := by decide +kernel
theorem dX8_codes_137 : decode cX8_codes 137 = .ok (.invokevirtual 147, 3) := by decide +kernel
theorem dX8_codes_140 : decode cX8_codes 140 = .ok (.goto 62, 3) := by decide +kernel
theorem dX8_codes_143 : decode cX8_codes 143 = .ok (.aload_n 0, 1) := by decide +kernel
theorem dX8_codes_144 : decode cX8_codes 144 = .ok (.aload_n 0, 1) := by decide +kernel
theorem dX8_codes_145 : decode cX8_codes 145 = .ok (.iload_n 2, 1) := by decide +kernel
theorem dX8_codes_146 : decode cX8_codes 146 = .ok (.invokevirtual 185, 3) := by decide +kernel
theorem dX8_codes_149 : decode cX8_codes 149 = .ok (.invokevirtual 147, 3) := by decide +kernel
theorem dX8_codes_152 : decode cX8_codes 152 = .ok (.goto 50, 3) := by decide +kernel
theorem dX8_codes_155 : decode cX8_codes 155 = .ok (.iload 6, 2) := by decide +kernel
theorem dX8_codes_157 : decode cX8_codes 157 = .ok (.aload_n 0, 1) := by decide +kernel
theorem dX8_codes_158 : decode cX8_codes 158 = .ok (.iload_n 2, 1) := by decide +kernel
theorem dX8_codes_159 : decode cX8_codes 159 = .ok (.invokevirtual 189, 3) := by decide +kernel
theorem dX8_codes_162 : decode cX8_codes 162 = .ok (.ior, 1) := by decide +kernel
theorem dX8_codes_163 : decode cX8_codes 163 = .ok (.istore 6, 2) := by decide +kernel
theorem dX8_codes_165 : decode cX8_codes 165 = .ok (.goto 37, 3) := by decide +kernel
theorem dX8_codes_168 : decode cX8_codes 168 = .ok (.aload_n 0, 1) := by decide +kernel
theorem dX8_codes_169 : decode cX8_codes 169 = .ok (.iload_n 2, 1) := by decide +kernel
theorem dX8_codes_170 : decode cX8_codes 170 = .ok (.invokevirtual 189, 3) := by decide +kernel
theorem dX8_codes_173 : decode cX8_codes 173 = .ok (.istore 6, 2) := by decide +kernel
theorem dX8_codes_175 : decode cX8_codes 175 = .ok (.goto 27, 3) := by decide +kernel
theorem dX8_codes_178 : decode cX8_codes 178 = .ok (.aload_n 0, 1) := by decide +kernel
theorem dX8_codes_179 : decode cX8_codes 179 = .ok (.iload_n 2, 1) := by decide +kernel
theorem dX8_codes_180 : decode cX8_codes 180 = .ok (.iload 6, 2) := by decide +kernel
theorem dX8_codes_182 : decode cX8_codes 182 = .ok (.invokevirtual 192, 3) := by decide +kernel
theorem dX8_codes_185 : decode cX8_codes 185 = .ok (.goto 17, 3) := by decide +kernel
theorem dX8_codes_188 : decode cX8_codes 188 = .ok (.aload_n 0, 1) := by decide +kernel
theorem dX8_codes_189 : decode cX8_codes 189 = .ok (.iload_n 2, 1) := by decide +kernel
theorem dX8_codes_190 : decode cX8_codes 190 = .ok (.iload_n 3, 1) := by decide +kernel
theorem dX8_codes_191 : decode cX8_codes 191 = .ok (.ifCond .ne 7, 3) := by decide +kernel
theorem dX8_codes_194 : decode cX8_codes 194 = .ok (.iconst 1, 1) := by decide +kernel
theorem dX8_codes_195 : decode cX8_codes 195 = .ok (.goto 4, 3) := by decide +kernel
theorem dX8_codes_198 : decode cX8_codes 198 = .ok (.iconst 0, 1) := by decide +kernel
theorem dX8_codes_199 : decode cX8_codes 199 = .ok (.invokevirtual 195, 3) := by decide +kernel
theorem dX8_codes_202 : decode cX8_codes 202 = .ok (.iload 5, 2) := by decide +kernel
theorem dX8_codes_204 : decode cX8_codes 204 = .ok (.iconst 4, 1) := by decide +kernel
theorem dX8_codes_205 : decode cX8_codes 205 = .ok (.if_icmp .eq 9, 3) := by decide +kernel
theorem dX8_codes_208 : decode cX8_codes 208 = .ok (.iload 5, 2) := by decide +kernel
theorem dX8_codes_210 : decode cX8_codes 210 = .ok (.iconst 5, 1) := by decide +kernel
theorem dX8_codes_211 : decode cX8_codes 211 = .ok (.if_icmp .ne 22, 3) := by decide +kernel
theorem dX8_codes_214 : decode cX8_codes 214 = .ok (.iload_n 3, 1) := by decide +kernel
theorem dX8_codes_215 : decode cX8_codes 215 = .ok (.ifCond .eq 12, 3) := by decide +kernel
theorem dX8_codes_218 : decode cX8_codes 218 = .ok (.aload_n 0, 1) := by decide +kernel
theorem dX8_codes_219 : decode cX8_codes 219 = .ok (.iload 6, 2) := by decide +kernel
theorem dX8_codes_221 : decode cX8_codes 221 = .ok (.putfield 81, 3) := by decide +kernel
theorem dX8_codes_224 : decode cX8_codes 224 = .ok (.goto 9, 3) := by decide +kernel
theorem dX8_codes_227 : decode cX8_codes 227 = .ok (.aload_n 0, 1) := by decide +kernel
theorem dX8_codes_228 : decode cX8_codes 228 = .ok (.iload 6, 2) := by decide +kernel
theorem dX8_codes_230 : decode cX8_codes 230 = .ok (.putfield 78, 3) := by decide +kernel
theorem dX8_codes_233 : decode cX8_codes 233 = .ok (.iload 4, 2) := by decide +kernel
theorem dX8_codes_235 : decode cX8_codes 235 = .ok (.ifCond .eq 27, 3) := by decide +kernel
theorem dX8_codes_238 : decode cX8_codes 238 = .ok (.iload 5, 2) := by decide +kernel
theorem dX8_codes_240 : decode cX8_codes 240 = .ok (.iconst 1, 1) := by decide +kernel
theorem dX8_codes_241 : decode cX8_codes 241 = .ok (.if_icmp .eq 21, 3) := by decide +kernel
theorem dX8_codes_244 : decode cX8_codes 244 = .ok (.iload 5, 2) := by decide +kernel
theorem dX8_codes_246 : decode cX8_codes 246 = .ok (.iconst 2, 1) := by decide +kernel
theorem dX8_codes_247 : decode cX8_codes 247 = .ok (.if_icmp .eq 15, 3) := by decide +kernel
theorem dX8_codes_250 : decode cX8_codes 250 = .ok (.iload 5, 2) := by decide +kernel
theorem dX8_codes_252 : decode cX8_codes 252 = .ok (.iconst 3, 1) := by decide +kernel
theorem dX8_codes_253 : decode cX8_codes 253 = .ok (.if_icmp .eq 9, 3) := by decide +kernel
theorem dX8_codes_256 : decode cX8_codes 256 = .ok (.aload_n 0, 1) := by decide +kernel
theorem dX8_codes_257 : decode cX8_codes 257 = .ok (.iload_n 2, 1) := by decide +kernel
theorem dX8_codes_258 : decode cX8_codes 258 = .ok (.iconst 0, 1) := by decide +kernel
theorem dX8_codes_259 : decode cX8_codes 259 = .ok (.invokevirtual 181, 3) := by decide +kernel
theorem dX8_codes_262 : decode cX8_codes 262 = .ok (.aload_n 0, 1) := by decide +kernel
theorem dX8_codes_263 : decode cX8_codes 263 = .ok (.iload 5, 2) := by decide +kernel
theorem dX8_codes_265 : decode cX8_codes 265 = .ok (.iconst 1, 1) := by decide +kernel
theorem dX8_codes_266 : decode cX8_codes 266 = .ok (.if_icmp .eq 27, 3) := by decide +kernel
theorem dX8_codes_269 : decode cX8_codes 269 = .ok (.iload 5, 2) := by decide +kernel
theorem dX8_codes_271 : decode cX8_codes 271 = .ok (.bipush 7, 2) := by decide +kernel
theorem dX8_codes_273 : decode cX8_codes 273 = .ok (.if_icmp .eq 20, 3) := by decide +kernel
theorem dX8_codes_276 : decode cX8_codes 276 = .ok (.iload 4, 2) := by decide +kernel
theorem dX8_codes_278 : decode cX8_codes 278 = .ok (.ifCond .eq 19, 3) := by decide +kernel
theorem dX8_codes_281 : decode cX8_codes 281 = .ok (.iload 5, 2) := by decide +kernel
theorem dX8_codes_283 : decode cX8_codes 283 = .ok (.iconst 2, 1) := by decide +kernel
theorem dX8_codes_284 : decode cX8_codes 284 = .ok (.if_icmp .eq 13, 3) := by decide +kernel
theorem dX8_codes_287 : decode cX8_codes 287 = .ok (.iload 5, 2) := by decide +kernel
theorem dX8_codes_289 : decode cX8_codes 289 = .ok (.iconst 3, 1) := by decide +kernel
theorem dX8_codes_290 : decode cX8_codes 290 = .ok (.if_icmp .eq 7, 3) := by decide +kernel
theorem dX8_codes_293 : decode cX8_codes 293 = .ok (.iconst 1, 1) := by decide +kernel
theorem dX8_codes_294 : decode cX8_codes 294 = .ok (.goto 4, 3) := by decide +kernel
theorem dX8_codes_297 : decode cX8_codes 297 = .ok (.iconst 0, 1) := by decide +kernel
theorem dX8_codes_298 : decode cX8_codes 298 = .ok (.putfield 122, 3) := by decide +kernel
theorem dX8_codes_301 : decode cX8_codes 301 = .ok (.return_, 1) := by decide +kernel
theorem dX8_both_0 : decode cX8_both 0 = .ok (.aload_n 0, 1) := by decide +kernel
theorem dX8_both_1 : decode cX8_both 1 = .ok (.getfield 81, 3) := by decide +kernel
theorem dX8_both_4 : decode cX8_both 4 = .ok (.i2l, 1) := by decide +kernel
theorem dX8_both_5 : decode cX8_both 5 = .ok (.bipush 16, 2) := by decide +kernel
theorem dX8_both_7 : decode cX8_both 7 = .ok (.lshl, 1) := by decide +kernel
theorem dX8_both_8 : decode cX8_both 8 = .ok (.aload_n 0, 1) := by decide +kernel
theorem dX8_both_9 : decode cX8_both 9 = .ok (.getfield 78, 3) := by decide +kernel
theorem dX8_both_12 : decode cX8_both 12 = .ok (.i2l, 1) := by decide +kernel
theorem dX8_both_13 : decode cX8_both 13 = .ok (.lor, 1) := by decide +kernel
theorem dX8_both_14 : decode cX8_both 14 = .ok (.lreturn, 1) := by decide +kernel
theorem dX8_both__0 : decode cX8_both_ 0 = .ok (.aload_n 0, 1) := by decide +kernel
theorem dX8_both__1 : decode cX8_both_ 1 = .ok (.lload_n 1, 1) := by decide +kernel
theorem dX8_both__2 : decode cX8_both_ 2 = .ok (.l2i, 1) := by decide +kernel
theorem dX8_both__3 : decode cX8_both_ 3 = .ok (.ldc 102, 2) := by decide +kernel
theorem dX8_both__5 : decode cX8_both_ 5 = .ok (.iand, 1) := by decide +kernel
theorem dX8_both__6 : decode cX8_both_ 6 = .ok (.putfield 78, 3) := by decide +kernel
theorem dX8_both__9 : decode cX8_both_ 9 = .ok (.aload_n 0, 1) := by decide +kernel
theorem dX8_both__10 : decode cX8_both_ 10 = .ok (.lload_n 1, 1) := by decide +kernel
theorem dX8_both__11 : decode cX8_both_ 11 = .ok (.bipush 16, 2) := by decide +kernel
theorem dX8_both__13 : decode cX8_both_ 13 = .ok (.lshr, 1) := by decide +kernel
theorem dX8_both__14 : decode cX8_both_ 14 = .ok (.l2i, 1) := by decide +kernel
theorem dX8_both__15 : decode cX8_both_ 15 = .ok (.ldc 102, 2) := by decide +kernel
theorem dX8_both__17 : decode cX8_both_ 17 = .ok (.iand, 1) := by decide +kernel
theorem dX8_both__18 : decode cX8_both_ 18 = .ok (.putfield 81, 3) := by decide +kernel
theorem dX8_both__21 : decode cX8_both_ 21 = .ok (.return_, 1) := by decide +kernel
set_option maxRecDepth 20000 in
theorem ggX8_extended_X8_more : GoodIn wsX8_extended wsX8_more := goodIn_r _ [10] (by decide +kernel) (by decide +kernel)
set_option maxRecDepth 20000 in
theorem gX8_extended_X8_more : GoodIn wsX8_extended (va_wsS RX8 87 yX8_more wsX8_more) := goodIn_app (goodIn_of _ (by decide +kernel)) ggX8_extended_X8_more
set_option maxRecDepth 20000 in
theorem ggX8_extended_X8_at : GoodIn wsX8_extended wsX8_at := goodIn_r _ [14, 15, 16, 17, 52, 53, 54, 55, 56, 57, 58, 59, 60, 61, 62, 63, 64, 65, 66, 67, 68, 69, 70, 71, 72, 73, 74, 75, 76, 77, 78, 79, 80, 81, 82, 83, 84, 85, 86] (by decide +kernel) (by decide +kernel)
set_option maxRecDepth 20000 in
theorem gX8_extended_X8_at : GoodIn wsX8_extended (wsV RX8 95 RX8 yX8_at wsX8_at) := goodIn_app (goodIn_of _ (by decide +kernel)) ggX8_extended_X8_at
set_option maxRecDepth 20000 in
theorem ggX8_extended_X8_direct : GoodIn wsX8_extended wsX8_direct := goodIn_r _ [21, 22, 23, 11, 12, 13, 9, 14, 15, 16, 17, 52, 53, 54, 55, 56, 57, 58, 59, 60, 61, 62, 63, 64, 65, 66, 67, 68, 69, 70, 71, 72, 73, 74, 75, 76, 77, 78, 79, 80, 81, 82, 83, 84, 85, 86] (by decide +kernel) (by decide +kernel)
set_option maxRecDepth 20000 in
theorem gX8_extended_X8_direct : GoodIn wsX8_extended (wsV RX8 144 RX8 yX8_direct wsX8_direct) := goodIn_app (goodIn_of _ (by decide +kernel)) ggX8_extended_X8_direct
set_option maxRecDepth 20000 in
theorem ggX8_extended_X8_twoWords : GoodIn wsX8_extended wsX8_twoWords := goodIn_r _ [27, 1, 15, 6, 2, 28, 29, 30, 16, 3, 7, 8, 9, 10, 31, 32, 33, 34, 11, 12, 13, 14, 17, 35, 36, 37, 38, 39, 40, 41, 42, 43, 44, 45, 46, 52, 53, 54, 55, 56, 57, 58, 59, 60, 61, 62, 63, 64, 65, 66, 67, 68, 69, 70, 71, 72, 73, 74, 75, 76, 77, 78, 79, 80, 81, 82, 83, 84, 85, 86] (by decide +kernel) (by decide +kernel)
set_option maxRecDepth 20000 in
theorem gX8_extended_X8_twoWords : GoodIn wsX8_extended (wsV RX8 202 RX8 yX8_twoWords wsX8_twoWords) := goodIn_app (goodIn_of _ (by decide +kernel)) ggX8_extended_X8_twoWords
set_option maxRecDepth 20000 in
theorem ggX8_extended_X8_both : GoodIn wsX8_extended wsX8_both := goodIn_r _ [42, 16, 15, 52, 53, 54, 55, 56, 57, 58, 59, 60, 61, 62, 63, 64, 65, 66, 67, 68, 69, 70, 71, 72, 73, 74, 75, 76, 77, 78, 79, 80, 81, 82, 83, 84, 85, 86] (by decide +kernel) (by decide +kernel)
set_option maxRecDepth 20000 in
theorem gX8_extended_X8_both : GoodIn wsX8_extended (wsV RX8 205 RX8 yX8_both wsX8_both) := goodIn_app (goodIn_of _ (by decide +kernel)) ggX8_extended_X8_both
set_option maxRecDepth 20000 in
theorem ggX8_extended_X8_leftSigned : GoodIn wsX8_extended wsX8_leftSigned := goodIn_r _ [50, 6, 51, 39, 40, 41, 9, 42, 16, 15, 35, 36, 37, 38, 30, 52, 53, 54, 55, 56, 57, 58, 59, 60, 61, 62, 63, 64, 65, 66, 67, 68, 69, 70, 71, 72, 73, 74, 75, 76, 77, 78, 79, 80, 81, 82, 83, 84, 85, 86] (by decide +kernel) (by decide +kernel)
set_option maxRecDepth 20000 in
theorem gX8_extended_X8_leftSigned : GoodIn wsX8_extended (wsV RX8 209 RX8 yX8_leftSigned wsX8_leftSigned) := goodIn_app (goodIn_of _ (by decide +kernel)) ggX8_extended_X8_leftSigned
set_option maxRecDepth 20000 in
theorem ggX8_extended_X8_both_ : GoodIn wsX8_extended wsX8_both_ := goodIn_r _ [38, 30, 15, 16, 52, 53, 54, 55, 56, 57, 58, 59, 60, 61, 62, 63, 64, 65, 66, 67, 68, 69, 70, 71, 72, 73, 74, 75, 76, 77, 78, 79, 80, 81, 82, 83, 84, 85, 86] (by decide +kernel) (by decide +kernel)
set_option maxRecDepth 20000 in
theorem gX8_extended_X8_both_ : GoodIn wsX8_extended (wsV RX8 212 RX8 yX8_both_ wsX8_both_) := goodIn_app (goodIn_of _ (by decide +kernel)) ggX8_extended_X8_both_
theorem dX8_extended_0 : decode cX8_extended 0 = .ok (.iload_n 1, 1) := by decide +kernel
theorem dX8_extended_1 : decode cX8_extended 1 = .ok (.ldc 198, 2) := by decide +kernel
theorem dX8_extended_3 : decode cX8_extended 3 = .ok (.if_icmp .eq 21, 3) := by decide +kernel
theorem dX8_extended_6 : decode cX8_extended 6 = .ok (.iload_n 1, 1) := by decide +kernel
theorem dX8_extended_7 : decode cX8_extended 7 = .ok (.ldc 199, 2) := by decide +kernel
theorem dX8_extended_9 : decode cX8_extended 9 = .ok (.if_icmp .eq 15, 3) := by decide +kernel
theorem dX8_extended_12 : decode cX8_extended 12 = .ok (.iload_n 1, 1) := by decide +kernel
theorem dX8_extended_13 : decode cX8_extended 13 = .ok (.ldc 200, 2) := by decide +kernel
theorem dX8_extended_15 : decode cX8_extended 15 = .ok (.if_icmp .eq 9, 3) := by decide +kernel
