set_option maxRecDepth 20000 in
theorem ggX7_init_X4_init : GoodIn wsX7_init wsX4_init := goodIn_r _ [22, 23, 2, 3, 24, 25, 71] (by decide +kernel) (by decide +kernel)
set_option maxRecDepth 20000 in
theorem gX7_init_X4_init_n9 : GoodIn wsX7_init (wsX4_init) := ggX7_init_X4_init
set_option maxRecDepth 20000 in
theorem ggX7_init_X6_init : GoodIn wsX7_init wsX6_init := goodIn_r _ [27, 28, 2, 3, 29, 79, 80, 81, 82, 83, 84] (by decide +kernel) (by decide +kernel)
set_option maxRecDepth 20000 in
theorem gX7_init_X6_init_n18 : GoodIn wsX7_init (wsX6_init) := ggX7_init_X6_init
set_option maxRecDepth 20000 in
theorem ggX7_init_X0_init : GoodIn wsX7_init wsX0_init := goodIn_r _ [32, 33, 2, 3, 34, 35, 36, 37, 38, 39, 40, 41, 42, 43, 44, 45, 46, 47, 48, 49, 50, 51, 52, 53, 54, 55, 56, 57, 58, 59, 24, 60, 61, 62, 63, 85, 86, 87, 88, 89, 90, 91, 95, 96, 97, 98, 99, 100, 101, 102, 103, 104, 105, 106, 107, 108, 109, 110, 111, 112, 113, 114, 115] (by decide +kernel) (by decide +kernel)
set_option maxRecDepth 20000 in
theorem gX7_init_X0_init : GoodIn wsX7_init (wsX0_init) := ggX7_init_X0_init
set_option maxRecDepth 20000 in
theorem ggX7_init_X5_init : GoodIn wsX7_init wsX5_init := goodIn_r _ [66, 67, 2, 3, 68, 69, 70, 92, 93, 94] (by decide +kernel) (by decide +kernel)
set_option maxRecDepth 20000 in
theorem gX7_init_X5_init : GoodIn wsX7_init (wsX5_init) := ggX7_init_X5_init
theorem dX7_init_0 : decode cX7_init 0 = .ok (.aload_n 0, 1) := by decide +kernel
theorem dX7_init_1 : decode cX7_init 1 = .ok (.invokespecial 1, 3) := by decide +kernel
theorem dX7_init_4 : decode cX7_init 4 = .ok (.aload_n 0, 1) := by decide +kernel
theorem dX7_init_5 : decode cX7_init 5 = .ok (.new 7, 3) := by decide +kernel
theorem dX7_init_8 : decode cX7_init 8 = .ok (.dup, 1) := by decide +kernel
theorem dX7_init_9 : decode cX7_init 9 = .ok (.invokespecial 9, 3) := by decide +kernel
theorem dX7_init_12 : decode cX7_init 12 = .ok (.putfield 10, 3) := by decide +kernel
theorem dX7_init_15 : decode cX7_init 15 = .ok (.aload_n 0, 1) := by decide +kernel
theorem dX7_init_16 : decode cX7_init 16 = .ok (.new 16, 3) := by decide +kernel
theorem dX7_init_19 : decode cX7_init 19 = .ok (.dup, 1) := by decide +kernel
theorem dX7_init_20 : decode cX7_init 20 = .ok (.invokespecial 18, 3) := by decide +kernel
theorem dX7_init_23 : decode cX7_init 23 = .ok (.putfield 19, 3) := by decide +kernel
theorem dX7_init_26 : decode cX7_init 26 = .ok (.aload_n 0, 1) := by decide +kernel
theorem dX7_init_27 : decode cX7_init 27 = .ok (.new 23, 3) := by decide +kernel
theorem dX7_init_30 : decode cX7_init 30 = .ok (.dup, 1) := by decide +kernel
theorem dX7_init_31 : decode cX7_init 31 = .ok (.aload_n 0, 1) := by decide +kernel
theorem dX7_init_32 : decode cX7_init 32 = .ok (.getfield 19, 3) := by decide +kernel
theorem dX7_init_35 : decode cX7_init 35 = .ok (.invokespecial 25, 3) := by decide +kernel
theorem dX7_init_38 : decode cX7_init 38 = .ok (.putfield 28, 3) := by decide +kernel
theorem dX7_init_41 : decode cX7_init 41 = .ok (.aload_n 0, 1) := by decide +kernel
theorem dX7_init_42 : decode cX7_init 42 = .ok (.new 32, 3) := by decide +kernel
theorem dX7_init_45 : decode cX7_init 45 = .ok (.dup, 1) := by decide +kernel
theorem dX7_init_46 : decode cX7_init 46 = .ok (.aload_n 0, 1) := by decide +kernel
theorem dX7_init_47 : decode cX7_init 47 = .ok (.getfield 10, 3) := by decide +kernel
theorem dX7_init_50 : decode cX7_init 50 = .ok (.aload_n 0, 1) := by decide +kernel
theorem dX7_init_51 : decode cX7_init 51 = .ok (.getfield 19, 3) := by decide +kernel
theorem dX7_init_54 : decode cX7_init 54 = .ok (.aload_n 0, 1) := by decide +kernel
theorem dX7_init_55 : decode cX7_init 55 = .ok (.getfield 28, 3) := by decide +kernel
theorem dX7_init_58 : decode cX7_init 58 = .ok (.invokespecial 34, 3) := by decide +kernel
theorem dX7_init_61 : decode cX7_init 61 = .ok (.putfield 37, 3) := by decide +kernel
theorem dX7_init_64 : decode cX7_init 64 = .ok (.aload_n 0, 1) := by decide +kernel
theorem dX7_init_65 : decode cX7_init 65 = .ok (.iconst (-1), 1) := by decide +kernel
theorem dX7_init_66 : decode cX7_init 66 = .ok (.putfield 41, 3) := by decide +kernel
theorem dX7_init_69 : decode cX7_init 69 = .ok (.return_, 1) := by decide +kernel
set_option maxRecDepth 20000 in
theorem ggX7_run_X7_doTurn_p1 : GoodIn wsX7_run (.code yX7_doTurn cX7_doTurn 3 none :: wsX7_doTurn_r1) := goodIn_r _ [9, 10, 11, 3, 12, 13, 14, 15, 16, 17, 18, 19, 20, 21, 22, 23, 24, 25, 26, 27, 28, 29, 30, 31, 32] (by decide +kernel) (by decide +kernel)
set_option maxRecDepth 20000 in
theorem ggX7_run_X7_doTurn_p2 : GoodIn wsX7_run (wsX7_doTurn_r2) := goodIn_r _ [33, 34, 35, 36, 37, 38, 39, 40, 41, 42, 43, 44, 45, 46, 47, 48, 49, 50, 51, 52, 53, 54, 55, 56] (by decide +kernel) (by decide +kernel)
set_option maxRecDepth 20000 in
theorem ggX7_run_X7_doTurn_p3 : GoodIn wsX7_run (wsX7_doTurn_r3) := goodIn_r _ [57, 58, 59, 60, 61, 62, 63, 64, 65, 66, 67, 68, 69, 70, 71, 72, 73, 74, 75, 76, 77, 78, 79, 80] (by decide +kernel) (by decide +kernel)
set_option maxRecDepth 20000 in
theorem ggX7_run_X7_doTurn_p4 : GoodIn wsX7_run (wsX7_doTurn_r4) := goodIn_r _ [81, 82, 83, 84, 85, 86, 87, 88, 89, 90, 91, 92, 93, 94, 95, 96, 97, 98, 99, 100, 101, 102, 103, 104] (by decide +kernel) (by decide +kernel)
set_option maxRecDepth 20000 in
theorem ggX7_run_X7_doTurn_p5 : GoodIn wsX7_run (wsX7_doTurn_r5) := goodIn_r _ [105, 106, 107, 108, 109, 110, 111, 112, 113, 114, 115, 116, 117, 118, 119, 120, 121, 122, 123, 124, 125, 126, 127, 128] (by decide +kernel) (by decide +kernel)
set_option maxRecDepth 20000 in
theorem ggX7_run_X7_doTurn_p6 : GoodIn wsX7_run (wsX7_doTurn_r6) := goodIn_r _ [129, 130, 131, 132, 133, 134, 135, 136, 137, 138, 139, 140, 141, 142, 143, 144, 145, 146, 147, 148, 149, 150, 151, 152] (by decide +kernel) (by decide +kernel)
set_option maxRecDepth 20000 in
theorem ggX7_run_X7_doTurn_p7 : GoodIn wsX7_run (wsX7_doTurn_r7) := goodIn_r _ [153, 154, 155, 156, 157, 158, 159, 160, 161, 162, 163, 164, 165, 166, 167, 168, 169, 170, 171, 172, 173, 174, 175, 176] (by decide +kernel) (by decide +kernel)
set_option maxRecDepth 20000 in
theorem ggX7_run_X7_doTurn_p8 : GoodIn wsX7_run (wsX7_doTurn_r8) := goodIn_r _ [177, 178, 179, 180, 181, 182, 183, 184, 185, 186, 187, 188, 189, 190, 191, 192, 193, 194, 195, 8, 196, 197, 198, 199] (by decide +kernel) (by decide +kernel)
set_option maxRecDepth 20000 in
theorem ggX7_run_X7_doTurn_p9 : GoodIn wsX7_run (wsX7_doTurn_r9) := goodIn_r _ [200, 201, 202, 203, 204, 205, 206, 207, 208, 209, 210, 211, 212, 213, 214, 215, 216, 217, 218, 219, 220, 221, 222, 223] (by decide +kernel) (by decide +kernel)
set_option maxRecDepth 20000 in
theorem ggX7_run_X7_doTurn_p10 : GoodIn wsX7_run (wsX7_doTurn_r10) := goodIn_r _ [224, 225, 226, 227, 228, 229, 230, 231, 232, 233, 234, 235, 236, 237, 238, 239, 240, 241, 242, 243, 244, 245, 246, 247] (by decide +kernel) (by decide +kernel)
set_option maxRecDepth 20000 in
theorem ggX7_run_X7_doTurn_p11 : GoodIn wsX7_run (wsX7_doTurn_r11) := goodIn_r _ [248, 249, 250, 251, 252, 253, 254, 255, 256, 257, 258, 259, 260, 261, 262, 263, 264, 265, 266, 267, 268, 269, 270, 271] (by decide +kernel) (by decide +kernel)
set_option maxRecDepth 20000 in
theorem ggX7_run_X7_doTurn_p12 : GoodIn wsX7_run (wsX7_doTurn_r12) := goodIn_r _ [272, 273, 274, 275, 276, 277] (by decide +kernel) (by decide +kernel)
set_option maxRecDepth 20000 in
theorem ggX7_run_X7_doTurn_p13 : GoodIn wsX7_run (wsX70) := goodIn_r _ [278, 279, 280, 281, 282, 283, 284] (by decide +kernel) (by decide +kernel)
set_option maxRecDepth 20000 in
theorem ggX7_run_X7_doTurn_p14 : GoodIn wsX7_run (wsX00) := goodIn_r _ [291, 292, 293, 294, 295, 296, 297] (by decide +kernel) (by decide +kernel)
set_option maxRecDepth 20000 in
theorem ggX7_run_X7_doTurn_p15 : GoodIn wsX7_run (wsX60) := goodIn_r _ [285, 286, 287, 288, 289, 290] (by decide +kernel) (by decide +kernel)
set_option maxRecDepth 20000 in
theorem ggX7_run_X7_doTurn_p16 : GoodIn wsX7_run (wsX20) := goodIn_r _ [298, 299, 300, 301, 302, 303, 304, 305, 306, 307] (by decide +kernel) (by decide +kernel)
set_option maxRecDepth 20000 in
theorem ggX7_run_X7_doTurn_p17 : GoodIn wsX7_run (wsX30) := goodIn_r _ [308, 309, 310] (by decide +kernel) (by decide +kernel)
set_option maxRecDepth 20000 in
theorem ggX7_run_X7_doTurn_p18 : GoodIn wsX7_run (wsX10) := goodIn_r _ [311, 312, 313, 314, 315, 316, 317, 318] (by decide +kernel) (by decide +kernel)
set_option maxRecDepth 20000 in
theorem ggX7_run_X7_doTurn_p19 : GoodIn wsX7_run (wsX40) := goodIn_r _ [319] (by decide +kernel) (by decide +kernel)
set_option maxRecDepth 20000 in
theorem ggX7_run_X7_doTurn_p20 : GoodIn wsX7_run (wsX50) := goodIn_r _ [320, 321, 322] (by decide +kernel) (by decide +kernel)
theorem ggX7_run_X7_doTurn : GoodIn wsX7_run wsX7_doTurn := (goodIn_ca (goodIn_ca (goodIn_ca (goodIn_ca (goodIn_ca (goodIn_ca (goodIn_ca (goodIn_ca (goodIn_ca ggX7_run_X7_doTurn_p1 (goodIn_app ggX7_run_X7_doTurn_p2 (goodIn_app ggX7_run_X7_doTurn_p3 (goodIn_app ggX7_run_X7_doTurn_p4 (goodIn_app ggX7_run_X7_doTurn_p5 (goodIn_app ggX7_run_X7_doTurn_p6 (goodIn_app ggX7_run_X7_doTurn_p7 (goodIn_app ggX7_run_X7_doTurn_p8 (goodIn_app ggX7_run_X7_doTurn_p9 (goodIn_app ggX7_run_X7_doTurn_p10 (goodIn_app ggX7_run_X7_doTurn_p11 ggX7_run_X7_doTurn_p12))))))))))) ggX7_run_X7_doTurn_p13) ggX7_run_X7_doTurn_p14) ggX7_run_X7_doTurn_p15) ggX7_run_X7_doTurn_p16) ggX7_run_X7_doTurn_p17) ggX7_run_X7_doTurn_p18) ggX7_run_X7_doTurn_p19) ggX7_run_X7_doTurn_p20)
set_option maxRecDepth 20000 in
theorem gX7_run_X7_doTurn : GoodIn wsX7_run (wsV RX7 56 RX7 yX7_doTurn wsX7_doTurn) := goodIn_app (goodIn_of _ (by decide +kernel)) ggX7_run_X7_doTurn
theorem dX7_run_0 : decode cX7_run 0 = .ok (.iload_n 1, 1) := by decide +kernel
theorem dX7_run_1 : decode cX7_run 1 = .ok (.ifCond .lt 10, 3) := by decide +kernel
theorem dX7_run_4 : decode cX7_run 4 = .ok (.iload_n 1, 1) := by decide +kernel
theorem dX7_run_5 : decode cX7_run 5 = .ok (.sipush 2000, 3) := by decide +kernel
theorem dX7_run_8 : decode cX7_run 8 = .ok (.if_icmp .le 13, 3) := by decide +kernel
theorem dX7_run_11 : decode cX7_run 11 = .ok (.new 45, 3) := by decide +kernel
theorem dX7_run_14 : decode cX7_run 14 = .ok (.dup, 1) := by decide +kernel
theorem dX7_run_15 : decode cX7_run 15 = .ok (.ldc 47, 2) := by decide +kernel
theorem dX7_run_17 : decode cX7_run 17 = .ok (.invokespecial 49, 3) := by decide +kernel
theorem dX7_run_20 : decode cX7_run 20 = .ok (.athrow, 1) := by decide +kernel
theorem dX7_run_21 : decode cX7_run 21 = .ok (.iconst 0, 1) := by decide +kernel
theorem dX7_run_22 : decode cX7_run 22 = .ok (.istore_n 2, 1) := by decide +kernel
theorem dX7_run_23 : decode cX7_run 23 = .ok (.iload_n 2, 1) := by decide +kernel
theorem dX7_run_24 : decode cX7_run 24 = .ok (.iload_n 1, 1) := by decide +kernel
theorem dX7_run_25 : decode cX7_run 25 = .ok (.if_icmp .ge 23, 3) := by decide +kernel
theorem dX7_run_28 : decode cX7_run 28 = .ok (.aload_n 0, 1) := by decide +kernel
theorem dX7_run_29 : decode cX7_run 29 = .ok (.getfield 19, 3) := by decide +kernel
theorem dX7_run_32 : decode cX7_run 32 = .ok (.getfield 52, 3) := by decide +kernel
theorem dX7_run_35 : decode cX7_run 35 = .ok (.ifCond .ne 13, 3) := by decide +kernel
theorem dX7_run_38 : decode cX7_run 38 = .ok (.aload_n 0, 1) := by decide +kernel
theorem dX7_run_39 : decode cX7_run 39 = .ok (.invokevirtual 56, 3) := by decide +kernel
theorem dX7_run_42 : decode cX7_run 42 = .ok (.iinc 2 1, 3) := by decide +kernel
theorem dX7_run_45 : decode cX7_run 45 = .ok (.goto (-22), 3) := by decide +kernel
theorem dX7_run_48 : decode cX7_run 48 = .ok (.aload_n 0, 1) := by decide +kernel
theorem dX7_run_49 : decode cX7_run 49 = .ok (.dup, 1) := by decide +kernel
theorem dX7_run_50 : decode cX7_run 50 = .ok (.getfield 59, 3) := by decide +kernel
theorem dX7_run_53 : decode cX7_run 53 = .ok (.iload_n 2, 1) := by decide +kernel
theorem dX7_run_54 : decode cX7_run 54 = .ok (.iadd, 1) := by decide +kernel
theorem dX7_run_55 : decode cX7_run 55 = .ok (.putfield 59, 3) := by decide +kernel
theorem dX7_run_58 : decode cX7_run 58 = .ok (.iload_n 2, 1) := by decide +kernel
theorem dX7_run_59 : decode cX7_run 59 = .ok (.ireturn, 1) := by decide +kernel
theorem dX7_go_0 : decode cX7_go 0 = .ok (.aload_n 0, 1) := by decide +kernel
theorem dX7_go_1 : decode cX7_go 1 = .ok (.getfield 19, 3) := by decide +kernel
theorem dX7_go_4 : decode cX7_go 4 = .ok (.iconst 0, 1) := by decide +kernel
theorem dX7_go_5 : decode cX7_go 5 = .ok (.putfield 52, 3) := by decide +kernel
theorem dX7_go_8 : decode cX7_go 8 = .ok (.iload_n 1, 1) := by decide +kernel
theorem dX7_go_9 : decode cX7_go 9 = .ok (.iconst (-1), 1) := by decide +kernel
theorem dX7_go_10 : decode cX7_go 10 = .ok (.if_icmp .eq 15, 3) := by decide +kernel
theorem dX7_go_13 : decode cX7_go 13 = .ok (.aload_n 0, 1) := by decide +kernel
theorem dX7_go_14 : decode cX7_go 14 = .ok (.getfield 19, 3) := by decide +kernel
theorem dX7_go_17 : decode cX7_go 17 = .ok (.iload_n 1, 1) := by decide +kernel
theorem dX7_go_18 : decode cX7_go 18 = .ok (.sipush 32767, 3) := by decide +kernel
theorem dX7_go_21 : decode cX7_go 21 = .ok (.iand, 1) := by decide +kernel
theorem dX7_go_22 : decode cX7_go 22 = .ok (.putfield 62, 3) := by decide +kernel
theorem dX7_go_25 : decode cX7_go 25 = .ok (.return_, 1) := by decide +kernel
set_option maxRecDepth 20000 in
theorem ggX7_word_X4_read : GoodIn wsX7_word wsX4_read := goodIn_r _ [8, 9, 17] (by decide +kernel) (by decide +kernel)
set_option maxRecDepth 20000 in
theorem gX7_word_X4_read : GoodIn wsX7_word (wsV RX7 70 RX4 yX4_read wsX4_read) := goodIn_app (goodIn_of _ (by decide +kernel)) ggX7_word_X4_read
theorem dX7_word_0 : decode cX7_word 0 = .ok (.iload_n 1, 1) := by decide +kernel
theorem dX7_word_1 : decode cX7_word 1 = .ok (.ifCond .lt 10, 3) := by decide +kernel
theorem dX7_word_4 : decode cX7_word 4 = .ok (.iload_n 1, 1) := by decide +kernel
theorem dX7_word_5 : decode cX7_word 5 = .ok (.sipush 4096, 3) := by decide +kernel
theorem dX7_word_8 : decode cX7_word 8 = .ok (.if_icmp .lt 13, 3) := by decide +kernel
theorem dX7_word_11 : decode cX7_word 11 = .ok (.new 65, 3) := by decide +kernel
theorem dX7_word_14 : decode cX7_word 14 = .ok (.dup, 1) := by decide +kernel
theorem dX7_word_15 : decode cX7_word 15 = .ok (.ldc 67, 2) := by decide +kernel
theorem dX7_word_17 : decode cX7_word 17 = .ok (.invokespecial 69, 3) := by decide +kernel
theorem dX7_word_20 : decode cX7_word 20 = .ok (.athrow, 1) := by decide +kernel
theorem dX7_word_21 : decode cX7_word 21 = .ok (.aload_n 0, 1) := by decide +kernel
theorem dX7_word_22 : decode cX7_word 22 = .ok (.getfield 10, 3) := by decide +kernel
theorem dX7_word_25 : decode cX7_word 25 = .ok (.iload_n 1, 1) := by decide +kernel
theorem dX7_word_26 : decode cX7_word 26 = .ok (.invokevirtual 70, 3) := by decide +kernel
theorem dX7_word_29 : decode cX7_word 29 = .ok (.ireturn, 1) := by decide +kernel
set_option maxRecDepth 20000 in
theorem ggX7_set_X4_write : GoodIn wsX7_set wsX4_write := goodIn_r _ [8, 9, 10, 18] (by decide +kernel) (by decide +kernel)
set_option maxRecDepth 20000 in
theorem gX7_set_X4_write : GoodIn wsX7_set (wsV RX7 74 RX4 yX4_write wsX4_write) := goodIn_app (goodIn_of _ (by decide +kernel)) ggX7_set_X4_write
theorem dX7_set_0 : decode cX7_set 0 = .ok (.iload_n 1, 1) := by decide +kernel
theorem dX7_set_1 : decode cX7_set 1 = .ok (.ifCond .lt 10, 3) := by decide +kernel
theorem dX7_set_4 : decode cX7_set 4 = .ok (.iload_n 1, 1) := by decide +kernel
theorem dX7_set_5 : decode cX7_set 5 = .ok (.sipush 4096, 3) := by decide +kernel
theorem dX7_set_8 : decode cX7_set 8 = .ok (.if_icmp .lt 13, 3) := by decide +kernel
theorem dX7_set_11 : decode cX7_set 11 = .ok (.new 65, 3) := by decide +kernel
theorem dX7_set_14 : decode cX7_set 14 = .ok (.dup, 1) := by decide +kernel
theorem dX7_set_15 : decode cX7_set 15 = .ok (.ldc 67, 2) := by decide +kernel
theorem dX7_set_17 : decode cX7_set 17 = .ok (.invokespecial 69, 3) := by decide +kernel
theorem dX7_set_20 : decode cX7_set 20 = .ok (.athrow, 1) := by decide +kernel
theorem dX7_set_21 : decode cX7_set 21 = .ok (.aload_n 0, 1) := by decide +kernel
theorem dX7_set_22 : decode cX7_set 22 = .ok (.getfield 10, 3) := by decide +kernel
theorem dX7_set_25 : decode cX7_set 25 = .ok (.iload_n 1, 1) := by decide +kernel
theorem dX7_set_26 : decode cX7_set 26 = .ok (.iload_n 2, 1) := by decide +kernel
theorem dX7_set_27 : decode cX7_set 27 = .ok (.invokevirtual 74, 3) := by decide +kernel
theorem dX7_set_30 : decode cX7_set 30 = .ok (.return_, 1) := by decide +kernel
set_option maxRecDepth 20000 in
theorem ggX7_state_X4_read : GoodIn wsX7_state wsX4_read := goodIn_r _ [11, 12, 37] (by decide +kernel) (by decide +kernel)
set_option maxRecDepth 20000 in
theorem gX7_state_X4_read : GoodIn wsX7_state (wsV RX7 70 RX4 yX4_read wsX4_read) := goodIn_app (goodIn_of _ (by decide +kernel)) ggX7_state_X4_read
set_option maxRecDepth 20000 in
theorem ggX7_state_X7_bit : GoodIn wsX7_state wsX7_bit := goodIn_r _ [16] (by decide +kernel) (by decide +kernel)
set_option maxRecDepth 20000 in
theorem gX7_state_X7_bit : GoodIn wsX7_state (va_wsS RX7 87 yX7_bit wsX7_bit) := goodIn_app (goodIn_of _ (by decide +kernel)) ggX7_state_X7_bit
theorem dX7_state_0 : decode cX7_state 0 = .ok (.iload_n 1, 1) := by decide +kernel
theorem dX7_state_1 : decode cX7_state 1 = .ok (.tableswitch 173 0 12 #[67, 76, 85, 93, 101, 109, 120, 131, 142, 150, 158, 163, 168], 67) := by decide +kernel
theorem dX7_state_68 : decode cX7_state 68 = .ok (.aload_n 0, 1) := by decide +kernel
theorem dX7_state_69 : decode cX7_state 69 = .ok (.getfield 10, 3) := by decide +kernel
theorem dX7_state_72 : decode cX7_state 72 = .ok (.iconst 0, 1) := by decide +kernel
theorem dX7_state_73 : decode cX7_state 73 = .ok (.invokevirtual 70, 3) := by decide +kernel
theorem dX7_state_76 : decode cX7_state 76 = .ok (.ireturn, 1) := by decide +kernel
theorem dX7_state_77 : decode cX7_state 77 = .ok (.aload_n 0, 1) := by decide +kernel
theorem dX7_state_78 : decode cX7_state 78 = .ok (.getfield 10, 3) := by decide +kernel
theorem dX7_state_81 : decode cX7_state 81 = .ok (.iconst 1, 1) := by decide +kernel
theorem dX7_state_82 : decode cX7_state 82 = .ok (.invokevirtual 70, 3) := by decide +kernel
theorem dX7_state_85 : decode cX7_state 85 = .ok (.ireturn, 1) := by decide +kernel
theorem dX7_state_86 : decode cX7_state 86 = .ok (.aload_n 0, 1) := by decide +kernel
theorem dX7_state_87 : decode cX7_state 87 = .ok (.getfield 19, 3) := by decide +kernel
theorem dX7_state_90 : decode cX7_state 90 = .ok (.getfield 62, 3) := by decide +kernel
theorem dX7_state_93 : decode cX7_state 93 = .ok (.ireturn, 1) := by decide +kernel
theorem dX7_state_94 : decode cX7_state 94 = .ok (.aload_n 0, 1) := by decide +kernel
theorem dX7_state_95 : decode cX7_state 95 = .ok (.getfield 19, 3) := by decide +kernel
theorem dX7_state_98 : decode cX7_state 98 = .ok (.getfield 78, 3) := by decide +kernel
theorem dX7_state_101 : decode cX7_state 101 = .ok (.ireturn, 1) := by decide +kernel
theorem dX7_state_102 : decode cX7_state 102 = .ok (.aload_n 0, 1) := by decide +kernel
theorem dX7_state_103 : decode cX7_state 103 = .ok (.getfield 19, 3) := by decide +kernel
theorem dX7_state_106 : decode cX7_state 106 = .ok (.getfield 81, 3) := by decide +kernel
theorem dX7_state_109 : decode cX7_state 109 = .ok (.ireturn, 1) := by decide +kernel
theorem dX7_state_110 : decode cX7_state 110 = .ok (.aload_n 0, 1) := by decide +kernel
theorem dX7_state_111 : decode cX7_state 111 = .ok (.getfield 28, 3) := by decide +kernel
theorem dX7_state_114 : decode cX7_state 114 = .ok (.getfield 84, 3) := by decide +kernel
theorem dX7_state_117 : decode cX7_state 117 = .ok (.invokestatic 87, 3) := by decide +kernel
theorem dX7_state_120 : decode cX7_state 120 = .ok (.ireturn, 1) := by decide +kernel
theorem dX7_state_121 : decode cX7_state 121 = .ok (.aload_n 0, 1) := by decide +kernel
theorem dX7_state_122 : decode cX7_state 122 = .ok (.getfield 19, 3) := by decide +kernel
theorem dX7_state_125 : decode cX7_state 125 = .ok (.getfield 91, 3) := by decide +kernel
theorem dX7_state_128 : decode cX7_state 128 = .ok (.invokestatic 87, 3) := by decide +kernel
theorem dX7_state_131 : decode cX7_state 131 = .ok (.ireturn, 1) := by decide +kernel
theorem dX7_state_132 : decode cX7_state 132 = .ok (.aload_n 0, 1) := by decide +kernel
theorem dX7_state_133 : decode cX7_state 133 = .ok (.getfield 19, 3) := by decide +kernel
theorem dX7_state_136 : decode cX7_state 136 = .ok (.getfield 52, 3) := by decide +kernel
theorem dX7_state_139 : decode cX7_state 139 = .ok (.invokestatic 87, 3) := by decide +kernel
theorem dX7_state_142 : decode cX7_state 142 = .ok (.ireturn, 1) := by decide +kernel
theorem dX7_state_143 : decode cX7_state 143 = .ok (.aload_n 0, 1) := by decide +kernel
theorem dX7_state_144 : decode cX7_state 144 = .ok (.getfield 19, 3) := by decide +kernel
theorem dX7_state_147 : decode cX7_state 147 = .ok (.getfield 94, 3) := by decide +kernel
theorem dX7_state_150 : decode cX7_state 150 = .ok (.ireturn, 1) := by decide +kernel
theorem dX7_state_151 : decode cX7_state 151 = .ok (.aload_n 0, 1) := by decide +kernel
theorem dX7_state_152 : decode cX7_state 152 = .ok (.getfield 28, 3) := by decide +kernel
theorem dX7_state_155 : decode cX7_state 155 = .ok (.getfield 97, 3) := by decide +kernel
theorem dX7_state_158 : decode cX7_state 158 = .ok (.ireturn, 1) := by decide +kernel
theorem dX7_state_159 : decode cX7_state 159 = .ok (.aload_n 0, 1) := by decide +kernel
theorem dX7_state_160 : decode cX7_state 160 = .ok (.getfield 59, 3) := by decide +kernel
theorem dX7_state_163 : decode cX7_state 163 = .ok (.ireturn, 1) := by decide +kernel
theorem dX7_state_164 : decode cX7_state 164 = .ok (.aload_n 0, 1) := by decide +kernel
theorem dX7_state_165 : decode cX7_state 165 = .ok (.getfield 100, 3) := by decide +kernel
theorem dX7_state_168 : decode cX7_state 168 = .ok (.ireturn, 1) := by decide +kernel
theorem dX7_state_169 : decode cX7_state 169 = .ok (.aload_n 0, 1) := by decide +kernel
theorem dX7_state_170 : decode cX7_state 170 = .ok (.getfield 41, 3) := by decide +kernel
theorem dX7_state_173 : decode cX7_state 173 = .ok (.ireturn, 1) := by decide +kernel
theorem dX7_state_174 : decode cX7_state 174 = .ok (.iconst (-1), 1) := by decide +kernel
theorem dX7_state_175 : decode cX7_state 175 = .ok (.ireturn, 1) := by decide +kernel
theorem dX7_switches_0 : decode cX7_switches 0 = .ok (.aload_n 0, 1) := by decide +kernel
theorem dX7_switches_1 : decode cX7_switches 1 = .ok (.getfield 28, 3) := by decide +kernel
theorem dX7_switches_4 : decode cX7_switches 4 = .ok (.iload_n 1, 1) := by decide +kernel
theorem dX7_switches_5 : decode cX7_switches 5 = .ok (.ldc 103, 2) := by decide +kernel
theorem dX7_switches_7 : decode cX7_switches 7 = .ok (.iand, 1) := by decide +kernel
theorem dX7_switches_8 : decode cX7_switches 8 = .ok (.putfield 104, 3) := by decide +kernel
theorem dX7_switches_11 : decode cX7_switches 11 = .ok (.return_, 1) := by decide +kernel
