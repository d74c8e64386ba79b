theorem dX2_init_32 : decode cX2_init 32 = .ok (.aload_n 0, 1) := by decide +kernel
theorem dX2_init_33 : decode cX2_init 33 = .ok (.iconst 1, 1) := by decide +kernel
theorem dX2_init_34 : decode cX2_init 34 = .ok (.putfield 25, 3) := by decide +kernel
theorem dX2_init_37 : decode cX2_init 37 = .ok (.aload_n 0, 1) := by decide +kernel
theorem dX2_init_38 : decode cX2_init 38 = .ok (.iconst 1, 1) := by decide +kernel
theorem dX2_init_39 : decode cX2_init 39 = .ok (.putfield 29, 3) := by decide +kernel
theorem dX2_init_42 : decode cX2_init 42 = .ok (.return_, 1) := by decide +kernel
theorem dX2_equip_0 : decode cX2_equip 0 = .ok (.aload_n 0, 1) := by decide +kernel
theorem dX2_equip_1 : decode cX2_equip 1 = .ok (.iload_n 1, 1) := by decide +kernel
theorem dX2_equip_2 : decode cX2_equip 2 = .ok (.putfield 25, 3) := by decide +kernel
theorem dX2_equip_5 : decode cX2_equip 5 = .ok (.aload_n 0, 1) := by decide +kernel
theorem dX2_equip_6 : decode cX2_equip 6 = .ok (.iload_n 2, 1) := by decide +kernel
theorem dX2_equip_7 : decode cX2_equip 7 = .ok (.putfield 29, 3) := by decide +kernel
theorem dX2_equip_10 : decode cX2_equip 10 = .ok (.aload_n 0, 1) := by decide +kernel
theorem dX2_equip_11 : decode cX2_equip 11 = .ok (.iconst 0, 1) := by decide +kernel
theorem dX2_equip_12 : decode cX2_equip 12 = .ok (.putfield 33, 3) := by decide +kernel
theorem dX2_equip_15 : decode cX2_equip 15 = .ok (.aload_n 0, 1) := by decide +kernel
theorem dX2_equip_16 : decode cX2_equip 16 = .ok (.iconst 0, 1) := by decide +kernel
theorem dX2_equip_17 : decode cX2_equip 17 = .ok (.putfield 36, 3) := by decide +kernel
theorem dX2_equip_20 : decode cX2_equip 20 = .ok (.return_, 1) := by decide +kernel
theorem dX2_start_0 : decode cX2_start 0 = .ok (.aload_n 0, 1) := by decide +kernel
theorem dX2_start_1 : decode cX2_start 1 = .ok (.aload_n 0, 1) := by decide +kernel
theorem dX2_start_2 : decode cX2_start 2 = .ok (.getfield 29, 3) := by decide +kernel
theorem dX2_start_5 : decode cX2_start 5 = .ok (.putfield 33, 3) := by decide +kernel
theorem dX2_start_8 : decode cX2_start 8 = .ok (.return_, 1) := by decide +kernel
set_option maxRecDepth 20000 in
theorem ggX2_advance_X2_takeFromTape : GoodIn wsX2_advance wsX2_takeFromTape := goodIn_r _ [9, 10, 11, 12, 26, 27, 28, 29, 30, 31, 32, 33, 34, 35] (by decide +kernel) (by decide +kernel)
set_option maxRecDepth 20000 in
theorem gX2_advance_X2_takeFromTape : GoodIn wsX2_advance (wsV RX2 39 RX2 yX2_takeFromTape wsX2_takeFromTape) := goodIn_app (goodIn_of _ (by decide +kernel)) ggX2_advance_X2_takeFromTape
set_option maxRecDepth 20000 in
theorem ggX2_advance_X2_putOut : GoodIn wsX2_advance wsX2_putOut := goodIn_r _ [16, 17, 18, 26, 27, 28, 29, 30, 31, 32, 33, 34, 35] (by decide +kernel) (by decide +kernel)
set_option maxRecDepth 20000 in
theorem gX2_advance_X2_putOut : GoodIn wsX2_advance (wsV RX2 43 RX2 yX2_putOut wsX2_putOut) := goodIn_app (goodIn_of _ (by decide +kernel)) ggX2_advance_X2_putOut
set_option maxRecDepth 20000 in
theorem ggX2_advance_X3_putFlag : GoodIn wsX2_advance wsX3_putFlag := goodIn_r _ [23, 24, 25, 36, 37, 38] (by decide +kernel) (by decide +kernel)
set_option maxRecDepth 20000 in
theorem gX2_advance_X3_putFlag : GoodIn wsX2_advance (wsV RX2 47 RX3 yX3_putFlag wsX3_putFlag) := goodIn_app (goodIn_of _ (by decide +kernel)) ggX2_advance_X3_putFlag
theorem dX2_advance_0 : decode cX2_advance 0 = .ok (.aload_n 0, 1) := by decide +kernel
theorem dX2_advance_1 : decode cX2_advance 1 = .ok (.getfield 33, 3) := by decide +kernel
theorem dX2_advance_4 : decode cX2_advance 4 = .ok (.ifCond .ne 4, 3) := by decide +kernel
theorem dX2_advance_7 : decode cX2_advance 7 = .ok (.return_, 1) := by decide +kernel
theorem dX2_advance_8 : decode cX2_advance 8 = .ok (.aload_n 0, 1) := by decide +kernel
theorem dX2_advance_9 : decode cX2_advance 9 = .ok (.dup, 1) := by decide +kernel
theorem dX2_advance_10 : decode cX2_advance 10 = .ok (.getfield 33, 3) := by decide +kernel
theorem dX2_advance_13 : decode cX2_advance 13 = .ok (.iconst 1, 1) := by decide +kernel
theorem dX2_advance_14 : decode cX2_advance 14 = .ok (.isub, 1) := by decide +kernel
theorem dX2_advance_15 : decode cX2_advance 15 = .ok (.putfield 33, 3) := by decide +kernel
theorem dX2_advance_18 : decode cX2_advance 18 = .ok (.aload_n 0, 1) := by decide +kernel
theorem dX2_advance_19 : decode cX2_advance 19 = .ok (.getfield 33, 3) := by decide +kernel
theorem dX2_advance_22 : decode cX2_advance 22 = .ok (.ifCond .le 4, 3) := by decide +kernel
theorem dX2_advance_25 : decode cX2_advance 25 = .ok (.return_, 1) := by decide +kernel
theorem dX2_advance_26 : decode cX2_advance 26 = .ok (.aload_n 0, 1) := by decide +kernel
theorem dX2_advance_27 : decode cX2_advance 27 = .ok (.getfield 25, 3) := by decide +kernel
theorem dX2_advance_30 : decode cX2_advance 30 = .ok (.ifCond .eq 14, 3) := by decide +kernel
theorem dX2_advance_33 : decode cX2_advance 33 = .ok (.aload_n 0, 1) := by decide +kernel
theorem dX2_advance_34 : decode cX2_advance 34 = .ok (.aload_n 0, 1) := by decide +kernel
theorem dX2_advance_35 : decode cX2_advance 35 = .ok (.invokevirtual 39, 3) := by decide +kernel
theorem dX2_advance_38 : decode cX2_advance 38 = .ok (.putfield 36, 3) := by decide +kernel
theorem dX2_advance_41 : decode cX2_advance 41 = .ok (.goto 11, 3) := by decide +kernel
theorem dX2_advance_44 : decode cX2_advance 44 = .ok (.aload_n 0, 1) := by decide +kernel
theorem dX2_advance_45 : decode cX2_advance 45 = .ok (.aload_n 0, 1) := by decide +kernel
theorem dX2_advance_46 : decode cX2_advance 46 = .ok (.getfield 36, 3) := by decide +kernel
theorem dX2_advance_49 : decode cX2_advance 49 = .ok (.invokevirtual 43, 3) := by decide +kernel
theorem dX2_advance_52 : decode cX2_advance 52 = .ok (.aload_n 0, 1) := by decide +kernel
theorem dX2_advance_53 : decode cX2_advance 53 = .ok (.getfield 12, 3) := by decide +kernel
theorem dX2_advance_56 : decode cX2_advance 56 = .ok (.iconst 1, 1) := by decide +kernel
theorem dX2_advance_57 : decode cX2_advance 57 = .ok (.invokevirtual 47, 3) := by decide +kernel
theorem dX2_advance_60 : decode cX2_advance 60 = .ok (.return_, 1) := by decide +kernel
theorem dX2_putOnTape_0 : decode cX2_putOnTape 0 = .ok (.aload_n 0, 1) := by decide +kernel
theorem dX2_putOnTape_1 : decode cX2_putOnTape 1 = .ok (.getfield 51, 3) := by decide +kernel
theorem dX2_putOnTape_4 : decode cX2_putOnTape 4 = .ok (.aload_n 0, 1) := by decide +kernel
theorem dX2_putOnTape_5 : decode cX2_putOnTape 5 = .ok (.getfield 54, 3) := by decide +kernel
theorem dX2_putOnTape_8 : decode cX2_putOnTape 8 = .ok (.iadd, 1) := by decide +kernel
theorem dX2_putOnTape_9 : decode cX2_putOnTape 9 = .ok (.istore_n 2, 1) := by decide +kernel
theorem dX2_putOnTape_10 : decode cX2_putOnTape 10 = .ok (.iload_n 2, 1) := by decide +kernel
theorem dX2_putOnTape_11 : decode cX2_putOnTape 11 = .ok (.bipush 100, 2) := by decide +kernel
theorem dX2_putOnTape_13 : decode cX2_putOnTape 13 = .ok (.if_icmp .lt 6, 3) := by decide +kernel
theorem dX2_putOnTape_16 : decode cX2_putOnTape 16 = .ok (.iinc 2 (-100), 3) := by decide +kernel
theorem dX2_putOnTape_19 : decode cX2_putOnTape 19 = .ok (.aload_n 0, 1) := by decide +kernel
theorem dX2_putOnTape_20 : decode cX2_putOnTape 20 = .ok (.getfield 54, 3) := by decide +kernel
theorem dX2_putOnTape_23 : decode cX2_putOnTape 23 = .ok (.bipush 100, 2) := by decide +kernel
theorem dX2_putOnTape_25 : decode cX2_putOnTape 25 = .ok (.if_icmp .ge 33, 3) := by decide +kernel
theorem dX2_putOnTape_28 : decode cX2_putOnTape 28 = .ok (.iload_n 2, 1) := by decide +kernel
theorem dX2_putOnTape_29 : decode cX2_putOnTape 29 = .ok (.ifCond .lt 29, 3) := by decide +kernel
theorem dX2_putOnTape_32 : decode cX2_putOnTape 32 = .ok (.iload_n 2, 1) := by decide +kernel
theorem dX2_putOnTape_33 : decode cX2_putOnTape 33 = .ok (.aload_n 0, 1) := by decide +kernel
theorem dX2_putOnTape_34 : decode cX2_putOnTape 34 = .ok (.getfield 18, 3) := by decide +kernel
theorem dX2_putOnTape_37 : decode cX2_putOnTape 37 = .ok (.arraylength, 1) := by decide +kernel
theorem dX2_putOnTape_38 : decode cX2_putOnTape 38 = .ok (.if_icmp .ge 20, 3) := by decide +kernel
theorem dX2_putOnTape_41 : decode cX2_putOnTape 41 = .ok (.aload_n 0, 1) := by decide +kernel
theorem dX2_putOnTape_42 : decode cX2_putOnTape 42 = .ok (.getfield 18, 3) := by decide +kernel
theorem dX2_putOnTape_45 : decode cX2_putOnTape 45 = .ok (.iload_n 2, 1) := by decide +kernel
theorem dX2_putOnTape_46 : decode cX2_putOnTape 46 = .ok (.iload_n 1, 1) := by decide +kernel
theorem dX2_putOnTape_47 : decode cX2_putOnTape 47 = .ok (.iastore, 1) := by decide +kernel
theorem dX2_putOnTape_48 : decode cX2_putOnTape 48 = .ok (.aload_n 0, 1) := by decide +kernel
theorem dX2_putOnTape_49 : decode cX2_putOnTape 49 = .ok (.dup, 1) := by decide +kernel
theorem dX2_putOnTape_50 : decode cX2_putOnTape 50 = .ok (.getfield 54, 3) := by decide +kernel
theorem dX2_putOnTape_53 : decode cX2_putOnTape 53 = .ok (.iconst 1, 1) := by decide +kernel
theorem dX2_putOnTape_54 : decode cX2_putOnTape 54 = .ok (.iadd, 1) := by decide +kernel
theorem dX2_putOnTape_55 : decode cX2_putOnTape 55 = .ok (.putfield 54, 3) := by decide +kernel
theorem dX2_putOnTape_58 : decode cX2_putOnTape 58 = .ok (.return_, 1) := by decide +kernel
theorem dX2_takeFromTape_0 : decode cX2_takeFromTape 0 = .ok (.aload_n 0, 1) := by decide +kernel
theorem dX2_takeFromTape_1 : decode cX2_takeFromTape 1 = .ok (.getfield 54, 3) := by decide +kernel
theorem dX2_takeFromTape_4 : decode cX2_takeFromTape 4 = .ok (.ifCond .eq 22, 3) := by decide +kernel
theorem dX2_takeFromTape_7 : decode cX2_takeFromTape 7 = .ok (.aload_n 0, 1) := by decide +kernel
theorem dX2_takeFromTape_8 : decode cX2_takeFromTape 8 = .ok (.getfield 51, 3) := by decide +kernel
theorem dX2_takeFromTape_11 : decode cX2_takeFromTape 11 = .ok (.ifCond .lt 15, 3) := by decide +kernel
theorem dX2_takeFromTape_14 : decode cX2_takeFromTape 14 = .ok (.aload_n 0, 1) := by decide +kernel
theorem dX2_takeFromTape_15 : decode cX2_takeFromTape 15 = .ok (.getfield 51, 3) := by decide +kernel
theorem dX2_takeFromTape_18 : decode cX2_takeFromTape 18 = .ok (.aload_n 0, 1) := by decide +kernel
theorem dX2_takeFromTape_19 : decode cX2_takeFromTape 19 = .ok (.getfield 18, 3) := by decide +kernel
theorem dX2_takeFromTape_22 : decode cX2_takeFromTape 22 = .ok (.arraylength, 1) := by decide +kernel
theorem dX2_takeFromTape_23 : decode cX2_takeFromTape 23 = .ok (.if_icmp .lt 5, 3) := by decide +kernel
theorem dX2_takeFromTape_26 : decode cX2_takeFromTape 26 = .ok (.iconst 0, 1) := by decide +kernel
theorem dX2_takeFromTape_27 : decode cX2_takeFromTape 27 = .ok (.ireturn, 1) := by decide +kernel
theorem dX2_takeFromTape_28 : decode cX2_takeFromTape 28 = .ok (.aload_n 0, 1) := by decide +kernel
theorem dX2_takeFromTape_29 : decode cX2_takeFromTape 29 = .ok (.getfield 18, 3) := by decide +kernel
theorem dX2_takeFromTape_32 : decode cX2_takeFromTape 32 = .ok (.aload_n 0, 1) := by decide +kernel
theorem dX2_takeFromTape_33 : decode cX2_takeFromTape 33 = .ok (.getfield 51, 3) := by decide +kernel
theorem dX2_takeFromTape_36 : decode cX2_takeFromTape 36 = .ok (.iaload, 1) := by decide +kernel
theorem dX2_takeFromTape_37 : decode cX2_takeFromTape 37 = .ok (.istore_n 1, 1) := by decide +kernel
theorem dX2_takeFromTape_38 : decode cX2_takeFromTape 38 = .ok (.aload_n 0, 1) := by decide +kernel
theorem dX2_takeFromTape_39 : decode cX2_takeFromTape 39 = .ok (.aload_n 0, 1) := by decide +kernel
theorem dX2_takeFromTape_40 : decode cX2_takeFromTape 40 = .ok (.getfield 51, 3) := by decide +kernel
theorem dX2_takeFromTape_43 : decode cX2_takeFromTape 43 = .ok (.iconst 1, 1) := by decide +kernel
theorem dX2_takeFromTape_44 : decode cX2_takeFromTape 44 = .ok (.iadd, 1) := by decide +kernel
theorem dX2_takeFromTape_45 : decode cX2_takeFromTape 45 = .ok (.bipush 100, 2) := by decide +kernel
theorem dX2_takeFromTape_47 : decode cX2_takeFromTape 47 = .ok (.if_icmp .ge 12, 3) := by decide +kernel
theorem dX2_takeFromTape_50 : decode cX2_takeFromTape 50 = .ok (.aload_n 0, 1) := by decide +kernel
theorem dX2_takeFromTape_51 : decode cX2_takeFromTape 51 = .ok (.getfield 51, 3) := by decide +kernel
theorem dX2_takeFromTape_54 : decode cX2_takeFromTape 54 = .ok (.iconst 1, 1) := by decide +kernel
theorem dX2_takeFromTape_55 : decode cX2_takeFromTape 55 = .ok (.iadd, 1) := by decide +kernel
theorem dX2_takeFromTape_56 : decode cX2_takeFromTape 56 = .ok (.goto 4, 3) := by decide +kernel
theorem dX2_takeFromTape_59 : decode cX2_takeFromTape 59 = .ok (.iconst 0, 1) := by decide +kernel
theorem dX2_takeFromTape_60 : decode cX2_takeFromTape 60 = .ok (.putfield 51, 3) := by decide +kernel
theorem dX2_takeFromTape_63 : decode cX2_takeFromTape 63 = .ok (.aload_n 0, 1) := by decide +kernel
theorem dX2_takeFromTape_64 : decode cX2_takeFromTape 64 = .ok (.dup, 1) := by decide +kernel
theorem dX2_takeFromTape_65 : decode cX2_takeFromTape 65 = .ok (.getfield 54, 3) := by decide +kernel
theorem dX2_takeFromTape_68 : decode cX2_takeFromTape 68 = .ok (.iconst 1, 1) := by decide +kernel
theorem dX2_takeFromTape_69 : decode cX2_takeFromTape 69 = .ok (.isub, 1) := by decide +kernel
theorem dX2_takeFromTape_70 : decode cX2_takeFromTape 70 = .ok (.putfield 54, 3) := by decide +kernel
theorem dX2_takeFromTape_73 : decode cX2_takeFromTape 73 = .ok (.iload_n 1, 1) := by decide +kernel
theorem dX2_takeFromTape_74 : decode cX2_takeFromTape 74 = .ok (.ireturn, 1) := by decide +kernel
theorem dX2_putOut_0 : decode cX2_putOut 0 = .ok (.aload_n 0, 1) := by decide +kernel
theorem dX2_putOut_1 : decode cX2_putOut 1 = .ok (.getfield 57, 3) := by decide +kernel
theorem dX2_putOut_4 : decode cX2_putOut 4 = .ok (.ifCond .lt 25, 3) := by decide +kernel
theorem dX2_putOut_7 : decode cX2_putOut 7 = .ok (.aload_n 0, 1) := by decide +kernel
theorem dX2_putOut_8 : decode cX2_putOut 8 = .ok (.getfield 57, 3) := by decide +kernel
theorem dX2_putOut_11 : decode cX2_putOut 11 = .ok (.aload_n 0, 1) := by decide +kernel
theorem dX2_putOut_12 : decode cX2_putOut 12 = .ok (.getfield 22, 3) := by decide +kernel
theorem dX2_putOut_15 : decode cX2_putOut 15 = .ok (.arraylength, 1) := by decide +kernel
theorem dX2_putOut_16 : decode cX2_putOut 16 = .ok (.if_icmp .ge 13, 3) := by decide +kernel
theorem dX2_putOut_19 : decode cX2_putOut 19 = .ok (.aload_n 0, 1) := by decide +kernel
theorem dX2_putOut_20 : decode cX2_putOut 20 = .ok (.getfield 22, 3) := by decide +kernel
theorem dX2_putOut_23 : decode cX2_putOut 23 = .ok (.aload_n 0, 1) := by decide +kernel
theorem dX2_putOut_24 : decode cX2_putOut 24 = .ok (.getfield 57, 3) := by decide +kernel
theorem dX2_putOut_27 : decode cX2_putOut 27 = .ok (.iload_n 1, 1) := by decide +kernel
theorem dX2_putOut_28 : decode cX2_putOut 28 = .ok (.iastore, 1) := by decide +kernel
theorem dX2_putOut_29 : decode cX2_putOut 29 = .ok (.aload_n 0, 1) := by decide +kernel
theorem dX2_putOut_30 : decode cX2_putOut 30 = .ok (.dup, 1) := by decide +kernel
theorem dX2_putOut_31 : decode cX2_putOut 31 = .ok (.getfield 57, 3) := by decide +kernel
theorem dX2_putOut_34 : decode cX2_putOut 34 = .ok (.iconst 1, 1) := by decide +kernel
theorem dX2_putOut_35 : decode cX2_putOut 35 = .ok (.iadd, 1) := by decide +kernel
theorem dX2_putOut_36 : decode cX2_putOut 36 = .ok (.putfield 57, 3) := by decide +kernel
theorem dX2_putOut_39 : decode cX2_putOut 39 = .ok (.return_, 1) := by decide +kernel
theorem dX2_keptOut_0 : decode cX2_keptOut 0 = .ok (.iload_n 1, 1) := by decide +kernel
theorem dX2_keptOut_1 : decode cX2_keptOut 1 = .ok (.ifCond .lt 29, 3) := by decide +kernel
theorem dX2_keptOut_4 : decode cX2_keptOut 4 = .ok (.iload_n 1, 1) := by decide +kernel
theorem dX2_keptOut_5 : decode cX2_keptOut 5 = .ok (.aload_n 0, 1) := by decide +kernel
theorem dX2_keptOut_6 : decode cX2_keptOut 6 = .ok (.getfield 57, 3) := by decide +kernel
theorem dX2_keptOut_9 : decode cX2_keptOut 9 = .ok (.if_icmp .ge 21, 3) := by decide +kernel
theorem dX2_keptOut_12 : decode cX2_keptOut 12 = .ok (.iload_n 1, 1) := by decide +kernel
theorem dX2_keptOut_13 : decode cX2_keptOut 13 = .ok (.aload_n 0, 1) := by decide +kernel
theorem dX2_keptOut_14 : decode cX2_keptOut 14 = .ok (.getfield 22, 3) := by decide +kernel
theorem dX2_keptOut_17 : decode cX2_keptOut 17 = .ok (.arraylength, 1) := by decide +kernel
theorem dX2_keptOut_18 : decode cX2_keptOut 18 = .ok (.if_icmp .ge 12, 3) := by decide +kernel
theorem dX2_keptOut_21 : decode cX2_keptOut 21 = .ok (.aload_n 0, 1) := by decide +kernel
theorem dX2_keptOut_22 : decode cX2_keptOut 22 = .ok (.getfield 22, 3) := by decide +kernel
theorem dX2_keptOut_25 : decode cX2_keptOut 25 = .ok (.iload_n 1, 1) := by decide +kernel
theorem dX2_keptOut_26 : decode cX2_keptOut 26 = .ok (.iaload, 1) := by decide +kernel
theorem dX2_keptOut_27 : decode cX2_keptOut 27 = .ok (.goto 4, 3) := by decide +kernel
theorem dX2_keptOut_30 : decode cX2_keptOut 30 = .ok (.iconst (-1), 1) := by decide +kernel
theorem dX2_keptOut_31 : decode cX2_keptOut 31 = .ok (.ireturn, 1) := by decide +kernel
set_option maxRecDepth 20000 in
theorem ggX2_tellPart_X7_bit : GoodIn wsX2_tellPart wsX7_bit := goodIn_r _ [9] (by decide +kernel) (by decide +kernel)
set_option maxRecDepth 20000 in
theorem gX2_tellPart_X7_bit_n60 : GoodIn wsX2_tellPart (wsX7_bit) := ggX2_tellPart_X7_bit
theorem dX2_tellPart_0 : decode cX2_tellPart 0 = .ok (.iload_n 1, 1) := by decide +kernel
theorem dX2_tellPart_1 : decode cX2_tellPart 1 = .ok (.tableswitch 72 3 8 #[39, 44, 49, 54, 62, 67], 39) := by decide +kernel
theorem dX2_tellPart_40 : decode cX2_tellPart 40 = .ok (.aload_n 0, 1) := by decide +kernel
theorem dX2_tellPart_41 : decode cX2_tellPart 41 = .ok (.getfield 33, 3) := by decide +kernel
theorem dX2_tellPart_44 : decode cX2_tellPart 44 = .ok (.ireturn, 1) := by decide +kernel
theorem dX2_tellPart_45 : decode cX2_tellPart 45 = .ok (.aload_n 0, 1) := by decide +kernel
theorem dX2_tellPart_46 : decode cX2_tellPart 46 = .ok (.getfield 36, 3) := by decide +kernel
theorem dX2_tellPart_49 : decode cX2_tellPart 49 = .ok (.ireturn, 1) := by decide +kernel
theorem dX2_tellPart_50 : decode cX2_tellPart 50 = .ok (.aload_n 0, 1) := by decide +kernel
theorem dX2_tellPart_51 : decode cX2_tellPart 51 = .ok (.getfield 54, 3) := by decide +kernel
theorem dX2_tellPart_54 : decode cX2_tellPart 54 = .ok (.ireturn, 1) := by decide +kernel
theorem dX2_tellPart_55 : decode cX2_tellPart 55 = .ok (.aload_n 0, 1) := by decide +kernel
theorem dX2_tellPart_56 : decode cX2_tellPart 56 = .ok (.getfield 25, 3) := by decide +kernel
theorem dX2_tellPart_59 : decode cX2_tellPart 59 = .ok (.invokestatic 60, 3) := by decide +kernel
theorem dX2_tellPart_62 : decode cX2_tellPart 62 = .ok (.ireturn, 1) := by decide +kernel
theorem dX2_tellPart_63 : decode cX2_tellPart 63 = .ok (.aload_n 0, 1) := by decide +kernel
theorem dX2_tellPart_64 : decode cX2_tellPart 64 = .ok (.getfield 29, 3) := by decide +kernel
theorem dX2_tellPart_67 : decode cX2_tellPart 67 = .ok (.ireturn, 1) := by decide +kernel
theorem dX2_tellPart_68 : decode cX2_tellPart 68 = .ok (.aload_n 0, 1) := by decide +kernel
theorem dX2_tellPart_69 : decode cX2_tellPart 69 = .ok (.getfield 57, 3) := by decide +kernel
theorem dX2_tellPart_72 : decode cX2_tellPart 72 = .ok (.ireturn, 1) := by decide +kernel
theorem dX2_tellPart_73 : decode cX2_tellPart 73 = .ok (.iconst (-1), 1) := by decide +kernel
theorem dX2_tellPart_74 : decode cX2_tellPart 74 = .ok (.ireturn, 1) := by decide +kernel
theorem dX3_init_0 : decode cX3_init 0 = .ok (.aload_n 0, 1) := by decide +kernel
theorem dX3_init_1 : decode cX3_init 1 = .ok (.invokespecial 1, 3) := by decide +kernel
theorem dX3_init_4 : decode cX3_init 4 = .ok (.return_, 1) := by decide +kernel
theorem dX3_putFlag_0 : decode cX3_putFlag 0 = .ok (.aload_n 0, 1) := by decide +kernel
theorem dX3_putFlag_1 : decode cX3_putFlag 1 = .ok (.iload_n 1, 1) := by decide +kernel
theorem dX3_putFlag_2 : decode cX3_putFlag 2 = .ok (.putfield 7, 3) := by decide +kernel
theorem dX3_putFlag_5 : decode cX3_putFlag 5 = .ok (.aload_n 0, 1) := by decide +kernel
theorem dX3_putFlag_6 : decode cX3_putFlag 6 = .ok (.iload_n 1, 1) := by decide +kernel
theorem dX3_putFlag_7 : decode cX3_putFlag 7 = .ok (.putfield 13, 3) := by decide +kernel
theorem dX3_putFlag_10 : decode cX3_putFlag 10 = .ok (.return_, 1) := by decide +kernel
theorem dX4_init_0 : decode cX4_init 0 = .ok (.aload_n 0, 1) := by decide +kernel
theorem dX4_init_1 : decode cX4_init 1 = .ok (.invokespecial 3, 3) := by decide +kernel
theorem dX4_init_4 : decode cX4_init 4 = .ok (.aload_n 0, 1) := by decide +kernel
theorem dX4_init_5 : decode cX4_init 5 = .ok (.sipush 4096, 3) := by decide +kernel
theorem dX4_init_8 : decode cX4_init 8 = .ok (.newarray .int, 2) := by decide +kernel
theorem dX4_init_10 : decode cX4_init 10 = .ok (.putfield 9, 3) := by decide +kernel
theorem dX4_init_13 : decode cX4_init 13 = .ok (.return_, 1) := by decide +kernel
theorem dX4_read_0 : decode cX4_read 0 = .ok (.iload_n 1, 1) := by decide +kernel
theorem dX4_read_1 : decode cX4_read 1 = .ok (.ifCond .lt 21, 3) := by decide +kernel
theorem dX4_read_4 : decode cX4_read 4 = .ok (.iload_n 1, 1) := by decide +kernel
theorem dX4_read_5 : decode cX4_read 5 = .ok (.aload_n 0, 1) := by decide +kernel
theorem dX4_read_6 : decode cX4_read 6 = .ok (.getfield 9, 3) := by decide +kernel
theorem dX4_read_9 : decode cX4_read 9 = .ok (.arraylength, 1) := by decide +kernel
theorem dX4_read_10 : decode cX4_read 10 = .ok (.if_icmp .ge 12, 3) := by decide +kernel
theorem dX4_read_13 : decode cX4_read 13 = .ok (.aload_n 0, 1) := by decide +kernel
theorem dX4_read_14 : decode cX4_read 14 = .ok (.getfield 9, 3) := by decide +kernel
theorem dX4_read_17 : decode cX4_read 17 = .ok (.iload_n 1, 1) := by decide +kernel
theorem dX4_read_18 : decode cX4_read 18 = .ok (.iaload, 1) := by decide +kernel
theorem dX4_read_19 : decode cX4_read 19 = .ok (.goto 4, 3) := by decide +kernel
theorem dX4_read_22 : decode cX4_read 22 = .ok (.iconst 0, 1) := by decide +kernel
theorem dX4_read_23 : decode cX4_read 23 = .ok (.ireturn, 1) := by decide +kernel
theorem dX4_write_0 : decode cX4_write 0 = .ok (.iload_n 1, 1) := by decide +kernel
theorem dX4_write_1 : decode cX4_write 1 = .ok (.ifCond .lt 22, 3) := by decide +kernel
theorem dX4_write_4 : decode cX4_write 4 = .ok (.iload_n 1, 1) := by decide +kernel
theorem dX4_write_5 : decode cX4_write 5 = .ok (.aload_n 0, 1) := by decide +kernel
theorem dX4_write_6 : decode cX4_write 6 = .ok (.getfield 9, 3) := by decide +kernel
theorem dX4_write_9 : decode cX4_write 9 = .ok (.arraylength, 1) := by decide +kernel
theorem dX4_write_10 : decode cX4_write 10 = .ok (.if_icmp .ge 13, 3) := by decide +kernel
theorem dX4_write_13 : decode cX4_write 13 = .ok (.aload_n 0, 1) := by decide +kernel
theorem dX4_write_14 : decode cX4_write 14 = .ok (.getfield 9, 3) := by decide +kernel
theorem dX4_write_17 : decode cX4_write 17 = .ok (.iload_n 1, 1) := by decide +kernel
theorem dX4_write_18 : decode cX4_write 18 = .ok (.iload_n 2, 1) := by decide +kernel
theorem dX4_write_19 : decode cX4_write 19 = .ok (.ldc 15, 2) := by decide +kernel
theorem dX4_write_21 : decode cX4_write 21 = .ok (.iand, 1) := by decide +kernel
theorem dX4_write_22 : decode cX4_write 22 = .ok (.iastore, 1) := by decide +kernel
theorem dX4_write_23 : decode cX4_write 23 = .ok (.return_, 1) := by decide +kernel
theorem dX5_init_0 : decode cX5_init 0 = .ok (.aload_n 0, 1) := by decide +kernel
theorem dX5_init_1 : decode cX5_init 1 = .ok (.invokespecial 3, 3) := by decide +kernel
theorem dX5_init_4 : decode cX5_init 4 = .ok (.aload_n 0, 1) := by decide +kernel
theorem dX5_init_5 : decode cX5_init 5 = .ok (.aload_n 1, 1) := by decide +kernel
theorem dX5_init_6 : decode cX5_init 6 = .ok (.putfield 9, 3) := by decide +kernel
theorem dX5_init_9 : decode cX5_init 9 = .ok (.aload_n 0, 1) := by decide +kernel
theorem dX5_init_10 : decode cX5_init 10 = .ok (.aload_n 2, 1) := by decide +kernel
theorem dX5_init_11 : decode cX5_init 11 = .ok (.putfield 15, 3) := by decide +kernel
theorem dX5_init_14 : decode cX5_init 14 = .ok (.aload_n 0, 1) := by decide +kernel
theorem dX5_init_15 : decode cX5_init 15 = .ok (.aload_n 3, 1) := by decide +kernel
theorem dX5_init_16 : decode cX5_init 16 = .ok (.putfield 19, 3) := by decide +kernel
theorem dX5_init_19 : decode cX5_init 19 = .ok (.return_, 1) := by decide +kernel
set_option maxRecDepth 20000 in
theorem ggX5_nextWord_X4_read : GoodIn wsX5_nextWord wsX4_read := goodIn_r _ [7, 8, 24] (by decide +kernel) (by decide +kernel)
set_option maxRecDepth 20000 in
theorem gX5_nextWord_X4_read : GoodIn wsX5_nextWord (wsV RX5 29 RX4 yX4_read wsX4_read) := goodIn_app (goodIn_of _ (by decide +kernel)) ggX5_nextWord_X4_read
set_option maxRecDepth 20000 in
theorem ggX5_nextWord_X6_stepOn : GoodIn wsX5_nextWord wsX6_stepOn := goodIn_r _ [13, 14, 18, 19, 20, 21, 22, 23] (by decide +kernel) (by decide +kernel)
set_option maxRecDepth 20000 in
theorem gX5_nextWord_X6_stepOn : GoodIn wsX5_nextWord (wsV RX5 35 RX6 yX6_stepOn wsX6_stepOn) := goodIn_app (goodIn_of _ (by decide +kernel)) ggX5_nextWord_X6_stepOn
theorem dX5_nextWord_0 : decode cX5_nextWord 0 = .ok (.aload_n 0, 1) := by decide +kernel
theorem dX5_nextWord_1 : decode cX5_nextWord 1 = .ok (.getfield 9, 3) := by decide +kernel
theorem dX5_nextWord_4 : decode cX5_nextWord 4 = .ok (.aload_n 0, 1) := by decide +kernel
theorem dX5_nextWord_5 : decode cX5_nextWord 5 = .ok (.getfield 15, 3) := by decide +kernel
theorem dX5_nextWord_8 : decode cX5_nextWord 8 = .ok (.getfield 23, 3) := by decide +kernel
theorem dX5_nextWord_11 : decode cX5_nextWord 11 = .ok (.invokevirtual 29, 3) := by decide +kernel
theorem dX5_nextWord_14 : decode cX5_nextWord 14 = .ok (.istore_n 1, 1) := by decide +kernel
theorem dX5_nextWord_15 : decode cX5_nextWord 15 = .ok (.aload_n 0, 1) := by decide +kernel
theorem dX5_nextWord_16 : decode cX5_nextWord 16 = .ok (.getfield 15, 3) := by decide +kernel
theorem dX5_nextWord_19 : decode cX5_nextWord 19 = .ok (.invokevirtual 35, 3) := by decide +kernel
theorem dX5_nextWord_22 : decode cX5_nextWord 22 = .ok (.iload_n 1, 1) := by decide +kernel
theorem dX5_nextWord_23 : decode cX5_nextWord 23 = .ok (.ireturn, 1) := by decide +kernel
set_option maxRecDepth 20000 in
theorem ggX5_perform_X5_resolve : GoodIn wsX5_perform wsX5_resolve := goodIn_r _ [6, 1, 7, 8, 9, 10, 11, 12, 13, 14, 15, 16, 17, 18, 19, 20, 21, 209, 210, 211, 212, 213, 214, 215, 216, 217, 218] (by decide +kernel) (by decide +kernel)
set_option maxRecDepth 20000 in
theorem gX5_perform_X5_resolve : GoodIn wsX5_perform (wsV RX5 39 RX5 yX5_resolve wsX5_resolve) := goodIn_app (goodIn_of _ (by decide +kernel)) ggX5_perform_X5_resolve
set_option maxRecDepth 20000 in
theorem ggX5_perform_X5_referToMemory : GoodIn wsX5_perform wsX5_referToMemory := goodIn_r _ [25, 1, 7, 8, 26, 27, 5, 28, 9, 10, 11, 12, 13, 14, 29, 30, 31, 32, 33, 34, 35, 36, 37, 38, 39, 40, 41, 42, 43, 44, 45, 46, 47, 48, 49, 18, 50, 51, 52, 53, 54, 55, 209, 210, 211, 213, 214, 215, 216, 217, 218, 212] (by decide +kernel) (by decide +kernel)
set_option maxRecDepth 20000 in
theorem gX5_perform_X5_referToMemory : GoodIn wsX5_perform (wsV RX5 42 RX5 yX5_referToMemory wsX5_referToMemory) := goodIn_app (goodIn_of _ (by decide +kernel)) ggX5_perform_X5_referToMemory
set_option maxRecDepth 20000 in
theorem ggX5_perform_X5_alterAndSkip : GoodIn wsX5_perform wsX5_alterAndSkip := goodIn_r _ [59, 7, 8, 1, 26, 27, 5, 28, 9, 10, 11, 12, 13, 14, 60, 61, 62, 42, 63, 64, 65, 66, 67, 68, 69, 29, 30, 31, 32, 33, 43, 44, 45, 46, 47, 48, 49, 18, 50, 51, 209, 210, 211, 213, 214, 215, 216, 217, 218, 212] (by decide +kernel) (by decide +kernel)
set_option maxRecDepth 20000 in
theorem gX5_perform_X5_alterAndSkip : GoodIn wsX5_perform (wsV RX5 46 RX5 yX5_alterAndSkip wsX5_alterAndSkip) := goodIn_app (goodIn_of _ (by decide +kernel)) ggX5_perform_X5_alterAndSkip
set_option maxRecDepth 20000 in
theorem ggX5_perform_X5_shiftAndSkip : GoodIn wsX5_perform wsX5_shiftAndSkip := goodIn_r _ [73, 7, 8, 26, 27, 5, 28, 9, 10, 11, 12, 13, 14, 74, 75, 76, 77, 1, 42, 78, 79, 80, 81, 29, 30, 31, 32, 33, 43, 44, 45, 46, 47, 48, 49, 18, 50, 51, 209, 210, 211, 213, 214, 215, 216, 217, 218, 212] (by decide +kernel) (by decide +kernel)
set_option maxRecDepth 20000 in
theorem gX5_perform_X5_shiftAndSkip : GoodIn wsX5_perform (wsV RX5 50 RX5 yX5_shiftAndSkip wsX5_shiftAndSkip) := goodIn_app (goodIn_of _ (by decide +kernel)) ggX5_perform_X5_shiftAndSkip
set_option maxRecDepth 20000 in
theorem ggX5_perform_X5_inputOrOutput : GoodIn wsX5_perform wsX5_inputOrOutput := goodIn_r _ [85, 8, 86, 7, 26, 27, 5, 28, 15, 16, 17, 18, 19, 20, 21, 87, 88, 89, 90, 91, 92, 93, 94, 95, 96, 97, 98, 99, 100, 101, 102, 103, 104, 105, 106, 107, 108, 109, 110, 111, 112, 43, 44, 45, 46, 47, 48, 49, 50, 51, 9, 10, 11, 12, 13, 14, 113, 114, 115, 116, 117, 118, 119, 120, 121, 122, 123, 124, 125, 126, 127, 29, 30, 31, 32, 33, 128, 129, 130, 131, 132, 133, 134, 135, 136, 137, 138, 139, 140, 141, 142, 143, 144, 145, 146, 147, 148, 149, 150, 151, 152, 153, 154, 155, 156, 157, 158, 159, 160, 161, 209, 210, 211, 213, 214, 215, 216, 217, 218, 219, 220, 221, 222, 223, 224, 225, 226, 227, 228, 212, 229, 230, 231, 232, 233, 234, 235, 236, 237, 238, 239, 240, 241, 242, 243, 244, 245, 246] (by decide +kernel) (by decide +kernel)
set_option maxRecDepth 20000 in
theorem gX5_perform_X5_inputOrOutput : GoodIn wsX5_perform (wsV RX5 53 RX5 yX5_inputOrOutput wsX5_inputOrOutput) := goodIn_app (goodIn_of _ (by decide +kernel)) ggX5_perform_X5_inputOrOutput
set_option maxRecDepth 20000 in
theorem ggX5_perform_X5_hasAddressBehind : GoodIn wsX5_perform wsX5_hasAddressBehind := goodIn_r _ [164, 165, 166, 167, 168] (by decide +kernel) (by decide +kernel)
set_option maxRecDepth 20000 in
theorem gX5_perform_X5_hasAddressBehind : GoodIn wsX5_perform (va_wsS RX5 56 yX5_hasAddressBehind wsX5_hasAddressBehind) := goodIn_app (goodIn_of _ (by decide +kernel)) ggX5_perform_X5_hasAddressBehind
set_option maxRecDepth 20000 in
theorem ggX5_perform_X5_nextWord : GoodIn wsX5_perform wsX5_nextWord := goodIn_r _ [172, 7, 8, 9, 10, 11, 12, 13, 14, 47, 48, 49, 18, 50, 51, 209, 210, 211, 213, 214, 215, 216, 217, 218, 212] (by decide +kernel) (by decide +kernel)
set_option maxRecDepth 20000 in
theorem gX5_perform_X5_nextWord : GoodIn wsX5_perform (wsV RX5 60 RX5 yX5_nextWord wsX5_nextWord) := goodIn_app (goodIn_of _ (by decide +kernel)) ggX5_perform_X5_nextWord
set_option maxRecDepth 20000 in
theorem ggX5_perform_X5_doubleWord : GoodIn wsX5_perform wsX5_doubleWord := goodIn_r _ [176, 7, 9, 10, 11, 12, 13, 14, 177, 178, 179, 5, 180, 8, 181, 182, 183, 184, 29, 30, 31, 32, 33, 185, 186, 187, 188, 189, 190, 191, 192, 193, 194, 195, 196, 197, 198, 209, 210, 211, 212, 213, 214, 215, 216, 217, 218] (by decide +kernel) (by decide +kernel)
set_option maxRecDepth 20000 in
theorem gX5_perform_X5_doubleWord : GoodIn wsX5_perform (wsV RX5 64 RX5 yX5_doubleWord wsX5_doubleWord) := goodIn_app (goodIn_of _ (by decide +kernel)) ggX5_perform_X5_doubleWord
set_option maxRecDepth 20000 in
theorem ggX5_perform_X5_longShift : GoodIn wsX5_perform wsX5_longShift := goodIn_r _ [202, 203, 204, 205, 8, 191, 192, 193, 5, 194, 7, 9, 10, 11, 12, 13, 14, 181, 182, 183, 184, 29, 30, 31, 32, 33, 206, 207, 208, 94, 95, 96, 209, 210, 211, 213, 214, 215, 216, 217, 218, 212] (by decide +kernel) (by decide +kernel)
set_option maxRecDepth 20000 in
theorem gX5_perform_X5_longShift : GoodIn wsX5_perform (wsV RX5 67 RX5 yX5_longShift wsX5_longShift) := goodIn_app (goodIn_of _ (by decide +kernel)) ggX5_perform_X5_longShift
theorem dX5_perform_0 : decode cX5_perform 0 = .ok (.iload_n 1, 1) := by decide +kernel
theorem dX5_perform_1 : decode cX5_perform 1 = .ok (.sipush 1024, 3) := by decide +kernel
theorem dX5_perform_4 : decode cX5_perform 4 = .ok (.iand, 1) := by decide +kernel
theorem dX5_perform_5 : decode cX5_perform 5 = .ok (.ifCond .eq 7, 3) := by decide +kernel
theorem dX5_perform_8 : decode cX5_perform 8 = .ok (.iconst 1, 1) := by decide +kernel
theorem dX5_perform_9 : decode cX5_perform 9 = .ok (.goto 4, 3) := by decide +kernel
theorem dX5_perform_12 : decode cX5_perform 12 = .ok (.iconst 0, 1) := by decide +kernel
theorem dX5_perform_13 : decode cX5_perform 13 = .ok (.istore_n 3, 1) := by decide +kernel
theorem dX5_perform_14 : decode cX5_perform 14 = .ok (.iload_n 1, 1) := by decide +kernel
theorem dX5_perform_15 : decode cX5_perform 15 = .ok (.sipush 28672, 3) := by decide +kernel
theorem dX5_perform_18 : decode cX5_perform 18 = .ok (.iand, 1) := by decide +kernel
theorem dX5_perform_19 : decode cX5_perform 19 = .ok (.ifCond .eq 39, 3) := by decide +kernel
theorem dX5_perform_22 : decode cX5_perform 22 = .ok (.iload_n 3, 1) := by decide +kernel
theorem dX5_perform_23 : decode cX5_perform 23 = .ok (.ifCond .eq 7, 3) := by decide +kernel
theorem dX5_perform_26 : decode cX5_perform 26 = .ok (.iload_n 2, 1) := by decide +kernel
theorem dX5_perform_27 : decode cX5_perform 27 = .ok (.goto 4, 3) := by decide +kernel
theorem dX5_perform_30 : decode cX5_perform 30 = .ok (.iconst 0, 1) := by decide +kernel
theorem dX5_perform_31 : decode cX5_perform 31 = .ok (.iload_n 1, 1) := by decide +kernel
theorem dX5_perform_32 : decode cX5_perform 32 = .ok (.sipush 1023, 3) := by decide +kernel
theorem dX5_perform_35 : decode cX5_perform 35 = .ok (.iand, 1) := by decide +kernel
theorem dX5_perform_36 : decode cX5_perform 36 = .ok (.ior, 1) := by decide +kernel
theorem dX5_perform_37 : decode cX5_perform 37 = .ok (.istore 4, 2) := by decide +kernel
theorem dX5_perform_39 : decode cX5_perform 39 = .ok (.aload_n 0, 1) := by decide +kernel
theorem dX5_perform_40 : decode cX5_perform 40 = .ok (.iload_n 1, 1) := by decide +kernel
theorem dX5_perform_41 : decode cX5_perform 41 = .ok (.aload_n 0, 1) := by decide +kernel
theorem dX5_perform_42 : decode cX5_perform 42 = .ok (.iload_n 1, 1) := by decide +kernel
theorem dX5_perform_43 : decode cX5_perform 43 = .ok (.ldc 38, 2) := by decide +kernel
theorem dX5_perform_45 : decode cX5_perform 45 = .ok (.iand, 1) := by decide +kernel
theorem dX5_perform_46 : decode cX5_perform 46 = .ok (.iload 4, 2) := by decide +kernel
theorem dX5_perform_48 : decode cX5_perform 48 = .ok (.ior, 1) := by decide +kernel
theorem dX5_perform_49 : decode cX5_perform 49 = .ok (.invokevirtual 39, 3) := by decide +kernel
theorem dX5_perform_52 : decode cX5_perform 52 = .ok (.invokevirtual 42, 3) := by decide +kernel
theorem dX5_perform_55 : decode cX5_perform 55 = .ok (.goto 70, 3) := by decide +kernel
theorem dX5_perform_58 : decode cX5_perform 58 = .ok (.iload_n 1, 1) := by decide +kernel
theorem dX5_perform_59 : decode cX5_perform 59 = .ok (.ldc 38, 2) := by decide +kernel
theorem dX5_perform_61 : decode cX5_perform 61 = .ok (.iand, 1) := by decide +kernel
theorem dX5_perform_62 : decode cX5_perform 62 = .ok (.ifCond .ne 23, 3) := by decide +kernel
theorem dX5_perform_65 : decode cX5_perform 65 = .ok (.iload_n 3, 1) := by decide +kernel
theorem dX5_perform_66 : decode cX5_perform 66 = .ok (.ifCond .eq 11, 3) := by decide +kernel
theorem dX5_perform_69 : decode cX5_perform 69 = .ok (.aload_n 0, 1) := by decide +kernel
theorem dX5_perform_70 : decode cX5_perform 70 = .ok (.iload_n 1, 1) := by decide +kernel
theorem dX5_perform_71 : decode cX5_perform 71 = .ok (.invokevirtual 46, 3) := by decide +kernel
theorem dX5_perform_74 : decode cX5_perform 74 = .ok (.goto 51, 3) := by decide +kernel
theorem dX5_perform_77 : decode cX5_perform 77 = .ok (.aload_n 0, 1) := by decide +kernel
theorem dX5_perform_78 : decode cX5_perform 78 = .ok (.iload_n 1, 1) := by decide +kernel
theorem dX5_perform_79 : decode cX5_perform 79 = .ok (.invokevirtual 50, 3) := by decide +kernel
theorem dX5_perform_82 : decode cX5_perform 82 = .ok (.goto 43, 3) := by decide +kernel
theorem dX5_perform_85 : decode cX5_perform 85 = .ok (.iload_n 3, 1) := by decide +kernel
theorem dX5_perform_86 : decode cX5_perform 86 = .ok (.ifCond .eq 11, 3) := by decide +kernel
theorem dX5_perform_89 : decode cX5_perform 89 = .ok (.aload_n 0, 1) := by decide +kernel
theorem dX5_perform_90 : decode cX5_perform 90 = .ok (.iload_n 1, 1) := by decide +kernel
theorem dX5_perform_91 : decode cX5_perform 91 = .ok (.invokevirtual 53, 3) := by decide +kernel
theorem dX5_perform_94 : decode cX5_perform 94 = .ok (.goto 31, 3) := by decide +kernel
theorem dX5_perform_97 : decode cX5_perform 97 = .ok (.iload_n 1, 1) := by decide +kernel
theorem dX5_perform_98 : decode cX5_perform 98 = .ok (.invokestatic 56, 3) := by decide +kernel
theorem dX5_perform_101 : decode cX5_perform 101 = .ok (.ifCond .eq 19, 3) := by decide +kernel
theorem dX5_perform_104 : decode cX5_perform 104 = .ok (.aload_n 0, 1) := by decide +kernel
theorem dX5_perform_105 : decode cX5_perform 105 = .ok (.iload_n 1, 1) := by decide +kernel
theorem dX5_perform_106 : decode cX5_perform 106 = .ok (.aload_n 0, 1) := by decide +kernel
theorem dX5_perform_107 : decode cX5_perform 107 = .ok (.aload_n 0, 1) := by decide +kernel
theorem dX5_perform_108 : decode cX5_perform 108 = .ok (.invokevirtual 60, 3) := by decide +kernel
theorem dX5_perform_111 : decode cX5_perform 111 = .ok (.invokevirtual 39, 3) := by decide +kernel
theorem dX5_perform_114 : decode cX5_perform 114 = .ok (.invokevirtual 64, 3) := by decide +kernel
theorem dX5_perform_117 : decode cX5_perform 117 = .ok (.goto 8, 3) := by decide +kernel
theorem dX5_perform_120 : decode cX5_perform 120 = .ok (.aload_n 0, 1) := by decide +kernel
theorem dX5_perform_121 : decode cX5_perform 121 = .ok (.iload_n 1, 1) := by decide +kernel
theorem dX5_perform_122 : decode cX5_perform 122 = .ok (.invokevirtual 67, 3) := by decide +kernel
theorem dX5_perform_125 : decode cX5_perform 125 = .ok (.return_, 1) := by decide +kernel
set_option maxRecDepth 20000 in
theorem ggX5_resolve_X4_read : GoodIn wsX5_resolve wsX4_read := goodIn_r _ [8, 9, 20] (by decide +kernel) (by decide +kernel)
set_option maxRecDepth 20000 in
theorem gX5_resolve_X4_read : GoodIn wsX5_resolve (wsV RX5 29 RX4 yX4_read wsX4_read) := goodIn_app (goodIn_of _ (by decide +kernel)) ggX5_resolve_X4_read
set_option maxRecDepth 20000 in
theorem ggX5_resolve_X6_halt : GoodIn wsX5_resolve wsX6_halt := goodIn_r _ [14, 15, 16, 21, 22, 23, 24, 25, 26] (by decide +kernel) (by decide +kernel)
set_option maxRecDepth 20000 in
theorem gX5_resolve_X6_halt : GoodIn wsX5_resolve (wsV RX5 70 RX6 yX6_halt wsX6_halt) := goodIn_app (goodIn_of _ (by decide +kernel)) ggX5_resolve_X6_halt
theorem dX5_resolve_0 : decode cX5_resolve 0 = .ok (.iload_n 1, 1) := by decide +kernel
theorem dX5_resolve_1 : decode cX5_resolve 1 = .ok (.istore_n 2, 1) := by decide +kernel
theorem dX5_resolve_2 : decode cX5_resolve 2 = .ok (.iconst 0, 1) := by decide +kernel
theorem dX5_resolve_3 : decode cX5_resolve 3 = .ok (.istore_n 3, 1) := by decide +kernel
theorem dX5_resolve_4 : decode cX5_resolve 4 = .ok (.iload_n 3, 1) := by decide +kernel
theorem dX5_resolve_5 : decode cX5_resolve 5 = .ok (.bipush 32, 2) := by decide +kernel
theorem dX5_resolve_7 : decode cX5_resolve 7 = .ok (.if_icmp .ge 29, 3) := by decide +kernel
theorem dX5_resolve_10 : decode cX5_resolve 10 = .ok (.iload_n 2, 1) := by decide +kernel
theorem dX5_resolve_11 : decode cX5_resolve 11 = .ok (.ldc 38, 2) := by decide +kernel
theorem dX5_resolve_13 : decode cX5_resolve 13 = .ok (.iand, 1) := by decide +kernel
theorem dX5_resolve_14 : decode cX5_resolve 14 = .ok (.ifCond .eq 22, 3) := by decide +kernel
theorem dX5_resolve_17 : decode cX5_resolve 17 = .ok (.aload_n 0, 1) := by decide +kernel
theorem dX5_resolve_18 : decode cX5_resolve 18 = .ok (.getfield 9, 3) := by decide +kernel
theorem dX5_resolve_21 : decode cX5_resolve 21 = .ok (.iload_n 2, 1) := by decide +kernel
theorem dX5_resolve_22 : decode cX5_resolve 22 = .ok (.sipush 32767, 3) := by decide +kernel
theorem dX5_resolve_25 : decode cX5_resolve 25 = .ok (.iand, 1) := by decide +kernel
theorem dX5_resolve_26 : decode cX5_resolve 26 = .ok (.invokevirtual 29, 3) := by decide +kernel
theorem dX5_resolve_29 : decode cX5_resolve 29 = .ok (.istore_n 2, 1) := by decide +kernel
theorem dX5_resolve_30 : decode cX5_resolve 30 = .ok (.iinc 3 1, 3) := by decide +kernel
theorem dX5_resolve_33 : decode cX5_resolve 33 = .ok (.goto (-29), 3) := by decide +kernel
theorem dX5_resolve_36 : decode cX5_resolve 36 = .ok (.iload_n 2, 1) := by decide +kernel
theorem dX5_resolve_37 : decode cX5_resolve 37 = .ok (.ldc 38, 2) := by decide +kernel
theorem dX5_resolve_39 : decode cX5_resolve 39 = .ok (.iand, 1) := by decide +kernel
theorem dX5_resolve_40 : decode cX5_resolve 40 = .ok (.ifCond .eq 14, 3) := by decide +kernel
theorem dX5_resolve_43 : decode cX5_resolve 43 = .ok (.aload_n 0, 1) := by decide +kernel
theorem dX5_resolve_44 : decode cX5_resolve 44 = .ok (.getfield 15, 3) := by decide +kernel
theorem dX5_resolve_47 : decode cX5_resolve 47 = .ok (.bipush 64, 2) := by decide +kernel
theorem dX5_resolve_49 : decode cX5_resolve 49 = .ok (.invokevirtual 70, 3) := by decide +kernel
theorem dX5_resolve_52 : decode cX5_resolve 52 = .ok (.iconst (-1), 1) := by decide +kernel
theorem dX5_resolve_53 : decode cX5_resolve 53 = .ok (.ireturn, 1) := by decide +kernel
theorem dX5_resolve_54 : decode cX5_resolve 54 = .ok (.iload_n 2, 1) := by decide +kernel
theorem dX5_resolve_55 : decode cX5_resolve 55 = .ok (.ireturn, 1) := by decide +kernel
set_option maxRecDepth 20000 in
theorem ggX5_referToMemory_X5_registerOf : GoodIn wsX5_referToMemory wsX5_registerOf := goodIn_r _ [7] (by decide +kernel) (by decide +kernel)
set_option maxRecDepth 20000 in
theorem gX5_referToMemory_X5_registerOf : GoodIn wsX5_referToMemory (va_wsS RX5 73 yX5_registerOf wsX5_registerOf) := goodIn_app (goodIn_of _ (by decide +kernel)) ggX5_referToMemory_X5_registerOf
set_option maxRecDepth 20000 in
theorem ggX5_referToMemory_X4_read : GoodIn wsX5_referToMemory wsX4_read := goodIn_r _ [12, 13, 51] (by decide +kernel) (by decide +kernel)
set_option maxRecDepth 20000 in
theorem gX5_referToMemory_X4_read : GoodIn wsX5_referToMemory (wsV RX5 29 RX4 yX4_read wsX4_read) := goodIn_app (goodIn_of _ (by decide +kernel)) ggX5_referToMemory_X4_read
set_option maxRecDepth 20000 in
theorem ggX5_referToMemory_X4_write : GoodIn wsX5_referToMemory wsX4_write := goodIn_r _ [17, 13, 18, 51] (by decide +kernel) (by decide +kernel)
set_option maxRecDepth 20000 in
theorem gX5_referToMemory_X4_write : GoodIn wsX5_referToMemory (wsV RX5 76 RX4 yX4_write wsX4_write) := goodIn_app (goodIn_of _ (by decide +kernel)) ggX5_referToMemory_X4_write
set_option maxRecDepth 20000 in
theorem ggX5_referToMemory_X5_jump : GoodIn wsX5_referToMemory wsX5_jump := goodIn_r _ [22, 3, 42, 43, 44, 45, 46, 47, 48, 49, 50] (by decide +kernel) (by decide +kernel)
set_option maxRecDepth 20000 in
theorem gX5_referToMemory_X5_jump : GoodIn wsX5_referToMemory (wsV RX5 79 RX5 yX5_jump wsX5_jump) := goodIn_app (goodIn_of _ (by decide +kernel)) ggX5_referToMemory_X5_jump
set_option maxRecDepth 20000 in
theorem ggX5_referToMemory_X5_incrementAndSkip : GoodIn wsX5_referToMemory wsX5_incrementAndSkip := goodIn_r _ [26, 27, 2, 14, 15, 16, 11, 17, 13, 18, 28, 29, 30, 6, 31, 3, 32, 33, 34, 35, 36, 37, 42, 43, 44, 51, 45, 46, 47, 48, 49, 50] (by decide +kernel) (by decide +kernel)
set_option maxRecDepth 20000 in
theorem gX5_referToMemory_X5_incrementAndSkip : GoodIn wsX5_referToMemory (wsV RX5 83 RX5 yX5_incrementAndSkip wsX5_incrementAndSkip) := goodIn_app (goodIn_of _ (by decide +kernel)) ggX5_referToMemory_X5_incrementAndSkip
set_option maxRecDepth 20000 in
theorem ggX5_referToMemory_X5_add : GoodIn wsX5_referToMemory wsX5_add := goodIn_r _ [41, 2, 27, 3, 1, 8, 9, 10, 11, 12, 13, 14, 15, 16, 17, 18, 42, 43, 44, 45, 46, 47, 48, 49, 50, 51] (by decide +kernel) (by decide +kernel)
set_option maxRecDepth 20000 in
theorem gX5_referToMemory_X5_add : GoodIn wsX5_referToMemory (wsV RX5 86 RX5 yX5_add wsX5_add) := goodIn_app (goodIn_of _ (by decide +kernel)) ggX5_referToMemory_X5_add
set_option maxRecDepth 20000 in
theorem ggX5_referToMemory_X5_skipIf : GoodIn wsX5_referToMemory wsX5_skipIf := goodIn_r _ [31, 3, 32, 33, 34, 35, 36, 37, 42, 43, 44, 45, 46, 47, 48, 49, 50] (by decide +kernel) (by decide +kernel)
set_option maxRecDepth 20000 in
theorem gX5_referToMemory_X5_skipIf : GoodIn wsX5_referToMemory (wsV RX5 89 RX5 yX5_skipIf wsX5_skipIf) := goodIn_app (goodIn_of _ (by decide +kernel)) ggX5_referToMemory_X5_skipIf
theorem dX5_referToMemory_0 : decode cX5_referToMemory 0 = .ok (.iload_n 2, 1) := by decide +kernel
theorem dX5_referToMemory_1 : decode cX5_referToMemory 1 = .ok (.iconst (-1), 1) := by decide +kernel
theorem dX5_referToMemory_2 : decode cX5_referToMemory 2 = .ok (.if_icmp .ne 4, 3) := by decide +kernel
theorem dX5_referToMemory_5 : decode cX5_referToMemory 5 = .ok (.return_, 1) := by decide +kernel
theorem dX5_referToMemory_6 : decode cX5_referToMemory 6 = .ok (.iload_n 1, 1) := by decide +kernel
theorem dX5_referToMemory_7 : decode cX5_referToMemory 7 = .ok (.ldc 38, 2) := by decide +kernel
theorem dX5_referToMemory_9 : decode cX5_referToMemory 9 = .ok (.iand, 1) := by decide +kernel
theorem dX5_referToMemory_10 : decode cX5_referToMemory 10 = .ok (.ifCond .eq 7, 3) := by decide +kernel
theorem dX5_referToMemory_13 : decode cX5_referToMemory 13 = .ok (.iconst 1, 1) := by decide +kernel
theorem dX5_referToMemory_14 : decode cX5_referToMemory 14 = .ok (.goto 4, 3) := by decide +kernel
theorem dX5_referToMemory_17 : decode cX5_referToMemory 17 = .ok (.iconst 0, 1) := by decide +kernel
theorem dX5_referToMemory_18 : decode cX5_referToMemory 18 = .ok (.istore_n 3, 1) := by decide +kernel
theorem dX5_referToMemory_19 : decode cX5_referToMemory 19 = .ok (.iload_n 1, 1) := by decide +kernel
theorem dX5_referToMemory_20 : decode cX5_referToMemory 20 = .ok (.invokestatic 73, 3) := by decide +kernel
theorem dX5_referToMemory_23 : decode cX5_referToMemory 23 = .ok (.istore 4, 2) := by decide +kernel
theorem dX5_referToMemory_25 : decode cX5_referToMemory 25 = .ok (.aload_n 0, 1) := by decide +kernel
theorem dX5_referToMemory_26 : decode cX5_referToMemory 26 = .ok (.getfield 9, 3) := by decide +kernel
theorem dX5_referToMemory_29 : decode cX5_referToMemory 29 = .ok (.iload_n 2, 1) := by decide +kernel
theorem dX5_referToMemory_30 : decode cX5_referToMemory 30 = .ok (.invokevirtual 29, 3) := by decide +kernel
theorem dX5_referToMemory_33 : decode cX5_referToMemory 33 = .ok (.istore 5, 2) := by decide +kernel
theorem dX5_referToMemory_35 : decode cX5_referToMemory 35 = .ok (.iload_n 1, 1) := by decide +kernel
theorem dX5_referToMemory_36 : decode cX5_referToMemory 36 = .ok (.bipush 11, 2) := by decide +kernel
theorem dX5_referToMemory_38 : decode cX5_referToMemory 38 = .ok (.ishr, 1) := by decide +kernel
theorem dX5_referToMemory_39 : decode cX5_referToMemory 39 = .ok (.bipush 15, 2) := by decide +kernel
theorem dX5_referToMemory_41 : decode cX5_referToMemory 41 = .ok (.iand, 1) := by decide +kernel
theorem dX5_referToMemory_42 : decode cX5_referToMemory 42 = .ok (.tableswitch 252 2 15 #[70, 92, 118, 140, 149, 171, 181, 181, 192, 192, 218, 218, 232, 232], 70) := by decide +kernel
theorem dX5_referToMemory_112 : decode cX5_referToMemory 112 = .ok (.aload_n 0, 1) := by decide +kernel
theorem dX5_referToMemory_113 : decode cX5_referToMemory 113 = .ok (.getfield 9, 3) := by decide +kernel
theorem dX5_referToMemory_116 : decode cX5_referToMemory 116 = .ok (.iconst 0, 1) := by decide +kernel
theorem dX5_referToMemory_117 : decode cX5_referToMemory 117 = .ok (.aload_n 0, 1) := by decide +kernel
theorem dX5_referToMemory_118 : decode cX5_referToMemory 118 = .ok (.getfield 9, 3) := by decide +kernel
theorem dX5_referToMemory_121 : decode cX5_referToMemory 121 = .ok (.iconst 0, 1) := by decide +kernel
theorem dX5_referToMemory_122 : decode cX5_referToMemory 122 = .ok (.invokevirtual 29, 3) := by decide +kernel
theorem dX5_referToMemory_125 : decode cX5_referToMemory 125 = .ok (.iload 5, 2) := by decide +kernel
theorem dX5_referToMemory_127 : decode cX5_referToMemory 127 = .ok (.iand, 1) := by decide +kernel
theorem dX5_referToMemory_128 : decode cX5_referToMemory 128 = .ok (.invokevirtual 76, 3) := by decide +kernel
theorem dX5_referToMemory_131 : decode cX5_referToMemory 131 = .ok (.goto 163, 3) := by decide +kernel
theorem dX5_referToMemory_134 : decode cX5_referToMemory 134 = .ok (.aload_n 0, 1) := by decide +kernel
theorem dX5_referToMemory_135 : decode cX5_referToMemory 135 = .ok (.getfield 9, 3) := by decide +kernel
theorem dX5_referToMemory_138 : decode cX5_referToMemory 138 = .ok (.iload_n 2, 1) := by decide +kernel
theorem dX5_referToMemory_139 : decode cX5_referToMemory 139 = .ok (.aload_n 0, 1) := by decide +kernel
theorem dX5_referToMemory_140 : decode cX5_referToMemory 140 = .ok (.getfield 15, 3) := by decide +kernel
theorem dX5_referToMemory_143 : decode cX5_referToMemory 143 = .ok (.getfield 23, 3) := by decide +kernel
theorem dX5_referToMemory_146 : decode cX5_referToMemory 146 = .ok (.invokevirtual 76, 3) := by decide +kernel
theorem dX5_referToMemory_149 : decode cX5_referToMemory 149 = .ok (.aload_n 0, 1) := by decide +kernel
theorem dX5_referToMemory_150 : decode cX5_referToMemory 150 = .ok (.iload_n 2, 1) := by decide +kernel
theorem dX5_referToMemory_151 : decode cX5_referToMemory 151 = .ok (.iconst 1, 1) := by decide +kernel
theorem dX5_referToMemory_152 : decode cX5_referToMemory 152 = .ok (.iadd, 1) := by decide +kernel
theorem dX5_referToMemory_153 : decode cX5_referToMemory 153 = .ok (.iload_n 3, 1) := by decide +kernel
theorem dX5_referToMemory_154 : decode cX5_referToMemory 154 = .ok (.invokevirtual 79, 3) := by decide +kernel
theorem dX5_referToMemory_157 : decode cX5_referToMemory 157 = .ok (.goto 137, 3) := by decide +kernel
theorem dX5_referToMemory_160 : decode cX5_referToMemory 160 = .ok (.aload_n 0, 1) := by decide +kernel
theorem dX5_referToMemory_161 : decode cX5_referToMemory 161 = .ok (.getfield 9, 3) := by decide +kernel
theorem dX5_referToMemory_164 : decode cX5_referToMemory 164 = .ok (.iconst 0, 1) := by decide +kernel
theorem dX5_referToMemory_165 : decode cX5_referToMemory 165 = .ok (.aload_n 0, 1) := by decide +kernel
theorem dX5_referToMemory_166 : decode cX5_referToMemory 166 = .ok (.getfield 9, 3) := by decide +kernel
theorem dX5_referToMemory_169 : decode cX5_referToMemory 169 = .ok (.iconst 0, 1) := by decide +kernel
theorem dX5_referToMemory_170 : decode cX5_referToMemory 170 = .ok (.invokevirtual 29, 3) := by decide +kernel
theorem dX5_referToMemory_173 : decode cX5_referToMemory 173 = .ok (.iload 5, 2) := by decide +kernel
theorem dX5_referToMemory_175 : decode cX5_referToMemory 175 = .ok (.ixor, 1) := by decide +kernel
theorem dX5_referToMemory_176 : decode cX5_referToMemory 176 = .ok (.invokevirtual 76, 3) := by decide +kernel
theorem dX5_referToMemory_179 : decode cX5_referToMemory 179 = .ok (.goto 115, 3) := by decide +kernel
theorem dX5_referToMemory_182 : decode cX5_referToMemory 182 = .ok (.aload_n 0, 1) := by decide +kernel
theorem dX5_referToMemory_183 : decode cX5_referToMemory 183 = .ok (.iload_n 2, 1) := by decide +kernel
theorem dX5_referToMemory_184 : decode cX5_referToMemory 184 = .ok (.iload_n 3, 1) := by decide +kernel
theorem dX5_referToMemory_185 : decode cX5_referToMemory 185 = .ok (.invokevirtual 79, 3) := by decide +kernel
theorem dX5_referToMemory_188 : decode cX5_referToMemory 188 = .ok (.goto 106, 3) := by decide +kernel
theorem dX5_referToMemory_191 : decode cX5_referToMemory 191 = .ok (.aload_n 0, 1) := by decide +kernel
theorem dX5_referToMemory_192 : decode cX5_referToMemory 192 = .ok (.getfield 9, 3) := by decide +kernel
theorem dX5_referToMemory_195 : decode cX5_referToMemory 195 = .ok (.iconst 0, 1) := by decide +kernel
theorem dX5_referToMemory_196 : decode cX5_referToMemory 196 = .ok (.aload_n 0, 1) := by decide +kernel
theorem dX5_referToMemory_197 : decode cX5_referToMemory 197 = .ok (.getfield 9, 3) := by decide +kernel
theorem dX5_referToMemory_200 : decode cX5_referToMemory 200 = .ok (.iconst 0, 1) := by decide +kernel
theorem dX5_referToMemory_201 : decode cX5_referToMemory 201 = .ok (.invokevirtual 29, 3) := by decide +kernel
theorem dX5_referToMemory_204 : decode cX5_referToMemory 204 = .ok (.iload 5, 2) := by decide +kernel
theorem dX5_referToMemory_206 : decode cX5_referToMemory 206 = .ok (.ior, 1) := by decide +kernel
theorem dX5_referToMemory_207 : decode cX5_referToMemory 207 = .ok (.invokevirtual 76, 3) := by decide +kernel
theorem dX5_referToMemory_210 : decode cX5_referToMemory 210 = .ok (.goto 84, 3) := by decide +kernel
theorem dX5_referToMemory_213 : decode cX5_referToMemory 213 = .ok (.aload_n 0, 1) := by decide +kernel
theorem dX5_referToMemory_214 : decode cX5_referToMemory 214 = .ok (.iload_n 2, 1) := by decide +kernel
theorem dX5_referToMemory_215 : decode cX5_referToMemory 215 = .ok (.iload 5, 2) := by decide +kernel
theorem dX5_referToMemory_217 : decode cX5_referToMemory 217 = .ok (.invokevirtual 83, 3) := by decide +kernel
theorem dX5_referToMemory_220 : decode cX5_referToMemory 220 = .ok (.goto 74, 3) := by decide +kernel
theorem dX5_referToMemory_223 : decode cX5_referToMemory 223 = .ok (.aload_n 0, 1) := by decide +kernel
theorem dX5_referToMemory_224 : decode cX5_referToMemory 224 = .ok (.iload 4, 2) := by decide +kernel
theorem dX5_referToMemory_226 : decode cX5_referToMemory 226 = .ok (.iload 5, 2) := by decide +kernel
theorem dX5_referToMemory_228 : decode cX5_referToMemory 228 = .ok (.invokevirtual 86, 3) := by decide +kernel
theorem dX5_referToMemory_231 : decode cX5_referToMemory 231 = .ok (.goto 63, 3) := by decide +kernel
theorem dX5_referToMemory_234 : decode cX5_referToMemory 234 = .ok (.aload_n 0, 1) := by decide +kernel
theorem dX5_referToMemory_235 : decode cX5_referToMemory 235 = .ok (.aload_n 0, 1) := by decide +kernel
theorem dX5_referToMemory_236 : decode cX5_referToMemory 236 = .ok (.getfield 9, 3) := by decide +kernel
theorem dX5_referToMemory_239 : decode cX5_referToMemory 239 = .ok (.iload 4, 2) := by decide +kernel
theorem dX5_referToMemory_241 : decode cX5_referToMemory 241 = .ok (.invokevirtual 29, 3) := by decide +kernel
theorem dX5_referToMemory_244 : decode cX5_referToMemory 244 = .ok (.iload 5, 2) := by decide +kernel
theorem dX5_referToMemory_246 : decode cX5_referToMemory 246 = .ok (.if_icmp .eq 7, 3) := by decide +kernel
theorem dX5_referToMemory_249 : decode cX5_referToMemory 249 = .ok (.iconst 1, 1) := by decide +kernel
theorem dX5_referToMemory_250 : decode cX5_referToMemory 250 = .ok (.goto 4, 3) := by decide +kernel
theorem dX5_referToMemory_253 : decode cX5_referToMemory 253 = .ok (.iconst 0, 1) := by decide +kernel
theorem dX5_referToMemory_254 : decode cX5_referToMemory 254 = .ok (.invokevirtual 89, 3) := by decide +kernel
theorem dX5_referToMemory_257 : decode cX5_referToMemory 257 = .ok (.goto 37, 3) := by decide +kernel
theorem dX5_referToMemory_260 : decode cX5_referToMemory 260 = .ok (.aload_n 0, 1) := by decide +kernel
theorem dX5_referToMemory_261 : decode cX5_referToMemory 261 = .ok (.getfield 9, 3) := by decide +kernel
theorem dX5_referToMemory_264 : decode cX5_referToMemory 264 = .ok (.iload 4, 2) := by decide +kernel
theorem dX5_referToMemory_266 : decode cX5_referToMemory 266 = .ok (.iload 5, 2) := by decide +kernel
theorem dX5_referToMemory_268 : decode cX5_referToMemory 268 = .ok (.invokevirtual 76, 3) := by decide +kernel
theorem dX5_referToMemory_271 : decode cX5_referToMemory 271 = .ok (.goto 23, 3) := by decide +kernel
theorem dX5_referToMemory_274 : decode cX5_referToMemory 274 = .ok (.aload_n 0, 1) := by decide +kernel
theorem dX5_referToMemory_275 : decode cX5_referToMemory 275 = .ok (.getfield 9, 3) := by decide +kernel
theorem dX5_referToMemory_278 : decode cX5_referToMemory 278 = .ok (.iload_n 2, 1) := by decide +kernel
theorem dX5_referToMemory_279 : decode cX5_referToMemory 279 = .ok (.aload_n 0, 1) := by decide +kernel
theorem dX5_referToMemory_280 : decode cX5_referToMemory 280 = .ok (.getfield 9, 3) := by decide +kernel
theorem dX5_referToMemory_283 : decode cX5_referToMemory 283 = .ok (.iload 4, 2) := by decide +kernel
theorem dX5_referToMemory_285 : decode cX5_referToMemory 285 = .ok (.invokevirtual 29, 3) := by decide +kernel
theorem dX5_referToMemory_288 : decode cX5_referToMemory 288 = .ok (.invokevirtual 76, 3) := by decide +kernel
theorem dX5_referToMemory_291 : decode cX5_referToMemory 291 = .ok (.goto 3, 3) := by decide +kernel
theorem dX5_referToMemory_294 : decode cX5_referToMemory 294 = .ok (.return_, 1) := by decide +kernel
theorem dX5_registerOf_0 : decode cX5_registerOf 0 = .ok (.iload_n 0, 1) := by decide +kernel
theorem dX5_registerOf_1 : decode cX5_registerOf 1 = .ok (.sipush 2048, 3) := by decide +kernel
theorem dX5_registerOf_4 : decode cX5_registerOf 4 = .ok (.iand, 1) := by decide +kernel
theorem dX5_registerOf_5 : decode cX5_registerOf 5 = .ok (.ifCond .ne 7, 3) := by decide +kernel
theorem dX5_registerOf_8 : decode cX5_registerOf 8 = .ok (.iconst 0, 1) := by decide +kernel
theorem dX5_registerOf_9 : decode cX5_registerOf 9 = .ok (.goto 4, 3) := by decide +kernel
theorem dX5_registerOf_12 : decode cX5_registerOf 12 = .ok (.iconst 1, 1) := by decide +kernel
theorem dX5_registerOf_13 : decode cX5_registerOf 13 = .ok (.ireturn, 1) := by decide +kernel
set_option maxRecDepth 20000 in
theorem ggX5_skipIf_X6_stepOn : GoodIn wsX5_skipIf wsX6_stepOn := goodIn_r _ [6, 7, 11, 12, 13, 14, 15, 16] (by decide +kernel) (by decide +kernel)
set_option maxRecDepth 20000 in
theorem gX5_skipIf_X6_stepOn : GoodIn wsX5_skipIf (wsV RX5 35 RX6 yX6_stepOn wsX6_stepOn) := goodIn_app (goodIn_of _ (by decide +kernel)) ggX5_skipIf_X6_stepOn
theorem dX5_skipIf_0 : decode cX5_skipIf 0 = .ok (.iload_n 1, 1) := by decide +kernel
theorem dX5_skipIf_1 : decode cX5_skipIf 1 = .ok (.ifCond .eq 10, 3) := by decide +kernel
theorem dX5_skipIf_4 : decode cX5_skipIf 4 = .ok (.aload_n 0, 1) := by decide +kernel
theorem dX5_skipIf_5 : decode cX5_skipIf 5 = .ok (.getfield 15, 3) := by decide +kernel
theorem dX5_skipIf_8 : decode cX5_skipIf 8 = .ok (.invokevirtual 35, 3) := by decide +kernel
theorem dX5_skipIf_11 : decode cX5_skipIf 11 = .ok (.return_, 1) := by decide +kernel
theorem dX5_jump_0 : decode cX5_jump 0 = .ok (.aload_n 0, 1) := by decide +kernel
theorem dX5_jump_1 : decode cX5_jump 1 = .ok (.getfield 15, 3) := by decide +kernel
theorem dX5_jump_4 : decode cX5_jump 4 = .ok (.iload_n 1, 1) := by decide +kernel
theorem dX5_jump_5 : decode cX5_jump 5 = .ok (.sipush 32767, 3) := by decide +kernel
theorem dX5_jump_8 : decode cX5_jump 8 = .ok (.iand, 1) := by decide +kernel
theorem dX5_jump_9 : decode cX5_jump 9 = .ok (.putfield 23, 3) := by decide +kernel
theorem dX5_jump_12 : decode cX5_jump 12 = .ok (.aload_n 0, 1) := by decide +kernel
theorem dX5_jump_13 : decode cX5_jump 13 = .ok (.getfield 15, 3) := by decide +kernel
theorem dX5_jump_16 : decode cX5_jump 16 = .ok (.iload_n 2, 1) := by decide +kernel
theorem dX5_jump_17 : decode cX5_jump 17 = .ok (.putfield 93, 3) := by decide +kernel
theorem dX5_jump_20 : decode cX5_jump 20 = .ok (.return_, 1) := by decide +kernel
set_option maxRecDepth 20000 in
theorem ggX5_incrementAndSkip_X4_write : GoodIn wsX5_incrementAndSkip wsX4_write := goodIn_r _ [7, 8, 9, 25] (by decide +kernel) (by decide +kernel)
set_option maxRecDepth 20000 in
theorem gX5_incrementAndSkip_X4_write : GoodIn wsX5_incrementAndSkip (wsV RX5 76 RX4 yX4_write wsX4_write) := goodIn_app (goodIn_of _ (by decide +kernel)) ggX5_incrementAndSkip_X4_write
set_option maxRecDepth 20000 in
theorem ggX5_incrementAndSkip_X5_skipIf : GoodIn wsX5_incrementAndSkip wsX5_skipIf := goodIn_r _ [14, 15, 16, 17, 18, 19, 20, 21, 22, 23, 24, 26, 27, 28, 29, 30, 31] (by decide +kernel) (by decide +kernel)
set_option maxRecDepth 20000 in
theorem gX5_incrementAndSkip_X5_skipIf : GoodIn wsX5_incrementAndSkip (wsV RX5 89 RX5 yX5_skipIf wsX5_skipIf) := goodIn_app (goodIn_of _ (by decide +kernel)) ggX5_incrementAndSkip_X5_skipIf
theorem dX5_incrementAndSkip_0 : decode cX5_incrementAndSkip 0 = .ok (.iload_n 2, 1) := by decide +kernel
theorem dX5_incrementAndSkip_1 : decode cX5_incrementAndSkip 1 = .ok (.iconst 1, 1) := by decide +kernel
theorem dX5_incrementAndSkip_2 : decode cX5_incrementAndSkip 2 = .ok (.iadd, 1) := by decide +kernel
theorem dX5_incrementAndSkip_3 : decode cX5_incrementAndSkip 3 = .ok (.ldc 97, 2) := by decide +kernel
theorem dX5_incrementAndSkip_5 : decode cX5_incrementAndSkip 5 = .ok (.iand, 1) := by decide +kernel
theorem dX5_incrementAndSkip_6 : decode cX5_incrementAndSkip 6 = .ok (.istore_n 3, 1) := by decide +kernel
theorem dX5_incrementAndSkip_7 : decode cX5_incrementAndSkip 7 = .ok (.aload_n 0, 1) := by decide +kernel
theorem dX5_incrementAndSkip_8 : decode cX5_incrementAndSkip 8 = .ok (.getfield 9, 3) := by decide +kernel
theorem dX5_incrementAndSkip_11 : decode cX5_incrementAndSkip 11 = .ok (.iload_n 1, 1) := by decide +kernel
theorem dX5_incrementAndSkip_12 : decode cX5_incrementAndSkip 12 = .ok (.iload_n 3, 1) := by decide +kernel
theorem dX5_incrementAndSkip_13 : decode cX5_incrementAndSkip 13 = .ok (.invokevirtual 76, 3) := by decide +kernel
theorem dX5_incrementAndSkip_16 : decode cX5_incrementAndSkip 16 = .ok (.aload_n 0, 1) := by decide +kernel
theorem dX5_incrementAndSkip_17 : decode cX5_incrementAndSkip 17 = .ok (.iload_n 3, 1) := by decide +kernel
theorem dX5_incrementAndSkip_18 : decode cX5_incrementAndSkip 18 = .ok (.ifCond .ne 7, 3) := by decide +kernel
theorem dX5_incrementAndSkip_21 : decode cX5_incrementAndSkip 21 = .ok (.iconst 1, 1) := by decide +kernel
theorem dX5_incrementAndSkip_22 : decode cX5_incrementAndSkip 22 = .ok (.goto 4, 3) := by decide +kernel
theorem dX5_incrementAndSkip_25 : decode cX5_incrementAndSkip 25 = .ok (.iconst 0, 1) := by decide +kernel
theorem dX5_incrementAndSkip_26 : decode cX5_incrementAndSkip 26 = .ok (.invokevirtual 89, 3) := by decide +kernel
theorem dX5_incrementAndSkip_29 : decode cX5_incrementAndSkip 29 = .ok (.return_, 1) := by decide +kernel
set_option maxRecDepth 20000 in
theorem ggX5_add_X4_read : GoodIn wsX5_add wsX4_read := goodIn_r _ [9, 10, 25] (by decide +kernel) (by decide +kernel)
set_option maxRecDepth 20000 in
theorem gX5_add_X4_read : GoodIn wsX5_add (wsV RX5 29 RX4 yX4_read wsX4_read) := goodIn_app (goodIn_of _ (by decide +kernel)) ggX5_add_X4_read
set_option maxRecDepth 20000 in
theorem ggX5_add_X4_write : GoodIn wsX5_add wsX4_write := goodIn_r _ [14, 10, 15, 25] (by decide +kernel) (by decide +kernel)
set_option maxRecDepth 20000 in
theorem gX5_add_X4_write : GoodIn wsX5_add (wsV RX5 76 RX4 yX4_write wsX4_write) := goodIn_app (goodIn_of _ (by decide +kernel)) ggX5_add_X4_write
theorem dX5_add_0 : decode cX5_add 0 = .ok (.aload_n 0, 1) := by decide +kernel
theorem dX5_add_1 : decode cX5_add 1 = .ok (.getfield 9, 3) := by decide +kernel
theorem dX5_add_4 : decode cX5_add 4 = .ok (.iload_n 1, 1) := by decide +kernel
theorem dX5_add_5 : decode cX5_add 5 = .ok (.invokevirtual 29, 3) := by decide +kernel
theorem dX5_add_8 : decode cX5_add 8 = .ok (.istore_n 3, 1) := by decide +kernel
theorem dX5_add_9 : decode cX5_add 9 = .ok (.iload_n 3, 1) := by decide +kernel
theorem dX5_add_10 : decode cX5_add 10 = .ok (.iload_n 2, 1) := by decide +kernel
theorem dX5_add_11 : decode cX5_add 11 = .ok (.iadd, 1) := by decide +kernel
theorem dX5_add_12 : decode cX5_add 12 = .ok (.istore 4, 2) := by decide +kernel
theorem dX5_add_14 : decode cX5_add 14 = .ok (.aload_n 0, 1) := by decide +kernel
theorem dX5_add_15 : decode cX5_add 15 = .ok (.getfield 9, 3) := by decide +kernel
theorem dX5_add_18 : decode cX5_add 18 = .ok (.iload_n 1, 1) := by decide +kernel
theorem dX5_add_19 : decode cX5_add 19 = .ok (.iload 4, 2) := by decide +kernel
theorem dX5_add_21 : decode cX5_add 21 = .ok (.invokevirtual 76, 3) := by decide +kernel
theorem dX5_add_24 : decode cX5_add 24 = .ok (.iload 4, 2) := by decide +kernel
theorem dX5_add_26 : decode cX5_add 26 = .ok (.ldc 97, 2) := by decide +kernel
theorem dX5_add_28 : decode cX5_add 28 = .ok (.if_icmp .le 11, 3) := by decide +kernel
theorem dX5_add_31 : decode cX5_add 31 = .ok (.aload_n 0, 1) := by decide +kernel
theorem dX5_add_32 : decode cX5_add 32 = .ok (.getfield 15, 3) := by decide +kernel
theorem dX5_add_35 : decode cX5_add 35 = .ok (.iconst 1, 1) := by decide +kernel
theorem dX5_add_36 : decode cX5_add 36 = .ok (.putfield 98, 3) := by decide +kernel
theorem dX5_add_39 : decode cX5_add 39 = .ok (.iload_n 3, 1) := by decide +kernel
theorem dX5_add_40 : decode cX5_add 40 = .ok (.iload 4, 2) := by decide +kernel
theorem dX5_add_42 : decode cX5_add 42 = .ok (.ixor, 1) := by decide +kernel
theorem dX5_add_43 : decode cX5_add 43 = .ok (.iload_n 2, 1) := by decide +kernel
theorem dX5_add_44 : decode cX5_add 44 = .ok (.iload 4, 2) := by decide +kernel
theorem dX5_add_46 : decode cX5_add 46 = .ok (.ixor, 1) := by decide +kernel
theorem dX5_add_47 : decode cX5_add 47 = .ok (.iand, 1) := by decide +kernel
theorem dX5_add_48 : decode cX5_add 48 = .ok (.ldc 38, 2) := by decide +kernel
theorem dX5_add_50 : decode cX5_add 50 = .ok (.iand, 1) := by decide +kernel
theorem dX5_add_51 : decode cX5_add 51 = .ok (.ifCond .eq 11, 3) := by decide +kernel
theorem dX5_add_54 : decode cX5_add 54 = .ok (.aload_n 0, 1) := by decide +kernel
theorem dX5_add_55 : decode cX5_add 55 = .ok (.getfield 15, 3) := by decide +kernel
theorem dX5_add_58 : decode cX5_add 58 = .ok (.iconst 1, 1) := by decide +kernel
theorem dX5_add_59 : decode cX5_add 59 = .ok (.putfield 101, 3) := by decide +kernel
theorem dX5_add_62 : decode cX5_add 62 = .ok (.return_, 1) := by decide +kernel
set_option maxRecDepth 20000 in
theorem ggX5_shiftAndSkip_X5_registerOf : GoodIn wsX5_shiftAndSkip wsX5_registerOf := goodIn_r _ [6] (by decide +kernel) (by decide +kernel)
set_option maxRecDepth 20000 in
theorem gX5_shiftAndSkip_X5_registerOf : GoodIn wsX5_shiftAndSkip (va_wsS RX5 73 yX5_registerOf wsX5_registerOf) := goodIn_app (goodIn_of _ (by decide +kernel)) ggX5_shiftAndSkip_X5_registerOf
set_option maxRecDepth 20000 in
theorem ggX5_shiftAndSkip_X4_read : GoodIn wsX5_shiftAndSkip wsX4_read := goodIn_r _ [11, 12, 47] (by decide +kernel) (by decide +kernel)
set_option maxRecDepth 20000 in
theorem gX5_shiftAndSkip_X4_read : GoodIn wsX5_shiftAndSkip (wsV RX5 29 RX4 yX4_read wsX4_read) := goodIn_app (goodIn_of _ (by decide +kernel)) ggX5_shiftAndSkip_X4_read
set_option maxRecDepth 20000 in
theorem ggX5_shiftAndSkip_X5_shifted : GoodIn wsX5_shiftAndSkip wsX5_shifted := goodIn_r _ [16, 17, 18, 2, 19, 20, 21, 5, 22, 38, 39, 40, 41, 42, 43, 44, 45, 46] (by decide +kernel) (by decide +kernel)
set_option maxRecDepth 20000 in
theorem gX5_shiftAndSkip_X5_shifted : GoodIn wsX5_shiftAndSkip (wsV RX5 104 RX5 yX5_shifted wsX5_shifted) := goodIn_app (goodIn_of _ (by decide +kernel)) ggX5_shiftAndSkip_X5_shifted
set_option maxRecDepth 20000 in
theorem ggX5_shiftAndSkip_X4_write : GoodIn wsX5_shiftAndSkip wsX4_write := goodIn_r _ [26, 12, 27, 47] (by decide +kernel) (by decide +kernel)
set_option maxRecDepth 20000 in
theorem gX5_shiftAndSkip_X4_write : GoodIn wsX5_shiftAndSkip (wsV RX5 76 RX4 yX4_write wsX4_write) := goodIn_app (goodIn_of _ (by decide +kernel)) ggX5_shiftAndSkip_X4_write
set_option maxRecDepth 20000 in
theorem ggX5_shiftAndSkip_X5_skipIf : GoodIn wsX5_shiftAndSkip wsX5_skipIf := goodIn_r _ [31, 2, 32, 33, 34, 35, 36, 37, 38, 39, 40, 41, 42, 43, 44, 45, 46] (by decide +kernel) (by decide +kernel)
set_option maxRecDepth 20000 in
theorem gX5_shiftAndSkip_X5_skipIf : GoodIn wsX5_shiftAndSkip (wsV RX5 89 RX5 yX5_skipIf wsX5_skipIf) := goodIn_app (goodIn_of _ (by decide +kernel)) ggX5_shiftAndSkip_X5_skipIf
theorem dX5_shiftAndSkip_0 : decode cX5_shiftAndSkip 0 = .ok (.iload_n 1, 1) := by decide +kernel
theorem dX5_shiftAndSkip_1 : decode cX5_shiftAndSkip 1 = .ok (.invokestatic 73, 3) := by decide +kernel
theorem dX5_shiftAndSkip_4 : decode cX5_shiftAndSkip 4 = .ok (.istore_n 2, 1) := by decide +kernel
theorem dX5_shiftAndSkip_5 : decode cX5_shiftAndSkip 5 = .ok (.iload_n 1, 1) := by decide +kernel
