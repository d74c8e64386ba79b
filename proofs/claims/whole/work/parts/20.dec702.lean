theorem dX7_doTurn_0 : decode cX7_doTurn 0 = .ok (.aload_n 0, 1) := by decide +kernel
theorem dX7_doTurn_1 : decode cX7_doTurn 1 = .ok (.getfield 28, 3) := by decide +kernel
theorem dX7_doTurn_4 : decode cX7_doTurn 4 = .ok (.invokevirtual 161, 3) := by decide +kernel
theorem dX7_doTurn_7 : decode cX7_doTurn 7 = .ok (.aload_n 0, 1) := by decide +kernel
theorem dX7_doTurn_8 : decode cX7_doTurn 8 = .ok (.getfield 28, 3) := by decide +kernel
theorem dX7_doTurn_11 : decode cX7_doTurn 11 = .ok (.aload_n 0, 1) := by decide +kernel
theorem dX7_doTurn_12 : decode cX7_doTurn 12 = .ok (.getfield 10, 3) := by decide +kernel
theorem dX7_doTurn_15 : decode cX7_doTurn 15 = .ok (.invokevirtual 164, 3) := by decide +kernel
theorem dX7_doTurn_18 : decode cX7_doTurn 18 = .ok (.aload_n 0, 1) := by decide +kernel
theorem dX7_doTurn_19 : decode cX7_doTurn 19 = .ok (.getfield 28, 3) := by decide +kernel
theorem dX7_doTurn_22 : decode cX7_doTurn 22 = .ok (.getfield 84, 3) := by decide +kernel
theorem dX7_doTurn_25 : decode cX7_doTurn 25 = .ok (.ifCond .eq 23, 3) := by decide +kernel
theorem dX7_doTurn_28 : decode cX7_doTurn 28 = .ok (.aload_n 0, 1) := by decide +kernel
theorem dX7_doTurn_29 : decode cX7_doTurn 29 = .ok (.getfield 19, 3) := by decide +kernel
theorem dX7_doTurn_32 : decode cX7_doTurn 32 = .ok (.getfield 91, 3) := by decide +kernel
theorem dX7_doTurn_35 : decode cX7_doTurn 35 = .ok (.ifCond .ne 13, 3) := by decide +kernel
theorem dX7_doTurn_38 : decode cX7_doTurn 38 = .ok (.aload_n 0, 1) := by decide +kernel
theorem dX7_doTurn_39 : decode cX7_doTurn 39 = .ok (.getfield 28, 3) := by decide +kernel
theorem dX7_doTurn_42 : decode cX7_doTurn 42 = .ok (.invokevirtual 168, 3) := by decide +kernel
theorem dX7_doTurn_45 : decode cX7_doTurn 45 = .ok (.goto 4, 3) := by decide +kernel
theorem dX7_doTurn_48 : decode cX7_doTurn 48 = .ok (.iconst (-1), 1) := by decide +kernel
theorem dX7_doTurn_49 : decode cX7_doTurn 49 = .ok (.istore_n 1, 1) := by decide +kernel
theorem dX7_doTurn_50 : decode cX7_doTurn 50 = .ok (.aload_n 0, 1) := by decide +kernel
theorem dX7_doTurn_51 : decode cX7_doTurn 51 = .ok (.getfield 19, 3) := by decide +kernel
theorem dX7_doTurn_54 : decode cX7_doTurn 54 = .ok (.iconst 0, 1) := by decide +kernel
theorem dX7_doTurn_55 : decode cX7_doTurn 55 = .ok (.putfield 91, 3) := by decide +kernel
theorem dX7_doTurn_58 : decode cX7_doTurn 58 = .ok (.iload_n 1, 1) := by decide +kernel
theorem dX7_doTurn_59 : decode cX7_doTurn 59 = .ok (.iconst (-1), 1) := by decide +kernel
theorem dX7_doTurn_60 : decode cX7_doTurn 60 = .ok (.if_icmp .eq 37, 3) := by decide +kernel
theorem dX7_doTurn_63 : decode cX7_doTurn 63 = .ok (.aload_n 0, 1) := by decide +kernel
theorem dX7_doTurn_64 : decode cX7_doTurn 64 = .ok (.dup, 1) := by decide +kernel
theorem dX7_doTurn_65 : decode cX7_doTurn 65 = .ok (.getfield 100, 3) := by decide +kernel
theorem dX7_doTurn_68 : decode cX7_doTurn 68 = .ok (.iconst 1, 1) := by decide +kernel
theorem dX7_doTurn_69 : decode cX7_doTurn 69 = .ok (.iadd, 1) := by decide +kernel
theorem dX7_doTurn_70 : decode cX7_doTurn 70 = .ok (.putfield 100, 3) := by decide +kernel
theorem dX7_doTurn_73 : decode cX7_doTurn 73 = .ok (.aload_n 0, 1) := by decide +kernel
theorem dX7_doTurn_74 : decode cX7_doTurn 74 = .ok (.iload_n 1, 1) := by decide +kernel
theorem dX7_doTurn_75 : decode cX7_doTurn 75 = .ok (.putfield 41, 3) := by decide +kernel
theorem dX7_doTurn_78 : decode cX7_doTurn 78 = .ok (.aload_n 0, 1) := by decide +kernel
theorem dX7_doTurn_79 : decode cX7_doTurn 79 = .ok (.getfield 37, 3) := by decide +kernel
theorem dX7_doTurn_82 : decode cX7_doTurn 82 = .ok (.aload_n 0, 1) := by decide +kernel
theorem dX7_doTurn_83 : decode cX7_doTurn 83 = .ok (.getfield 10, 3) := by decide +kernel
theorem dX7_doTurn_86 : decode cX7_doTurn 86 = .ok (.iload_n 1, 1) := by decide +kernel
theorem dX7_doTurn_87 : decode cX7_doTurn 87 = .ok (.invokevirtual 70, 3) := by decide +kernel
theorem dX7_doTurn_90 : decode cX7_doTurn 90 = .ok (.iconst 0, 1) := by decide +kernel
theorem dX7_doTurn_91 : decode cX7_doTurn 91 = .ok (.invokevirtual 172, 3) := by decide +kernel
theorem dX7_doTurn_94 : decode cX7_doTurn 94 = .ok (.goto 30, 3) := by decide +kernel
theorem dX7_doTurn_97 : decode cX7_doTurn 97 = .ok (.aload_n 0, 1) := by decide +kernel
theorem dX7_doTurn_98 : decode cX7_doTurn 98 = .ok (.getfield 19, 3) := by decide +kernel
theorem dX7_doTurn_101 : decode cX7_doTurn 101 = .ok (.getfield 62, 3) := by decide +kernel
theorem dX7_doTurn_104 : decode cX7_doTurn 104 = .ok (.sipush 31744, 3) := by decide +kernel
theorem dX7_doTurn_107 : decode cX7_doTurn 107 = .ok (.iand, 1) := by decide +kernel
theorem dX7_doTurn_108 : decode cX7_doTurn 108 = .ok (.istore_n 2, 1) := by decide +kernel
theorem dX7_doTurn_109 : decode cX7_doTurn 109 = .ok (.aload_n 0, 1) := by decide +kernel
theorem dX7_doTurn_110 : decode cX7_doTurn 110 = .ok (.getfield 37, 3) := by decide +kernel
theorem dX7_doTurn_113 : decode cX7_doTurn 113 = .ok (.aload_n 0, 1) := by decide +kernel
theorem dX7_doTurn_114 : decode cX7_doTurn 114 = .ok (.getfield 37, 3) := by decide +kernel
theorem dX7_doTurn_117 : decode cX7_doTurn 117 = .ok (.invokevirtual 175, 3) := by decide +kernel
theorem dX7_doTurn_120 : decode cX7_doTurn 120 = .ok (.iload_n 2, 1) := by decide +kernel
theorem dX7_doTurn_121 : decode cX7_doTurn 121 = .ok (.invokevirtual 172, 3) := by decide +kernel
theorem dX7_doTurn_124 : decode cX7_doTurn 124 = .ok (.return_, 1) := by decide +kernel
