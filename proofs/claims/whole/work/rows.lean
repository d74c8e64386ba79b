section
-- ===== PART A: goes FIRST, ahead of the names: the tables' words, and 'selects' of the private methods out of them =====
/-- a private method of a class that the tables say can be made, by its rows of tables_1 -/
def lw_okq (q : MethodName × Nat) : Prop := (q.1.cls ≠ "java/lang/invoke/MethodHandle" ∧ q.1.cls ≠ "java/lang/invoke/VarHandle") ∧ Cond.instantiable q.1.cls q.2 ∈ tables_1 ∧ Cond.privateMethod q.1 ∈ tables_1 ∧ Cond.instanceMethod q.1 ∈ tables_1
theorem lw_p0 : lw_okq (⟨"java/lang/Throwable", "fillInStackTrace", "(I)Ljava/lang/Throwable;"⟩, 6) := ⟨⟨by decide +kernel, by decide +kernel⟩, List.mem_of_getElem? (i := 340) (by decide +kernel), List.mem_of_getElem? (i := 338) (by decide +kernel), List.mem_of_getElem? (i := 339) (by decide +kernel)⟩
theorem lw_p1 : lw_okq (⟨"OctalHouse", "doTurn", "()V"⟩, 7) := ⟨⟨by decide +kernel, by decide +kernel⟩, List.mem_of_getElem? (i := 17) (by decide +kernel), List.mem_of_getElem? (i := 370) (by decide +kernel), List.mem_of_getElem? (i := 371) (by decide +kernel)⟩
theorem lw_p2 : lw_okq (⟨"OctalHouse$Device", "takeFromTape", "()I"⟩, 10) := ⟨⟨by decide +kernel, by decide +kernel⟩, List.mem_of_getElem? (i := 137) (by decide +kernel), List.mem_of_getElem? (i := 383) (by decide +kernel), List.mem_of_getElem? (i := 384) (by decide +kernel)⟩
theorem lw_p3 : lw_okq (⟨"OctalHouse$Device", "putOut", "(I)V"⟩, 10) := ⟨⟨by decide +kernel, by decide +kernel⟩, List.mem_of_getElem? (i := 137) (by decide +kernel), List.mem_of_getElem? (i := 387) (by decide +kernel), List.mem_of_getElem? (i := 388) (by decide +kernel)⟩
theorem lw_p4 : lw_okq (⟨"OctalHouse$Channel", "finish", "(LOctalHouse$Device;)V"⟩, 8) := ⟨⟨by decide +kernel, by decide +kernel⟩, List.mem_of_getElem? (i := 80) (by decide +kernel), List.mem_of_getElem? (i := 412) (by decide +kernel), List.mem_of_getElem? (i := 413) (by decide +kernel)⟩
theorem lw_p5 : lw_okq (⟨"OctalHouse$Processor", "resolve", "(I)I"⟩, 3) := ⟨⟨by decide +kernel, by decide +kernel⟩, List.mem_of_getElem? (i := 206) (by decide +kernel), List.mem_of_getElem? (i := 431) (by decide +kernel), List.mem_of_getElem? (i := 432) (by decide +kernel)⟩
theorem lw_p6 : lw_okq (⟨"OctalHouse$Processor", "referToMemory", "(II)V"⟩, 3) := ⟨⟨by decide +kernel, by decide +kernel⟩, List.mem_of_getElem? (i := 206) (by decide +kernel), List.mem_of_getElem? (i := 440) (by decide +kernel), List.mem_of_getElem? (i := 441) (by decide +kernel)⟩
theorem lw_p7 : lw_okq (⟨"OctalHouse$Processor", "jump", "(IZ)V"⟩, 3) := ⟨⟨by decide +kernel, by decide +kernel⟩, List.mem_of_getElem? (i := 206) (by decide +kernel), List.mem_of_getElem? (i := 448) (by decide +kernel), List.mem_of_getElem? (i := 449) (by decide +kernel)⟩
theorem lw_p8 : lw_okq (⟨"OctalHouse$Processor", "incrementAndSkip", "(II)V"⟩, 3) := ⟨⟨by decide +kernel, by decide +kernel⟩, List.mem_of_getElem? (i := 206) (by decide +kernel), List.mem_of_getElem? (i := 452) (by decide +kernel), List.mem_of_getElem? (i := 453) (by decide +kernel)⟩
theorem lw_p9 : lw_okq (⟨"OctalHouse$Processor", "skipIf", "(Z)V"⟩, 3) := ⟨⟨by decide +kernel, by decide +kernel⟩, List.mem_of_getElem? (i := 206) (by decide +kernel), List.mem_of_getElem? (i := 457) (by decide +kernel), List.mem_of_getElem? (i := 458) (by decide +kernel)⟩
theorem lw_p10 : lw_okq (⟨"OctalHouse$Processor", "add", "(II)V"⟩, 3) := ⟨⟨by decide +kernel, by decide +kernel⟩, List.mem_of_getElem? (i := 206) (by decide +kernel), List.mem_of_getElem? (i := 465) (by decide +kernel), List.mem_of_getElem? (i := 466) (by decide +kernel)⟩
theorem lw_p11 : lw_okq (⟨"OctalHouse$Processor", "alterAndSkip", "(I)V"⟩, 3) := ⟨⟨by decide +kernel, by decide +kernel⟩, List.mem_of_getElem? (i := 206) (by decide +kernel), List.mem_of_getElem? (i := 469) (by decide +kernel), List.mem_of_getElem? (i := 470) (by decide +kernel)⟩
theorem lw_p12 : lw_okq (⟨"OctalHouse$Processor", "incremented", "(I)I"⟩, 3) := ⟨⟨by decide +kernel, by decide +kernel⟩, List.mem_of_getElem? (i := 206) (by decide +kernel), List.mem_of_getElem? (i := 479) (by decide +kernel), List.mem_of_getElem? (i := 480) (by decide +kernel)⟩
theorem lw_p13 : lw_okq (⟨"OctalHouse$Processor", "shiftAndSkip", "(I)V"⟩, 3) := ⟨⟨by decide +kernel, by decide +kernel⟩, List.mem_of_getElem? (i := 206) (by decide +kernel), List.mem_of_getElem? (i := 483) (by decide +kernel), List.mem_of_getElem? (i := 484) (by decide +kernel)⟩
theorem lw_p14 : lw_okq (⟨"OctalHouse$Processor", "shifted", "(II)I"⟩, 3) := ⟨⟨by decide +kernel, by decide +kernel⟩, List.mem_of_getElem? (i := 206) (by decide +kernel), List.mem_of_getElem? (i := 487) (by decide +kernel), List.mem_of_getElem? (i := 488) (by decide +kernel)⟩
theorem lw_p15 : lw_okq (⟨"OctalHouse$Processor", "throughE", "(II)I"⟩, 3) := ⟨⟨by decide +kernel, by decide +kernel⟩, List.mem_of_getElem? (i := 206) (by decide +kernel), List.mem_of_getElem? (i := 491) (by decide +kernel), List.mem_of_getElem? (i := 492) (by decide +kernel)⟩
def lw_privs_1 : List (MethodName × Nat) := [(⟨"java/lang/Throwable", "fillInStackTrace", "(I)Ljava/lang/Throwable;"⟩, 6), (⟨"OctalHouse", "doTurn", "()V"⟩, 7), (⟨"OctalHouse$Device", "takeFromTape", "()I"⟩, 10), (⟨"OctalHouse$Device", "putOut", "(I)V"⟩, 10), (⟨"OctalHouse$Channel", "finish", "(LOctalHouse$Device;)V"⟩, 8), (⟨"OctalHouse$Processor", "resolve", "(I)I"⟩, 3), (⟨"OctalHouse$Processor", "referToMemory", "(II)V"⟩, 3), (⟨"OctalHouse$Processor", "jump", "(IZ)V"⟩, 3), (⟨"OctalHouse$Processor", "incrementAndSkip", "(II)V"⟩, 3), (⟨"OctalHouse$Processor", "skipIf", "(Z)V"⟩, 3), (⟨"OctalHouse$Processor", "add", "(II)V"⟩, 3), (⟨"OctalHouse$Processor", "alterAndSkip", "(I)V"⟩, 3), (⟨"OctalHouse$Processor", "incremented", "(I)I"⟩, 3), (⟨"OctalHouse$Processor", "shiftAndSkip", "(I)V"⟩, 3), (⟨"OctalHouse$Processor", "shifted", "(II)I"⟩, 3), (⟨"OctalHouse$Processor", "throughE", "(II)I"⟩, 3)]
theorem lw_r1 : ∀ q ∈ lw_privs_1, lw_okq q := List.forall_mem_cons.mpr ⟨lw_p0, List.forall_mem_cons.mpr ⟨lw_p1, List.forall_mem_cons.mpr ⟨lw_p2, List.forall_mem_cons.mpr ⟨lw_p3, List.forall_mem_cons.mpr ⟨lw_p4, List.forall_mem_cons.mpr ⟨lw_p5, List.forall_mem_cons.mpr ⟨lw_p6, List.forall_mem_cons.mpr ⟨lw_p7, List.forall_mem_cons.mpr ⟨lw_p8, List.forall_mem_cons.mpr ⟨lw_p9, List.forall_mem_cons.mpr ⟨lw_p10, List.forall_mem_cons.mpr ⟨lw_p11, List.forall_mem_cons.mpr ⟨lw_p12, List.forall_mem_cons.mpr ⟨lw_p13, List.forall_mem_cons.mpr ⟨lw_p14, List.forall_mem_cons.mpr ⟨lw_p15, fun _ h => absurd h List.not_mem_nil⟩⟩⟩⟩⟩⟩⟩⟩⟩⟩⟩⟩⟩⟩⟩⟩
theorem lw_p16 : lw_okq (⟨"OctalHouse$Processor", "inputOrOutput", "(I)V"⟩, 3) := ⟨⟨by decide +kernel, by decide +kernel⟩, List.mem_of_getElem? (i := 206) (by decide +kernel), List.mem_of_getElem? (i := 495) (by decide +kernel), List.mem_of_getElem? (i := 496) (by decide +kernel)⟩
theorem lw_p17 : lw_okq (⟨"OctalHouse$Bus", "resetAllControls", "()V"⟩, 7) := ⟨⟨by decide +kernel, by decide +kernel⟩, List.mem_of_getElem? (i := 69) (by decide +kernel), List.mem_of_getElem? (i := 525) (by decide +kernel), List.mem_of_getElem? (i := 526) (by decide +kernel)⟩
theorem lw_p18 : lw_okq (⟨"OctalHouse$Bus", "putLineControl", "(IZ)V"⟩, 7) := ⟨⟨by decide +kernel, by decide +kernel⟩, List.mem_of_getElem? (i := 69) (by decide +kernel), List.mem_of_getElem? (i := 529) (by decide +kernel), List.mem_of_getElem? (i := 530) (by decide +kernel)⟩
theorem lw_p19 : lw_okq (⟨"OctalHouse$Processor", "doubleWord", "(II)V"⟩, 3) := ⟨⟨by decide +kernel, by decide +kernel⟩, List.mem_of_getElem? (i := 206) (by decide +kernel), List.mem_of_getElem? (i := 545) (by decide +kernel), List.mem_of_getElem? (i := 546) (by decide +kernel)⟩
theorem lw_p20 : lw_okq (⟨"OctalHouse$Processor", "multiply", "(I)V"⟩, 3) := ⟨⟨by decide +kernel, by decide +kernel⟩, List.mem_of_getElem? (i := 206) (by decide +kernel), List.mem_of_getElem? (i := 549) (by decide +kernel), List.mem_of_getElem? (i := 550) (by decide +kernel)⟩
theorem lw_p21 : lw_okq (⟨"OctalHouse$Processor", "writePair", "(I)V"⟩, 3) := ⟨⟨by decide +kernel, by decide +kernel⟩, List.mem_of_getElem? (i := 206) (by decide +kernel), List.mem_of_getElem? (i := 553) (by decide +kernel), List.mem_of_getElem? (i := 554) (by decide +kernel)⟩
theorem lw_p22 : lw_okq (⟨"OctalHouse$Processor", "divide", "(I)V"⟩, 3) := ⟨⟨by decide +kernel, by decide +kernel⟩, List.mem_of_getElem? (i := 206) (by decide +kernel), List.mem_of_getElem? (i := 557) (by decide +kernel), List.mem_of_getElem? (i := 558) (by decide +kernel)⟩
theorem lw_p23 : lw_okq (⟨"OctalHouse$Processor", "readPair", "()I"⟩, 3) := ⟨⟨by decide +kernel, by decide +kernel⟩, List.mem_of_getElem? (i := 206) (by decide +kernel), List.mem_of_getElem? (i := 561) (by decide +kernel), List.mem_of_getElem? (i := 562) (by decide +kernel)⟩
theorem lw_p24 : lw_okq (⟨"OctalHouse$Processor", "writeTwo", "(IIII)V"⟩, 3) := ⟨⟨by decide +kernel, by decide +kernel⟩, List.mem_of_getElem? (i := 206) (by decide +kernel), List.mem_of_getElem? (i := 567) (by decide +kernel), List.mem_of_getElem? (i := 568) (by decide +kernel)⟩
theorem lw_p25 : lw_okq (⟨"OctalHouse$Processor", "longShift", "(I)V"⟩, 3) := ⟨⟨by decide +kernel, by decide +kernel⟩, List.mem_of_getElem? (i := 206) (by decide +kernel), List.mem_of_getElem? (i := 571) (by decide +kernel), List.mem_of_getElem? (i := 572) (by decide +kernel)⟩
theorem lw_p26 : lw_okq (⟨"OctalHouseModel", "turn", "()V"⟩, 35) := ⟨⟨by decide +kernel, by decide +kernel⟩, List.mem_of_getElem? (i := 667) (by decide +kernel), List.mem_of_getElem? (i := 788) (by decide +kernel), List.mem_of_getElem? (i := 789) (by decide +kernel)⟩
theorem lw_p27 : lw_okq (⟨"OctalHouseModel", "ready", "(I)V"⟩, 35) := ⟨⟨by decide +kernel, by decide +kernel⟩, List.mem_of_getElem? (i := 667) (by decide +kernel), List.mem_of_getElem? (i := 792) (by decide +kernel), List.mem_of_getElem? (i := 793) (by decide +kernel)⟩
theorem lw_p28 : lw_okq (⟨"OctalHouseModel", "channel", "(I)V"⟩, 35) := ⟨⟨by decide +kernel, by decide +kernel⟩, List.mem_of_getElem? (i := 667) (by decide +kernel), List.mem_of_getElem? (i := 796) (by decide +kernel), List.mem_of_getElem? (i := 797) (by decide +kernel)⟩
theorem lw_p29 : lw_okq (⟨"OctalHouseModel", "put", "(II)V"⟩, 35) := ⟨⟨by decide +kernel, by decide +kernel⟩, List.mem_of_getElem? (i := 667) (by decide +kernel), List.mem_of_getElem? (i := 800) (by decide +kernel), List.mem_of_getElem? (i := 801) (by decide +kernel)⟩
theorem lw_p30 : lw_okq (⟨"OctalHouseModel", "at", "(I)I"⟩, 35) := ⟨⟨by decide +kernel, by decide +kernel⟩, List.mem_of_getElem? (i := 667) (by decide +kernel), List.mem_of_getElem? (i := 804) (by decide +kernel), List.mem_of_getElem? (i := 805) (by decide +kernel)⟩
theorem lw_p31 : lw_okq (⟨"OctalHouseModel", "started", "(I)V"⟩, 35) := ⟨⟨by decide +kernel, by decide +kernel⟩, List.mem_of_getElem? (i := 667) (by decide +kernel), List.mem_of_getElem? (i := 812) (by decide +kernel), List.mem_of_getElem? (i := 813) (by decide +kernel)⟩
def lw_privs_2 : List (MethodName × Nat) := [(⟨"OctalHouse$Processor", "inputOrOutput", "(I)V"⟩, 3), (⟨"OctalHouse$Bus", "resetAllControls", "()V"⟩, 7), (⟨"OctalHouse$Bus", "putLineControl", "(IZ)V"⟩, 7), (⟨"OctalHouse$Processor", "doubleWord", "(II)V"⟩, 3), (⟨"OctalHouse$Processor", "multiply", "(I)V"⟩, 3), (⟨"OctalHouse$Processor", "writePair", "(I)V"⟩, 3), (⟨"OctalHouse$Processor", "divide", "(I)V"⟩, 3), (⟨"OctalHouse$Processor", "readPair", "()I"⟩, 3), (⟨"OctalHouse$Processor", "writeTwo", "(IIII)V"⟩, 3), (⟨"OctalHouse$Processor", "longShift", "(I)V"⟩, 3), (⟨"OctalHouseModel", "turn", "()V"⟩, 35), (⟨"OctalHouseModel", "ready", "(I)V"⟩, 35), (⟨"OctalHouseModel", "channel", "(I)V"⟩, 35), (⟨"OctalHouseModel", "put", "(II)V"⟩, 35), (⟨"OctalHouseModel", "at", "(I)I"⟩, 35), (⟨"OctalHouseModel", "started", "(I)V"⟩, 35)]
theorem lw_r2 : ∀ q ∈ lw_privs_2, lw_okq q := List.forall_mem_cons.mpr ⟨lw_p16, List.forall_mem_cons.mpr ⟨lw_p17, List.forall_mem_cons.mpr ⟨lw_p18, List.forall_mem_cons.mpr ⟨lw_p19, List.forall_mem_cons.mpr ⟨lw_p20, List.forall_mem_cons.mpr ⟨lw_p21, List.forall_mem_cons.mpr ⟨lw_p22, List.forall_mem_cons.mpr ⟨lw_p23, List.forall_mem_cons.mpr ⟨lw_p24, List.forall_mem_cons.mpr ⟨lw_p25, List.forall_mem_cons.mpr ⟨lw_p26, List.forall_mem_cons.mpr ⟨lw_p27, List.forall_mem_cons.mpr ⟨lw_p28, List.forall_mem_cons.mpr ⟨lw_p29, List.forall_mem_cons.mpr ⟨lw_p30, List.forall_mem_cons.mpr ⟨lw_p31, fun _ h => absurd h List.not_mem_nil⟩⟩⟩⟩⟩⟩⟩⟩⟩⟩⟩⟩⟩⟩⟩⟩
theorem lw_p32 : lw_okq (⟨"OctalHouseModel", "does", "(II)V"⟩, 35) := ⟨⟨by decide +kernel, by decide +kernel⟩, List.mem_of_getElem? (i := 667) (by decide +kernel), List.mem_of_getElem? (i := 816) (by decide +kernel), List.mem_of_getElem? (i := 817) (by decide +kernel)⟩
theorem lw_p33 : lw_okq (⟨"OctalHouseModel", "memoryWord", "(II)V"⟩, 35) := ⟨⟨by decide +kernel, by decide +kernel⟩, List.mem_of_getElem? (i := 667) (by decide +kernel), List.mem_of_getElem? (i := 820) (by decide +kernel), List.mem_of_getElem? (i := 821) (by decide +kernel)⟩
theorem lw_p34 : lw_okq (⟨"OctalHouseModel", "direct", "(I)I"⟩, 35) := ⟨⟨by decide +kernel, by decide +kernel⟩, List.mem_of_getElem? (i := 667) (by decide +kernel), List.mem_of_getElem? (i := 825) (by decide +kernel), List.mem_of_getElem? (i := 826) (by decide +kernel)⟩
theorem lw_p35 : lw_okq (⟨"OctalHouseModel", "skip", "(Z)V"⟩, 35) := ⟨⟨by decide +kernel, by decide +kernel⟩, List.mem_of_getElem? (i := 667) (by decide +kernel), List.mem_of_getElem? (i := 829) (by decide +kernel), List.mem_of_getElem? (i := 830) (by decide +kernel)⟩
theorem lw_p36 : lw_okq (⟨"OctalHouseModel", "sum", "(II)I"⟩, 35) := ⟨⟨by decide +kernel, by decide +kernel⟩, List.mem_of_getElem? (i := 667) (by decide +kernel), List.mem_of_getElem? (i := 833) (by decide +kernel), List.mem_of_getElem? (i := 834) (by decide +kernel)⟩
theorem lw_p37 : lw_okq (⟨"OctalHouseModel", "registers", "(I)V"⟩, 35) := ⟨⟨by decide +kernel, by decide +kernel⟩, List.mem_of_getElem? (i := 667) (by decide +kernel), List.mem_of_getElem? (i := 841) (by decide +kernel), List.mem_of_getElem? (i := 842) (by decide +kernel)⟩
theorem lw_p38 : lw_okq (⟨"OctalHouseModel", "altered", "(II)I"⟩, 35) := ⟨⟨by decide +kernel, by decide +kernel⟩, List.mem_of_getElem? (i := 667) (by decide +kernel), List.mem_of_getElem? (i := 848) (by decide +kernel), List.mem_of_getElem? (i := 849) (by decide +kernel)⟩
theorem lw_p39 : lw_okq (⟨"OctalHouseModel", "shifted", "(II)I"⟩, 35) := ⟨⟨by decide +kernel, by decide +kernel⟩, List.mem_of_getElem? (i := 667) (by decide +kernel), List.mem_of_getElem? (i := 852) (by decide +kernel), List.mem_of_getElem? (i := 853) (by decide +kernel)⟩
theorem lw_p40 : lw_okq (⟨"OctalHouseModel", "codes", "(I)V"⟩, 35) := ⟨⟨by decide +kernel, by decide +kernel⟩, List.mem_of_getElem? (i := 667) (by decide +kernel), List.mem_of_getElem? (i := 856) (by decide +kernel), List.mem_of_getElem? (i := 857) (by decide +kernel)⟩
theorem lw_p41 : lw_okq (⟨"OctalHouseModel", "setFlag", "(IZ)V"⟩, 35) := ⟨⟨by decide +kernel, by decide +kernel⟩, List.mem_of_getElem? (i := 667) (by decide +kernel), List.mem_of_getElem? (i := 860) (by decide +kernel), List.mem_of_getElem? (i := 861) (by decide +kernel)⟩
theorem lw_p42 : lw_okq (⟨"OctalHouseModel", "flagOf", "(I)Z"⟩, 35) := ⟨⟨by decide +kernel, by decide +kernel⟩, List.mem_of_getElem? (i := 667) (by decide +kernel), List.mem_of_getElem? (i := 864) (by decide +kernel), List.mem_of_getElem? (i := 865) (by decide +kernel)⟩
theorem lw_p43 : lw_okq (⟨"OctalHouseModel", "told", "(I)I"⟩, 35) := ⟨⟨by decide +kernel, by decide +kernel⟩, List.mem_of_getElem? (i := 667) (by decide +kernel), List.mem_of_getElem? (i := 868) (by decide +kernel), List.mem_of_getElem? (i := 869) (by decide +kernel)⟩
theorem lw_p44 : lw_okq (⟨"OctalHouseModel", "goes", "(II)V"⟩, 35) := ⟨⟨by decide +kernel, by decide +kernel⟩, List.mem_of_getElem? (i := 667) (by decide +kernel), List.mem_of_getElem? (i := 872) (by decide +kernel), List.mem_of_getElem? (i := 873) (by decide +kernel)⟩
theorem lw_p45 : lw_okq (⟨"OctalHouseModel", "setControl", "(IZ)V"⟩, 35) := ⟨⟨by decide +kernel, by decide +kernel⟩, List.mem_of_getElem? (i := 667) (by decide +kernel), List.mem_of_getElem? (i := 876) (by decide +kernel), List.mem_of_getElem? (i := 877) (by decide +kernel)⟩
theorem lw_p46 : lw_okq (⟨"OctalHouseModel", "extended", "(I)V"⟩, 35) := ⟨⟨by decide +kernel, by decide +kernel⟩, List.mem_of_getElem? (i := 667) (by decide +kernel), List.mem_of_getElem? (i := 880) (by decide +kernel), List.mem_of_getElem? (i := 881) (by decide +kernel)⟩
theorem lw_p47 : lw_okq (⟨"OctalHouseModel", "twoWords", "(II)V"⟩, 35) := ⟨⟨by decide +kernel, by decide +kernel⟩, List.mem_of_getElem? (i := 667) (by decide +kernel), List.mem_of_getElem? (i := 888) (by decide +kernel), List.mem_of_getElem? (i := 889) (by decide +kernel)⟩
def lw_privs_3 : List (MethodName × Nat) := [(⟨"OctalHouseModel", "does", "(II)V"⟩, 35), (⟨"OctalHouseModel", "memoryWord", "(II)V"⟩, 35), (⟨"OctalHouseModel", "direct", "(I)I"⟩, 35), (⟨"OctalHouseModel", "skip", "(Z)V"⟩, 35), (⟨"OctalHouseModel", "sum", "(II)I"⟩, 35), (⟨"OctalHouseModel", "registers", "(I)V"⟩, 35), (⟨"OctalHouseModel", "altered", "(II)I"⟩, 35), (⟨"OctalHouseModel", "shifted", "(II)I"⟩, 35), (⟨"OctalHouseModel", "codes", "(I)V"⟩, 35), (⟨"OctalHouseModel", "setFlag", "(IZ)V"⟩, 35), (⟨"OctalHouseModel", "flagOf", "(I)Z"⟩, 35), (⟨"OctalHouseModel", "told", "(I)I"⟩, 35), (⟨"OctalHouseModel", "goes", "(II)V"⟩, 35), (⟨"OctalHouseModel", "setControl", "(IZ)V"⟩, 35), (⟨"OctalHouseModel", "extended", "(I)V"⟩, 35), (⟨"OctalHouseModel", "twoWords", "(II)V"⟩, 35)]
theorem lw_r3 : ∀ q ∈ lw_privs_3, lw_okq q := List.forall_mem_cons.mpr ⟨lw_p32, List.forall_mem_cons.mpr ⟨lw_p33, List.forall_mem_cons.mpr ⟨lw_p34, List.forall_mem_cons.mpr ⟨lw_p35, List.forall_mem_cons.mpr ⟨lw_p36, List.forall_mem_cons.mpr ⟨lw_p37, List.forall_mem_cons.mpr ⟨lw_p38, List.forall_mem_cons.mpr ⟨lw_p39, List.forall_mem_cons.mpr ⟨lw_p40, List.forall_mem_cons.mpr ⟨lw_p41, List.forall_mem_cons.mpr ⟨lw_p42, List.forall_mem_cons.mpr ⟨lw_p43, List.forall_mem_cons.mpr ⟨lw_p44, List.forall_mem_cons.mpr ⟨lw_p45, List.forall_mem_cons.mpr ⟨lw_p46, List.forall_mem_cons.mpr ⟨lw_p47, fun _ h => absurd h List.not_mem_nil⟩⟩⟩⟩⟩⟩⟩⟩⟩⟩⟩⟩⟩⟩⟩⟩
theorem lw_p48 : lw_okq (⟨"OctalHouseModel", "both", "(J)V"⟩, 35) := ⟨⟨by decide +kernel, by decide +kernel⟩, List.mem_of_getElem? (i := 667) (by decide +kernel), List.mem_of_getElem? (i := 892) (by decide +kernel), List.mem_of_getElem? (i := 893) (by decide +kernel)⟩
theorem lw_p49 : lw_okq (⟨"OctalHouseModel", "both", "()J"⟩, 35) := ⟨⟨by decide +kernel, by decide +kernel⟩, List.mem_of_getElem? (i := 667) (by decide +kernel), List.mem_of_getElem? (i := 896) (by decide +kernel), List.mem_of_getElem? (i := 897) (by decide +kernel)⟩
theorem lw_p50 : lw_okq (⟨"OctalHouseModel", "leftSigned", "(I)V"⟩, 35) := ⟨⟨by decide +kernel, by decide +kernel⟩, List.mem_of_getElem? (i := 667) (by decide +kernel), List.mem_of_getElem? (i := 902) (by decide +kernel), List.mem_of_getElem? (i := 903) (by decide +kernel)⟩
theorem lw_p51 : lw_okq (⟨"OctalHouseModel", "lacks", "(II)Z"⟩, 35) := ⟨⟨by decide +kernel, by decide +kernel⟩, List.mem_of_getElem? (i := 667) (by decide +kernel), List.mem_of_getElem? (i := 915) (by decide +kernel), List.mem_of_getElem? (i := 916) (by decide +kernel)⟩
def lw_privs_4 : List (MethodName × Nat) := [(⟨"OctalHouseModel", "both", "(J)V"⟩, 35), (⟨"OctalHouseModel", "both", "()J"⟩, 35), (⟨"OctalHouseModel", "leftSigned", "(I)V"⟩, 35), (⟨"OctalHouseModel", "lacks", "(II)Z"⟩, 35)]
theorem lw_r4 : ∀ q ∈ lw_privs_4, lw_okq q := List.forall_mem_cons.mpr ⟨lw_p48, List.forall_mem_cons.mpr ⟨lw_p49, List.forall_mem_cons.mpr ⟨lw_p50, List.forall_mem_cons.mpr ⟨lw_p51, fun _ h => absurd h List.not_mem_nil⟩⟩⟩⟩
def lw_privs : List (MethodName × Nat) := lw_privs_1 ++ (lw_privs_2 ++ (lw_privs_3 ++ (lw_privs_4)))
def lw_tbl : List Cond := k2_sels lw_privs ++ tables_1
theorem lw_privs_ok : ∀ q ∈ lw_privs, lw_okq q := by
  show ∀ q ∈ lw_privs_1 ++ (lw_privs_2 ++ (lw_privs_3 ++ (lw_privs_4))), lw_okq q
  exact List.forall_mem_append.mpr ⟨lw_r1, List.forall_mem_append.mpr ⟨lw_r2, List.forall_mem_append.mpr ⟨lw_r3, lw_r4⟩⟩⟩
end
section
/-! ===== BEGIN words of one list among another's, by their places ===== -/
theorem goodIn_r {big : List Cond} (ws : List Cond) (ps : List Nat) (hp : ws = ps.filterMap (fun i => big[i]?)) (h : ws.all goodWord = true) : GoodIn big ws := by
  intro w hw
  have h1 := List.all_eq_true.mp h w hw
  rw [hp] at hw
  obtain ⟨i, -, hi⟩ := List.mem_filterMap.mp hw
  have hm : w ∈ big := by first | exact List.mem_of_getElem? hi | exact List.getElem?_mem hi
  exact ⟨hm, good_of_word h1⟩
theorem goodIn_app {big a b : List Cond} (ha : GoodIn big a) (hb : GoodIn big b) : GoodIn big (a ++ b) := fun w h => (List.mem_append.mp h).elim (ha w) (hb w)
theorem goodIn_ca {big a b : List Cond} {c : Cond} (ha : GoodIn big (c :: a)) (hb : GoodIn big b) : GoodIn big (c :: (a ++ b)) := fun w h => (List.mem_cons.mp h).elim (fun e => ha w (List.mem_cons.mpr (Or.inl e))) (fun h => (List.mem_append.mp h).elim (fun h => ha w (List.mem_cons.mpr (Or.inr h))) (hb w))
theorem goodIn_sub {big ws : List Cond} (hm : ∀ w ∈ ws, w ∈ big) (h : ws.all goodWord = true) : GoodIn big ws := fun w hw => ⟨hm w hw, good_of_word (List.all_eq_true.mp h w hw)⟩
/-! ===== END ===== -/

/-! ===== BEGIN exceptions that leave a method, and their catching by the caller (launches without stack traces) ===== -/
section VXA
/-! The laws vx_back, vx_callV, vx_callS, vx_callSW, vx_throw0, vx_throwS follow proofs of the library, with one case more: JvmDerived/Free/Laws.lean (Back.of_free), Shelf42/LK1.lean (callV, callS), Shelf/KitTraced.lean (throwNew0V, throwNewS). -/
/-- where a method has thrown q: the class by its name, the cell, what was written, the world -/
def vx_T (XC : String → State → State → Prop) (st : State) (q : Addr) (t : State) (mc ms : Nat) (free : Addr → Prop) : Prop :=
  ∃ (E : String) (ce : Cell) (L : List Loc), XC E st t ∧ t.heap[q]? = some ce ∧ ce.vm = .none ∧ st.vm.findClass E = some ce.cls ∧ st.WarmedH t.vm ∧ st.sameButNew ({ t with vm := st.vm } : State) L mc ms ∧ ∀ z ∈ L, free z.base
def vx_Q (Qc : Array Value → State → Outcome → State → Prop) (XC : String → State → State → Prop) (mc ms : Nat) (free : Addr → Prop) : Array Value → State → Outcome → State → Prop := fun a st o t =>
  (Qc a st o t ∧ ∃ L, FrameEnd st o t L mc ms ∧ ∀ q ∈ L, free q.base) ∨ ∃ q, o = .threw q ∧ vx_T XC st q t mc ms free
/-- a callee that returns or throws -/
def vx_Met (l : Launch) (y : MethodName) (ws : List Cond) (rm : Room) (Pc : Array Value → State → Prop) (Qc : Array Value → State → Outcome → State → Prop) (XC : String → State → State → Prop) (mc ms : Nat) (free : Addr → Prop) : Prop :=
  MetFree l y (headSpec ws rm) Pc (fun _ _ _ _ _ => True) (vx_Q Qc XC mc ms free)
def vx_Post (XC : String → State → State → Prop) (mc ms : Nat) (free : Addr → Prop) : Pt → Array Value → Addr → Pt → Prop := fun A a q B =>
  ∃ (g : JFrame) (mk : MethodId) (t : State) (L : List Loc) (E : String) (ce : Cell), B.U.heap = t.heap ∧ B.U.vm = t.vm ∧ XC E (A.U.calling g mk a) t ∧ t.heap[q]? = some ce ∧ ce.vm = .none ∧ A.U.vm.findClass E = some ce.cls ∧ B.locs = A.locs ++ L ∧ (∀ z ∈ L, free z.base) ∧ B.cells = A.cells + mc ∧ B.slots = A.slots + ms
def vx_Back (l : Launch) (R : Room) (p : Program) (e : Env) (below : List Frame) (s : State) (sargs : Array Value) (y : MethodName) (len W9 : Nat)
    (Pre : Pt → Array Value → Prop) (Post : Pt → Array Value → Option Value → Pt → Prop) (PostX : Pt → Array Value → Addr → Pt → Prop) : Prop :=
  ∀ (m : MethodId) (meth : Method) (c : Code) (A : Pt) (g : JFrame) (ig : Instr) (mk : MethodId) (a : Array Value),
    Stand p l e R s m sargs below meth c A.U A.locs A.cells A.slots → g.method = m → g.locals.size = c.maxLocals → decode c.code g.pc = .ok (ig, len) →
    2 * g.monitorRoom + (g.stack.map fun v => v.category).sum ≤ W9 → A.U.methodNamed? y = some mk → Pre A a →
    (∃ (v : Option Value) (B : Pt), Stand p l e R s m sargs below meth c B.U B.locs B.cells B.slots ∧ Post A a v B ∧
      Steps p.tables e below (doInvoke e (A.U.setTop g) [] mk a).1 (B.U.setTop { g with pc := g.pc + len, stack := v.toList ++ g.stack })) ∨
    (∃ (q : Addr) (B : Pt), Stand p l e R s m sargs below meth c B.U B.locs B.cells B.slots ∧ PostX A a q B ∧
      Steps p.tables e below (doInvoke e (A.U.setTop g) [] mk a).1 ((B.U.setTop g).pushFrame (.throwing q)))
section Payer
variable {l : Launch} {R : Room} {p : Program} {e : Env} {below : List Frame} {s : State} {sargs : Array Value} {y : MethodName} {len W9 : Nat}
theorem vx_back {ws : List Cond} {rm : Room} {Pc : Array Value → State → Prop} {Qc : Array Value → State → Outcome → State → Prop} {XC : String → State → State → Prop} {mc ms : Nat} {free : Addr → Prop} {bytes : ByteArray} {maxL : Nat} {ret : Option FieldType}
    (hM : vx_Met l y ws rm Pc Qc XC mc ms free) (hblind : FrameBlind Pc) (hrc : rm.cells = mc) (hrs : rm.slots = ms)
    (hframes : rm.frames + 1 ≤ R.frames) (hlocals : W9 + (maxL + 11) + rm.locals ≤ R.locals)
    (hws : ∀ w ∈ ws, ∀ a' U, s.WarmedH U.vm → w.before a' U = true) (hcode : Cond.code y bytes maxL ret ∈ ws) (hinit : ∀ a' U, s.WarmedH U.vm → (Cond.initialized y.cls).before a' U = true) :
    vx_Back l R p e below s sargs y len W9 (PreOf R mc ms Pc) (PostOf Qc mc ms free) (vx_Post XC mc ms free) := by
  intro m meth c A g ig mk a X hg hsize hdg hW hn hp
  have h1 : (headSpec ws rm).pre.before a A.U = true := atoms_intro fun w hw => hws w hw _ _ X.warmed
  have h2 : (Cond.code y bytes maxL ret).before a A.U = true := hws _ hcode _ _ X.warmed
  have h3 : (Cond.initialized y.cls).before a A.U = true := hinit _ _ X.warmed
  have h4 : A.cells + (headSpec ws rm).room.cells ≤ R.cells := by rw [show (headSpec ws rm).room.cells = mc from hrc]; exact hp.1
  have h5 : A.slots + (headSpec ws rm).room.slots ≤ R.slots := by rw [show (headSpec ws rm).room.slots = ms from hrs]; exact hp.2.1
  have hPc : Pc a (A.U.calling g mk a) := hblind _ _ _ _ hp.2.2
  obtain ⟨U, Ls, c0, s0⟩ := A
  dsimp only [Pt.U, Pt.locs, Pt.cells, Pt.slots] at h1 h2 h3 h4 h5 X hn hPc ⊢
  obtain ⟨methY, cY, hmY, hcY, -, hlY, -, -, -, -⟩ := Cond.code_spec hn h2
  obtain ⟨kY, hkY, -⟩ := className_of_methodNamed hn
  have hinitY : kY.init = .initialized := Cond.initialized_spec (findClass_of_methodNamed hn) hkY h3
  have h : At U g.method c below := by rw [hg]; exact X.here
  have hlocals9 : W9 + (maxL + 11) + (headSpec ws rm).room.locals ≤ R.locals := hlocals
  have happ : (headSpec ws rm).appliesLoose y e.platform (U.calling g mk a) = true :=
    Spec.appliesLoose_calling (g := g) h hdg hn hkY hinitY
      (X.room_calling (g := g) (R' := (headSpec ws rm).room) hsize hmY hcY hframes (by rw [hlY]; omega) h4 h5) h1
  obtain ⟨mid, hmid⟩ := h.above
  have hfr : (U.setTop g).frames = (.java g :: mid) ++ below := by rw [State.frames_setTop' g h.top, hmid]; rfl
  obtain ⟨o, s₂, hsteps, -, hend, hq⟩ := Steps.callFree hM p X.admits X.cas X.clock (acts := []) hfr happ hPc trivial
  have hq' : vx_Q Qc XC mc ms free a (U.calling g mk a) o s₂ := hq
  rw [State.frames_setTop' g h.top] at hend
  obtain ⟨g₀, hg0⟩ := Option.isSome_iff_exists.mp h.top
  obtain ⟨r, hr⟩ := State.topJava?_eq_some.mp hg0
  have hr' : (({ U with heap := s₂.heap, slotsUsed := s₂.slotsUsed } : State).setVm s₂.vm).frames = .java g₀ :: r := hr
  rcases hq' with ⟨hqc, L, hfe, hL⟩ | ⟨q, rfl, E, ce, L, hx, hce, hcv, hcl, hW₂, hsm, hL⟩
  · obtain ⟨⟨v, rfl⟩, hW₂, e2, q2, q3, q4, q5, q6⟩ := id hfe
    have e3 : s₂ = ({ (U.calling g mk a).setFrames s₂.frames with heap := s₂.heap, slotsUsed := s₂.slotsUsed } : State).setVm s₂.vm := by
      have : s₂ = ({ s₂ with vm := (U.calling g mk a).vm } : State).setVm s₂.vm := rfl
      rw [e2] at this
      exact this
    obtain ⟨c₂, i₂, len₂, hc₂, hd₂, hf₂⟩ := hend
    have hW' : U.WarmedH s₂.vm := hW₂
    have hcc : c₂ = c := by
      have h1 : s₂.code? g.method = U.code? g.method := by
        rw [State.code?_eq, State.code?_eq, hW'.alike.method?]
      exact Option.some.inj (hc₂.symm.trans (h1.trans h.code))
    subst hcc
    have hlen : len₂ = len := by rw [hdg] at hd₂; cases hd₂; rfl
    subst hlen
    have hs₂ : s₂ = (({ U with heap := s₂.heap, slotsUsed := s₂.slotsUsed } : State).setVm s₂.vm).setTop { g with pc := g.pc + len₂, stack := v.toList ++ g.stack } := by
      refine e3.trans ?_
      rw [hf₂, State.calling_eq h.top, State.setFrames_setFrames, State.setTop_of_frames _ hr', hr]
      rfl
    have hsame : U.sameButNew ({ U with heap := s₂.heap, slotsUsed := s₂.slotsUsed } : State) L mc ms := by
      refine ⟨?_, q2, q3, q4, q5, q6⟩
      obtain ⟨t, ht, -⟩ := State.frames_cons hr
      show ({ U with heap := s₂.heap, slotsUsed := s₂.slotsUsed } : State) = { U.setFrames U.frames with heap := s₂.heap, slotsUsed := s₂.slotsUsed }
      rw [State.setFrames_self ht]
    subst hg
    refine Or.inl ⟨v, ⟨(({ U with heap := s₂.heap, slotsUsed := s₂.slotsUsed } : State).setVm s₂.vm), Ls ++ L, c0 + mc, s0 + ms⟩,
      ⟨X.admits, X.cas, X.clock, X.frames, X.room, X.hears, X.method, X.code, (X.here.setHeapUsed s₂.heap s₂.slotsUsed).setVm hW'.alike, X.tail, State.WarmedH.trans X.warmed hW', X.limits, X.bytes, X.same.trans (hsame.setVm s.vm)⟩,
      ⟨g, mk, s₂, L, rfl, rfl, hqc, rfl, hL, rfl, rfl⟩, ?_⟩
    show Steps p.tables e below _ ((({ U with heap := s₂.heap, slotsUsed := s₂.slotsUsed } : State).setVm s₂.vm).setTop { g with pc := g.pc + len₂, stack := v.toList ++ g.stack })
    rw [← hs₂]
    exact hsteps
  · obtain ⟨e2, q2, q3, q4, q5, q6⟩ := id hsm
    have e3 : s₂ = ({ (U.calling g mk a).setFrames s₂.frames with heap := s₂.heap, slotsUsed := s₂.slotsUsed } : State).setVm s₂.vm := by
      have : s₂ = ({ s₂ with vm := (U.calling g mk a).vm } : State).setVm s₂.vm := rfl
      rw [e2] at this
      exact this
    have hf₂ : s₂.frames = .throwing q :: .java g :: U.frames.tail := hend
    have hW' : U.WarmedH s₂.vm := hW₂
    have hs₂ : s₂ = ((({ U with heap := s₂.heap, slotsUsed := s₂.slotsUsed } : State).setVm s₂.vm).setTop g).pushFrame (.throwing q) := by
      refine e3.trans ?_
      rw [hf₂, State.calling_eq h.top, State.setFrames_setFrames, State.pushFrame, State.frames_setTop _ hr', State.setTop_of_frames _ hr', State.setFrames_setFrames, hr]
      rfl
    have hsame : U.sameButNew ({ U with heap := s₂.heap, slotsUsed := s₂.slotsUsed } : State) L mc ms := by
      refine ⟨?_, q2, q3, q4, q5, q6⟩
      obtain ⟨t, ht, -⟩ := State.frames_cons hr
      show ({ U with heap := s₂.heap, slotsUsed := s₂.slotsUsed } : State) = { U.setFrames U.frames with heap := s₂.heap, slotsUsed := s₂.slotsUsed }
      rw [State.setFrames_self ht]
    subst hg
    refine Or.inr ⟨q, ⟨(({ U with heap := s₂.heap, slotsUsed := s₂.slotsUsed } : State).setVm s₂.vm), Ls ++ L, c0 + mc, s0 + ms⟩,
      ⟨X.admits, X.cas, X.clock, X.frames, X.room, X.hears, X.method, X.code, (X.here.setHeapUsed s₂.heap s₂.slotsUsed).setVm hW'.alike, X.tail, State.WarmedH.trans X.warmed hW', X.limits, X.bytes, X.same.trans (hsame.setVm s.vm)⟩,
      ⟨g, mk, s₂, L, E, ce, rfl, rfl, hx, hce, hcv, hcl, rfl, hL, rfl, rfl⟩, ?_⟩
    show Steps p.tables e below _ (((({ U with heap := s₂.heap, slotsUsed := s₂.slotsUsed } : State).setVm s₂.vm).setTop g).pushFrame (.throwing q))
    rw [← hs₂]
    exact hsteps
end Payer
section Calls
variable {p : Program} {l : Launch} {e : Env} {R : Room} {s : State} {m : MethodId} {args : Array Value} {below : List Frame} {meth : Method} {c : Code} {T : State} {locs : List Loc} {cells slots : Nat}
theorem vx_callV (X : Stand p l e R s m args below meth c T locs cells slots) (hexec : p.tables.exec = Jvm.exec) {own C : String} {index : Nat} {y : MethodName} {bytes : ByteArray} {maxL : Nat} {ret : Option FieldType}
    (hown : s.vm.findClass own = some m.cls) (hlink : (Cond.methodLink own index y).before args s = true) (hinst : (Cond.instanceMethod y).before args s = true) (hsel : (Cond.selects C y y).before args s = true)
    (hcode : (Cond.code y bytes maxL ret).before args s = true) (hy : y.cls ≠ "java/lang/invoke/MethodHandle" ∧ y.cls ≠ "java/lang/invoke/VarHandle")
    {W9 : Nat} {Pre : Pt → Array Value → Prop} {Post : Pt → Array Value → Option Value → Pt → Prop} {PostX : Pt → Array Value → Addr → Pt → Prop} (hK : vx_Back l R p e below s args y 3 W9 Pre Post PostX)
    {b : Addr} {cellB : Cell} (hcell : T.heap[b]? = some cellB) (hobj : cellB.vm.isStatics = false) (hcls : s.vm.findClass C = some cellB.cls)
    {g : JFrame} (hg : g.method = m) (hsize : g.locals.size = c.maxLocals) {argsL rest : List Value} (hlen : ∀ sig, parseMethodDescriptor y.desc = some sig → argsL.length = sig.parameters.length)
    (hstack : g.stack = argsL.reverse ++ .ref b :: rest) (hW : 2 * g.monitorRoom + (rest.map fun v => v.category).sum ≤ W9) (hdg : decode c.code g.pc = .ok (.invokevirtual index, 3))
    (hpre : ∀ vm₁, s.WarmedH vm₁ → Pre ⟨T.setVm vm₁, locs, cells, slots⟩ (Value.ref b :: argsL).toArray) :
    (∃ (v : Option Value) (vm₁ : Vm) (B : Pt), s.WarmedH vm₁ ∧ Stand p l e R s m args below meth c B.U B.locs B.cells B.slots ∧ Post ⟨T.setVm vm₁, locs, cells, slots⟩ (Value.ref b :: argsL).toArray v B ∧
      ∀ target, Steps p.tables e below (B.U.setTop { g with pc := g.pc + 3, stack := v.toList ++ rest }) target → Steps p.tables e below (T.setTop g) target) ∨
    (∃ (q : Addr) (vm₁ : Vm) (B : Pt), s.WarmedH vm₁ ∧ Stand p l e R s m args below meth c B.U B.locs B.cells B.slots ∧ PostX ⟨T.setVm vm₁, locs, cells, slots⟩ (Value.ref b :: argsL).toArray q B ∧
      Steps p.tables e below (T.setTop g) ((B.U.setTop { g with stack := rest }).pushFrame (.throwing q))) := by
  obtain ⟨mk, methM, hnamed, hmethM, hstM, habM⟩ := Cond.instanceMethod_spec hinst
  obtain ⟨methM', cM, hmethM', -, -, -, -, -, -, hsigM⟩ := Cond.code_spec hnamed hcode
  cases hmethM.symm.trans hmethM'
  obtain ⟨c2, r2, m2, q1, q2, q3, q4, kP, hkP, hkPi⟩ := Cond.selects_spec hsel
  cases hcls.symm.trans q1
  cases (State.methodFound?_of_named hnamed hy).symm.trans q2
  cases hnamed.symm.trans q3
  have hselP : selectMethod e.platform s.vm cellB.cls mk = .method mk := by rw [Launch.admits_selectMethod X.admits]; exact q4
  obtain ⟨vm₁, X₁, hstep₁⟩ := X.invokevirtual hexec hown hlink hnamed hmethM hstM hkP hkPi hy (a := b) (cell := cellB) hcell
    (fun z h => by rw [h] at hobj; cases hobj) hselP hmethM habM hkP hkPi (g := g) hg (argsL := argsL) (rest := rest) (hlen _ hsigM) hstack hdg
  rcases hK m meth c ⟨T.setVm vm₁, locs, cells, slots⟩ { g with stack := rest } (.invokevirtual index) mk (Value.ref b :: argsL).toArray X₁ hg hsize hdg hW (X₁.named hnamed) (hpre vm₁ X₁.warmed) with ⟨v, B, X', hpost, hsteps⟩ | ⟨q, B, X', hpost, hsteps⟩
  · exact Or.inl ⟨v, vm₁, B, X₁.warmed, X', hpost, fun target h => hstep₁ _ fun acts => by rw [doInvoke_state]; exact hsteps.trans h⟩
  · exact Or.inr ⟨q, vm₁, B, X₁.warmed, X', hpost, hstep₁ _ fun acts => by rw [doInvoke_state]; exact hsteps⟩
theorem vx_callS (X : Stand p l e R s m args below meth c T locs cells slots) (hexec : p.tables.exec = Jvm.exec) {own : String} {index : Nat} {y : MethodName} {bytes : ByteArray} {maxL : Nat} {ret : Option FieldType}
    (hown : s.vm.findClass own = some m.cls) (hlink : (Cond.methodLink own index y).before args s = true) (hstat : (Cond.static y).before args s = true) (hinit : (Cond.initialized y.cls).before args s = true)
    (hcode : (Cond.code y bytes maxL ret).before args s = true) (hy : y.cls ≠ "java/lang/invoke/MethodHandle" ∧ y.cls ≠ "java/lang/invoke/VarHandle")
    {W9 : Nat} {Pre : Pt → Array Value → Prop} {Post : Pt → Array Value → Option Value → Pt → Prop} {PostX : Pt → Array Value → Addr → Pt → Prop} (hK : vx_Back l R p e below s args y 3 W9 Pre Post PostX)
    {g : JFrame} (hg : g.method = m) (hsize : g.locals.size = c.maxLocals) {argsL rest : List Value} (hlen : ∀ sig, parseMethodDescriptor y.desc = some sig → argsL.length = sig.parameters.length)
    (hstack : g.stack = argsL.reverse ++ rest) (hW : 2 * g.monitorRoom + (rest.map fun v => v.category).sum ≤ W9) (hdg : decode c.code g.pc = .ok (.invokestatic index, 3))
    (hpre : ∀ vm₁, s.WarmedH vm₁ → Pre ⟨T.setVm vm₁, locs, cells, slots⟩ argsL.toArray) :
    (∃ (v : Option Value) (vm₁ : Vm) (B : Pt), s.WarmedH vm₁ ∧ Stand p l e R s m args below meth c B.U B.locs B.cells B.slots ∧ Post ⟨T.setVm vm₁, locs, cells, slots⟩ argsL.toArray v B ∧
      ∀ target, Steps p.tables e below (B.U.setTop { g with pc := g.pc + 3, stack := v.toList ++ rest }) target → Steps p.tables e below (T.setTop g) target) ∨
    (∃ (q : Addr) (vm₁ : Vm) (B : Pt), s.WarmedH vm₁ ∧ Stand p l e R s m args below meth c B.U B.locs B.cells B.slots ∧ PostX ⟨T.setVm vm₁, locs, cells, slots⟩ argsL.toArray q B ∧
      Steps p.tables e below (T.setTop g) ((B.U.setTop { g with stack := rest }).pushFrame (.throwing q))) := by
  obtain ⟨mk, hnamed⟩ := Cond.code_named hcode
  obtain ⟨methM, cM, hmethM, -, -, -, -, -, -, hsigM⟩ := Cond.code_spec hnamed hcode
  have hstatic : methM.isStatic = true := Cond.static_spec hnamed hmethM hstat
  obtain ⟨kP, hkP, -⟩ := className_of_methodNamed hnamed
  have hinitP : kP.init = .initialized := Cond.initialized_spec (findClass_of_methodNamed hnamed) hkP hinit
  obtain ⟨vm₁, X₁, hstep₁⟩ := X.invokestatic hexec hown hlink hnamed hmethM hstatic hkP hinitP hy (g := g) hg (argsL := argsL) (rest := rest) (hlen _ hsigM) hstack hdg
  rcases hK m meth c ⟨T.setVm vm₁, locs, cells, slots⟩ { g with stack := rest } (.invokestatic index) mk argsL.toArray X₁ hg hsize hdg hW (X₁.named hnamed) (hpre vm₁ X₁.warmed) with ⟨v, B, X', hpost, hsteps⟩ | ⟨q, B, X', hpost, hsteps⟩
  · exact Or.inl ⟨v, vm₁, B, X₁.warmed, X', hpost, fun target h => hstep₁ _ fun acts => by rw [doInvoke_state]; exact hsteps.trans h⟩
  · exact Or.inr ⟨q, vm₁, B, X₁.warmed, X', hpost, hstep₁ _ fun acts => by rw [doInvoke_state]; exact hsteps⟩
end Calls
theorem vx_cls {s : State} {T : State} {vm₁ : Vm} {E : String} {k : ClassId} (hW : s.WarmedH vm₁) (h : (T.setVm vm₁).vm.findClass E = some k) : s.vm.findClass E = some k := by
  have h1 : vm₁.findClass E = some k := h
  rw [hW.alike.findClass] at h1
  exact h1
/-- the method's frame g, with q thrown over it -/
def vx_W (p : Program) (l : Launch) (e : Env) (R : Room) (s : State) (m : MethodId) (args : Array Value) (below : List Frame) (meth : Method) (c : Code) (H : Heap) (locs : List Loc) (cells slots : Nat) (Q : State → Prop) (g : JFrame) (q : Addr) : Prop :=
  ∀ T : State, T.heap = H → Stand p l e R s m args below meth c T locs cells slots → ∃ t, Steps p.tables e below ((T.setTop g).pushFrame (.throwing q)) t ∧ Q t
def vx_Run (p : Program) (l : Launch) (e : Env) (R : Room) (s : State) (m : MethodId) (args : Array Value) (below : List Frame) (meth : Method) (c : Code) (H : Heap) (locs : List Loc) (cells slots mc ms : Nat) (g : JFrame) (rest : List Value) (Qa : State → Outcome → State → Prop) (XC : String → State → State → Prop) (free : Addr → Prop) : Prop :=
  ∀ T : State, T.heap = H → Stand p l e R s m args below meth c T locs cells slots →
    (∃ (v : Option Value) (st₀ t T' : State) (L : List Loc), st₀.heap = H ∧ Stand p l e R s m args below meth c T' (locs ++ L) (cells + mc) (slots + ms) ∧ (∀ q ∈ L, free q.base) ∧ T'.heap = t.heap ∧ T'.vm = t.vm ∧ Qa st₀ (.returned v) t ∧
      Goes p e below T g T' { g with pc := g.pc + 3, stack := v.toList ++ rest }) ∨
    (∃ (q : Addr) (st₀ t T' : State) (L : List Loc) (E : String) (ce : Cell), st₀.heap = H ∧ Stand p l e R s m args below meth c T' (locs ++ L) (cells + mc) (slots + ms) ∧ (∀ z ∈ L, free z.base) ∧ T'.heap = t.heap ∧ T'.vm = t.vm ∧ XC E st₀ t ∧ t.heap[q]? = some ce ∧ ce.vm = .none ∧ s.vm.findClass E = some ce.cls ∧
      Steps p.tables e below (T.setTop g) ((T'.setTop { g with stack := rest }).pushFrame (.throwing q)))
def vx_X {S : Type} (px : S → Prop) (B : String → S → State → Prop) (A : Nat → Prop) : String → State → State → Prop := fun E st t => ∃ u : S, px u ∧ B E u t ∧ va_F A st t
section Runs
variable {p : Program} {l : Launch} {e : Env} {R : Room} {s : State} {m : MethodId} {args : Array Value} {below : List Frame} {meth : Method} {c : Code} {H : Heap} {locs : List Loc} {cells slots : Nat}
variable {y : MethodName} {bytes cc : ByteArray} {maxL nL mc ms n index : Nat} {ret : Option FieldType} {ws : List Cond} {rm : Room} {Pc : Array Value → State → Prop} {Qc : Array Value → State → Outcome → State → Prop} {XC : String → State → State → Prop} {free : Addr → Prop} {Ts : List Cond} {own C : String} {b : Addr} {As rest : List Value} {g : JFrame}
theorem vx_callBack (cb : CallB R s args own index y bytes maxL ret ws rm mc ms n) (hM : vx_Met l y ws rm Pc Qc XC mc ms free) (hbl : FrameBlind Pc) : vx_Back l R p e below s args y 3 8 (PreOf R mc ms Pc) (PostOf Qc mc ms free) (vx_Post XC mc ms free) := by
  obtain ⟨hrc, hrs, hfr, hlo, hws, hcw, -, hini, -⟩ := cb
  exact vx_back (bytes := bytes) (maxL := maxL) (ret := ret) hM hbl hrc hrs hfr hlo hws hcw (fun a' U hW => word_at hW (Or.inl (by first | rfl | simp [Cond.onTables, Cond.keeps, Cond.steady])) hini)
theorem vx_runV (S : CallFix p m c cc nL s args Ts own) (hM : vx_Met l y ws rm Pc Qc XC mc ms free) (cw : CallW R s args own C index y bytes maxL ret ws rm mc ms n) (hp : PreV s H C b Pc As)
    (hg : g.method = m) (hn : As.length = n) (hsize : g.locals.size = nL) (hstack : g.stack = As.reverse ++ .ref b :: rest) (hW : 2 * g.monitorRoom + (rest.map fun v => v.category).sum ≤ 8) (hdg : decode cc g.pc = .ok (.invokevirtual index, 3)) (hf : cells + mc ≤ R.cells ∧ slots + ms ≤ R.slots) :
    vx_Run p l e R s m args below meth c H locs cells slots mc ms g rest (Qc (Value.ref b :: As).toArray) XC free := by
  have hK : vx_Back l R p e below s args y 3 8 (PreOf R mc ms Pc) (PostOf Qc mc ms free) (vx_Post XC mc ms free) := vx_callBack cw.1 hM hp.1
  obtain ⟨⟨-, -, -, -, -, -, hcode, -, hy, hlen, hl⟩, hin, hse⟩ := cw
  obtain ⟨hx, hb, hml, ho, -⟩ := S
  obtain ⟨-, ⟨cellB, hcB, hoB, hclB⟩, hPc⟩ := hp
  intro T hT X
  rcases vx_callV X hx (C := C) (bytes := bytes) (maxL := maxL) (ret := ret) ho hl hin hse hcode hy hK (by rw [hT]; exact hcB) hoB hclB hg (hsize.trans hml.symm) (argsL := As) (rest := rest) (fun sig h => hn.trans (hlen sig h)) hstack hW (by rw [hb]; exact hdg)
    (fun vm₁ hW₁ => ⟨hf.1, hf.2, hPc (T.setVm vm₁) hT hW₁⟩) with ⟨v, vm₁, ⟨U', l2, c2, s2⟩, hW₁, X', ⟨g', mk, t, L, e1, e2, hq, h1, hL, h2, h3⟩, st⟩ | ⟨q, vm₁, ⟨U', l2, c2, s2⟩, hW₁, X', ⟨g', mk, t, L, E, ce, e1, e2, hq, hce, hcv, hcl, h1, hL, h2, h3⟩, st⟩
  · dsimp only [Pt.U, Pt.locs, Pt.cells, Pt.slots] at X' e1 e2 h1 h2 h3 st
    subst h1; subst h2; subst h3
    exact Or.inl ⟨v, (T.setVm vm₁).calling g' mk (Value.ref b :: As).toArray, t, U', L, hT, X', hL, e1, e2, hq, st⟩
  · dsimp only [Pt.U, Pt.locs, Pt.cells, Pt.slots] at X' e1 e2 h1 h2 h3 st hcl
    subst h1; subst h2; subst h3
    exact Or.inr ⟨q, (T.setVm vm₁).calling g' mk (Value.ref b :: As).toArray, t, U', L, E, ce, hT, X', hL, e1, e2, hq, hce, hcv, vx_cls hW₁ hcl, st⟩
theorem vx_runS (S : CallFix p m c cc nL s args Ts own) (hM : vx_Met l y ws rm Pc Qc XC mc ms free) (cw : CallB R s args own index y bytes maxL ret ws rm mc ms n ∧ (Cond.static y).before args s = true) (hp : PreS s H Pc As)
    (hg : g.method = m) (hn : As.length = n) (hsize : g.locals.size = nL) (hstack : g.stack = As.reverse ++ rest) (hW : 2 * g.monitorRoom + (rest.map fun v => v.category).sum ≤ 8) (hdg : decode cc g.pc = .ok (.invokestatic index, 3)) (hf : cells + mc ≤ R.cells ∧ slots + ms ≤ R.slots) :
    vx_Run p l e R s m args below meth c H locs cells slots mc ms g rest (Qc As.toArray) XC free := by
  have hK : vx_Back l R p e below s args y 3 8 (PreOf R mc ms Pc) (PostOf Qc mc ms free) (vx_Post XC mc ms free) := vx_callBack cw.1 hM hp.1
  obtain ⟨⟨-, -, -, -, -, -, hcode, hini, hy, hlen, hl⟩, hstt⟩ := cw
  obtain ⟨hx, hb, hml, ho, -⟩ := S
  intro T hT X
  rcases vx_callS X hx (bytes := bytes) (maxL := maxL) (ret := ret) ho hl hstt hini hcode hy hK hg (hsize.trans hml.symm) (argsL := As) (rest := rest) (fun sig h => hn.trans (hlen sig h)) hstack hW (by rw [hb]; exact hdg)
    (fun vm₁ hW₁ => ⟨hf.1, hf.2, hp.2 (T.setVm vm₁) hT hW₁⟩) with ⟨v, vm₁, ⟨U', l2, c2, s2⟩, hW₁, X', ⟨g', mk, t, L, e1, e2, hq, h1, hL, h2, h3⟩, st⟩ | ⟨q, vm₁, ⟨U', l2, c2, s2⟩, hW₁, X', ⟨g', mk, t, L, E, ce, e1, e2, hq, hce, hcv, hcl, h1, hL, h2, h3⟩, st⟩
  · dsimp only [Pt.U, Pt.locs, Pt.cells, Pt.slots] at X' e1 e2 h1 h2 h3 st
    subst h1; subst h2; subst h3
    exact Or.inl ⟨v, (T.setVm vm₁).calling g' mk As.toArray, t, U', L, hT, X', hL, e1, e2, hq, st⟩
  · dsimp only [Pt.U, Pt.locs, Pt.cells, Pt.slots] at X' e1 e2 h1 h2 h3 st hcl
    subst h1; subst h2; subst h3
    exact Or.inr ⟨q, (T.setVm vm₁).calling g' mk As.toArray, t, U', L, E, ce, hT, X', hL, e1, e2, hq, hce, hcv, vx_cls hW₁ hcl, st⟩
end Runs
section Rows
variable {p : Program} {l : Launch} {e : Env} {R : Room} {s : State} {m : MethodId} {args : Array Value} {below : List Frame} {meth : Method} {c : Code} {H : Heap} {locs : List Loc} {cells slots : Nat} {Q : State → Prop}
variable {mc ms : Nat} {free : Addr → Prop} {A0 A1 : Nat → Prop} {H0 : Heap} {a : Array Value} {pc : Nat} {ls : Array Slot} {st0 rest : List Value}
theorem vx_keep {st₀ t T' : State} {L : List Loc} (h0 : st₀.heap = H) (e1 : T'.heap = t.heap) (hS : va_S A0 H0 H locs) (hA : ∀ q, q < H.size → A1 q → A0 q) (hf : ∀ q, free q → A0 q) (hL : ∀ q ∈ L, free q.base) (hF : va_F A1 st₀ t) :
    H.size ≤ T'.heap.size ∧ (∀ q : Nat, q < H.size → ¬ A1 q → T'.heap[q]? = H[q]?) ∧ va_S A0 H0 T'.heap (locs ++ L) := by
  obtain ⟨hz, hk⟩ := hF
  rw [h0] at hz hk
  exact ⟨by rw [e1]; exact hz, fun q h1 h2 => by rw [e1]; exact hk q h1 h2,
    ⟨Nat.le_trans hS.1 (by rw [e1]; exact hz), fun q h1 h2 => by rw [e1, hk q (Nat.lt_of_lt_of_le h1 hS.1) (fun z => h2 (hA q (Nat.lt_of_lt_of_le h1 hS.1) z))]; exact hS.2.1 q h1 h2, fun q hq => by
      rcases List.mem_append.mp hq with h | h
      · exact hS.2.2 q h
      · exact hf _ (hL q h)⟩⟩
theorem vx_calli {S SX : Type} {post : Int32 → S → Prop} {px : SX → Prop} {B : S → State → Prop} {BX : String → SX → State → Prop} {AX : Nat → Prop} (hr : vx_Run p l e R s m args below meth c H locs cells slots mc ms (F0 m pc ls st0) rest (va_Qi post B A1 a) (vx_X px BX AX) free) (hS : va_S A0 H0 H locs) (hA : ∀ q, q < H.size → A1 q → A0 q) (hf : ∀ q, free q → A0 q) (hAX : ∀ q, q < H.size → AX q → A0 q)
    (kx : ∀ (E : String) (ce : Cell) (q9 : Addr) (u : SX) (t : State) (H1 : Heap) (locs1 : List Loc), t.heap = H1 → s.vm.Alike t.vm → px u → BX E u t → H.size ≤ H1.size → (∀ q : Nat, q < H.size → ¬ AX q → H1[q]? = H[q]?) → va_S A0 H0 H1 locs1 → H1[q9]? = some ce → ce.vm = .none → s.vm.findClass E = some ce.cls → vx_W p l e R s m args below meth c H1 locs1 (cells + mc) (slots + ms) Q (F0 m pc ls rest) q9)
    (kk : ∀ (r : Int32) (u : S) (t : State) (H1 : Heap) (locs1 : List Loc), t.heap = H1 → s.vm.Alike t.vm → post r u → B u t → H.size ≤ H1.size → (∀ q : Nat, q < H.size → ¬ A1 q → H1[q]? = H[q]?) → va_S A0 H0 H1 locs1 → W p l e R s m args below meth c H1 locs1 (cells + mc) (slots + ms) Q (F0 m (pc + 3) ls (.int r :: rest))) : W p l e R s m args below meth c H locs cells slots Q (F0 m pc ls st0) := by
  intro T hT X
  rcases hr T hT X with ⟨v, st₀, t, T', L, h0, X', hL, e1, e2, ⟨⟨r, u, hv, hp, hb⟩, hF⟩, st⟩ | ⟨q, st₀, t, T', L, E, ce, h0, X', hL, e1, e2, ⟨u, hp, hb, hF⟩, hce, hcv, hcl, st⟩
  · cases hv
    obtain ⟨k1, k2, k3⟩ := vx_keep h0 e1 hS hA hf hL hF
    obtain ⟨t2, a1, b1⟩ := kk r u t T'.heap (locs ++ L) e1.symm (by rw [← e2]; exact X'.warmed.alike) hp hb k1 k2 k3 T' rfl X'
    exact ⟨t2, st t2 a1, b1⟩
  · obtain ⟨k1, k2, k3⟩ := vx_keep h0 e1 hS hAX hf hL hF
    obtain ⟨t2, a1, b1⟩ := kx E ce q u t T'.heap (locs ++ L) e1.symm (by rw [← e2]; exact X'.warmed.alike) hp hb k1 k2 k3 (by rw [e1]; exact hce) hcv hcl T' rfl X'
    exact ⟨t2, st.trans a1, b1⟩
theorem vx_calll {S SX : Type} {post : Int64 → S → Prop} {px : SX → Prop} {B : S → State → Prop} {BX : String → SX → State → Prop} {AX : Nat → Prop} (hr : vx_Run p l e R s m args below meth c H locs cells slots mc ms (F0 m pc ls st0) rest (va_Ql post B A1 a) (vx_X px BX AX) free) (hS : va_S A0 H0 H locs) (hA : ∀ q, q < H.size → A1 q → A0 q) (hf : ∀ q, free q → A0 q) (hAX : ∀ q, q < H.size → AX q → A0 q)
    (kx : ∀ (E : String) (ce : Cell) (q9 : Addr) (u : SX) (t : State) (H1 : Heap) (locs1 : List Loc), t.heap = H1 → s.vm.Alike t.vm → px u → BX E u t → H.size ≤ H1.size → (∀ q : Nat, q < H.size → ¬ AX q → H1[q]? = H[q]?) → va_S A0 H0 H1 locs1 → H1[q9]? = some ce → ce.vm = .none → s.vm.findClass E = some ce.cls → vx_W p l e R s m args below meth c H1 locs1 (cells + mc) (slots + ms) Q (F0 m pc ls rest) q9)
    (kk : ∀ (r : Int64) (u : S) (t : State) (H1 : Heap) (locs1 : List Loc), t.heap = H1 → s.vm.Alike t.vm → post r u → B u t → H.size ≤ H1.size → (∀ q : Nat, q < H.size → ¬ A1 q → H1[q]? = H[q]?) → va_S A0 H0 H1 locs1 → W p l e R s m args below meth c H1 locs1 (cells + mc) (slots + ms) Q (F0 m (pc + 3) ls (.long r :: rest))) : W p l e R s m args below meth c H locs cells slots Q (F0 m pc ls st0) := by
  intro T hT X
  rcases hr T hT X with ⟨v, st₀, t, T', L, h0, X', hL, e1, e2, ⟨⟨r, u, hv, hp, hb⟩, hF⟩, st⟩ | ⟨q, st₀, t, T', L, E, ce, h0, X', hL, e1, e2, ⟨u, hp, hb, hF⟩, hce, hcv, hcl, st⟩
  · cases hv
    obtain ⟨k1, k2, k3⟩ := vx_keep h0 e1 hS hA hf hL hF
    obtain ⟨t2, a1, b1⟩ := kk r u t T'.heap (locs ++ L) e1.symm (by rw [← e2]; exact X'.warmed.alike) hp hb k1 k2 k3 T' rfl X'
    exact ⟨t2, st t2 a1, b1⟩
  · obtain ⟨k1, k2, k3⟩ := vx_keep h0 e1 hS hAX hf hL hF
    obtain ⟨t2, a1, b1⟩ := kx E ce q u t T'.heap (locs ++ L) e1.symm (by rw [← e2]; exact X'.warmed.alike) hp hb k1 k2 k3 (by rw [e1]; exact hce) hcv hcl T' rfl X'
    exact ⟨t2, st.trans a1, b1⟩
theorem vx_callf {S SX : Type} {post : UInt32 → S → Prop} {px : SX → Prop} {B : S → State → Prop} {BX : String → SX → State → Prop} {AX : Nat → Prop} (hr : vx_Run p l e R s m args below meth c H locs cells slots mc ms (F0 m pc ls st0) rest (va_Qf post B A1 a) (vx_X px BX AX) free) (hS : va_S A0 H0 H locs) (hA : ∀ q, q < H.size → A1 q → A0 q) (hf : ∀ q, free q → A0 q) (hAX : ∀ q, q < H.size → AX q → A0 q)
    (kx : ∀ (E : String) (ce : Cell) (q9 : Addr) (u : SX) (t : State) (H1 : Heap) (locs1 : List Loc), t.heap = H1 → s.vm.Alike t.vm → px u → BX E u t → H.size ≤ H1.size → (∀ q : Nat, q < H.size → ¬ AX q → H1[q]? = H[q]?) → va_S A0 H0 H1 locs1 → H1[q9]? = some ce → ce.vm = .none → s.vm.findClass E = some ce.cls → vx_W p l e R s m args below meth c H1 locs1 (cells + mc) (slots + ms) Q (F0 m pc ls rest) q9)
    (kk : ∀ (r : UInt32) (u : S) (t : State) (H1 : Heap) (locs1 : List Loc), t.heap = H1 → s.vm.Alike t.vm → post r u → B u t → H.size ≤ H1.size → (∀ q : Nat, q < H.size → ¬ A1 q → H1[q]? = H[q]?) → va_S A0 H0 H1 locs1 → W p l e R s m args below meth c H1 locs1 (cells + mc) (slots + ms) Q (F0 m (pc + 3) ls (.float r :: rest))) : W p l e R s m args below meth c H locs cells slots Q (F0 m pc ls st0) := by
  intro T hT X
  rcases hr T hT X with ⟨v, st₀, t, T', L, h0, X', hL, e1, e2, ⟨⟨r, u, hv, hp, hb⟩, hF⟩, st⟩ | ⟨q, st₀, t, T', L, E, ce, h0, X', hL, e1, e2, ⟨u, hp, hb, hF⟩, hce, hcv, hcl, st⟩
  · cases hv
    obtain ⟨k1, k2, k3⟩ := vx_keep h0 e1 hS hA hf hL hF
    obtain ⟨t2, a1, b1⟩ := kk r u t T'.heap (locs ++ L) e1.symm (by rw [← e2]; exact X'.warmed.alike) hp hb k1 k2 k3 T' rfl X'
    exact ⟨t2, st t2 a1, b1⟩
  · obtain ⟨k1, k2, k3⟩ := vx_keep h0 e1 hS hAX hf hL hF
    obtain ⟨t2, a1, b1⟩ := kx E ce q u t T'.heap (locs ++ L) e1.symm (by rw [← e2]; exact X'.warmed.alike) hp hb k1 k2 k3 (by rw [e1]; exact hce) hcv hcl T' rfl X'
    exact ⟨t2, st.trans a1, b1⟩
theorem vx_calld {S SX : Type} {post : UInt64 → S → Prop} {px : SX → Prop} {B : S → State → Prop} {BX : String → SX → State → Prop} {AX : Nat → Prop} (hr : vx_Run p l e R s m args below meth c H locs cells slots mc ms (F0 m pc ls st0) rest (va_Qd post B A1 a) (vx_X px BX AX) free) (hS : va_S A0 H0 H locs) (hA : ∀ q, q < H.size → A1 q → A0 q) (hf : ∀ q, free q → A0 q) (hAX : ∀ q, q < H.size → AX q → A0 q)
    (kx : ∀ (E : String) (ce : Cell) (q9 : Addr) (u : SX) (t : State) (H1 : Heap) (locs1 : List Loc), t.heap = H1 → s.vm.Alike t.vm → px u → BX E u t → H.size ≤ H1.size → (∀ q : Nat, q < H.size → ¬ AX q → H1[q]? = H[q]?) → va_S A0 H0 H1 locs1 → H1[q9]? = some ce → ce.vm = .none → s.vm.findClass E = some ce.cls → vx_W p l e R s m args below meth c H1 locs1 (cells + mc) (slots + ms) Q (F0 m pc ls rest) q9)
    (kk : ∀ (r : UInt64) (u : S) (t : State) (H1 : Heap) (locs1 : List Loc), t.heap = H1 → s.vm.Alike t.vm → post r u → B u t → H.size ≤ H1.size → (∀ q : Nat, q < H.size → ¬ A1 q → H1[q]? = H[q]?) → va_S A0 H0 H1 locs1 → W p l e R s m args below meth c H1 locs1 (cells + mc) (slots + ms) Q (F0 m (pc + 3) ls (.double r :: rest))) : W p l e R s m args below meth c H locs cells slots Q (F0 m pc ls st0) := by
  intro T hT X
  rcases hr T hT X with ⟨v, st₀, t, T', L, h0, X', hL, e1, e2, ⟨⟨r, u, hv, hp, hb⟩, hF⟩, st⟩ | ⟨q, st₀, t, T', L, E, ce, h0, X', hL, e1, e2, ⟨u, hp, hb, hF⟩, hce, hcv, hcl, st⟩
  · cases hv
    obtain ⟨k1, k2, k3⟩ := vx_keep h0 e1 hS hA hf hL hF
    obtain ⟨t2, a1, b1⟩ := kk r u t T'.heap (locs ++ L) e1.symm (by rw [← e2]; exact X'.warmed.alike) hp hb k1 k2 k3 T' rfl X'
    exact ⟨t2, st t2 a1, b1⟩
  · obtain ⟨k1, k2, k3⟩ := vx_keep h0 e1 hS hAX hf hL hF
    obtain ⟨t2, a1, b1⟩ := kx E ce q u t T'.heap (locs ++ L) e1.symm (by rw [← e2]; exact X'.warmed.alike) hp hb k1 k2 k3 (by rw [e1]; exact hce) hcv hcl T' rfl X'
    exact ⟨t2, st.trans a1, b1⟩
theorem vx_callv {S SX : Type} {post : S → Prop} {px : SX → Prop} {B : S → State → Prop} {BX : String → SX → State → Prop} {AX : Nat → Prop} (hr : vx_Run p l e R s m args below meth c H locs cells slots mc ms (F0 m pc ls st0) rest (va_Qv post B A1 a) (vx_X px BX AX) free) (hS : va_S A0 H0 H locs) (hA : ∀ q, q < H.size → A1 q → A0 q) (hf : ∀ q, free q → A0 q) (hAX : ∀ q, q < H.size → AX q → A0 q)
    (kx : ∀ (E : String) (ce : Cell) (q9 : Addr) (u : SX) (t : State) (H1 : Heap) (locs1 : List Loc), t.heap = H1 → s.vm.Alike t.vm → px u → BX E u t → H.size ≤ H1.size → (∀ q : Nat, q < H.size → ¬ AX q → H1[q]? = H[q]?) → va_S A0 H0 H1 locs1 → H1[q9]? = some ce → ce.vm = .none → s.vm.findClass E = some ce.cls → vx_W p l e R s m args below meth c H1 locs1 (cells + mc) (slots + ms) Q (F0 m pc ls rest) q9)
    (kk : ∀ (u : S) (t : State) (H1 : Heap) (locs1 : List Loc), t.heap = H1 → s.vm.Alike t.vm → post u → B u t → H.size ≤ H1.size → (∀ q : Nat, q < H.size → ¬ A1 q → H1[q]? = H[q]?) → va_S A0 H0 H1 locs1 → W p l e R s m args below meth c H1 locs1 (cells + mc) (slots + ms) Q (F0 m (pc + 3) ls (rest))) : W p l e R s m args below meth c H locs cells slots Q (F0 m pc ls st0) := by
  intro T hT X
  rcases hr T hT X with ⟨v, st₀, t, T', L, h0, X', hL, e1, e2, ⟨⟨u, hv, hp, hb⟩, hF⟩, st⟩ | ⟨q, st₀, t, T', L, E, ce, h0, X', hL, e1, e2, ⟨u, hp, hb, hF⟩, hce, hcv, hcl, st⟩
  · cases hv
    obtain ⟨k1, k2, k3⟩ := vx_keep h0 e1 hS hA hf hL hF
    obtain ⟨t2, a1, b1⟩ := kk u t T'.heap (locs ++ L) e1.symm (by rw [← e2]; exact X'.warmed.alike) hp hb k1 k2 k3 T' rfl X'
    exact ⟨t2, st t2 a1, b1⟩
  · obtain ⟨k1, k2, k3⟩ := vx_keep h0 e1 hS hAX hf hL hF
    obtain ⟨t2, a1, b1⟩ := kx E ce q u t T'.heap (locs ++ L) e1.symm (by rw [← e2]; exact X'.warmed.alike) hp hb k1 k2 k3 (by rw [e1]; exact hce) hcv hcl T' rfl X'
    exact ⟨t2, st.trans a1, b1⟩
/-- caught by the row x of this method's table; the rows ahead don't take it -/
theorem vx_catch {own name : String} {E : String} {ce : Cell} {q : Addr} (hown : s.vm.findClass own = some m.cls) (pre : List ExceptionTableEntry) (x : ExceptionTableEntry) (suf : List ExceptionTableEntry) (hsplit : c.exceptionTable.toList = pre ++ x :: suf)
    (hpass : ∀ z ∈ pre, covers z pc = false ∨ (z.catchType ≠ 0 ∧ ∃ nm : String, (Cond.classLink own z.catchType nm).before args s = true ∧ va_Nc E nm s)) (hx : covers x pc = true) (h0 : x.catchType ≠ 0)
    (hlink : (Cond.classLink own x.catchType name).before args s = true) (hcast : (Cond.castable E name).before args s = true) (hcell : H[q]? = some ce) (hv : ce.vm = .none) (hcl : s.vm.findClass E = some ce.cls)
    (kk : W p l e R s m args below meth c H locs cells slots Q (F0 m x.handlerPc ls [.ref q])) : vx_W p l e R s m args below meth c H locs cells slots Q (F0 m pc ls rest) q := by
  intro T hT X
  have hpl : e.platform.magicAccessors = ({} : Platform).magicAccessors := by rw [X.admits.platform]
  obtain ⟨c3, c4, hc3, hc4, hasg⟩ := Cond.castable_spec hcast
  cases Option.some.inj (hc3.symm.trans hcl)
  obtain ⟨c5, hc5, hcl5⟩ := Cond.classLink_spec hown hlink e.platform hpl
  cases Option.some.inj (hc4.symm.trans hc5)
  obtain ⟨vm', X', st⟩ := Jvm.Stand.thenCaughtThrough X q (g := F0 m pc ls rest) rfl (Steps.refl _) (by rw [hT]; exact hcell) (by rw [hv]; rfl) (by obtain ⟨k9, h9, -⟩ := Vm.findClass_spec hcl; exact ⟨k9, h9⟩) pre x suf hsplit
    (fun z hz => by
      rcases hpass z hz with h | ⟨hz0, nm, hl1, hn1⟩
      · exact Or.inl h
      · obtain ⟨c6, hc6, hcl6⟩ := Cond.classLink_spec hown hl1 e.platform hpl
        obtain ⟨a8, b8, h1, h2, h3⟩ := hn1
        cases Option.some.inj (h1.symm.trans hcl)
        cases Option.some.inj (h2.symm.trans hc6)
        exact Or.inr ⟨hz0, _, hcl6, h3⟩) hx (Or.inr ⟨h0, c4, hcl5, hasg⟩)
  obtain ⟨t, a1, b1⟩ := kk (T.setVm vm') hT X'
  exact ⟨t, st.trans a1, b1⟩
end Rows
section Ends
variable {p : Program} {l : Launch} {e : Env} {R : Room} {s : State} {m : MethodId} {args : Array Value} {below : List Frame} {meth : Method} {c : Code} {H : Heap} {locs : List Loc} {cells slots : Nat} {Q : State → Prop}
variable {mc ms : Nat} {free : Addr → Prop} {A0 A1 : Nat → Prop} {H0 : Heap} {a : Array Value} {ls : Array Slot} {st0 rest : List Value}
variable {Qc : Array Value → State → Outcome → State → Prop} {XC : String → State → State → Prop}
/-- what a body that may throw owes at its end -/
def vx_MQ (below : List Frame) (Qc : Array Value → State → Outcome → State → Prop) (XC : String → State → State → Prop) (a : Array Value) (s : State) (mc ms : Nat) (free : Addr → Prop) : State → Prop := fun t =>
  ∃ o, t.status = .running ∧ Ended t below o ∧ vx_Q Qc XC mc ms free a s o t
theorem vx_ret {g : JFrame} {mc ms : Nat} (k : W p l e R s m args below meth c H locs cells slots (MQ below Qc args s mc ms free) g) : W p l e R s m args below meth c H locs cells slots (vx_MQ below Qc XC args s mc ms free) g := by
  intro T hT X
  obtain ⟨t, a1, o, b1, b2, b3, b4⟩ := k T hT X
  exact ⟨t, a1, o, b1, b2, Or.inl ⟨b3, b4⟩⟩
/-- not caught here: it goes on to the caller -/
theorem vx_widen {g : JFrame} {q : Addr} {k n : Nat} (h1 : cells ≤ k) (h2 : slots ≤ n) (kk : vx_W p l e R s m args below meth c H locs k n Q g q) : vx_W p l e R s m args below meth c H locs cells slots Q g q := fun T hT X => kk T hT (stand_widen X h1 h2)
theorem vx_out {pc : Nat} {E : String} {ce : Cell} {q : Addr} {mc ms : Nat} (hout : ∀ x ∈ c.exceptionTable.toList, covers x pc = false) (hlocks : meth.locks = false) (hcell : H[q]? = some ce) (hv : ce.vm = .none) (hcl : s.vm.findClass E = some ce.cls)
    (hx : ∀ t : State, t.heap = H → s.vm.Alike t.vm → XC E s t) (hf : ∀ z ∈ locs, free z.base) (hc : cells ≤ mc) (hs : slots ≤ ms) :
    vx_W p l e R s m args below meth c H locs cells slots (vx_MQ below Qc XC args s mc ms free) (F0 m pc ls rest) q := by
  intro T hT X
  obtain ⟨st1, hrun, hend, hW, hsm⟩ := X.leaveThrown q (g := F0 m pc ls rest) rfl rfl rfl hout hlocks
  have hcell9 : (T.setFrames (.throwing q :: below)).heap[q]? = some ce := by
    show T.heap[q]? = some ce
    rw [hT]; exact hcell
  exact ⟨_, st1, .threw q, hrun, hend, Or.inr ⟨q, rfl, E, ce, locs, hx _ hT hW.alike, hcell9, hv, hcl, hW, hsm.mono hc hs, hf⟩⟩
theorem vx_frame {U : State} {k n : Nat} (h : s.sameButNew ({ U with vm := s.vm } : State) locs k n) : s.heap.size ≤ U.heap.size ∧ ∀ q : Nat, q < s.heap.size → (∀ z ∈ locs, z.base ≠ q) → U.heap[q]? = s.heap[q]? := by
  obtain ⟨-, h2, -, -, -, h6⟩ := h
  refine ⟨h2, fun q hq hz => ?_⟩
  obtain ⟨c9, e1, e2, e3, e4⟩ := h6 q _ (Array.getElem?_eq_getElem hq)
  have hs : c9.slots = (s.heap[q]).slots := Array.ext_getElem? fun i => e4 i fun hm => hz _ hm rfl
  have h9 : c9 = s.heap[q] := by
    rw [hs] at e2
    exact e2
  have e5 : U.heap[q]? = some c9 := e1
  rw [e5, h9, Array.getElem?_eq_getElem hq]
/-- the words of a throw but the four that speak of the heap -/
def vx_no (w : Cond) : Bool := decide (w ≠ .isRef (.static Bundle.tN "UNASSIGNED_STACK" Bundle.steD)) && decide (w ≠ .isRef (.static Bundle.tN "SUPPRESSED_SENTINEL" Bundle.listD)) && decide (w ≠ .laysStatic Bundle.tN "UNASSIGNED_STACK" Bundle.steD) && decide (w ≠ .laysStatic Bundle.tN "SUPPRESSED_SENTINEL" Bundle.listD)
def vx_at0 (own : String) (ic : Nat) (X : String) (names : List String) : List Cond := (Bundle.ownAtoms0 own ic X names).filter vx_no
def vx_atS (own : String) (ic : Nat) (X : String) (names : List String) : List Cond := (Bundle.ownAtoms own ic X names).filter vx_no
/-- a word that the tables alone decide, or a good one -/
def vx_ot (w : Cond) : Bool := w.onTables || goodWord w
theorem vx_ot_at {args a' : Array Value} {s U : State} {w : Cond} (hW : s.WarmedH U.vm) (hvm : s.vm = U.vm) (hg : vx_ot w = true) (h : w.before args s = true) : w.before a' U = true := by
  simp only [vx_ot, Bool.or_eq_true] at hg
  rcases hg with hg | hg
  · exact va_tabs hg hvm h
  · exact word_at hW (good_of_word hg) h
/-- a list's words: the good ones out of the method's own list, the others by premises of their own -/
theorem vx_hat {args : Array Value} {s : State} {L B : List Cond} (h1 : ∀ w ∈ L.filter goodWord, w.before args s = true) (h2 : ∀ w ∈ L.filter (fun w => !goodWord w), w ∈ B) (h3 : ∀ w ∈ B, w.before args s = true) : ∀ w ∈ L, w.before args s = true := by
  intro w hw
  by_cases g : goodWord w = true
  · exact h1 w (List.mem_filter.mpr ⟨hw, g⟩)
  · refine h3 w (h2 w (List.mem_filter.mpr ⟨hw, ?_⟩))
    show (!goodWord w) = true
    cases hgw : goodWord w
    · rfl
    · exact absurd hgw g
theorem vx_c {args : Array Value} {s : State} {w : Cond} {B : List Cond} (h : w.before args s = true) (t : ∀ w ∈ B, w.before args s = true) : ∀ w' ∈ w :: B, w'.before args s = true := fun w' h' => (List.mem_cons.mp h').elim (fun e => by rw [e]; exact h) (t w')
theorem vx_n {args : Array Value} {s : State} : ∀ w ∈ ([] : List Cond), w.before args s = true := fun _ h => nomatch h
theorem vx_own {args : Array Value} {s : State} {L : List Cond} (h1 : ∀ w ∈ L.filter vx_no, w.before args s = true)
    (hU : (Cond.isRef (.static Bundle.tN "UNASSIGNED_STACK" Bundle.steD)).before args s = true) (hN : (Cond.isRef (.static Bundle.tN "SUPPRESSED_SENTINEL" Bundle.listD)).before args s = true)
    (lU : (Cond.laysStatic Bundle.tN "UNASSIGNED_STACK" Bundle.steD).before args s = true) (lN : (Cond.laysStatic Bundle.tN "SUPPRESSED_SENTINEL" Bundle.listD).before args s = true) : ∀ w ∈ L, w.before args s = true := by
  intro w hw
  by_cases e1 : w = .isRef (.static Bundle.tN "UNASSIGNED_STACK" Bundle.steD)
  · rw [e1]; exact hU
  · by_cases e2 : w = .isRef (.static Bundle.tN "SUPPRESSED_SENTINEL" Bundle.listD)
    · rw [e2]; exact hN
    · by_cases e3 : w = .laysStatic Bundle.tN "UNASSIGNED_STACK" Bundle.steD
      · rw [e3]; exact lU
      · by_cases e4 : w = .laysStatic Bundle.tN "SUPPRESSED_SENTINEL" Bundle.listD
        · rw [e4]; exact lN
        · exact h1 w (List.mem_filter.mpr ⟨hw, by unfold vx_no; rw [decide_eq_true e1, decide_eq_true e2, decide_eq_true e3, decide_eq_true e4]; rfl⟩)
/-- where a static field lies, its class's statics cell in H -/
def vx_L (C n d : String) (A : Nat → Prop) (U : State) (H : Heap) : Prop := ∃ (c : ClassId) (k : Class) (i : Nat) (f : Field) (a : Nat) (cell : Cell), U.vm.findClass C = some c ∧ U.fieldFound? C n d = some (c, k, i, f) ∧ f.isStatic = true ∧ k.statics = some a ∧ H[a]? = some cell ∧ cell.vm.isStatics = true ∧ cell.cls = c ∧ f.slot < cell.slots.size ∧ k.staticTypes[f.slot]? = some f.type ∧ ¬ A a
theorem vx_L.moved {C n d : String} {A : Nat → Prop} {u U : State} {H : Heap} (hvm : u.vm.Alike U.vm) (h : vx_L C n d A u H) : vx_L C n d A U H := by
  obtain ⟨c, k, i, f, a, cell, h1, h2, h3, h4, h5, h6, h7, h8, h9, h10⟩ := h
  obtain ⟨k', hi', he⟩ := State.fieldFound?_setVm hvm h2
  exact ⟨c, k', i, f, a, cell, by rw [hvm.findClass]; exact h1, hi', h3, by rw [he]; exact h4, h5, h6, h7, h8, by rw [he]; exact h9, h10⟩
theorem vx_L.kept {C n d : String} {A : Nat → Prop} {U : State} {H H1 : Heap} (h : vx_L C n d A U H) (hq : ∀ a : Nat, a < H.size → ¬ A a → H1[a]? = H[a]?) : vx_L C n d A U H1 := by
  obtain ⟨c, k, i, f, a, cell, h1, h2, h3, h4, h5, h6, h7, h8, h9, h10⟩ := h
  exact ⟨c, k, i, f, a, cell, h1, h2, h3, h4, by rw [hq a (Array.getElem?_eq_some_iff.mp h5).1 h10]; exact h5, h6, h7, h8, h9, h10⟩
theorem vx_L.narrow {C n d : String} {A B : Nat → Prop} {U : State} {H : Heap} (h : vx_L C n d A U H) (hAB : ∀ q, B q → A q) : vx_L C n d B U H := by
  obtain ⟨c, k, i, f, a, cell, h1, h2, h3, h4, h5, h6, h7, h8, h9, h10⟩ := h
  exact ⟨c, k, i, f, a, cell, h1, h2, h3, h4, h5, h6, h7, h8, h9, fun z => h10 (hAB _ z)⟩
theorem vx_L.word {C n d : String} {A : Nat → Prop} {s : State} {args : Array Value} (h : vx_L C n d A s s.heap) : (Cond.laysStatic C n d).before args s = true := by
  obtain ⟨c, k, i, f, a, cell, h1, h2, h3, h4, h5, h6, h7, h8, h9, -⟩ := h
  show (Cond.laysStatic C n d).holds args s none s [] = true
  exact Cond.laysStatic_of h1 h2 h3 h4 h5 h6 h7 h8 h9
/-- .. and what it holds: null or some reference -/
def vx_Zq (C n d : String) (A : Nat → Prop) (U : State) (H : Heap) : Prop := va_Zq C n d A U H ∧ vx_L C n d A U H
theorem vx_Zq.moved {C n d : String} {A : Nat → Prop} {u U : State} {H : Heap} (hvm : u.vm.Alike U.vm) (h : vx_Zq C n d A u H) : vx_Zq C n d A U H := ⟨va_Zq.moved hvm h.1, vx_L.moved hvm h.2⟩
theorem vx_Zq.kept {C n d : String} {A : Nat → Prop} {U : State} {H H1 : Heap} (h : vx_Zq C n d A U H) (hq : ∀ a : Nat, a < H.size → ¬ A a → H1[a]? = H[a]?) : vx_Zq C n d A U H1 := ⟨va_Zq.kept h.1 hq, vx_L.kept h.2 hq⟩
theorem vx_Zq.narrow {C n d : String} {A B : Nat → Prop} {U : State} {H : Heap} (h : vx_Zq C n d A U H) (hAB : ∀ q, B q → A q) : vx_Zq C n d B U H := ⟨va_Zq.narrow h.1 hAB, vx_L.narrow h.2 hAB⟩
theorem vx_Zqof {args : Array Value} {s : State} {C n d : String} {A : Nat → Prop} (hl : (Cond.laysStatic C n d).before args s = true) (hini : (Cond.initialized C).before args s = true) (h : (Cond.isRef (.static C n d)).before args s = true) (hA : ∀ a : Nat, a < s.heap.size → ¬ A a) : vx_Zq C n d A s s.heap := by
  refine ⟨va_Zqof hl hini h hA, ?_⟩
  obtain ⟨c, k, i, f, a, cell, h1, h2, h3, h4, h5, h6, h7, h8, h9⟩ := Cond.laysStatic_spec hl
  exact ⟨c, k, i, f, a, cell, h1, h2, h3, h4, h5, h6, h7, h8, h9, hA a (Array.getElem?_eq_some_iff.mp h5).1⟩
theorem vx_isRef {C n d : String} {v : Value} {A : Nat → Prop} {s : State} {args : Array Value} (h : va_Z C n d v A s s.heap) (hv : v.isRef = true) : (Cond.isRef (.static C n d)).before args s = true := by
  obtain ⟨cf, kf, fi, f, a, cell, h1, h2, h3, h4, h5, h6, h7, -⟩ := h
  have he : (Term.static C n d).eval args s none [] s = some v := by
    simp [Term.eval, State.fieldNamed?, h1, h2, h4, h5, h6, h7]
  simp only [Cond.before, Cond.holds, Cond.value, he]
  cases v <;> simp_all [Value.isRef]
theorem vx_isRefq {C n d : String} {A : Nat → Prop} {s : State} {args : Array Value} (h : va_Zq C n d A s s.heap) : (Cond.isRef (.static C n d)).before args s = true := by
  rcases h with h | ⟨t, h⟩
  · exact vx_isRef h rfl
  · exact vx_isRef h rfl
/-- the same frame, seen from here: as if the method were called anew in this heap -/
theorem vx_rebase {T : State} (X : Stand p l e R s m args below meth c T locs cells slots) {R' : Room} (hf : R'.frames ≤ R.frames) (hl : R'.locals ≤ R.locals) (hc : cells + R'.cells ≤ R.cells) (hs : slots + R'.slots ≤ R.slots) :
    Stand p l e R' ((T.setVm s.vm).setFrames (.invoking m args :: below)) m args below meth c T [] 0 0 := by
  have htop : (T.setVm s.vm).topJava?.isSome := X.here.top
  have hF : ((T.setVm s.vm).setFrames (.invoking m args :: below)).frames = .invoking m args :: below := State.frames_setFrames _ (State.cur_lt_of_top htop)
  obtain ⟨g₀, hg0⟩ := Option.isSome_iff_exists.mp htop
  obtain ⟨r, hr⟩ := State.topJava?_eq_some.mp hg0
  have hl9 : e.platform.stackLimits (T.setVm s.vm).me = e.platform.stackLimits s.me := X.limits
  have hb9 : (T.setVm s.vm).me.stackBytes = s.me.stackBytes := X.bytes
  refine ⟨X.admits, X.cas, X.clock, hF, ?_, X.hears, X.method, X.code, X.here, X.tail, X.warmed, ?_, ?_, ?_⟩
  · have h := X.room
    have hU : ((T.setVm s.vm).setFrames (.invoking m args :: below)).localsInUse = s.localsInUse := by
      rw [State.localsInUse_invoking hF (meth := meth) (c := c) X.method X.code, State.localsInUse_invoking X.frames X.method X.code]
    simp only [State.hasRoom, Bool.and_eq_true, decide_eq_true_eq] at h ⊢
    obtain ⟨⟨⟨⟨h1, h2, h3, h4, h5, h6⟩, h7⟩, h8⟩, h9⟩ := h
    rw [X.frames, List.length_cons] at h2 h3
    have q1 := X.heapSize
    have q2 := X.used
    simp only [hF, hU, List.length_cons, State.stackLimits_setFrames, State.stackBytes_setFrames, hl9, hb9]
    refine ⟨⟨⟨⟨by omega, by omega, by omega, by omega, by omega, h6⟩, ?_⟩, ?_⟩, X.book⟩
    · show T.heap.size + R'.cells ≤ e.platform.maxCells
      omega
    · show T.slotsUsed + R'.slots ≤ e.platform.maxSlots
      omega
  · rw [State.stackLimits_setFrames]; rfl
  · rw [State.stackBytes_setFrames]; rfl
  · refine ⟨?_, Nat.le_refl _, Nat.le_refl _, ?_, ?_, fun a c9 h9 => ⟨c9, h9, rfl, rfl, fun _ _ => rfl⟩⟩
    · obtain ⟨t, ht, -⟩ := State.frames_cons hr
      show T.setVm s.vm = { ((T.setVm s.vm).setFrames (.invoking m args :: below)).setFrames (T.setVm s.vm).frames with heap := T.heap, slotsUsed := T.slotsUsed }
      rw [State.setFrames_setFrames, State.setFrames_self ht]
      rfl
    · show T.slotsUsed = T.slotsUsed + ((T.heap.toList.drop T.heap.size).map (·.slots.size)).sum
      rw [List.drop_eq_nil_of_le (Nat.le_of_eq Array.length_toList)]
      rfl
    · show ((T.heap.toList.drop T.heap.size).map (·.slots.size)).sum ≤ 0
      rw [List.drop_eq_nil_of_le (Nat.le_of_eq Array.length_toList)]
      exact Nat.le_refl _
/-- 'throw new E()': new; dup; invokespecial; athrow -/
theorem vx_throw0 {cc : ByteArray} {pc : Nat} (hexec : p.tables.exec = Jvm.exec) (hb : c.code = cc) (hl : l.stackTraces = false) {own cls : String} {names : List String} {ik ic mc ms : Nat} {A : Nat → Prop}
    (hown : s.vm.findClass own = some m.cls) (hcls : Bundle.fit cls = true) (hnames : ∀ n ∈ names, Bundle.fit n = true)
    (hk : (Cond.classLink own ik cls).before args s = true) (hini : (Cond.initialized cls).before args s = true) (hat : ∀ w ∈ vx_at0 own ic cls names, w.before args s = true)
    (hgood : ∀ w ∈ Cond.classLink own ik cls :: Cond.initialized cls :: vx_at0 own ic cls names, vx_ot w = true)
    (hU : vx_Zq Bundle.tN "UNASSIGNED_STACK" Bundle.steD A s s.heap) (hN : vx_Zq Bundle.tN "SUPPRESSED_SENTINEL" Bundle.listD A s s.heap) (hS : va_S A s.heap H locs) (hsize : ls.size = c.maxLocals)
    (d0 : decode cc pc = .ok (.new ik, 3)) (d3 : decode cc (pc + 3) = .ok (.dup, 1)) (d4 : decode cc (pc + 4) = .ok (.invokespecial ic, 3)) (d7 : decode cc (pc + 7) = .ok (.athrow, 1))
    (hout : ∀ x ∈ c.exceptionTable.toList, covers x (pc + 7) = false)
    (hRframes : names.length + 3 < R.frames) (hRlocals : (rest.map fun v => v.category).sum + (13 * (names.length + 1) + 42) ≤ R.locals) (hRcells : cells + 1 ≤ R.cells) (hRslots : slots + 6 ≤ R.slots) (hlocks : meth.locks = false)
    (hx : ∀ t : State, s.vm.Alike t.vm → H.size ≤ t.heap.size → (∀ q : Nat, q < H.size → t.heap[q]? = H[q]?) → XC cls s t)
    (hf : ∀ z ∈ locs, free z.base) (hc : cells + 1 ≤ mc) (hs : slots + 6 ≤ ms) :
    W p l e R s m args below meth c H locs cells slots (vx_MQ below Qc XC args s mc ms free) (F0 m pc ls rest) := by
  intro T hT X
  have htr : e.platform.stackTraces = false := (show e.platform.stackTraces = l.stackTraces by rw [X.admits.platform]).trans hl
  have Y := vx_rebase X (R' := { frames := R.frames, locals := R.locals, cells := 1, slots := 6 }) (Nat.le_refl _) (Nat.le_refl _) hRcells hRslots
  obtain ⟨s', hA⟩ : ∃ z, z = (T.setVm s.vm).setFrames (.invoking m args :: below) := ⟨_, rfl⟩
  rw [← hA] at Y
  have hvm : s'.vm = s.vm := by rw [hA]; rfl
  have hhp : s'.heap = H := by rw [hA]; exact hT
  have hW0 : s.WarmedH s'.vm := by rw [hvm]; exact State.WarmedH.refl s
  have hat' : ∀ w ∈ vx_at0 own ic cls names, w.before args s' = true := fun w hw => vx_ot_at hW0 hvm.symm (hgood w (List.mem_cons_of_mem _ (List.mem_cons_of_mem _ hw))) (hat w hw)
  have hk' : (Cond.classLink own ik cls).before args s' = true := vx_ot_at hW0 hvm.symm (hgood _ List.mem_cons_self) hk
  have hini' : (Cond.initialized cls).before args s' = true := vx_ot_at hW0 hvm.symm (hgood _ (List.mem_cons_of_mem _ List.mem_cons_self)) hini
  have hU' : vx_Zq Bundle.tN "UNASSIGNED_STACK" Bundle.steD A s' s'.heap := by rw [hhp]; exact vx_Zq.moved hW0.alike (hU.kept hS.2.1)
  have hN' : vx_Zq Bundle.tN "SUPPRESSED_SENTINEL" Bundle.listD A s' s'.heap := by rw [hhp]; exact vx_Zq.moved hW0.alike (hN.kept hS.2.1)
  have h : ∀ w ∈ Bundle.ownAtoms0 own ic cls names, w.before args s' = true := vx_own hat' (vx_isRefq hU'.1) (vx_isRefq hN'.1) hU'.2.word hN'.2.word
  have hown' : s'.vm.findClass own = some m.cls := by rw [hvm]; exact hown
  have hins : (Cond.instantiable cls 6).before args s' = true := h _ (by simp [Bundle.ownAtoms0])
  obtain ⟨vm₁, cX, kX, hfX, hkX, -, -, X₁, st1⟩ := Y.newCold hexec (own := own) (C := cls) (index := ik) (n := 6) hown' hk' hins hini'
    (g := F0 m pc ls rest) rfl (by rw [hb]; exact d0) (Nat.le_refl _) (Nat.le_refl _)
  generalize hT1 : (T.setVm vm₁).pushCell { cls := cX, slots := kX.instanceTypes.map defaultValue, vm := .none } = T1 at X₁ st1
  have hcat : (Value.ref T.heap.size).category = 1 := rfl
  have hcellA : T1.heap[T.heap.size]? = some (freshCell cX kX) := by rw [← hT1]; exact State.heap_pushCell_size _ _
  have d3' : decode c.code (pc + 3) = .ok (.dup, 1) := by rw [hb]; exact d3
  obtain ⟨U, hsteps, hrun, hend, hW, hsame, ce, hce, hO⟩ := X₁.ctorThrow0 hexec htr (own := own) (cls := cls) (names := names) (ic := ic) hown' hcls hnames h (fun x hx => nomatch hx) hfX hkX hcellA (by rw [hhp, hT]; exact Nat.le_refl _)
    (g := { method := m, pc := pc + 4, locals := ls, stack := .ref T.heap.size :: .ref T.heap.size :: rest, locked := none }) rfl hsize rfl rfl (rest := rest) rfl
    (by rw [hb]; exact d4) (by rw [hb]; exact d7) hout hRframes (by simp only [List.map_cons, List.sum_cons, hcat]; omega) hlocks
  obtain ⟨f1, f2⟩ := vx_frame hsame
  rw [hhp] at f1 f2
  have hWs : s.WarmedH U.vm := State.WarmedH.trans hW0 hW
  have hcl : s.vm.findClass cls = some ce.cls := by
    have h9 := hO.cls
    rw [hvm] at h9
    exact h9
  have hall : s.sameButNew ({ U with vm := s.vm } : State) locs mc ms := by
    subst hA
    obtain ⟨e1, e2⟩ := hsame
    rw [State.setFrames_setFrames] at e1
    have h2 : (T.setVm s.vm).sameButNew ({ U with vm := s.vm } : State) [] (0 + 1) (0 + 6) := ⟨e1, e2⟩
    have h3 := X.same.trans h2
    rw [List.append_nil] at h3
    exact h3.mono hc hs
  refine ⟨U, ?_, .threw T.heap.size, hrun, hend, Or.inr ⟨T.heap.size, rfl, cls, ce, locs, hx U hWs.alike f1 (fun q hq => f2 q hq (fun z hz => nomatch hz)), hce, hO.vm, hcl, hWs, hall, hf⟩⟩
  refine st1 _ ?_
  show Steps p.tables e below (T1.setTop { method := m, pc := pc + 3, locals := ls, stack := .ref T.heap.size :: rest, locked := none }) _
  jvm_step X₁.here [X₁.here.top, hexec, d3', Value.category]
  exact hsteps
/-- 'throw new E("text")': new; dup; ldc; invokespecial; athrow -/
theorem vx_throwS {cc : ByteArray} {pc : Nat} (hexec : p.tables.exec = Jvm.exec) (hb : c.code = cc) (hl : l.stackTraces = false) {own cls text : String} {names : List String} {ik is ic mc ms sa : Nat} {A : Nat → Prop}
    (hown : s.vm.findClass own = some m.cls) (hcls : Bundle.fit cls = true) (hnames : ∀ n ∈ names, Bundle.fit n = true)
    (hk : (Cond.classLink own ik cls).before args s = true) (hini : (Cond.initialized cls).before args s = true) (hstr : vk_R own is text sa s) (hat : ∀ w ∈ vx_atS own ic cls names, w.before args s = true)
    (hgood : ∀ w ∈ Cond.classLink own ik cls :: Cond.initialized cls :: vx_atS own ic cls names, vx_ot w = true)
    (hU : vx_Zq Bundle.tN "UNASSIGNED_STACK" Bundle.steD A s s.heap) (hN : vx_Zq Bundle.tN "SUPPRESSED_SENTINEL" Bundle.listD A s s.heap) (hS : va_S A s.heap H locs) (hsize : ls.size = c.maxLocals)
    (d0 : decode cc pc = .ok (.new ik, 3)) (d3 : decode cc (pc + 3) = .ok (.dup, 1)) (d4 : decode cc (pc + 4) = .ok (.ldc is, 2)) (d6 : decode cc (pc + 6) = .ok (.invokespecial ic, 3)) (d9 : decode cc (pc + 9) = .ok (.athrow, 1))
    (hout : ∀ x ∈ c.exceptionTable.toList, covers x (pc + 9) = false)
    (hRframes : names.length + 3 < R.frames) (hRlocals : (rest.map fun v => v.category).sum + (13 * (names.length + 1) + 43) ≤ R.locals) (hRcells : cells + 1 ≤ R.cells) (hRslots : slots + 6 ≤ R.slots) (hlocks : meth.locks = false)
    (hx : ∀ t : State, s.vm.Alike t.vm → H.size ≤ t.heap.size → (∀ q : Nat, q < H.size → t.heap[q]? = H[q]?) → XC cls s t)
    (hf : ∀ z ∈ locs, free z.base) (hc : cells + 1 ≤ mc) (hs : slots + 6 ≤ ms) :
    W p l e R s m args below meth c H locs cells slots (vx_MQ below Qc XC args s mc ms free) (F0 m pc ls rest) := by
  intro T hT X
  have htr : e.platform.stackTraces = false := (show e.platform.stackTraces = l.stackTraces by rw [X.admits.platform]).trans hl
  have Y := vx_rebase X (R' := { frames := R.frames, locals := R.locals, cells := 1, slots := 6 }) (Nat.le_refl _) (Nat.le_refl _) hRcells hRslots
  obtain ⟨s', hA⟩ : ∃ z, z = (T.setVm s.vm).setFrames (.invoking m args :: below) := ⟨_, rfl⟩
  rw [← hA] at Y
  have hvm : s'.vm = s.vm := by rw [hA]; rfl
  have hhp : s'.heap = H := by rw [hA]; exact hT
  have hW0 : s.WarmedH s'.vm := by rw [hvm]; exact State.WarmedH.refl s
  have hat' : ∀ w ∈ vx_atS own ic cls names, w.before args s' = true := fun w hw => vx_ot_at hW0 hvm.symm (hgood w (List.mem_cons_of_mem _ (List.mem_cons_of_mem _ hw))) (hat w hw)
  have hk' : (Cond.classLink own ik cls).before args s' = true := vx_ot_at hW0 hvm.symm (hgood _ List.mem_cons_self) hk
  have hini' : (Cond.initialized cls).before args s' = true := vx_ot_at hW0 hvm.symm (hgood _ (List.mem_cons_of_mem _ List.mem_cons_self)) hini
  have hU' : vx_Zq Bundle.tN "UNASSIGNED_STACK" Bundle.steD A s' s'.heap := by rw [hhp]; exact vx_Zq.moved hW0.alike (hU.kept hS.2.1)
  have hN' : vx_Zq Bundle.tN "SUPPRESSED_SENTINEL" Bundle.listD A s' s'.heap := by rw [hhp]; exact vx_Zq.moved hW0.alike (hN.kept hS.2.1)
  have h : ∀ w ∈ Bundle.ownAtoms own ic cls names, w.before args s' = true := vx_own hat' (vx_isRefq hU'.1) (vx_isRefq hN'.1) hU'.2.word hN'.2.word
  have hown' : s'.vm.findClass own = some m.cls := by rw [hvm]; exact hown
  have hins : (Cond.instantiable cls 6).before args s' = true := h _ (by simp [Bundle.ownAtoms])
  obtain ⟨vm₁, cX, kX, hfX, hkX, -, -, X₁, st1⟩ := Y.newCold hexec (own := own) (C := cls) (index := ik) (n := 6) hown' hk' hins hini'
    (g := F0 m pc ls rest) rfl (by rw [hb]; exact d0) (Nat.le_refl _) (Nat.le_refl _)
  generalize hT1 : (T.setVm vm₁).pushCell { cls := cX, slots := kX.instanceTypes.map defaultValue, vm := .none } = T1 at X₁ st1
  have hcat : (Value.ref T.heap.size).category = 1 := rfl
  have hcellA : T1.heap[T.heap.size]? = some (freshCell cX kX) := by rw [← hT1]; exact State.heap_pushCell_size _ _
  have d3' : decode c.code (pc + 3) = .ok (.dup, 1) := by rw [hb]; exact d3
  have d4' : decode c.code (pc + 4) = .ok (.ldc is, 2) := by rw [hb]; exact d4
  have hstr' : vk_R own is text sa s' := vk_R.warm hW0 hstr
  obtain ⟨U, hsteps, hrun, hend, hW, hsame, ce, hce, hO⟩ := X₁.ctorThrowS hexec htr (own := own) (cls := cls) (names := names) (ic := ic) hown' hcls hnames h (fun x hx => nomatch hx) hfX hkX hcellA (by rw [hhp, hT]; exact Nat.le_refl _) (msg := .ref sa) rfl
    (g := { method := m, pc := pc + 6, locals := ls, stack := .ref sa :: .ref T.heap.size :: .ref T.heap.size :: rest, locked := none }) rfl hsize rfl rfl (rest := rest) rfl
    (by rw [hb]; exact d6) (by rw [hb]; exact d9) hout hRframes (by simp only [List.map_cons, List.sum_cons, hcat]; omega) hlocks
  obtain ⟨f1, f2⟩ := vx_frame hsame
  rw [hhp] at f1 f2
  have hWs : s.WarmedH U.vm := State.WarmedH.trans hW0 hW
  have hcl : s.vm.findClass cls = some ce.cls := by
    have h9 := hO.cls
    rw [hvm] at h9
    exact h9
  have hall : s.sameButNew ({ U with vm := s.vm } : State) locs mc ms := by
    subst hA
    obtain ⟨e1, e2⟩ := hsame
    rw [State.setFrames_setFrames] at e1
    have h2 : (T.setVm s.vm).sameButNew ({ U with vm := s.vm } : State) [] (0 + 1) (0 + 6) := ⟨e1, e2⟩
    have h3 := X.same.trans h2
    rw [List.append_nil] at h3
    exact h3.mono hc hs
  refine ⟨U, ?_, .threw T.heap.size, hrun, hend, Or.inr ⟨T.heap.size, rfl, cls, ce, locs, hx U hWs.alike f1 (fun q hq => f2 q hq (fun z hz => nomatch hz)), hce, hO.vm, hcl, hWs, hall, hf⟩⟩
  refine st1 _ ?_
  show Steps p.tables e below (T1.setTop { method := m, pc := pc + 3, locals := ls, stack := .ref T.heap.size :: rest, locked := none }) _
  jvm_step X₁.here [X₁.here.top, hexec, d3', Value.category]
  exact X₁.ldcString hexec (own := own) (text := text) (index := is) (a := sa) hown' hstr'.1 hstr'.2
    (g := { method := m, pc := pc + 4, locals := ls, stack := .ref T.heap.size :: .ref T.heap.size :: rest, locked := none }) rfl d4' _ hsteps
/-- 'throw new E("text")', the text by a wide index -/
theorem vx_throwSW {cc : ByteArray} {pc : Nat} (hexec : p.tables.exec = Jvm.exec) (hb : c.code = cc) (hl : l.stackTraces = false) {own cls text : String} {names : List String} {ik is ic mc ms sa : Nat} {A : Nat → Prop}
    (hown : s.vm.findClass own = some m.cls) (hcls : Bundle.fit cls = true) (hnames : ∀ n ∈ names, Bundle.fit n = true)
    (hk : (Cond.classLink own ik cls).before args s = true) (hini : (Cond.initialized cls).before args s = true) (hstr : vk_R own is text sa s) (hat : ∀ w ∈ vx_atS own ic cls names, w.before args s = true)
    (hgood : ∀ w ∈ Cond.classLink own ik cls :: Cond.initialized cls :: vx_atS own ic cls names, vx_ot w = true)
    (hU : vx_Zq Bundle.tN "UNASSIGNED_STACK" Bundle.steD A s s.heap) (hN : vx_Zq Bundle.tN "SUPPRESSED_SENTINEL" Bundle.listD A s s.heap) (hS : va_S A s.heap H locs) (hsize : ls.size = c.maxLocals)
    (d0 : decode cc pc = .ok (.new ik, 3)) (d3 : decode cc (pc + 3) = .ok (.dup, 1)) (d4 : decode cc (pc + 4) = .ok (.ldc_w is, 3)) (d7 : decode cc (pc + 7) = .ok (.invokespecial ic, 3)) (d10 : decode cc (pc + 10) = .ok (.athrow, 1))
    (hout : ∀ x ∈ c.exceptionTable.toList, covers x (pc + 10) = false)
    (hRframes : names.length + 3 < R.frames) (hRlocals : (rest.map fun v => v.category).sum + (13 * (names.length + 1) + 43) ≤ R.locals) (hRcells : cells + 1 ≤ R.cells) (hRslots : slots + 6 ≤ R.slots) (hlocks : meth.locks = false)
    (hx : ∀ t : State, s.vm.Alike t.vm → H.size ≤ t.heap.size → (∀ q : Nat, q < H.size → t.heap[q]? = H[q]?) → XC cls s t)
    (hf : ∀ z ∈ locs, free z.base) (hc : cells + 1 ≤ mc) (hs : slots + 6 ≤ ms) :
    W p l e R s m args below meth c H locs cells slots (vx_MQ below Qc XC args s mc ms free) (F0 m pc ls rest) := by
  intro T hT X
  have htr : e.platform.stackTraces = false := (show e.platform.stackTraces = l.stackTraces by rw [X.admits.platform]).trans hl
  have Y := vx_rebase X (R' := { frames := R.frames, locals := R.locals, cells := 1, slots := 6 }) (Nat.le_refl _) (Nat.le_refl _) hRcells hRslots
  obtain ⟨s', hA⟩ : ∃ z, z = (T.setVm s.vm).setFrames (.invoking m args :: below) := ⟨_, rfl⟩
  rw [← hA] at Y
  have hvm : s'.vm = s.vm := by rw [hA]; rfl
  have hhp : s'.heap = H := by rw [hA]; exact hT
  have hW0 : s.WarmedH s'.vm := by rw [hvm]; exact State.WarmedH.refl s
  have hat' : ∀ w ∈ vx_atS own ic cls names, w.before args s' = true := fun w hw => vx_ot_at hW0 hvm.symm (hgood w (List.mem_cons_of_mem _ (List.mem_cons_of_mem _ hw))) (hat w hw)
  have hk' : (Cond.classLink own ik cls).before args s' = true := vx_ot_at hW0 hvm.symm (hgood _ List.mem_cons_self) hk
  have hini' : (Cond.initialized cls).before args s' = true := vx_ot_at hW0 hvm.symm (hgood _ (List.mem_cons_of_mem _ List.mem_cons_self)) hini
  have hU' : vx_Zq Bundle.tN "UNASSIGNED_STACK" Bundle.steD A s' s'.heap := by rw [hhp]; exact vx_Zq.moved hW0.alike (hU.kept hS.2.1)
  have hN' : vx_Zq Bundle.tN "SUPPRESSED_SENTINEL" Bundle.listD A s' s'.heap := by rw [hhp]; exact vx_Zq.moved hW0.alike (hN.kept hS.2.1)
  have h : ∀ w ∈ Bundle.ownAtoms own ic cls names, w.before args s' = true := vx_own hat' (vx_isRefq hU'.1) (vx_isRefq hN'.1) hU'.2.word hN'.2.word
  have hown' : s'.vm.findClass own = some m.cls := by rw [hvm]; exact hown
  have hins : (Cond.instantiable cls 6).before args s' = true := h _ (by simp [Bundle.ownAtoms])
  obtain ⟨vm₁, cX, kX, hfX, hkX, -, -, X₁, st1⟩ := Y.newCold hexec (own := own) (C := cls) (index := ik) (n := 6) hown' hk' hins hini'
    (g := F0 m pc ls rest) rfl (by rw [hb]; exact d0) (Nat.le_refl _) (Nat.le_refl _)
  generalize hT1 : (T.setVm vm₁).pushCell { cls := cX, slots := kX.instanceTypes.map defaultValue, vm := .none } = T1 at X₁ st1
  have hcat : (Value.ref T.heap.size).category = 1 := rfl
  have hcellA : T1.heap[T.heap.size]? = some (freshCell cX kX) := by rw [← hT1]; exact State.heap_pushCell_size _ _
  have d3' : decode c.code (pc + 3) = .ok (.dup, 1) := by rw [hb]; exact d3
  have d4' : decode c.code (pc + 4) = .ok (.ldc_w is, 3) := by rw [hb]; exact d4
  have hstr' : vk_R own is text sa s' := vk_R.warm hW0 hstr
  obtain ⟨U, hsteps, hrun, hend, hW, hsame, ce, hce, hO⟩ := X₁.ctorThrowS hexec htr (own := own) (cls := cls) (names := names) (ic := ic) hown' hcls hnames h (fun x hx => nomatch hx) hfX hkX hcellA (by rw [hhp, hT]; exact Nat.le_refl _) (msg := .ref sa) rfl
    (g := { method := m, pc := pc + 7, locals := ls, stack := .ref sa :: .ref T.heap.size :: .ref T.heap.size :: rest, locked := none }) rfl hsize rfl rfl (rest := rest) rfl
    (by rw [hb]; exact d7) (by rw [hb]; exact d10) hout hRframes (by simp only [List.map_cons, List.sum_cons, hcat]; omega) hlocks
  obtain ⟨f1, f2⟩ := vx_frame hsame
  rw [hhp] at f1 f2
  have hWs : s.WarmedH U.vm := State.WarmedH.trans hW0 hW
  have hcl : s.vm.findClass cls = some ce.cls := by
    have h9 := hO.cls
    rw [hvm] at h9
    exact h9
  have hall : s.sameButNew ({ U with vm := s.vm } : State) locs mc ms := by
    subst hA
    obtain ⟨e1, e2⟩ := hsame
    rw [State.setFrames_setFrames] at e1
    have h2 : (T.setVm s.vm).sameButNew ({ U with vm := s.vm } : State) [] (0 + 1) (0 + 6) := ⟨e1, e2⟩
    have h3 := X.same.trans h2
    rw [List.append_nil] at h3
    exact h3.mono hc hs
  refine ⟨U, ?_, .threw T.heap.size, hrun, hend, Or.inr ⟨T.heap.size, rfl, cls, ce, locs, hx U hWs.alike f1 (fun q hq => f2 q hq (fun z hz => nomatch hz)), hce, hO.vm, hcl, hWs, hall, hf⟩⟩
  refine st1 _ ?_
  show Steps p.tables e below (T1.setTop { method := m, pc := pc + 3, locals := ls, stack := .ref T.heap.size :: rest, locked := none }) _
  jvm_step X₁.here [X₁.here.top, hexec, d3', Value.category]
  exact X₁.ldcStringW hexec (own := own) (text := text) (index := is) (a := sa) hown' hstr'.1 hstr'.2
    (g := { method := m, pc := pc + 4, locals := ls, stack := .ref T.heap.size :: .ref T.heap.size :: rest, locked := none }) rfl d4' _ hsteps
end Ends
section Bodies
variable {l : Launch}
theorem vx_ofW {y : MethodName} {ws ws' : List Cond} {rm : Room} {Pc : Array Value → State → Prop} {Qc : Array Value → State → Outcome → State → Prop} {XC : String → State → State → Prop} {mc ms : Nat} {free : Addr → Prop} {cc : ByteArray} {maxL : Nat} {ret : Option FieldType}
    (hy : plainName y.cls = true) (hw : ws = Cond.code y cc maxL ret :: ws')
    (body : ∀ p e s m args below meth c s₁, BodyLoose p l y (headSpec ws rm) cc maxL ret e s m args below meth c s₁ → c.maxLocals = maxL → (∀ x ∈ c.exceptionTable.toList, False) → Pc args s →
      W p l e (headSpec ws rm).room s m args below meth c s.heap [] 0 0 (vx_MQ below Qc XC args s mc ms free) (entryFrame m args maxL)) : vx_Met l y ws rm Pc Qc XC mc ms free := by
  refine MetFree.of_bodyS (code := cc) (maxLocals := maxL) (ret := ret) hy ?_ ?_
  · intro args s m h hn
    obtain ⟨meth, c, h1, h2, h3, h4, h5, h6, -, -⟩ := Cond.code_spec hn (atoms_spec (ws := ws) h _ (by rw [hw]; exact List.mem_cons_self))
    exact ⟨meth, c, h1, h2, h3, h4, h5, h6⟩
  · intro p e s m args below meth c s₁ B hml hP _
    have hh0 : s₁.heap = s.heap := by rw [B.state]; rfl
    have ht : ∀ x ∈ c.exceptionTable.toList, False := by
      obtain ⟨meth9, c9, h1, h2, -, -, -, -, h7, -⟩ := Cond.code_spec B.named (atoms_spec (ws := ws) B.pre _ (by rw [hw]; exact List.mem_cons_self))
      cases Option.some.inj (h1.symm.trans B.method)
      cases Option.some.inj (h2.symm.trans (Stand.of_body B).code)
      intro x hx
      rw [Array.isEmpty_iff.mp h7] at hx
      cases hx
    obtain ⟨t, a1, o, b1, b2, b3⟩ := body p e s m args below meth c s₁ B hml ht hP s₁ hh0 (Stand.of_body B)
    exact ⟨t, o, a1, b1, b2, b3⟩
/-- the table of a body with handlers -/
theorem vx_table {p : Program} {x y : MethodName} {S : Spec} {cc bytes : ByteArray} {maxL maxL' : Nat} {ret ret' : Option FieldType} {e : Env} {s s₁ : State} {m : MethodId} {args : Array Value} {below : List Frame} {meth : Method} {c : Code} {hh : List (Nat × Nat × Nat × Nat)}
    (B : BodyLoose p l y S cc maxL ret e s m args below meth c s₁) (h : (Cond.codeWith y bytes maxL' ret' hh).before args s = true) : c.exceptionTable.toList = tableOf hh := by
  obtain ⟨m9, meth9, c9, hn9, h1, h2, -, -, h6, -⟩ := Cond.codeWith_spec h
  cases Option.some.inj (hn9.symm.trans B.named)
  cases Option.some.inj (h1.symm.trans B.method)
  cases Option.some.inj (h2.symm.trans (Stand.of_body B).code)
  rw [← h6, table_eq]
end Bodies
end VXA
/-! ===== END ===== -/
/-! ===== BEGIN a static call of a method with an exception table ===== -/
section VXS
variable {p : Program} {l : Launch} {e : Env} {R : Room} {s : State} {m : MethodId} {args : Array Value} {below : List Frame} {meth : Method} {c : Code} {T : State} {H : Heap} {locs : List Loc} {cells slots : Nat}
abbrev vx_CSW (R : Room) (s : State) (args : Array Value) (own : String) (index : Nat) (y : MethodName) (bytes : ByteArray) (maxL : Nat) (ret : Option FieldType) (hh : List (Nat × Nat × Nat × Nat)) (ws : List Cond) (rm : Room) (mc ms n : Nat) : Prop :=
  (rm.cells = mc ∧ rm.slots = ms ∧ rm.frames + 1 ≤ R.frames ∧ 8 + (maxL + 11) + rm.locals ≤ R.locals ∧ (∀ w ∈ ws, ∀ (a' : Array Value) (U : State), s.WarmedH U.vm → w.before a' U = true) ∧ Cond.codeWith y bytes maxL ret hh ∈ ws) ∧
  (Cond.codeWith y bytes maxL ret hh).before args s = true ∧ (Cond.initialized y.cls).before args s = true ∧ (y.cls ≠ "java/lang/invoke/MethodHandle" ∧ y.cls ≠ "java/lang/invoke/VarHandle") ∧
  (∀ sig, parseMethodDescriptor y.desc = some sig → n = sig.parameters.length) ∧ (Cond.methodLink own index y).before args s = true ∧ (Cond.static y).before args s = true
theorem vx_cwSW {own : String} {index maxL mc ms : Nat} {y : MethodName} {bytes : ByteArray} {ret : Option FieldType} {hh : List (Nat × Nat × Nat × Nat)} {Ts ws ws' : List Cond} {rm : Room} (n : Nat) (ht : ∀ w ∈ Ts, w.before args s = true) (hT : GoodIn Ts (va_wsS own index y ws)) (hw : ws = Cond.codeWith y bytes maxL ret hh :: ws') (hrc : rm.cells = mc) (hrs : rm.slots = ms)
    (hd : y.cls ≠ "java/lang/invoke/MethodHandle" ∧ y.cls ≠ "java/lang/invoke/VarHandle" ∧ (parseMethodDescriptor y.desc).map (fun d => d.parameters.length) = some n) (hR : rm.frames + 1 ≤ R.frames ∧ 8 + (maxL + 11) + rm.locals ≤ R.locals) :
    vx_CSW R s args own index y bytes maxL ret hh ws rm mc ms n := by
  have ok : ∀ w ∈ va_wsS own index y ws, w.before args s = true := fun w h => ht w (hT w h).1
  have hG : GoodIn Ts ws := fun w h => hT w (by unfold va_wsS; exact List.mem_append_right _ h)
  have hc : Cond.codeWith y bytes maxL ret hh ∈ ws := by rw [hw]; exact List.mem_cons_self
  refine ⟨⟨hrc, hrs, hR.1, hR.2, pay_in ht hG, hc⟩, ht _ (hG _ hc).1, ok _ (by simp [va_wsS]), ⟨hd.1, hd.2.1⟩, fun sig h => ?_, ok _ (by simp [va_wsS]), ok _ (by simp [va_wsS])⟩
  have h2 := hd.2.2
  rw [h] at h2
  exact (Option.some.inj h2).symm
theorem vx_callSW (X : Stand p l e R s m args below meth c T locs cells slots) (hexec : p.tables.exec = Jvm.exec) {own : String} {index : Nat} {y : MethodName} {bytes : ByteArray} {maxL : Nat} {ret : Option FieldType} {hh : List (Nat × Nat × Nat × Nat)}
    (hown : s.vm.findClass own = some m.cls) (hlink : (Cond.methodLink own index y).before args s = true) (hstat : (Cond.static y).before args s = true) (hinit : (Cond.initialized y.cls).before args s = true)
    (hcode : (Cond.codeWith y bytes maxL ret hh).before args s = true) (hy : y.cls ≠ "java/lang/invoke/MethodHandle" ∧ y.cls ≠ "java/lang/invoke/VarHandle")
    {W9 : Nat} {Pre : Pt → Array Value → Prop} {Post : Pt → Array Value → Option Value → Pt → Prop} (hK : Back l R p e below s args y 3 W9 Pre Post)
    {g : JFrame} (hg : g.method = m) (hsize : g.locals.size = c.maxLocals) {argsL rest : List Value} (hlen : ∀ sig, parseMethodDescriptor y.desc = some sig → argsL.length = sig.parameters.length)
    (hstack : g.stack = argsL.reverse ++ rest) (hW : 2 * g.monitorRoom + (rest.map fun v => v.category).sum ≤ W9) (hdg : decode c.code g.pc = .ok (.invokestatic index, 3))
    (hpre : ∀ vm₁, s.WarmedH vm₁ → Pre ⟨T.setVm vm₁, locs, cells, slots⟩ argsL.toArray) :
    ∃ (v : Option Value) (vm₁ : Vm) (B : Pt), s.WarmedH vm₁ ∧ Stand p l e R s m args below meth c B.U B.locs B.cells B.slots ∧ Post ⟨T.setVm vm₁, locs, cells, slots⟩ argsL.toArray v B ∧
      ∀ target, Steps p.tables e below (B.U.setTop { g with pc := g.pc + 3, stack := v.toList ++ rest }) target → Steps p.tables e below (T.setTop g) target := by
  obtain ⟨mk, methM, cM, hnamed, hmethM, -, -, -, -, -, -, hsigM⟩ := Cond.codeWith_spec hcode
  have hstatic : methM.isStatic = true := Cond.static_spec hnamed hmethM hstat
  obtain ⟨kP, hkP, -⟩ := className_of_methodNamed hnamed
  have hinitP : kP.init = .initialized := Cond.initialized_spec (findClass_of_methodNamed hnamed) hkP hinit
  obtain ⟨vm₁, X₁, hstep₁⟩ := X.invokestatic hexec hown hlink hnamed hmethM hstatic hkP hinitP hy (g := g) hg (argsL := argsL) (rest := rest) (hlen _ hsigM) hstack hdg
  obtain ⟨v, B, X', hpost, hsteps⟩ := hK m meth c ⟨T.setVm vm₁, locs, cells, slots⟩ { g with stack := rest } (.invokestatic index) mk argsL.toArray X₁ hg hsize hdg hW (X₁.named hnamed) (hpre vm₁ X₁.warmed)
  exact ⟨v, vm₁, B, X₁.warmed, X', hpost, fun target h => hstep₁ _ fun acts => by rw [doInvoke_state]; exact hsteps.trans h⟩
theorem vx_runSW {y : MethodName} {bytes cc : ByteArray} {maxL nL mc ms n index : Nat} {ret : Option FieldType} {hh : List (Nat × Nat × Nat × Nat)} {ws : List Cond} {rm : Room} {Pc : Array Value → State → Prop} {Qc : Array Value → State → Outcome → State → Prop} {free : Addr → Prop} {Ts : List Cond} {own : String} {As rest : List Value} {g : JFrame}
    (S : CallFix p m c cc nL s args Ts own) (hM : Met l y ws rm Pc Qc mc ms free) (cw : vx_CSW R s args own index y bytes maxL ret hh ws rm mc ms n) (hp : PreS s H Pc As)
    (hg : g.method = m) (hn : As.length = n) (hsize : g.locals.size = nL) (hstack : g.stack = As.reverse ++ rest) (hW : 2 * g.monitorRoom + (rest.map fun v => v.category).sum ≤ 8) (hdg : decode cc g.pc = .ok (.invokestatic index, 3)) (hf : cells + mc ≤ R.cells ∧ slots + ms ≤ R.slots) :
    va_Run p l e R s m args below meth c H locs cells slots mc ms g rest (Qc As.toArray) (free) := by
  obtain ⟨⟨hrc, hrs, hfr, hlo, hws, hcw⟩, hcode, hini, hy, hlen, hl, hstt⟩ := cw
  have hK : Back l R p e below s args y 3 8 (PreOf R mc ms Pc) (PostOf Qc mc ms free) := va_backW (hh := hh) (bytes := bytes) (maxL := maxL) (ret := ret) hM hp.1 hrc hrs hfr hlo hws hcw (fun a' U hW => word_at hW (Or.inl (by first | rfl | simp [Cond.onTables, Cond.keeps, Cond.steady])) hini)
  obtain ⟨hx, hb, hml, ho, -⟩ := S
  intro T hT X
  obtain ⟨v, vm₁, ⟨U', l2, c2, s2⟩, hW₁, X', ⟨g', mk, t, L, e1, e2, hq, h1, hL, h2, h3⟩, st⟩ := vx_callSW X hx (hh := hh) (bytes := bytes) (maxL := maxL) (ret := ret) ho hl hstt hini hcode hy hK hg (hsize.trans hml.symm) (argsL := As) (rest := rest) (fun sig h => hn.trans (hlen sig h)) hstack hW (by rw [hb]; exact hdg)
    (fun vm₁ hW₁ => ⟨hf.1, hf.2, hp.2 (T.setVm vm₁) hT hW₁⟩)
  dsimp only [Pt.U, Pt.locs, Pt.cells, Pt.slots] at X' e1 e2 h1 h2 h3 st
  subst h1; subst h2; subst h3
  exact ⟨v, (T.setVm vm₁).calling g' mk As.toArray, t, U', L, hT, X', hL, e1, e2, hq, st⟩
/-- not caught here, past rows that name other classes: it goes on to the caller -/
theorem vx_outP {p : Program} {l : Launch} {e : Env} {R : Room} {s : State} {m : MethodId} {args : Array Value} {below : List Frame} {meth : Method} {c : Code} {H : Heap} {locs : List Loc} {cells slots : Nat} {free : Addr → Prop} {ls : Array Slot} {rest : List Value} {Qc : Array Value → State → Outcome → State → Prop} {XC : String → State → State → Prop}
    {pc : Nat} {own E : String} {ce : Cell} {q : Addr} {mc ms : Nat} (hown : s.vm.findClass own = some m.cls) (hlocks : meth.locks = false)
    (hpass : ∀ z ∈ c.exceptionTable.toList, covers z pc = false ∨ (z.catchType ≠ 0 ∧ ∃ nm : String, (Cond.classLink own z.catchType nm).before args s = true ∧ va_Nc E nm s)) (hcell : H[q]? = some ce) (hv : ce.vm = .none) (hcl : s.vm.findClass E = some ce.cls)
    (hx : ∀ t : State, t.heap = H → s.vm.Alike t.vm → XC E s t) (hf : ∀ z ∈ locs, free z.base) (hc : cells ≤ mc) (hs : slots ≤ ms) :
    vx_W p l e R s m args below meth c H locs cells slots (vx_MQ below Qc XC args s mc ms free) (F0 m pc ls rest) q := by
  intro T hT X
  have hpl : e.platform.magicAccessors = ({} : Platform).magicAccessors := by rw [X.admits.platform]
  obtain ⟨vm', hW', X', st⟩ := Jvm.Stand.outThrough X hlocks q (g := F0 m pc ls rest) rfl rfl rfl (cell := ce) (by rw [hT]; exact hcell) (by rw [hv]; rfl)
    (by obtain ⟨k9, h9, -⟩ := Vm.findClass_spec hcl; exact ⟨k9, h9⟩) (fun z hz => by
      rcases hpass z hz with h | ⟨hz0, nm, hl1, hn1⟩
      · exact Or.inl h
      · obtain ⟨c6, hc6, hcl6⟩ := Cond.classLink_spec hown hl1 e.platform hpl
        obtain ⟨a8, b8, h1, h2, h3⟩ := hn1
        cases Option.some.inj (h1.symm.trans hcl)
        cases Option.some.inj (h2.symm.trans hc6)
        exact Or.inr ⟨hz0, _, hcl6, h3⟩)
  obtain ⟨g₀, hfr⟩ := X'.frames_eq
  have hcell9 : ((T.setVm vm').setFrames (.throwing q :: below)).heap[q]? = some ce := by
    show T.heap[q]? = some ce
    rw [hT]; exact hcell
  have hend : Ended ((T.setVm vm').setFrames (.throwing q :: below)) below (.threw q) := State.frames_setFrames _ (State.cur_lt_of_frames hfr)
  refine ⟨(T.setVm vm').setFrames (.throwing q :: below), ?_, .threw q, X'.here.running, hend, Or.inr ⟨q, rfl, E, ce, locs, hx _ hT (X'.ends _).1.alike, hcell9, hv, hcl, (X'.ends _).1, (X'.ends _).2.mono hc hs, hf⟩⟩
  rw [X.pushThrowing_eq]
  exact st
/-- a thing of a world lies in the heap -/
theorem vx_lt {D : va_G} {cl : List vw_C} {ws : va_W} {H1 : Heap} (h : va_P D cl ws H1) {k : Nat} {q : Nat × va_E} (hk : ws[k]? = some q) : q.1 < H1.size := (h k q hk).lt
end VXS
/-! ===== END ===== -/
/-! ===== BEGIN methods with a table of their own: called by a name, returning or throwing ===== -/
section VXH
/-! vx_backW, vx_callVX, vx_callSX, vx_callVW, vx_runVW, vx_runVX, vx_runSX, vx_ofWH follow the same proofs as their sisters above (Free/Laws.lean, Shelf42/LK1.lean); vx_outP calls Shelf42/NT130.lean (outThrough). -/
section
variable {l : Launch} {R : Room} {p : Program} {e : Env} {below : List Frame} {s : State} {sargs : Array Value} {y : MethodName} {len W9 : Nat}
theorem vx_backW {ws : List Cond} {rm : Room} {Pc : Array Value → State → Prop} {Qc : Array Value → State → Outcome → State → Prop} {XC : String → State → State → Prop} {mc ms : Nat} {free : Addr → Prop} {bytes : ByteArray} {maxL : Nat} {ret : Option FieldType} {hh : List (Nat × Nat × Nat × Nat)}
    (hM : vx_Met l y ws rm Pc Qc XC mc ms free) (hblind : FrameBlind Pc) (hrc : rm.cells = mc) (hrs : rm.slots = ms)
    (hframes : rm.frames + 1 ≤ R.frames) (hlocals : W9 + (maxL + 11) + rm.locals ≤ R.locals)
    (hws : ∀ w ∈ ws, ∀ a' U, s.WarmedH U.vm → w.before a' U = true) (hcode : Cond.codeWith y bytes maxL ret hh ∈ ws) (hinit : ∀ a' U, s.WarmedH U.vm → (Cond.initialized y.cls).before a' U = true) :
    vx_Back l R p e below s sargs y len W9 (PreOf R mc ms Pc) (PostOf Qc mc ms free) (vx_Post XC mc ms free) := by
  intro m meth c A g ig mk a X hg hsize hdg hW hn hp
  have h1 : (headSpec ws rm).pre.before a A.U = true := atoms_intro fun w hw => hws w hw _ _ X.warmed
  have h2 : (Cond.codeWith y bytes maxL ret hh).before a A.U = true := hws _ hcode _ _ X.warmed
  have h3 : (Cond.initialized y.cls).before a A.U = true := hinit _ _ X.warmed
  have h4 : A.cells + (headSpec ws rm).room.cells ≤ R.cells := by rw [show (headSpec ws rm).room.cells = mc from hrc]; exact hp.1
  have h5 : A.slots + (headSpec ws rm).room.slots ≤ R.slots := by rw [show (headSpec ws rm).room.slots = ms from hrs]; exact hp.2.1
  have hPc : Pc a (A.U.calling g mk a) := hblind _ _ _ _ hp.2.2
  obtain ⟨U, Ls, c0, s0⟩ := A
  dsimp only [Pt.U, Pt.locs, Pt.cells, Pt.slots] at h1 h2 h3 h4 h5 X hn hPc ⊢
  obtain ⟨m9, methY, cY, hn9, hmY, hcY, -, hlY, -⟩ := Cond.codeWith_spec h2
  cases Option.some.inj (hn9.symm.trans hn)
  obtain ⟨kY, hkY, -⟩ := className_of_methodNamed hn
  have hinitY : kY.init = .initialized := Cond.initialized_spec (findClass_of_methodNamed hn) hkY h3
  have h : At U g.method c below := by rw [hg]; exact X.here
  have hlocals9 : W9 + (maxL + 11) + (headSpec ws rm).room.locals ≤ R.locals := hlocals
  have happ : (headSpec ws rm).appliesLoose y e.platform (U.calling g mk a) = true :=
    Spec.appliesLoose_calling (g := g) h hdg hn hkY hinitY
      (X.room_calling (g := g) (R' := (headSpec ws rm).room) hsize hmY hcY hframes (by rw [hlY]; omega) h4 h5) h1
  obtain ⟨mid, hmid⟩ := h.above
  have hfr : (U.setTop g).frames = (.java g :: mid) ++ below := by rw [State.frames_setTop' g h.top, hmid]; rfl
  obtain ⟨o, s₂, hsteps, -, hend, hq⟩ := Steps.callFree hM p X.admits X.cas X.clock (acts := []) hfr happ hPc trivial
  have hq' : vx_Q Qc XC mc ms free a (U.calling g mk a) o s₂ := hq
  rw [State.frames_setTop' g h.top] at hend
  obtain ⟨g₀, hg0⟩ := Option.isSome_iff_exists.mp h.top
  obtain ⟨r, hr⟩ := State.topJava?_eq_some.mp hg0
  have hr' : (({ U with heap := s₂.heap, slotsUsed := s₂.slotsUsed } : State).setVm s₂.vm).frames = .java g₀ :: r := hr
  rcases hq' with ⟨hqc, L, hfe, hL⟩ | ⟨q, rfl, E, ce, L, hx, hce, hcv, hcl, hW₂, hsm, hL⟩
  · obtain ⟨⟨v, rfl⟩, hW₂, e2, q2, q3, q4, q5, q6⟩ := id hfe
    have e3 : s₂ = ({ (U.calling g mk a).setFrames s₂.frames with heap := s₂.heap, slotsUsed := s₂.slotsUsed } : State).setVm s₂.vm := by
      have : s₂ = ({ s₂ with vm := (U.calling g mk a).vm } : State).setVm s₂.vm := rfl
      rw [e2] at this
      exact this
    obtain ⟨c₂, i₂, len₂, hc₂, hd₂, hf₂⟩ := hend
    have hW' : U.WarmedH s₂.vm := hW₂
    have hcc : c₂ = c := by
      have h1 : s₂.code? g.method = U.code? g.method := by
        rw [State.code?_eq, State.code?_eq, hW'.alike.method?]
      exact Option.some.inj (hc₂.symm.trans (h1.trans h.code))
    subst hcc
    have hlen : len₂ = len := by rw [hdg] at hd₂; cases hd₂; rfl
    subst hlen
    have hs₂ : s₂ = (({ U with heap := s₂.heap, slotsUsed := s₂.slotsUsed } : State).setVm s₂.vm).setTop { g with pc := g.pc + len₂, stack := v.toList ++ g.stack } := by
      refine e3.trans ?_
      rw [hf₂, State.calling_eq h.top, State.setFrames_setFrames, State.setTop_of_frames _ hr', hr]
      rfl
    have hsame : U.sameButNew ({ U with heap := s₂.heap, slotsUsed := s₂.slotsUsed } : State) L mc ms := by
      refine ⟨?_, q2, q3, q4, q5, q6⟩
      obtain ⟨t, ht, -⟩ := State.frames_cons hr
      show ({ U with heap := s₂.heap, slotsUsed := s₂.slotsUsed } : State) = { U.setFrames U.frames with heap := s₂.heap, slotsUsed := s₂.slotsUsed }
      rw [State.setFrames_self ht]
    subst hg
    refine Or.inl ⟨v, ⟨(({ U with heap := s₂.heap, slotsUsed := s₂.slotsUsed } : State).setVm s₂.vm), Ls ++ L, c0 + mc, s0 + ms⟩,
      ⟨X.admits, X.cas, X.clock, X.frames, X.room, X.hears, X.method, X.code, (X.here.setHeapUsed s₂.heap s₂.slotsUsed).setVm hW'.alike, X.tail, State.WarmedH.trans X.warmed hW', X.limits, X.bytes, X.same.trans (hsame.setVm s.vm)⟩,
      ⟨g, mk, s₂, L, rfl, rfl, hqc, rfl, hL, rfl, rfl⟩, ?_⟩
    show Steps p.tables e below _ ((({ U with heap := s₂.heap, slotsUsed := s₂.slotsUsed } : State).setVm s₂.vm).setTop { g with pc := g.pc + len₂, stack := v.toList ++ g.stack })
    rw [← hs₂]
    exact hsteps
  · obtain ⟨e2, q2, q3, q4, q5, q6⟩ := id hsm
    have e3 : s₂ = ({ (U.calling g mk a).setFrames s₂.frames with heap := s₂.heap, slotsUsed := s₂.slotsUsed } : State).setVm s₂.vm := by
      have : s₂ = ({ s₂ with vm := (U.calling g mk a).vm } : State).setVm s₂.vm := rfl
      rw [e2] at this
      exact this
    have hf₂ : s₂.frames = .throwing q :: .java g :: U.frames.tail := hend
    have hW' : U.WarmedH s₂.vm := hW₂
    have hs₂ : s₂ = ((({ U with heap := s₂.heap, slotsUsed := s₂.slotsUsed } : State).setVm s₂.vm).setTop g).pushFrame (.throwing q) := by
      refine e3.trans ?_
      rw [hf₂, State.calling_eq h.top, State.setFrames_setFrames, State.pushFrame, State.frames_setTop _ hr', State.setTop_of_frames _ hr', State.setFrames_setFrames, hr]
      rfl
    have hsame : U.sameButNew ({ U with heap := s₂.heap, slotsUsed := s₂.slotsUsed } : State) L mc ms := by
      refine ⟨?_, q2, q3, q4, q5, q6⟩
      obtain ⟨t, ht, -⟩ := State.frames_cons hr
      show ({ U with heap := s₂.heap, slotsUsed := s₂.slotsUsed } : State) = { U.setFrames U.frames with heap := s₂.heap, slotsUsed := s₂.slotsUsed }
      rw [State.setFrames_self ht]
    subst hg
    refine Or.inr ⟨q, ⟨(({ U with heap := s₂.heap, slotsUsed := s₂.slotsUsed } : State).setVm s₂.vm), Ls ++ L, c0 + mc, s0 + ms⟩,
      ⟨X.admits, X.cas, X.clock, X.frames, X.room, X.hears, X.method, X.code, (X.here.setHeapUsed s₂.heap s₂.slotsUsed).setVm hW'.alike, X.tail, State.WarmedH.trans X.warmed hW', X.limits, X.bytes, X.same.trans (hsame.setVm s.vm)⟩,
      ⟨g, mk, s₂, L, E, ce, rfl, rfl, hx, hce, hcv, hcl, rfl, hL, rfl, rfl⟩, ?_⟩
    show Steps p.tables e below _ (((({ U with heap := s₂.heap, slotsUsed := s₂.slotsUsed } : State).setVm s₂.vm).setTop g).pushFrame (.throwing q))
    rw [← hs₂]
    exact hsteps
end
variable {p : Program} {l : Launch} {e : Env} {R : Room} {s : State} {m : MethodId} {args : Array Value} {below : List Frame} {meth : Method} {c : Code} {T : State} {H : Heap} {locs : List Loc} {cells slots : Nat}
theorem vx_callVX (X : Stand p l e R s m args below meth c T locs cells slots) (hexec : p.tables.exec = Jvm.exec) {own C : String} {index : Nat} {y : MethodName} {bytes : ByteArray} {maxL : Nat} {ret : Option FieldType} {hh : List (Nat × Nat × Nat × Nat)}
    (hown : s.vm.findClass own = some m.cls) (hlink : (Cond.methodLink own index y).before args s = true) (hinst : (Cond.instanceMethod y).before args s = true) (hsel : (Cond.selects C y y).before args s = true)
    (hcode : (Cond.codeWith y bytes maxL ret hh).before args s = true) (hy : y.cls ≠ "java/lang/invoke/MethodHandle" ∧ y.cls ≠ "java/lang/invoke/VarHandle")
    {W9 : Nat} {Pre : Pt → Array Value → Prop} {Post : Pt → Array Value → Option Value → Pt → Prop} {PostX : Pt → Array Value → Addr → Pt → Prop} (hK : vx_Back l R p e below s args y 3 W9 Pre Post PostX)
    {b : Addr} {cellB : Cell} (hcell : T.heap[b]? = some cellB) (hobj : cellB.vm.isStatics = false) (hcls : s.vm.findClass C = some cellB.cls)
    {g : JFrame} (hg : g.method = m) (hsize : g.locals.size = c.maxLocals) {argsL rest : List Value} (hlen : ∀ sig, parseMethodDescriptor y.desc = some sig → argsL.length = sig.parameters.length)
    (hstack : g.stack = argsL.reverse ++ .ref b :: rest) (hW : 2 * g.monitorRoom + (rest.map fun v => v.category).sum ≤ W9) (hdg : decode c.code g.pc = .ok (.invokevirtual index, 3))
    (hpre : ∀ vm₁, s.WarmedH vm₁ → Pre ⟨T.setVm vm₁, locs, cells, slots⟩ (Value.ref b :: argsL).toArray) :
    (∃ (v : Option Value) (vm₁ : Vm) (B : Pt), s.WarmedH vm₁ ∧ Stand p l e R s m args below meth c B.U B.locs B.cells B.slots ∧ Post ⟨T.setVm vm₁, locs, cells, slots⟩ (Value.ref b :: argsL).toArray v B ∧
      ∀ target, Steps p.tables e below (B.U.setTop { g with pc := g.pc + 3, stack := v.toList ++ rest }) target → Steps p.tables e below (T.setTop g) target) ∨
    (∃ (q : Addr) (vm₁ : Vm) (B : Pt), s.WarmedH vm₁ ∧ Stand p l e R s m args below meth c B.U B.locs B.cells B.slots ∧ PostX ⟨T.setVm vm₁, locs, cells, slots⟩ (Value.ref b :: argsL).toArray q B ∧
      Steps p.tables e below (T.setTop g) ((B.U.setTop { g with stack := rest }).pushFrame (.throwing q))) := by
  obtain ⟨mk, methM, hnamed, hmethM, hstM, habM⟩ := Cond.instanceMethod_spec hinst
  obtain ⟨m8, methM', cM, hn8, hmethM', -, -, -, -, -, -, hsigM⟩ := Cond.codeWith_spec hcode
  cases Option.some.inj (hn8.symm.trans hnamed)
  cases hmethM.symm.trans hmethM'
  obtain ⟨c2, r2, m2, q1, q2, q3, q4, kP, hkP, hkPi⟩ := Cond.selects_spec hsel
  cases hcls.symm.trans q1
  cases (State.methodFound?_of_named hnamed hy).symm.trans q2
  cases hnamed.symm.trans q3
  have hselP : selectMethod e.platform s.vm cellB.cls mk = .method mk := by rw [Launch.admits_selectMethod X.admits]; exact q4
  obtain ⟨vm₁, X₁, hstep₁⟩ := X.invokevirtual hexec hown hlink hnamed hmethM hstM hkP hkPi hy (a := b) (cell := cellB) hcell
    (fun z h => by rw [h] at hobj; cases hobj) hselP hmethM habM hkP hkPi (g := g) hg (argsL := argsL) (rest := rest) (hlen _ hsigM) hstack hdg
  rcases hK m meth c ⟨T.setVm vm₁, locs, cells, slots⟩ { g with stack := rest } (.invokevirtual index) mk (Value.ref b :: argsL).toArray X₁ hg hsize hdg hW (X₁.named hnamed) (hpre vm₁ X₁.warmed) with ⟨v, B, X', hpost, hsteps⟩ | ⟨q, B, X', hpost, hsteps⟩
  · exact Or.inl ⟨v, vm₁, B, X₁.warmed, X', hpost, fun target h => hstep₁ _ fun acts => by rw [doInvoke_state]; exact hsteps.trans h⟩
  · exact Or.inr ⟨q, vm₁, B, X₁.warmed, X', hpost, hstep₁ _ fun acts => by rw [doInvoke_state]; exact hsteps⟩
theorem vx_callSX (X : Stand p l e R s m args below meth c T locs cells slots) (hexec : p.tables.exec = Jvm.exec) {own : String} {index : Nat} {y : MethodName} {bytes : ByteArray} {maxL : Nat} {ret : Option FieldType} {hh : List (Nat × Nat × Nat × Nat)}
    (hown : s.vm.findClass own = some m.cls) (hlink : (Cond.methodLink own index y).before args s = true) (hstat : (Cond.static y).before args s = true) (hinit : (Cond.initialized y.cls).before args s = true)
    (hcode : (Cond.codeWith y bytes maxL ret hh).before args s = true) (hy : y.cls ≠ "java/lang/invoke/MethodHandle" ∧ y.cls ≠ "java/lang/invoke/VarHandle")
    {W9 : Nat} {Pre : Pt → Array Value → Prop} {Post : Pt → Array Value → Option Value → Pt → Prop} {PostX : Pt → Array Value → Addr → Pt → Prop} (hK : vx_Back l R p e below s args y 3 W9 Pre Post PostX)
    {g : JFrame} (hg : g.method = m) (hsize : g.locals.size = c.maxLocals) {argsL rest : List Value} (hlen : ∀ sig, parseMethodDescriptor y.desc = some sig → argsL.length = sig.parameters.length)
    (hstack : g.stack = argsL.reverse ++ rest) (hW : 2 * g.monitorRoom + (rest.map fun v => v.category).sum ≤ W9) (hdg : decode c.code g.pc = .ok (.invokestatic index, 3))
    (hpre : ∀ vm₁, s.WarmedH vm₁ → Pre ⟨T.setVm vm₁, locs, cells, slots⟩ argsL.toArray) :
    (∃ (v : Option Value) (vm₁ : Vm) (B : Pt), s.WarmedH vm₁ ∧ Stand p l e R s m args below meth c B.U B.locs B.cells B.slots ∧ Post ⟨T.setVm vm₁, locs, cells, slots⟩ argsL.toArray v B ∧
      ∀ target, Steps p.tables e below (B.U.setTop { g with pc := g.pc + 3, stack := v.toList ++ rest }) target → Steps p.tables e below (T.setTop g) target) ∨
    (∃ (q : Addr) (vm₁ : Vm) (B : Pt), s.WarmedH vm₁ ∧ Stand p l e R s m args below meth c B.U B.locs B.cells B.slots ∧ PostX ⟨T.setVm vm₁, locs, cells, slots⟩ argsL.toArray q B ∧
      Steps p.tables e below (T.setTop g) ((B.U.setTop { g with stack := rest }).pushFrame (.throwing q))) := by
  obtain ⟨mk, methM, cM, hnamed, hmethM, -, -, -, -, -, -, hsigM⟩ := Cond.codeWith_spec hcode
  have hstatic : methM.isStatic = true := Cond.static_spec hnamed hmethM hstat
  obtain ⟨kP, hkP, -⟩ := className_of_methodNamed hnamed
  have hinitP : kP.init = .initialized := Cond.initialized_spec (findClass_of_methodNamed hnamed) hkP hinit
  obtain ⟨vm₁, X₁, hstep₁⟩ := X.invokestatic hexec hown hlink hnamed hmethM hstatic hkP hinitP hy (g := g) hg (argsL := argsL) (rest := rest) (hlen _ hsigM) hstack hdg
  rcases hK m meth c ⟨T.setVm vm₁, locs, cells, slots⟩ { g with stack := rest } (.invokestatic index) mk argsL.toArray X₁ hg hsize hdg hW (X₁.named hnamed) (hpre vm₁ X₁.warmed) with ⟨v, B, X', hpost, hsteps⟩ | ⟨q, B, X', hpost, hsteps⟩
  · exact Or.inl ⟨v, vm₁, B, X₁.warmed, X', hpost, fun target h => hstep₁ _ fun acts => by rw [doInvoke_state]; exact hsteps.trans h⟩
  · exact Or.inr ⟨q, vm₁, B, X₁.warmed, X', hpost, hstep₁ _ fun acts => by rw [doInvoke_state]; exact hsteps⟩
theorem vx_callVW (X : Stand p l e R s m args below meth c T locs cells slots) (hexec : p.tables.exec = Jvm.exec) {own C : String} {index : Nat} {y : MethodName} {bytes : ByteArray} {maxL : Nat} {ret : Option FieldType} {hh : List (Nat × Nat × Nat × Nat)}
    (hown : s.vm.findClass own = some m.cls) (hlink : (Cond.methodLink own index y).before args s = true) (hinst : (Cond.instanceMethod y).before args s = true) (hsel : (Cond.selects C y y).before args s = true)
    (hcode : (Cond.codeWith y bytes maxL ret hh).before args s = true) (hy : y.cls ≠ "java/lang/invoke/MethodHandle" ∧ y.cls ≠ "java/lang/invoke/VarHandle")
    {W9 : Nat} {Pre : Pt → Array Value → Prop} {Post : Pt → Array Value → Option Value → Pt → Prop} (hK : Back l R p e below s args y 3 W9 Pre Post)
    {b : Addr} {cellB : Cell} (hcell : T.heap[b]? = some cellB) (hobj : cellB.vm.isStatics = false) (hcls : s.vm.findClass C = some cellB.cls)
    {g : JFrame} (hg : g.method = m) (hsize : g.locals.size = c.maxLocals) {argsL rest : List Value} (hlen : ∀ sig, parseMethodDescriptor y.desc = some sig → argsL.length = sig.parameters.length)
    (hstack : g.stack = argsL.reverse ++ .ref b :: rest) (hW : 2 * g.monitorRoom + (rest.map fun v => v.category).sum ≤ W9) (hdg : decode c.code g.pc = .ok (.invokevirtual index, 3))
    (hpre : ∀ vm₁, s.WarmedH vm₁ → Pre ⟨T.setVm vm₁, locs, cells, slots⟩ (Value.ref b :: argsL).toArray) :
    ∃ (v : Option Value) (vm₁ : Vm) (B : Pt), s.WarmedH vm₁ ∧ Stand p l e R s m args below meth c B.U B.locs B.cells B.slots ∧ Post ⟨T.setVm vm₁, locs, cells, slots⟩ (Value.ref b :: argsL).toArray v B ∧
      ∀ target, Steps p.tables e below (B.U.setTop { g with pc := g.pc + 3, stack := v.toList ++ rest }) target → Steps p.tables e below (T.setTop g) target := by
  obtain ⟨mk, methM, hnamed, hmethM, hstM, habM⟩ := Cond.instanceMethod_spec hinst
  obtain ⟨m8, methM', cM, hn8, hmethM', -, -, -, -, -, -, hsigM⟩ := Cond.codeWith_spec hcode
  cases Option.some.inj (hn8.symm.trans hnamed)
  cases hmethM.symm.trans hmethM'
  obtain ⟨c2, r2, m2, q1, q2, q3, q4, kP, hkP, hkPi⟩ := Cond.selects_spec hsel
  cases hcls.symm.trans q1
  cases (State.methodFound?_of_named hnamed hy).symm.trans q2
  cases hnamed.symm.trans q3
  have hselP : selectMethod e.platform s.vm cellB.cls mk = .method mk := by rw [Launch.admits_selectMethod X.admits]; exact q4
  obtain ⟨vm₁, X₁, hstep₁⟩ := X.invokevirtual hexec hown hlink hnamed hmethM hstM hkP hkPi hy (a := b) (cell := cellB) hcell
    (fun z h => by rw [h] at hobj; cases hobj) hselP hmethM habM hkP hkPi (g := g) hg (argsL := argsL) (rest := rest) (hlen _ hsigM) hstack hdg
  obtain ⟨v, B, X', hpost, hsteps⟩ := hK m meth c ⟨T.setVm vm₁, locs, cells, slots⟩ { g with stack := rest } (.invokevirtual index) mk (Value.ref b :: argsL).toArray X₁ hg hsize hdg hW (X₁.named hnamed) (hpre vm₁ X₁.warmed)
  exact ⟨v, vm₁, B, X₁.warmed, X', hpost, fun target h => hstep₁ _ fun acts => by rw [doInvoke_state]; exact hsteps.trans h⟩
abbrev vx_CVW (R : Room) (s : State) (args : Array Value) (own C : String) (index : Nat) (y : MethodName) (bytes : ByteArray) (maxL : Nat) (ret : Option FieldType) (hh : List (Nat × Nat × Nat × Nat)) (ws : List Cond) (rm : Room) (mc ms n : Nat) : Prop :=
  (rm.cells = mc ∧ rm.slots = ms ∧ rm.frames + 1 ≤ R.frames ∧ 8 + (maxL + 11) + rm.locals ≤ R.locals ∧ (∀ w ∈ ws, ∀ (a' : Array Value) (U : State), s.WarmedH U.vm → w.before a' U = true) ∧ Cond.codeWith y bytes maxL ret hh ∈ ws) ∧
  (Cond.codeWith y bytes maxL ret hh).before args s = true ∧ (Cond.initialized y.cls).before args s = true ∧ (y.cls ≠ "java/lang/invoke/MethodHandle" ∧ y.cls ≠ "java/lang/invoke/VarHandle") ∧
  (∀ sig, parseMethodDescriptor y.desc = some sig → n = sig.parameters.length) ∧ (Cond.methodLink own index y).before args s = true ∧ (Cond.instanceMethod y).before args s = true ∧ (Cond.selects C y y).before args s = true
theorem vx_cwVW {own C : String} {index maxL mc ms : Nat} {y : MethodName} {bytes : ByteArray} {ret : Option FieldType} {hh : List (Nat × Nat × Nat × Nat)} {Ts ws ws' : List Cond} {rm : Room} (n : Nat) (ht : ∀ w ∈ Ts, w.before args s = true) (hT : GoodIn Ts (wsV own index C y ws)) (hw : ws = Cond.codeWith y bytes maxL ret hh :: ws') (hrc : rm.cells = mc) (hrs : rm.slots = ms)
    (hd : y.cls = C ∧ y.cls ≠ "java/lang/invoke/MethodHandle" ∧ y.cls ≠ "java/lang/invoke/VarHandle" ∧ (parseMethodDescriptor y.desc).map (fun d => d.parameters.length) = some n) (hR : rm.frames + 1 ≤ R.frames ∧ 8 + (maxL + 11) + rm.locals ≤ R.locals) :
    vx_CVW R s args own C index y bytes maxL ret hh ws rm mc ms n := by
  obtain ⟨hC, hd⟩ := hd
  subst hC
  have ok : ∀ w ∈ wsV own index y.cls y ws, w.before args s = true := fun w h => ht w (hT w h).1
  have hG : GoodIn Ts ws := fun w h => hT w (by unfold wsV; exact List.mem_append_right _ h)
  have hc : Cond.codeWith y bytes maxL ret hh ∈ ws := by rw [hw]; exact List.mem_cons_self
  refine ⟨⟨hrc, hrs, hR.1, hR.2, pay_in ht hG, hc⟩, ht _ (hG _ hc).1, ok _ (by simp [wsV]), ⟨hd.1, hd.2.1⟩, fun sig h => ?_, ok _ (by simp [wsV]), ok _ (by simp [wsV]), ok _ (by simp [wsV])⟩
  have h2 := hd.2.2
  rw [h] at h2
  exact (Option.some.inj h2).symm
theorem vx_runVW {y : MethodName} {bytes cc : ByteArray} {maxL nL mc ms n index : Nat} {ret : Option FieldType} {hh : List (Nat × Nat × Nat × Nat)} {ws : List Cond} {rm : Room} {Pc : Array Value → State → Prop} {Qc : Array Value → State → Outcome → State → Prop} {free : Addr → Prop} {Ts : List Cond} {own C : String} {b : Addr} {As rest : List Value} {g : JFrame}
    (S : CallFix p m c cc nL s args Ts own) (hM : Met l y ws rm Pc Qc mc ms free) (cw : vx_CVW R s args own C index y bytes maxL ret hh ws rm mc ms n) (hp : PreV s H C b Pc As)
    (hg : g.method = m) (hn : As.length = n) (hsize : g.locals.size = nL) (hstack : g.stack = As.reverse ++ .ref b :: rest) (hW : 2 * g.monitorRoom + (rest.map fun v => v.category).sum ≤ 8) (hdg : decode cc g.pc = .ok (.invokevirtual index, 3)) (hf : cells + mc ≤ R.cells ∧ slots + ms ≤ R.slots) :
    va_Run p l e R s m args below meth c H locs cells slots mc ms g rest (Qc (Value.ref b :: As).toArray) free := by
  obtain ⟨⟨hrc, hrs, hfr, hlo, hws, hcw⟩, hcode, hini, hy, hlen, hl, hin, hse⟩ := cw
  have hK : Back l R p e below s args y 3 8 (PreOf R mc ms Pc) (PostOf Qc mc ms free) := va_backW (hh := hh) (bytes := bytes) (maxL := maxL) (ret := ret) hM hp.1 hrc hrs hfr hlo hws hcw (fun a' U hW => word_at hW (Or.inl (by first | rfl | simp [Cond.onTables, Cond.keeps, Cond.steady])) hini)
  obtain ⟨hx, hb, hml, ho, -⟩ := S
  obtain ⟨-, ⟨cellB, hcB, hoB, hclB⟩, hPc⟩ := hp
  intro T hT X
  obtain ⟨v, vm₁, ⟨U', l2, c2, s2⟩, hW₁, X', ⟨g', mk, t, L, e1, e2, hq, h1, hL, h2, h3⟩, st⟩ := vx_callVW X hx (C := C) (hh := hh) (bytes := bytes) (maxL := maxL) (ret := ret) ho hl hin hse hcode hy hK (by rw [hT]; exact hcB) hoB hclB hg (hsize.trans hml.symm) (argsL := As) (rest := rest) (fun sig h => hn.trans (hlen sig h)) hstack hW (by rw [hb]; exact hdg)
    (fun vm₁ hW₁ => ⟨hf.1, hf.2, hPc (T.setVm vm₁) hT hW₁⟩)
  dsimp only [Pt.U, Pt.locs, Pt.cells, Pt.slots] at X' e1 e2 h1 h2 h3 st
  subst h1; subst h2; subst h3
  exact ⟨v, (T.setVm vm₁).calling g' mk (Value.ref b :: As).toArray, t, U', L, hT, X', hL, e1, e2, hq, st⟩
section
variable {y : MethodName} {bytes cc : ByteArray} {maxL nL mc ms n index : Nat} {ret : Option FieldType} {ws : List Cond} {rm : Room} {Pc : Array Value → State → Prop} {Qc : Array Value → State → Outcome → State → Prop} {XC : String → State → State → Prop} {free : Addr → Prop} {Ts : List Cond} {own C : String} {b : Addr} {As rest : List Value} {g : JFrame}
theorem vx_runVX {hh : List (Nat × Nat × Nat × Nat)} (S : CallFix p m c cc nL s args Ts own) (hM : vx_Met l y ws rm Pc Qc XC mc ms free) (cw : vx_CVW R s args own C index y bytes maxL ret hh ws rm mc ms n) (hp : PreV s H C b Pc As)
    (hg : g.method = m) (hn : As.length = n) (hsize : g.locals.size = nL) (hstack : g.stack = As.reverse ++ .ref b :: rest) (hW : 2 * g.monitorRoom + (rest.map fun v => v.category).sum ≤ 8) (hdg : decode cc g.pc = .ok (.invokevirtual index, 3)) (hf : cells + mc ≤ R.cells ∧ slots + ms ≤ R.slots) :
    vx_Run p l e R s m args below meth c H locs cells slots mc ms g rest (Qc (Value.ref b :: As).toArray) XC free := by
  obtain ⟨⟨hrc, hrs, hfr, hlo, hws, hcw⟩, hcode, hini, hy, hlen, hl, hin, hse⟩ := cw
  have hK : vx_Back l R p e below s args y 3 8 (PreOf R mc ms Pc) (PostOf Qc mc ms free) (vx_Post XC mc ms free) := vx_backW (hh := hh) (bytes := bytes) (maxL := maxL) (ret := ret) hM hp.1 hrc hrs hfr hlo hws hcw (fun a' U hW => word_at hW (Or.inl (by first | rfl | simp [Cond.onTables, Cond.keeps, Cond.steady])) hini)
  obtain ⟨hx, hb, hml, ho, -⟩ := S
  obtain ⟨-, ⟨cellB, hcB, hoB, hclB⟩, hPc⟩ := hp
  intro T hT X
  rcases vx_callVX X hx (C := C) (hh := hh) (bytes := bytes) (maxL := maxL) (ret := ret) ho hl hin hse hcode hy hK (by rw [hT]; exact hcB) hoB hclB hg (hsize.trans hml.symm) (argsL := As) (rest := rest) (fun sig h => hn.trans (hlen sig h)) hstack hW (by rw [hb]; exact hdg)
    (fun vm₁ hW₁ => ⟨hf.1, hf.2, hPc (T.setVm vm₁) hT hW₁⟩) with ⟨v, vm₁, ⟨U', l2, c2, s2⟩, hW₁, X', ⟨g', mk, t, L, e1, e2, hq, h1, hL, h2, h3⟩, st⟩ | ⟨q, vm₁, ⟨U', l2, c2, s2⟩, hW₁, X', ⟨g', mk, t, L, E, ce, e1, e2, hq, hce, hcv, hcl, h1, hL, h2, h3⟩, st⟩
  · dsimp only [Pt.U, Pt.locs, Pt.cells, Pt.slots] at X' e1 e2 h1 h2 h3 st
    subst h1; subst h2; subst h3
    exact Or.inl ⟨v, (T.setVm vm₁).calling g' mk (Value.ref b :: As).toArray, t, U', L, hT, X', hL, e1, e2, hq, st⟩
  · dsimp only [Pt.U, Pt.locs, Pt.cells, Pt.slots] at X' e1 e2 h1 h2 h3 st hcl
    subst h1; subst h2; subst h3
    exact Or.inr ⟨q, (T.setVm vm₁).calling g' mk (Value.ref b :: As).toArray, t, U', L, E, ce, hT, X', hL, e1, e2, hq, hce, hcv, vx_cls hW₁ hcl, st⟩
theorem vx_runSX {hh : List (Nat × Nat × Nat × Nat)} (S : CallFix p m c cc nL s args Ts own) (hM : vx_Met l y ws rm Pc Qc XC mc ms free) (cw : vx_CSW R s args own index y bytes maxL ret hh ws rm mc ms n) (hp : PreS s H Pc As)
    (hg : g.method = m) (hn : As.length = n) (hsize : g.locals.size = nL) (hstack : g.stack = As.reverse ++ rest) (hW : 2 * g.monitorRoom + (rest.map fun v => v.category).sum ≤ 8) (hdg : decode cc g.pc = .ok (.invokestatic index, 3)) (hf : cells + mc ≤ R.cells ∧ slots + ms ≤ R.slots) :
    vx_Run p l e R s m args below meth c H locs cells slots mc ms g rest (Qc As.toArray) XC free := by
  obtain ⟨⟨hrc, hrs, hfr, hlo, hws, hcw⟩, hcode, hini, hy, hlen, hl, hstt⟩ := cw
  have hK : vx_Back l R p e below s args y 3 8 (PreOf R mc ms Pc) (PostOf Qc mc ms free) (vx_Post XC mc ms free) := vx_backW (hh := hh) (bytes := bytes) (maxL := maxL) (ret := ret) hM hp.1 hrc hrs hfr hlo hws hcw (fun a' U hW => word_at hW (Or.inl (by first | rfl | simp [Cond.onTables, Cond.keeps, Cond.steady])) hini)
  obtain ⟨hx, hb, hml, ho, -⟩ := S
  intro T hT X
  rcases vx_callSX X hx (hh := hh) (bytes := bytes) (maxL := maxL) (ret := ret) ho hl hstt hini hcode hy hK hg (hsize.trans hml.symm) (argsL := As) (rest := rest) (fun sig h => hn.trans (hlen sig h)) hstack hW (by rw [hb]; exact hdg)
    (fun vm₁ hW₁ => ⟨hf.1, hf.2, hp.2 (T.setVm vm₁) hT hW₁⟩) with ⟨v, vm₁, ⟨U', l2, c2, s2⟩, hW₁, X', ⟨g', mk, t, L, e1, e2, hq, h1, hL, h2, h3⟩, st⟩ | ⟨q, vm₁, ⟨U', l2, c2, s2⟩, hW₁, X', ⟨g', mk, t, L, E, ce, e1, e2, hq, hce, hcv, hcl, h1, hL, h2, h3⟩, st⟩
  · dsimp only [Pt.U, Pt.locs, Pt.cells, Pt.slots] at X' e1 e2 h1 h2 h3 st
    subst h1; subst h2; subst h3
    exact Or.inl ⟨v, (T.setVm vm₁).calling g' mk As.toArray, t, U', L, hT, X', hL, e1, e2, hq, st⟩
  · dsimp only [Pt.U, Pt.locs, Pt.cells, Pt.slots] at X' e1 e2 h1 h2 h3 st hcl
    subst h1; subst h2; subst h3
    exact Or.inr ⟨q, (T.setVm vm₁).calling g' mk As.toArray, t, U', L, E, ce, hT, X', hL, e1, e2, hq, hce, hcv, vx_cls hW₁ hcl, st⟩
end
end VXH
theorem vx_ofWH {l : Launch} {y : MethodName} {ws ws' : List Cond} {rm : Room} {Pc : Array Value → State → Prop} {Qc : Array Value → State → Outcome → State → Prop} {XC : String → State → State → Prop} {mc ms : Nat} {free : Addr → Prop} {cc : ByteArray} {maxL : Nat} {ret : Option FieldType} {hh : List (Nat × Nat × Nat × Nat)}
    (hy : plainName y.cls = true) (hw : ws = Cond.codeWith y cc maxL ret hh :: ws')
    (body : ∀ p e s m args below meth c s₁, BodyLoose p l y (headSpec ws rm) cc maxL ret e s m args below meth c s₁ → c.maxLocals = maxL → Pc args s →
      W p l e (headSpec ws rm).room s m args below meth c s.heap [] 0 0 (vx_MQ below Qc XC args s mc ms free) (entryFrame m args maxL)) : vx_Met l y ws rm Pc Qc XC mc ms free := by
  refine MetFree.of_bodyS (code := cc) (maxLocals := maxL) (ret := ret) hy ?_ ?_
  · intro args s m h hn
    obtain ⟨m9, meth, c, hn9, h1, h2, h3, h4, -, h5, h6, -⟩ := Cond.codeWith_spec (atoms_spec (ws := ws) h _ (by rw [hw]; exact List.mem_cons_self))
    cases hn.symm.trans hn9
    exact ⟨meth, c, h1, h2, h3, h4, h5, h6⟩
  · intro p e s m args below meth c s₁ B hml hP _
    have hh0 : s₁.heap = s.heap := by rw [B.state]; rfl
    obtain ⟨t, a1, o, b1, b2, b3⟩ := body p e s m args below meth c s₁ B hml hP s₁ hh0 (Stand.of_body B)
    exact ⟨t, o, a1, b1, b2, b3⟩
/-! ===== END ===== -/
end
section
/-! ===== BEGIN printed: names, fields, word lists, decode rows ===== -/
def RX0 : String := "OctalHouse$Bus"
def TX0 : u_T := fun k => match k with
  | 0 => ("OctalHouse$Bus", "registers", "LOctalHouse$Registers;", true)
  | 1 => ("OctalHouse$Bus", "channels", "[LOctalHouse$Channel;", true)
  | 2 => ("OctalHouse$Bus", "devices", "[LOctalHouse$Device;", true)
  | 3 => ("OctalHouse$Bus", "lines", "[LOctalHouse$Line;", true)
  | 4 => ("OctalHouse$Bus", "interruptsOn", "Z", false)
  | 5 => ("OctalHouse$Bus", "switchWord", "I", false)
  | _ => ("OctalHouse$Bus", "lamps", "I", false)
def tyX0 : Nat → FieldType := fun k => match k with
  | 0 => .object "OctalHouse$Registers"
  | 1 => .array (.object "OctalHouse$Channel")
  | 2 => .array (.object "OctalHouse$Device")
  | 3 => .array (.object "OctalHouse$Line")
  | 4 => .boolean
  | 5 => .int
  | _ => .int
abbrev wsX00 : List Cond := u_ws RX0 TX0 7
theorem nmX0 : ∀ a, a < 7 → ∀ b, b < 7 → a ≠ b → (TX0 a).2.1 ≠ (TX0 b).2.1 := by decide +kernel
theorem tyX0_ok : ∀ k, k < 7 → parseFieldDescriptor (TX0 k).2.2.1 = some (tyX0 k) := by decide +kernel
abbrev cX0_init : ByteArray := prog_2_method_1_code
def yX0_init : MethodName := ⟨RX0, "<init>", "(LOctalHouse$Registers;)V"⟩
abbrev cX0_channelAt : ByteArray := prog_2_method_2_code
def yX0_channelAt : MethodName := ⟨RX0, "channelAt", "(I)LOctalHouse$Channel;"⟩
abbrev cX0_deviceAt : ByteArray := prog_2_method_3_code
def yX0_deviceAt : MethodName := ⟨RX0, "deviceAt", "(I)LOctalHouse$Device;"⟩
abbrev cX0_lineOf : ByteArray := prog_2_method_4_code
def yX0_lineOf : MethodName := ⟨RX0, "lineOf", "(I)LOctalHouse$Line;"⟩
abbrev cX0_advanceDevices : ByteArray := prog_2_method_5_code
def yX0_advanceDevices : MethodName := ⟨RX0, "advanceDevices", "()V"⟩
abbrev cX0_advanceChannels : ByteArray := prog_2_method_6_code
def yX0_advanceChannels : MethodName := ⟨RX0, "advanceChannels", "(LOctalHouse$Memory;)V"⟩
abbrev cX0_takeInterrupt : ByteArray := prog_2_method_7_code
def yX0_takeInterrupt : MethodName := ⟨RX0, "takeInterrupt", "()I"⟩
abbrev cX0_flagOf : ByteArray := prog_2_method_8_code
def yX0_flagOf : MethodName := ⟨RX0, "flagOf", "(I)Z"⟩
abbrev cX0_putFlag : ByteArray := prog_2_method_9_code
def yX0_putFlag : MethodName := ⟨RX0, "putFlag", "(IZ)V"⟩
abbrev cX0_tell : ByteArray := prog_2_method_10_code
def yX0_tell : MethodName := ⟨RX0, "tell", "(I)I"⟩
abbrev cX0_take : ByteArray := prog_2_method_11_code
def yX0_take : MethodName := ⟨RX0, "take", "(II)V"⟩
abbrev cX0_putControl : ByteArray := prog_2_method_12_code
def yX0_putControl : MethodName := ⟨RX0, "putControl", "(IZ)V"⟩
abbrev cX0_putLineControl : ByteArray := prog_2_method_13_code
def yX0_putLineControl : MethodName := ⟨RX0, "putLineControl", "(IZ)V"⟩
abbrev cX0_resetAllControls : ByteArray := prog_2_method_14_code
def yX0_resetAllControls : MethodName := ⟨RX0, "resetAllControls", "()V"⟩
def RX1 : String := "OctalHouse$Channel"
def TX1 : u_T := fun k => match k with
  | 0 => ("OctalHouse$Channel", "line", "LOctalHouse$Line;", true)
  | 1 => ("OctalHouse$Channel", "active", "Z", false)
  | 2 => ("OctalHouse$Channel", "address", "I", false)
  | 3 => ("OctalHouse$Channel", "count", "I", false)
  | 4 => ("OctalHouse$Channel", "goesIn", "Z", false)
  | 5 => ("OctalHouse$Channel", "firstWord", "I", false)
  | 6 => ("OctalHouse$Channel", "moved", "I", false)
  | _ => ("OctalHouse$Channel", "countComesNext", "Z", false)
def tyX1 : Nat → FieldType := fun k => match k with
  | 0 => .object "OctalHouse$Line"
  | 1 => .boolean
  | 2 => .int
  | 3 => .int
  | 4 => .boolean
  | 5 => .int
  | 6 => .int
  | _ => .boolean
abbrev wsX10 : List Cond := u_ws RX1 TX1 8
theorem nmX1 : ∀ a, a < 8 → ∀ b, b < 8 → a ≠ b → (TX1 a).2.1 ≠ (TX1 b).2.1 := by decide +kernel
theorem tyX1_ok : ∀ k, k < 8 → parseFieldDescriptor (TX1 k).2.2.1 = some (tyX1 k) := by decide +kernel
abbrev cX1_init : ByteArray := prog_3_method_1_code
def yX1_init : MethodName := ⟨RX1, "<init>", "()V"⟩
abbrev cX1_move : ByteArray := prog_3_method_2_code
def yX1_move : MethodName := ⟨RX1, "move", "(LOctalHouse$Device;LOctalHouse$Memory;)V"⟩
abbrev cX1_finish : ByteArray := prog_3_method_3_code
def yX1_finish : MethodName := ⟨RX1, "finish", "(LOctalHouse$Device;)V"⟩
abbrev cX1_takeRegister : ByteArray := prog_3_method_4_code
def yX1_takeRegister : MethodName := ⟨RX1, "takeRegister", "(I)V"⟩
abbrev cX1_tellPart : ByteArray := prog_3_method_5_code
def yX1_tellPart : MethodName := ⟨RX1, "tellPart", "(I)I"⟩
def RX2 : String := "OctalHouse$Device"
def TX2 : u_T := fun k => match k with
  | 0 => ("OctalHouse$Device", "line", "LOctalHouse$Line;", true)
  | 1 => ("OctalHouse$Device", "tape", "[I", true)
  | 2 => ("OctalHouse$Device", "kept", "[I", true)
  | 3 => ("OctalHouse$Device", "takesIn", "Z", false)
  | 4 => ("OctalHouse$Device", "delay", "I", false)
  | 5 => ("OctalHouse$Device", "buffer", "I", false)
  | 6 => ("OctalHouse$Device", "busy", "I", false)
  | 7 => ("OctalHouse$Device", "tapeStart", "I", false)
  | 8 => ("OctalHouse$Device", "tapeLength", "I", false)
  | _ => ("OctalHouse$Device", "wentOut", "I", false)
def tyX2 : Nat → FieldType := fun k => match k with
  | 0 => .object "OctalHouse$Line"
  | 1 => .array .int
  | 2 => .array .int
  | 3 => .boolean
  | 4 => .int
  | 5 => .int
  | 6 => .int
  | 7 => .int
  | 8 => .int
  | _ => .int
abbrev wsX20 : List Cond := u_ws RX2 TX2 10
theorem nmX2 : ∀ a, a < 10 → ∀ b, b < 10 → a ≠ b → (TX2 a).2.1 ≠ (TX2 b).2.1 := by decide +kernel
theorem tyX2_ok : ∀ k, k < 10 → parseFieldDescriptor (TX2 k).2.2.1 = some (tyX2 k) := by decide +kernel
abbrev cX2_init : ByteArray := prog_4_method_1_code
def yX2_init : MethodName := ⟨RX2, "<init>", "()V"⟩
abbrev cX2_equip : ByteArray := prog_4_method_2_code
def yX2_equip : MethodName := ⟨RX2, "equip", "(ZI)V"⟩
abbrev cX2_start : ByteArray := prog_4_method_3_code
def yX2_start : MethodName := ⟨RX2, "start", "()V"⟩
abbrev cX2_advance : ByteArray := prog_4_method_4_code
def yX2_advance : MethodName := ⟨RX2, "advance", "()V"⟩
abbrev cX2_putOnTape : ByteArray := prog_4_method_5_code
def yX2_putOnTape : MethodName := ⟨RX2, "putOnTape", "(I)V"⟩
abbrev cX2_takeFromTape : ByteArray := prog_4_method_6_code
def yX2_takeFromTape : MethodName := ⟨RX2, "takeFromTape", "()I"⟩
abbrev cX2_putOut : ByteArray := prog_4_method_7_code
def yX2_putOut : MethodName := ⟨RX2, "putOut", "(I)V"⟩
abbrev cX2_keptOut : ByteArray := prog_4_method_8_code
def yX2_keptOut : MethodName := ⟨RX2, "keptOut", "(I)I"⟩
abbrev cX2_tellPart : ByteArray := prog_4_method_9_code
def yX2_tellPart : MethodName := ⟨RX2, "tellPart", "(I)I"⟩
def RX3 : String := "OctalHouse$Line"
def TX3 : u_T := fun k => match k with
  | 0 => ("OctalHouse$Line", "control", "Z", false)
  | 1 => ("OctalHouse$Line", "flag", "Z", false)
  | _ => ("OctalHouse$Line", "asks", "Z", false)
def tyX3 : Nat → FieldType := fun k => match k with
  | 0 => .boolean
  | 1 => .boolean
  | _ => .boolean
abbrev wsX30 : List Cond := u_ws RX3 TX3 3
theorem nmX3 : ∀ a, a < 3 → ∀ b, b < 3 → a ≠ b → (TX3 a).2.1 ≠ (TX3 b).2.1 := by decide +kernel
theorem tyX3_ok : ∀ k, k < 3 → parseFieldDescriptor (TX3 k).2.2.1 = some (tyX3 k) := by decide +kernel
abbrev cX3_init : ByteArray := prog_5_method_1_code
def yX3_init : MethodName := ⟨RX3, "<init>", "()V"⟩
abbrev cX3_putFlag : ByteArray := prog_5_method_2_code
def yX3_putFlag : MethodName := ⟨RX3, "putFlag", "(Z)V"⟩
def RX4 : String := "OctalHouse$Memory"
def TX4 : u_T := fun k => match k with
  | _ => ("OctalHouse$Memory", "words", "[I", true)
def tyX4 : Nat → FieldType := fun k => match k with
  | _ => .array .int
abbrev wsX40 : List Cond := u_ws RX4 TX4 1
theorem nmX4 : ∀ a, a < 1 → ∀ b, b < 1 → a ≠ b → (TX4 a).2.1 ≠ (TX4 b).2.1 := by decide +kernel
theorem tyX4_ok : ∀ k, k < 1 → parseFieldDescriptor (TX4 k).2.2.1 = some (tyX4 k) := by decide +kernel
abbrev cX4_init : ByteArray := prog_6_method_1_code
def yX4_init : MethodName := ⟨RX4, "<init>", "()V"⟩
abbrev cX4_read : ByteArray := prog_6_method_2_code
def yX4_read : MethodName := ⟨RX4, "read", "(I)I"⟩
abbrev cX4_write : ByteArray := prog_6_method_3_code
def yX4_write : MethodName := ⟨RX4, "write", "(II)V"⟩
def RX5 : String := "OctalHouse$Processor"
def TX5 : u_T := fun k => match k with
  | 0 => ("OctalHouse$Processor", "memory", "LOctalHouse$Memory;", true)
  | 1 => ("OctalHouse$Processor", "registers", "LOctalHouse$Registers;", true)
  | _ => ("OctalHouse$Processor", "bus", "LOctalHouse$Bus;", true)
def tyX5 : Nat → FieldType := fun k => match k with
  | 0 => .object "OctalHouse$Memory"
  | 1 => .object "OctalHouse$Registers"
  | _ => .object "OctalHouse$Bus"
abbrev wsX50 : List Cond := u_ws RX5 TX5 3
theorem nmX5 : ∀ a, a < 3 → ∀ b, b < 3 → a ≠ b → (TX5 a).2.1 ≠ (TX5 b).2.1 := by decide +kernel
theorem tyX5_ok : ∀ k, k < 3 → parseFieldDescriptor (TX5 k).2.2.1 = some (tyX5 k) := by decide +kernel
abbrev cX5_init : ByteArray := prog_7_method_1_code
def yX5_init : MethodName := ⟨RX5, "<init>", "(LOctalHouse$Memory;LOctalHouse$Registers;LOctalHouse$Bus;)V"⟩
abbrev cX5_nextWord : ByteArray := prog_7_method_2_code
def yX5_nextWord : MethodName := ⟨RX5, "nextWord", "()I"⟩
abbrev cX5_perform : ByteArray := prog_7_method_3_code
def yX5_perform : MethodName := ⟨RX5, "perform", "(II)V"⟩
abbrev cX5_resolve : ByteArray := prog_7_method_4_code
def yX5_resolve : MethodName := ⟨RX5, "resolve", "(I)I"⟩
abbrev cX5_referToMemory : ByteArray := prog_7_method_5_code
def yX5_referToMemory : MethodName := ⟨RX5, "referToMemory", "(II)V"⟩
abbrev cX5_registerOf : ByteArray := prog_7_method_6_code
def yX5_registerOf : MethodName := ⟨RX5, "registerOf", "(I)I"⟩
abbrev cX5_skipIf : ByteArray := prog_7_method_7_code
def yX5_skipIf : MethodName := ⟨RX5, "skipIf", "(Z)V"⟩
abbrev cX5_jump : ByteArray := prog_7_method_8_code
def yX5_jump : MethodName := ⟨RX5, "jump", "(IZ)V"⟩
abbrev cX5_incrementAndSkip : ByteArray := prog_7_method_9_code
def yX5_incrementAndSkip : MethodName := ⟨RX5, "incrementAndSkip", "(II)V"⟩
abbrev cX5_add : ByteArray := prog_7_method_10_code
def yX5_add : MethodName := ⟨RX5, "add", "(II)V"⟩
abbrev cX5_shiftAndSkip : ByteArray := prog_7_method_11_code
def yX5_shiftAndSkip : MethodName := ⟨RX5, "shiftAndSkip", "(I)V"⟩
abbrev cX5_shifted : ByteArray := prog_7_method_12_code
def yX5_shifted : MethodName := ⟨RX5, "shifted", "(II)I"⟩
abbrev cX5_throughE : ByteArray := prog_7_method_13_code
def yX5_throughE : MethodName := ⟨RX5, "throughE", "(II)I"⟩
abbrev cX5_alterAndSkip : ByteArray := prog_7_method_14_code
def yX5_alterAndSkip : MethodName := ⟨RX5, "alterAndSkip", "(I)V"⟩
abbrev cX5_altered : ByteArray := prog_7_method_15_code
def yX5_altered : MethodName := ⟨RX5, "altered", "(II)I"⟩
abbrev cX5_alteredE : ByteArray := prog_7_method_16_code
def yX5_alteredE : MethodName := ⟨RX5, "alteredE", "(II)I"⟩
abbrev cX5_incremented : ByteArray := prog_7_method_17_code
def yX5_incremented : MethodName := ⟨RX5, "incremented", "(I)I"⟩
abbrev cX5_inputOrOutput : ByteArray := prog_7_method_18_code
def yX5_inputOrOutput : MethodName := ⟨RX5, "inputOrOutput", "(I)V"⟩
abbrev cX5_hasAddressBehind : ByteArray := prog_7_method_19_code
def yX5_hasAddressBehind : MethodName := ⟨RX5, "hasAddressBehind", "(I)Z"⟩
abbrev cX5_doubleWord : ByteArray := prog_7_method_20_code
def yX5_doubleWord : MethodName := ⟨RX5, "doubleWord", "(II)V"⟩
abbrev cX5_writeTwo : ByteArray := prog_7_method_21_code
def yX5_writeTwo : MethodName := ⟨RX5, "writeTwo", "(IIII)V"⟩
abbrev cX5_readPair : ByteArray := prog_7_method_22_code
def yX5_readPair : MethodName := ⟨RX5, "readPair", "()I"⟩
abbrev cX5_writePair : ByteArray := prog_7_method_23_code
def yX5_writePair : MethodName := ⟨RX5, "writePair", "(I)V"⟩
abbrev cX5_multiply : ByteArray := prog_7_method_24_code
def yX5_multiply : MethodName := ⟨RX5, "multiply", "(I)V"⟩
abbrev cX5_divide : ByteArray := prog_7_method_25_code
def yX5_divide : MethodName := ⟨RX5, "divide", "(I)V"⟩
abbrev cX5_longShift : ByteArray := prog_7_method_26_code
def yX5_longShift : MethodName := ⟨RX5, "longShift", "(I)V"⟩
abbrev cX5_losesUnlikeSign : ByteArray := prog_7_method_27_code
def yX5_losesUnlikeSign : MethodName := ⟨RX5, "losesUnlikeSign", "(II)Z"⟩
def RX6 : String := "OctalHouse$Registers"
def TX6 : u_T := fun k => match k with
  | 0 => ("OctalHouse$Registers", "p", "I", false)
  | 1 => ("OctalHouse$Registers", "e", "I", false)
  | 2 => ("OctalHouse$Registers", "o", "I", false)
  | 3 => ("OctalHouse$Registers", "heldOff", "Z", false)
  | 4 => ("OctalHouse$Registers", "halted", "Z", false)
  | _ => ("OctalHouse$Registers", "haltCode", "I", false)
def tyX6 : Nat → FieldType := fun k => match k with
  | 0 => .int
  | 1 => .int
  | 2 => .int
  | 3 => .boolean
  | 4 => .boolean
  | _ => .int
abbrev wsX60 : List Cond := u_ws RX6 TX6 6
theorem nmX6 : ∀ a, a < 6 → ∀ b, b < 6 → a ≠ b → (TX6 a).2.1 ≠ (TX6 b).2.1 := by decide +kernel
theorem tyX6_ok : ∀ k, k < 6 → parseFieldDescriptor (TX6 k).2.2.1 = some (tyX6 k) := by decide +kernel
abbrev cX6_init : ByteArray := prog_8_method_1_code
def yX6_init : MethodName := ⟨RX6, "<init>", "()V"⟩
abbrev cX6_stepOn : ByteArray := prog_8_method_2_code
def yX6_stepOn : MethodName := ⟨RX6, "stepOn", "()V"⟩
abbrev cX6_halt : ByteArray := prog_8_method_3_code
def yX6_halt : MethodName := ⟨RX6, "halt", "(I)V"⟩
def RX7 : String := "OctalHouse"
def TX7 : u_T := fun k => match k with
  | 0 => ("OctalHouse", "memory", "LOctalHouse$Memory;", true)
  | 1 => ("OctalHouse", "registers", "LOctalHouse$Registers;", true)
  | 2 => ("OctalHouse", "bus", "LOctalHouse$Bus;", true)
  | 3 => ("OctalHouse", "processor", "LOctalHouse$Processor;", true)
  | 4 => ("OctalHouse", "turns", "I", false)
  | 5 => ("OctalHouse", "served", "I", false)
  | _ => ("OctalHouse", "latestServed", "I", false)
def tyX7 : Nat → FieldType := fun k => match k with
  | 0 => .object "OctalHouse$Memory"
  | 1 => .object "OctalHouse$Registers"
  | 2 => .object "OctalHouse$Bus"
  | 3 => .object "OctalHouse$Processor"
  | 4 => .int
  | 5 => .int
  | _ => .int
abbrev wsX70 : List Cond := u_ws RX7 TX7 7
theorem nmX7 : ∀ a, a < 7 → ∀ b, b < 7 → a ≠ b → (TX7 a).2.1 ≠ (TX7 b).2.1 := by decide +kernel
theorem tyX7_ok : ∀ k, k < 7 → parseFieldDescriptor (TX7 k).2.2.1 = some (tyX7 k) := by decide +kernel
abbrev cX7_init : ByteArray := prog_1_method_1_code
def yX7_init : MethodName := ⟨RX7, "<init>", "()V"⟩
abbrev cX7_run : ByteArray := prog_1_method_2_code
def yX7_run : MethodName := ⟨RX7, "run", "(I)I"⟩
abbrev cX7_go : ByteArray := prog_1_method_3_code
def yX7_go : MethodName := ⟨RX7, "go", "(I)V"⟩
abbrev cX7_word : ByteArray := prog_1_method_4_code
def yX7_word : MethodName := ⟨RX7, "word", "(I)I"⟩
abbrev cX7_set : ByteArray := prog_1_method_5_code
def yX7_set : MethodName := ⟨RX7, "set", "(II)V"⟩
abbrev cX7_state : ByteArray := prog_1_method_6_code
def yX7_state : MethodName := ⟨RX7, "state", "(I)I"⟩
abbrev cX7_switches : ByteArray := prog_1_method_7_code
def yX7_switches : MethodName := ⟨RX7, "switches", "(I)V"⟩
abbrev cX7_device : ByteArray := prog_1_method_8_code
def yX7_device : MethodName := ⟨RX7, "device", "(IZI)V"⟩
abbrev cX7_give : ByteArray := prog_1_method_9_code
def yX7_give : MethodName := ⟨RX7, "give", "(II)I"⟩
abbrev cX7_out : ByteArray := prog_1_method_10_code
def yX7_out : MethodName := ⟨RX7, "out", "(II)I"⟩
abbrev cX7_code : ByteArray := prog_1_method_11_code
def yX7_code : MethodName := ⟨RX7, "code", "(II)I"⟩
abbrev cX7_sum : ByteArray := prog_1_method_12_code
def yX7_sum : MethodName := ⟨RX7, "sum", "()I"⟩
abbrev cX7_doTurn : ByteArray := prog_1_method_13_code
def yX7_doTurn : MethodName := ⟨RX7, "doTurn", "()V"⟩
abbrev cX7_bit : ByteArray := prog_1_method_14_code
def yX7_bit : MethodName := ⟨RX7, "bit", "(Z)I"⟩
def RX8 : String := "OctalHouseModel"
def TX8 : u_T := fun k => match k with
  | 0 => ("OctalHouseModel", "thrown", "I", false)
  | 1 => ("OctalHouseModel", "memory", "[I", true)
  | 2 => ("OctalHouseModel", "a", "I", false)
  | 3 => ("OctalHouseModel", "b", "I", false)
  | 4 => ("OctalHouseModel", "p", "I", false)
  | 5 => ("OctalHouseModel", "e", "I", false)
  | 6 => ("OctalHouseModel", "o", "I", false)
  | 7 => ("OctalHouseModel", "isOn", "Z", false)
  | 8 => ("OctalHouseModel", "heldOff", "Z", false)
  | 9 => ("OctalHouseModel", "nowHeld", "Z", false)
  | 10 => ("OctalHouseModel", "halted", "Z", false)
  | 11 => ("OctalHouseModel", "haltCode", "I", false)
  | 12 => ("OctalHouseModel", "lamps", "I", false)
  | 13 => ("OctalHouseModel", "switches", "I", false)
  | 14 => ("OctalHouseModel", "turns", "I", false)
  | 15 => ("OctalHouseModel", "served", "I", false)
  | 16 => ("OctalHouseModel", "servedCode", "I", false)
  | 17 => ("OctalHouseModel", "control", "[Z", true)
  | 18 => ("OctalHouseModel", "flag", "[Z", true)
  | 19 => ("OctalHouseModel", "asks", "[Z", true)
  | 20 => ("OctalHouseModel", "active", "[Z", true)
  | 21 => ("OctalHouseModel", "goesIn", "[Z", true)
  | 22 => ("OctalHouseModel", "takesCount", "[Z", true)
  | 23 => ("OctalHouseModel", "address", "[I", true)
  | 24 => ("OctalHouseModel", "count", "[I", true)
  | 25 => ("OctalHouseModel", "firstWord", "[I", true)
  | 26 => ("OctalHouseModel", "moved", "[I", true)
  | 27 => ("OctalHouseModel", "givesOut", "[Z", true)
  | 28 => ("OctalHouseModel", "delay", "[I", true)
  | 29 => ("OctalHouseModel", "buffer", "[I", true)
  | 30 => ("OctalHouseModel", "busy", "[I", true)
  | 31 => ("OctalHouseModel", "tapeMany", "[I", true)
  | 32 => ("OctalHouseModel", "outMany", "[I", true)
  | 33 => ("OctalHouseModel", "tape", "[I", true)
  | _ => ("OctalHouseModel", "out", "[I", true)
def tyX8 : Nat → FieldType := fun k => match k with
  | 0 => .int
  | 1 => .array .int
  | 2 => .int
  | 3 => .int
  | 4 => .int
  | 5 => .int
  | 6 => .int
  | 7 => .boolean
  | 8 => .boolean
  | 9 => .boolean
  | 10 => .boolean
  | 11 => .int
  | 12 => .int
  | 13 => .int
  | 14 => .int
  | 15 => .int
  | 16 => .int
  | 17 => .array .boolean
  | 18 => .array .boolean
  | 19 => .array .boolean
  | 20 => .array .boolean
  | 21 => .array .boolean
  | 22 => .array .boolean
  | 23 => .array .int
  | 24 => .array .int
  | 25 => .array .int
  | 26 => .array .int
  | 27 => .array .boolean
  | 28 => .array .int
  | 29 => .array .int
  | 30 => .array .int
  | 31 => .array .int
  | 32 => .array .int
  | 33 => .array .int
  | _ => .array .int
abbrev wsX80 : List Cond := u_ws RX8 TX8 35
theorem nmX8 : ∀ a, a < 35 → ∀ b, b < 35 → a ≠ b → (TX8 a).2.1 ≠ (TX8 b).2.1 := by decide +kernel
theorem tyX8_ok : ∀ k, k < 35 → parseFieldDescriptor (TX8 k).2.2.1 = some (tyX8 k) := by decide +kernel
abbrev cX8_init : ByteArray := prog_10_method_1_code
def yX8_init : MethodName := ⟨RX8, "<init>", "()V"⟩
abbrev cX8_thrown : ByteArray := prog_10_method_2_code
def yX8_thrown : MethodName := ⟨RX8, "thrown", "()I"⟩
abbrev cX8_at : ByteArray := prog_10_method_3_code
def yX8_at : MethodName := ⟨RX8, "at", "(I)I"⟩
abbrev cX8_put : ByteArray := prog_10_method_4_code
def yX8_put : MethodName := ⟨RX8, "put", "(II)V"⟩
abbrev cX8_more : ByteArray := prog_10_method_5_code
def yX8_more : MethodName := ⟨RX8, "more", "(I)I"⟩
abbrev cX8_skip : ByteArray := prog_10_method_6_code
def yX8_skip : MethodName := ⟨RX8, "skip", "(Z)V"⟩
abbrev cX8_direct : ByteArray := prog_10_method_7_code
def yX8_direct : MethodName := ⟨RX8, "direct", "(I)I"⟩
abbrev cX8_started : ByteArray := prog_10_method_8_code
def yX8_started : MethodName := ⟨RX8, "started", "(I)V"⟩
abbrev cX8_ready : ByteArray := prog_10_method_9_code
def yX8_ready : MethodName := ⟨RX8, "ready", "(I)V"⟩
abbrev cX8_channel : ByteArray := prog_10_method_10_code
def yX8_channel : MethodName := ⟨RX8, "channel", "(I)V"⟩
abbrev cX8_turn : ByteArray := prog_10_method_11_code
def yX8_turn : MethodName := ⟨RX8, "turn", "()V"⟩
abbrev cX8_does : ByteArray := prog_10_method_12_code
def yX8_does : MethodName := ⟨RX8, "does", "(II)V"⟩
abbrev cX8_memoryWord : ByteArray := prog_10_method_13_code
def yX8_memoryWord : MethodName := ⟨RX8, "memoryWord", "(II)V"⟩
abbrev cX8_signed : ByteArray := prog_10_method_14_code
def yX8_signed : MethodName := ⟨RX8, "signed", "(I)I"⟩
abbrev cX8_sum : ByteArray := prog_10_method_15_code
def yX8_sum : MethodName := ⟨RX8, "sum", "(II)I"⟩
abbrev cX8_shifted : ByteArray := prog_10_method_16_code
def yX8_shifted : MethodName := ⟨RX8, "shifted", "(II)I"⟩
abbrev cX8_is : ByteArray := prog_10_method_17_code
def yX8_is : MethodName := ⟨RX8, "is", "(II)Z"⟩
abbrev cX8_registers : ByteArray := prog_10_method_18_code
def yX8_registers : MethodName := ⟨RX8, "registers", "(I)V"⟩
abbrev cX8_altered : ByteArray := prog_10_method_19_code
def yX8_altered : MethodName := ⟨RX8, "altered", "(II)I"⟩
abbrev cX8_flagOf : ByteArray := prog_10_method_20_code
def yX8_flagOf : MethodName := ⟨RX8, "flagOf", "(I)Z"⟩
abbrev cX8_setFlag : ByteArray := prog_10_method_21_code
def yX8_setFlag : MethodName := ⟨RX8, "setFlag", "(IZ)V"⟩
abbrev cX8_told : ByteArray := prog_10_method_22_code
def yX8_told : MethodName := ⟨RX8, "told", "(I)I"⟩
abbrev cX8_goes : ByteArray := prog_10_method_23_code
def yX8_goes : MethodName := ⟨RX8, "goes", "(II)V"⟩
abbrev cX8_setControl : ByteArray := prog_10_method_24_code
def yX8_setControl : MethodName := ⟨RX8, "setControl", "(IZ)V"⟩
abbrev cX8_codes : ByteArray := prog_10_method_25_code
def yX8_codes : MethodName := ⟨RX8, "codes", "(I)V"⟩
abbrev cX8_both : ByteArray := prog_10_method_26_code
def yX8_both : MethodName := ⟨RX8, "both", "()J"⟩
abbrev cX8_both_ : ByteArray := prog_10_method_27_code
def yX8_both_ : MethodName := ⟨RX8, "both", "(J)V"⟩
abbrev cX8_extended : ByteArray := prog_10_method_28_code
def yX8_extended : MethodName := ⟨RX8, "extended", "(I)V"⟩
abbrev cX8_leftSigned : ByteArray := prog_10_method_29_code
def yX8_leftSigned : MethodName := ⟨RX8, "leftSigned", "(I)V"⟩
abbrev cX8_twoWords : ByteArray := prog_10_method_30_code
def yX8_twoWords : MethodName := ⟨RX8, "twoWords", "(II)V"⟩
abbrev cX8_run : ByteArray := prog_10_method_31_code
def yX8_run : MethodName := ⟨RX8, "run", "(I)I"⟩
abbrev cX8_go : ByteArray := prog_10_method_32_code
def yX8_go : MethodName := ⟨RX8, "go", "(I)V"⟩
abbrev cX8_lacks : ByteArray := prog_10_method_33_code
def yX8_lacks : MethodName := ⟨RX8, "lacks", "(II)Z"⟩
abbrev cX8_word : ByteArray := prog_10_method_34_code
def yX8_word : MethodName := ⟨RX8, "word", "(I)I"⟩
abbrev cX8_set : ByteArray := prog_10_method_35_code
def yX8_set : MethodName := ⟨RX8, "set", "(II)V"⟩
abbrev cX8_state : ByteArray := prog_10_method_36_code
def yX8_state : MethodName := ⟨RX8, "state", "(I)I"⟩
abbrev cX8_switches : ByteArray := prog_10_method_37_code
def yX8_switches : MethodName := ⟨RX8, "switches", "(I)V"⟩
abbrev cX8_device : ByteArray := prog_10_method_38_code
def yX8_device : MethodName := ⟨RX8, "device", "(IZI)V"⟩
abbrev cX8_give : ByteArray := prog_10_method_39_code
def yX8_give : MethodName := ⟨RX8, "give", "(II)I"⟩
abbrev cX8_out : ByteArray := prog_10_method_40_code
def yX8_out : MethodName := ⟨RX8, "out", "(II)I"⟩
abbrev cX8_code : ByteArray := prog_10_method_41_code
def yX8_code : MethodName := ⟨RX8, "code", "(II)I"⟩
abbrev cX8_sum_ : ByteArray := prog_10_method_42_code
def yX8_sum_ : MethodName := ⟨RX8, "sum", "()I"⟩
def RJ0 : String := "java/lang/String"
def TJ0 : u_T := fun k => match k with
  | _ => ("", "", "", false)
def tyJ0 : Nat → FieldType := fun k => match k with
  | _ => .int
abbrev wsJ00 : List Cond := u_ws RJ0 TJ0 0
theorem nmJ0 : ∀ a, a < 0 → ∀ b, b < 0 → a ≠ b → (TJ0 a).2.1 ≠ (TJ0 b).2.1 := by decide +kernel
theorem tyJ0_ok : ∀ k, k < 0 → parseFieldDescriptor (TJ0 k).2.2.1 = some (tyJ0 k) := by decide +kernel
def RL : String := "OctalHouseLaw"
abbrev cL_run : ByteArray := method_3_code
def yL_run : MethodName := ⟨RL, "run", "(LOctalHouse;I[J)I"⟩
abbrev cL_word : ByteArray := method_4_code
def yL_word : MethodName := ⟨RL, "word", "(LOctalHouse;I[J)I"⟩
abbrev cL_set : ByteArray := method_5_code
def yL_set : MethodName := ⟨RL, "set", "(LOctalHouse;II)I"⟩
abbrev cL_device : ByteArray := method_6_code
def yL_device : MethodName := ⟨RL, "device", "(LOctalHouse;IZI)I"⟩
abbrev cL_give : ByteArray := method_7_code
def yL_give : MethodName := ⟨RL, "give", "(LOctalHouse;II[J)I"⟩
abbrev cL_out : ByteArray := method_8_code
def yL_out : MethodName := ⟨RL, "out", "(LOctalHouse;II[J)I"⟩
abbrev cL_law : ByteArray := code
def yL_law : MethodName := ⟨RL, "law", "([I)Z"⟩
def wsX3_init : List Cond := .code yX3_init cX3_init 1 none :: ([.methodLink RX3 1 objectInit, .instanceMethod objectInit, .code objectInit ⟨#[0xb1]⟩ 1 none])
def wsX1_init : List Cond := .code yX1_init cX1_init 1 none :: ([.methodLink RX1 3 objectInit, .instanceMethod objectInit, .code objectInit ⟨#[0xb1]⟩ 1 none, .classLink RX1 9 RX3, .instantiable RX3 3, .initialized RX3, .fieldLink RX1 12 "OctalHouse$Channel" "line" "LOctalHouse$Line;", .instanceMethod yX3_init, .code yX3_init cX3_init 1 none, .methodLink RX3 1 objectInit] ++ wsX30 ++ wsX10)
def wsX2_init : List Cond := .code yX2_init cX2_init 1 none :: ([.methodLink RX2 3 objectInit, .instanceMethod objectInit, .code objectInit ⟨#[0xb1]⟩ 1 none, .classLink RX2 9 RX3, .instantiable RX3 3, .initialized RX3, .fieldLink RX2 12 "OctalHouse$Device" "line" "LOctalHouse$Line;", .arrayClass .int, .fieldLink RX2 18 "OctalHouse$Device" "tape" "[I", .fieldLink RX2 22 "OctalHouse$Device" "kept" "[I", .fieldLink RX2 25 "OctalHouse$Device" "takesIn" "Z", .fieldLink RX2 29 "OctalHouse$Device" "delay" "I", .instanceMethod yX3_init, .code yX3_init cX3_init 1 none, .methodLink RX3 1 objectInit] ++ wsX30 ++ wsX20)
def wsX0_init_r1 : List Cond := [Cond.methodLink RX0 3 objectInit, Cond.instanceMethod objectInit, Cond.code objectInit ⟨#[0xb1]⟩ 1 none, Cond.classLink RX0 9 RX1, Cond.fieldLink RX0 11 "OctalHouse$Bus" "channels" "[LOctalHouse$Channel;", Cond.classLink RX0 17 RX2, Cond.fieldLink RX0 19 "OctalHouse$Bus" "devices" "[LOctalHouse$Device;", Cond.classLink RX0 23 RX3, Cond.fieldLink RX0 25 "OctalHouse$Bus" "lines" "[LOctalHouse$Line;", Cond.fieldLink RX0 29 "OctalHouse$Bus" "registers" "LOctalHouse$Registers;", Cond.instantiable RX1 8, Cond.initialized RX1, Cond.instantiable RX2 10, Cond.initialized RX2, Cond.instanceMethod yX1_init, Cond.code yX1_init cX1_init 1 none, Cond.methodLink RX1 3 objectInit, Cond.classLink RX1 9 RX3, Cond.instantiable RX3 3, Cond.initialized RX3, Cond.fieldLink RX1 12 "OctalHouse$Channel" "line" "LOctalHouse$Line;", Cond.instanceMethod yX3_init, Cond.code yX3_init cX3_init 1 none, Cond.methodLink RX3 1 objectInit]
def wsX0_init_r2 : List Cond := [Cond.instanceMethod yX2_init, Cond.code yX2_init cX2_init 1 none, Cond.methodLink RX2 3 objectInit, Cond.classLink RX2 9 RX3, Cond.fieldLink RX2 12 "OctalHouse$Device" "line" "LOctalHouse$Line;", Cond.arrayClass .int, Cond.fieldLink RX2 18 "OctalHouse$Device" "tape" "[I", Cond.fieldLink RX2 22 "OctalHouse$Device" "kept" "[I", Cond.fieldLink RX2 25 "OctalHouse$Device" "takesIn" "Z", Cond.fieldLink RX2 29 "OctalHouse$Device" "delay" "I"]
def wsX0_init : List Cond := .code yX0_init cX0_init 4 none :: ((wsX0_init_r1 ++ wsX0_init_r2) ++ wsX00 ++ wsX10 ++ wsX20 ++ wsX30)
def wsX0_channelAt : List Cond := .code yX0_channelAt cX0_channelAt 2 (some (.object "OctalHouse$Channel")) :: ([.fieldLink RX0 11 "OctalHouse$Bus" "channels" "[LOctalHouse$Channel;"] ++ wsX00)
def wsX0_deviceAt : List Cond := .code yX0_deviceAt cX0_deviceAt 2 (some (.object "OctalHouse$Device")) :: ([.fieldLink RX0 19 "OctalHouse$Bus" "devices" "[LOctalHouse$Device;"] ++ wsX00)
def wsX0_lineOf : List Cond := .code yX0_lineOf cX0_lineOf 3 (some (.object "OctalHouse$Line")) :: ([.fieldLink RX0 25 "OctalHouse$Bus" "lines" "[LOctalHouse$Line;"] ++ wsX00)
def wsX2_takeFromTape : List Cond := .code yX2_takeFromTape cX2_takeFromTape 2 (some .int) :: ([.fieldLink RX2 54 "OctalHouse$Device" "tapeLength" "I", .fieldLink RX2 51 "OctalHouse$Device" "tapeStart" "I", .fieldLink RX2 18 "OctalHouse$Device" "tape" "[I"] ++ wsX20)
def wsX2_putOut : List Cond := .code yX2_putOut cX2_putOut 2 none :: ([.fieldLink RX2 57 "OctalHouse$Device" "wentOut" "I", .fieldLink RX2 22 "OctalHouse$Device" "kept" "[I"] ++ wsX20)
def wsX3_putFlag : List Cond := .code yX3_putFlag cX3_putFlag 2 none :: ([.fieldLink RX3 7 "OctalHouse$Line" "flag" "Z", .fieldLink RX3 13 "OctalHouse$Line" "asks" "Z"] ++ wsX30)
def wsX2_advance_r1 : List Cond := [Cond.fieldLink RX2 33 "OctalHouse$Device" "busy" "I", Cond.fieldLink RX2 25 "OctalHouse$Device" "takesIn" "Z", Cond.fieldLink RX2 36 "OctalHouse$Device" "buffer" "I", Cond.fieldLink RX2 12 "OctalHouse$Device" "line" "LOctalHouse$Line;", Cond.methodLink RX2 39 yX2_takeFromTape, Cond.instanceMethod yX2_takeFromTape, Cond.selects RX2 yX2_takeFromTape yX2_takeFromTape, Cond.initialized RX2, Cond.code yX2_takeFromTape cX2_takeFromTape 2 (some .int), Cond.fieldLink RX2 54 "OctalHouse$Device" "tapeLength" "I", Cond.fieldLink RX2 51 "OctalHouse$Device" "tapeStart" "I", Cond.fieldLink RX2 18 "OctalHouse$Device" "tape" "[I", Cond.methodLink RX2 43 yX2_putOut, Cond.instanceMethod yX2_putOut, Cond.selects RX2 yX2_putOut yX2_putOut, Cond.code yX2_putOut cX2_putOut 2 none, Cond.fieldLink RX2 57 "OctalHouse$Device" "wentOut" "I", Cond.fieldLink RX2 22 "OctalHouse$Device" "kept" "[I", Cond.methodLink RX2 47 yX3_putFlag, Cond.instanceMethod yX3_putFlag, Cond.selects RX3 yX3_putFlag yX3_putFlag, Cond.initialized RX3, Cond.code yX3_putFlag cX3_putFlag 2 none, Cond.fieldLink RX3 7 "OctalHouse$Line" "flag" "Z"]
def wsX2_advance_r2 : List Cond := [Cond.fieldLink RX3 13 "OctalHouse$Line" "asks" "Z"]
def wsX2_advance : List Cond := .code yX2_advance cX2_advance 1 none :: ((wsX2_advance_r1 ++ wsX2_advance_r2) ++ wsX20 ++ wsX30)
def wsX0_advanceDevices_r1 : List Cond := [Cond.methodLink RX0 40 yX0_deviceAt, Cond.instanceMethod yX0_deviceAt, Cond.selects RX0 yX0_deviceAt yX0_deviceAt, Cond.initialized RX0, Cond.code yX0_deviceAt cX0_deviceAt 2 (some (.object "OctalHouse$Device")), Cond.fieldLink RX0 19 "OctalHouse$Bus" "devices" "[LOctalHouse$Device;", Cond.methodLink RX0 44 yX2_advance, Cond.instanceMethod yX2_advance, Cond.selects RX2 yX2_advance yX2_advance, Cond.initialized RX2, Cond.code yX2_advance cX2_advance 1 none, Cond.fieldLink RX2 33 "OctalHouse$Device" "busy" "I", Cond.fieldLink RX2 25 "OctalHouse$Device" "takesIn" "Z", Cond.fieldLink RX2 36 "OctalHouse$Device" "buffer" "I", Cond.fieldLink RX2 12 "OctalHouse$Device" "line" "LOctalHouse$Line;", Cond.methodLink RX2 39 yX2_takeFromTape, Cond.instanceMethod yX2_takeFromTape, Cond.selects RX2 yX2_takeFromTape yX2_takeFromTape, Cond.code yX2_takeFromTape cX2_takeFromTape 2 (some .int), Cond.fieldLink RX2 54 "OctalHouse$Device" "tapeLength" "I", Cond.fieldLink RX2 51 "OctalHouse$Device" "tapeStart" "I", Cond.fieldLink RX2 18 "OctalHouse$Device" "tape" "[I", Cond.methodLink RX2 43 yX2_putOut, Cond.instanceMethod yX2_putOut]
def wsX0_advanceDevices_r2 : List Cond := [Cond.selects RX2 yX2_putOut yX2_putOut, Cond.code yX2_putOut cX2_putOut 2 none, Cond.fieldLink RX2 57 "OctalHouse$Device" "wentOut" "I", Cond.fieldLink RX2 22 "OctalHouse$Device" "kept" "[I", Cond.methodLink RX2 47 yX3_putFlag, Cond.instanceMethod yX3_putFlag, Cond.selects RX3 yX3_putFlag yX3_putFlag, Cond.initialized RX3, Cond.code yX3_putFlag cX3_putFlag 2 none, Cond.fieldLink RX3 7 "OctalHouse$Line" "flag" "Z", Cond.fieldLink RX3 13 "OctalHouse$Line" "asks" "Z"]
def wsX0_advanceDevices : List Cond := .code yX0_advanceDevices cX0_advanceDevices 3 none :: ((wsX0_advanceDevices_r1 ++ wsX0_advanceDevices_r2) ++ wsX00 ++ wsX20 ++ wsX30)
def wsX4_write : List Cond := .code yX4_write cX4_write 3 none :: ([.fieldLink RX4 9 "OctalHouse$Memory" "words" "[I", .constant RX4 15 (65535)] ++ wsX40)
def wsX4_read : List Cond := .code yX4_read cX4_read 2 (some .int) :: ([.fieldLink RX4 9 "OctalHouse$Memory" "words" "[I"] ++ wsX40)
def wsX1_finish : List Cond := .code yX1_finish cX1_finish 2 none :: ([.fieldLink RX1 12 "OctalHouse$Channel" "line" "LOctalHouse$Line;", .fieldLink RX1 67 "OctalHouse$Channel" "active" "Z", .fieldLink RX1 57 "OctalHouse$Channel" "firstWord" "I", .methodLink RX1 42 yX3_putFlag, .instanceMethod yX3_putFlag, .selects RX3 yX3_putFlag yX3_putFlag, .initialized RX3, .code yX3_putFlag cX3_putFlag 2 none, .fieldLink RX3 7 "OctalHouse$Line" "flag" "Z", .fieldLink RX3 13 "OctalHouse$Line" "asks" "Z"] ++ wsX10 ++ wsX20 ++ wsX30)
def wsX2_start : List Cond := .code yX2_start cX2_start 1 none :: ([.fieldLink RX2 29 "OctalHouse$Device" "delay" "I", .fieldLink RX2 33 "OctalHouse$Device" "busy" "I"] ++ wsX20)
def wsX1_move_r1 : List Cond := [Cond.fieldLink RX1 18 "OctalHouse$Channel" "goesIn" "Z", Cond.fieldLink RX1 22 "OctalHouse$Channel" "address" "I", Cond.fieldLink RX1 46 "OctalHouse$Channel" "count" "I", Cond.constant RX1 49 (65535), Cond.fieldLink RX1 50 "OctalHouse$Channel" "moved" "I", Cond.fieldLink RX1 57 "OctalHouse$Channel" "firstWord" "I", Cond.constant RX1 60 (32768), Cond.methodLink RX1 31 yX4_write, Cond.instanceMethod yX4_write, Cond.selects RX4 yX4_write yX4_write, Cond.initialized RX4, Cond.code yX4_write cX4_write 3 none, Cond.fieldLink RX4 9 "OctalHouse$Memory" "words" "[I", Cond.constant RX4 15 (65535), Cond.methodLink RX1 37 yX4_read, Cond.instanceMethod yX4_read, Cond.selects RX4 yX4_read yX4_read, Cond.code yX4_read cX4_read 2 (some .int), Cond.methodLink RX1 42 yX3_putFlag, Cond.instanceMethod yX3_putFlag, Cond.selects RX3 yX3_putFlag yX3_putFlag, Cond.initialized RX3, Cond.code yX3_putFlag cX3_putFlag 2 none, Cond.fieldLink RX3 7 "OctalHouse$Line" "flag" "Z"]
def wsX1_move_r2 : List Cond := [Cond.fieldLink RX3 13 "OctalHouse$Line" "asks" "Z", Cond.methodLink RX1 53 yX1_finish, Cond.instanceMethod yX1_finish, Cond.selects RX1 yX1_finish yX1_finish, Cond.initialized RX1, Cond.code yX1_finish cX1_finish 2 none, Cond.fieldLink RX1 12 "OctalHouse$Channel" "line" "LOctalHouse$Line;", Cond.fieldLink RX1 67 "OctalHouse$Channel" "active" "Z", Cond.methodLink RX1 64 yX2_start, Cond.instanceMethod yX2_start, Cond.selects RX2 yX2_start yX2_start, Cond.initialized RX2, Cond.code yX2_start cX2_start 1 none, Cond.fieldLink RX2 29 "OctalHouse$Device" "delay" "I", Cond.fieldLink RX2 33 "OctalHouse$Device" "busy" "I"]
def wsX1_move : List Cond := .code yX1_move cX1_move 3 none :: ((wsX1_move_r1 ++ wsX1_move_r2) ++ wsX10 ++ wsX20 ++ wsX30 ++ wsX40)
def wsX0_advanceChannels_r1 : List Cond := [Cond.methodLink RX0 47 yX0_channelAt, Cond.instanceMethod yX0_channelAt, Cond.selects RX0 yX0_channelAt yX0_channelAt, Cond.initialized RX0, Cond.code yX0_channelAt cX0_channelAt 2 (some (.object "OctalHouse$Channel")), Cond.fieldLink RX0 11 "OctalHouse$Bus" "channels" "[LOctalHouse$Channel;", Cond.methodLink RX0 40 yX0_deviceAt, Cond.instanceMethod yX0_deviceAt, Cond.selects RX0 yX0_deviceAt yX0_deviceAt, Cond.code yX0_deviceAt cX0_deviceAt 2 (some (.object "OctalHouse$Device")), Cond.fieldLink RX0 19 "OctalHouse$Bus" "devices" "[LOctalHouse$Device;", Cond.methodLink RX0 62 yX1_move, Cond.instanceMethod yX1_move, Cond.selects RX1 yX1_move yX1_move, Cond.initialized RX1, Cond.code yX1_move cX1_move 3 none, Cond.fieldLink RX1 18 "OctalHouse$Channel" "goesIn" "Z", Cond.fieldLink RX1 22 "OctalHouse$Channel" "address" "I", Cond.fieldLink RX1 46 "OctalHouse$Channel" "count" "I", Cond.constant RX1 49 (65535), Cond.fieldLink RX1 50 "OctalHouse$Channel" "moved" "I", Cond.fieldLink RX1 57 "OctalHouse$Channel" "firstWord" "I", Cond.constant RX1 60 (32768), Cond.methodLink RX1 31 yX4_write]
def wsX0_advanceChannels_r2 : List Cond := [Cond.instanceMethod yX4_write, Cond.selects RX4 yX4_write yX4_write, Cond.initialized RX4, Cond.code yX4_write cX4_write 3 none, Cond.fieldLink RX4 9 "OctalHouse$Memory" "words" "[I", Cond.constant RX4 15 (65535), Cond.methodLink RX1 37 yX4_read, Cond.instanceMethod yX4_read, Cond.selects RX4 yX4_read yX4_read, Cond.code yX4_read cX4_read 2 (some .int), Cond.methodLink RX1 42 yX3_putFlag, Cond.instanceMethod yX3_putFlag, Cond.selects RX3 yX3_putFlag yX3_putFlag, Cond.initialized RX3, Cond.code yX3_putFlag cX3_putFlag 2 none, Cond.fieldLink RX3 7 "OctalHouse$Line" "flag" "Z", Cond.fieldLink RX3 13 "OctalHouse$Line" "asks" "Z", Cond.methodLink RX1 53 yX1_finish, Cond.instanceMethod yX1_finish, Cond.selects RX1 yX1_finish yX1_finish, Cond.code yX1_finish cX1_finish 2 none, Cond.fieldLink RX1 12 "OctalHouse$Channel" "line" "LOctalHouse$Line;", Cond.fieldLink RX1 67 "OctalHouse$Channel" "active" "Z", Cond.methodLink RX1 64 yX2_start]
def wsX0_advanceChannels_r3 : List Cond := [Cond.instanceMethod yX2_start, Cond.selects RX2 yX2_start yX2_start, Cond.initialized RX2, Cond.code yX2_start cX2_start 1 none, Cond.fieldLink RX2 29 "OctalHouse$Device" "delay" "I", Cond.fieldLink RX2 33 "OctalHouse$Device" "busy" "I"]
def wsX0_advanceChannels : List Cond := .code yX0_advanceChannels cX0_advanceChannels 5 none :: ((wsX0_advanceChannels_r1 ++ (wsX0_advanceChannels_r2 ++ wsX0_advanceChannels_r3)) ++ wsX10 ++ wsX20 ++ wsX30 ++ wsX00 ++ wsX40)
def wsX0_takeInterrupt : List Cond := .code yX0_takeInterrupt cX0_takeInterrupt 4 (some .int) :: ([.methodLink RX0 66 yX0_lineOf, .instanceMethod yX0_lineOf, .selects RX0 yX0_lineOf yX0_lineOf, .initialized RX0, .code yX0_lineOf cX0_lineOf 3 (some (.object "OctalHouse$Line")), .fieldLink RX0 25 "OctalHouse$Bus" "lines" "[LOctalHouse$Line;"] ++ wsX30 ++ wsX00)
def wsX0_flagOf : List Cond := .code yX0_flagOf cX0_flagOf 3 (some .boolean) :: ([.fieldLink RX0 76 "OctalHouse$Bus" "interruptsOn" "Z", .fieldLink RX0 29 "OctalHouse$Bus" "registers" "LOctalHouse$Registers;", .methodLink RX0 66 yX0_lineOf, .instanceMethod yX0_lineOf, .selects RX0 yX0_lineOf yX0_lineOf, .initialized RX0, .code yX0_lineOf cX0_lineOf 3 (some (.object "OctalHouse$Line")), .fieldLink RX0 25 "OctalHouse$Bus" "lines" "[LOctalHouse$Line;"] ++ wsX00 ++ wsX60 ++ wsX30)
def wsX7_bit : List Cond := .code yX7_bit cX7_bit 1 (some .int) :: ([])
def wsX0_putFlag : List Cond := .code yX0_putFlag cX0_putFlag 4 none :: ([.fieldLink RX0 76 "OctalHouse$Bus" "interruptsOn" "Z", .fieldLink RX0 29 "OctalHouse$Bus" "registers" "LOctalHouse$Registers;", .static yX7_bit, .initialized RX7, .code yX7_bit cX7_bit 1 (some .int), .methodLink RX0 66 yX0_lineOf, .instanceMethod yX0_lineOf, .selects RX0 yX0_lineOf yX0_lineOf, .initialized RX0, .code yX0_lineOf cX0_lineOf 3 (some (.object "OctalHouse$Line")), .fieldLink RX0 25 "OctalHouse$Bus" "lines" "[LOctalHouse$Line;", .methodLink RX0 88 yX3_putFlag, .instanceMethod yX3_putFlag, .selects RX3 yX3_putFlag yX3_putFlag, .initialized RX3, .code yX3_putFlag cX3_putFlag 2 none, .fieldLink RX3 7 "OctalHouse$Line" "flag" "Z", .fieldLink RX3 13 "OctalHouse$Line" "asks" "Z"] ++ wsX00 ++ wsX60 ++ wsX30)
def wsX0_tell : List Cond := .code yX0_tell cX0_tell 4 (some .int) :: ([.fieldLink RX0 92 "OctalHouse$Bus" "switchWord" "I", .methodLink RX0 47 yX0_channelAt, .instanceMethod yX0_channelAt, .selects RX0 yX0_channelAt yX0_channelAt, .initialized RX0, .code yX0_channelAt cX0_channelAt 2 (some (.object "OctalHouse$Channel")), .fieldLink RX0 11 "OctalHouse$Bus" "channels" "[LOctalHouse$Channel;", .methodLink RX0 40 yX0_deviceAt, .instanceMethod yX0_deviceAt, .selects RX0 yX0_deviceAt yX0_deviceAt, .code yX0_deviceAt cX0_deviceAt 2 (some (.object "OctalHouse$Device")), .fieldLink RX0 19 "OctalHouse$Bus" "devices" "[LOctalHouse$Device;"] ++ wsX00 ++ wsX10 ++ wsX20)
def wsX1_takeRegister : List Cond := .code yX1_takeRegister cX1_takeRegister 2 none :: ([.fieldLink RX1 70 "OctalHouse$Channel" "countComesNext" "Z", .fieldLink RX1 46 "OctalHouse$Channel" "count" "I", .fieldLink RX1 22 "OctalHouse$Channel" "address" "I", .constant RX1 60 (32768), .fieldLink RX1 18 "OctalHouse$Channel" "goesIn" "Z"] ++ wsX10)
def wsX0_take : List Cond := .code yX0_take cX0_take 6 none :: ([.fieldLink RX0 101 "OctalHouse$Bus" "lamps" "I", .methodLink RX0 47 yX0_channelAt, .instanceMethod yX0_channelAt, .selects RX0 yX0_channelAt yX0_channelAt, .initialized RX0, .code yX0_channelAt cX0_channelAt 2 (some (.object "OctalHouse$Channel")), .fieldLink RX0 11 "OctalHouse$Bus" "channels" "[LOctalHouse$Channel;", .methodLink RX0 104 yX1_takeRegister, .instanceMethod yX1_takeRegister, .selects RX1 yX1_takeRegister yX1_takeRegister, .initialized RX1, .code yX1_takeRegister cX1_takeRegister 2 none, .fieldLink RX1 70 "OctalHouse$Channel" "countComesNext" "Z", .fieldLink RX1 46 "OctalHouse$Channel" "count" "I", .fieldLink RX1 22 "OctalHouse$Channel" "address" "I", .constant RX1 60 (32768), .fieldLink RX1 18 "OctalHouse$Channel" "goesIn" "Z", .methodLink RX0 40 yX0_deviceAt, .instanceMethod yX0_deviceAt, .selects RX0 yX0_deviceAt yX0_deviceAt, .code yX0_deviceAt cX0_deviceAt 2 (some (.object "OctalHouse$Device")), .fieldLink RX0 19 "OctalHouse$Bus" "devices" "[LOctalHouse$Device;"] ++ wsX00 ++ wsX10 ++ wsX20)
def wsX0_resetAllControls : List Cond := .code yX0_resetAllControls cX0_resetAllControls 3 none :: ([.methodLink RX0 66 yX0_lineOf, .instanceMethod yX0_lineOf, .selects RX0 yX0_lineOf yX0_lineOf, .initialized RX0, .code yX0_lineOf cX0_lineOf 3 (some (.object "OctalHouse$Line")), .fieldLink RX0 25 "OctalHouse$Bus" "lines" "[LOctalHouse$Line;", .methodLink RX0 47 yX0_channelAt, .instanceMethod yX0_channelAt, .selects RX0 yX0_channelAt yX0_channelAt, .code yX0_channelAt cX0_channelAt 2 (some (.object "OctalHouse$Channel")), .fieldLink RX0 11 "OctalHouse$Bus" "channels" "[LOctalHouse$Channel;"] ++ wsX30 ++ wsX10 ++ wsX00)
def wsX0_putLineControl : List Cond := .code yX0_putLineControl cX0_putLineControl 6 none :: ([.methodLink RX0 66 yX0_lineOf, .instanceMethod yX0_lineOf, .selects RX0 yX0_lineOf yX0_lineOf, .initialized RX0, .code yX0_lineOf cX0_lineOf 3 (some (.object "OctalHouse$Line")), .fieldLink RX0 25 "OctalHouse$Bus" "lines" "[LOctalHouse$Line;", .methodLink RX0 47 yX0_channelAt, .instanceMethod yX0_channelAt, .selects RX0 yX0_channelAt yX0_channelAt, .code yX0_channelAt cX0_channelAt 2 (some (.object "OctalHouse$Channel")), .fieldLink RX0 11 "OctalHouse$Bus" "channels" "[LOctalHouse$Channel;", .methodLink RX0 40 yX0_deviceAt, .instanceMethod yX0_deviceAt, .selects RX0 yX0_deviceAt yX0_deviceAt, .code yX0_deviceAt cX0_deviceAt 2 (some (.object "OctalHouse$Device")), .fieldLink RX0 19 "OctalHouse$Bus" "devices" "[LOctalHouse$Device;", .methodLink RX0 118 yX2_start, .instanceMethod yX2_start, .selects RX2 yX2_start yX2_start, .initialized RX2, .code yX2_start cX2_start 1 none, .fieldLink RX2 29 "OctalHouse$Device" "delay" "I", .fieldLink RX2 33 "OctalHouse$Device" "busy" "I"] ++ wsX30 ++ wsX10 ++ wsX00 ++ wsX20)
def wsX0_putControl_r1 : List Cond := [Cond.methodLink RX0 108 yX0_resetAllControls, Cond.instanceMethod yX0_resetAllControls, Cond.selects RX0 yX0_resetAllControls yX0_resetAllControls, Cond.initialized RX0, Cond.code yX0_resetAllControls cX0_resetAllControls 3 none, Cond.methodLink RX0 66 yX0_lineOf, Cond.instanceMethod yX0_lineOf, Cond.selects RX0 yX0_lineOf yX0_lineOf, Cond.code yX0_lineOf cX0_lineOf 3 (some (.object "OctalHouse$Line")), Cond.fieldLink RX0 25 "OctalHouse$Bus" "lines" "[LOctalHouse$Line;", Cond.methodLink RX0 47 yX0_channelAt, Cond.instanceMethod yX0_channelAt, Cond.selects RX0 yX0_channelAt yX0_channelAt, Cond.code yX0_channelAt cX0_channelAt 2 (some (.object "OctalHouse$Channel")), Cond.fieldLink RX0 11 "OctalHouse$Bus" "channels" "[LOctalHouse$Channel;", Cond.methodLink RX0 114 yX0_putLineControl, Cond.instanceMethod yX0_putLineControl, Cond.selects RX0 yX0_putLineControl yX0_putLineControl, Cond.code yX0_putLineControl cX0_putLineControl 6 none, Cond.methodLink RX0 40 yX0_deviceAt, Cond.instanceMethod yX0_deviceAt, Cond.selects RX0 yX0_deviceAt yX0_deviceAt, Cond.code yX0_deviceAt cX0_deviceAt 2 (some (.object "OctalHouse$Device")), Cond.fieldLink RX0 19 "OctalHouse$Bus" "devices" "[LOctalHouse$Device;"]
def wsX0_putControl_r2 : List Cond := [Cond.methodLink RX0 118 yX2_start, Cond.instanceMethod yX2_start, Cond.selects RX2 yX2_start yX2_start, Cond.initialized RX2, Cond.code yX2_start cX2_start 1 none, Cond.fieldLink RX2 29 "OctalHouse$Device" "delay" "I", Cond.fieldLink RX2 33 "OctalHouse$Device" "busy" "I"]
def wsX0_putControl : List Cond := .code yX0_putControl cX0_putControl 4 none :: ((wsX0_putControl_r1 ++ wsX0_putControl_r2) ++ wsX10 ++ wsX30 ++ wsX00 ++ wsX20)
def wsX1_tellPart : List Cond := .code yX1_tellPart cX1_tellPart 2 (some .int) :: ([.fieldLink RX1 67 "OctalHouse$Channel" "active" "Z", .fieldLink RX1 22 "OctalHouse$Channel" "address" "I", .fieldLink RX1 46 "OctalHouse$Channel" "count" "I", .fieldLink RX1 18 "OctalHouse$Channel" "goesIn" "Z", .fieldLink RX1 57 "OctalHouse$Channel" "firstWord" "I", .fieldLink RX1 50 "OctalHouse$Channel" "moved" "I", .static yX7_bit, .initialized RX7, .code yX7_bit cX7_bit 1 (some .int)] ++ wsX10)
def wsX2_equip : List Cond := .code yX2_equip cX2_equip 3 none :: ([.fieldLink RX2 25 "OctalHouse$Device" "takesIn" "Z", .fieldLink RX2 29 "OctalHouse$Device" "delay" "I", .fieldLink RX2 33 "OctalHouse$Device" "busy" "I", .fieldLink RX2 36 "OctalHouse$Device" "buffer" "I"] ++ wsX20)
def wsX2_putOnTape : List Cond := .code yX2_putOnTape cX2_putOnTape 3 none :: ([.fieldLink RX2 51 "OctalHouse$Device" "tapeStart" "I", .fieldLink RX2 54 "OctalHouse$Device" "tapeLength" "I", .fieldLink RX2 18 "OctalHouse$Device" "tape" "[I"] ++ wsX20)
def wsX2_keptOut : List Cond := .code yX2_keptOut cX2_keptOut 2 (some .int) :: ([.fieldLink RX2 57 "OctalHouse$Device" "wentOut" "I", .fieldLink RX2 22 "OctalHouse$Device" "kept" "[I"] ++ wsX20)
def wsX2_tellPart : List Cond := .code yX2_tellPart cX2_tellPart 2 (some .int) :: ([.fieldLink RX2 33 "OctalHouse$Device" "busy" "I", .fieldLink RX2 36 "OctalHouse$Device" "buffer" "I", .fieldLink RX2 54 "OctalHouse$Device" "tapeLength" "I", .fieldLink RX2 25 "OctalHouse$Device" "takesIn" "Z", .fieldLink RX2 29 "OctalHouse$Device" "delay" "I", .fieldLink RX2 57 "OctalHouse$Device" "wentOut" "I", .static yX7_bit, .initialized RX7, .code yX7_bit cX7_bit 1 (some .int)] ++ wsX20)
def wsX4_init : List Cond := .code yX4_init cX4_init 1 none :: ([.methodLink RX4 3 objectInit, .instanceMethod objectInit, .code objectInit ⟨#[0xb1]⟩ 1 none, .arrayClass .int, .fieldLink RX4 9 "OctalHouse$Memory" "words" "[I"] ++ wsX40)
def wsX5_init : List Cond := .code yX5_init cX5_init 4 none :: ([.methodLink RX5 3 objectInit, .instanceMethod objectInit, .code objectInit ⟨#[0xb1]⟩ 1 none, .fieldLink RX5 9 "OctalHouse$Processor" "memory" "LOctalHouse$Memory;", .fieldLink RX5 15 "OctalHouse$Processor" "registers" "LOctalHouse$Registers;", .fieldLink RX5 19 "OctalHouse$Processor" "bus" "LOctalHouse$Bus;"] ++ wsX50)
def wsX6_stepOn : List Cond := .code yX6_stepOn cX6_stepOn 1 none :: ([.fieldLink RX6 15 "OctalHouse$Registers" "p" "I"] ++ wsX60)
def wsX5_nextWord : List Cond := .code yX5_nextWord cX5_nextWord 2 (some .int) :: ([.fieldLink RX5 9 "OctalHouse$Processor" "memory" "LOctalHouse$Memory;", .fieldLink RX5 15 "OctalHouse$Processor" "registers" "LOctalHouse$Registers;", .methodLink RX5 29 yX4_read, .instanceMethod yX4_read, .selects RX4 yX4_read yX4_read, .initialized RX4, .code yX4_read cX4_read 2 (some .int), .fieldLink RX4 9 "OctalHouse$Memory" "words" "[I", .methodLink RX5 35 yX6_stepOn, .instanceMethod yX6_stepOn, .selects RX6 yX6_stepOn yX6_stepOn, .initialized RX6, .code yX6_stepOn cX6_stepOn 1 none, .fieldLink RX6 15 "OctalHouse$Registers" "p" "I"] ++ wsX50 ++ wsX60 ++ wsX40)
def wsX6_halt : List Cond := .code yX6_halt cX6_halt 2 none :: ([.fieldLink RX6 18 "OctalHouse$Registers" "halted" "Z", .fieldLink RX6 9 "OctalHouse$Registers" "haltCode" "I"] ++ wsX60)
def wsX5_resolve : List Cond := .code yX5_resolve cX5_resolve 4 (some .int) :: ([.constant RX5 38 (32768), .fieldLink RX5 9 "OctalHouse$Processor" "memory" "LOctalHouse$Memory;", .fieldLink RX5 15 "OctalHouse$Processor" "registers" "LOctalHouse$Registers;", .methodLink RX5 29 yX4_read, .instanceMethod yX4_read, .selects RX4 yX4_read yX4_read, .initialized RX4, .code yX4_read cX4_read 2 (some .int), .fieldLink RX4 9 "OctalHouse$Memory" "words" "[I", .methodLink RX5 70 yX6_halt, .instanceMethod yX6_halt, .selects RX6 yX6_halt yX6_halt, .initialized RX6, .code yX6_halt cX6_halt 2 none, .fieldLink RX6 18 "OctalHouse$Registers" "halted" "Z", .fieldLink RX6 9 "OctalHouse$Registers" "haltCode" "I"] ++ wsX50 ++ wsX40 ++ wsX60)
def wsX5_registerOf : List Cond := .code yX5_registerOf cX5_registerOf 1 (some .int) :: ([])
def wsX5_jump : List Cond := .code yX5_jump cX5_jump 3 none :: ([.fieldLink RX5 15 "OctalHouse$Processor" "registers" "LOctalHouse$Registers;"] ++ wsX50 ++ wsX60)
def wsX5_skipIf : List Cond := .code yX5_skipIf cX5_skipIf 2 none :: ([.fieldLink RX5 15 "OctalHouse$Processor" "registers" "LOctalHouse$Registers;", .methodLink RX5 35 yX6_stepOn, .instanceMethod yX6_stepOn, .selects RX6 yX6_stepOn yX6_stepOn, .initialized RX6, .code yX6_stepOn cX6_stepOn 1 none, .fieldLink RX6 15 "OctalHouse$Registers" "p" "I"] ++ wsX50 ++ wsX60)
def wsX5_incrementAndSkip : List Cond := .code yX5_incrementAndSkip cX5_incrementAndSkip 4 none :: ([.constant RX5 97 (65535), .fieldLink RX5 9 "OctalHouse$Processor" "memory" "LOctalHouse$Memory;", .methodLink RX5 76 yX4_write, .instanceMethod yX4_write, .selects RX4 yX4_write yX4_write, .initialized RX4, .code yX4_write cX4_write 3 none, .fieldLink RX4 9 "OctalHouse$Memory" "words" "[I", .constant RX4 15 (65535), .methodLink RX5 89 yX5_skipIf, .instanceMethod yX5_skipIf, .selects RX5 yX5_skipIf yX5_skipIf, .initialized RX5, .code yX5_skipIf cX5_skipIf 2 none, .fieldLink RX5 15 "OctalHouse$Processor" "registers" "LOctalHouse$Registers;", .methodLink RX5 35 yX6_stepOn, .instanceMethod yX6_stepOn, .selects RX6 yX6_stepOn yX6_stepOn, .initialized RX6, .code yX6_stepOn cX6_stepOn 1 none, .fieldLink RX6 15 "OctalHouse$Registers" "p" "I"] ++ wsX50 ++ wsX40 ++ wsX60)
def wsX5_add : List Cond := .code yX5_add cX5_add 5 none :: ([.fieldLink RX5 9 "OctalHouse$Processor" "memory" "LOctalHouse$Memory;", .constant RX5 97 (65535), .fieldLink RX5 15 "OctalHouse$Processor" "registers" "LOctalHouse$Registers;", .constant RX5 38 (32768), .methodLink RX5 29 yX4_read, .instanceMethod yX4_read, .selects RX4 yX4_read yX4_read, .initialized RX4, .code yX4_read cX4_read 2 (some .int), .fieldLink RX4 9 "OctalHouse$Memory" "words" "[I", .methodLink RX5 76 yX4_write, .instanceMethod yX4_write, .selects RX4 yX4_write yX4_write, .code yX4_write cX4_write 3 none, .constant RX4 15 (65535)] ++ wsX50 ++ wsX60 ++ wsX40)
def wsX5_referToMemory_r1 : List Cond := [Cond.constant RX5 38 (32768), Cond.fieldLink RX5 9 "OctalHouse$Processor" "memory" "LOctalHouse$Memory;", Cond.fieldLink RX5 15 "OctalHouse$Processor" "registers" "LOctalHouse$Registers;", Cond.methodLink RX5 73 yX5_registerOf, Cond.static yX5_registerOf, Cond.initialized RX5, Cond.code yX5_registerOf cX5_registerOf 1 (some .int), Cond.methodLink RX5 29 yX4_read, Cond.instanceMethod yX4_read, Cond.selects RX4 yX4_read yX4_read, Cond.initialized RX4, Cond.code yX4_read cX4_read 2 (some .int), Cond.fieldLink RX4 9 "OctalHouse$Memory" "words" "[I", Cond.methodLink RX5 76 yX4_write, Cond.instanceMethod yX4_write, Cond.selects RX4 yX4_write yX4_write, Cond.code yX4_write cX4_write 3 none, Cond.constant RX4 15 (65535), Cond.methodLink RX5 79 yX5_jump, Cond.instanceMethod yX5_jump, Cond.selects RX5 yX5_jump yX5_jump, Cond.code yX5_jump cX5_jump 3 none, Cond.methodLink RX5 83 yX5_incrementAndSkip, Cond.instanceMethod yX5_incrementAndSkip]
def wsX5_referToMemory_r2 : List Cond := [Cond.selects RX5 yX5_incrementAndSkip yX5_incrementAndSkip, Cond.code yX5_incrementAndSkip cX5_incrementAndSkip 4 none, Cond.constant RX5 97 (65535), Cond.methodLink RX5 89 yX5_skipIf, Cond.instanceMethod yX5_skipIf, Cond.selects RX5 yX5_skipIf yX5_skipIf, Cond.code yX5_skipIf cX5_skipIf 2 none, Cond.methodLink RX5 35 yX6_stepOn, Cond.instanceMethod yX6_stepOn, Cond.selects RX6 yX6_stepOn yX6_stepOn, Cond.initialized RX6, Cond.code yX6_stepOn cX6_stepOn 1 none, Cond.fieldLink RX6 15 "OctalHouse$Registers" "p" "I", Cond.methodLink RX5 86 yX5_add, Cond.instanceMethod yX5_add, Cond.selects RX5 yX5_add yX5_add, Cond.code yX5_add cX5_add 5 none]
def wsX5_referToMemory : List Cond := .code yX5_referToMemory cX5_referToMemory 6 none :: ((wsX5_referToMemory_r1 ++ wsX5_referToMemory_r2) ++ wsX50 ++ wsX60 ++ wsX40)
def wsX5_altered : List Cond := .code yX5_altered cX5_altered 2 (some .int) :: ([.constant RX5 97 (65535)])
def wsX5_alteredE : List Cond := .code yX5_alteredE cX5_alteredE 2 (some .int) :: ([])
def wsX5_incremented : List Cond := .code yX5_incremented cX5_incremented 2 (some .int) :: ([.constant RX5 97 (65535), .fieldLink RX5 15 "OctalHouse$Processor" "registers" "LOctalHouse$Registers;"] ++ wsX50 ++ wsX60)
def wsX5_alterAndSkip_r1 : List Cond := [Cond.fieldLink RX5 9 "OctalHouse$Processor" "memory" "LOctalHouse$Memory;", Cond.fieldLink RX5 15 "OctalHouse$Processor" "registers" "LOctalHouse$Registers;", Cond.constant RX5 38 (32768), Cond.methodLink RX5 73 yX5_registerOf, Cond.static yX5_registerOf, Cond.initialized RX5, Cond.code yX5_registerOf cX5_registerOf 1 (some .int), Cond.methodLink RX5 29 yX4_read, Cond.instanceMethod yX4_read, Cond.selects RX4 yX4_read yX4_read, Cond.initialized RX4, Cond.code yX4_read cX4_read 2 (some .int), Cond.fieldLink RX4 9 "OctalHouse$Memory" "words" "[I", Cond.methodLink RX5 111 yX5_altered, Cond.static yX5_altered, Cond.code yX5_altered cX5_altered 2 (some .int), Cond.constant RX5 97 (65535), Cond.methodLink RX5 114 yX5_alteredE, Cond.static yX5_alteredE, Cond.code yX5_alteredE cX5_alteredE 2 (some .int), Cond.methodLink RX5 117 yX5_incremented, Cond.instanceMethod yX5_incremented, Cond.selects RX5 yX5_incremented yX5_incremented, Cond.code yX5_incremented cX5_incremented 2 (some .int)]
def wsX5_alterAndSkip_r2 : List Cond := [Cond.methodLink RX5 76 yX4_write, Cond.instanceMethod yX4_write, Cond.selects RX4 yX4_write yX4_write, Cond.code yX4_write cX4_write 3 none, Cond.constant RX4 15 (65535), Cond.methodLink RX5 89 yX5_skipIf, Cond.instanceMethod yX5_skipIf, Cond.selects RX5 yX5_skipIf yX5_skipIf, Cond.code yX5_skipIf cX5_skipIf 2 none, Cond.methodLink RX5 35 yX6_stepOn, Cond.instanceMethod yX6_stepOn, Cond.selects RX6 yX6_stepOn yX6_stepOn, Cond.initialized RX6, Cond.code yX6_stepOn cX6_stepOn 1 none, Cond.fieldLink RX6 15 "OctalHouse$Registers" "p" "I"]
def wsX5_alterAndSkip : List Cond := .code yX5_alterAndSkip cX5_alterAndSkip 14 none :: ((wsX5_alterAndSkip_r1 ++ wsX5_alterAndSkip_r2) ++ wsX50 ++ wsX60 ++ wsX40)
def wsX5_throughE : List Cond := .code yX5_throughE cX5_throughE 3 (some .int) :: ([.fieldLink RX5 15 "OctalHouse$Processor" "registers" "LOctalHouse$Registers;"] ++ wsX50 ++ wsX60)
def wsX5_shifted : List Cond := .code yX5_shifted cX5_shifted 3 (some .int) :: ([.constant RX5 38 (32768), .constant RX5 97 (65535), .fieldLink RX5 15 "OctalHouse$Processor" "registers" "LOctalHouse$Registers;", .methodLink RX5 108 yX5_throughE, .instanceMethod yX5_throughE, .selects RX5 yX5_throughE yX5_throughE, .initialized RX5, .code yX5_throughE cX5_throughE 3 (some .int)] ++ wsX50 ++ wsX60)
def wsX5_shiftAndSkip_r1 : List Cond := [Cond.fieldLink RX5 9 "OctalHouse$Processor" "memory" "LOctalHouse$Memory;", Cond.fieldLink RX5 15 "OctalHouse$Processor" "registers" "LOctalHouse$Registers;", Cond.methodLink RX5 73 yX5_registerOf, Cond.static yX5_registerOf, Cond.initialized RX5, Cond.code yX5_registerOf cX5_registerOf 1 (some .int), Cond.methodLink RX5 29 yX4_read, Cond.instanceMethod yX4_read, Cond.selects RX4 yX4_read yX4_read, Cond.initialized RX4, Cond.code yX4_read cX4_read 2 (some .int), Cond.fieldLink RX4 9 "OctalHouse$Memory" "words" "[I", Cond.methodLink RX5 104 yX5_shifted, Cond.instanceMethod yX5_shifted, Cond.selects RX5 yX5_shifted yX5_shifted, Cond.code yX5_shifted cX5_shifted 3 (some .int), Cond.constant RX5 38 (32768), Cond.constant RX5 97 (65535), Cond.methodLink RX5 108 yX5_throughE, Cond.instanceMethod yX5_throughE, Cond.selects RX5 yX5_throughE yX5_throughE, Cond.code yX5_throughE cX5_throughE 3 (some .int), Cond.methodLink RX5 76 yX4_write, Cond.instanceMethod yX4_write]
def wsX5_shiftAndSkip_r2 : List Cond := [Cond.selects RX4 yX4_write yX4_write, Cond.code yX4_write cX4_write 3 none, Cond.constant RX4 15 (65535), Cond.methodLink RX5 89 yX5_skipIf, Cond.instanceMethod yX5_skipIf, Cond.selects RX5 yX5_skipIf yX5_skipIf, Cond.code yX5_skipIf cX5_skipIf 2 none, Cond.methodLink RX5 35 yX6_stepOn, Cond.instanceMethod yX6_stepOn, Cond.selects RX6 yX6_stepOn yX6_stepOn, Cond.initialized RX6, Cond.code yX6_stepOn cX6_stepOn 1 none, Cond.fieldLink RX6 15 "OctalHouse$Registers" "p" "I"]
def wsX5_shiftAndSkip : List Cond := .code yX5_shiftAndSkip cX5_shiftAndSkip 3 none :: ((wsX5_shiftAndSkip_r1 ++ wsX5_shiftAndSkip_r2) ++ wsX50 ++ wsX60 ++ wsX40)
def wsX5_inputOrOutput_r1 : List Cond := [Cond.fieldLink RX5 15 "OctalHouse$Processor" "registers" "LOctalHouse$Registers;", Cond.fieldLink RX5 19 "OctalHouse$Processor" "bus" "LOctalHouse$Bus;", Cond.fieldLink RX5 9 "OctalHouse$Processor" "memory" "LOctalHouse$Memory;", Cond.methodLink RX5 73 yX5_registerOf, Cond.static yX5_registerOf, Cond.initialized RX5, Cond.code yX5_registerOf cX5_registerOf 1 (some .int), Cond.methodLink RX5 70 yX6_halt, Cond.instanceMethod yX6_halt, Cond.selects RX6 yX6_halt yX6_halt, Cond.initialized RX6, Cond.code yX6_halt cX6_halt 2 none, Cond.fieldLink RX6 18 "OctalHouse$Registers" "halted" "Z", Cond.fieldLink RX6 9 "OctalHouse$Registers" "haltCode" "I", Cond.methodLink RX5 120 yX0_putFlag, Cond.instanceMethod yX0_putFlag, Cond.selects RX0 yX0_putFlag yX0_putFlag, Cond.initialized RX0, Cond.code yX0_putFlag cX0_putFlag 4 none, Cond.fieldLink RX0 76 "OctalHouse$Bus" "interruptsOn" "Z", Cond.fieldLink RX0 29 "OctalHouse$Bus" "registers" "LOctalHouse$Registers;", Cond.static yX7_bit, Cond.initialized RX7, Cond.code yX7_bit cX7_bit 1 (some .int)]
def wsX5_inputOrOutput_r2 : List Cond := [Cond.methodLink RX0 66 yX0_lineOf, Cond.instanceMethod yX0_lineOf, Cond.selects RX0 yX0_lineOf yX0_lineOf, Cond.code yX0_lineOf cX0_lineOf 3 (some (.object "OctalHouse$Line")), Cond.fieldLink RX0 25 "OctalHouse$Bus" "lines" "[LOctalHouse$Line;", Cond.methodLink RX0 88 yX3_putFlag, Cond.instanceMethod yX3_putFlag, Cond.selects RX3 yX3_putFlag yX3_putFlag, Cond.initialized RX3, Cond.code yX3_putFlag cX3_putFlag 2 none, Cond.fieldLink RX3 7 "OctalHouse$Line" "flag" "Z", Cond.fieldLink RX3 13 "OctalHouse$Line" "asks" "Z", Cond.methodLink RX5 125 yX0_flagOf, Cond.instanceMethod yX0_flagOf, Cond.selects RX0 yX0_flagOf yX0_flagOf, Cond.code yX0_flagOf cX0_flagOf 3 (some .boolean), Cond.methodLink RX5 89 yX5_skipIf, Cond.instanceMethod yX5_skipIf, Cond.selects RX5 yX5_skipIf yX5_skipIf, Cond.code yX5_skipIf cX5_skipIf 2 none, Cond.methodLink RX5 35 yX6_stepOn, Cond.instanceMethod yX6_stepOn, Cond.selects RX6 yX6_stepOn yX6_stepOn, Cond.code yX6_stepOn cX6_stepOn 1 none]
def wsX5_inputOrOutput_r3 : List Cond := [Cond.fieldLink RX6 15 "OctalHouse$Registers" "p" "I", Cond.methodLink RX5 29 yX4_read, Cond.instanceMethod yX4_read, Cond.selects RX4 yX4_read yX4_read, Cond.initialized RX4, Cond.code yX4_read cX4_read 2 (some .int), Cond.fieldLink RX4 9 "OctalHouse$Memory" "words" "[I", Cond.methodLink RX5 128 yX0_tell, Cond.instanceMethod yX0_tell, Cond.selects RX0 yX0_tell yX0_tell, Cond.code yX0_tell cX0_tell 4 (some .int), Cond.fieldLink RX0 92 "OctalHouse$Bus" "switchWord" "I", Cond.methodLink RX0 47 yX0_channelAt, Cond.instanceMethod yX0_channelAt, Cond.selects RX0 yX0_channelAt yX0_channelAt, Cond.code yX0_channelAt cX0_channelAt 2 (some (.object "OctalHouse$Channel")), Cond.fieldLink RX0 11 "OctalHouse$Bus" "channels" "[LOctalHouse$Channel;", Cond.methodLink RX0 40 yX0_deviceAt, Cond.instanceMethod yX0_deviceAt, Cond.selects RX0 yX0_deviceAt yX0_deviceAt, Cond.code yX0_deviceAt cX0_deviceAt 2 (some (.object "OctalHouse$Device")), Cond.fieldLink RX0 19 "OctalHouse$Bus" "devices" "[LOctalHouse$Device;", Cond.methodLink RX5 76 yX4_write, Cond.instanceMethod yX4_write]
def wsX5_inputOrOutput_r4 : List Cond := [Cond.selects RX4 yX4_write yX4_write, Cond.code yX4_write cX4_write 3 none, Cond.constant RX4 15 (65535), Cond.methodLink RX5 131 yX0_take, Cond.instanceMethod yX0_take, Cond.selects RX0 yX0_take yX0_take, Cond.code yX0_take cX0_take 6 none, Cond.fieldLink RX0 101 "OctalHouse$Bus" "lamps" "I", Cond.methodLink RX0 104 yX1_takeRegister, Cond.instanceMethod yX1_takeRegister, Cond.selects RX1 yX1_takeRegister yX1_takeRegister, Cond.initialized RX1, Cond.code yX1_takeRegister cX1_takeRegister 2 none, Cond.fieldLink RX1 70 "OctalHouse$Channel" "countComesNext" "Z", Cond.fieldLink RX1 46 "OctalHouse$Channel" "count" "I", Cond.fieldLink RX1 22 "OctalHouse$Channel" "address" "I", Cond.constant RX1 60 (32768), Cond.fieldLink RX1 18 "OctalHouse$Channel" "goesIn" "Z", Cond.methodLink RX5 134 yX0_putControl, Cond.instanceMethod yX0_putControl, Cond.selects RX0 yX0_putControl yX0_putControl, Cond.code yX0_putControl cX0_putControl 4 none, Cond.methodLink RX0 108 yX0_resetAllControls, Cond.instanceMethod yX0_resetAllControls]
def wsX5_inputOrOutput_r5 : List Cond := [Cond.selects RX0 yX0_resetAllControls yX0_resetAllControls, Cond.code yX0_resetAllControls cX0_resetAllControls 3 none, Cond.methodLink RX0 114 yX0_putLineControl, Cond.instanceMethod yX0_putLineControl, Cond.selects RX0 yX0_putLineControl yX0_putLineControl, Cond.code yX0_putLineControl cX0_putLineControl 6 none, Cond.methodLink RX0 118 yX2_start, Cond.instanceMethod yX2_start, Cond.selects RX2 yX2_start yX2_start, Cond.initialized RX2, Cond.code yX2_start cX2_start 1 none, Cond.fieldLink RX2 29 "OctalHouse$Device" "delay" "I", Cond.fieldLink RX2 33 "OctalHouse$Device" "busy" "I"]
def wsX5_inputOrOutput : List Cond := .code yX5_inputOrOutput cX5_inputOrOutput 5 none :: ((wsX5_inputOrOutput_r1 ++ (wsX5_inputOrOutput_r2 ++ (wsX5_inputOrOutput_r3 ++ (wsX5_inputOrOutput_r4 ++ wsX5_inputOrOutput_r5)))) ++ wsX50 ++ wsX60 ++ wsX00 ++ wsX30 ++ wsX40 ++ wsX10 ++ wsX20)
def wsX5_hasAddressBehind : List Cond := .code yX5_hasAddressBehind cX5_hasAddressBehind 1 (some .boolean) :: ([.constant RX5 137 (32896), .constant RX5 138 (33024), .constant RX5 139 (34944), .constant RX5 140 (35072)])
def wsX5_writePair : List Cond := .code yX5_writePair cX5_writePair 2 none :: ([.fieldLink RX5 9 "OctalHouse$Processor" "memory" "LOctalHouse$Memory;", .methodLink RX5 76 yX4_write, .instanceMethod yX4_write, .selects RX4 yX4_write yX4_write, .initialized RX4, .code yX4_write cX4_write 3 none, .fieldLink RX4 9 "OctalHouse$Memory" "words" "[I", .constant RX4 15 (65535)] ++ wsX50 ++ wsX40)
def wsX5_multiply : List Cond := .code yX5_multiply cX5_multiply 2 none :: ([.fieldLink RX5 9 "OctalHouse$Processor" "memory" "LOctalHouse$Memory;", .fieldLink RX5 15 "OctalHouse$Processor" "registers" "LOctalHouse$Registers;", .methodLink RX5 29 yX4_read, .instanceMethod yX4_read, .selects RX4 yX4_read yX4_read, .initialized RX4, .code yX4_read cX4_read 2 (some .int), .fieldLink RX4 9 "OctalHouse$Memory" "words" "[I", .methodLink RX5 151 yX5_writePair, .instanceMethod yX5_writePair, .selects RX5 yX5_writePair yX5_writePair, .initialized RX5, .code yX5_writePair cX5_writePair 2 none, .methodLink RX5 76 yX4_write, .instanceMethod yX4_write, .selects RX4 yX4_write yX4_write, .code yX4_write cX4_write 3 none, .constant RX4 15 (65535)] ++ wsX50 ++ wsX60 ++ wsX40)
def wsX5_readPair : List Cond := .code yX5_readPair cX5_readPair 1 (some .int) :: ([.fieldLink RX5 9 "OctalHouse$Processor" "memory" "LOctalHouse$Memory;", .methodLink RX5 29 yX4_read, .instanceMethod yX4_read, .selects RX4 yX4_read yX4_read, .initialized RX4, .code yX4_read cX4_read 2 (some .int), .fieldLink RX4 9 "OctalHouse$Memory" "words" "[I"] ++ wsX50 ++ wsX40)
def wsX5_divide : List Cond := .code yX5_divide cX5_divide 8 none :: ([.fieldLink RX5 15 "OctalHouse$Processor" "registers" "LOctalHouse$Registers;", .constantLong RX5 157 (-32768), .constantLong RX5 159 (32767), .fieldLink RX5 9 "OctalHouse$Processor" "memory" "LOctalHouse$Memory;", .methodLink RX5 154 yX5_readPair, .instanceMethod yX5_readPair, .selects RX5 yX5_readPair yX5_readPair, .initialized RX5, .code yX5_readPair cX5_readPair 1 (some .int), .methodLink RX5 29 yX4_read, .instanceMethod yX4_read, .selects RX4 yX4_read yX4_read, .initialized RX4, .code yX4_read cX4_read 2 (some .int), .fieldLink RX4 9 "OctalHouse$Memory" "words" "[I", .methodLink RX5 76 yX4_write, .instanceMethod yX4_write, .selects RX4 yX4_write yX4_write, .code yX4_write cX4_write 3 none, .constant RX4 15 (65535)] ++ wsX50 ++ wsX60 ++ wsX40)
def wsX5_writeTwo : List Cond := .code yX5_writeTwo cX5_writeTwo 5 none :: ([.fieldLink RX5 9 "OctalHouse$Processor" "memory" "LOctalHouse$Memory;", .methodLink RX5 76 yX4_write, .instanceMethod yX4_write, .selects RX4 yX4_write yX4_write, .initialized RX4, .code yX4_write cX4_write 3 none, .fieldLink RX4 9 "OctalHouse$Memory" "words" "[I", .constant RX4 15 (65535)] ++ wsX50 ++ wsX40)
def wsX5_doubleWord_r1 : List Cond := [Cond.fieldLink RX5 9 "OctalHouse$Processor" "memory" "LOctalHouse$Memory;", Cond.methodLink RX5 29 yX4_read, Cond.instanceMethod yX4_read, Cond.selects RX4 yX4_read yX4_read, Cond.initialized RX4, Cond.code yX4_read cX4_read 2 (some .int), Cond.fieldLink RX4 9 "OctalHouse$Memory" "words" "[I", Cond.methodLink RX5 141 yX5_multiply, Cond.instanceMethod yX5_multiply, Cond.selects RX5 yX5_multiply yX5_multiply, Cond.initialized RX5, Cond.code yX5_multiply cX5_multiply 2 none, Cond.fieldLink RX5 15 "OctalHouse$Processor" "registers" "LOctalHouse$Registers;", Cond.methodLink RX5 151 yX5_writePair, Cond.instanceMethod yX5_writePair, Cond.selects RX5 yX5_writePair yX5_writePair, Cond.code yX5_writePair cX5_writePair 2 none, Cond.methodLink RX5 76 yX4_write, Cond.instanceMethod yX4_write, Cond.selects RX4 yX4_write yX4_write, Cond.code yX4_write cX4_write 3 none, Cond.constant RX4 15 (65535), Cond.methodLink RX5 144 yX5_divide, Cond.instanceMethod yX5_divide]
def wsX5_doubleWord_r2 : List Cond := [Cond.selects RX5 yX5_divide yX5_divide, Cond.code yX5_divide cX5_divide 8 none, Cond.constantLong RX5 157 (-32768), Cond.constantLong RX5 159 (32767), Cond.methodLink RX5 154 yX5_readPair, Cond.instanceMethod yX5_readPair, Cond.selects RX5 yX5_readPair yX5_readPair, Cond.code yX5_readPair cX5_readPair 1 (some .int), Cond.methodLink RX5 147 yX5_writeTwo, Cond.instanceMethod yX5_writeTwo, Cond.selects RX5 yX5_writeTwo yX5_writeTwo, Cond.code yX5_writeTwo cX5_writeTwo 5 none]
def wsX5_doubleWord : List Cond := .code yX5_doubleWord cX5_doubleWord 4 none :: ((wsX5_doubleWord_r1 ++ wsX5_doubleWord_r2) ++ wsX50 ++ wsX40 ++ wsX60)
def wsX5_losesUnlikeSign : List Cond := .code yX5_losesUnlikeSign cX5_losesUnlikeSign 4 (some .boolean) :: ([.constant RX5 163 (2147483647)])
def wsX5_longShift_r1 : List Cond := [Cond.constant RX5 161 (65520), Cond.constant RX5 162 (-2147483648), Cond.constant RX5 163 (2147483647), Cond.fieldLink RX5 15 "OctalHouse$Processor" "registers" "LOctalHouse$Registers;", Cond.methodLink RX5 154 yX5_readPair, Cond.instanceMethod yX5_readPair, Cond.selects RX5 yX5_readPair yX5_readPair, Cond.initialized RX5, Cond.code yX5_readPair cX5_readPair 1 (some .int), Cond.fieldLink RX5 9 "OctalHouse$Processor" "memory" "LOctalHouse$Memory;", Cond.methodLink RX5 29 yX4_read, Cond.instanceMethod yX4_read, Cond.selects RX4 yX4_read yX4_read, Cond.initialized RX4, Cond.code yX4_read cX4_read 2 (some .int), Cond.fieldLink RX4 9 "OctalHouse$Memory" "words" "[I", Cond.methodLink RX5 151 yX5_writePair, Cond.instanceMethod yX5_writePair, Cond.selects RX5 yX5_writePair yX5_writePair, Cond.code yX5_writePair cX5_writePair 2 none, Cond.methodLink RX5 76 yX4_write, Cond.instanceMethod yX4_write, Cond.selects RX4 yX4_write yX4_write, Cond.code yX4_write cX4_write 3 none]
def wsX5_longShift_r2 : List Cond := [Cond.constant RX4 15 (65535), Cond.methodLink RX5 164 yX5_losesUnlikeSign, Cond.static yX5_losesUnlikeSign, Cond.code yX5_losesUnlikeSign cX5_losesUnlikeSign 4 (some .boolean), Cond.static yX7_bit, Cond.initialized RX7, Cond.code yX7_bit cX7_bit 1 (some .int)]
def wsX5_longShift : List Cond := .code yX5_longShift cX5_longShift 4 none :: ((wsX5_longShift_r1 ++ wsX5_longShift_r2) ++ wsX50 ++ wsX60 ++ wsX40)
def wsX5_perform_r1 : List Cond := [Cond.constant RX5 38 (32768), Cond.methodLink RX5 39 yX5_resolve, Cond.instanceMethod yX5_resolve, Cond.selects RX5 yX5_resolve yX5_resolve, Cond.initialized RX5, Cond.code yX5_resolve cX5_resolve 4 (some .int), Cond.fieldLink RX5 9 "OctalHouse$Processor" "memory" "LOctalHouse$Memory;", Cond.fieldLink RX5 15 "OctalHouse$Processor" "registers" "LOctalHouse$Registers;", Cond.methodLink RX5 29 yX4_read, Cond.instanceMethod yX4_read, Cond.selects RX4 yX4_read yX4_read, Cond.initialized RX4, Cond.code yX4_read cX4_read 2 (some .int), Cond.fieldLink RX4 9 "OctalHouse$Memory" "words" "[I", Cond.methodLink RX5 70 yX6_halt, Cond.instanceMethod yX6_halt, Cond.selects RX6 yX6_halt yX6_halt, Cond.initialized RX6, Cond.code yX6_halt cX6_halt 2 none, Cond.fieldLink RX6 18 "OctalHouse$Registers" "halted" "Z", Cond.fieldLink RX6 9 "OctalHouse$Registers" "haltCode" "I", Cond.methodLink RX5 42 yX5_referToMemory, Cond.instanceMethod yX5_referToMemory, Cond.selects RX5 yX5_referToMemory yX5_referToMemory]
def wsX5_perform_r2 : List Cond := [Cond.code yX5_referToMemory cX5_referToMemory 6 none, Cond.methodLink RX5 73 yX5_registerOf, Cond.static yX5_registerOf, Cond.code yX5_registerOf cX5_registerOf 1 (some .int), Cond.methodLink RX5 76 yX4_write, Cond.instanceMethod yX4_write, Cond.selects RX4 yX4_write yX4_write, Cond.code yX4_write cX4_write 3 none, Cond.constant RX4 15 (65535), Cond.methodLink RX5 79 yX5_jump, Cond.instanceMethod yX5_jump, Cond.selects RX5 yX5_jump yX5_jump, Cond.code yX5_jump cX5_jump 3 none, Cond.methodLink RX5 83 yX5_incrementAndSkip, Cond.instanceMethod yX5_incrementAndSkip, Cond.selects RX5 yX5_incrementAndSkip yX5_incrementAndSkip, Cond.code yX5_incrementAndSkip cX5_incrementAndSkip 4 none, Cond.constant RX5 97 (65535), Cond.methodLink RX5 89 yX5_skipIf, Cond.instanceMethod yX5_skipIf, Cond.selects RX5 yX5_skipIf yX5_skipIf, Cond.code yX5_skipIf cX5_skipIf 2 none, Cond.methodLink RX5 35 yX6_stepOn, Cond.instanceMethod yX6_stepOn]
def wsX5_perform_r3 : List Cond := [Cond.selects RX6 yX6_stepOn yX6_stepOn, Cond.code yX6_stepOn cX6_stepOn 1 none, Cond.fieldLink RX6 15 "OctalHouse$Registers" "p" "I", Cond.methodLink RX5 86 yX5_add, Cond.instanceMethod yX5_add, Cond.selects RX5 yX5_add yX5_add, Cond.code yX5_add cX5_add 5 none, Cond.methodLink RX5 46 yX5_alterAndSkip, Cond.instanceMethod yX5_alterAndSkip, Cond.selects RX5 yX5_alterAndSkip yX5_alterAndSkip, Cond.code yX5_alterAndSkip cX5_alterAndSkip 14 none, Cond.methodLink RX5 111 yX5_altered, Cond.static yX5_altered, Cond.code yX5_altered cX5_altered 2 (some .int), Cond.methodLink RX5 114 yX5_alteredE, Cond.static yX5_alteredE, Cond.code yX5_alteredE cX5_alteredE 2 (some .int), Cond.methodLink RX5 117 yX5_incremented, Cond.instanceMethod yX5_incremented, Cond.selects RX5 yX5_incremented yX5_incremented, Cond.code yX5_incremented cX5_incremented 2 (some .int), Cond.methodLink RX5 50 yX5_shiftAndSkip, Cond.instanceMethod yX5_shiftAndSkip, Cond.selects RX5 yX5_shiftAndSkip yX5_shiftAndSkip]
def wsX5_perform_r4 : List Cond := [Cond.code yX5_shiftAndSkip cX5_shiftAndSkip 3 none, Cond.methodLink RX5 104 yX5_shifted, Cond.instanceMethod yX5_shifted, Cond.selects RX5 yX5_shifted yX5_shifted, Cond.code yX5_shifted cX5_shifted 3 (some .int), Cond.methodLink RX5 108 yX5_throughE, Cond.instanceMethod yX5_throughE, Cond.selects RX5 yX5_throughE yX5_throughE, Cond.code yX5_throughE cX5_throughE 3 (some .int), Cond.methodLink RX5 53 yX5_inputOrOutput, Cond.instanceMethod yX5_inputOrOutput, Cond.selects RX5 yX5_inputOrOutput yX5_inputOrOutput, Cond.code yX5_inputOrOutput cX5_inputOrOutput 5 none, Cond.fieldLink RX5 19 "OctalHouse$Processor" "bus" "LOctalHouse$Bus;", Cond.methodLink RX5 120 yX0_putFlag, Cond.instanceMethod yX0_putFlag, Cond.selects RX0 yX0_putFlag yX0_putFlag, Cond.initialized RX0, Cond.code yX0_putFlag cX0_putFlag 4 none, Cond.fieldLink RX0 76 "OctalHouse$Bus" "interruptsOn" "Z", Cond.fieldLink RX0 29 "OctalHouse$Bus" "registers" "LOctalHouse$Registers;", Cond.static yX7_bit, Cond.initialized RX7, Cond.code yX7_bit cX7_bit 1 (some .int)]
def wsX5_perform_r5 : List Cond := [Cond.methodLink RX0 66 yX0_lineOf, Cond.instanceMethod yX0_lineOf, Cond.selects RX0 yX0_lineOf yX0_lineOf, Cond.code yX0_lineOf cX0_lineOf 3 (some (.object "OctalHouse$Line")), Cond.fieldLink RX0 25 "OctalHouse$Bus" "lines" "[LOctalHouse$Line;", Cond.methodLink RX0 88 yX3_putFlag, Cond.instanceMethod yX3_putFlag, Cond.selects RX3 yX3_putFlag yX3_putFlag, Cond.initialized RX3, Cond.code yX3_putFlag cX3_putFlag 2 none, Cond.fieldLink RX3 7 "OctalHouse$Line" "flag" "Z", Cond.fieldLink RX3 13 "OctalHouse$Line" "asks" "Z", Cond.methodLink RX5 125 yX0_flagOf, Cond.instanceMethod yX0_flagOf, Cond.selects RX0 yX0_flagOf yX0_flagOf, Cond.code yX0_flagOf cX0_flagOf 3 (some .boolean), Cond.methodLink RX5 128 yX0_tell, Cond.instanceMethod yX0_tell, Cond.selects RX0 yX0_tell yX0_tell, Cond.code yX0_tell cX0_tell 4 (some .int), Cond.fieldLink RX0 92 "OctalHouse$Bus" "switchWord" "I", Cond.methodLink RX0 47 yX0_channelAt, Cond.instanceMethod yX0_channelAt, Cond.selects RX0 yX0_channelAt yX0_channelAt]
def wsX5_perform_r6 : List Cond := [Cond.code yX0_channelAt cX0_channelAt 2 (some (.object "OctalHouse$Channel")), Cond.fieldLink RX0 11 "OctalHouse$Bus" "channels" "[LOctalHouse$Channel;", Cond.methodLink RX0 40 yX0_deviceAt, Cond.instanceMethod yX0_deviceAt, Cond.selects RX0 yX0_deviceAt yX0_deviceAt, Cond.code yX0_deviceAt cX0_deviceAt 2 (some (.object "OctalHouse$Device")), Cond.fieldLink RX0 19 "OctalHouse$Bus" "devices" "[LOctalHouse$Device;", Cond.methodLink RX5 131 yX0_take, Cond.instanceMethod yX0_take, Cond.selects RX0 yX0_take yX0_take, Cond.code yX0_take cX0_take 6 none, Cond.fieldLink RX0 101 "OctalHouse$Bus" "lamps" "I", Cond.methodLink RX0 104 yX1_takeRegister, Cond.instanceMethod yX1_takeRegister, Cond.selects RX1 yX1_takeRegister yX1_takeRegister, Cond.initialized RX1, Cond.code yX1_takeRegister cX1_takeRegister 2 none, Cond.fieldLink RX1 70 "OctalHouse$Channel" "countComesNext" "Z", Cond.fieldLink RX1 46 "OctalHouse$Channel" "count" "I", Cond.fieldLink RX1 22 "OctalHouse$Channel" "address" "I", Cond.constant RX1 60 (32768), Cond.fieldLink RX1 18 "OctalHouse$Channel" "goesIn" "Z", Cond.methodLink RX5 134 yX0_putControl, Cond.instanceMethod yX0_putControl]
def wsX5_perform_r7 : List Cond := [Cond.selects RX0 yX0_putControl yX0_putControl, Cond.code yX0_putControl cX0_putControl 4 none, Cond.methodLink RX0 108 yX0_resetAllControls, Cond.instanceMethod yX0_resetAllControls, Cond.selects RX0 yX0_resetAllControls yX0_resetAllControls, Cond.code yX0_resetAllControls cX0_resetAllControls 3 none, Cond.methodLink RX0 114 yX0_putLineControl, Cond.instanceMethod yX0_putLineControl, Cond.selects RX0 yX0_putLineControl yX0_putLineControl, Cond.code yX0_putLineControl cX0_putLineControl 6 none, Cond.methodLink RX0 118 yX2_start, Cond.instanceMethod yX2_start, Cond.selects RX2 yX2_start yX2_start, Cond.initialized RX2, Cond.code yX2_start cX2_start 1 none, Cond.fieldLink RX2 29 "OctalHouse$Device" "delay" "I", Cond.fieldLink RX2 33 "OctalHouse$Device" "busy" "I", Cond.methodLink RX5 56 yX5_hasAddressBehind, Cond.static yX5_hasAddressBehind, Cond.code yX5_hasAddressBehind cX5_hasAddressBehind 1 (some .boolean), Cond.constant RX5 137 (32896), Cond.constant RX5 138 (33024), Cond.constant RX5 139 (34944), Cond.constant RX5 140 (35072)]
def wsX5_perform_r8 : List Cond := [Cond.methodLink RX5 60 yX5_nextWord, Cond.instanceMethod yX5_nextWord, Cond.selects RX5 yX5_nextWord yX5_nextWord, Cond.code yX5_nextWord cX5_nextWord 2 (some .int), Cond.methodLink RX5 64 yX5_doubleWord, Cond.instanceMethod yX5_doubleWord, Cond.selects RX5 yX5_doubleWord yX5_doubleWord, Cond.code yX5_doubleWord cX5_doubleWord 4 none, Cond.methodLink RX5 141 yX5_multiply, Cond.instanceMethod yX5_multiply, Cond.selects RX5 yX5_multiply yX5_multiply, Cond.code yX5_multiply cX5_multiply 2 none, Cond.methodLink RX5 151 yX5_writePair, Cond.instanceMethod yX5_writePair, Cond.selects RX5 yX5_writePair yX5_writePair, Cond.code yX5_writePair cX5_writePair 2 none, Cond.methodLink RX5 144 yX5_divide, Cond.instanceMethod yX5_divide, Cond.selects RX5 yX5_divide yX5_divide, Cond.code yX5_divide cX5_divide 8 none, Cond.constantLong RX5 157 (-32768), Cond.constantLong RX5 159 (32767), Cond.methodLink RX5 154 yX5_readPair, Cond.instanceMethod yX5_readPair]
def wsX5_perform_r9 : List Cond := [Cond.selects RX5 yX5_readPair yX5_readPair, Cond.code yX5_readPair cX5_readPair 1 (some .int), Cond.methodLink RX5 147 yX5_writeTwo, Cond.instanceMethod yX5_writeTwo, Cond.selects RX5 yX5_writeTwo yX5_writeTwo, Cond.code yX5_writeTwo cX5_writeTwo 5 none, Cond.methodLink RX5 67 yX5_longShift, Cond.instanceMethod yX5_longShift, Cond.selects RX5 yX5_longShift yX5_longShift, Cond.code yX5_longShift cX5_longShift 4 none, Cond.constant RX5 161 (65520), Cond.constant RX5 162 (-2147483648), Cond.constant RX5 163 (2147483647), Cond.methodLink RX5 164 yX5_losesUnlikeSign, Cond.static yX5_losesUnlikeSign, Cond.code yX5_losesUnlikeSign cX5_losesUnlikeSign 4 (some .boolean)]
def wsX5_perform : List Cond := .code yX5_perform cX5_perform 5 none :: ((wsX5_perform_r1 ++ (wsX5_perform_r2 ++ (wsX5_perform_r3 ++ (wsX5_perform_r4 ++ (wsX5_perform_r5 ++ (wsX5_perform_r6 ++ (wsX5_perform_r7 ++ (wsX5_perform_r8 ++ wsX5_perform_r9)))))))) ++ wsX50 ++ wsX40 ++ wsX60 ++ wsX00 ++ wsX30 ++ wsX10 ++ wsX20)
def wsX6_init : List Cond := .code yX6_init cX6_init 1 none :: ([.methodLink RX6 3 objectInit, .instanceMethod objectInit, .code objectInit ⟨#[0xb1]⟩ 1 none, .fieldLink RX6 9 "OctalHouse$Registers" "haltCode" "I"] ++ wsX60)
def wsX7_init_r1 : List Cond := [Cond.methodLink RX7 1 objectInit, Cond.instanceMethod objectInit, Cond.code objectInit ⟨#[0xb1]⟩ 1 none, Cond.classLink RX7 7 RX4, Cond.instantiable RX4 1, Cond.initialized RX4, Cond.fieldLink RX7 10 "OctalHouse" "memory" "LOctalHouse$Memory;", Cond.classLink RX7 16 RX6, Cond.instantiable RX6 6, Cond.initialized RX6, Cond.fieldLink RX7 19 "OctalHouse" "registers" "LOctalHouse$Registers;", Cond.classLink RX7 23 RX0, Cond.instantiable RX0 7, Cond.initialized RX0, Cond.fieldLink RX7 28 "OctalHouse" "bus" "LOctalHouse$Bus;", Cond.classLink RX7 32 RX5, Cond.instantiable RX5 3, Cond.initialized RX5, Cond.fieldLink RX7 37 "OctalHouse" "processor" "LOctalHouse$Processor;", Cond.fieldLink RX7 41 "OctalHouse" "latestServed" "I", Cond.instanceMethod yX4_init, Cond.code yX4_init cX4_init 1 none, Cond.methodLink RX4 3 objectInit, Cond.arrayClass .int]
def wsX7_init_r2 : List Cond := [Cond.fieldLink RX4 9 "OctalHouse$Memory" "words" "[I", Cond.instanceMethod yX6_init, Cond.code yX6_init cX6_init 1 none, Cond.methodLink RX6 3 objectInit, Cond.fieldLink RX6 9 "OctalHouse$Registers" "haltCode" "I", Cond.methodLink RX7 25 yX0_init, Cond.instanceMethod yX0_init, Cond.code yX0_init cX0_init 4 none, Cond.methodLink RX0 3 objectInit, Cond.classLink RX0 9 RX1, Cond.fieldLink RX0 11 "OctalHouse$Bus" "channels" "[LOctalHouse$Channel;", Cond.classLink RX0 17 RX2, Cond.fieldLink RX0 19 "OctalHouse$Bus" "devices" "[LOctalHouse$Device;", Cond.classLink RX0 23 RX3, Cond.fieldLink RX0 25 "OctalHouse$Bus" "lines" "[LOctalHouse$Line;", Cond.fieldLink RX0 29 "OctalHouse$Bus" "registers" "LOctalHouse$Registers;", Cond.instantiable RX1 8, Cond.initialized RX1, Cond.instantiable RX2 10, Cond.initialized RX2, Cond.instanceMethod yX1_init, Cond.code yX1_init cX1_init 1 none, Cond.methodLink RX1 3 objectInit, Cond.classLink RX1 9 RX3]
def wsX7_init_r3 : List Cond := [Cond.instantiable RX3 3, Cond.initialized RX3, Cond.fieldLink RX1 12 "OctalHouse$Channel" "line" "LOctalHouse$Line;", Cond.instanceMethod yX3_init, Cond.code yX3_init cX3_init 1 none, Cond.methodLink RX3 1 objectInit, Cond.instanceMethod yX2_init, Cond.code yX2_init cX2_init 1 none, Cond.methodLink RX2 3 objectInit, Cond.classLink RX2 9 RX3, Cond.fieldLink RX2 12 "OctalHouse$Device" "line" "LOctalHouse$Line;", Cond.fieldLink RX2 18 "OctalHouse$Device" "tape" "[I", Cond.fieldLink RX2 22 "OctalHouse$Device" "kept" "[I", Cond.fieldLink RX2 25 "OctalHouse$Device" "takesIn" "Z", Cond.fieldLink RX2 29 "OctalHouse$Device" "delay" "I", Cond.methodLink RX7 34 yX5_init, Cond.instanceMethod yX5_init, Cond.code yX5_init cX5_init 4 none, Cond.methodLink RX5 3 objectInit, Cond.fieldLink RX5 9 "OctalHouse$Processor" "memory" "LOctalHouse$Memory;", Cond.fieldLink RX5 15 "OctalHouse$Processor" "registers" "LOctalHouse$Registers;", Cond.fieldLink RX5 19 "OctalHouse$Processor" "bus" "LOctalHouse$Bus;"]
def wsX7_init : List Cond := .code yX7_init cX7_init 1 none :: ((wsX7_init_r1 ++ (wsX7_init_r2 ++ wsX7_init_r3)) ++ wsX40 ++ wsX70 ++ wsX60 ++ wsX00 ++ wsX50 ++ wsX10 ++ wsX20 ++ wsX30)
def wsX7_doTurn_r1 : List Cond := [Cond.fieldLink RX7 28 "OctalHouse" "bus" "LOctalHouse$Bus;", Cond.fieldLink RX7 10 "OctalHouse" "memory" "LOctalHouse$Memory;", Cond.fieldLink RX7 19 "OctalHouse" "registers" "LOctalHouse$Registers;", Cond.fieldLink RX7 100 "OctalHouse" "served" "I", Cond.fieldLink RX7 41 "OctalHouse" "latestServed" "I", Cond.fieldLink RX7 37 "OctalHouse" "processor" "LOctalHouse$Processor;", Cond.methodLink RX7 161 yX0_advanceDevices, Cond.instanceMethod yX0_advanceDevices, Cond.selects RX0 yX0_advanceDevices yX0_advanceDevices, Cond.initialized RX0, Cond.code yX0_advanceDevices cX0_advanceDevices 3 none, Cond.methodLink RX0 40 yX0_deviceAt, Cond.instanceMethod yX0_deviceAt, Cond.selects RX0 yX0_deviceAt yX0_deviceAt, Cond.code yX0_deviceAt cX0_deviceAt 2 (some (.object "OctalHouse$Device")), Cond.fieldLink RX0 19 "OctalHouse$Bus" "devices" "[LOctalHouse$Device;", Cond.methodLink RX0 44 yX2_advance, Cond.instanceMethod yX2_advance, Cond.selects RX2 yX2_advance yX2_advance, Cond.initialized RX2, Cond.code yX2_advance cX2_advance 1 none, Cond.fieldLink RX2 33 "OctalHouse$Device" "busy" "I", Cond.fieldLink RX2 25 "OctalHouse$Device" "takesIn" "Z", Cond.fieldLink RX2 36 "OctalHouse$Device" "buffer" "I"]
def wsX7_doTurn_r2 : List Cond := [Cond.fieldLink RX2 12 "OctalHouse$Device" "line" "LOctalHouse$Line;", Cond.methodLink RX2 39 yX2_takeFromTape, Cond.instanceMethod yX2_takeFromTape, Cond.selects RX2 yX2_takeFromTape yX2_takeFromTape, Cond.code yX2_takeFromTape cX2_takeFromTape 2 (some .int), Cond.fieldLink RX2 54 "OctalHouse$Device" "tapeLength" "I", Cond.fieldLink RX2 51 "OctalHouse$Device" "tapeStart" "I", Cond.fieldLink RX2 18 "OctalHouse$Device" "tape" "[I", Cond.methodLink RX2 43 yX2_putOut, Cond.instanceMethod yX2_putOut, Cond.selects RX2 yX2_putOut yX2_putOut, Cond.code yX2_putOut cX2_putOut 2 none, Cond.fieldLink RX2 57 "OctalHouse$Device" "wentOut" "I", Cond.fieldLink RX2 22 "OctalHouse$Device" "kept" "[I", Cond.methodLink RX2 47 yX3_putFlag, Cond.instanceMethod yX3_putFlag, Cond.selects RX3 yX3_putFlag yX3_putFlag, Cond.initialized RX3, Cond.code yX3_putFlag cX3_putFlag 2 none, Cond.fieldLink RX3 7 "OctalHouse$Line" "flag" "Z", Cond.fieldLink RX3 13 "OctalHouse$Line" "asks" "Z", Cond.methodLink RX7 164 yX0_advanceChannels, Cond.instanceMethod yX0_advanceChannels, Cond.selects RX0 yX0_advanceChannels yX0_advanceChannels]
def wsX7_doTurn_r3 : List Cond := [Cond.code yX0_advanceChannels cX0_advanceChannels 5 none, Cond.methodLink RX0 47 yX0_channelAt, Cond.instanceMethod yX0_channelAt, Cond.selects RX0 yX0_channelAt yX0_channelAt, Cond.code yX0_channelAt cX0_channelAt 2 (some (.object "OctalHouse$Channel")), Cond.fieldLink RX0 11 "OctalHouse$Bus" "channels" "[LOctalHouse$Channel;", Cond.methodLink RX0 62 yX1_move, Cond.instanceMethod yX1_move, Cond.selects RX1 yX1_move yX1_move, Cond.initialized RX1, Cond.code yX1_move cX1_move 3 none, Cond.fieldLink RX1 18 "OctalHouse$Channel" "goesIn" "Z", Cond.fieldLink RX1 22 "OctalHouse$Channel" "address" "I", Cond.fieldLink RX1 46 "OctalHouse$Channel" "count" "I", Cond.constant RX1 49 (65535), Cond.fieldLink RX1 50 "OctalHouse$Channel" "moved" "I", Cond.fieldLink RX1 57 "OctalHouse$Channel" "firstWord" "I", Cond.constant RX1 60 (32768), Cond.methodLink RX1 31 yX4_write, Cond.instanceMethod yX4_write, Cond.selects RX4 yX4_write yX4_write, Cond.initialized RX4, Cond.code yX4_write cX4_write 3 none, Cond.fieldLink RX4 9 "OctalHouse$Memory" "words" "[I"]
def wsX7_doTurn_r4 : List Cond := [Cond.constant RX4 15 (65535), Cond.methodLink RX1 37 yX4_read, Cond.instanceMethod yX4_read, Cond.selects RX4 yX4_read yX4_read, Cond.code yX4_read cX4_read 2 (some .int), Cond.methodLink RX1 42 yX3_putFlag, Cond.methodLink RX1 53 yX1_finish, Cond.instanceMethod yX1_finish, Cond.selects RX1 yX1_finish yX1_finish, Cond.code yX1_finish cX1_finish 2 none, Cond.fieldLink RX1 12 "OctalHouse$Channel" "line" "LOctalHouse$Line;", Cond.fieldLink RX1 67 "OctalHouse$Channel" "active" "Z", Cond.methodLink RX1 64 yX2_start, Cond.instanceMethod yX2_start, Cond.selects RX2 yX2_start yX2_start, Cond.code yX2_start cX2_start 1 none, Cond.fieldLink RX2 29 "OctalHouse$Device" "delay" "I", Cond.methodLink RX7 168 yX0_takeInterrupt, Cond.instanceMethod yX0_takeInterrupt, Cond.selects RX0 yX0_takeInterrupt yX0_takeInterrupt, Cond.code yX0_takeInterrupt cX0_takeInterrupt 4 (some .int), Cond.methodLink RX0 66 yX0_lineOf, Cond.instanceMethod yX0_lineOf, Cond.selects RX0 yX0_lineOf yX0_lineOf]
def wsX7_doTurn_r5 : List Cond := [Cond.code yX0_lineOf cX0_lineOf 3 (some (.object "OctalHouse$Line")), Cond.fieldLink RX0 25 "OctalHouse$Bus" "lines" "[LOctalHouse$Line;", Cond.methodLink RX7 70 yX4_read, Cond.methodLink RX7 172 yX5_perform, Cond.instanceMethod yX5_perform, Cond.selects RX5 yX5_perform yX5_perform, Cond.initialized RX5, Cond.code yX5_perform cX5_perform 5 none, Cond.constant RX5 38 (32768), Cond.methodLink RX5 39 yX5_resolve, Cond.instanceMethod yX5_resolve, Cond.selects RX5 yX5_resolve yX5_resolve, Cond.code yX5_resolve cX5_resolve 4 (some .int), Cond.fieldLink RX5 9 "OctalHouse$Processor" "memory" "LOctalHouse$Memory;", Cond.fieldLink RX5 15 "OctalHouse$Processor" "registers" "LOctalHouse$Registers;", Cond.methodLink RX5 29 yX4_read, Cond.methodLink RX5 70 yX6_halt, Cond.instanceMethod yX6_halt, Cond.selects RX6 yX6_halt yX6_halt, Cond.initialized RX6, Cond.code yX6_halt cX6_halt 2 none, Cond.fieldLink RX6 18 "OctalHouse$Registers" "halted" "Z", Cond.fieldLink RX6 9 "OctalHouse$Registers" "haltCode" "I", Cond.methodLink RX5 42 yX5_referToMemory]
def wsX7_doTurn_r6 : List Cond := [Cond.instanceMethod yX5_referToMemory, Cond.selects RX5 yX5_referToMemory yX5_referToMemory, Cond.code yX5_referToMemory cX5_referToMemory 6 none, Cond.methodLink RX5 73 yX5_registerOf, Cond.static yX5_registerOf, Cond.code yX5_registerOf cX5_registerOf 1 (some .int), Cond.methodLink RX5 76 yX4_write, Cond.methodLink RX5 79 yX5_jump, Cond.instanceMethod yX5_jump, Cond.selects RX5 yX5_jump yX5_jump, Cond.code yX5_jump cX5_jump 3 none, Cond.methodLink RX5 83 yX5_incrementAndSkip, Cond.instanceMethod yX5_incrementAndSkip, Cond.selects RX5 yX5_incrementAndSkip yX5_incrementAndSkip, Cond.code yX5_incrementAndSkip cX5_incrementAndSkip 4 none, Cond.constant RX5 97 (65535), Cond.methodLink RX5 89 yX5_skipIf, Cond.instanceMethod yX5_skipIf, Cond.selects RX5 yX5_skipIf yX5_skipIf, Cond.code yX5_skipIf cX5_skipIf 2 none, Cond.methodLink RX5 35 yX6_stepOn, Cond.instanceMethod yX6_stepOn, Cond.selects RX6 yX6_stepOn yX6_stepOn, Cond.code yX6_stepOn cX6_stepOn 1 none]
def wsX7_doTurn_r7 : List Cond := [Cond.fieldLink RX6 15 "OctalHouse$Registers" "p" "I", Cond.methodLink RX5 86 yX5_add, Cond.instanceMethod yX5_add, Cond.selects RX5 yX5_add yX5_add, Cond.code yX5_add cX5_add 5 none, Cond.methodLink RX5 46 yX5_alterAndSkip, Cond.instanceMethod yX5_alterAndSkip, Cond.selects RX5 yX5_alterAndSkip yX5_alterAndSkip, Cond.code yX5_alterAndSkip cX5_alterAndSkip 14 none, Cond.methodLink RX5 111 yX5_altered, Cond.static yX5_altered, Cond.code yX5_altered cX5_altered 2 (some .int), Cond.methodLink RX5 114 yX5_alteredE, Cond.static yX5_alteredE, Cond.code yX5_alteredE cX5_alteredE 2 (some .int), Cond.methodLink RX5 117 yX5_incremented, Cond.instanceMethod yX5_incremented, Cond.selects RX5 yX5_incremented yX5_incremented, Cond.code yX5_incremented cX5_incremented 2 (some .int), Cond.methodLink RX5 50 yX5_shiftAndSkip, Cond.instanceMethod yX5_shiftAndSkip, Cond.selects RX5 yX5_shiftAndSkip yX5_shiftAndSkip, Cond.code yX5_shiftAndSkip cX5_shiftAndSkip 3 none, Cond.methodLink RX5 104 yX5_shifted]
def wsX7_doTurn_r8 : List Cond := [Cond.instanceMethod yX5_shifted, Cond.selects RX5 yX5_shifted yX5_shifted, Cond.code yX5_shifted cX5_shifted 3 (some .int), Cond.methodLink RX5 108 yX5_throughE, Cond.instanceMethod yX5_throughE, Cond.selects RX5 yX5_throughE yX5_throughE, Cond.code yX5_throughE cX5_throughE 3 (some .int), Cond.methodLink RX5 53 yX5_inputOrOutput, Cond.instanceMethod yX5_inputOrOutput, Cond.selects RX5 yX5_inputOrOutput yX5_inputOrOutput, Cond.code yX5_inputOrOutput cX5_inputOrOutput 5 none, Cond.fieldLink RX5 19 "OctalHouse$Processor" "bus" "LOctalHouse$Bus;", Cond.methodLink RX5 120 yX0_putFlag, Cond.instanceMethod yX0_putFlag, Cond.selects RX0 yX0_putFlag yX0_putFlag, Cond.code yX0_putFlag cX0_putFlag 4 none, Cond.fieldLink RX0 76 "OctalHouse$Bus" "interruptsOn" "Z", Cond.fieldLink RX0 29 "OctalHouse$Bus" "registers" "LOctalHouse$Registers;", Cond.static yX7_bit, Cond.initialized RX7, Cond.code yX7_bit cX7_bit 1 (some .int), Cond.methodLink RX0 88 yX3_putFlag, Cond.methodLink RX5 125 yX0_flagOf, Cond.instanceMethod yX0_flagOf]
def wsX7_doTurn_r9 : List Cond := [Cond.selects RX0 yX0_flagOf yX0_flagOf, Cond.code yX0_flagOf cX0_flagOf 3 (some .boolean), Cond.methodLink RX5 128 yX0_tell, Cond.instanceMethod yX0_tell, Cond.selects RX0 yX0_tell yX0_tell, Cond.code yX0_tell cX0_tell 4 (some .int), Cond.fieldLink RX0 92 "OctalHouse$Bus" "switchWord" "I", Cond.methodLink RX5 131 yX0_take, Cond.instanceMethod yX0_take, Cond.selects RX0 yX0_take yX0_take, Cond.code yX0_take cX0_take 6 none, Cond.fieldLink RX0 101 "OctalHouse$Bus" "lamps" "I", Cond.methodLink RX0 104 yX1_takeRegister, Cond.instanceMethod yX1_takeRegister, Cond.selects RX1 yX1_takeRegister yX1_takeRegister, Cond.code yX1_takeRegister cX1_takeRegister 2 none, Cond.fieldLink RX1 70 "OctalHouse$Channel" "countComesNext" "Z", Cond.methodLink RX5 134 yX0_putControl, Cond.instanceMethod yX0_putControl, Cond.selects RX0 yX0_putControl yX0_putControl, Cond.code yX0_putControl cX0_putControl 4 none, Cond.methodLink RX0 108 yX0_resetAllControls, Cond.instanceMethod yX0_resetAllControls, Cond.selects RX0 yX0_resetAllControls yX0_resetAllControls]
def wsX7_doTurn_r10 : List Cond := [Cond.code yX0_resetAllControls cX0_resetAllControls 3 none, Cond.methodLink RX0 114 yX0_putLineControl, Cond.instanceMethod yX0_putLineControl, Cond.selects RX0 yX0_putLineControl yX0_putLineControl, Cond.code yX0_putLineControl cX0_putLineControl 6 none, Cond.methodLink RX0 118 yX2_start, Cond.methodLink RX5 56 yX5_hasAddressBehind, Cond.static yX5_hasAddressBehind, Cond.code yX5_hasAddressBehind cX5_hasAddressBehind 1 (some .boolean), Cond.constant RX5 137 (32896), Cond.constant RX5 138 (33024), Cond.constant RX5 139 (34944), Cond.constant RX5 140 (35072), Cond.methodLink RX5 60 yX5_nextWord, Cond.instanceMethod yX5_nextWord, Cond.selects RX5 yX5_nextWord yX5_nextWord, Cond.code yX5_nextWord cX5_nextWord 2 (some .int), Cond.methodLink RX5 64 yX5_doubleWord, Cond.instanceMethod yX5_doubleWord, Cond.selects RX5 yX5_doubleWord yX5_doubleWord, Cond.code yX5_doubleWord cX5_doubleWord 4 none, Cond.methodLink RX5 141 yX5_multiply, Cond.instanceMethod yX5_multiply, Cond.selects RX5 yX5_multiply yX5_multiply]
def wsX7_doTurn_r11 : List Cond := [Cond.code yX5_multiply cX5_multiply 2 none, Cond.methodLink RX5 151 yX5_writePair, Cond.instanceMethod yX5_writePair, Cond.selects RX5 yX5_writePair yX5_writePair, Cond.code yX5_writePair cX5_writePair 2 none, Cond.methodLink RX5 144 yX5_divide, Cond.instanceMethod yX5_divide, Cond.selects RX5 yX5_divide yX5_divide, Cond.code yX5_divide cX5_divide 8 none, Cond.constantLong RX5 157 (-32768), Cond.constantLong RX5 159 (32767), Cond.methodLink RX5 154 yX5_readPair, Cond.instanceMethod yX5_readPair, Cond.selects RX5 yX5_readPair yX5_readPair, Cond.code yX5_readPair cX5_readPair 1 (some .int), Cond.methodLink RX5 147 yX5_writeTwo, Cond.instanceMethod yX5_writeTwo, Cond.selects RX5 yX5_writeTwo yX5_writeTwo, Cond.code yX5_writeTwo cX5_writeTwo 5 none, Cond.methodLink RX5 67 yX5_longShift, Cond.instanceMethod yX5_longShift, Cond.selects RX5 yX5_longShift yX5_longShift, Cond.code yX5_longShift cX5_longShift 4 none, Cond.constant RX5 161 (65520)]
def wsX7_doTurn_r12 : List Cond := [Cond.constant RX5 162 (-2147483648), Cond.constant RX5 163 (2147483647), Cond.methodLink RX5 164 yX5_losesUnlikeSign, Cond.static yX5_losesUnlikeSign, Cond.code yX5_losesUnlikeSign cX5_losesUnlikeSign 4 (some .boolean), Cond.methodLink RX7 175 yX5_nextWord]
def wsX7_doTurn : List Cond := .code yX7_doTurn cX7_doTurn 3 none :: ((wsX7_doTurn_r1 ++ (wsX7_doTurn_r2 ++ (wsX7_doTurn_r3 ++ (wsX7_doTurn_r4 ++ (wsX7_doTurn_r5 ++ (wsX7_doTurn_r6 ++ (wsX7_doTurn_r7 ++ (wsX7_doTurn_r8 ++ (wsX7_doTurn_r9 ++ (wsX7_doTurn_r10 ++ (wsX7_doTurn_r11 ++ wsX7_doTurn_r12))))))))))) ++ wsX70 ++ wsX00 ++ wsX60 ++ wsX20 ++ wsX30 ++ wsX10 ++ wsX40 ++ wsX50)
def wsX7_run_r1 : List Cond := [Cond.classLink RX7 45 "java/lang/IllegalArgumentException", Cond.initialized "java/lang/IllegalArgumentException", Cond.fieldLink RX7 19 "OctalHouse" "registers" "LOctalHouse$Registers;", Cond.fieldLink RX7 59 "OctalHouse" "turns" "I", Cond.methodLink RX7 56 yX7_doTurn, Cond.instanceMethod yX7_doTurn, Cond.selects RX7 yX7_doTurn yX7_doTurn, Cond.initialized RX7, Cond.code yX7_doTurn cX7_doTurn 3 none, Cond.fieldLink RX7 28 "OctalHouse" "bus" "LOctalHouse$Bus;", Cond.fieldLink RX7 10 "OctalHouse" "memory" "LOctalHouse$Memory;", Cond.fieldLink RX7 100 "OctalHouse" "served" "I", Cond.fieldLink RX7 41 "OctalHouse" "latestServed" "I", Cond.fieldLink RX7 37 "OctalHouse" "processor" "LOctalHouse$Processor;", Cond.methodLink RX7 161 yX0_advanceDevices, Cond.instanceMethod yX0_advanceDevices, Cond.selects RX0 yX0_advanceDevices yX0_advanceDevices, Cond.initialized RX0, Cond.code yX0_advanceDevices cX0_advanceDevices 3 none, Cond.methodLink RX0 40 yX0_deviceAt, Cond.instanceMethod yX0_deviceAt, Cond.selects RX0 yX0_deviceAt yX0_deviceAt, Cond.code yX0_deviceAt cX0_deviceAt 2 (some (.object "OctalHouse$Device")), Cond.fieldLink RX0 19 "OctalHouse$Bus" "devices" "[LOctalHouse$Device;"]
def wsX7_run_r2 : List Cond := [Cond.methodLink RX0 44 yX2_advance, Cond.instanceMethod yX2_advance, Cond.selects RX2 yX2_advance yX2_advance, Cond.initialized RX2, Cond.code yX2_advance cX2_advance 1 none, Cond.fieldLink RX2 33 "OctalHouse$Device" "busy" "I", Cond.fieldLink RX2 25 "OctalHouse$Device" "takesIn" "Z", Cond.fieldLink RX2 36 "OctalHouse$Device" "buffer" "I", Cond.fieldLink RX2 12 "OctalHouse$Device" "line" "LOctalHouse$Line;", Cond.methodLink RX2 39 yX2_takeFromTape, Cond.instanceMethod yX2_takeFromTape, Cond.selects RX2 yX2_takeFromTape yX2_takeFromTape, Cond.code yX2_takeFromTape cX2_takeFromTape 2 (some .int), Cond.fieldLink RX2 54 "OctalHouse$Device" "tapeLength" "I", Cond.fieldLink RX2 51 "OctalHouse$Device" "tapeStart" "I", Cond.fieldLink RX2 18 "OctalHouse$Device" "tape" "[I", Cond.methodLink RX2 43 yX2_putOut, Cond.instanceMethod yX2_putOut, Cond.selects RX2 yX2_putOut yX2_putOut, Cond.code yX2_putOut cX2_putOut 2 none, Cond.fieldLink RX2 57 "OctalHouse$Device" "wentOut" "I", Cond.fieldLink RX2 22 "OctalHouse$Device" "kept" "[I", Cond.methodLink RX2 47 yX3_putFlag, Cond.instanceMethod yX3_putFlag]
def wsX7_run_r3 : List Cond := [Cond.selects RX3 yX3_putFlag yX3_putFlag, Cond.initialized RX3, Cond.code yX3_putFlag cX3_putFlag 2 none, Cond.fieldLink RX3 7 "OctalHouse$Line" "flag" "Z", Cond.fieldLink RX3 13 "OctalHouse$Line" "asks" "Z", Cond.methodLink RX7 164 yX0_advanceChannels, Cond.instanceMethod yX0_advanceChannels, Cond.selects RX0 yX0_advanceChannels yX0_advanceChannels, Cond.code yX0_advanceChannels cX0_advanceChannels 5 none, Cond.methodLink RX0 47 yX0_channelAt, Cond.instanceMethod yX0_channelAt, Cond.selects RX0 yX0_channelAt yX0_channelAt, Cond.code yX0_channelAt cX0_channelAt 2 (some (.object "OctalHouse$Channel")), Cond.fieldLink RX0 11 "OctalHouse$Bus" "channels" "[LOctalHouse$Channel;", Cond.methodLink RX0 62 yX1_move, Cond.instanceMethod yX1_move, Cond.selects RX1 yX1_move yX1_move, Cond.initialized RX1, Cond.code yX1_move cX1_move 3 none, Cond.fieldLink RX1 18 "OctalHouse$Channel" "goesIn" "Z", Cond.fieldLink RX1 22 "OctalHouse$Channel" "address" "I", Cond.fieldLink RX1 46 "OctalHouse$Channel" "count" "I", Cond.constant RX1 49 (65535), Cond.fieldLink RX1 50 "OctalHouse$Channel" "moved" "I"]
def wsX7_run_r4 : List Cond := [Cond.fieldLink RX1 57 "OctalHouse$Channel" "firstWord" "I", Cond.constant RX1 60 (32768), Cond.methodLink RX1 31 yX4_write, Cond.instanceMethod yX4_write, Cond.selects RX4 yX4_write yX4_write, Cond.initialized RX4, Cond.code yX4_write cX4_write 3 none, Cond.fieldLink RX4 9 "OctalHouse$Memory" "words" "[I", Cond.constant RX4 15 (65535), Cond.methodLink RX1 37 yX4_read, Cond.instanceMethod yX4_read, Cond.selects RX4 yX4_read yX4_read, Cond.code yX4_read cX4_read 2 (some .int), Cond.methodLink RX1 42 yX3_putFlag, Cond.methodLink RX1 53 yX1_finish, Cond.instanceMethod yX1_finish, Cond.selects RX1 yX1_finish yX1_finish, Cond.code yX1_finish cX1_finish 2 none, Cond.fieldLink RX1 12 "OctalHouse$Channel" "line" "LOctalHouse$Line;", Cond.fieldLink RX1 67 "OctalHouse$Channel" "active" "Z", Cond.methodLink RX1 64 yX2_start, Cond.instanceMethod yX2_start, Cond.selects RX2 yX2_start yX2_start, Cond.code yX2_start cX2_start 1 none]
def wsX7_run_r5 : List Cond := [Cond.fieldLink RX2 29 "OctalHouse$Device" "delay" "I", Cond.methodLink RX7 168 yX0_takeInterrupt, Cond.instanceMethod yX0_takeInterrupt, Cond.selects RX0 yX0_takeInterrupt yX0_takeInterrupt, Cond.code yX0_takeInterrupt cX0_takeInterrupt 4 (some .int), Cond.methodLink RX0 66 yX0_lineOf, Cond.instanceMethod yX0_lineOf, Cond.selects RX0 yX0_lineOf yX0_lineOf, Cond.code yX0_lineOf cX0_lineOf 3 (some (.object "OctalHouse$Line")), Cond.fieldLink RX0 25 "OctalHouse$Bus" "lines" "[LOctalHouse$Line;", Cond.methodLink RX7 70 yX4_read, Cond.methodLink RX7 172 yX5_perform, Cond.instanceMethod yX5_perform, Cond.selects RX5 yX5_perform yX5_perform, Cond.initialized RX5, Cond.code yX5_perform cX5_perform 5 none, Cond.constant RX5 38 (32768), Cond.methodLink RX5 39 yX5_resolve, Cond.instanceMethod yX5_resolve, Cond.selects RX5 yX5_resolve yX5_resolve, Cond.code yX5_resolve cX5_resolve 4 (some .int), Cond.fieldLink RX5 9 "OctalHouse$Processor" "memory" "LOctalHouse$Memory;", Cond.fieldLink RX5 15 "OctalHouse$Processor" "registers" "LOctalHouse$Registers;", Cond.methodLink RX5 29 yX4_read]
def wsX7_run_r6 : List Cond := [Cond.methodLink RX5 70 yX6_halt, Cond.instanceMethod yX6_halt, Cond.selects RX6 yX6_halt yX6_halt, Cond.initialized RX6, Cond.code yX6_halt cX6_halt 2 none, Cond.fieldLink RX6 18 "OctalHouse$Registers" "halted" "Z", Cond.fieldLink RX6 9 "OctalHouse$Registers" "haltCode" "I", Cond.methodLink RX5 42 yX5_referToMemory, Cond.instanceMethod yX5_referToMemory, Cond.selects RX5 yX5_referToMemory yX5_referToMemory, Cond.code yX5_referToMemory cX5_referToMemory 6 none, Cond.methodLink RX5 73 yX5_registerOf, Cond.static yX5_registerOf, Cond.code yX5_registerOf cX5_registerOf 1 (some .int), Cond.methodLink RX5 76 yX4_write, Cond.methodLink RX5 79 yX5_jump, Cond.instanceMethod yX5_jump, Cond.selects RX5 yX5_jump yX5_jump, Cond.code yX5_jump cX5_jump 3 none, Cond.methodLink RX5 83 yX5_incrementAndSkip, Cond.instanceMethod yX5_incrementAndSkip, Cond.selects RX5 yX5_incrementAndSkip yX5_incrementAndSkip, Cond.code yX5_incrementAndSkip cX5_incrementAndSkip 4 none, Cond.constant RX5 97 (65535)]
def wsX7_run_r7 : List Cond := [Cond.methodLink RX5 89 yX5_skipIf, Cond.instanceMethod yX5_skipIf, Cond.selects RX5 yX5_skipIf yX5_skipIf, Cond.code yX5_skipIf cX5_skipIf 2 none, Cond.methodLink RX5 35 yX6_stepOn, Cond.instanceMethod yX6_stepOn, Cond.selects RX6 yX6_stepOn yX6_stepOn, Cond.code yX6_stepOn cX6_stepOn 1 none, Cond.fieldLink RX6 15 "OctalHouse$Registers" "p" "I", Cond.methodLink RX5 86 yX5_add, Cond.instanceMethod yX5_add, Cond.selects RX5 yX5_add yX5_add, Cond.code yX5_add cX5_add 5 none, Cond.methodLink RX5 46 yX5_alterAndSkip, Cond.instanceMethod yX5_alterAndSkip, Cond.selects RX5 yX5_alterAndSkip yX5_alterAndSkip, Cond.code yX5_alterAndSkip cX5_alterAndSkip 14 none, Cond.methodLink RX5 111 yX5_altered, Cond.static yX5_altered, Cond.code yX5_altered cX5_altered 2 (some .int), Cond.methodLink RX5 114 yX5_alteredE, Cond.static yX5_alteredE, Cond.code yX5_alteredE cX5_alteredE 2 (some .int), Cond.methodLink RX5 117 yX5_incremented]
def wsX7_run_r8 : List Cond := [Cond.instanceMethod yX5_incremented, Cond.selects RX5 yX5_incremented yX5_incremented, Cond.code yX5_incremented cX5_incremented 2 (some .int), Cond.methodLink RX5 50 yX5_shiftAndSkip, Cond.instanceMethod yX5_shiftAndSkip, Cond.selects RX5 yX5_shiftAndSkip yX5_shiftAndSkip, Cond.code yX5_shiftAndSkip cX5_shiftAndSkip 3 none, Cond.methodLink RX5 104 yX5_shifted, Cond.instanceMethod yX5_shifted, Cond.selects RX5 yX5_shifted yX5_shifted, Cond.code yX5_shifted cX5_shifted 3 (some .int), Cond.methodLink RX5 108 yX5_throughE, Cond.instanceMethod yX5_throughE, Cond.selects RX5 yX5_throughE yX5_throughE, Cond.code yX5_throughE cX5_throughE 3 (some .int), Cond.methodLink RX5 53 yX5_inputOrOutput, Cond.instanceMethod yX5_inputOrOutput, Cond.selects RX5 yX5_inputOrOutput yX5_inputOrOutput, Cond.code yX5_inputOrOutput cX5_inputOrOutput 5 none, Cond.fieldLink RX5 19 "OctalHouse$Processor" "bus" "LOctalHouse$Bus;", Cond.methodLink RX5 120 yX0_putFlag, Cond.instanceMethod yX0_putFlag, Cond.selects RX0 yX0_putFlag yX0_putFlag, Cond.code yX0_putFlag cX0_putFlag 4 none]
def wsX7_run_r9 : List Cond := [Cond.fieldLink RX0 76 "OctalHouse$Bus" "interruptsOn" "Z", Cond.fieldLink RX0 29 "OctalHouse$Bus" "registers" "LOctalHouse$Registers;", Cond.static yX7_bit, Cond.code yX7_bit cX7_bit 1 (some .int), Cond.methodLink RX0 88 yX3_putFlag, Cond.methodLink RX5 125 yX0_flagOf, Cond.instanceMethod yX0_flagOf, Cond.selects RX0 yX0_flagOf yX0_flagOf, Cond.code yX0_flagOf cX0_flagOf 3 (some .boolean), Cond.methodLink RX5 128 yX0_tell, Cond.instanceMethod yX0_tell, Cond.selects RX0 yX0_tell yX0_tell, Cond.code yX0_tell cX0_tell 4 (some .int), Cond.fieldLink RX0 92 "OctalHouse$Bus" "switchWord" "I", Cond.methodLink RX5 131 yX0_take, Cond.instanceMethod yX0_take, Cond.selects RX0 yX0_take yX0_take, Cond.code yX0_take cX0_take 6 none, Cond.fieldLink RX0 101 "OctalHouse$Bus" "lamps" "I", Cond.methodLink RX0 104 yX1_takeRegister, Cond.instanceMethod yX1_takeRegister, Cond.selects RX1 yX1_takeRegister yX1_takeRegister, Cond.code yX1_takeRegister cX1_takeRegister 2 none, Cond.fieldLink RX1 70 "OctalHouse$Channel" "countComesNext" "Z"]
def wsX7_run_r10 : List Cond := [Cond.methodLink RX5 134 yX0_putControl, Cond.instanceMethod yX0_putControl, Cond.selects RX0 yX0_putControl yX0_putControl, Cond.code yX0_putControl cX0_putControl 4 none, Cond.methodLink RX0 108 yX0_resetAllControls, Cond.instanceMethod yX0_resetAllControls, Cond.selects RX0 yX0_resetAllControls yX0_resetAllControls, Cond.code yX0_resetAllControls cX0_resetAllControls 3 none, Cond.methodLink RX0 114 yX0_putLineControl, Cond.instanceMethod yX0_putLineControl, Cond.selects RX0 yX0_putLineControl yX0_putLineControl, Cond.code yX0_putLineControl cX0_putLineControl 6 none, Cond.methodLink RX0 118 yX2_start, Cond.methodLink RX5 56 yX5_hasAddressBehind, Cond.static yX5_hasAddressBehind, Cond.code yX5_hasAddressBehind cX5_hasAddressBehind 1 (some .boolean), Cond.constant RX5 137 (32896), Cond.constant RX5 138 (33024), Cond.constant RX5 139 (34944), Cond.constant RX5 140 (35072), Cond.methodLink RX5 60 yX5_nextWord, Cond.instanceMethod yX5_nextWord, Cond.selects RX5 yX5_nextWord yX5_nextWord, Cond.code yX5_nextWord cX5_nextWord 2 (some .int)]
def wsX7_run_r11 : List Cond := [Cond.methodLink RX5 64 yX5_doubleWord, Cond.instanceMethod yX5_doubleWord, Cond.selects RX5 yX5_doubleWord yX5_doubleWord, Cond.code yX5_doubleWord cX5_doubleWord 4 none, Cond.methodLink RX5 141 yX5_multiply, Cond.instanceMethod yX5_multiply, Cond.selects RX5 yX5_multiply yX5_multiply, Cond.code yX5_multiply cX5_multiply 2 none, Cond.methodLink RX5 151 yX5_writePair, Cond.instanceMethod yX5_writePair, Cond.selects RX5 yX5_writePair yX5_writePair, Cond.code yX5_writePair cX5_writePair 2 none, Cond.methodLink RX5 144 yX5_divide, Cond.instanceMethod yX5_divide, Cond.selects RX5 yX5_divide yX5_divide, Cond.code yX5_divide cX5_divide 8 none, Cond.constantLong RX5 157 (-32768), Cond.constantLong RX5 159 (32767), Cond.methodLink RX5 154 yX5_readPair, Cond.instanceMethod yX5_readPair, Cond.selects RX5 yX5_readPair yX5_readPair, Cond.code yX5_readPair cX5_readPair 1 (some .int), Cond.methodLink RX5 147 yX5_writeTwo, Cond.instanceMethod yX5_writeTwo]
def wsX7_run_r12 : List Cond := [Cond.selects RX5 yX5_writeTwo yX5_writeTwo, Cond.code yX5_writeTwo cX5_writeTwo 5 none, Cond.methodLink RX5 67 yX5_longShift, Cond.instanceMethod yX5_longShift, Cond.selects RX5 yX5_longShift yX5_longShift, Cond.code yX5_longShift cX5_longShift 4 none, Cond.constant RX5 161 (65520), Cond.constant RX5 162 (-2147483648), Cond.constant RX5 163 (2147483647), Cond.methodLink RX5 164 yX5_losesUnlikeSign, Cond.static yX5_losesUnlikeSign, Cond.code yX5_losesUnlikeSign cX5_losesUnlikeSign 4 (some .boolean), Cond.methodLink RX7 175 yX5_nextWord]
def wsX7_run : List Cond := .code yX7_run cX7_run 3 (some .int) :: ((wsX7_run_r1 ++ (wsX7_run_r2 ++ (wsX7_run_r3 ++ (wsX7_run_r4 ++ (wsX7_run_r5 ++ (wsX7_run_r6 ++ (wsX7_run_r7 ++ (wsX7_run_r8 ++ (wsX7_run_r9 ++ (wsX7_run_r10 ++ (wsX7_run_r11 ++ wsX7_run_r12))))))))))) ++ wsX70 ++ wsX60 ++ wsX00 ++ wsX20 ++ wsX30 ++ wsX10 ++ wsX40 ++ wsX50 ++ (vx_atS RX7 49 "java/lang/IllegalArgumentException" ["java/lang/RuntimeException", "java/lang/Exception"]).filter goodWord)
def wsX7_go : List Cond := .code yX7_go cX7_go 2 none :: ([.fieldLink RX7 19 "OctalHouse" "registers" "LOctalHouse$Registers;"] ++ wsX70 ++ wsX60)
def wsX7_word : List Cond := .code yX7_word cX7_word 2 (some .int) :: ([.classLink RX7 65 "java/lang/IndexOutOfBoundsException", .initialized "java/lang/IndexOutOfBoundsException", .fieldLink RX7 10 "OctalHouse" "memory" "LOctalHouse$Memory;", .methodLink RX7 70 yX4_read, .instanceMethod yX4_read, .selects RX4 yX4_read yX4_read, .initialized RX4, .code yX4_read cX4_read 2 (some .int), .fieldLink RX4 9 "OctalHouse$Memory" "words" "[I"] ++ wsX70 ++ wsX40 ++ (vx_atS RX7 69 "java/lang/IndexOutOfBoundsException" ["java/lang/RuntimeException", "java/lang/Exception"]).filter goodWord)
def wsX7_set : List Cond := .code yX7_set cX7_set 3 none :: ([.classLink RX7 65 "java/lang/IndexOutOfBoundsException", .initialized "java/lang/IndexOutOfBoundsException", .fieldLink RX7 10 "OctalHouse" "memory" "LOctalHouse$Memory;", .methodLink RX7 74 yX4_write, .instanceMethod yX4_write, .selects RX4 yX4_write yX4_write, .initialized RX4, .code yX4_write cX4_write 3 none, .fieldLink RX4 9 "OctalHouse$Memory" "words" "[I", .constant RX4 15 (65535)] ++ wsX70 ++ wsX40 ++ (vx_atS RX7 69 "java/lang/IndexOutOfBoundsException" ["java/lang/RuntimeException", "java/lang/Exception"]).filter goodWord)
def wsX7_state : List Cond := .code yX7_state cX7_state 2 (some .int) :: ([.fieldLink RX7 10 "OctalHouse" "memory" "LOctalHouse$Memory;", .fieldLink RX7 19 "OctalHouse" "registers" "LOctalHouse$Registers;", .fieldLink RX7 28 "OctalHouse" "bus" "LOctalHouse$Bus;", .fieldLink RX7 59 "OctalHouse" "turns" "I", .fieldLink RX7 100 "OctalHouse" "served" "I", .fieldLink RX7 41 "OctalHouse" "latestServed" "I", .methodLink RX7 70 yX4_read, .instanceMethod yX4_read, .selects RX4 yX4_read yX4_read, .initialized RX4, .code yX4_read cX4_read 2 (some .int), .fieldLink RX4 9 "OctalHouse$Memory" "words" "[I", .methodLink RX7 87 yX7_bit, .static yX7_bit, .initialized RX7, .code yX7_bit cX7_bit 1 (some .int)] ++ wsX70 ++ wsX60 ++ wsX00 ++ wsX40)
def wsX7_switches : List Cond := .code yX7_switches cX7_switches 2 none :: ([.fieldLink RX7 28 "OctalHouse" "bus" "LOctalHouse$Bus;", .constant RX7 103 (65535)] ++ wsX70 ++ wsX00)
def wsX7_device : List Cond := .code yX7_device cX7_device 5 none :: ([.classLink RX7 65 "java/lang/IndexOutOfBoundsException", .initialized "java/lang/IndexOutOfBoundsException", .classLink RX7 45 "java/lang/IllegalArgumentException", .initialized "java/lang/IllegalArgumentException", .fieldLink RX7 28 "OctalHouse" "bus" "LOctalHouse$Bus;", .methodLink RX7 107 yX0_deviceAt, .instanceMethod yX0_deviceAt, .selects RX0 yX0_deviceAt yX0_deviceAt, .initialized RX0, .code yX0_deviceAt cX0_deviceAt 2 (some (.object "OctalHouse$Device")), .fieldLink RX0 19 "OctalHouse$Bus" "devices" "[LOctalHouse$Device;", .methodLink RX7 115 yX2_equip, .instanceMethod yX2_equip, .selects RX2 yX2_equip yX2_equip, .initialized RX2, .code yX2_equip cX2_equip 3 none, .fieldLink RX2 25 "OctalHouse$Device" "takesIn" "Z", .fieldLink RX2 29 "OctalHouse$Device" "delay" "I", .fieldLink RX2 33 "OctalHouse$Device" "busy" "I", .fieldLink RX2 36 "OctalHouse$Device" "buffer" "I"] ++ wsX70 ++ wsX00 ++ wsX20 ++ (vx_atS RX7 69 "java/lang/IndexOutOfBoundsException" ["java/lang/RuntimeException", "java/lang/Exception"]).filter goodWord ++ (vx_atS RX7 49 "java/lang/IllegalArgumentException" ["java/lang/RuntimeException", "java/lang/Exception"]).filter goodWord)
def wsX7_give : List Cond := .code yX7_give cX7_give 4 (some .int) :: ([.classLink RX7 65 "java/lang/IndexOutOfBoundsException", .initialized "java/lang/IndexOutOfBoundsException", .classLink RX7 124 "java/lang/IllegalStateException", .initialized "java/lang/IllegalStateException", .fieldLink RX7 28 "OctalHouse" "bus" "LOctalHouse$Bus;", .constant RX7 103 (65535), .methodLink RX7 107 yX0_deviceAt, .instanceMethod yX0_deviceAt, .selects RX0 yX0_deviceAt yX0_deviceAt, .initialized RX0, .code yX0_deviceAt cX0_deviceAt 2 (some (.object "OctalHouse$Device")), .fieldLink RX0 19 "OctalHouse$Bus" "devices" "[LOctalHouse$Device;", .methodLink RX7 129 yX2_putOnTape, .instanceMethod yX2_putOnTape, .selects RX2 yX2_putOnTape yX2_putOnTape, .initialized RX2, .code yX2_putOnTape cX2_putOnTape 3 none, .fieldLink RX2 51 "OctalHouse$Device" "tapeStart" "I", .fieldLink RX2 54 "OctalHouse$Device" "tapeLength" "I", .fieldLink RX2 18 "OctalHouse$Device" "tape" "[I"] ++ wsX70 ++ wsX20 ++ wsX00 ++ (vx_atS RX7 69 "java/lang/IndexOutOfBoundsException" ["java/lang/RuntimeException", "java/lang/Exception"]).filter goodWord ++ (vx_atS RX7 128 "java/lang/IllegalStateException" ["java/lang/RuntimeException", "java/lang/Exception"]).filter goodWord)
def wsX7_out : List Cond := .code yX7_out cX7_out 4 (some .int) :: ([.classLink RX7 65 "java/lang/IndexOutOfBoundsException", .initialized "java/lang/IndexOutOfBoundsException", .fieldLink RX7 28 "OctalHouse" "bus" "LOctalHouse$Bus;", .methodLink RX7 107 yX0_deviceAt, .instanceMethod yX0_deviceAt, .selects RX0 yX0_deviceAt yX0_deviceAt, .initialized RX0, .code yX0_deviceAt cX0_deviceAt 2 (some (.object "OctalHouse$Device")), .fieldLink RX0 19 "OctalHouse$Bus" "devices" "[LOctalHouse$Device;", .methodLink RX7 133 yX2_keptOut, .instanceMethod yX2_keptOut, .selects RX2 yX2_keptOut yX2_keptOut, .initialized RX2, .code yX2_keptOut cX2_keptOut 2 (some .int), .fieldLink RX2 57 "OctalHouse$Device" "wentOut" "I", .fieldLink RX2 22 "OctalHouse$Device" "kept" "[I"] ++ wsX70 ++ wsX00 ++ wsX20 ++ (vx_atS RX7 69 "java/lang/IndexOutOfBoundsException" ["java/lang/RuntimeException", "java/lang/Exception"]).filter goodWord)
def wsX7_code_r1 : List Cond := [Cond.fieldLink RX7 28 "OctalHouse" "bus" "LOctalHouse$Bus;", Cond.methodLink RX7 136 yX0_lineOf, Cond.instanceMethod yX0_lineOf, Cond.selects RX0 yX0_lineOf yX0_lineOf, Cond.initialized RX0, Cond.code yX0_lineOf cX0_lineOf 3 (some (.object "OctalHouse$Line")), Cond.fieldLink RX0 25 "OctalHouse$Bus" "lines" "[LOctalHouse$Line;", Cond.methodLink RX7 87 yX7_bit, Cond.static yX7_bit, Cond.initialized RX7, Cond.code yX7_bit cX7_bit 1 (some .int), Cond.methodLink RX7 151 yX0_channelAt, Cond.instanceMethod yX0_channelAt, Cond.selects RX0 yX0_channelAt yX0_channelAt, Cond.code yX0_channelAt cX0_channelAt 2 (some (.object "OctalHouse$Channel")), Cond.fieldLink RX0 11 "OctalHouse$Bus" "channels" "[LOctalHouse$Channel;", Cond.methodLink RX7 155 yX1_tellPart, Cond.instanceMethod yX1_tellPart, Cond.selects RX1 yX1_tellPart yX1_tellPart, Cond.initialized RX1, Cond.code yX1_tellPart cX1_tellPart 2 (some .int), Cond.fieldLink RX1 67 "OctalHouse$Channel" "active" "Z", Cond.fieldLink RX1 22 "OctalHouse$Channel" "address" "I", Cond.fieldLink RX1 46 "OctalHouse$Channel" "count" "I"]
def wsX7_code_r2 : List Cond := [Cond.fieldLink RX1 18 "OctalHouse$Channel" "goesIn" "Z", Cond.fieldLink RX1 57 "OctalHouse$Channel" "firstWord" "I", Cond.fieldLink RX1 50 "OctalHouse$Channel" "moved" "I", Cond.methodLink RX7 107 yX0_deviceAt, Cond.instanceMethod yX0_deviceAt, Cond.selects RX0 yX0_deviceAt yX0_deviceAt, Cond.code yX0_deviceAt cX0_deviceAt 2 (some (.object "OctalHouse$Device")), Cond.fieldLink RX0 19 "OctalHouse$Bus" "devices" "[LOctalHouse$Device;", Cond.methodLink RX7 160 yX2_tellPart, Cond.instanceMethod yX2_tellPart, Cond.selects RX2 yX2_tellPart yX2_tellPart, Cond.initialized RX2, Cond.code yX2_tellPart cX2_tellPart 2 (some .int), Cond.fieldLink RX2 33 "OctalHouse$Device" "busy" "I", Cond.fieldLink RX2 36 "OctalHouse$Device" "buffer" "I", Cond.fieldLink RX2 54 "OctalHouse$Device" "tapeLength" "I", Cond.fieldLink RX2 25 "OctalHouse$Device" "takesIn" "Z", Cond.fieldLink RX2 29 "OctalHouse$Device" "delay" "I", Cond.fieldLink RX2 57 "OctalHouse$Device" "wentOut" "I"]
def wsX7_code : List Cond := .code yX7_code cX7_code 6 (some .int) :: ((wsX7_code_r1 ++ wsX7_code_r2) ++ wsX70 ++ wsX30 ++ wsX00 ++ wsX10 ++ wsX20)
def wsX7_sum : List Cond := .code yX7_sum cX7_sum 3 (some .int) :: ([.fieldLink RX7 10 "OctalHouse" "memory" "LOctalHouse$Memory;", .methodLink RX7 70 yX4_read, .instanceMethod yX4_read, .selects RX4 yX4_read yX4_read, .initialized RX4, .code yX4_read cX4_read 2 (some .int), .fieldLink RX4 9 "OctalHouse$Memory" "words" "[I"] ++ wsX70 ++ wsX40)
def wsX8_init_r1 : List Cond := [Cond.methodLink RX8 1 objectInit, Cond.instanceMethod objectInit, Cond.code objectInit ⟨#[0xb1]⟩ 1 none, Cond.arrayClass .int, Cond.fieldLink RX8 9 "OctalHouseModel" "memory" "[I", Cond.fieldLink RX8 13 "OctalHouseModel" "haltCode" "I", Cond.fieldLink RX8 17 "OctalHouseModel" "servedCode" "I", Cond.arrayClass .boolean, Cond.fieldLink RX8 20 "OctalHouseModel" "control" "[Z", Cond.fieldLink RX8 24 "OctalHouseModel" "flag" "[Z", Cond.fieldLink RX8 27 "OctalHouseModel" "asks" "[Z", Cond.fieldLink RX8 30 "OctalHouseModel" "active" "[Z", Cond.fieldLink RX8 33 "OctalHouseModel" "goesIn" "[Z", Cond.fieldLink RX8 36 "OctalHouseModel" "takesCount" "[Z", Cond.fieldLink RX8 39 "OctalHouseModel" "address" "[I", Cond.fieldLink RX8 42 "OctalHouseModel" "count" "[I", Cond.fieldLink RX8 45 "OctalHouseModel" "firstWord" "[I", Cond.fieldLink RX8 48 "OctalHouseModel" "moved" "[I", Cond.fieldLink RX8 51 "OctalHouseModel" "givesOut" "[Z", Cond.fieldLink RX8 54 "OctalHouseModel" "delay" "[I", Cond.fieldLink RX8 57 "OctalHouseModel" "buffer" "[I", Cond.fieldLink RX8 60 "OctalHouseModel" "busy" "[I", Cond.fieldLink RX8 63 "OctalHouseModel" "tapeMany" "[I", Cond.fieldLink RX8 66 "OctalHouseModel" "outMany" "[I"]
def wsX8_init_r2 : List Cond := [Cond.fieldLink RX8 69 "OctalHouseModel" "tape" "[I", Cond.fieldLink RX8 72 "OctalHouseModel" "out" "[I"]
def wsX8_init : List Cond := .code yX8_init cX8_init 2 none :: ((wsX8_init_r1 ++ wsX8_init_r2) ++ wsX80)
def wsX8_thrown : List Cond := .code yX8_thrown cX8_thrown 1 (some .int) :: ([.fieldLink RX8 75 "OctalHouseModel" "thrown" "I"] ++ wsX80)
def wsX8_at : List Cond := .code yX8_at cX8_at 2 (some .int) :: ([.fieldLink RX8 78 "OctalHouseModel" "a" "I", .fieldLink RX8 81 "OctalHouseModel" "b" "I", .fieldLink RX8 9 "OctalHouseModel" "memory" "[I"] ++ wsX80)
def wsX8_put : List Cond := .code yX8_put cX8_put 3 none :: ([.fieldLink RX8 78 "OctalHouseModel" "a" "I", .fieldLink RX8 81 "OctalHouseModel" "b" "I", .fieldLink RX8 9 "OctalHouseModel" "memory" "[I"] ++ wsX80)
def wsX8_more : List Cond := .code yX8_more cX8_more 1 (some .int) :: ([])
def wsX8_skip : List Cond := .code yX8_skip cX8_skip 2 none :: ([.fieldLink RX8 84 "OctalHouseModel" "p" "I", .methodLink RX8 87 yX8_more, .static yX8_more, .initialized RX8, .code yX8_more cX8_more 1 (some .int)] ++ wsX80)
def wsX8_direct : List Cond := .code yX8_direct cX8_direct 4 (some .int) :: ([.fieldLink RX8 91 "OctalHouseModel" "halted" "Z", .fieldLink RX8 13 "OctalHouseModel" "haltCode" "I", .methodLink RX8 95 yX8_at, .instanceMethod yX8_at, .selects RX8 yX8_at yX8_at, .initialized RX8, .code yX8_at cX8_at 2 (some .int), .fieldLink RX8 78 "OctalHouseModel" "a" "I", .fieldLink RX8 81 "OctalHouseModel" "b" "I", .fieldLink RX8 9 "OctalHouseModel" "memory" "[I"] ++ wsX80)
def wsX8_started : List Cond := .code yX8_started cX8_started 2 none :: ([.fieldLink RX8 60 "OctalHouseModel" "busy" "[I", .fieldLink RX8 54 "OctalHouseModel" "delay" "[I"] ++ wsX80)
def wsX8_ready : List Cond := .code yX8_ready cX8_ready 3 none :: ([.fieldLink RX8 51 "OctalHouseModel" "givesOut" "[Z", .fieldLink RX8 66 "OctalHouseModel" "outMany" "[I", .fieldLink RX8 72 "OctalHouseModel" "out" "[I", .fieldLink RX8 57 "OctalHouseModel" "buffer" "[I", .fieldLink RX8 63 "OctalHouseModel" "tapeMany" "[I", .fieldLink RX8 69 "OctalHouseModel" "tape" "[I", .fieldLink RX8 24 "OctalHouseModel" "flag" "[Z", .fieldLink RX8 27 "OctalHouseModel" "asks" "[Z"] ++ wsX80)
def wsX8_channel_r1 : List Cond := [Cond.fieldLink RX8 45 "OctalHouseModel" "firstWord" "[I", Cond.fieldLink RX8 30 "OctalHouseModel" "active" "[Z", Cond.fieldLink RX8 24 "OctalHouseModel" "flag" "[Z", Cond.fieldLink RX8 33 "OctalHouseModel" "goesIn" "[Z", Cond.fieldLink RX8 39 "OctalHouseModel" "address" "[I", Cond.fieldLink RX8 57 "OctalHouseModel" "buffer" "[I", Cond.fieldLink RX8 27 "OctalHouseModel" "asks" "[Z", Cond.fieldLink RX8 42 "OctalHouseModel" "count" "[I", Cond.constant RX8 102 (65535), Cond.fieldLink RX8 48 "OctalHouseModel" "moved" "[I", Cond.fieldLink RX8 20 "OctalHouseModel" "control" "[Z", Cond.methodLink RX8 98 yX8_put, Cond.instanceMethod yX8_put, Cond.selects RX8 yX8_put yX8_put, Cond.initialized RX8, Cond.code yX8_put cX8_put 3 none, Cond.fieldLink RX8 78 "OctalHouseModel" "a" "I", Cond.fieldLink RX8 81 "OctalHouseModel" "b" "I", Cond.fieldLink RX8 9 "OctalHouseModel" "memory" "[I", Cond.methodLink RX8 95 yX8_at, Cond.instanceMethod yX8_at, Cond.selects RX8 yX8_at yX8_at, Cond.code yX8_at cX8_at 2 (some .int), Cond.methodLink RX8 87 yX8_more]
def wsX8_channel_r2 : List Cond := [Cond.static yX8_more, Cond.code yX8_more cX8_more 1 (some .int), Cond.methodLink RX8 103 yX8_started, Cond.instanceMethod yX8_started, Cond.selects RX8 yX8_started yX8_started, Cond.code yX8_started cX8_started 2 none, Cond.fieldLink RX8 60 "OctalHouseModel" "busy" "[I", Cond.fieldLink RX8 54 "OctalHouseModel" "delay" "[I"]
def wsX8_channel : List Cond := .code yX8_channel cX8_channel 3 none :: ((wsX8_channel_r1 ++ wsX8_channel_r2) ++ wsX80)
def wsX8_signed : List Cond := .code yX8_signed cX8_signed 1 (some .int) :: ([.constant RX8 155 (65536)])
def wsX8_sum : List Cond := .code yX8_sum cX8_sum 4 (some .int) :: ([.fieldLink RX8 159 "OctalHouseModel" "o" "I", .constant RX8 102 (65535), .fieldLink RX8 162 "OctalHouseModel" "e" "I", .methodLink RX8 156 yX8_signed, .static yX8_signed, .initialized RX8, .code yX8_signed cX8_signed 1 (some .int), .constant RX8 155 (65536)] ++ wsX80)
def wsX8_memoryWord_r1 : List Cond := [Cond.constant RX8 143 (32768), Cond.fieldLink RX8 78 "OctalHouseModel" "a" "I", Cond.fieldLink RX8 84 "OctalHouseModel" "p" "I", Cond.fieldLink RX8 122 "OctalHouseModel" "nowHeld" "Z", Cond.constant RX8 102 (65535), Cond.fieldLink RX8 81 "OctalHouseModel" "b" "I", Cond.methodLink RX8 144 yX8_direct, Cond.instanceMethod yX8_direct, Cond.selects RX8 yX8_direct yX8_direct, Cond.initialized RX8, Cond.code yX8_direct cX8_direct 4 (some .int), Cond.fieldLink RX8 91 "OctalHouseModel" "halted" "Z", Cond.fieldLink RX8 13 "OctalHouseModel" "haltCode" "I", Cond.methodLink RX8 95 yX8_at, Cond.instanceMethod yX8_at, Cond.selects RX8 yX8_at yX8_at, Cond.code yX8_at cX8_at 2 (some .int), Cond.fieldLink RX8 9 "OctalHouseModel" "memory" "[I", Cond.methodLink RX8 98 yX8_put, Cond.instanceMethod yX8_put, Cond.selects RX8 yX8_put yX8_put, Cond.code yX8_put cX8_put 3 none, Cond.methodLink RX8 87 yX8_more, Cond.static yX8_more]
def wsX8_memoryWord_r2 : List Cond := [Cond.code yX8_more cX8_more 1 (some .int), Cond.methodLink RX8 147 yX8_skip, Cond.instanceMethod yX8_skip, Cond.selects RX8 yX8_skip yX8_skip, Cond.code yX8_skip cX8_skip 2 none, Cond.methodLink RX8 151 yX8_sum, Cond.instanceMethod yX8_sum, Cond.selects RX8 yX8_sum yX8_sum, Cond.code yX8_sum cX8_sum 4 (some .int), Cond.fieldLink RX8 159 "OctalHouseModel" "o" "I", Cond.fieldLink RX8 162 "OctalHouseModel" "e" "I", Cond.methodLink RX8 156 yX8_signed, Cond.static yX8_signed, Cond.code yX8_signed cX8_signed 1 (some .int), Cond.constant RX8 155 (65536)]
def wsX8_memoryWord : List Cond := .code yX8_memoryWord cX8_memoryWord 7 none :: ((wsX8_memoryWord_r1 ++ wsX8_memoryWord_r2) ++ wsX80)
def wsX8_is : List Cond := .code yX8_is cX8_is 2 (some .boolean) :: ([])
def wsX8_altered : List Cond := .code yX8_altered cX8_altered 11 (some .int) :: ([.constant RX8 102 (65535), .fieldLink RX8 162 "OctalHouseModel" "e" "I", .fieldLink RX8 159 "OctalHouseModel" "o" "I", .methodLink RX8 165 yX8_is, .static yX8_is, .initialized RX8, .code yX8_is cX8_is 2 (some .boolean), .methodLink RX8 147 yX8_skip, .instanceMethod yX8_skip, .selects RX8 yX8_skip yX8_skip, .code yX8_skip cX8_skip 2 none, .fieldLink RX8 84 "OctalHouseModel" "p" "I", .methodLink RX8 87 yX8_more, .static yX8_more, .code yX8_more cX8_more 1 (some .int)] ++ wsX80)
def wsX8_shifted : List Cond := .code yX8_shifted cX8_shifted 4 (some .int) :: ([.constant RX8 143 (32768), .constant RX8 102 (65535), .fieldLink RX8 162 "OctalHouseModel" "e" "I"] ++ wsX80)
def wsX8_registers_r1 : List Cond := [Cond.fieldLink RX8 81 "OctalHouseModel" "b" "I", Cond.fieldLink RX8 78 "OctalHouseModel" "a" "I", Cond.fieldLink RX8 162 "OctalHouseModel" "e" "I", Cond.methodLink RX8 165 yX8_is, Cond.static yX8_is, Cond.initialized RX8, Cond.code yX8_is cX8_is 2 (some .boolean), Cond.methodLink RX8 169 yX8_altered, Cond.instanceMethod yX8_altered, Cond.selects RX8 yX8_altered yX8_altered, Cond.code yX8_altered cX8_altered 11 (some .int), Cond.constant RX8 102 (65535), Cond.fieldLink RX8 159 "OctalHouseModel" "o" "I", Cond.methodLink RX8 147 yX8_skip, Cond.instanceMethod yX8_skip, Cond.selects RX8 yX8_skip yX8_skip, Cond.code yX8_skip cX8_skip 2 none, Cond.fieldLink RX8 84 "OctalHouseModel" "p" "I", Cond.methodLink RX8 87 yX8_more, Cond.static yX8_more, Cond.code yX8_more cX8_more 1 (some .int), Cond.methodLink RX8 172 yX8_shifted, Cond.instanceMethod yX8_shifted, Cond.selects RX8 yX8_shifted yX8_shifted]
def wsX8_registers_r2 : List Cond := [Cond.code yX8_shifted cX8_shifted 4 (some .int), Cond.constant RX8 143 (32768)]
def wsX8_registers : List Cond := .code yX8_registers cX8_registers 4 none :: ((wsX8_registers_r1 ++ wsX8_registers_r2) ++ wsX80)
def wsX8_setFlag : List Cond := .code yX8_setFlag cX8_setFlag 3 none :: ([.fieldLink RX8 116 "OctalHouseModel" "isOn" "Z", .fieldLink RX8 159 "OctalHouseModel" "o" "I", .fieldLink RX8 24 "OctalHouseModel" "flag" "[Z", .fieldLink RX8 27 "OctalHouseModel" "asks" "[Z"] ++ wsX80)
def wsX8_flagOf : List Cond := .code yX8_flagOf cX8_flagOf 2 (some .boolean) :: ([.fieldLink RX8 116 "OctalHouseModel" "isOn" "Z", .fieldLink RX8 159 "OctalHouseModel" "o" "I", .fieldLink RX8 24 "OctalHouseModel" "flag" "[Z"] ++ wsX80)
def wsX8_told : List Cond := .code yX8_told cX8_told 2 (some .int) :: ([.fieldLink RX8 175 "OctalHouseModel" "switches" "I", .fieldLink RX8 42 "OctalHouseModel" "count" "[I", .fieldLink RX8 57 "OctalHouseModel" "buffer" "[I"] ++ wsX80)
def wsX8_goes : List Cond := .code yX8_goes cX8_goes 4 none :: ([.fieldLink RX8 178 "OctalHouseModel" "lamps" "I", .fieldLink RX8 36 "OctalHouseModel" "takesCount" "[Z", .fieldLink RX8 42 "OctalHouseModel" "count" "[I", .fieldLink RX8 39 "OctalHouseModel" "address" "[I", .fieldLink RX8 33 "OctalHouseModel" "goesIn" "[Z", .fieldLink RX8 45 "OctalHouseModel" "firstWord" "[I", .fieldLink RX8 57 "OctalHouseModel" "buffer" "[I"] ++ wsX80)
def wsX8_setControl : List Cond := .code yX8_setControl cX8_setControl 4 none :: ([.fieldLink RX8 36 "OctalHouseModel" "takesCount" "[Z", .fieldLink RX8 20 "OctalHouseModel" "control" "[Z", .fieldLink RX8 30 "OctalHouseModel" "active" "[Z", .methodLink RX8 103 yX8_started, .instanceMethod yX8_started, .selects RX8 yX8_started yX8_started, .initialized RX8, .code yX8_started cX8_started 2 none, .fieldLink RX8 60 "OctalHouseModel" "busy" "[I", .fieldLink RX8 54 "OctalHouseModel" "delay" "[I"] ++ wsX80)
def wsX8_codes_r1 : List Cond := [Cond.fieldLink RX8 81 "OctalHouseModel" "b" "I", Cond.fieldLink RX8 78 "OctalHouseModel" "a" "I", Cond.fieldLink RX8 91 "OctalHouseModel" "halted" "Z", Cond.fieldLink RX8 13 "OctalHouseModel" "haltCode" "I", Cond.fieldLink RX8 122 "OctalHouseModel" "nowHeld" "Z", Cond.methodLink RX8 165 yX8_is, Cond.static yX8_is, Cond.initialized RX8, Cond.code yX8_is cX8_is 2 (some .boolean), Cond.methodLink RX8 181 yX8_setFlag, Cond.instanceMethod yX8_setFlag, Cond.selects RX8 yX8_setFlag yX8_setFlag, Cond.code yX8_setFlag cX8_setFlag 3 none, Cond.fieldLink RX8 116 "OctalHouseModel" "isOn" "Z", Cond.fieldLink RX8 159 "OctalHouseModel" "o" "I", Cond.fieldLink RX8 24 "OctalHouseModel" "flag" "[Z", Cond.fieldLink RX8 27 "OctalHouseModel" "asks" "[Z", Cond.methodLink RX8 185 yX8_flagOf, Cond.instanceMethod yX8_flagOf, Cond.selects RX8 yX8_flagOf yX8_flagOf, Cond.code yX8_flagOf cX8_flagOf 2 (some .boolean), Cond.methodLink RX8 147 yX8_skip, Cond.instanceMethod yX8_skip, Cond.selects RX8 yX8_skip yX8_skip]
def wsX8_codes_r2 : List Cond := [Cond.code yX8_skip cX8_skip 2 none, Cond.fieldLink RX8 84 "OctalHouseModel" "p" "I", Cond.methodLink RX8 87 yX8_more, Cond.static yX8_more, Cond.code yX8_more cX8_more 1 (some .int), Cond.methodLink RX8 189 yX8_told, Cond.instanceMethod yX8_told, Cond.selects RX8 yX8_told yX8_told, Cond.code yX8_told cX8_told 2 (some .int), Cond.fieldLink RX8 175 "OctalHouseModel" "switches" "I", Cond.fieldLink RX8 42 "OctalHouseModel" "count" "[I", Cond.fieldLink RX8 57 "OctalHouseModel" "buffer" "[I", Cond.methodLink RX8 192 yX8_goes, Cond.instanceMethod yX8_goes, Cond.selects RX8 yX8_goes yX8_goes, Cond.code yX8_goes cX8_goes 4 none, Cond.fieldLink RX8 178 "OctalHouseModel" "lamps" "I", Cond.fieldLink RX8 36 "OctalHouseModel" "takesCount" "[Z", Cond.fieldLink RX8 39 "OctalHouseModel" "address" "[I", Cond.fieldLink RX8 33 "OctalHouseModel" "goesIn" "[Z", Cond.fieldLink RX8 45 "OctalHouseModel" "firstWord" "[I", Cond.methodLink RX8 195 yX8_setControl, Cond.instanceMethod yX8_setControl, Cond.selects RX8 yX8_setControl yX8_setControl]
def wsX8_codes_r3 : List Cond := [Cond.code yX8_setControl cX8_setControl 4 none, Cond.fieldLink RX8 20 "OctalHouseModel" "control" "[Z", Cond.fieldLink RX8 30 "OctalHouseModel" "active" "[Z", Cond.methodLink RX8 103 yX8_started, Cond.instanceMethod yX8_started, Cond.selects RX8 yX8_started yX8_started, Cond.code yX8_started cX8_started 2 none, Cond.fieldLink RX8 60 "OctalHouseModel" "busy" "[I", Cond.fieldLink RX8 54 "OctalHouseModel" "delay" "[I"]
def wsX8_codes : List Cond := .code yX8_codes cX8_codes 7 none :: ((wsX8_codes_r1 ++ (wsX8_codes_r2 ++ wsX8_codes_r3)) ++ wsX80)
def wsX8_both_ : List Cond := .code yX8_both_ cX8_both_ 3 none :: ([.constant RX8 102 (65535), .fieldLink RX8 78 "OctalHouseModel" "a" "I", .fieldLink RX8 81 "OctalHouseModel" "b" "I"] ++ wsX80)
def wsX8_both : List Cond := .code yX8_both cX8_both 1 (some .long) :: ([.fieldLink RX8 81 "OctalHouseModel" "b" "I", .fieldLink RX8 78 "OctalHouseModel" "a" "I"] ++ wsX80)
def wsX8_twoWords_r1 : List Cond := [Cond.constant RX8 198 (32896), Cond.fieldLink RX8 78 "OctalHouseModel" "a" "I", Cond.fieldLink RX8 159 "OctalHouseModel" "o" "I", Cond.constant RX8 199 (33024), Cond.constantLong RX8 217 (-32768), Cond.constantLong RX8 219 (32767), Cond.constant RX8 102 (65535), Cond.fieldLink RX8 81 "OctalHouseModel" "b" "I", Cond.constant RX8 200 (34944), Cond.methodLink RX8 87 yX8_more, Cond.static yX8_more, Cond.initialized RX8, Cond.code yX8_more cX8_more 1 (some .int), Cond.methodLink RX8 156 yX8_signed, Cond.static yX8_signed, Cond.code yX8_signed cX8_signed 1 (some .int), Cond.constant RX8 155 (65536), Cond.methodLink RX8 95 yX8_at, Cond.instanceMethod yX8_at, Cond.selects RX8 yX8_at yX8_at, Cond.code yX8_at cX8_at 2 (some .int), Cond.fieldLink RX8 9 "OctalHouseModel" "memory" "[I", Cond.methodLink RX8 212 yX8_both_, Cond.instanceMethod yX8_both_]
def wsX8_twoWords_r2 : List Cond := [Cond.selects RX8 yX8_both_ yX8_both_, Cond.code yX8_both_ cX8_both_ 3 none, Cond.methodLink RX8 205 yX8_both, Cond.instanceMethod yX8_both, Cond.selects RX8 yX8_both yX8_both, Cond.code yX8_both cX8_both 1 (some .long), Cond.methodLink RX8 98 yX8_put, Cond.instanceMethod yX8_put, Cond.selects RX8 yX8_put yX8_put, Cond.code yX8_put cX8_put 3 none]
def wsX8_twoWords : List Cond := .code yX8_twoWords cX8_twoWords 9 none :: ((wsX8_twoWords_r1 ++ wsX8_twoWords_r2) ++ wsX80)
def wsX8_leftSigned : List Cond := .code yX8_leftSigned cX8_leftSigned 7 none :: ([.fieldLink RX8 159 "OctalHouseModel" "o" "I", .constantLong RX8 215 (2147483647), .methodLink RX8 205 yX8_both, .instanceMethod yX8_both, .selects RX8 yX8_both yX8_both, .initialized RX8, .code yX8_both cX8_both 1 (some .long), .fieldLink RX8 81 "OctalHouseModel" "b" "I", .fieldLink RX8 78 "OctalHouseModel" "a" "I", .methodLink RX8 212 yX8_both_, .instanceMethod yX8_both_, .selects RX8 yX8_both_ yX8_both_, .code yX8_both_ cX8_both_ 3 none, .constant RX8 102 (65535)] ++ wsX80)
def wsX8_extended_r1 : List Cond := [Cond.constant RX8 198 (32896), Cond.constant RX8 199 (33024), Cond.constant RX8 200 (34944), Cond.constant RX8 201 (35072), Cond.fieldLink RX8 84 "OctalHouseModel" "p" "I", Cond.fieldLink RX8 159 "OctalHouseModel" "o" "I", Cond.methodLink RX8 87 yX8_more, Cond.static yX8_more, Cond.initialized RX8, Cond.code yX8_more cX8_more 1 (some .int), Cond.methodLink RX8 95 yX8_at, Cond.instanceMethod yX8_at, Cond.selects RX8 yX8_at yX8_at, Cond.code yX8_at cX8_at 2 (some .int), Cond.fieldLink RX8 78 "OctalHouseModel" "a" "I", Cond.fieldLink RX8 81 "OctalHouseModel" "b" "I", Cond.fieldLink RX8 9 "OctalHouseModel" "memory" "[I", Cond.methodLink RX8 144 yX8_direct, Cond.instanceMethod yX8_direct, Cond.selects RX8 yX8_direct yX8_direct, Cond.code yX8_direct cX8_direct 4 (some .int), Cond.fieldLink RX8 91 "OctalHouseModel" "halted" "Z", Cond.fieldLink RX8 13 "OctalHouseModel" "haltCode" "I", Cond.methodLink RX8 202 yX8_twoWords]
def wsX8_extended_r2 : List Cond := [Cond.instanceMethod yX8_twoWords, Cond.selects RX8 yX8_twoWords yX8_twoWords, Cond.code yX8_twoWords cX8_twoWords 9 none, Cond.constantLong RX8 217 (-32768), Cond.constantLong RX8 219 (32767), Cond.constant RX8 102 (65535), Cond.methodLink RX8 156 yX8_signed, Cond.static yX8_signed, Cond.code yX8_signed cX8_signed 1 (some .int), Cond.constant RX8 155 (65536), Cond.methodLink RX8 212 yX8_both_, Cond.instanceMethod yX8_both_, Cond.selects RX8 yX8_both_ yX8_both_, Cond.code yX8_both_ cX8_both_ 3 none, Cond.methodLink RX8 205 yX8_both, Cond.instanceMethod yX8_both, Cond.selects RX8 yX8_both yX8_both, Cond.code yX8_both cX8_both 1 (some .long), Cond.methodLink RX8 98 yX8_put, Cond.instanceMethod yX8_put, Cond.selects RX8 yX8_put yX8_put, Cond.code yX8_put cX8_put 3 none, Cond.methodLink RX8 209 yX8_leftSigned, Cond.instanceMethod yX8_leftSigned]
def wsX8_extended_r3 : List Cond := [Cond.selects RX8 yX8_leftSigned yX8_leftSigned, Cond.code yX8_leftSigned cX8_leftSigned 7 none, Cond.constantLong RX8 215 (2147483647)]
def wsX8_extended : List Cond := .code yX8_extended cX8_extended 5 none :: ((wsX8_extended_r1 ++ (wsX8_extended_r2 ++ wsX8_extended_r3)) ++ wsX80)
def wsX8_does_r1 : List Cond := [Cond.methodLink RX8 131 yX8_memoryWord, Cond.instanceMethod yX8_memoryWord, Cond.selects RX8 yX8_memoryWord yX8_memoryWord, Cond.initialized RX8, Cond.code yX8_memoryWord cX8_memoryWord 7 none, Cond.constant RX8 143 (32768), Cond.fieldLink RX8 78 "OctalHouseModel" "a" "I", Cond.fieldLink RX8 84 "OctalHouseModel" "p" "I", Cond.fieldLink RX8 122 "OctalHouseModel" "nowHeld" "Z", Cond.constant RX8 102 (65535), Cond.fieldLink RX8 81 "OctalHouseModel" "b" "I", Cond.methodLink RX8 144 yX8_direct, Cond.instanceMethod yX8_direct, Cond.selects RX8 yX8_direct yX8_direct, Cond.code yX8_direct cX8_direct 4 (some .int), Cond.fieldLink RX8 91 "OctalHouseModel" "halted" "Z", Cond.fieldLink RX8 13 "OctalHouseModel" "haltCode" "I", Cond.methodLink RX8 95 yX8_at, Cond.instanceMethod yX8_at, Cond.selects RX8 yX8_at yX8_at, Cond.code yX8_at cX8_at 2 (some .int), Cond.fieldLink RX8 9 "OctalHouseModel" "memory" "[I", Cond.methodLink RX8 98 yX8_put, Cond.instanceMethod yX8_put]
def wsX8_does_r2 : List Cond := [Cond.selects RX8 yX8_put yX8_put, Cond.code yX8_put cX8_put 3 none, Cond.methodLink RX8 87 yX8_more, Cond.static yX8_more, Cond.code yX8_more cX8_more 1 (some .int), Cond.methodLink RX8 147 yX8_skip, Cond.instanceMethod yX8_skip, Cond.selects RX8 yX8_skip yX8_skip, Cond.code yX8_skip cX8_skip 2 none, Cond.methodLink RX8 151 yX8_sum, Cond.instanceMethod yX8_sum, Cond.selects RX8 yX8_sum yX8_sum, Cond.code yX8_sum cX8_sum 4 (some .int), Cond.fieldLink RX8 159 "OctalHouseModel" "o" "I", Cond.fieldLink RX8 162 "OctalHouseModel" "e" "I", Cond.methodLink RX8 156 yX8_signed, Cond.static yX8_signed, Cond.code yX8_signed cX8_signed 1 (some .int), Cond.constant RX8 155 (65536), Cond.methodLink RX8 134 yX8_registers, Cond.instanceMethod yX8_registers, Cond.selects RX8 yX8_registers yX8_registers, Cond.code yX8_registers cX8_registers 4 none, Cond.methodLink RX8 165 yX8_is]
def wsX8_does_r3 : List Cond := [Cond.static yX8_is, Cond.code yX8_is cX8_is 2 (some .boolean), Cond.methodLink RX8 169 yX8_altered, Cond.instanceMethod yX8_altered, Cond.selects RX8 yX8_altered yX8_altered, Cond.code yX8_altered cX8_altered 11 (some .int), Cond.methodLink RX8 172 yX8_shifted, Cond.instanceMethod yX8_shifted, Cond.selects RX8 yX8_shifted yX8_shifted, Cond.code yX8_shifted cX8_shifted 4 (some .int), Cond.methodLink RX8 137 yX8_codes, Cond.instanceMethod yX8_codes, Cond.selects RX8 yX8_codes yX8_codes, Cond.code yX8_codes cX8_codes 7 none, Cond.methodLink RX8 181 yX8_setFlag, Cond.instanceMethod yX8_setFlag, Cond.selects RX8 yX8_setFlag yX8_setFlag, Cond.code yX8_setFlag cX8_setFlag 3 none, Cond.fieldLink RX8 116 "OctalHouseModel" "isOn" "Z", Cond.fieldLink RX8 24 "OctalHouseModel" "flag" "[Z", Cond.fieldLink RX8 27 "OctalHouseModel" "asks" "[Z", Cond.methodLink RX8 185 yX8_flagOf, Cond.instanceMethod yX8_flagOf, Cond.selects RX8 yX8_flagOf yX8_flagOf]
def wsX8_does_r4 : List Cond := [Cond.code yX8_flagOf cX8_flagOf 2 (some .boolean), Cond.methodLink RX8 189 yX8_told, Cond.instanceMethod yX8_told, Cond.selects RX8 yX8_told yX8_told, Cond.code yX8_told cX8_told 2 (some .int), Cond.fieldLink RX8 175 "OctalHouseModel" "switches" "I", Cond.fieldLink RX8 42 "OctalHouseModel" "count" "[I", Cond.fieldLink RX8 57 "OctalHouseModel" "buffer" "[I", Cond.methodLink RX8 192 yX8_goes, Cond.instanceMethod yX8_goes, Cond.selects RX8 yX8_goes yX8_goes, Cond.code yX8_goes cX8_goes 4 none, Cond.fieldLink RX8 178 "OctalHouseModel" "lamps" "I", Cond.fieldLink RX8 36 "OctalHouseModel" "takesCount" "[Z", Cond.fieldLink RX8 39 "OctalHouseModel" "address" "[I", Cond.fieldLink RX8 33 "OctalHouseModel" "goesIn" "[Z", Cond.fieldLink RX8 45 "OctalHouseModel" "firstWord" "[I", Cond.methodLink RX8 195 yX8_setControl, Cond.instanceMethod yX8_setControl, Cond.selects RX8 yX8_setControl yX8_setControl, Cond.code yX8_setControl cX8_setControl 4 none, Cond.fieldLink RX8 20 "OctalHouseModel" "control" "[Z", Cond.fieldLink RX8 30 "OctalHouseModel" "active" "[Z", Cond.methodLink RX8 103 yX8_started]
def wsX8_does_r5 : List Cond := [Cond.instanceMethod yX8_started, Cond.selects RX8 yX8_started yX8_started, Cond.code yX8_started cX8_started 2 none, Cond.fieldLink RX8 60 "OctalHouseModel" "busy" "[I", Cond.fieldLink RX8 54 "OctalHouseModel" "delay" "[I", Cond.methodLink RX8 140 yX8_extended, Cond.instanceMethod yX8_extended, Cond.selects RX8 yX8_extended yX8_extended, Cond.code yX8_extended cX8_extended 5 none, Cond.constant RX8 198 (32896), Cond.constant RX8 199 (33024), Cond.constant RX8 200 (34944), Cond.constant RX8 201 (35072), Cond.methodLink RX8 202 yX8_twoWords, Cond.instanceMethod yX8_twoWords, Cond.selects RX8 yX8_twoWords yX8_twoWords, Cond.code yX8_twoWords cX8_twoWords 9 none, Cond.constantLong RX8 217 (-32768), Cond.constantLong RX8 219 (32767), Cond.methodLink RX8 212 yX8_both_, Cond.instanceMethod yX8_both_, Cond.selects RX8 yX8_both_ yX8_both_, Cond.code yX8_both_ cX8_both_ 3 none, Cond.methodLink RX8 205 yX8_both]
def wsX8_does_r6 : List Cond := [Cond.instanceMethod yX8_both, Cond.selects RX8 yX8_both yX8_both, Cond.code yX8_both cX8_both 1 (some .long), Cond.methodLink RX8 209 yX8_leftSigned, Cond.instanceMethod yX8_leftSigned, Cond.selects RX8 yX8_leftSigned yX8_leftSigned, Cond.code yX8_leftSigned cX8_leftSigned 7 none, Cond.constantLong RX8 215 (2147483647)]
def wsX8_does : List Cond := .code yX8_does cX8_does 3 none :: ((wsX8_does_r1 ++ (wsX8_does_r2 ++ (wsX8_does_r3 ++ (wsX8_does_r4 ++ (wsX8_does_r5 ++ wsX8_does_r6))))) ++ wsX80)
def wsX8_turn_r1 : List Cond := [Cond.fieldLink RX8 107 "OctalHouseModel" "turns" "I", Cond.fieldLink RX8 60 "OctalHouseModel" "busy" "[I", Cond.fieldLink RX8 20 "OctalHouseModel" "control" "[Z", Cond.fieldLink RX8 24 "OctalHouseModel" "flag" "[Z", Cond.fieldLink RX8 116 "OctalHouseModel" "isOn" "Z", Cond.fieldLink RX8 119 "OctalHouseModel" "heldOff" "Z", Cond.fieldLink RX8 27 "OctalHouseModel" "asks" "[Z", Cond.fieldLink RX8 122 "OctalHouseModel" "nowHeld" "Z", Cond.fieldLink RX8 125 "OctalHouseModel" "served" "I", Cond.fieldLink RX8 17 "OctalHouseModel" "servedCode" "I", Cond.fieldLink RX8 84 "OctalHouseModel" "p" "I", Cond.methodLink RX8 110 yX8_ready, Cond.instanceMethod yX8_ready, Cond.selects RX8 yX8_ready yX8_ready, Cond.initialized RX8, Cond.code yX8_ready cX8_ready 3 none, Cond.fieldLink RX8 51 "OctalHouseModel" "givesOut" "[Z", Cond.fieldLink RX8 66 "OctalHouseModel" "outMany" "[I", Cond.fieldLink RX8 72 "OctalHouseModel" "out" "[I", Cond.fieldLink RX8 57 "OctalHouseModel" "buffer" "[I", Cond.fieldLink RX8 63 "OctalHouseModel" "tapeMany" "[I", Cond.fieldLink RX8 69 "OctalHouseModel" "tape" "[I", Cond.methodLink RX8 113 yX8_channel, Cond.instanceMethod yX8_channel]
def wsX8_turn_r2 : List Cond := [Cond.selects RX8 yX8_channel yX8_channel, Cond.code yX8_channel cX8_channel 3 none, Cond.fieldLink RX8 45 "OctalHouseModel" "firstWord" "[I", Cond.fieldLink RX8 30 "OctalHouseModel" "active" "[Z", Cond.fieldLink RX8 33 "OctalHouseModel" "goesIn" "[Z", Cond.fieldLink RX8 39 "OctalHouseModel" "address" "[I", Cond.fieldLink RX8 42 "OctalHouseModel" "count" "[I", Cond.constant RX8 102 (65535), Cond.fieldLink RX8 48 "OctalHouseModel" "moved" "[I", Cond.methodLink RX8 98 yX8_put, Cond.instanceMethod yX8_put, Cond.selects RX8 yX8_put yX8_put, Cond.code yX8_put cX8_put 3 none, Cond.fieldLink RX8 78 "OctalHouseModel" "a" "I", Cond.fieldLink RX8 81 "OctalHouseModel" "b" "I", Cond.fieldLink RX8 9 "OctalHouseModel" "memory" "[I", Cond.methodLink RX8 95 yX8_at, Cond.instanceMethod yX8_at, Cond.selects RX8 yX8_at yX8_at, Cond.code yX8_at cX8_at 2 (some .int), Cond.methodLink RX8 87 yX8_more, Cond.static yX8_more, Cond.code yX8_more cX8_more 1 (some .int), Cond.methodLink RX8 103 yX8_started]
def wsX8_turn_r3 : List Cond := [Cond.instanceMethod yX8_started, Cond.selects RX8 yX8_started yX8_started, Cond.code yX8_started cX8_started 2 none, Cond.fieldLink RX8 54 "OctalHouseModel" "delay" "[I", Cond.methodLink RX8 128 yX8_does, Cond.instanceMethod yX8_does, Cond.selects RX8 yX8_does yX8_does, Cond.code yX8_does cX8_does 3 none, Cond.methodLink RX8 131 yX8_memoryWord, Cond.instanceMethod yX8_memoryWord, Cond.selects RX8 yX8_memoryWord yX8_memoryWord, Cond.code yX8_memoryWord cX8_memoryWord 7 none, Cond.constant RX8 143 (32768), Cond.methodLink RX8 144 yX8_direct, Cond.instanceMethod yX8_direct, Cond.selects RX8 yX8_direct yX8_direct, Cond.code yX8_direct cX8_direct 4 (some .int), Cond.fieldLink RX8 91 "OctalHouseModel" "halted" "Z", Cond.fieldLink RX8 13 "OctalHouseModel" "haltCode" "I", Cond.methodLink RX8 147 yX8_skip, Cond.instanceMethod yX8_skip, Cond.selects RX8 yX8_skip yX8_skip, Cond.code yX8_skip cX8_skip 2 none, Cond.methodLink RX8 151 yX8_sum]
def wsX8_turn_r4 : List Cond := [Cond.instanceMethod yX8_sum, Cond.selects RX8 yX8_sum yX8_sum, Cond.code yX8_sum cX8_sum 4 (some .int), Cond.fieldLink RX8 159 "OctalHouseModel" "o" "I", Cond.fieldLink RX8 162 "OctalHouseModel" "e" "I", Cond.methodLink RX8 156 yX8_signed, Cond.static yX8_signed, Cond.code yX8_signed cX8_signed 1 (some .int), Cond.constant RX8 155 (65536), Cond.methodLink RX8 134 yX8_registers, Cond.instanceMethod yX8_registers, Cond.selects RX8 yX8_registers yX8_registers, Cond.code yX8_registers cX8_registers 4 none, Cond.methodLink RX8 165 yX8_is, Cond.static yX8_is, Cond.code yX8_is cX8_is 2 (some .boolean), Cond.methodLink RX8 169 yX8_altered, Cond.instanceMethod yX8_altered, Cond.selects RX8 yX8_altered yX8_altered, Cond.code yX8_altered cX8_altered 11 (some .int), Cond.methodLink RX8 172 yX8_shifted, Cond.instanceMethod yX8_shifted, Cond.selects RX8 yX8_shifted yX8_shifted, Cond.code yX8_shifted cX8_shifted 4 (some .int)]
def wsX8_turn_r5 : List Cond := [Cond.methodLink RX8 137 yX8_codes, Cond.instanceMethod yX8_codes, Cond.selects RX8 yX8_codes yX8_codes, Cond.code yX8_codes cX8_codes 7 none, Cond.methodLink RX8 181 yX8_setFlag, Cond.instanceMethod yX8_setFlag, Cond.selects RX8 yX8_setFlag yX8_setFlag, Cond.code yX8_setFlag cX8_setFlag 3 none, Cond.methodLink RX8 185 yX8_flagOf, Cond.instanceMethod yX8_flagOf, Cond.selects RX8 yX8_flagOf yX8_flagOf, Cond.code yX8_flagOf cX8_flagOf 2 (some .boolean), Cond.methodLink RX8 189 yX8_told, Cond.instanceMethod yX8_told, Cond.selects RX8 yX8_told yX8_told, Cond.code yX8_told cX8_told 2 (some .int), Cond.fieldLink RX8 175 "OctalHouseModel" "switches" "I", Cond.methodLink RX8 192 yX8_goes, Cond.instanceMethod yX8_goes, Cond.selects RX8 yX8_goes yX8_goes, Cond.code yX8_goes cX8_goes 4 none, Cond.fieldLink RX8 178 "OctalHouseModel" "lamps" "I", Cond.fieldLink RX8 36 "OctalHouseModel" "takesCount" "[Z", Cond.methodLink RX8 195 yX8_setControl]
def wsX8_turn_r6 : List Cond := [Cond.instanceMethod yX8_setControl, Cond.selects RX8 yX8_setControl yX8_setControl, Cond.code yX8_setControl cX8_setControl 4 none, Cond.methodLink RX8 140 yX8_extended, Cond.instanceMethod yX8_extended, Cond.selects RX8 yX8_extended yX8_extended, Cond.code yX8_extended cX8_extended 5 none, Cond.constant RX8 198 (32896), Cond.constant RX8 199 (33024), Cond.constant RX8 200 (34944), Cond.constant RX8 201 (35072), Cond.methodLink RX8 202 yX8_twoWords, Cond.instanceMethod yX8_twoWords, Cond.selects RX8 yX8_twoWords yX8_twoWords, Cond.code yX8_twoWords cX8_twoWords 9 none, Cond.constantLong RX8 217 (-32768), Cond.constantLong RX8 219 (32767), Cond.methodLink RX8 212 yX8_both_, Cond.instanceMethod yX8_both_, Cond.selects RX8 yX8_both_ yX8_both_, Cond.code yX8_both_ cX8_both_ 3 none, Cond.methodLink RX8 205 yX8_both, Cond.instanceMethod yX8_both, Cond.selects RX8 yX8_both yX8_both]
def wsX8_turn_r7 : List Cond := [Cond.code yX8_both cX8_both 1 (some .long), Cond.methodLink RX8 209 yX8_leftSigned, Cond.instanceMethod yX8_leftSigned, Cond.selects RX8 yX8_leftSigned yX8_leftSigned, Cond.code yX8_leftSigned cX8_leftSigned 7 none, Cond.constantLong RX8 215 (2147483647)]
def wsX8_turn : List Cond := .code yX8_turn cX8_turn 4 none :: ((wsX8_turn_r1 ++ (wsX8_turn_r2 ++ (wsX8_turn_r3 ++ (wsX8_turn_r4 ++ (wsX8_turn_r5 ++ (wsX8_turn_r6 ++ wsX8_turn_r7)))))) ++ wsX80)
def wsX8_run_r1 : List Cond := [Cond.fieldLink RX8 75 "OctalHouseModel" "thrown" "I", Cond.fieldLink RX8 91 "OctalHouseModel" "halted" "Z", Cond.methodLink RX8 221 yX8_turn, Cond.instanceMethod yX8_turn, Cond.selects RX8 yX8_turn yX8_turn, Cond.initialized RX8, Cond.code yX8_turn cX8_turn 4 none, Cond.fieldLink RX8 107 "OctalHouseModel" "turns" "I", Cond.fieldLink RX8 60 "OctalHouseModel" "busy" "[I", Cond.fieldLink RX8 20 "OctalHouseModel" "control" "[Z", Cond.fieldLink RX8 24 "OctalHouseModel" "flag" "[Z", Cond.fieldLink RX8 116 "OctalHouseModel" "isOn" "Z", Cond.fieldLink RX8 119 "OctalHouseModel" "heldOff" "Z", Cond.fieldLink RX8 27 "OctalHouseModel" "asks" "[Z", Cond.fieldLink RX8 122 "OctalHouseModel" "nowHeld" "Z", Cond.fieldLink RX8 125 "OctalHouseModel" "served" "I", Cond.fieldLink RX8 17 "OctalHouseModel" "servedCode" "I", Cond.fieldLink RX8 84 "OctalHouseModel" "p" "I", Cond.methodLink RX8 110 yX8_ready, Cond.instanceMethod yX8_ready, Cond.selects RX8 yX8_ready yX8_ready, Cond.code yX8_ready cX8_ready 3 none, Cond.fieldLink RX8 51 "OctalHouseModel" "givesOut" "[Z", Cond.fieldLink RX8 66 "OctalHouseModel" "outMany" "[I"]
def wsX8_run_r2 : List Cond := [Cond.fieldLink RX8 72 "OctalHouseModel" "out" "[I", Cond.fieldLink RX8 57 "OctalHouseModel" "buffer" "[I", Cond.fieldLink RX8 63 "OctalHouseModel" "tapeMany" "[I", Cond.fieldLink RX8 69 "OctalHouseModel" "tape" "[I", Cond.methodLink RX8 113 yX8_channel, Cond.instanceMethod yX8_channel, Cond.selects RX8 yX8_channel yX8_channel, Cond.code yX8_channel cX8_channel 3 none, Cond.fieldLink RX8 45 "OctalHouseModel" "firstWord" "[I", Cond.fieldLink RX8 30 "OctalHouseModel" "active" "[Z", Cond.fieldLink RX8 33 "OctalHouseModel" "goesIn" "[Z", Cond.fieldLink RX8 39 "OctalHouseModel" "address" "[I", Cond.fieldLink RX8 42 "OctalHouseModel" "count" "[I", Cond.constant RX8 102 (65535), Cond.fieldLink RX8 48 "OctalHouseModel" "moved" "[I", Cond.methodLink RX8 98 yX8_put, Cond.instanceMethod yX8_put, Cond.selects RX8 yX8_put yX8_put, Cond.code yX8_put cX8_put 3 none, Cond.fieldLink RX8 78 "OctalHouseModel" "a" "I", Cond.fieldLink RX8 81 "OctalHouseModel" "b" "I", Cond.fieldLink RX8 9 "OctalHouseModel" "memory" "[I", Cond.methodLink RX8 95 yX8_at, Cond.instanceMethod yX8_at]
def wsX8_run_r3 : List Cond := [Cond.selects RX8 yX8_at yX8_at, Cond.code yX8_at cX8_at 2 (some .int), Cond.methodLink RX8 87 yX8_more, Cond.static yX8_more, Cond.code yX8_more cX8_more 1 (some .int), Cond.methodLink RX8 103 yX8_started, Cond.instanceMethod yX8_started, Cond.selects RX8 yX8_started yX8_started, Cond.code yX8_started cX8_started 2 none, Cond.fieldLink RX8 54 "OctalHouseModel" "delay" "[I", Cond.methodLink RX8 128 yX8_does, Cond.instanceMethod yX8_does, Cond.selects RX8 yX8_does yX8_does, Cond.code yX8_does cX8_does 3 none, Cond.methodLink RX8 131 yX8_memoryWord, Cond.instanceMethod yX8_memoryWord, Cond.selects RX8 yX8_memoryWord yX8_memoryWord, Cond.code yX8_memoryWord cX8_memoryWord 7 none, Cond.constant RX8 143 (32768), Cond.methodLink RX8 144 yX8_direct, Cond.instanceMethod yX8_direct, Cond.selects RX8 yX8_direct yX8_direct, Cond.code yX8_direct cX8_direct 4 (some .int), Cond.fieldLink RX8 13 "OctalHouseModel" "haltCode" "I"]
def wsX8_run_r4 : List Cond := [Cond.methodLink RX8 147 yX8_skip, Cond.instanceMethod yX8_skip, Cond.selects RX8 yX8_skip yX8_skip, Cond.code yX8_skip cX8_skip 2 none, Cond.methodLink RX8 151 yX8_sum, Cond.instanceMethod yX8_sum, Cond.selects RX8 yX8_sum yX8_sum, Cond.code yX8_sum cX8_sum 4 (some .int), Cond.fieldLink RX8 159 "OctalHouseModel" "o" "I", Cond.fieldLink RX8 162 "OctalHouseModel" "e" "I", Cond.methodLink RX8 156 yX8_signed, Cond.static yX8_signed, Cond.code yX8_signed cX8_signed 1 (some .int), Cond.constant RX8 155 (65536), Cond.methodLink RX8 134 yX8_registers, Cond.instanceMethod yX8_registers, Cond.selects RX8 yX8_registers yX8_registers, Cond.code yX8_registers cX8_registers 4 none, Cond.methodLink RX8 165 yX8_is, Cond.static yX8_is, Cond.code yX8_is cX8_is 2 (some .boolean), Cond.methodLink RX8 169 yX8_altered, Cond.instanceMethod yX8_altered, Cond.selects RX8 yX8_altered yX8_altered]
def wsX8_run_r5 : List Cond := [Cond.code yX8_altered cX8_altered 11 (some .int), Cond.methodLink RX8 172 yX8_shifted, Cond.instanceMethod yX8_shifted, Cond.selects RX8 yX8_shifted yX8_shifted, Cond.code yX8_shifted cX8_shifted 4 (some .int), Cond.methodLink RX8 137 yX8_codes, Cond.instanceMethod yX8_codes, Cond.selects RX8 yX8_codes yX8_codes, Cond.code yX8_codes cX8_codes 7 none, Cond.methodLink RX8 181 yX8_setFlag, Cond.instanceMethod yX8_setFlag, Cond.selects RX8 yX8_setFlag yX8_setFlag, Cond.code yX8_setFlag cX8_setFlag 3 none, Cond.methodLink RX8 185 yX8_flagOf, Cond.instanceMethod yX8_flagOf, Cond.selects RX8 yX8_flagOf yX8_flagOf, Cond.code yX8_flagOf cX8_flagOf 2 (some .boolean), Cond.methodLink RX8 189 yX8_told, Cond.instanceMethod yX8_told, Cond.selects RX8 yX8_told yX8_told, Cond.code yX8_told cX8_told 2 (some .int), Cond.fieldLink RX8 175 "OctalHouseModel" "switches" "I", Cond.methodLink RX8 192 yX8_goes, Cond.instanceMethod yX8_goes]
def wsX8_run_r6 : List Cond := [Cond.selects RX8 yX8_goes yX8_goes, Cond.code yX8_goes cX8_goes 4 none, Cond.fieldLink RX8 178 "OctalHouseModel" "lamps" "I", Cond.fieldLink RX8 36 "OctalHouseModel" "takesCount" "[Z", Cond.methodLink RX8 195 yX8_setControl, Cond.instanceMethod yX8_setControl, Cond.selects RX8 yX8_setControl yX8_setControl, Cond.code yX8_setControl cX8_setControl 4 none, Cond.methodLink RX8 140 yX8_extended, Cond.instanceMethod yX8_extended, Cond.selects RX8 yX8_extended yX8_extended, Cond.code yX8_extended cX8_extended 5 none, Cond.constant RX8 198 (32896), Cond.constant RX8 199 (33024), Cond.constant RX8 200 (34944), Cond.constant RX8 201 (35072), Cond.methodLink RX8 202 yX8_twoWords, Cond.instanceMethod yX8_twoWords, Cond.selects RX8 yX8_twoWords yX8_twoWords, Cond.code yX8_twoWords cX8_twoWords 9 none, Cond.constantLong RX8 217 (-32768), Cond.constantLong RX8 219 (32767), Cond.methodLink RX8 212 yX8_both_, Cond.instanceMethod yX8_both_]
def wsX8_run_r7 : List Cond := [Cond.selects RX8 yX8_both_ yX8_both_, Cond.code yX8_both_ cX8_both_ 3 none, Cond.methodLink RX8 205 yX8_both, Cond.instanceMethod yX8_both, Cond.selects RX8 yX8_both yX8_both, Cond.code yX8_both cX8_both 1 (some .long), Cond.methodLink RX8 209 yX8_leftSigned, Cond.instanceMethod yX8_leftSigned, Cond.selects RX8 yX8_leftSigned yX8_leftSigned, Cond.code yX8_leftSigned cX8_leftSigned 7 none, Cond.constantLong RX8 215 (2147483647)]
def wsX8_run : List Cond := .code yX8_run cX8_run 3 (some .int) :: ((wsX8_run_r1 ++ (wsX8_run_r2 ++ (wsX8_run_r3 ++ (wsX8_run_r4 ++ (wsX8_run_r5 ++ (wsX8_run_r6 ++ wsX8_run_r7)))))) ++ wsX80)
def wsX8_go : List Cond := .code yX8_go cX8_go 2 none :: ([.fieldLink RX8 75 "OctalHouseModel" "thrown" "I", .fieldLink RX8 91 "OctalHouseModel" "halted" "Z", .fieldLink RX8 84 "OctalHouseModel" "p" "I"] ++ wsX80)
def wsX8_lacks : List Cond := .code yX8_lacks cX8_lacks 3 (some .boolean) :: ([.fieldLink RX8 75 "OctalHouseModel" "thrown" "I"] ++ wsX80)
def wsX8_word : List Cond := .code yX8_word cX8_word 2 (some .int) :: ([.methodLink RX8 224 yX8_lacks, .instanceMethod yX8_lacks, .selects RX8 yX8_lacks yX8_lacks, .initialized RX8, .code yX8_lacks cX8_lacks 3 (some .boolean), .fieldLink RX8 75 "OctalHouseModel" "thrown" "I", .methodLink RX8 95 yX8_at, .instanceMethod yX8_at, .selects RX8 yX8_at yX8_at, .code yX8_at cX8_at 2 (some .int), .fieldLink RX8 78 "OctalHouseModel" "a" "I", .fieldLink RX8 81 "OctalHouseModel" "b" "I", .fieldLink RX8 9 "OctalHouseModel" "memory" "[I"] ++ wsX80)
def wsX8_set : List Cond := .code yX8_set cX8_set 3 none :: ([.constant RX8 102 (65535), .methodLink RX8 224 yX8_lacks, .instanceMethod yX8_lacks, .selects RX8 yX8_lacks yX8_lacks, .initialized RX8, .code yX8_lacks cX8_lacks 3 (some .boolean), .fieldLink RX8 75 "OctalHouseModel" "thrown" "I", .methodLink RX8 98 yX8_put, .instanceMethod yX8_put, .selects RX8 yX8_put yX8_put, .code yX8_put cX8_put 3 none, .fieldLink RX8 78 "OctalHouseModel" "a" "I", .fieldLink RX8 81 "OctalHouseModel" "b" "I", .fieldLink RX8 9 "OctalHouseModel" "memory" "[I"] ++ wsX80)
def wsX8_state : List Cond := .code yX8_state cX8_state 2 (some .int) :: ([.fieldLink RX8 75 "OctalHouseModel" "thrown" "I", .fieldLink RX8 78 "OctalHouseModel" "a" "I", .fieldLink RX8 81 "OctalHouseModel" "b" "I", .fieldLink RX8 84 "OctalHouseModel" "p" "I", .fieldLink RX8 162 "OctalHouseModel" "e" "I", .fieldLink RX8 159 "OctalHouseModel" "o" "I", .fieldLink RX8 116 "OctalHouseModel" "isOn" "Z", .fieldLink RX8 119 "OctalHouseModel" "heldOff" "Z", .fieldLink RX8 91 "OctalHouseModel" "halted" "Z", .fieldLink RX8 13 "OctalHouseModel" "haltCode" "I", .fieldLink RX8 178 "OctalHouseModel" "lamps" "I", .fieldLink RX8 107 "OctalHouseModel" "turns" "I", .fieldLink RX8 125 "OctalHouseModel" "served" "I", .fieldLink RX8 17 "OctalHouseModel" "servedCode" "I"] ++ wsX80)
def wsX8_switches : List Cond := .code yX8_switches cX8_switches 2 none :: ([.fieldLink RX8 75 "OctalHouseModel" "thrown" "I", .constant RX8 102 (65535), .fieldLink RX8 175 "OctalHouseModel" "switches" "I"] ++ wsX80)
def wsX8_device : List Cond := .code yX8_device cX8_device 5 none :: ([.fieldLink RX8 75 "OctalHouseModel" "thrown" "I", .fieldLink RX8 51 "OctalHouseModel" "givesOut" "[Z", .fieldLink RX8 54 "OctalHouseModel" "delay" "[I", .fieldLink RX8 60 "OctalHouseModel" "busy" "[I", .fieldLink RX8 57 "OctalHouseModel" "buffer" "[I", .methodLink RX8 224 yX8_lacks, .instanceMethod yX8_lacks, .selects RX8 yX8_lacks yX8_lacks, .initialized RX8, .code yX8_lacks cX8_lacks 3 (some .boolean)] ++ wsX80)
def wsX8_give : List Cond := .code yX8_give cX8_give 4 (some .int) :: ([.fieldLink RX8 63 "OctalHouseModel" "tapeMany" "[I", .fieldLink RX8 75 "OctalHouseModel" "thrown" "I", .fieldLink RX8 69 "OctalHouseModel" "tape" "[I", .constant RX8 102 (65535), .methodLink RX8 224 yX8_lacks, .instanceMethod yX8_lacks, .selects RX8 yX8_lacks yX8_lacks, .initialized RX8, .code yX8_lacks cX8_lacks 3 (some .boolean)] ++ wsX80)
def wsX8_out : List Cond := .code yX8_out cX8_out 4 (some .int) :: ([.fieldLink RX8 66 "OctalHouseModel" "outMany" "[I", .fieldLink RX8 72 "OctalHouseModel" "out" "[I", .methodLink RX8 224 yX8_lacks, .instanceMethod yX8_lacks, .selects RX8 yX8_lacks yX8_lacks, .initialized RX8, .code yX8_lacks cX8_lacks 3 (some .boolean), .fieldLink RX8 75 "OctalHouseModel" "thrown" "I"] ++ wsX80)
def wsX8_code : List Cond := .code yX8_code cX8_code 3 (some .int) :: ([.fieldLink RX8 75 "OctalHouseModel" "thrown" "I", .fieldLink RX8 20 "OctalHouseModel" "control" "[Z", .fieldLink RX8 24 "OctalHouseModel" "flag" "[Z", .fieldLink RX8 27 "OctalHouseModel" "asks" "[Z", .fieldLink RX8 30 "OctalHouseModel" "active" "[Z", .fieldLink RX8 60 "OctalHouseModel" "busy" "[I", .fieldLink RX8 39 "OctalHouseModel" "address" "[I", .fieldLink RX8 57 "OctalHouseModel" "buffer" "[I", .fieldLink RX8 42 "OctalHouseModel" "count" "[I", .fieldLink RX8 63 "OctalHouseModel" "tapeMany" "[I", .fieldLink RX8 33 "OctalHouseModel" "goesIn" "[Z", .fieldLink RX8 51 "OctalHouseModel" "givesOut" "[Z", .fieldLink RX8 45 "OctalHouseModel" "firstWord" "[I", .fieldLink RX8 54 "OctalHouseModel" "delay" "[I", .fieldLink RX8 48 "OctalHouseModel" "moved" "[I", .fieldLink RX8 66 "OctalHouseModel" "outMany" "[I"] ++ wsX80)
def wsX8_sum_ : List Cond := .code yX8_sum_ cX8_sum_ 3 (some .int) :: ([.fieldLink RX8 75 "OctalHouseModel" "thrown" "I", .methodLink RX8 95 yX8_at, .instanceMethod yX8_at, .selects RX8 yX8_at yX8_at, .initialized RX8, .code yX8_at cX8_at 2 (some .int), .fieldLink RX8 78 "OctalHouseModel" "a" "I", .fieldLink RX8 81 "OctalHouseModel" "b" "I", .fieldLink RX8 9 "OctalHouseModel" "memory" "[I"] ++ wsX80)
def wsL_run_r1 : List Cond := [Cond.classLink RL 13 "java/lang/IllegalArgumentException", Cond.methodLink RL 7 yX7_run, Cond.instanceMethod yX7_run, Cond.selects RX7 yX7_run yX7_run, Cond.initialized RX7, Cond.code yX7_run cX7_run 3 (some .int), Cond.classLink RX7 45 "java/lang/IllegalArgumentException", Cond.initialized "java/lang/IllegalArgumentException", Cond.fieldLink RX7 19 "OctalHouse" "registers" "LOctalHouse$Registers;", Cond.fieldLink RX7 59 "OctalHouse" "turns" "I", Cond.methodLink RX7 56 yX7_doTurn, Cond.instanceMethod yX7_doTurn, Cond.selects RX7 yX7_doTurn yX7_doTurn, Cond.code yX7_doTurn cX7_doTurn 3 none, Cond.fieldLink RX7 28 "OctalHouse" "bus" "LOctalHouse$Bus;", Cond.fieldLink RX7 10 "OctalHouse" "memory" "LOctalHouse$Memory;", Cond.fieldLink RX7 100 "OctalHouse" "served" "I", Cond.fieldLink RX7 41 "OctalHouse" "latestServed" "I", Cond.fieldLink RX7 37 "OctalHouse" "processor" "LOctalHouse$Processor;", Cond.methodLink RX7 161 yX0_advanceDevices, Cond.instanceMethod yX0_advanceDevices, Cond.selects RX0 yX0_advanceDevices yX0_advanceDevices, Cond.initialized RX0, Cond.code yX0_advanceDevices cX0_advanceDevices 3 none]
def wsL_run_r2 : List Cond := [Cond.methodLink RX0 40 yX0_deviceAt, Cond.instanceMethod yX0_deviceAt, Cond.selects RX0 yX0_deviceAt yX0_deviceAt, Cond.code yX0_deviceAt cX0_deviceAt 2 (some (.object "OctalHouse$Device")), Cond.fieldLink RX0 19 "OctalHouse$Bus" "devices" "[LOctalHouse$Device;", Cond.methodLink RX0 44 yX2_advance, Cond.instanceMethod yX2_advance, Cond.selects RX2 yX2_advance yX2_advance, Cond.initialized RX2, Cond.code yX2_advance cX2_advance 1 none, Cond.fieldLink RX2 33 "OctalHouse$Device" "busy" "I", Cond.fieldLink RX2 25 "OctalHouse$Device" "takesIn" "Z", Cond.fieldLink RX2 36 "OctalHouse$Device" "buffer" "I", Cond.fieldLink RX2 12 "OctalHouse$Device" "line" "LOctalHouse$Line;", Cond.methodLink RX2 39 yX2_takeFromTape, Cond.instanceMethod yX2_takeFromTape, Cond.selects RX2 yX2_takeFromTape yX2_takeFromTape, Cond.code yX2_takeFromTape cX2_takeFromTape 2 (some .int), Cond.fieldLink RX2 54 "OctalHouse$Device" "tapeLength" "I", Cond.fieldLink RX2 51 "OctalHouse$Device" "tapeStart" "I", Cond.fieldLink RX2 18 "OctalHouse$Device" "tape" "[I", Cond.methodLink RX2 43 yX2_putOut, Cond.instanceMethod yX2_putOut, Cond.selects RX2 yX2_putOut yX2_putOut]
def wsL_run_r3 : List Cond := [Cond.code yX2_putOut cX2_putOut 2 none, Cond.fieldLink RX2 57 "OctalHouse$Device" "wentOut" "I", Cond.fieldLink RX2 22 "OctalHouse$Device" "kept" "[I", Cond.methodLink RX2 47 yX3_putFlag, Cond.instanceMethod yX3_putFlag, Cond.selects RX3 yX3_putFlag yX3_putFlag, Cond.initialized RX3, Cond.code yX3_putFlag cX3_putFlag 2 none, Cond.fieldLink RX3 7 "OctalHouse$Line" "flag" "Z", Cond.fieldLink RX3 13 "OctalHouse$Line" "asks" "Z", Cond.methodLink RX7 164 yX0_advanceChannels, Cond.instanceMethod yX0_advanceChannels, Cond.selects RX0 yX0_advanceChannels yX0_advanceChannels, Cond.code yX0_advanceChannels cX0_advanceChannels 5 none, Cond.methodLink RX0 47 yX0_channelAt, Cond.instanceMethod yX0_channelAt, Cond.selects RX0 yX0_channelAt yX0_channelAt, Cond.code yX0_channelAt cX0_channelAt 2 (some (.object "OctalHouse$Channel")), Cond.fieldLink RX0 11 "OctalHouse$Bus" "channels" "[LOctalHouse$Channel;", Cond.methodLink RX0 62 yX1_move, Cond.instanceMethod yX1_move, Cond.selects RX1 yX1_move yX1_move, Cond.initialized RX1, Cond.code yX1_move cX1_move 3 none]
def wsL_run_r4 : List Cond := [Cond.fieldLink RX1 18 "OctalHouse$Channel" "goesIn" "Z", Cond.fieldLink RX1 22 "OctalHouse$Channel" "address" "I", Cond.fieldLink RX1 46 "OctalHouse$Channel" "count" "I", Cond.constant RX1 49 (65535), Cond.fieldLink RX1 50 "OctalHouse$Channel" "moved" "I", Cond.fieldLink RX1 57 "OctalHouse$Channel" "firstWord" "I", Cond.constant RX1 60 (32768), Cond.methodLink RX1 31 yX4_write, Cond.instanceMethod yX4_write, Cond.selects RX4 yX4_write yX4_write, Cond.initialized RX4, Cond.code yX4_write cX4_write 3 none, Cond.fieldLink RX4 9 "OctalHouse$Memory" "words" "[I", Cond.constant RX4 15 (65535), Cond.methodLink RX1 37 yX4_read, Cond.instanceMethod yX4_read, Cond.selects RX4 yX4_read yX4_read, Cond.code yX4_read cX4_read 2 (some .int), Cond.methodLink RX1 42 yX3_putFlag, Cond.methodLink RX1 53 yX1_finish, Cond.instanceMethod yX1_finish, Cond.selects RX1 yX1_finish yX1_finish, Cond.code yX1_finish cX1_finish 2 none, Cond.fieldLink RX1 12 "OctalHouse$Channel" "line" "LOctalHouse$Line;"]
def wsL_run_r5 : List Cond := [Cond.fieldLink RX1 67 "OctalHouse$Channel" "active" "Z", Cond.methodLink RX1 64 yX2_start, Cond.instanceMethod yX2_start, Cond.selects RX2 yX2_start yX2_start, Cond.code yX2_start cX2_start 1 none, Cond.fieldLink RX2 29 "OctalHouse$Device" "delay" "I", Cond.methodLink RX7 168 yX0_takeInterrupt, Cond.instanceMethod yX0_takeInterrupt, Cond.selects RX0 yX0_takeInterrupt yX0_takeInterrupt, Cond.code yX0_takeInterrupt cX0_takeInterrupt 4 (some .int), Cond.methodLink RX0 66 yX0_lineOf, Cond.instanceMethod yX0_lineOf, Cond.selects RX0 yX0_lineOf yX0_lineOf, Cond.code yX0_lineOf cX0_lineOf 3 (some (.object "OctalHouse$Line")), Cond.fieldLink RX0 25 "OctalHouse$Bus" "lines" "[LOctalHouse$Line;", Cond.methodLink RX7 70 yX4_read, Cond.methodLink RX7 172 yX5_perform, Cond.instanceMethod yX5_perform, Cond.selects RX5 yX5_perform yX5_perform, Cond.initialized RX5, Cond.code yX5_perform cX5_perform 5 none, Cond.constant RX5 38 (32768), Cond.methodLink RX5 39 yX5_resolve, Cond.instanceMethod yX5_resolve]
def wsL_run_r6 : List Cond := [Cond.selects RX5 yX5_resolve yX5_resolve, Cond.code yX5_resolve cX5_resolve 4 (some .int), Cond.fieldLink RX5 9 "OctalHouse$Processor" "memory" "LOctalHouse$Memory;", Cond.fieldLink RX5 15 "OctalHouse$Processor" "registers" "LOctalHouse$Registers;", Cond.methodLink RX5 29 yX4_read, Cond.methodLink RX5 70 yX6_halt, Cond.instanceMethod yX6_halt, Cond.selects RX6 yX6_halt yX6_halt, Cond.initialized RX6, Cond.code yX6_halt cX6_halt 2 none, Cond.fieldLink RX6 18 "OctalHouse$Registers" "halted" "Z", Cond.fieldLink RX6 9 "OctalHouse$Registers" "haltCode" "I", Cond.methodLink RX5 42 yX5_referToMemory, Cond.instanceMethod yX5_referToMemory, Cond.selects RX5 yX5_referToMemory yX5_referToMemory, Cond.code yX5_referToMemory cX5_referToMemory 6 none, Cond.methodLink RX5 73 yX5_registerOf, Cond.static yX5_registerOf, Cond.code yX5_registerOf cX5_registerOf 1 (some .int), Cond.methodLink RX5 76 yX4_write, Cond.methodLink RX5 79 yX5_jump, Cond.instanceMethod yX5_jump, Cond.selects RX5 yX5_jump yX5_jump, Cond.code yX5_jump cX5_jump 3 none]
def wsL_run_r7 : List Cond := [Cond.methodLink RX5 83 yX5_incrementAndSkip, Cond.instanceMethod yX5_incrementAndSkip, Cond.selects RX5 yX5_incrementAndSkip yX5_incrementAndSkip, Cond.code yX5_incrementAndSkip cX5_incrementAndSkip 4 none, Cond.constant RX5 97 (65535), Cond.methodLink RX5 89 yX5_skipIf, Cond.instanceMethod yX5_skipIf, Cond.selects RX5 yX5_skipIf yX5_skipIf, Cond.code yX5_skipIf cX5_skipIf 2 none, Cond.methodLink RX5 35 yX6_stepOn, Cond.instanceMethod yX6_stepOn, Cond.selects RX6 yX6_stepOn yX6_stepOn, Cond.code yX6_stepOn cX6_stepOn 1 none, Cond.fieldLink RX6 15 "OctalHouse$Registers" "p" "I", Cond.methodLink RX5 86 yX5_add, Cond.instanceMethod yX5_add, Cond.selects RX5 yX5_add yX5_add, Cond.code yX5_add cX5_add 5 none, Cond.methodLink RX5 46 yX5_alterAndSkip, Cond.instanceMethod yX5_alterAndSkip, Cond.selects RX5 yX5_alterAndSkip yX5_alterAndSkip, Cond.code yX5_alterAndSkip cX5_alterAndSkip 14 none, Cond.methodLink RX5 111 yX5_altered, Cond.static yX5_altered]
def wsL_run_r8 : List Cond := [Cond.code yX5_altered cX5_altered 2 (some .int), Cond.methodLink RX5 114 yX5_alteredE, Cond.static yX5_alteredE, Cond.code yX5_alteredE cX5_alteredE 2 (some .int), Cond.methodLink RX5 117 yX5_incremented, Cond.instanceMethod yX5_incremented, Cond.selects RX5 yX5_incremented yX5_incremented, Cond.code yX5_incremented cX5_incremented 2 (some .int), Cond.methodLink RX5 50 yX5_shiftAndSkip, Cond.instanceMethod yX5_shiftAndSkip, Cond.selects RX5 yX5_shiftAndSkip yX5_shiftAndSkip, Cond.code yX5_shiftAndSkip cX5_shiftAndSkip 3 none, Cond.methodLink RX5 104 yX5_shifted, Cond.instanceMethod yX5_shifted, Cond.selects RX5 yX5_shifted yX5_shifted, Cond.code yX5_shifted cX5_shifted 3 (some .int), Cond.methodLink RX5 108 yX5_throughE, Cond.instanceMethod yX5_throughE, Cond.selects RX5 yX5_throughE yX5_throughE, Cond.code yX5_throughE cX5_throughE 3 (some .int), Cond.methodLink RX5 53 yX5_inputOrOutput, Cond.instanceMethod yX5_inputOrOutput, Cond.selects RX5 yX5_inputOrOutput yX5_inputOrOutput, Cond.code yX5_inputOrOutput cX5_inputOrOutput 5 none]
def wsL_run_r9 : List Cond := [Cond.fieldLink RX5 19 "OctalHouse$Processor" "bus" "LOctalHouse$Bus;", Cond.methodLink RX5 120 yX0_putFlag, Cond.instanceMethod yX0_putFlag, Cond.selects RX0 yX0_putFlag yX0_putFlag, Cond.code yX0_putFlag cX0_putFlag 4 none, Cond.fieldLink RX0 76 "OctalHouse$Bus" "interruptsOn" "Z", Cond.fieldLink RX0 29 "OctalHouse$Bus" "registers" "LOctalHouse$Registers;", Cond.static yX7_bit, Cond.code yX7_bit cX7_bit 1 (some .int), Cond.methodLink RX0 88 yX3_putFlag, Cond.methodLink RX5 125 yX0_flagOf, Cond.instanceMethod yX0_flagOf, Cond.selects RX0 yX0_flagOf yX0_flagOf, Cond.code yX0_flagOf cX0_flagOf 3 (some .boolean), Cond.methodLink RX5 128 yX0_tell, Cond.instanceMethod yX0_tell, Cond.selects RX0 yX0_tell yX0_tell, Cond.code yX0_tell cX0_tell 4 (some .int), Cond.fieldLink RX0 92 "OctalHouse$Bus" "switchWord" "I", Cond.methodLink RX5 131 yX0_take, Cond.instanceMethod yX0_take, Cond.selects RX0 yX0_take yX0_take, Cond.code yX0_take cX0_take 6 none, Cond.fieldLink RX0 101 "OctalHouse$Bus" "lamps" "I"]
def wsL_run_r10 : List Cond := [Cond.methodLink RX0 104 yX1_takeRegister, Cond.instanceMethod yX1_takeRegister, Cond.selects RX1 yX1_takeRegister yX1_takeRegister, Cond.code yX1_takeRegister cX1_takeRegister 2 none, Cond.fieldLink RX1 70 "OctalHouse$Channel" "countComesNext" "Z", Cond.methodLink RX5 134 yX0_putControl, Cond.instanceMethod yX0_putControl, Cond.selects RX0 yX0_putControl yX0_putControl, Cond.code yX0_putControl cX0_putControl 4 none, Cond.methodLink RX0 108 yX0_resetAllControls, Cond.instanceMethod yX0_resetAllControls, Cond.selects RX0 yX0_resetAllControls yX0_resetAllControls, Cond.code yX0_resetAllControls cX0_resetAllControls 3 none, Cond.methodLink RX0 114 yX0_putLineControl, Cond.instanceMethod yX0_putLineControl, Cond.selects RX0 yX0_putLineControl yX0_putLineControl, Cond.code yX0_putLineControl cX0_putLineControl 6 none, Cond.methodLink RX0 118 yX2_start, Cond.methodLink RX5 56 yX5_hasAddressBehind, Cond.static yX5_hasAddressBehind, Cond.code yX5_hasAddressBehind cX5_hasAddressBehind 1 (some .boolean), Cond.constant RX5 137 (32896), Cond.constant RX5 138 (33024), Cond.constant RX5 139 (34944)]
def wsL_run_r11 : List Cond := [Cond.constant RX5 140 (35072), Cond.methodLink RX5 60 yX5_nextWord, Cond.instanceMethod yX5_nextWord, Cond.selects RX5 yX5_nextWord yX5_nextWord, Cond.code yX5_nextWord cX5_nextWord 2 (some .int), Cond.methodLink RX5 64 yX5_doubleWord, Cond.instanceMethod yX5_doubleWord, Cond.selects RX5 yX5_doubleWord yX5_doubleWord, Cond.code yX5_doubleWord cX5_doubleWord 4 none, Cond.methodLink RX5 141 yX5_multiply, Cond.instanceMethod yX5_multiply, Cond.selects RX5 yX5_multiply yX5_multiply, Cond.code yX5_multiply cX5_multiply 2 none, Cond.methodLink RX5 151 yX5_writePair, Cond.instanceMethod yX5_writePair, Cond.selects RX5 yX5_writePair yX5_writePair, Cond.code yX5_writePair cX5_writePair 2 none, Cond.methodLink RX5 144 yX5_divide, Cond.instanceMethod yX5_divide, Cond.selects RX5 yX5_divide yX5_divide, Cond.code yX5_divide cX5_divide 8 none, Cond.constantLong RX5 157 (-32768), Cond.constantLong RX5 159 (32767), Cond.methodLink RX5 154 yX5_readPair]
def wsL_run_r12 : List Cond := [Cond.instanceMethod yX5_readPair, Cond.selects RX5 yX5_readPair yX5_readPair, Cond.code yX5_readPair cX5_readPair 1 (some .int), Cond.methodLink RX5 147 yX5_writeTwo, Cond.instanceMethod yX5_writeTwo, Cond.selects RX5 yX5_writeTwo yX5_writeTwo, Cond.code yX5_writeTwo cX5_writeTwo 5 none, Cond.methodLink RX5 67 yX5_longShift, Cond.instanceMethod yX5_longShift, Cond.selects RX5 yX5_longShift yX5_longShift, Cond.code yX5_longShift cX5_longShift 4 none, Cond.constant RX5 161 (65520), Cond.constant RX5 162 (-2147483648), Cond.constant RX5 163 (2147483647), Cond.methodLink RX5 164 yX5_losesUnlikeSign, Cond.static yX5_losesUnlikeSign, Cond.code yX5_losesUnlikeSign cX5_losesUnlikeSign 4 (some .boolean), Cond.methodLink RX7 175 yX5_nextWord]
def wsL_run : List Cond := .codeWith yL_run cL_run 4 (some .int) [(0, 9, 12, 13)] :: ((wsL_run_r1 ++ (wsL_run_r2 ++ (wsL_run_r3 ++ (wsL_run_r4 ++ (wsL_run_r5 ++ (wsL_run_r6 ++ (wsL_run_r7 ++ (wsL_run_r8 ++ (wsL_run_r9 ++ (wsL_run_r10 ++ (wsL_run_r11 ++ wsL_run_r12))))))))))) ++ wsX70 ++ wsX60 ++ wsX00 ++ wsX20 ++ wsX30 ++ wsX10 ++ wsX40 ++ wsX50 ++ (vx_atS RX7 49 "java/lang/IllegalArgumentException" ["java/lang/RuntimeException", "java/lang/Exception"]).filter goodWord)
def wsL_word : List Cond := .codeWith yL_word cL_word 4 (some .int) [(0, 9, 12, 18)] :: ([.classLink RL 18 "java/lang/IndexOutOfBoundsException", .methodLink RL 15 yX7_word, .instanceMethod yX7_word, .selects RX7 yX7_word yX7_word, .initialized RX7, .code yX7_word cX7_word 2 (some .int), .classLink RX7 65 "java/lang/IndexOutOfBoundsException", .initialized "java/lang/IndexOutOfBoundsException", .fieldLink RX7 10 "OctalHouse" "memory" "LOctalHouse$Memory;", .methodLink RX7 70 yX4_read, .instanceMethod yX4_read, .selects RX4 yX4_read yX4_read, .initialized RX4, .code yX4_read cX4_read 2 (some .int), .fieldLink RX4 9 "OctalHouse$Memory" "words" "[I"] ++ wsX70 ++ wsX40 ++ (vx_atS RX7 69 "java/lang/IndexOutOfBoundsException" ["java/lang/RuntimeException", "java/lang/Exception"]).filter goodWord)
def wsL_set : List Cond := .codeWith yL_set cL_set 4 (some .int) [(0, 6, 9, 18)] :: ([.classLink RL 18 "java/lang/IndexOutOfBoundsException", .methodLink RL 20 yX7_set, .instanceMethod yX7_set, .selects RX7 yX7_set yX7_set, .initialized RX7, .code yX7_set cX7_set 3 none, .classLink RX7 65 "java/lang/IndexOutOfBoundsException", .initialized "java/lang/IndexOutOfBoundsException", .fieldLink RX7 10 "OctalHouse" "memory" "LOctalHouse$Memory;", .methodLink RX7 74 yX4_write, .instanceMethod yX4_write, .selects RX4 yX4_write yX4_write, .initialized RX4, .code yX4_write cX4_write 3 none, .fieldLink RX4 9 "OctalHouse$Memory" "words" "[I", .constant RX4 15 (65535)] ++ wsX70 ++ wsX40 ++ (vx_atS RX7 69 "java/lang/IndexOutOfBoundsException" ["java/lang/RuntimeException", "java/lang/Exception"]).filter goodWord)
def wsL_device_r1 : List Cond := [Cond.classLink RL 18 "java/lang/IndexOutOfBoundsException", Cond.classLink RL 13 "java/lang/IllegalArgumentException", Cond.methodLink RL 24 yX7_device, Cond.instanceMethod yX7_device, Cond.selects RX7 yX7_device yX7_device, Cond.initialized RX7, Cond.code yX7_device cX7_device 5 none, Cond.classLink RX7 65 "java/lang/IndexOutOfBoundsException", Cond.initialized "java/lang/IndexOutOfBoundsException", Cond.classLink RX7 45 "java/lang/IllegalArgumentException", Cond.initialized "java/lang/IllegalArgumentException", Cond.fieldLink RX7 28 "OctalHouse" "bus" "LOctalHouse$Bus;", Cond.methodLink RX7 107 yX0_deviceAt, Cond.instanceMethod yX0_deviceAt, Cond.selects RX0 yX0_deviceAt yX0_deviceAt, Cond.initialized RX0, Cond.code yX0_deviceAt cX0_deviceAt 2 (some (.object "OctalHouse$Device")), Cond.fieldLink RX0 19 "OctalHouse$Bus" "devices" "[LOctalHouse$Device;", Cond.methodLink RX7 115 yX2_equip, Cond.instanceMethod yX2_equip, Cond.selects RX2 yX2_equip yX2_equip, Cond.initialized RX2, Cond.code yX2_equip cX2_equip 3 none, Cond.fieldLink RX2 25 "OctalHouse$Device" "takesIn" "Z"]
def wsL_device_r2 : List Cond := [Cond.fieldLink RX2 29 "OctalHouse$Device" "delay" "I", Cond.fieldLink RX2 33 "OctalHouse$Device" "busy" "I", Cond.fieldLink RX2 36 "OctalHouse$Device" "buffer" "I"]
def wsL_device : List Cond := .codeWith yL_device cL_device 5 (some .int) [(0, 7, 10, 18), (0, 7, 14, 13)] :: ((wsL_device_r1 ++ wsL_device_r2) ++ wsX70 ++ wsX00 ++ wsX20 ++ (vx_atS RX7 69 "java/lang/IndexOutOfBoundsException" ["java/lang/RuntimeException", "java/lang/Exception"]).filter goodWord ++ (vx_atS RX7 49 "java/lang/IllegalArgumentException" ["java/lang/RuntimeException", "java/lang/Exception"]).filter goodWord)
def wsL_give_r1 : List Cond := [Cond.classLink RL 18 "java/lang/IndexOutOfBoundsException", Cond.classLink RL 32 "java/lang/IllegalStateException", Cond.methodLink RL 28 yX7_give, Cond.instanceMethod yX7_give, Cond.selects RX7 yX7_give yX7_give, Cond.initialized RX7, Cond.code yX7_give cX7_give 4 (some .int), Cond.classLink RX7 65 "java/lang/IndexOutOfBoundsException", Cond.initialized "java/lang/IndexOutOfBoundsException", Cond.classLink RX7 124 "java/lang/IllegalStateException", Cond.initialized "java/lang/IllegalStateException", Cond.fieldLink RX7 28 "OctalHouse" "bus" "LOctalHouse$Bus;", Cond.constant RX7 103 (65535), Cond.methodLink RX7 107 yX0_deviceAt, Cond.instanceMethod yX0_deviceAt, Cond.selects RX0 yX0_deviceAt yX0_deviceAt, Cond.initialized RX0, Cond.code yX0_deviceAt cX0_deviceAt 2 (some (.object "OctalHouse$Device")), Cond.fieldLink RX0 19 "OctalHouse$Bus" "devices" "[LOctalHouse$Device;", Cond.methodLink RX7 129 yX2_putOnTape, Cond.instanceMethod yX2_putOnTape, Cond.selects RX2 yX2_putOnTape yX2_putOnTape, Cond.initialized RX2, Cond.code yX2_putOnTape cX2_putOnTape 3 none]
def wsL_give_r2 : List Cond := [Cond.fieldLink RX2 51 "OctalHouse$Device" "tapeStart" "I", Cond.fieldLink RX2 54 "OctalHouse$Device" "tapeLength" "I", Cond.fieldLink RX2 18 "OctalHouse$Device" "tape" "[I"]
def wsL_give : List Cond := .codeWith yL_give cL_give 5 (some .int) [(0, 10, 13, 18), (0, 10, 17, 32)] :: ((wsL_give_r1 ++ wsL_give_r2) ++ wsX70 ++ wsX20 ++ wsX00 ++ (vx_atS RX7 69 "java/lang/IndexOutOfBoundsException" ["java/lang/RuntimeException", "java/lang/Exception"]).filter goodWord ++ (vx_atS RX7 128 "java/lang/IllegalStateException" ["java/lang/RuntimeException", "java/lang/Exception"]).filter goodWord)
def wsL_out : List Cond := .codeWith yL_out cL_out 5 (some .int) [(0, 10, 13, 18)] :: ([.classLink RL 18 "java/lang/IndexOutOfBoundsException", .methodLink RL 34 yX7_out, .instanceMethod yX7_out, .selects RX7 yX7_out yX7_out, .initialized RX7, .code yX7_out cX7_out 4 (some .int), .classLink RX7 65 "java/lang/IndexOutOfBoundsException", .initialized "java/lang/IndexOutOfBoundsException", .fieldLink RX7 28 "OctalHouse" "bus" "LOctalHouse$Bus;", .methodLink RX7 107 yX0_deviceAt, .instanceMethod yX0_deviceAt, .selects RX0 yX0_deviceAt yX0_deviceAt, .initialized RX0, .code yX0_deviceAt cX0_deviceAt 2 (some (.object "OctalHouse$Device")), .fieldLink RX0 19 "OctalHouse$Bus" "devices" "[LOctalHouse$Device;", .methodLink RX7 133 yX2_keptOut, .instanceMethod yX2_keptOut, .selects RX2 yX2_keptOut yX2_keptOut, .initialized RX2, .code yX2_keptOut cX2_keptOut 2 (some .int), .fieldLink RX2 57 "OctalHouse$Device" "wentOut" "I", .fieldLink RX2 22 "OctalHouse$Device" "kept" "[I"] ++ wsX70 ++ wsX00 ++ wsX20 ++ (vx_atS RX7 69 "java/lang/IndexOutOfBoundsException" ["java/lang/RuntimeException", "java/lang/Exception"]).filter goodWord)
def wsL_law0_r1 : List Cond := [Cond.classLink RL 8 RX7, Cond.instantiable RX7 7, Cond.initialized RX7, Cond.classLink RL 38 RX8, Cond.instantiable RX8 35, Cond.initialized RX8, Cond.arrayClass .long, Cond.methodLink RL 37 yX7_init, Cond.instanceMethod yX7_init, Cond.code yX7_init cX7_init 1 none, Cond.methodLink RX7 1 objectInit, Cond.instanceMethod objectInit, Cond.code objectInit ⟨#[0xb1]⟩ 1 none, Cond.classLink RX7 7 RX4, Cond.instantiable RX4 1, Cond.initialized RX4, Cond.fieldLink RX7 10 "OctalHouse" "memory" "LOctalHouse$Memory;", Cond.classLink RX7 16 RX6, Cond.instantiable RX6 6, Cond.initialized RX6, Cond.fieldLink RX7 19 "OctalHouse" "registers" "LOctalHouse$Registers;", Cond.classLink RX7 23 RX0, Cond.instantiable RX0 7, Cond.initialized RX0]
def wsL_law0_r2 : List Cond := [Cond.fieldLink RX7 28 "OctalHouse" "bus" "LOctalHouse$Bus;", Cond.classLink RX7 32 RX5, Cond.instantiable RX5 3, Cond.initialized RX5, Cond.fieldLink RX7 37 "OctalHouse" "processor" "LOctalHouse$Processor;", Cond.fieldLink RX7 41 "OctalHouse" "latestServed" "I", Cond.instanceMethod yX4_init, Cond.code yX4_init cX4_init 1 none, Cond.methodLink RX4 3 objectInit, Cond.arrayClass .int, Cond.fieldLink RX4 9 "OctalHouse$Memory" "words" "[I", Cond.instanceMethod yX6_init, Cond.code yX6_init cX6_init 1 none, Cond.methodLink RX6 3 objectInit, Cond.fieldLink RX6 9 "OctalHouse$Registers" "haltCode" "I", Cond.methodLink RX7 25 yX0_init, Cond.instanceMethod yX0_init, Cond.code yX0_init cX0_init 4 none, Cond.methodLink RX0 3 objectInit, Cond.classLink RX0 9 RX1, Cond.fieldLink RX0 11 "OctalHouse$Bus" "channels" "[LOctalHouse$Channel;", Cond.classLink RX0 17 RX2, Cond.fieldLink RX0 19 "OctalHouse$Bus" "devices" "[LOctalHouse$Device;", Cond.classLink RX0 23 RX3]
def wsL_law0_r3 : List Cond := [Cond.fieldLink RX0 25 "OctalHouse$Bus" "lines" "[LOctalHouse$Line;", Cond.fieldLink RX0 29 "OctalHouse$Bus" "registers" "LOctalHouse$Registers;", Cond.instantiable RX1 8, Cond.initialized RX1, Cond.instantiable RX2 10, Cond.initialized RX2, Cond.instanceMethod yX1_init, Cond.code yX1_init cX1_init 1 none, Cond.methodLink RX1 3 objectInit, Cond.classLink RX1 9 RX3, Cond.instantiable RX3 3, Cond.initialized RX3, Cond.fieldLink RX1 12 "OctalHouse$Channel" "line" "LOctalHouse$Line;", Cond.instanceMethod yX3_init, Cond.code yX3_init cX3_init 1 none, Cond.methodLink RX3 1 objectInit, Cond.instanceMethod yX2_init, Cond.code yX2_init cX2_init 1 none, Cond.methodLink RX2 3 objectInit, Cond.classLink RX2 9 RX3, Cond.fieldLink RX2 12 "OctalHouse$Device" "line" "LOctalHouse$Line;", Cond.fieldLink RX2 18 "OctalHouse$Device" "tape" "[I", Cond.fieldLink RX2 22 "OctalHouse$Device" "kept" "[I", Cond.fieldLink RX2 25 "OctalHouse$Device" "takesIn" "Z"]
def wsL_law0_r4 : List Cond := [Cond.fieldLink RX2 29 "OctalHouse$Device" "delay" "I", Cond.methodLink RX7 34 yX5_init, Cond.instanceMethod yX5_init, Cond.code yX5_init cX5_init 4 none, Cond.methodLink RX5 3 objectInit, Cond.fieldLink RX5 9 "OctalHouse$Processor" "memory" "LOctalHouse$Memory;", Cond.fieldLink RX5 15 "OctalHouse$Processor" "registers" "LOctalHouse$Registers;", Cond.fieldLink RX5 19 "OctalHouse$Processor" "bus" "LOctalHouse$Bus;", Cond.methodLink RL 40 yX8_init, Cond.instanceMethod yX8_init, Cond.code yX8_init cX8_init 2 none, Cond.methodLink RX8 1 objectInit, Cond.fieldLink RX8 9 "OctalHouseModel" "memory" "[I", Cond.fieldLink RX8 13 "OctalHouseModel" "haltCode" "I", Cond.fieldLink RX8 17 "OctalHouseModel" "servedCode" "I", Cond.arrayClass .boolean, Cond.fieldLink RX8 20 "OctalHouseModel" "control" "[Z", Cond.fieldLink RX8 24 "OctalHouseModel" "flag" "[Z", Cond.fieldLink RX8 27 "OctalHouseModel" "asks" "[Z", Cond.fieldLink RX8 30 "OctalHouseModel" "active" "[Z", Cond.fieldLink RX8 33 "OctalHouseModel" "goesIn" "[Z", Cond.fieldLink RX8 36 "OctalHouseModel" "takesCount" "[Z", Cond.fieldLink RX8 39 "OctalHouseModel" "address" "[I", Cond.fieldLink RX8 42 "OctalHouseModel" "count" "[I"]
def wsL_law0_r5 : List Cond := [Cond.fieldLink RX8 45 "OctalHouseModel" "firstWord" "[I", Cond.fieldLink RX8 48 "OctalHouseModel" "moved" "[I", Cond.fieldLink RX8 51 "OctalHouseModel" "givesOut" "[Z", Cond.fieldLink RX8 54 "OctalHouseModel" "delay" "[I", Cond.fieldLink RX8 57 "OctalHouseModel" "buffer" "[I", Cond.fieldLink RX8 60 "OctalHouseModel" "busy" "[I", Cond.fieldLink RX8 63 "OctalHouseModel" "tapeMany" "[I", Cond.fieldLink RX8 66 "OctalHouseModel" "outMany" "[I", Cond.fieldLink RX8 69 "OctalHouseModel" "tape" "[I", Cond.fieldLink RX8 72 "OctalHouseModel" "out" "[I", Cond.methodLink RL 41 yL_run, Cond.static yL_run, Cond.initialized RL, Cond.codeWith yL_run cL_run 4 (some .int) [(0, 9, 12, 13)], Cond.classLink RL 13 "java/lang/IllegalArgumentException", Cond.methodLink RL 7 yX7_run, Cond.instanceMethod yX7_run, Cond.selects RX7 yX7_run yX7_run, Cond.code yX7_run cX7_run 3 (some .int), Cond.classLink RX7 45 "java/lang/IllegalArgumentException", Cond.initialized "java/lang/IllegalArgumentException", Cond.fieldLink RX7 59 "OctalHouse" "turns" "I", Cond.methodLink RX7 56 yX7_doTurn, Cond.instanceMethod yX7_doTurn]
def wsL_law0_r6 : List Cond := [Cond.selects RX7 yX7_doTurn yX7_doTurn, Cond.code yX7_doTurn cX7_doTurn 3 none, Cond.fieldLink RX7 100 "OctalHouse" "served" "I", Cond.methodLink RX7 161 yX0_advanceDevices, Cond.instanceMethod yX0_advanceDevices, Cond.selects RX0 yX0_advanceDevices yX0_advanceDevices, Cond.code yX0_advanceDevices cX0_advanceDevices 3 none, Cond.methodLink RX0 40 yX0_deviceAt, Cond.instanceMethod yX0_deviceAt, Cond.selects RX0 yX0_deviceAt yX0_deviceAt, Cond.code yX0_deviceAt cX0_deviceAt 2 (some (.object "OctalHouse$Device")), Cond.methodLink RX0 44 yX2_advance, Cond.instanceMethod yX2_advance, Cond.selects RX2 yX2_advance yX2_advance, Cond.code yX2_advance cX2_advance 1 none, Cond.fieldLink RX2 33 "OctalHouse$Device" "busy" "I", Cond.fieldLink RX2 36 "OctalHouse$Device" "buffer" "I", Cond.methodLink RX2 39 yX2_takeFromTape, Cond.instanceMethod yX2_takeFromTape, Cond.selects RX2 yX2_takeFromTape yX2_takeFromTape, Cond.code yX2_takeFromTape cX2_takeFromTape 2 (some .int), Cond.fieldLink RX2 54 "OctalHouse$Device" "tapeLength" "I", Cond.fieldLink RX2 51 "OctalHouse$Device" "tapeStart" "I", Cond.methodLink RX2 43 yX2_putOut]
def wsL_law0_r7 : List Cond := [Cond.instanceMethod yX2_putOut, Cond.selects RX2 yX2_putOut yX2_putOut, Cond.code yX2_putOut cX2_putOut 2 none, Cond.fieldLink RX2 57 "OctalHouse$Device" "wentOut" "I", Cond.methodLink RX2 47 yX3_putFlag, Cond.instanceMethod yX3_putFlag, Cond.selects RX3 yX3_putFlag yX3_putFlag, Cond.code yX3_putFlag cX3_putFlag 2 none, Cond.fieldLink RX3 7 "OctalHouse$Line" "flag" "Z", Cond.fieldLink RX3 13 "OctalHouse$Line" "asks" "Z", Cond.methodLink RX7 164 yX0_advanceChannels, Cond.instanceMethod yX0_advanceChannels, Cond.selects RX0 yX0_advanceChannels yX0_advanceChannels, Cond.code yX0_advanceChannels cX0_advanceChannels 5 none, Cond.methodLink RX0 47 yX0_channelAt, Cond.instanceMethod yX0_channelAt, Cond.selects RX0 yX0_channelAt yX0_channelAt, Cond.code yX0_channelAt cX0_channelAt 2 (some (.object "OctalHouse$Channel")), Cond.methodLink RX0 62 yX1_move, Cond.instanceMethod yX1_move, Cond.selects RX1 yX1_move yX1_move, Cond.code yX1_move cX1_move 3 none, Cond.fieldLink RX1 18 "OctalHouse$Channel" "goesIn" "Z", Cond.fieldLink RX1 22 "OctalHouse$Channel" "address" "I"]
def wsL_law0_r8 : List Cond := [Cond.fieldLink RX1 46 "OctalHouse$Channel" "count" "I", Cond.constant RX1 49 (65535), Cond.fieldLink RX1 50 "OctalHouse$Channel" "moved" "I", Cond.fieldLink RX1 57 "OctalHouse$Channel" "firstWord" "I", Cond.constant RX1 60 (32768), Cond.methodLink RX1 31 yX4_write, Cond.instanceMethod yX4_write, Cond.selects RX4 yX4_write yX4_write, Cond.code yX4_write cX4_write 3 none, Cond.constant RX4 15 (65535), Cond.methodLink RX1 37 yX4_read, Cond.instanceMethod yX4_read, Cond.selects RX4 yX4_read yX4_read, Cond.code yX4_read cX4_read 2 (some .int), Cond.methodLink RX1 42 yX3_putFlag, Cond.methodLink RX1 53 yX1_finish, Cond.instanceMethod yX1_finish, Cond.selects RX1 yX1_finish yX1_finish, Cond.code yX1_finish cX1_finish 2 none, Cond.fieldLink RX1 67 "OctalHouse$Channel" "active" "Z", Cond.methodLink RX1 64 yX2_start, Cond.instanceMethod yX2_start, Cond.selects RX2 yX2_start yX2_start, Cond.code yX2_start cX2_start 1 none]
def wsL_law0_r9 : List Cond := [Cond.methodLink RX7 168 yX0_takeInterrupt, Cond.instanceMethod yX0_takeInterrupt, Cond.selects RX0 yX0_takeInterrupt yX0_takeInterrupt, Cond.code yX0_takeInterrupt cX0_takeInterrupt 4 (some .int), Cond.methodLink RX0 66 yX0_lineOf, Cond.instanceMethod yX0_lineOf, Cond.selects RX0 yX0_lineOf yX0_lineOf, Cond.code yX0_lineOf cX0_lineOf 3 (some (.object "OctalHouse$Line")), Cond.methodLink RX7 70 yX4_read, Cond.methodLink RX7 172 yX5_perform, Cond.instanceMethod yX5_perform, Cond.selects RX5 yX5_perform yX5_perform, Cond.code yX5_perform cX5_perform 5 none, Cond.constant RX5 38 (32768), Cond.methodLink RX5 39 yX5_resolve, Cond.instanceMethod yX5_resolve, Cond.selects RX5 yX5_resolve yX5_resolve, Cond.code yX5_resolve cX5_resolve 4 (some .int), Cond.methodLink RX5 29 yX4_read, Cond.methodLink RX5 70 yX6_halt, Cond.instanceMethod yX6_halt, Cond.selects RX6 yX6_halt yX6_halt, Cond.code yX6_halt cX6_halt 2 none, Cond.fieldLink RX6 18 "OctalHouse$Registers" "halted" "Z"]
def wsL_law0_r10 : List Cond := [Cond.methodLink RX5 42 yX5_referToMemory, Cond.instanceMethod yX5_referToMemory, Cond.selects RX5 yX5_referToMemory yX5_referToMemory, Cond.code yX5_referToMemory cX5_referToMemory 6 none, Cond.methodLink RX5 73 yX5_registerOf, Cond.static yX5_registerOf, Cond.code yX5_registerOf cX5_registerOf 1 (some .int), Cond.methodLink RX5 76 yX4_write, Cond.methodLink RX5 79 yX5_jump, Cond.instanceMethod yX5_jump, Cond.selects RX5 yX5_jump yX5_jump, Cond.code yX5_jump cX5_jump 3 none, Cond.methodLink RX5 83 yX5_incrementAndSkip, Cond.instanceMethod yX5_incrementAndSkip, Cond.selects RX5 yX5_incrementAndSkip yX5_incrementAndSkip, Cond.code yX5_incrementAndSkip cX5_incrementAndSkip 4 none, Cond.constant RX5 97 (65535), Cond.methodLink RX5 89 yX5_skipIf, Cond.instanceMethod yX5_skipIf, Cond.selects RX5 yX5_skipIf yX5_skipIf, Cond.code yX5_skipIf cX5_skipIf 2 none, Cond.methodLink RX5 35 yX6_stepOn, Cond.instanceMethod yX6_stepOn, Cond.selects RX6 yX6_stepOn yX6_stepOn]
def wsL_law0_r11 : List Cond := [Cond.code yX6_stepOn cX6_stepOn 1 none, Cond.fieldLink RX6 15 "OctalHouse$Registers" "p" "I", Cond.methodLink RX5 86 yX5_add, Cond.instanceMethod yX5_add, Cond.selects RX5 yX5_add yX5_add, Cond.code yX5_add cX5_add 5 none, Cond.methodLink RX5 46 yX5_alterAndSkip, Cond.instanceMethod yX5_alterAndSkip, Cond.selects RX5 yX5_alterAndSkip yX5_alterAndSkip, Cond.code yX5_alterAndSkip cX5_alterAndSkip 14 none, Cond.methodLink RX5 111 yX5_altered, Cond.static yX5_altered, Cond.code yX5_altered cX5_altered 2 (some .int), Cond.methodLink RX5 114 yX5_alteredE, Cond.static yX5_alteredE, Cond.code yX5_alteredE cX5_alteredE 2 (some .int), Cond.methodLink RX5 117 yX5_incremented, Cond.instanceMethod yX5_incremented, Cond.selects RX5 yX5_incremented yX5_incremented, Cond.code yX5_incremented cX5_incremented 2 (some .int), Cond.methodLink RX5 50 yX5_shiftAndSkip, Cond.instanceMethod yX5_shiftAndSkip, Cond.selects RX5 yX5_shiftAndSkip yX5_shiftAndSkip, Cond.code yX5_shiftAndSkip cX5_shiftAndSkip 3 none]
def wsL_law0_r12 : List Cond := [Cond.methodLink RX5 104 yX5_shifted, Cond.instanceMethod yX5_shifted, Cond.selects RX5 yX5_shifted yX5_shifted, Cond.code yX5_shifted cX5_shifted 3 (some .int), Cond.methodLink RX5 108 yX5_throughE, Cond.instanceMethod yX5_throughE, Cond.selects RX5 yX5_throughE yX5_throughE, Cond.code yX5_throughE cX5_throughE 3 (some .int), Cond.methodLink RX5 53 yX5_inputOrOutput, Cond.instanceMethod yX5_inputOrOutput, Cond.selects RX5 yX5_inputOrOutput yX5_inputOrOutput, Cond.code yX5_inputOrOutput cX5_inputOrOutput 5 none, Cond.methodLink RX5 120 yX0_putFlag, Cond.instanceMethod yX0_putFlag, Cond.selects RX0 yX0_putFlag yX0_putFlag, Cond.code yX0_putFlag cX0_putFlag 4 none, Cond.fieldLink RX0 76 "OctalHouse$Bus" "interruptsOn" "Z", Cond.static yX7_bit, Cond.code yX7_bit cX7_bit 1 (some .int), Cond.methodLink RX0 88 yX3_putFlag, Cond.methodLink RX5 125 yX0_flagOf, Cond.instanceMethod yX0_flagOf, Cond.selects RX0 yX0_flagOf yX0_flagOf, Cond.code yX0_flagOf cX0_flagOf 3 (some .boolean)]
def wsL_law0_r13 : List Cond := [Cond.methodLink RX5 128 yX0_tell, Cond.instanceMethod yX0_tell, Cond.selects RX0 yX0_tell yX0_tell, Cond.code yX0_tell cX0_tell 4 (some .int), Cond.fieldLink RX0 92 "OctalHouse$Bus" "switchWord" "I", Cond.methodLink RX5 131 yX0_take, Cond.instanceMethod yX0_take, Cond.selects RX0 yX0_take yX0_take, Cond.code yX0_take cX0_take 6 none, Cond.fieldLink RX0 101 "OctalHouse$Bus" "lamps" "I", Cond.methodLink RX0 104 yX1_takeRegister, Cond.instanceMethod yX1_takeRegister, Cond.selects RX1 yX1_takeRegister yX1_takeRegister, Cond.code yX1_takeRegister cX1_takeRegister 2 none, Cond.fieldLink RX1 70 "OctalHouse$Channel" "countComesNext" "Z", Cond.methodLink RX5 134 yX0_putControl, Cond.instanceMethod yX0_putControl, Cond.selects RX0 yX0_putControl yX0_putControl, Cond.code yX0_putControl cX0_putControl 4 none, Cond.methodLink RX0 108 yX0_resetAllControls, Cond.instanceMethod yX0_resetAllControls, Cond.selects RX0 yX0_resetAllControls yX0_resetAllControls, Cond.code yX0_resetAllControls cX0_resetAllControls 3 none, Cond.methodLink RX0 114 yX0_putLineControl]
def wsL_law0_r14 : List Cond := [Cond.instanceMethod yX0_putLineControl, Cond.selects RX0 yX0_putLineControl yX0_putLineControl, Cond.code yX0_putLineControl cX0_putLineControl 6 none, Cond.methodLink RX0 118 yX2_start, Cond.methodLink RX5 56 yX5_hasAddressBehind, Cond.static yX5_hasAddressBehind, Cond.code yX5_hasAddressBehind cX5_hasAddressBehind 1 (some .boolean), Cond.constant RX5 137 (32896), Cond.constant RX5 138 (33024), Cond.constant RX5 139 (34944), Cond.constant RX5 140 (35072), Cond.methodLink RX5 60 yX5_nextWord, Cond.instanceMethod yX5_nextWord, Cond.selects RX5 yX5_nextWord yX5_nextWord, Cond.code yX5_nextWord cX5_nextWord 2 (some .int), Cond.methodLink RX5 64 yX5_doubleWord, Cond.instanceMethod yX5_doubleWord, Cond.selects RX5 yX5_doubleWord yX5_doubleWord, Cond.code yX5_doubleWord cX5_doubleWord 4 none, Cond.methodLink RX5 141 yX5_multiply, Cond.instanceMethod yX5_multiply, Cond.selects RX5 yX5_multiply yX5_multiply, Cond.code yX5_multiply cX5_multiply 2 none, Cond.methodLink RX5 151 yX5_writePair]
def wsL_law0_r15 : List Cond := [Cond.instanceMethod yX5_writePair, Cond.selects RX5 yX5_writePair yX5_writePair, Cond.code yX5_writePair cX5_writePair 2 none, Cond.methodLink RX5 144 yX5_divide, Cond.instanceMethod yX5_divide, Cond.selects RX5 yX5_divide yX5_divide, Cond.code yX5_divide cX5_divide 8 none, Cond.constantLong RX5 157 (-32768), Cond.constantLong RX5 159 (32767), Cond.methodLink RX5 154 yX5_readPair, Cond.instanceMethod yX5_readPair, Cond.selects RX5 yX5_readPair yX5_readPair, Cond.code yX5_readPair cX5_readPair 1 (some .int), Cond.methodLink RX5 147 yX5_writeTwo, Cond.instanceMethod yX5_writeTwo, Cond.selects RX5 yX5_writeTwo yX5_writeTwo, Cond.code yX5_writeTwo cX5_writeTwo 5 none, Cond.methodLink RX5 67 yX5_longShift, Cond.instanceMethod yX5_longShift, Cond.selects RX5 yX5_longShift yX5_longShift, Cond.code yX5_longShift cX5_longShift 4 none, Cond.constant RX5 161 (65520), Cond.constant RX5 162 (-2147483648), Cond.constant RX5 163 (2147483647)]
def wsL_law0_r16 : List Cond := [Cond.methodLink RX5 164 yX5_losesUnlikeSign, Cond.static yX5_losesUnlikeSign, Cond.code yX5_losesUnlikeSign cX5_losesUnlikeSign 4 (some .boolean), Cond.methodLink RX7 175 yX5_nextWord, Cond.methodLink RL 46 yX8_run, Cond.instanceMethod yX8_run, Cond.selects RX8 yX8_run yX8_run, Cond.code yX8_run cX8_run 3 (some .int), Cond.fieldLink RX8 75 "OctalHouseModel" "thrown" "I", Cond.fieldLink RX8 91 "OctalHouseModel" "halted" "Z", Cond.methodLink RX8 221 yX8_turn, Cond.instanceMethod yX8_turn, Cond.selects RX8 yX8_turn yX8_turn, Cond.code yX8_turn cX8_turn 4 none, Cond.fieldLink RX8 107 "OctalHouseModel" "turns" "I", Cond.fieldLink RX8 116 "OctalHouseModel" "isOn" "Z", Cond.fieldLink RX8 119 "OctalHouseModel" "heldOff" "Z", Cond.fieldLink RX8 122 "OctalHouseModel" "nowHeld" "Z", Cond.fieldLink RX8 125 "OctalHouseModel" "served" "I", Cond.fieldLink RX8 84 "OctalHouseModel" "p" "I", Cond.methodLink RX8 110 yX8_ready, Cond.instanceMethod yX8_ready, Cond.selects RX8 yX8_ready yX8_ready, Cond.code yX8_ready cX8_ready 3 none]
def wsL_law0_r17 : List Cond := [Cond.methodLink RX8 113 yX8_channel, Cond.instanceMethod yX8_channel, Cond.selects RX8 yX8_channel yX8_channel, Cond.code yX8_channel cX8_channel 3 none, Cond.constant RX8 102 (65535), Cond.methodLink RX8 98 yX8_put, Cond.instanceMethod yX8_put, Cond.selects RX8 yX8_put yX8_put, Cond.code yX8_put cX8_put 3 none, Cond.fieldLink RX8 78 "OctalHouseModel" "a" "I", Cond.fieldLink RX8 81 "OctalHouseModel" "b" "I", Cond.methodLink RX8 95 yX8_at, Cond.instanceMethod yX8_at, Cond.selects RX8 yX8_at yX8_at, Cond.code yX8_at cX8_at 2 (some .int), Cond.methodLink RX8 87 yX8_more, Cond.static yX8_more, Cond.code yX8_more cX8_more 1 (some .int), Cond.methodLink RX8 103 yX8_started, Cond.instanceMethod yX8_started, Cond.selects RX8 yX8_started yX8_started, Cond.code yX8_started cX8_started 2 none, Cond.methodLink RX8 128 yX8_does, Cond.instanceMethod yX8_does]
def wsL_law0_r18 : List Cond := [Cond.selects RX8 yX8_does yX8_does, Cond.code yX8_does cX8_does 3 none, Cond.methodLink RX8 131 yX8_memoryWord, Cond.instanceMethod yX8_memoryWord, Cond.selects RX8 yX8_memoryWord yX8_memoryWord, Cond.code yX8_memoryWord cX8_memoryWord 7 none, Cond.constant RX8 143 (32768), Cond.methodLink RX8 144 yX8_direct, Cond.instanceMethod yX8_direct, Cond.selects RX8 yX8_direct yX8_direct, Cond.code yX8_direct cX8_direct 4 (some .int), Cond.methodLink RX8 147 yX8_skip, Cond.instanceMethod yX8_skip, Cond.selects RX8 yX8_skip yX8_skip, Cond.code yX8_skip cX8_skip 2 none, Cond.methodLink RX8 151 yX8_sum, Cond.instanceMethod yX8_sum, Cond.selects RX8 yX8_sum yX8_sum, Cond.code yX8_sum cX8_sum 4 (some .int), Cond.fieldLink RX8 159 "OctalHouseModel" "o" "I", Cond.fieldLink RX8 162 "OctalHouseModel" "e" "I", Cond.methodLink RX8 156 yX8_signed, Cond.static yX8_signed, Cond.code yX8_signed cX8_signed 1 (some .int)]
def wsL_law0_r19 : List Cond := [Cond.constant RX8 155 (65536), Cond.methodLink RX8 134 yX8_registers, Cond.instanceMethod yX8_registers, Cond.selects RX8 yX8_registers yX8_registers, Cond.code yX8_registers cX8_registers 4 none, Cond.methodLink RX8 165 yX8_is, Cond.static yX8_is, Cond.code yX8_is cX8_is 2 (some .boolean), Cond.methodLink RX8 169 yX8_altered, Cond.instanceMethod yX8_altered, Cond.selects RX8 yX8_altered yX8_altered, Cond.code yX8_altered cX8_altered 11 (some .int), Cond.methodLink RX8 172 yX8_shifted, Cond.instanceMethod yX8_shifted, Cond.selects RX8 yX8_shifted yX8_shifted, Cond.code yX8_shifted cX8_shifted 4 (some .int), Cond.methodLink RX8 137 yX8_codes, Cond.instanceMethod yX8_codes, Cond.selects RX8 yX8_codes yX8_codes, Cond.code yX8_codes cX8_codes 7 none, Cond.methodLink RX8 181 yX8_setFlag, Cond.instanceMethod yX8_setFlag, Cond.selects RX8 yX8_setFlag yX8_setFlag, Cond.code yX8_setFlag cX8_setFlag 3 none]
def wsL_law0_r20 : List Cond := [Cond.methodLink RX8 185 yX8_flagOf, Cond.instanceMethod yX8_flagOf, Cond.selects RX8 yX8_flagOf yX8_flagOf, Cond.code yX8_flagOf cX8_flagOf 2 (some .boolean), Cond.methodLink RX8 189 yX8_told, Cond.instanceMethod yX8_told, Cond.selects RX8 yX8_told yX8_told, Cond.code yX8_told cX8_told 2 (some .int), Cond.fieldLink RX8 175 "OctalHouseModel" "switches" "I", Cond.methodLink RX8 192 yX8_goes, Cond.instanceMethod yX8_goes, Cond.selects RX8 yX8_goes yX8_goes, Cond.code yX8_goes cX8_goes 4 none, Cond.fieldLink RX8 178 "OctalHouseModel" "lamps" "I", Cond.methodLink RX8 195 yX8_setControl, Cond.instanceMethod yX8_setControl, Cond.selects RX8 yX8_setControl yX8_setControl, Cond.code yX8_setControl cX8_setControl 4 none, Cond.methodLink RX8 140 yX8_extended, Cond.instanceMethod yX8_extended, Cond.selects RX8 yX8_extended yX8_extended, Cond.code yX8_extended cX8_extended 5 none, Cond.constant RX8 198 (32896), Cond.constant RX8 199 (33024)]
def wsL_law0_r21 : List Cond := [Cond.constant RX8 200 (34944), Cond.constant RX8 201 (35072), Cond.methodLink RX8 202 yX8_twoWords, Cond.instanceMethod yX8_twoWords, Cond.selects RX8 yX8_twoWords yX8_twoWords, Cond.code yX8_twoWords cX8_twoWords 9 none, Cond.constantLong RX8 217 (-32768), Cond.constantLong RX8 219 (32767), Cond.methodLink RX8 212 yX8_both_, Cond.instanceMethod yX8_both_, Cond.selects RX8 yX8_both_ yX8_both_, Cond.code yX8_both_ cX8_both_ 3 none, Cond.methodLink RX8 205 yX8_both, Cond.instanceMethod yX8_both, Cond.selects RX8 yX8_both yX8_both, Cond.code yX8_both cX8_both 1 (some .long), Cond.methodLink RX8 209 yX8_leftSigned, Cond.instanceMethod yX8_leftSigned, Cond.selects RX8 yX8_leftSigned yX8_leftSigned, Cond.code yX8_leftSigned cX8_leftSigned 7 none, Cond.constantLong RX8 215 (2147483647), Cond.methodLink RL 47 yX8_thrown, Cond.instanceMethod yX8_thrown, Cond.selects RX8 yX8_thrown yX8_thrown]
def wsL_law0_r22 : List Cond := [Cond.code yX8_thrown cX8_thrown 1 (some .int), Cond.methodLink RL 51 yX7_go, Cond.instanceMethod yX7_go, Cond.selects RX7 yX7_go yX7_go, Cond.code yX7_go cX7_go 2 none, Cond.methodLink RL 55 yX8_go, Cond.instanceMethod yX8_go, Cond.selects RX8 yX8_go yX8_go, Cond.code yX8_go cX8_go 2 none, Cond.methodLink RL 56 yL_word, Cond.static yL_word, Cond.codeWith yL_word cL_word 4 (some .int) [(0, 9, 12, 18)], Cond.classLink RL 18 "java/lang/IndexOutOfBoundsException", Cond.methodLink RL 15 yX7_word, Cond.instanceMethod yX7_word, Cond.selects RX7 yX7_word yX7_word, Cond.code yX7_word cX7_word 2 (some .int), Cond.classLink RX7 65 "java/lang/IndexOutOfBoundsException", Cond.initialized "java/lang/IndexOutOfBoundsException", Cond.methodLink RL 58 yX8_word, Cond.instanceMethod yX8_word, Cond.selects RX8 yX8_word yX8_word, Cond.code yX8_word cX8_word 2 (some .int), Cond.methodLink RX8 224 yX8_lacks]
def wsL_law0_r23 : List Cond := [Cond.instanceMethod yX8_lacks, Cond.selects RX8 yX8_lacks yX8_lacks, Cond.code yX8_lacks cX8_lacks 3 (some .boolean), Cond.methodLink RL 59 yL_set, Cond.static yL_set, Cond.codeWith yL_set cL_set 4 (some .int) [(0, 6, 9, 18)], Cond.methodLink RL 20 yX7_set, Cond.instanceMethod yX7_set, Cond.selects RX7 yX7_set yX7_set, Cond.code yX7_set cX7_set 3 none, Cond.methodLink RX7 74 yX4_write, Cond.methodLink RL 62 yX8_set, Cond.instanceMethod yX8_set, Cond.selects RX8 yX8_set yX8_set, Cond.code yX8_set cX8_set 3 none, Cond.methodLink RL 63 yX7_state, Cond.instanceMethod yX7_state, Cond.selects RX7 yX7_state yX7_state, Cond.code yX7_state cX7_state 2 (some .int), Cond.methodLink RX7 87 yX7_bit, Cond.methodLink RL 66 yX8_state, Cond.instanceMethod yX8_state, Cond.selects RX8 yX8_state yX8_state, Cond.code yX8_state cX8_state 2 (some .int)]
def wsL_law0_r24 : List Cond := [Cond.methodLink RL 67 yX7_switches, Cond.instanceMethod yX7_switches, Cond.selects RX7 yX7_switches yX7_switches, Cond.code yX7_switches cX7_switches 2 none, Cond.constant RX7 103 (65535), Cond.methodLink RL 70 yX8_switches, Cond.instanceMethod yX8_switches, Cond.selects RX8 yX8_switches yX8_switches, Cond.code yX8_switches cX8_switches 2 none, Cond.methodLink RL 71 yL_device, Cond.static yL_device, Cond.codeWith yL_device cL_device 5 (some .int) [(0, 7, 10, 18), (0, 7, 14, 13)], Cond.methodLink RL 24 yX7_device, Cond.instanceMethod yX7_device, Cond.selects RX7 yX7_device yX7_device, Cond.code yX7_device cX7_device 5 none, Cond.methodLink RX7 107 yX0_deviceAt, Cond.methodLink RX7 115 yX2_equip, Cond.instanceMethod yX2_equip, Cond.selects RX2 yX2_equip yX2_equip, Cond.code yX2_equip cX2_equip 3 none, Cond.methodLink RL 74 yX8_device, Cond.instanceMethod yX8_device, Cond.selects RX8 yX8_device yX8_device]
def wsL_law0_r25 : List Cond := [Cond.code yX8_device cX8_device 5 none, Cond.methodLink RL 75 yL_give, Cond.static yL_give, Cond.codeWith yL_give cL_give 5 (some .int) [(0, 10, 13, 18), (0, 10, 17, 32)], Cond.classLink RL 32 "java/lang/IllegalStateException", Cond.methodLink RL 28 yX7_give, Cond.instanceMethod yX7_give, Cond.selects RX7 yX7_give yX7_give, Cond.code yX7_give cX7_give 4 (some .int), Cond.classLink RX7 124 "java/lang/IllegalStateException", Cond.initialized "java/lang/IllegalStateException", Cond.methodLink RX7 129 yX2_putOnTape, Cond.instanceMethod yX2_putOnTape, Cond.selects RX2 yX2_putOnTape yX2_putOnTape, Cond.code yX2_putOnTape cX2_putOnTape 3 none, Cond.methodLink RL 78 yX8_give, Cond.instanceMethod yX8_give, Cond.selects RX8 yX8_give yX8_give, Cond.code yX8_give cX8_give 4 (some .int), Cond.methodLink RL 79 yL_out, Cond.static yL_out, Cond.codeWith yL_out cL_out 5 (some .int) [(0, 10, 13, 18)], Cond.methodLink RL 34 yX7_out, Cond.instanceMethod yX7_out]
def wsL_law0_r26 : List Cond := [Cond.selects RX7 yX7_out yX7_out, Cond.code yX7_out cX7_out 4 (some .int), Cond.methodLink RX7 133 yX2_keptOut, Cond.instanceMethod yX2_keptOut, Cond.selects RX2 yX2_keptOut yX2_keptOut, Cond.code yX2_keptOut cX2_keptOut 2 (some .int), Cond.methodLink RL 81 yX8_out, Cond.instanceMethod yX8_out, Cond.selects RX8 yX8_out yX8_out, Cond.code yX8_out cX8_out 4 (some .int), Cond.methodLink RL 82 yX7_code, Cond.instanceMethod yX7_code, Cond.selects RX7 yX7_code yX7_code, Cond.code yX7_code cX7_code 6 (some .int), Cond.methodLink RX7 136 yX0_lineOf, Cond.methodLink RX7 151 yX0_channelAt, Cond.methodLink RX7 155 yX1_tellPart, Cond.instanceMethod yX1_tellPart, Cond.selects RX1 yX1_tellPart yX1_tellPart, Cond.code yX1_tellPart cX1_tellPart 2 (some .int), Cond.methodLink RX7 160 yX2_tellPart, Cond.instanceMethod yX2_tellPart, Cond.selects RX2 yX2_tellPart yX2_tellPart, Cond.code yX2_tellPart cX2_tellPart 2 (some .int)]
def wsL_law0_r27 : List Cond := [Cond.methodLink RL 85 yX8_code, Cond.instanceMethod yX8_code, Cond.selects RX8 yX8_code yX8_code, Cond.code yX8_code cX8_code 3 (some .int), Cond.methodLink RL 86 yX7_sum, Cond.instanceMethod yX7_sum, Cond.selects RX7 yX7_sum yX7_sum, Cond.code yX7_sum cX7_sum 3 (some .int), Cond.methodLink RL 89 yX8_sum_, Cond.instanceMethod yX8_sum_, Cond.selects RX8 yX8_sum_ yX8_sum_, Cond.code yX8_sum_ cX8_sum_ 3 (some .int)]
def wsL_law0 : List Cond := (wsL_law0_r1 ++ (wsL_law0_r2 ++ (wsL_law0_r3 ++ (wsL_law0_r4 ++ (wsL_law0_r5 ++ (wsL_law0_r6 ++ (wsL_law0_r7 ++ (wsL_law0_r8 ++ (wsL_law0_r9 ++ (wsL_law0_r10 ++ (wsL_law0_r11 ++ (wsL_law0_r12 ++ (wsL_law0_r13 ++ (wsL_law0_r14 ++ (wsL_law0_r15 ++ (wsL_law0_r16 ++ (wsL_law0_r17 ++ (wsL_law0_r18 ++ (wsL_law0_r19 ++ (wsL_law0_r20 ++ (wsL_law0_r21 ++ (wsL_law0_r22 ++ (wsL_law0_r23 ++ (wsL_law0_r24 ++ (wsL_law0_r25 ++ (wsL_law0_r26 ++ wsL_law0_r27)))))))))))))))))))))))))) ++ wsX70 ++ wsX80 ++ wsX40 ++ wsX60 ++ wsX00 ++ wsX50 ++ wsX10 ++ wsX20 ++ wsX30 ++ ([] : List Cond)
def wsL_law : List Cond := wsL_law0 ++ (vx_atS RX7 49 "java/lang/IllegalArgumentException" ["java/lang/RuntimeException", "java/lang/Exception"]).filter goodWord ++ (vx_atS RX7 69 "java/lang/IndexOutOfBoundsException" ["java/lang/RuntimeException", "java/lang/Exception"]).filter goodWord ++ (vx_atS RX7 128 "java/lang/IllegalStateException" ["java/lang/RuntimeException", "java/lang/Exception"]).filter goodWord
abbrev vwCl : List vw_C := [(RX0, TX0, 7), (RX1, TX1, 8), (RX2, TX2, 10), (RX3, TX3, 3), (RX4, TX4, 1), (RX5, TX5, 3), (RX6, TX6, 6), (RX7, TX7, 7), (RX8, TX8, 35)]
end
section
set_option maxRecDepth 20000 in
theorem ggX0_init_X1_init : GoodIn wsX0_init wsX1_init := goodIn_r _ [16, 17, 2, 3, 18, 19, 20, 21, 22, 23, 24, 60, 61, 62, 42, 43, 44, 45, 46, 47, 48, 49] (by decide +kernel) (by decide +kernel)
set_option maxRecDepth 20000 in
theorem gX0_init_X1_init_n33 : GoodIn wsX0_init (wsX1_init) := ggX0_init_X1_init
set_option maxRecDepth 20000 in
theorem ggX0_init_X2_init : GoodIn wsX0_init wsX2_init := goodIn_r _ [26, 27, 2, 3, 28, 19, 20, 29, 30, 31, 32, 33, 34, 22, 23, 24, 60, 61, 62, 50, 51, 52, 53, 54, 55, 56, 57, 58, 59] (by decide +kernel) (by decide +kernel)
set_option maxRecDepth 20000 in
theorem gX0_init_X2_init_n38 : GoodIn wsX0_init (wsX2_init) := ggX0_init_X2_init
theorem dX0_init_0 : decode cX0_init 0 = .ok (.aload_n 0, 1) := by decide +kernel
theorem dX0_init_1 : decode cX0_init 1 = .ok (.invokespecial 3, 3) := by decide +kernel
theorem dX0_init_4 : decode cX0_init 4 = .ok (.aload_n 0, 1) := by decide +kernel
theorem dX0_init_5 : decode cX0_init 5 = .ok (.iconst 2, 1) := by decide +kernel
theorem dX0_init_6 : decode cX0_init 6 = .ok (.anewarray 9, 3) := by decide +kernel
theorem dX0_init_9 : decode cX0_init 9 = .ok (.putfield 11, 3) := by decide +kernel
theorem dX0_init_12 : decode cX0_init 12 = .ok (.aload_n 0, 1) := by decide +kernel
theorem dX0_init_13 : decode cX0_init 13 = .ok (.iconst 4, 1) := by decide +kernel
theorem dX0_init_14 : decode cX0_init 14 = .ok (.anewarray 17, 3) := by decide +kernel
theorem dX0_init_17 : decode cX0_init 17 = .ok (.putfield 19, 3) := by decide +kernel
theorem dX0_init_20 : decode cX0_init 20 = .ok (.aload_n 0, 1) := by decide +kernel
theorem dX0_init_21 : decode cX0_init 21 = .ok (.bipush 6, 2) := by decide +kernel
theorem dX0_init_23 : decode cX0_init 23 = .ok (.anewarray 23, 3) := by decide +kernel
theorem dX0_init_26 : decode cX0_init 26 = .ok (.putfield 25, 3) := by decide +kernel
theorem dX0_init_29 : decode cX0_init 29 = .ok (.aload_n 0, 1) := by decide +kernel
theorem dX0_init_30 : decode cX0_init 30 = .ok (.aload_n 1, 1) := by decide +kernel
theorem dX0_init_31 : decode cX0_init 31 = .ok (.putfield 29, 3) := by decide +kernel
theorem dX0_init_34 : decode cX0_init 34 = .ok (.iconst 0, 1) := by decide +kernel
theorem dX0_init_35 : decode cX0_init 35 = .ok (.istore_n 2, 1) := by decide +kernel
theorem dX0_init_36 : decode cX0_init 36 = .ok (.iload_n 2, 1) := by decide +kernel
theorem dX0_init_37 : decode cX0_init 37 = .ok (.iconst 2, 1) := by decide +kernel
theorem dX0_init_38 : decode cX0_init 38 = .ok (.if_icmp .ge 34, 3) := by decide +kernel
theorem dX0_init_41 : decode cX0_init 41 = .ok (.new 9, 3) := by decide +kernel
theorem dX0_init_44 : decode cX0_init 44 = .ok (.dup, 1) := by decide +kernel
theorem dX0_init_45 : decode cX0_init 45 = .ok (.invokespecial 33, 3) := by decide +kernel
theorem dX0_init_48 : decode cX0_init 48 = .ok (.astore_n 3, 1) := by decide +kernel
theorem dX0_init_49 : decode cX0_init 49 = .ok (.aload_n 0, 1) := by decide +kernel
theorem dX0_init_50 : decode cX0_init 50 = .ok (.getfield 11, 3) := by decide +kernel
theorem dX0_init_53 : decode cX0_init 53 = .ok (.iload_n 2, 1) := by decide +kernel
theorem dX0_init_54 : decode cX0_init 54 = .ok (.aload_n 3, 1) := by decide +kernel
theorem dX0_init_55 : decode cX0_init 55 = .ok (.aastore, 1) := by decide +kernel
theorem dX0_init_56 : decode cX0_init 56 = .ok (.aload_n 0, 1) := by decide +kernel
theorem dX0_init_57 : decode cX0_init 57 = .ok (.getfield 25, 3) := by decide +kernel
theorem dX0_init_60 : decode cX0_init 60 = .ok (.iload_n 2, 1) := by decide +kernel
theorem dX0_init_61 : decode cX0_init 61 = .ok (.aload_n 3, 1) := by decide +kernel
theorem dX0_init_62 : decode cX0_init 62 = .ok (.getfield 34, 3) := by decide +kernel
theorem dX0_init_65 : decode cX0_init 65 = .ok (.aastore, 1) := by decide +kernel
theorem dX0_init_66 : decode cX0_init 66 = .ok (.iinc 2 1, 3) := by decide +kernel
theorem dX0_init_69 : decode cX0_init 69 = .ok (.goto (-33), 3) := by decide +kernel
theorem dX0_init_72 : decode cX0_init 72 = .ok (.iconst 0, 1) := by decide +kernel
theorem dX0_init_73 : decode cX0_init 73 = .ok (.istore_n 2, 1) := by decide +kernel
theorem dX0_init_74 : decode cX0_init 74 = .ok (.iload_n 2, 1) := by decide +kernel
theorem dX0_init_75 : decode cX0_init 75 = .ok (.iconst 4, 1) := by decide +kernel
theorem dX0_init_76 : decode cX0_init 76 = .ok (.if_icmp .ge 36, 3) := by decide +kernel
theorem dX0_init_79 : decode cX0_init 79 = .ok (.new 17, 3) := by decide +kernel
theorem dX0_init_82 : decode cX0_init 82 = .ok (.dup, 1) := by decide +kernel
theorem dX0_init_83 : decode cX0_init 83 = .ok (.invokespecial 38, 3) := by decide +kernel
theorem dX0_init_86 : decode cX0_init 86 = .ok (.astore_n 3, 1) := by decide +kernel
theorem dX0_init_87 : decode cX0_init 87 = .ok (.aload_n 0, 1) := by decide +kernel
theorem dX0_init_88 : decode cX0_init 88 = .ok (.getfield 19, 3) := by decide +kernel
theorem dX0_init_91 : decode cX0_init 91 = .ok (.iload_n 2, 1) := by decide +kernel
theorem dX0_init_92 : decode cX0_init 92 = .ok (.aload_n 3, 1) := by decide +kernel
theorem dX0_init_93 : decode cX0_init 93 = .ok (.aastore, 1) := by decide +kernel
theorem dX0_init_94 : decode cX0_init 94 = .ok (.aload_n 0, 1) := by decide +kernel
theorem dX0_init_95 : decode cX0_init 95 = .ok (.getfield 25, 3) := by decide +kernel
theorem dX0_init_98 : decode cX0_init 98 = .ok (.iconst 2, 1) := by decide +kernel
theorem dX0_init_99 : decode cX0_init 99 = .ok (.iload_n 2, 1) := by decide +kernel
theorem dX0_init_100 : decode cX0_init 100 = .ok (.iadd, 1) := by decide +kernel
theorem dX0_init_101 : decode cX0_init 101 = .ok (.aload_n 3, 1) := by decide +kernel
theorem dX0_init_102 : decode cX0_init 102 = .ok (.getfield 39, 3) := by decide +kernel
theorem dX0_init_105 : decode cX0_init 105 = .ok (.aastore, 1) := by decide +kernel
theorem dX0_init_106 : decode cX0_init 106 = .ok (.iinc 2 1, 3) := by decide +kernel
theorem dX0_init_109 : decode cX0_init 109 = .ok (.goto (-35), 3) := by decide +kernel
theorem dX0_init_112 : decode cX0_init 112 = .ok (.return_, 1) := by decide +kernel
theorem dX0_channelAt_0 : decode cX0_channelAt 0 = .ok (.iload_n 1, 1) := by decide +kernel
theorem dX0_channelAt_1 : decode cX0_channelAt 1 = .ok (.ifCond .lt 21, 3) := by decide +kernel
theorem dX0_channelAt_4 : decode cX0_channelAt 4 = .ok (.iload_n 1, 1) := by decide +kernel
theorem dX0_channelAt_5 : decode cX0_channelAt 5 = .ok (.aload_n 0, 1) := by decide +kernel
theorem dX0_channelAt_6 : decode cX0_channelAt 6 = .ok (.getfield 11, 3) := by decide +kernel
theorem dX0_channelAt_9 : decode cX0_channelAt 9 = .ok (.arraylength, 1) := by decide +kernel
theorem dX0_channelAt_10 : decode cX0_channelAt 10 = .ok (.if_icmp .ge 12, 3) := by decide +kernel
theorem dX0_channelAt_13 : decode cX0_channelAt 13 = .ok (.aload_n 0, 1) := by decide +kernel
theorem dX0_channelAt_14 : decode cX0_channelAt 14 = .ok (.getfield 11, 3) := by decide +kernel
theorem dX0_channelAt_17 : decode cX0_channelAt 17 = .ok (.iload_n 1, 1) := by decide +kernel
theorem dX0_channelAt_18 : decode cX0_channelAt 18 = .ok (.aaload, 1) := by decide +kernel
theorem dX0_channelAt_19 : decode cX0_channelAt 19 = .ok (.goto 4, 3) := by decide +kernel
theorem dX0_channelAt_22 : decode cX0_channelAt 22 = .ok (.aconst_null, 1) := by decide +kernel
theorem dX0_channelAt_23 : decode cX0_channelAt 23 = .ok (.areturn, 1) := by decide +kernel
theorem dX0_deviceAt_0 : decode cX0_deviceAt 0 = .ok (.iload_n 1, 1) := by decide +kernel
theorem dX0_deviceAt_1 : decode cX0_deviceAt 1 = .ok (.ifCond .lt 21, 3) := by decide +kernel
theorem dX0_deviceAt_4 : decode cX0_deviceAt 4 = .ok (.iload_n 1, 1) := by decide +kernel
theorem dX0_deviceAt_5 : decode cX0_deviceAt 5 = .ok (.aload_n 0, 1) := by decide +kernel
theorem dX0_deviceAt_6 : decode cX0_deviceAt 6 = .ok (.getfield 19, 3) := by decide +kernel
theorem dX0_deviceAt_9 : decode cX0_deviceAt 9 = .ok (.arraylength, 1) := by decide +kernel
theorem dX0_deviceAt_10 : decode cX0_deviceAt 10 = .ok (.if_icmp .ge 12, 3) := by decide +kernel
theorem dX0_deviceAt_13 : decode cX0_deviceAt 13 = .ok (.aload_n 0, 1) := by decide +kernel
theorem dX0_deviceAt_14 : decode cX0_deviceAt 14 = .ok (.getfield 19, 3) := by decide +kernel
theorem dX0_deviceAt_17 : decode cX0_deviceAt 17 = .ok (.iload_n 1, 1) := by decide +kernel
theorem dX0_deviceAt_18 : decode cX0_deviceAt 18 = .ok (.aaload, 1) := by decide +kernel
theorem dX0_deviceAt_19 : decode cX0_deviceAt 19 = .ok (.goto 4, 3) := by decide +kernel
theorem dX0_deviceAt_22 : decode cX0_deviceAt 22 = .ok (.aconst_null, 1) := by decide +kernel
theorem dX0_deviceAt_23 : decode cX0_deviceAt 23 = .ok (.areturn, 1) := by decide +kernel
theorem dX0_lineOf_0 : decode cX0_lineOf 0 = .ok (.iload_n 1, 1) := by decide +kernel
theorem dX0_lineOf_1 : decode cX0_lineOf 1 = .ok (.bipush 6, 2) := by decide +kernel
theorem dX0_lineOf_3 : decode cX0_lineOf 3 = .ok (.isub, 1) := by decide +kernel
theorem dX0_lineOf_4 : decode cX0_lineOf 4 = .ok (.istore_n 2, 1) := by decide +kernel
theorem dX0_lineOf_5 : decode cX0_lineOf 5 = .ok (.iload_n 2, 1) := by decide +kernel
theorem dX0_lineOf_6 : decode cX0_lineOf 6 = .ok (.ifCond .lt 21, 3) := by decide +kernel
theorem dX0_lineOf_9 : decode cX0_lineOf 9 = .ok (.iload_n 2, 1) := by decide +kernel
theorem dX0_lineOf_10 : decode cX0_lineOf 10 = .ok (.aload_n 0, 1) := by decide +kernel
theorem dX0_lineOf_11 : decode cX0_lineOf 11 = .ok (.getfield 25, 3) := by decide +kernel
theorem dX0_lineOf_14 : decode cX0_lineOf 14 = .ok (.arraylength, 1) := by decide +kernel
theorem dX0_lineOf_15 : decode cX0_lineOf 15 = .ok (.if_icmp .ge 12, 3) := by decide +kernel
theorem dX0_lineOf_18 : decode cX0_lineOf 18 = .ok (.aload_n 0, 1) := by decide +kernel
theorem dX0_lineOf_19 : decode cX0_lineOf 19 = .ok (.getfield 25, 3) := by decide +kernel
theorem dX0_lineOf_22 : decode cX0_lineOf 22 = .ok (.iload_n 2, 1) := by decide +kernel
theorem dX0_lineOf_23 : decode cX0_lineOf 23 = .ok (.aaload, 1) := by decide +kernel
theorem dX0_lineOf_24 : decode cX0_lineOf 24 = .ok (.goto 4, 3) := by decide +kernel
theorem dX0_lineOf_27 : decode cX0_lineOf 27 = .ok (.aconst_null, 1) := by decide +kernel
theorem dX0_lineOf_28 : decode cX0_lineOf 28 = .ok (.areturn, 1) := by decide +kernel
set_option maxRecDepth 20000 in
theorem ggX0_advanceDevices_X0_deviceAt : GoodIn wsX0_advanceDevices wsX0_deviceAt := goodIn_r _ [5, 6, 36, 37, 38, 39, 40, 41, 42] (by decide +kernel) (by decide +kernel)
set_option maxRecDepth 20000 in
theorem gX0_advanceDevices_X0_deviceAt : GoodIn wsX0_advanceDevices (wsV RX0 40 RX0 yX0_deviceAt wsX0_deviceAt) := goodIn_app (goodIn_of _ (by decide +kernel)) ggX0_advanceDevices_X0_deviceAt
set_option maxRecDepth 20000 in
theorem ggX0_advanceDevices_X2_advance : GoodIn wsX0_advanceDevices wsX2_advance := goodIn_r _ [11, 12, 13, 14, 15, 16, 17, 18, 10, 19, 20, 21, 22, 23, 24, 25, 26, 27, 28, 29, 30, 31, 32, 33, 34, 35, 43, 44, 45, 46, 47, 48, 49, 50, 51, 52, 53, 54, 55] (by decide +kernel) (by decide +kernel)
set_option maxRecDepth 20000 in
theorem gX0_advanceDevices_X2_advance : GoodIn wsX0_advanceDevices (wsV RX0 44 RX2 yX2_advance wsX2_advance) := goodIn_app (goodIn_of _ (by decide +kernel)) ggX0_advanceDevices_X2_advance
theorem dX0_advanceDevices_0 : decode cX0_advanceDevices 0 = .ok (.iconst 0, 1) := by decide +kernel
theorem dX0_advanceDevices_1 : decode cX0_advanceDevices 1 = .ok (.istore_n 1, 1) := by decide +kernel
theorem dX0_advanceDevices_2 : decode cX0_advanceDevices 2 = .ok (.iload_n 1, 1) := by decide +kernel
theorem dX0_advanceDevices_3 : decode cX0_advanceDevices 3 = .ok (.iconst 4, 1) := by decide +kernel
theorem dX0_advanceDevices_4 : decode cX0_advanceDevices 4 = .ok (.if_icmp .ge 23, 3) := by decide +kernel
theorem dX0_advanceDevices_7 : decode cX0_advanceDevices 7 = .ok (.aload_n 0, 1) := by decide +kernel
theorem dX0_advanceDevices_8 : decode cX0_advanceDevices 8 = .ok (.iload_n 1, 1) := by decide +kernel
theorem dX0_advanceDevices_9 : decode cX0_advanceDevices 9 = .ok (.invokevirtual 40, 3) := by decide +kernel
theorem dX0_advanceDevices_12 : decode cX0_advanceDevices 12 = .ok (.astore_n 2, 1) := by decide +kernel
theorem dX0_advanceDevices_13 : decode cX0_advanceDevices 13 = .ok (.aload_n 2, 1) := by decide +kernel
theorem dX0_advanceDevices_14 : decode cX0_advanceDevices 14 = .ok (.ifnull 7, 3) := by decide +kernel
theorem dX0_advanceDevices_17 : decode cX0_advanceDevices 17 = .ok (.aload_n 2, 1) := by decide +kernel
theorem dX0_advanceDevices_18 : decode cX0_advanceDevices 18 = .ok (.invokevirtual 44, 3) := by decide +kernel
theorem dX0_advanceDevices_21 : decode cX0_advanceDevices 21 = .ok (.iinc 1 1, 3) := by decide +kernel
theorem dX0_advanceDevices_24 : decode cX0_advanceDevices 24 = .ok (.goto (-22), 3) := by decide +kernel
theorem dX0_advanceDevices_27 : decode cX0_advanceDevices 27 = .ok (.return_, 1) := by decide +kernel
set_option maxRecDepth 20000 in
theorem ggX0_advanceChannels_X0_channelAt : GoodIn wsX0_advanceChannels wsX0_channelAt := goodIn_r _ [5, 6, 76, 77, 78, 79, 80, 81, 82] (by decide +kernel) (by decide +kernel)
set_option maxRecDepth 20000 in
theorem gX0_advanceChannels_X0_channelAt : GoodIn wsX0_advanceChannels (wsV RX0 47 RX0 yX0_channelAt wsX0_channelAt) := goodIn_app (goodIn_of _ (by decide +kernel)) ggX0_advanceChannels_X0_channelAt
set_option maxRecDepth 20000 in
theorem ggX0_advanceChannels_X0_deviceAt : GoodIn wsX0_advanceChannels wsX0_deviceAt := goodIn_r _ [10, 11, 76, 77, 78, 79, 80, 81, 82] (by decide +kernel) (by decide +kernel)
set_option maxRecDepth 20000 in
theorem gX0_advanceChannels_X0_deviceAt : GoodIn wsX0_advanceChannels (wsV RX0 40 RX0 yX0_deviceAt wsX0_deviceAt) := goodIn_app (goodIn_of _ (by decide +kernel)) ggX0_advanceChannels_X0_deviceAt
set_option maxRecDepth 20000 in
theorem ggX0_advanceChannels_X1_move : GoodIn wsX0_advanceChannels wsX1_move := goodIn_r _ [16, 17, 18, 19, 20, 21, 22, 23, 24, 25, 26, 27, 28, 29, 30, 31, 32, 33, 34, 35, 36, 37, 38, 39, 40, 41, 42, 43, 44, 15, 45, 46, 47, 48, 49, 50, 51, 52, 53, 54, 55, 56, 57, 58, 59, 60, 61, 62, 63, 64, 65, 66, 67, 68, 69, 70, 71, 72, 73, 74, 75, 83] (by decide +kernel) (by decide +kernel)
set_option maxRecDepth 20000 in
theorem gX0_advanceChannels_X1_move : GoodIn wsX0_advanceChannels (wsV RX0 62 RX1 yX1_move wsX1_move) := goodIn_app (goodIn_of _ (by decide +kernel)) ggX0_advanceChannels_X1_move
theorem dX0_advanceChannels_0 : decode cX0_advanceChannels 0 = .ok (.iconst 0, 1) := by decide +kernel
theorem dX0_advanceChannels_1 : decode cX0_advanceChannels 1 = .ok (.istore_n 2, 1) := by decide +kernel
theorem dX0_advanceChannels_2 : decode cX0_advanceChannels 2 = .ok (.iload_n 2, 1) := by decide +kernel
theorem dX0_advanceChannels_3 : decode cX0_advanceChannels 3 = .ok (.iconst 2, 1) := by decide +kernel
theorem dX0_advanceChannels_4 : decode cX0_advanceChannels 4 = .ok (.if_icmp .ge 65, 3) := by decide +kernel
theorem dX0_advanceChannels_7 : decode cX0_advanceChannels 7 = .ok (.aload_n 0, 1) := by decide +kernel
theorem dX0_advanceChannels_8 : decode cX0_advanceChannels 8 = .ok (.iload_n 2, 1) := by decide +kernel
theorem dX0_advanceChannels_9 : decode cX0_advanceChannels 9 = .ok (.invokevirtual 47, 3) := by decide +kernel
theorem dX0_advanceChannels_12 : decode cX0_advanceChannels 12 = .ok (.astore_n 3, 1) := by decide +kernel
theorem dX0_advanceChannels_13 : decode cX0_advanceChannels 13 = .ok (.aload_n 3, 1) := by decide +kernel
theorem dX0_advanceChannels_14 : decode cX0_advanceChannels 14 = .ok (.ifnull 49, 3) := by decide +kernel
theorem dX0_advanceChannels_17 : decode cX0_advanceChannels 17 = .ok (.aload_n 3, 1) := by decide +kernel
theorem dX0_advanceChannels_18 : decode cX0_advanceChannels 18 = .ok (.getfield 51, 3) := by decide +kernel
theorem dX0_advanceChannels_21 : decode cX0_advanceChannels 21 = .ok (.ifCond .eq 42, 3) := by decide +kernel
theorem dX0_advanceChannels_24 : decode cX0_advanceChannels 24 = .ok (.aload_n 0, 1) := by decide +kernel
theorem dX0_advanceChannels_25 : decode cX0_advanceChannels 25 = .ok (.aload_n 3, 1) := by decide +kernel
theorem dX0_advanceChannels_26 : decode cX0_advanceChannels 26 = .ok (.getfield 55, 3) := by decide +kernel
theorem dX0_advanceChannels_29 : decode cX0_advanceChannels 29 = .ok (.bipush 63, 2) := by decide +kernel
theorem dX0_advanceChannels_31 : decode cX0_advanceChannels 31 = .ok (.iand, 1) := by decide +kernel
theorem dX0_advanceChannels_32 : decode cX0_advanceChannels 32 = .ok (.bipush 8, 2) := by decide +kernel
theorem dX0_advanceChannels_34 : decode cX0_advanceChannels 34 = .ok (.isub, 1) := by decide +kernel
theorem dX0_advanceChannels_35 : decode cX0_advanceChannels 35 = .ok (.invokevirtual 40, 3) := by decide +kernel
theorem dX0_advanceChannels_38 : decode cX0_advanceChannels 38 = .ok (.astore 4, 2) := by decide +kernel
theorem dX0_advanceChannels_40 : decode cX0_advanceChannels 40 = .ok (.aload 4, 2) := by decide +kernel
theorem dX0_advanceChannels_42 : decode cX0_advanceChannels 42 = .ok (.ifnull 21, 3) := by decide +kernel
theorem dX0_advanceChannels_45 : decode cX0_advanceChannels 45 = .ok (.aload 4, 2) := by decide +kernel
theorem dX0_advanceChannels_47 : decode cX0_advanceChannels 47 = .ok (.getfield 39, 3) := by decide +kernel
theorem dX0_advanceChannels_50 : decode cX0_advanceChannels 50 = .ok (.getfield 59, 3) := by decide +kernel
theorem dX0_advanceChannels_53 : decode cX0_advanceChannels 53 = .ok (.ifCond .eq 10, 3) := by decide +kernel
theorem dX0_advanceChannels_56 : decode cX0_advanceChannels 56 = .ok (.aload_n 3, 1) := by decide +kernel
theorem dX0_advanceChannels_57 : decode cX0_advanceChannels 57 = .ok (.aload 4, 2) := by decide +kernel
theorem dX0_advanceChannels_59 : decode cX0_advanceChannels 59 = .ok (.aload_n 1, 1) := by decide +kernel
theorem dX0_advanceChannels_60 : decode cX0_advanceChannels 60 = .ok (.invokevirtual 62, 3) := by decide +kernel
theorem dX0_advanceChannels_63 : decode cX0_advanceChannels 63 = .ok (.iinc 2 1, 3) := by decide +kernel
theorem dX0_advanceChannels_66 : decode cX0_advanceChannels 66 = .ok (.goto (-64), 3) := by decide +kernel
theorem dX0_advanceChannels_69 : decode cX0_advanceChannels 69 = .ok (.return_, 1) := by decide +kernel
set_option maxRecDepth 20000 in
theorem ggX0_takeInterrupt_X0_lineOf : GoodIn wsX0_takeInterrupt wsX0_lineOf := goodIn_r _ [5, 6, 10, 11, 12, 13, 14, 15, 16] (by decide +kernel) (by decide +kernel)
set_option maxRecDepth 20000 in
theorem gX0_takeInterrupt_X0_lineOf : GoodIn wsX0_takeInterrupt (wsV RX0 66 RX0 yX0_lineOf wsX0_lineOf) := goodIn_app (goodIn_of _ (by decide +kernel)) ggX0_takeInterrupt_X0_lineOf
theorem dX0_takeInterrupt_0 : decode cX0_takeInterrupt 0 = .ok (.bipush 6, 2) := by decide +kernel
theorem dX0_takeInterrupt_2 : decode cX0_takeInterrupt 2 = .ok (.istore_n 1, 1) := by decide +kernel
theorem dX0_takeInterrupt_3 : decode cX0_takeInterrupt 3 = .ok (.iload_n 1, 1) := by decide +kernel
theorem dX0_takeInterrupt_4 : decode cX0_takeInterrupt 4 = .ok (.bipush 11, 2) := by decide +kernel
theorem dX0_takeInterrupt_6 : decode cX0_takeInterrupt 6 = .ok (.if_icmp .gt 53, 3) := by decide +kernel
theorem dX0_takeInterrupt_9 : decode cX0_takeInterrupt 9 = .ok (.aload_n 0, 1) := by decide +kernel
theorem dX0_takeInterrupt_10 : decode cX0_takeInterrupt 10 = .ok (.iload_n 1, 1) := by decide +kernel
theorem dX0_takeInterrupt_11 : decode cX0_takeInterrupt 11 = .ok (.invokevirtual 66, 3) := by decide +kernel
theorem dX0_takeInterrupt_14 : decode cX0_takeInterrupt 14 = .ok (.astore_n 2, 1) := by decide +kernel
theorem dX0_takeInterrupt_15 : decode cX0_takeInterrupt 15 = .ok (.aload_n 2, 1) := by decide +kernel
theorem dX0_takeInterrupt_16 : decode cX0_takeInterrupt 16 = .ok (.ifnull 37, 3) := by decide +kernel
theorem dX0_takeInterrupt_19 : decode cX0_takeInterrupt 19 = .ok (.aload_n 2, 1) := by decide +kernel
theorem dX0_takeInterrupt_20 : decode cX0_takeInterrupt 20 = .ok (.getfield 70, 3) := by decide +kernel
theorem dX0_takeInterrupt_23 : decode cX0_takeInterrupt 23 = .ok (.ifCond .eq 30, 3) := by decide +kernel
theorem dX0_takeInterrupt_26 : decode cX0_takeInterrupt 26 = .ok (.aload_n 2, 1) := by decide +kernel
theorem dX0_takeInterrupt_27 : decode cX0_takeInterrupt 27 = .ok (.getfield 59, 3) := by decide +kernel
theorem dX0_takeInterrupt_30 : decode cX0_takeInterrupt 30 = .ok (.ifCond .eq 23, 3) := by decide +kernel
theorem dX0_takeInterrupt_33 : decode cX0_takeInterrupt 33 = .ok (.aload_n 2, 1) := by decide +kernel
theorem dX0_takeInterrupt_34 : decode cX0_takeInterrupt 34 = .ok (.getfield 73, 3) := by decide +kernel
theorem dX0_takeInterrupt_37 : decode cX0_takeInterrupt 37 = .ok (.istore_n 3, 1) := by decide +kernel
theorem dX0_takeInterrupt_38 : decode cX0_takeInterrupt 38 = .ok (.aload_n 2, 1) := by decide +kernel
theorem dX0_takeInterrupt_39 : decode cX0_takeInterrupt 39 = .ok (.iconst 0, 1) := by decide +kernel
theorem dX0_takeInterrupt_40 : decode cX0_takeInterrupt 40 = .ok (.putfield 73, 3) := by decide +kernel
theorem dX0_takeInterrupt_43 : decode cX0_takeInterrupt 43 = .ok (.iload_n 3, 1) := by decide +kernel
theorem dX0_takeInterrupt_44 : decode cX0_takeInterrupt 44 = .ok (.ifCond .eq 7, 3) := by decide +kernel
theorem dX0_takeInterrupt_47 : decode cX0_takeInterrupt 47 = .ok (.iload_n 1, 1) := by decide +kernel
theorem dX0_takeInterrupt_48 : decode cX0_takeInterrupt 48 = .ok (.goto 4, 3) := by decide +kernel
theorem dX0_takeInterrupt_51 : decode cX0_takeInterrupt 51 = .ok (.iconst (-1), 1) := by decide +kernel
theorem dX0_takeInterrupt_52 : decode cX0_takeInterrupt 52 = .ok (.ireturn, 1) := by decide +kernel
theorem dX0_takeInterrupt_53 : decode cX0_takeInterrupt 53 = .ok (.iinc 1 1, 3) := by decide +kernel
theorem dX0_takeInterrupt_56 : decode cX0_takeInterrupt 56 = .ok (.goto (-53), 3) := by decide +kernel
theorem dX0_takeInterrupt_59 : decode cX0_takeInterrupt 59 = .ok (.iconst (-1), 1) := by decide +kernel
theorem dX0_takeInterrupt_60 : decode cX0_takeInterrupt 60 = .ok (.ireturn, 1) := by decide +kernel
set_option maxRecDepth 20000 in
theorem ggX0_flagOf_X0_lineOf : GoodIn wsX0_flagOf wsX0_lineOf := goodIn_r _ [7, 8, 9, 10, 11, 12, 13, 14, 15] (by decide +kernel) (by decide +kernel)
set_option maxRecDepth 20000 in
theorem gX0_flagOf_X0_lineOf : GoodIn wsX0_flagOf (wsV RX0 66 RX0 yX0_lineOf wsX0_lineOf) := goodIn_app (goodIn_of _ (by decide +kernel)) ggX0_flagOf_X0_lineOf
theorem dX0_flagOf_0 : decode cX0_flagOf 0 = .ok (.iload_n 1, 1) := by decide +kernel
theorem dX0_flagOf_1 : decode cX0_flagOf 1 = .ok (.ifCond .ne 8, 3) := by decide +kernel
theorem dX0_flagOf_4 : decode cX0_flagOf 4 = .ok (.aload_n 0, 1) := by decide +kernel
theorem dX0_flagOf_5 : decode cX0_flagOf 5 = .ok (.getfield 76, 3) := by decide +kernel
theorem dX0_flagOf_8 : decode cX0_flagOf 8 = .ok (.ireturn, 1) := by decide +kernel
theorem dX0_flagOf_9 : decode cX0_flagOf 9 = .ok (.iload_n 1, 1) := by decide +kernel
theorem dX0_flagOf_10 : decode cX0_flagOf 10 = .ok (.iconst 1, 1) := by decide +kernel
theorem dX0_flagOf_11 : decode cX0_flagOf 11 = .ok (.if_icmp .ne 19, 3) := by decide +kernel
theorem dX0_flagOf_14 : decode cX0_flagOf 14 = .ok (.aload_n 0, 1) := by decide +kernel
theorem dX0_flagOf_15 : decode cX0_flagOf 15 = .ok (.getfield 29, 3) := by decide +kernel
theorem dX0_flagOf_18 : decode cX0_flagOf 18 = .ok (.getfield 79, 3) := by decide +kernel
theorem dX0_flagOf_21 : decode cX0_flagOf 21 = .ok (.ifCond .eq 7, 3) := by decide +kernel
theorem dX0_flagOf_24 : decode cX0_flagOf 24 = .ok (.iconst 1, 1) := by decide +kernel
theorem dX0_flagOf_25 : decode cX0_flagOf 25 = .ok (.goto 4, 3) := by decide +kernel
theorem dX0_flagOf_28 : decode cX0_flagOf 28 = .ok (.iconst 0, 1) := by decide +kernel
theorem dX0_flagOf_29 : decode cX0_flagOf 29 = .ok (.ireturn, 1) := by decide +kernel
theorem dX0_flagOf_30 : decode cX0_flagOf 30 = .ok (.aload_n 0, 1) := by decide +kernel
theorem dX0_flagOf_31 : decode cX0_flagOf 31 = .ok (.iload_n 1, 1) := by decide +kernel
theorem dX0_flagOf_32 : decode cX0_flagOf 32 = .ok (.invokevirtual 66, 3) := by decide +kernel
theorem dX0_flagOf_35 : decode cX0_flagOf 35 = .ok (.astore_n 2, 1) := by decide +kernel
theorem dX0_flagOf_36 : decode cX0_flagOf 36 = .ok (.aload_n 2, 1) := by decide +kernel
theorem dX0_flagOf_37 : decode cX0_flagOf 37 = .ok (.ifnull 14, 3) := by decide +kernel
theorem dX0_flagOf_40 : decode cX0_flagOf 40 = .ok (.aload_n 2, 1) := by decide +kernel
theorem dX0_flagOf_41 : decode cX0_flagOf 41 = .ok (.getfield 59, 3) := by decide +kernel
theorem dX0_flagOf_44 : decode cX0_flagOf 44 = .ok (.ifCond .eq 7, 3) := by decide +kernel
theorem dX0_flagOf_47 : decode cX0_flagOf 47 = .ok (.iconst 1, 1) := by decide +kernel
theorem dX0_flagOf_48 : decode cX0_flagOf 48 = .ok (.goto 4, 3) := by decide +kernel
theorem dX0_flagOf_51 : decode cX0_flagOf 51 = .ok (.iconst 0, 1) := by decide +kernel
theorem dX0_flagOf_52 : decode cX0_flagOf 52 = .ok (.ireturn, 1) := by decide +kernel
set_option maxRecDepth 20000 in
theorem ggX0_putFlag_X7_bit : GoodIn wsX0_putFlag wsX7_bit := goodIn_r _ [5] (by decide +kernel) (by decide +kernel)
set_option maxRecDepth 20000 in
theorem gX0_putFlag_X7_bit_n84 : GoodIn wsX0_putFlag (wsX7_bit) := ggX0_putFlag_X7_bit
set_option maxRecDepth 20000 in
theorem ggX0_putFlag_X0_lineOf : GoodIn wsX0_putFlag wsX0_lineOf := goodIn_r _ [10, 11, 19, 20, 21, 22, 23, 24, 25] (by decide +kernel) (by decide +kernel)
set_option maxRecDepth 20000 in
theorem gX0_putFlag_X0_lineOf : GoodIn wsX0_putFlag (wsV RX0 66 RX0 yX0_lineOf wsX0_lineOf) := goodIn_app (goodIn_of _ (by decide +kernel)) ggX0_putFlag_X0_lineOf
set_option maxRecDepth 20000 in
theorem ggX0_putFlag_X3_putFlag : GoodIn wsX0_putFlag wsX3_putFlag := goodIn_r _ [16, 17, 18, 32, 33, 34] (by decide +kernel) (by decide +kernel)
set_option maxRecDepth 20000 in
theorem gX0_putFlag_X3_putFlag : GoodIn wsX0_putFlag (wsV RX0 88 RX3 yX3_putFlag wsX3_putFlag) := goodIn_app (goodIn_of _ (by decide +kernel)) ggX0_putFlag_X3_putFlag
theorem dX0_putFlag_0 : decode cX0_putFlag 0 = .ok (.iload_n 1, 1) := by decide +kernel
theorem dX0_putFlag_1 : decode cX0_putFlag 1 = .ok (.ifCond .ne 9, 3) := by decide +kernel
theorem dX0_putFlag_4 : decode cX0_putFlag 4 = .ok (.aload_n 0, 1) := by decide +kernel
theorem dX0_putFlag_5 : decode cX0_putFlag 5 = .ok (.iload_n 2, 1) := by decide +kernel
theorem dX0_putFlag_6 : decode cX0_putFlag 6 = .ok (.putfield 76, 3) := by decide +kernel
theorem dX0_putFlag_9 : decode cX0_putFlag 9 = .ok (.return_, 1) := by decide +kernel
theorem dX0_putFlag_10 : decode cX0_putFlag 10 = .ok (.iload_n 1, 1) := by decide +kernel
theorem dX0_putFlag_11 : decode cX0_putFlag 11 = .ok (.iconst 1, 1) := by decide +kernel
theorem dX0_putFlag_12 : decode cX0_putFlag 12 = .ok (.if_icmp .ne 15, 3) := by decide +kernel
theorem dX0_putFlag_15 : decode cX0_putFlag 15 = .ok (.aload_n 0, 1) := by decide +kernel
theorem dX0_putFlag_16 : decode cX0_putFlag 16 = .ok (.getfield 29, 3) := by decide +kernel
theorem dX0_putFlag_19 : decode cX0_putFlag 19 = .ok (.iload_n 2, 1) := by decide +kernel
theorem dX0_putFlag_20 : decode cX0_putFlag 20 = .ok (.invokestatic 84, 3) := by decide +kernel
theorem dX0_putFlag_23 : decode cX0_putFlag 23 = .ok (.putfield 79, 3) := by decide +kernel
theorem dX0_putFlag_26 : decode cX0_putFlag 26 = .ok (.return_, 1) := by decide +kernel
theorem dX0_putFlag_27 : decode cX0_putFlag 27 = .ok (.aload_n 0, 1) := by decide +kernel
theorem dX0_putFlag_28 : decode cX0_putFlag 28 = .ok (.iload_n 1, 1) := by decide +kernel
theorem dX0_putFlag_29 : decode cX0_putFlag 29 = .ok (.invokevirtual 66, 3) := by decide +kernel
theorem dX0_putFlag_32 : decode cX0_putFlag 32 = .ok (.astore_n 3, 1) := by decide +kernel
theorem dX0_putFlag_33 : decode cX0_putFlag 33 = .ok (.aload_n 3, 1) := by decide +kernel
theorem dX0_putFlag_34 : decode cX0_putFlag 34 = .ok (.ifnull 8, 3) := by decide +kernel
theorem dX0_putFlag_37 : decode cX0_putFlag 37 = .ok (.aload_n 3, 1) := by decide +kernel
theorem dX0_putFlag_38 : decode cX0_putFlag 38 = .ok (.iload_n 2, 1) := by decide +kernel
theorem dX0_putFlag_39 : decode cX0_putFlag 39 = .ok (.invokevirtual 88, 3) := by decide +kernel
theorem dX0_putFlag_42 : decode cX0_putFlag 42 = .ok (.return_, 1) := by decide +kernel
set_option maxRecDepth 20000 in
theorem ggX0_tell_X0_channelAt : GoodIn wsX0_tell wsX0_channelAt := goodIn_r _ [6, 7, 13, 14, 15, 16, 17, 18, 19] (by decide +kernel) (by decide +kernel)
set_option maxRecDepth 20000 in
theorem gX0_tell_X0_channelAt : GoodIn wsX0_tell (wsV RX0 47 RX0 yX0_channelAt wsX0_channelAt) := goodIn_app (goodIn_of _ (by decide +kernel)) ggX0_tell_X0_channelAt
set_option maxRecDepth 20000 in
theorem ggX0_tell_X0_deviceAt : GoodIn wsX0_tell wsX0_deviceAt := goodIn_r _ [11, 12, 13, 14, 15, 16, 17, 18, 19] (by decide +kernel) (by decide +kernel)
set_option maxRecDepth 20000 in
theorem gX0_tell_X0_deviceAt : GoodIn wsX0_tell (wsV RX0 40 RX0 yX0_deviceAt wsX0_deviceAt) := goodIn_app (goodIn_of _ (by decide +kernel)) ggX0_tell_X0_deviceAt
theorem dX0_tell_0 : decode cX0_tell 0 = .ok (.iload_n 1, 1) := by decide +kernel
theorem dX0_tell_1 : decode cX0_tell 1 = .ok (.iconst 1, 1) := by decide +kernel
theorem dX0_tell_2 : decode cX0_tell 2 = .ok (.if_icmp .ne 8, 3) := by decide +kernel
theorem dX0_tell_5 : decode cX0_tell 5 = .ok (.aload_n 0, 1) := by decide +kernel
theorem dX0_tell_6 : decode cX0_tell 6 = .ok (.getfield 92, 3) := by decide +kernel
theorem dX0_tell_9 : decode cX0_tell 9 = .ok (.ireturn, 1) := by decide +kernel
theorem dX0_tell_10 : decode cX0_tell 10 = .ok (.aload_n 0, 1) := by decide +kernel
theorem dX0_tell_11 : decode cX0_tell 11 = .ok (.iload_n 1, 1) := by decide +kernel
theorem dX0_tell_12 : decode cX0_tell 12 = .ok (.iconst 2, 1) := by decide +kernel
theorem dX0_tell_13 : decode cX0_tell 13 = .ok (.isub, 1) := by decide +kernel
theorem dX0_tell_14 : decode cX0_tell 14 = .ok (.invokevirtual 47, 3) := by decide +kernel
theorem dX0_tell_17 : decode cX0_tell 17 = .ok (.astore_n 2, 1) := by decide +kernel
theorem dX0_tell_18 : decode cX0_tell 18 = .ok (.aload_n 2, 1) := by decide +kernel
theorem dX0_tell_19 : decode cX0_tell 19 = .ok (.ifnull 8, 3) := by decide +kernel
theorem dX0_tell_22 : decode cX0_tell 22 = .ok (.aload_n 2, 1) := by decide +kernel
theorem dX0_tell_23 : decode cX0_tell 23 = .ok (.getfield 95, 3) := by decide +kernel
theorem dX0_tell_26 : decode cX0_tell 26 = .ok (.ireturn, 1) := by decide +kernel
theorem dX0_tell_27 : decode cX0_tell 27 = .ok (.aload_n 0, 1) := by decide +kernel
theorem dX0_tell_28 : decode cX0_tell 28 = .ok (.iload_n 1, 1) := by decide +kernel
theorem dX0_tell_29 : decode cX0_tell 29 = .ok (.bipush 8, 2) := by decide +kernel
theorem dX0_tell_31 : decode cX0_tell 31 = .ok (.isub, 1) := by decide +kernel
theorem dX0_tell_32 : decode cX0_tell 32 = .ok (.invokevirtual 40, 3) := by decide +kernel
theorem dX0_tell_35 : decode cX0_tell 35 = .ok (.astore_n 3, 1) := by decide +kernel
theorem dX0_tell_36 : decode cX0_tell 36 = .ok (.aload_n 3, 1) := by decide +kernel
theorem dX0_tell_37 : decode cX0_tell 37 = .ok (.ifnonnull 7, 3) := by decide +kernel
theorem dX0_tell_40 : decode cX0_tell 40 = .ok (.iconst 0, 1) := by decide +kernel
theorem dX0_tell_41 : decode cX0_tell 41 = .ok (.goto 7, 3) := by decide +kernel
theorem dX0_tell_44 : decode cX0_tell 44 = .ok (.aload_n 3, 1) := by decide +kernel
theorem dX0_tell_45 : decode cX0_tell 45 = .ok (.getfield 98, 3) := by decide +kernel
theorem dX0_tell_48 : decode cX0_tell 48 = .ok (.ireturn, 1) := by decide +kernel
set_option maxRecDepth 20000 in
theorem ggX0_take_X0_channelAt : GoodIn wsX0_take wsX0_channelAt := goodIn_r _ [6, 7, 23, 24, 25, 26, 27, 28, 29] (by decide +kernel) (by decide +kernel)
set_option maxRecDepth 20000 in
theorem gX0_take_X0_channelAt : GoodIn wsX0_take (wsV RX0 47 RX0 yX0_channelAt wsX0_channelAt) := goodIn_app (goodIn_of _ (by decide +kernel)) ggX0_take_X0_channelAt
set_option maxRecDepth 20000 in
theorem ggX0_take_X1_takeRegister : GoodIn wsX0_take wsX1_takeRegister := goodIn_r _ [12, 13, 14, 15, 16, 17, 30, 31, 32, 33, 34, 35, 36, 37] (by decide +kernel) (by decide +kernel)
set_option maxRecDepth 20000 in
theorem gX0_take_X1_takeRegister : GoodIn wsX0_take (wsV RX0 104 RX1 yX1_takeRegister wsX1_takeRegister) := goodIn_app (goodIn_of _ (by decide +kernel)) ggX0_take_X1_takeRegister
set_option maxRecDepth 20000 in
theorem ggX0_take_X0_deviceAt : GoodIn wsX0_take wsX0_deviceAt := goodIn_r _ [21, 22, 23, 24, 25, 26, 27, 28, 29] (by decide +kernel) (by decide +kernel)
set_option maxRecDepth 20000 in
theorem gX0_take_X0_deviceAt : GoodIn wsX0_take (wsV RX0 40 RX0 yX0_deviceAt wsX0_deviceAt) := goodIn_app (goodIn_of _ (by decide +kernel)) ggX0_take_X0_deviceAt
theorem dX0_take_0 : decode cX0_take 0 = .ok (.iload_n 1, 1) := by decide +kernel
theorem dX0_take_1 : decode cX0_take 1 = .ok (.iconst 1, 1) := by decide +kernel
theorem dX0_take_2 : decode cX0_take 2 = .ok (.if_icmp .ne 9, 3) := by decide +kernel
theorem dX0_take_5 : decode cX0_take 5 = .ok (.aload_n 0, 1) := by decide +kernel
theorem dX0_take_6 : decode cX0_take 6 = .ok (.iload_n 2, 1) := by decide +kernel
theorem dX0_take_7 : decode cX0_take 7 = .ok (.putfield 101, 3) := by decide +kernel
theorem dX0_take_10 : decode cX0_take 10 = .ok (.return_, 1) := by decide +kernel
theorem dX0_take_11 : decode cX0_take 11 = .ok (.aload_n 0, 1) := by decide +kernel
theorem dX0_take_12 : decode cX0_take 12 = .ok (.iload_n 1, 1) := by decide +kernel
theorem dX0_take_13 : decode cX0_take 13 = .ok (.iconst 2, 1) := by decide +kernel
theorem dX0_take_14 : decode cX0_take 14 = .ok (.isub, 1) := by decide +kernel
theorem dX0_take_15 : decode cX0_take 15 = .ok (.invokevirtual 47, 3) := by decide +kernel
theorem dX0_take_18 : decode cX0_take 18 = .ok (.astore_n 3, 1) := by decide +kernel
theorem dX0_take_19 : decode cX0_take 19 = .ok (.aload_n 3, 1) := by decide +kernel
theorem dX0_take_20 : decode cX0_take 20 = .ok (.ifnull 9, 3) := by decide +kernel
theorem dX0_take_23 : decode cX0_take 23 = .ok (.aload_n 3, 1) := by decide +kernel
theorem dX0_take_24 : decode cX0_take 24 = .ok (.iload_n 2, 1) := by decide +kernel
theorem dX0_take_25 : decode cX0_take 25 = .ok (.invokevirtual 104, 3) := by decide +kernel
theorem dX0_take_28 : decode cX0_take 28 = .ok (.return_, 1) := by decide +kernel
theorem dX0_take_29 : decode cX0_take 29 = .ok (.aload_n 0, 1) := by decide +kernel
theorem dX0_take_30 : decode cX0_take 30 = .ok (.iload_n 1, 1) := by decide +kernel
theorem dX0_take_31 : decode cX0_take 31 = .ok (.bipush 6, 2) := by decide +kernel
theorem dX0_take_33 : decode cX0_take 33 = .ok (.isub, 1) := by decide +kernel
theorem dX0_take_34 : decode cX0_take 34 = .ok (.invokevirtual 47, 3) := by decide +kernel
theorem dX0_take_37 : decode cX0_take 37 = .ok (.astore 4, 2) := by decide +kernel
theorem dX0_take_39 : decode cX0_take 39 = .ok (.aload 4, 2) := by decide +kernel
theorem dX0_take_41 : decode cX0_take 41 = .ok (.ifnull 10, 3) := by decide +kernel
theorem dX0_take_44 : decode cX0_take 44 = .ok (.aload 4, 2) := by decide +kernel
theorem dX0_take_46 : decode cX0_take 46 = .ok (.iload_n 2, 1) := by decide +kernel
theorem dX0_take_47 : decode cX0_take 47 = .ok (.putfield 55, 3) := by decide +kernel
theorem dX0_take_50 : decode cX0_take 50 = .ok (.return_, 1) := by decide +kernel
theorem dX0_take_51 : decode cX0_take 51 = .ok (.aload_n 0, 1) := by decide +kernel
theorem dX0_take_52 : decode cX0_take 52 = .ok (.iload_n 1, 1) := by decide +kernel
theorem dX0_take_53 : decode cX0_take 53 = .ok (.bipush 8, 2) := by decide +kernel
theorem dX0_take_55 : decode cX0_take 55 = .ok (.isub, 1) := by decide +kernel
theorem dX0_take_56 : decode cX0_take 56 = .ok (.invokevirtual 40, 3) := by decide +kernel
theorem dX0_take_59 : decode cX0_take 59 = .ok (.astore 5, 2) := by decide +kernel
theorem dX0_take_61 : decode cX0_take 61 = .ok (.aload 5, 2) := by decide +kernel
theorem dX0_take_63 : decode cX0_take 63 = .ok (.ifnull 9, 3) := by decide +kernel
theorem dX0_take_66 : decode cX0_take 66 = .ok (.aload 5, 2) := by decide +kernel
theorem dX0_take_68 : decode cX0_take 68 = .ok (.iload_n 2, 1) := by decide +kernel
theorem dX0_take_69 : decode cX0_take 69 = .ok (.putfield 98, 3) := by decide +kernel
theorem dX0_take_72 : decode cX0_take 72 = .ok (.return_, 1) := by decide +kernel
set_option maxRecDepth 20000 in
theorem ggX0_putControl_X0_resetAllControls : GoodIn wsX0_putControl wsX0_resetAllControls := goodIn_r _ [5, 6, 7, 8, 4, 9, 10, 11, 12, 13, 14, 15, 40, 41, 42, 32, 33, 34, 35, 36, 37, 38, 39, 43, 44, 45, 46, 47, 48, 49] (by decide +kernel) (by decide +kernel)
set_option maxRecDepth 20000 in
theorem gX0_putControl_X0_resetAllControls : GoodIn wsX0_putControl (wsV RX0 108 RX0 yX0_resetAllControls wsX0_resetAllControls) := goodIn_app (goodIn_of _ (by decide +kernel)) ggX0_putControl_X0_resetAllControls
set_option maxRecDepth 20000 in
theorem ggX0_putControl_X0_channelAt : GoodIn wsX0_putControl wsX0_channelAt := goodIn_r _ [14, 15, 43, 44, 45, 46, 47, 48, 49] (by decide +kernel) (by decide +kernel)
set_option maxRecDepth 20000 in
theorem gX0_putControl_X0_channelAt : GoodIn wsX0_putControl (wsV RX0 47 RX0 yX0_channelAt wsX0_channelAt) := goodIn_app (goodIn_of _ (by decide +kernel)) ggX0_putControl_X0_channelAt
set_option maxRecDepth 20000 in
theorem ggX0_putControl_X0_putLineControl : GoodIn wsX0_putControl wsX0_putLineControl := goodIn_r _ [19, 6, 7, 8, 4, 9, 10, 11, 12, 13, 14, 15, 20, 21, 22, 23, 24, 25, 26, 27, 28, 29, 30, 31, 40, 41, 42, 32, 33, 34, 35, 36, 37, 38, 39, 43, 44, 45, 46, 47, 48, 49, 50, 51, 52, 53, 54, 55, 56, 57, 58, 59] (by decide +kernel) (by decide +kernel)
set_option maxRecDepth 20000 in
theorem gX0_putControl_X0_putLineControl : GoodIn wsX0_putControl (wsV RX0 114 RX0 yX0_putLineControl wsX0_putLineControl) := goodIn_app (goodIn_of _ (by decide +kernel)) ggX0_putControl_X0_putLineControl
theorem dX0_putControl_0 : decode cX0_putControl 0 = .ok (.iload_n 1, 1) := by decide +kernel
theorem dX0_putControl_1 : decode cX0_putControl 1 = .ok (.ifCond .ne 12, 3) := by decide +kernel
theorem dX0_putControl_4 : decode cX0_putControl 4 = .ok (.iload_n 2, 1) := by decide +kernel
theorem dX0_putControl_5 : decode cX0_putControl 5 = .ok (.ifCond .ne 8, 3) := by decide +kernel
theorem dX0_putControl_8 : decode cX0_putControl 8 = .ok (.aload_n 0, 1) := by decide +kernel
theorem dX0_putControl_9 : decode cX0_putControl 9 = .ok (.invokevirtual 108, 3) := by decide +kernel
theorem dX0_putControl_12 : decode cX0_putControl 12 = .ok (.return_, 1) := by decide +kernel
theorem dX0_putControl_13 : decode cX0_putControl 13 = .ok (.aload_n 0, 1) := by decide +kernel
theorem dX0_putControl_14 : decode cX0_putControl 14 = .ok (.iload_n 1, 1) := by decide +kernel
theorem dX0_putControl_15 : decode cX0_putControl 15 = .ok (.iconst 2, 1) := by decide +kernel
theorem dX0_putControl_16 : decode cX0_putControl 16 = .ok (.isub, 1) := by decide +kernel
theorem dX0_putControl_17 : decode cX0_putControl 17 = .ok (.invokevirtual 47, 3) := by decide +kernel
theorem dX0_putControl_20 : decode cX0_putControl 20 = .ok (.astore_n 3, 1) := by decide +kernel
theorem dX0_putControl_21 : decode cX0_putControl 21 = .ok (.aload_n 3, 1) := by decide +kernel
theorem dX0_putControl_22 : decode cX0_putControl 22 = .ok (.ifnull 9, 3) := by decide +kernel
theorem dX0_putControl_25 : decode cX0_putControl 25 = .ok (.aload_n 3, 1) := by decide +kernel
theorem dX0_putControl_26 : decode cX0_putControl 26 = .ok (.iload_n 2, 1) := by decide +kernel
theorem dX0_putControl_27 : decode cX0_putControl 27 = .ok (.putfield 111, 3) := by decide +kernel
theorem dX0_putControl_30 : decode cX0_putControl 30 = .ok (.return_, 1) := by decide +kernel
theorem dX0_putControl_31 : decode cX0_putControl 31 = .ok (.aload_n 0, 1) := by decide +kernel
theorem dX0_putControl_32 : decode cX0_putControl 32 = .ok (.iload_n 1, 1) := by decide +kernel
theorem dX0_putControl_33 : decode cX0_putControl 33 = .ok (.iload_n 2, 1) := by decide +kernel
theorem dX0_putControl_34 : decode cX0_putControl 34 = .ok (.invokevirtual 114, 3) := by decide +kernel
theorem dX0_putControl_37 : decode cX0_putControl 37 = .ok (.return_, 1) := by decide +kernel
set_option maxRecDepth 20000 in
theorem ggX0_putLineControl_X0_lineOf : GoodIn wsX0_putLineControl wsX0_lineOf := goodIn_r _ [5, 6, 35, 36, 37, 38, 39, 40, 41] (by decide +kernel) (by decide +kernel)
set_option maxRecDepth 20000 in
theorem gX0_putLineControl_X0_lineOf : GoodIn wsX0_putLineControl (wsV RX0 66 RX0 yX0_lineOf wsX0_lineOf) := goodIn_app (goodIn_of _ (by decide +kernel)) ggX0_putLineControl_X0_lineOf
set_option maxRecDepth 20000 in
theorem ggX0_putLineControl_X0_channelAt : GoodIn wsX0_putLineControl wsX0_channelAt := goodIn_r _ [10, 11, 35, 36, 37, 38, 39, 40, 41] (by decide +kernel) (by decide +kernel)
set_option maxRecDepth 20000 in
theorem gX0_putLineControl_X0_channelAt : GoodIn wsX0_putLineControl (wsV RX0 47 RX0 yX0_channelAt wsX0_channelAt) := goodIn_app (goodIn_of _ (by decide +kernel)) ggX0_putLineControl_X0_channelAt
set_option maxRecDepth 20000 in
theorem ggX0_putLineControl_X0_deviceAt : GoodIn wsX0_putLineControl wsX0_deviceAt := goodIn_r _ [15, 16, 35, 36, 37, 38, 39, 40, 41] (by decide +kernel) (by decide +kernel)
set_option maxRecDepth 20000 in
theorem gX0_putLineControl_X0_deviceAt : GoodIn wsX0_putLineControl (wsV RX0 40 RX0 yX0_deviceAt wsX0_deviceAt) := goodIn_app (goodIn_of _ (by decide +kernel)) ggX0_putLineControl_X0_deviceAt
set_option maxRecDepth 20000 in
theorem ggX0_putLineControl_X2_start : GoodIn wsX0_putLineControl wsX2_start := goodIn_r _ [21, 22, 23, 42, 43, 44, 45, 46, 47, 48, 49, 50, 51] (by decide +kernel) (by decide +kernel)
set_option maxRecDepth 20000 in
theorem gX0_putLineControl_X2_start : GoodIn wsX0_putLineControl (wsV RX0 118 RX2 yX2_start wsX2_start) := goodIn_app (goodIn_of _ (by decide +kernel)) ggX0_putLineControl_X2_start
theorem dX0_putLineControl_0 : decode cX0_putLineControl 0 = .ok (.aload_n 0, 1) := by decide +kernel
theorem dX0_putLineControl_1 : decode cX0_putLineControl 1 = .ok (.iload_n 1, 1) := by decide +kernel
theorem dX0_putLineControl_2 : decode cX0_putLineControl 2 = .ok (.invokevirtual 66, 3) := by decide +kernel
theorem dX0_putLineControl_5 : decode cX0_putLineControl 5 = .ok (.astore_n 3, 1) := by decide +kernel
theorem dX0_putLineControl_6 : decode cX0_putLineControl 6 = .ok (.aload_n 3, 1) := by decide +kernel
theorem dX0_putLineControl_7 : decode cX0_putLineControl 7 = .ok (.ifnonnull 4, 3) := by decide +kernel
theorem dX0_putLineControl_10 : decode cX0_putLineControl 10 = .ok (.return_, 1) := by decide +kernel
theorem dX0_putLineControl_11 : decode cX0_putLineControl 11 = .ok (.aload_n 3, 1) := by decide +kernel
theorem dX0_putLineControl_12 : decode cX0_putLineControl 12 = .ok (.iload_n 2, 1) := by decide +kernel
theorem dX0_putLineControl_13 : decode cX0_putLineControl 13 = .ok (.putfield 70, 3) := by decide +kernel
theorem dX0_putLineControl_16 : decode cX0_putLineControl 16 = .ok (.aload_n 0, 1) := by decide +kernel
theorem dX0_putLineControl_17 : decode cX0_putLineControl 17 = .ok (.iload_n 1, 1) := by decide +kernel
theorem dX0_putLineControl_18 : decode cX0_putLineControl 18 = .ok (.bipush 6, 2) := by decide +kernel
theorem dX0_putLineControl_20 : decode cX0_putLineControl 20 = .ok (.isub, 1) := by decide +kernel
theorem dX0_putLineControl_21 : decode cX0_putLineControl 21 = .ok (.invokevirtual 47, 3) := by decide +kernel
theorem dX0_putLineControl_24 : decode cX0_putLineControl 24 = .ok (.astore 4, 2) := by decide +kernel
theorem dX0_putLineControl_26 : decode cX0_putLineControl 26 = .ok (.aload 4, 2) := by decide +kernel
theorem dX0_putLineControl_28 : decode cX0_putLineControl 28 = .ok (.ifnull 9, 3) := by decide +kernel
theorem dX0_putLineControl_31 : decode cX0_putLineControl 31 = .ok (.aload 4, 2) := by decide +kernel
theorem dX0_putLineControl_33 : decode cX0_putLineControl 33 = .ok (.iload_n 2, 1) := by decide +kernel
theorem dX0_putLineControl_34 : decode cX0_putLineControl 34 = .ok (.putfield 51, 3) := by decide +kernel
theorem dX0_putLineControl_37 : decode cX0_putLineControl 37 = .ok (.aload_n 0, 1) := by decide +kernel
theorem dX0_putLineControl_38 : decode cX0_putLineControl 38 = .ok (.iload_n 1, 1) := by decide +kernel
theorem dX0_putLineControl_39 : decode cX0_putLineControl 39 = .ok (.bipush 8, 2) := by decide +kernel
theorem dX0_putLineControl_41 : decode cX0_putLineControl 41 = .ok (.isub, 1) := by decide +kernel
theorem dX0_putLineControl_42 : decode cX0_putLineControl 42 = .ok (.invokevirtual 40, 3) := by decide +kernel
theorem dX0_putLineControl_45 : decode cX0_putLineControl 45 = .ok (.astore 5, 2) := by decide +kernel
theorem dX0_putLineControl_47 : decode cX0_putLineControl 47 = .ok (.aload 5, 2) := by decide +kernel
theorem dX0_putLineControl_49 : decode cX0_putLineControl 49 = .ok (.ifnull 12, 3) := by decide +kernel
theorem dX0_putLineControl_52 : decode cX0_putLineControl 52 = .ok (.iload_n 2, 1) := by decide +kernel
theorem dX0_putLineControl_53 : decode cX0_putLineControl 53 = .ok (.ifCond .eq 8, 3) := by decide +kernel
theorem dX0_putLineControl_56 : decode cX0_putLineControl 56 = .ok (.aload 5, 2) := by decide +kernel
theorem dX0_putLineControl_58 : decode cX0_putLineControl 58 = .ok (.invokevirtual 118, 3) := by decide +kernel
theorem dX0_putLineControl_61 : decode cX0_putLineControl 61 = .ok (.return_, 1) := by decide +kernel
set_option maxRecDepth 20000 in
theorem ggX0_resetAllControls_X0_lineOf : GoodIn wsX0_resetAllControls wsX0_lineOf := goodIn_r _ [5, 6, 23, 24, 25, 26, 27, 28, 29] (by decide +kernel) (by decide +kernel)
set_option maxRecDepth 20000 in
theorem gX0_resetAllControls_X0_lineOf : GoodIn wsX0_resetAllControls (wsV RX0 66 RX0 yX0_lineOf wsX0_lineOf) := goodIn_app (goodIn_of _ (by decide +kernel)) ggX0_resetAllControls_X0_lineOf
set_option maxRecDepth 20000 in
theorem ggX0_resetAllControls_X0_channelAt : GoodIn wsX0_resetAllControls wsX0_channelAt := goodIn_r _ [10, 11, 23, 24, 25, 26, 27, 28, 29] (by decide +kernel) (by decide +kernel)
set_option maxRecDepth 20000 in
theorem gX0_resetAllControls_X0_channelAt : GoodIn wsX0_resetAllControls (wsV RX0 47 RX0 yX0_channelAt wsX0_channelAt) := goodIn_app (goodIn_of _ (by decide +kernel)) ggX0_resetAllControls_X0_channelAt
theorem dX0_resetAllControls_0 : decode cX0_resetAllControls 0 = .ok (.bipush 6, 2) := by decide +kernel
theorem dX0_resetAllControls_2 : decode cX0_resetAllControls 2 = .ok (.istore_n 1, 1) := by decide +kernel
theorem dX0_resetAllControls_3 : decode cX0_resetAllControls 3 = .ok (.iload_n 1, 1) := by decide +kernel
theorem dX0_resetAllControls_4 : decode cX0_resetAllControls 4 = .ok (.bipush 11, 2) := by decide +kernel
theorem dX0_resetAllControls_6 : decode cX0_resetAllControls 6 = .ok (.if_icmp .gt 24, 3) := by decide +kernel
theorem dX0_resetAllControls_9 : decode cX0_resetAllControls 9 = .ok (.aload_n 0, 1) := by decide +kernel
theorem dX0_resetAllControls_10 : decode cX0_resetAllControls 10 = .ok (.iload_n 1, 1) := by decide +kernel
theorem dX0_resetAllControls_11 : decode cX0_resetAllControls 11 = .ok (.invokevirtual 66, 3) := by decide +kernel
theorem dX0_resetAllControls_14 : decode cX0_resetAllControls 14 = .ok (.astore_n 2, 1) := by decide +kernel
theorem dX0_resetAllControls_15 : decode cX0_resetAllControls 15 = .ok (.aload_n 2, 1) := by decide +kernel
theorem dX0_resetAllControls_16 : decode cX0_resetAllControls 16 = .ok (.ifnull 8, 3) := by decide +kernel
theorem dX0_resetAllControls_19 : decode cX0_resetAllControls 19 = .ok (.aload_n 2, 1) := by decide +kernel
theorem dX0_resetAllControls_20 : decode cX0_resetAllControls 20 = .ok (.iconst 0, 1) := by decide +kernel
theorem dX0_resetAllControls_21 : decode cX0_resetAllControls 21 = .ok (.putfield 70, 3) := by decide +kernel
theorem dX0_resetAllControls_24 : decode cX0_resetAllControls 24 = .ok (.iinc 1 1, 3) := by decide +kernel
theorem dX0_resetAllControls_27 : decode cX0_resetAllControls 27 = .ok (.goto (-24), 3) := by decide +kernel
theorem dX0_resetAllControls_30 : decode cX0_resetAllControls 30 = .ok (.iconst 0, 1) := by decide +kernel
theorem dX0_resetAllControls_31 : decode cX0_resetAllControls 31 = .ok (.istore_n 1, 1) := by decide +kernel
theorem dX0_resetAllControls_32 : decode cX0_resetAllControls 32 = .ok (.iload_n 1, 1) := by decide +kernel
theorem dX0_resetAllControls_33 : decode cX0_resetAllControls 33 = .ok (.iconst 2, 1) := by decide +kernel
theorem dX0_resetAllControls_34 : decode cX0_resetAllControls 34 = .ok (.if_icmp .ge 24, 3) := by decide +kernel
theorem dX0_resetAllControls_37 : decode cX0_resetAllControls 37 = .ok (.aload_n 0, 1) := by decide +kernel
theorem dX0_resetAllControls_38 : decode cX0_resetAllControls 38 = .ok (.iload_n 1, 1) := by decide +kernel
theorem dX0_resetAllControls_39 : decode cX0_resetAllControls 39 = .ok (.invokevirtual 47, 3) := by decide +kernel
theorem dX0_resetAllControls_42 : decode cX0_resetAllControls 42 = .ok (.astore_n 2, 1) := by decide +kernel
theorem dX0_resetAllControls_43 : decode cX0_resetAllControls 43 = .ok (.aload_n 2, 1) := by decide +kernel
theorem dX0_resetAllControls_44 : decode cX0_resetAllControls 44 = .ok (.ifnull 8, 3) := by decide +kernel
theorem dX0_resetAllControls_47 : decode cX0_resetAllControls 47 = .ok (.aload_n 2, 1) := by decide +kernel
theorem dX0_resetAllControls_48 : decode cX0_resetAllControls 48 = .ok (.iconst 0, 1) := by decide +kernel
theorem dX0_resetAllControls_49 : decode cX0_resetAllControls 49 = .ok (.putfield 51, 3) := by decide +kernel
theorem dX0_resetAllControls_52 : decode cX0_resetAllControls 52 = .ok (.iinc 1 1, 3) := by decide +kernel
theorem dX0_resetAllControls_55 : decode cX0_resetAllControls 55 = .ok (.goto (-23), 3) := by decide +kernel
theorem dX0_resetAllControls_58 : decode cX0_resetAllControls 58 = .ok (.return_, 1) := by decide +kernel
set_option maxRecDepth 20000 in
theorem ggX1_init_X3_init : GoodIn wsX1_init wsX3_init := goodIn_r _ [9, 10, 2, 3] (by decide +kernel) (by decide +kernel)
set_option maxRecDepth 20000 in
theorem gX1_init_X3_init_n11 : GoodIn wsX1_init (wsX3_init) := ggX1_init_X3_init
theorem dX1_init_0 : decode cX1_init 0 = .ok (.aload_n 0, 1) := by decide +kernel
theorem dX1_init_1 : decode cX1_init 1 = .ok (.invokespecial 3, 3) := by decide +kernel
theorem dX1_init_4 : decode cX1_init 4 = .ok (.aload_n 0, 1) := by decide +kernel
theorem dX1_init_5 : decode cX1_init 5 = .ok (.new 9, 3) := by decide +kernel
theorem dX1_init_8 : decode cX1_init 8 = .ok (.dup, 1) := by decide +kernel
theorem dX1_init_9 : decode cX1_init 9 = .ok (.invokespecial 11, 3) := by decide +kernel
theorem dX1_init_12 : decode cX1_init 12 = .ok (.putfield 12, 3) := by decide +kernel
theorem dX1_init_15 : decode cX1_init 15 = .ok (.return_, 1) := by decide +kernel
set_option maxRecDepth 20000 in
theorem ggX1_move_X4_write : GoodIn wsX1_move wsX4_write := goodIn_r _ [12, 13, 14, 61] (by decide +kernel) (by decide +kernel)
set_option maxRecDepth 20000 in
theorem gX1_move_X4_write : GoodIn wsX1_move (wsV RX1 31 RX4 yX4_write wsX4_write) := goodIn_app (goodIn_of _ (by decide +kernel)) ggX1_move_X4_write
set_option maxRecDepth 20000 in
theorem ggX1_move_X4_read : GoodIn wsX1_move wsX4_read := goodIn_r _ [18, 13, 61] (by decide +kernel) (by decide +kernel)
set_option maxRecDepth 20000 in
theorem gX1_move_X4_read : GoodIn wsX1_move (wsV RX1 37 RX4 yX4_read wsX4_read) := goodIn_app (goodIn_of _ (by decide +kernel)) ggX1_move_X4_read
set_option maxRecDepth 20000 in
theorem ggX1_move_X3_putFlag : GoodIn wsX1_move wsX3_putFlag := goodIn_r _ [23, 24, 25, 58, 59, 60] (by decide +kernel) (by decide +kernel)
set_option maxRecDepth 20000 in
theorem gX1_move_X3_putFlag : GoodIn wsX1_move (wsV RX1 42 RX3 yX3_putFlag wsX3_putFlag) := goodIn_app (goodIn_of _ (by decide +kernel)) ggX1_move_X3_putFlag
set_option maxRecDepth 20000 in
theorem ggX1_move_X1_finish : GoodIn wsX1_move wsX1_finish := goodIn_r _ [30, 31, 32, 6, 19, 20, 21, 22, 23, 24, 25, 40, 41, 42, 43, 44, 45, 46, 47, 48, 49, 50, 51, 52, 53, 54, 55, 56, 57, 58, 59, 60] (by decide +kernel) (by decide +kernel)
set_option maxRecDepth 20000 in
theorem gX1_move_X1_finish : GoodIn wsX1_move (wsV RX1 53 RX1 yX1_finish wsX1_finish) := goodIn_app (goodIn_of _ (by decide +kernel)) ggX1_move_X1_finish
set_option maxRecDepth 20000 in
theorem ggX1_move_X2_start : GoodIn wsX1_move wsX2_start := goodIn_r _ [37, 38, 39, 48, 49, 50, 51, 52, 53, 54, 55, 56, 57] (by decide +kernel) (by decide +kernel)
set_option maxRecDepth 20000 in
theorem gX1_move_X2_start : GoodIn wsX1_move (wsV RX1 64 RX2 yX2_start wsX2_start) := goodIn_app (goodIn_of _ (by decide +kernel)) ggX1_move_X2_start
theorem dX1_move_0 : decode cX1_move 0 = .ok (.aload_n 0, 1) := by decide +kernel
theorem dX1_move_1 : decode cX1_move 1 = .ok (.getfield 18, 3) := by decide +kernel
theorem dX1_move_4 : decode cX1_move 4 = .ok (.ifCond .eq 18, 3) := by decide +kernel
theorem dX1_move_7 : decode cX1_move 7 = .ok (.aload_n 2, 1) := by decide +kernel
theorem dX1_move_8 : decode cX1_move 8 = .ok (.aload_n 0, 1) := by decide +kernel
theorem dX1_move_9 : decode cX1_move 9 = .ok (.getfield 22, 3) := by decide +kernel
theorem dX1_move_12 : decode cX1_move 12 = .ok (.aload_n 1, 1) := by decide +kernel
theorem dX1_move_13 : decode cX1_move 13 = .ok (.getfield 26, 3) := by decide +kernel
theorem dX1_move_16 : decode cX1_move 16 = .ok (.invokevirtual 31, 3) := by decide +kernel
theorem dX1_move_19 : decode cX1_move 19 = .ok (.goto 15, 3) := by decide +kernel
theorem dX1_move_22 : decode cX1_move 22 = .ok (.aload_n 1, 1) := by decide +kernel
theorem dX1_move_23 : decode cX1_move 23 = .ok (.aload_n 2, 1) := by decide +kernel
theorem dX1_move_24 : decode cX1_move 24 = .ok (.aload_n 0, 1) := by decide +kernel
theorem dX1_move_25 : decode cX1_move 25 = .ok (.getfield 22, 3) := by decide +kernel
theorem dX1_move_28 : decode cX1_move 28 = .ok (.invokevirtual 37, 3) := by decide +kernel
theorem dX1_move_31 : decode cX1_move 31 = .ok (.putfield 26, 3) := by decide +kernel
theorem dX1_move_34 : decode cX1_move 34 = .ok (.aload_n 1, 1) := by decide +kernel
theorem dX1_move_35 : decode cX1_move 35 = .ok (.getfield 41, 3) := by decide +kernel
theorem dX1_move_38 : decode cX1_move 38 = .ok (.iconst 0, 1) := by decide +kernel
theorem dX1_move_39 : decode cX1_move 39 = .ok (.invokevirtual 42, 3) := by decide +kernel
theorem dX1_move_42 : decode cX1_move 42 = .ok (.aload_n 0, 1) := by decide +kernel
theorem dX1_move_43 : decode cX1_move 43 = .ok (.aload_n 0, 1) := by decide +kernel
theorem dX1_move_44 : decode cX1_move 44 = .ok (.getfield 22, 3) := by decide +kernel
theorem dX1_move_47 : decode cX1_move 47 = .ok (.iconst 1, 1) := by decide +kernel
theorem dX1_move_48 : decode cX1_move 48 = .ok (.iadd, 1) := by decide +kernel
theorem dX1_move_49 : decode cX1_move 49 = .ok (.sipush 32767, 3) := by decide +kernel
theorem dX1_move_52 : decode cX1_move 52 = .ok (.iand, 1) := by decide +kernel
theorem dX1_move_53 : decode cX1_move 53 = .ok (.putfield 22, 3) := by decide +kernel
theorem dX1_move_56 : decode cX1_move 56 = .ok (.aload_n 0, 1) := by decide +kernel
theorem dX1_move_57 : decode cX1_move 57 = .ok (.aload_n 0, 1) := by decide +kernel
theorem dX1_move_58 : decode cX1_move 58 = .ok (.getfield 46, 3) := by decide +kernel
theorem dX1_move_61 : decode cX1_move 61 = .ok (.iconst 1, 1) := by decide +kernel
theorem dX1_move_62 : decode cX1_move 62 = .ok (.iadd, 1) := by decide +kernel
theorem dX1_move_63 : decode cX1_move 63 = .ok (.ldc 49, 2) := by decide +kernel
theorem dX1_move_65 : decode cX1_move 65 = .ok (.iand, 1) := by decide +kernel
theorem dX1_move_66 : decode cX1_move 66 = .ok (.putfield 46, 3) := by decide +kernel
theorem dX1_move_69 : decode cX1_move 69 = .ok (.aload_n 0, 1) := by decide +kernel
theorem dX1_move_70 : decode cX1_move 70 = .ok (.dup, 1) := by decide +kernel
theorem dX1_move_71 : decode cX1_move 71 = .ok (.getfield 50, 3) := by decide +kernel
theorem dX1_move_74 : decode cX1_move 74 = .ok (.iconst 1, 1) := by decide +kernel
theorem dX1_move_75 : decode cX1_move 75 = .ok (.iadd, 1) := by decide +kernel
theorem dX1_move_76 : decode cX1_move 76 = .ok (.putfield 50, 3) := by decide +kernel
theorem dX1_move_79 : decode cX1_move 79 = .ok (.aload_n 0, 1) := by decide +kernel
theorem dX1_move_80 : decode cX1_move 80 = .ok (.getfield 46, 3) := by decide +kernel
theorem dX1_move_83 : decode cX1_move 83 = .ok (.ifCond .ne 11, 3) := by decide +kernel
theorem dX1_move_86 : decode cX1_move 86 = .ok (.aload_n 0, 1) := by decide +kernel
theorem dX1_move_87 : decode cX1_move 87 = .ok (.aload_n 1, 1) := by decide +kernel
theorem dX1_move_88 : decode cX1_move 88 = .ok (.invokevirtual 53, 3) := by decide +kernel
theorem dX1_move_91 : decode cX1_move 91 = .ok (.goto 25, 3) := by decide +kernel
theorem dX1_move_94 : decode cX1_move 94 = .ok (.aload_n 0, 1) := by decide +kernel
theorem dX1_move_95 : decode cX1_move 95 = .ok (.getfield 57, 3) := by decide +kernel
theorem dX1_move_98 : decode cX1_move 98 = .ok (.ldc 60, 2) := by decide +kernel
theorem dX1_move_100 : decode cX1_move 100 = .ok (.iand, 1) := by decide +kernel
theorem dX1_move_101 : decode cX1_move 101 = .ok (.ifCond .eq 15, 3) := by decide +kernel
theorem dX1_move_104 : decode cX1_move 104 = .ok (.aload_n 1, 1) := by decide +kernel
theorem dX1_move_105 : decode cX1_move 105 = .ok (.getfield 41, 3) := by decide +kernel
theorem dX1_move_108 : decode cX1_move 108 = .ok (.iconst 1, 1) := by decide +kernel
theorem dX1_move_109 : decode cX1_move 109 = .ok (.putfield 61, 3) := by decide +kernel
theorem dX1_move_112 : decode cX1_move 112 = .ok (.aload_n 1, 1) := by decide +kernel
theorem dX1_move_113 : decode cX1_move 113 = .ok (.invokevirtual 64, 3) := by decide +kernel
theorem dX1_move_116 : decode cX1_move 116 = .ok (.return_, 1) := by decide +kernel
set_option maxRecDepth 20000 in
theorem ggX1_finish_X3_putFlag : GoodIn wsX1_finish wsX3_putFlag := goodIn_r _ [8, 9, 10, 29, 30, 31] (by decide +kernel) (by decide +kernel)
set_option maxRecDepth 20000 in
theorem gX1_finish_X3_putFlag : GoodIn wsX1_finish (wsV RX1 42 RX3 yX3_putFlag wsX3_putFlag) := goodIn_app (goodIn_of _ (by decide +kernel)) ggX1_finish_X3_putFlag
theorem dX1_finish_0 : decode cX1_finish 0 = .ok (.aload_n 0, 1) := by decide +kernel
theorem dX1_finish_1 : decode cX1_finish 1 = .ok (.getfield 12, 3) := by decide +kernel
theorem dX1_finish_4 : decode cX1_finish 4 = .ok (.iconst 1, 1) := by decide +kernel
theorem dX1_finish_5 : decode cX1_finish 5 = .ok (.invokevirtual 42, 3) := by decide +kernel
theorem dX1_finish_8 : decode cX1_finish 8 = .ok (.aload_n 0, 1) := by decide +kernel
theorem dX1_finish_9 : decode cX1_finish 9 = .ok (.iconst 0, 1) := by decide +kernel
theorem dX1_finish_10 : decode cX1_finish 10 = .ok (.putfield 67, 3) := by decide +kernel
theorem dX1_finish_13 : decode cX1_finish 13 = .ok (.aload_n 0, 1) := by decide +kernel
theorem dX1_finish_14 : decode cX1_finish 14 = .ok (.getfield 57, 3) := by decide +kernel
theorem dX1_finish_17 : decode cX1_finish 17 = .ok (.sipush 8192, 3) := by decide +kernel
theorem dX1_finish_20 : decode cX1_finish 20 = .ok (.iand, 1) := by decide +kernel
theorem dX1_finish_21 : decode cX1_finish 21 = .ok (.ifCond .eq 11, 3) := by decide +kernel
theorem dX1_finish_24 : decode cX1_finish 24 = .ok (.aload_n 1, 1) := by decide +kernel
theorem dX1_finish_25 : decode cX1_finish 25 = .ok (.getfield 41, 3) := by decide +kernel
theorem dX1_finish_28 : decode cX1_finish 28 = .ok (.iconst 0, 1) := by decide +kernel
theorem dX1_finish_29 : decode cX1_finish 29 = .ok (.putfield 61, 3) := by decide +kernel
theorem dX1_finish_32 : decode cX1_finish 32 = .ok (.return_, 1) := by decide +kernel
theorem dX1_takeRegister_0 : decode cX1_takeRegister 0 = .ok (.aload_n 0, 1) := by decide +kernel
theorem dX1_takeRegister_1 : decode cX1_takeRegister 1 = .ok (.getfield 70, 3) := by decide +kernel
theorem dX1_takeRegister_4 : decode cX1_takeRegister 4 = .ok (.ifCond .eq 11, 3) := by decide +kernel
theorem dX1_takeRegister_7 : decode cX1_takeRegister 7 = .ok (.aload_n 0, 1) := by decide +kernel
theorem dX1_takeRegister_8 : decode cX1_takeRegister 8 = .ok (.iload_n 1, 1) := by decide +kernel
theorem dX1_takeRegister_9 : decode cX1_takeRegister 9 = .ok (.putfield 46, 3) := by decide +kernel
theorem dX1_takeRegister_12 : decode cX1_takeRegister 12 = .ok (.goto 28, 3) := by decide +kernel
theorem dX1_takeRegister_15 : decode cX1_takeRegister 15 = .ok (.aload_n 0, 1) := by decide +kernel
theorem dX1_takeRegister_16 : decode cX1_takeRegister 16 = .ok (.iload_n 1, 1) := by decide +kernel
theorem dX1_takeRegister_17 : decode cX1_takeRegister 17 = .ok (.sipush 32767, 3) := by decide +kernel
theorem dX1_takeRegister_20 : decode cX1_takeRegister 20 = .ok (.iand, 1) := by decide +kernel
theorem dX1_takeRegister_21 : decode cX1_takeRegister 21 = .ok (.putfield 22, 3) := by decide +kernel
theorem dX1_takeRegister_24 : decode cX1_takeRegister 24 = .ok (.aload_n 0, 1) := by decide +kernel
theorem dX1_takeRegister_25 : decode cX1_takeRegister 25 = .ok (.iload_n 1, 1) := by decide +kernel
theorem dX1_takeRegister_26 : decode cX1_takeRegister 26 = .ok (.ldc 60, 2) := by decide +kernel
theorem dX1_takeRegister_28 : decode cX1_takeRegister 28 = .ok (.iand, 1) := by decide +kernel
theorem dX1_takeRegister_29 : decode cX1_takeRegister 29 = .ok (.ifCond .eq 7, 3) := by decide +kernel
theorem dX1_takeRegister_32 : decode cX1_takeRegister 32 = .ok (.iconst 1, 1) := by decide +kernel
theorem dX1_takeRegister_33 : decode cX1_takeRegister 33 = .ok (.goto 4, 3) := by decide +kernel
theorem dX1_takeRegister_36 : decode cX1_takeRegister 36 = .ok (.iconst 0, 1) := by decide +kernel
theorem dX1_takeRegister_37 : decode cX1_takeRegister 37 = .ok (.putfield 18, 3) := by decide +kernel
theorem dX1_takeRegister_40 : decode cX1_takeRegister 40 = .ok (.return_, 1) := by decide +kernel
set_option maxRecDepth 20000 in
theorem ggX1_tellPart_X7_bit : GoodIn wsX1_tellPart wsX7_bit := goodIn_r _ [9] (by decide +kernel) (by decide +kernel)
set_option maxRecDepth 20000 in
theorem gX1_tellPart_X7_bit_n73 : GoodIn wsX1_tellPart (wsX7_bit) := ggX1_tellPart_X7_bit
theorem dX1_tellPart_0 : decode cX1_tellPart 0 = .ok (.iload_n 1, 1) := by decide +kernel
theorem dX1_tellPart_1 : decode cX1_tellPart 1 = .ok (.tableswitch 75 3 8 #[39, 47, 52, 57, 65, 70], 39) := by decide +kernel
theorem dX1_tellPart_40 : decode cX1_tellPart 40 = .ok (.aload_n 0, 1) := by decide +kernel
theorem dX1_tellPart_41 : decode cX1_tellPart 41 = .ok (.getfield 67, 3) := by decide +kernel
theorem dX1_tellPart_44 : decode cX1_tellPart 44 = .ok (.invokestatic 73, 3) := by decide +kernel
theorem dX1_tellPart_47 : decode cX1_tellPart 47 = .ok (.ireturn, 1) := by decide +kernel
theorem dX1_tellPart_48 : decode cX1_tellPart 48 = .ok (.aload_n 0, 1) := by decide +kernel
theorem dX1_tellPart_49 : decode cX1_tellPart 49 = .ok (.getfield 22, 3) := by decide +kernel
theorem dX1_tellPart_52 : decode cX1_tellPart 52 = .ok (.ireturn, 1) := by decide +kernel
theorem dX1_tellPart_53 : decode cX1_tellPart 53 = .ok (.aload_n 0, 1) := by decide +kernel
theorem dX1_tellPart_54 : decode cX1_tellPart 54 = .ok (.getfield 46, 3) := by decide +kernel
theorem dX1_tellPart_57 : decode cX1_tellPart 57 = .ok (.ireturn, 1) := by decide +kernel
theorem dX1_tellPart_58 : decode cX1_tellPart 58 = .ok (.aload_n 0, 1) := by decide +kernel
theorem dX1_tellPart_59 : decode cX1_tellPart 59 = .ok (.getfield 18, 3) := by decide +kernel
theorem dX1_tellPart_62 : decode cX1_tellPart 62 = .ok (.invokestatic 73, 3) := by decide +kernel
theorem dX1_tellPart_65 : decode cX1_tellPart 65 = .ok (.ireturn, 1) := by decide +kernel
theorem dX1_tellPart_66 : decode cX1_tellPart 66 = .ok (.aload_n 0, 1) := by decide +kernel
theorem dX1_tellPart_67 : decode cX1_tellPart 67 = .ok (.getfield 57, 3) := by decide +kernel
theorem dX1_tellPart_70 : decode cX1_tellPart 70 = .ok (.ireturn, 1) := by decide +kernel
theorem dX1_tellPart_71 : decode cX1_tellPart 71 = .ok (.aload_n 0, 1) := by decide +kernel
theorem dX1_tellPart_72 : decode cX1_tellPart 72 = .ok (.getfield 50, 3) := by decide +kernel
theorem dX1_tellPart_75 : decode cX1_tellPart 75 = .ok (.ireturn, 1) := by decide +kernel
theorem dX1_tellPart_76 : decode cX1_tellPart 76 = .ok (.iconst (-1), 1) := by decide +kernel
theorem dX1_tellPart_77 : decode cX1_tellPart 77 = .ok (.ireturn, 1) := by decide +kernel
set_option maxRecDepth 20000 in
theorem ggX2_init_X3_init : GoodIn wsX2_init wsX3_init := goodIn_r _ [14, 15, 2, 3] (by decide +kernel) (by decide +kernel)
set_option maxRecDepth 20000 in
theorem gX2_init_X3_init_n11 : GoodIn wsX2_init (wsX3_init) := ggX2_init_X3_init
theorem dX2_init_0 : decode cX2_init 0 = .ok (.aload_n 0, 1) := by decide +kernel
theorem dX2_init_1 : decode cX2_init 1 = .ok (.invokespecial 3, 3) := by decide +kernel
theorem dX2_init_4 : decode cX2_init 4 = .ok (.aload_n 0, 1) := by decide +kernel
theorem dX2_init_5 : decode cX2_init 5 = .ok (.new 9, 3) := by decide +kernel
theorem dX2_init_8 : decode cX2_init 8 = .ok (.dup, 1) := by decide +kernel
theorem dX2_init_9 : decode cX2_init 9 = .ok (.invokespecial 11, 3) := by decide +kernel
theorem dX2_init_12 : decode cX2_init 12 = .ok (.putfield 12, 3) := by decide +kernel
theorem dX2_init_15 : decode cX2_init 15 = .ok (.aload_n 0, 1) := by decide +kernel
theorem dX2_init_16 : decode cX2_init 16 = .ok (.bipush 100, 2) := by decide +kernel
theorem dX2_init_18 : decode cX2_init 18 = .ok (.newarray .int, 2) := by decide +kernel
theorem dX2_init_20 : decode cX2_init 20 = .ok (.putfield 18, 3) := by decide +kernel
theorem dX2_init_23 : decode cX2_init 23 = .ok (.aload_n 0, 1) := by decide +kernel
theorem dX2_init_24 : decode cX2_init 24 = .ok (.sipush 200, 3) := by decide +kernel
theorem dX2_init_27 : decode cX2_init 27 = .ok (.newarray .int, 2) := by decide +kernel
theorem dX2_init_29 : decode cX2_init 29 = .ok (.putfield 22, 3) := by decide +kernel
theorem dX2_init_32 : decode cX2_init 32 = .ok (.aload_n 0, 1) := by decide +kernel
theorem dX2_init_33 : decode cX2_init 33 = .ok (.iconst 1, 1) := by decide +kernel
theorem dX2_init_34 : decode cX2_init 34 = .ok (.putfield 25, 3) := by decide +kernel
theorem dX2_init_37 : decode cX2_init 37 = .ok (.aload_n 0, 1) := by decide +kernel
theorem dX2_init_38 : decode cX2_init 38 = .ok (.iconst 1, 1) := by decide +kernel
theorem dX2_init_39 : decode cX2_init 39 = .ok (.putfield 29, 3) := by decide +kernel
theorem dX2_init_42 : decode cX2_init 42 = .ok (.return_, 1) := by decide +kernel
theorem dX2_equip_0 : decode cX2_equip 0 = .ok (.aload_n 0, 1) := by decide +kernel
theorem dX2_equip_1 : decode cX2_equip 1 = .ok (.iload_n 1, 1) := by decide +kernel
theorem dX2_equip_2 : decode cX2_equip 2 = .ok (.putfield 25, 3) := by decide +kernel
theorem dX2_equip_5 : decode cX2_equip 5 = .ok (.aload_n 0, 1) := by decide +kernel
theorem dX2_equip_6 : decode cX2_equip 6 = .ok (.iload_n 2, 1) := by decide +kernel
theorem dX2_equip_7 : decode cX2_equip 7 = .ok (.putfield 29, 3) := by decide +kernel
theorem dX2_equip_10 : decode cX2_equip 10 = .ok (.aload_n 0, 1) := by decide +kernel
theorem dX2_equip_11 : decode cX2_equip 11 = .ok (.iconst 0, 1) := by decide +kernel
theorem dX2_equip_12 : decode cX2_equip 12 = .ok (.putfield 33, 3) := by decide +kernel
theorem dX2_equip_15 : decode cX2_equip 15 = .ok (.aload_n 0, 1) := by decide +kernel
theorem dX2_equip_16 : decode cX2_equip 16 = .ok (.iconst 0, 1) := by decide +kernel
theorem dX2_equip_17 : decode cX2_equip 17 = .ok (.putfield 36, 3) := by decide +kernel
theorem dX2_equip_20 : decode cX2_equip 20 = .ok (.return_, 1) := by decide +kernel
theorem dX2_start_0 : decode cX2_start 0 = .ok (.aload_n 0, 1) := by decide +kernel
theorem dX2_start_1 : decode cX2_start 1 = .ok (.aload_n 0, 1) := by decide +kernel
theorem dX2_start_2 : decode cX2_start 2 = .ok (.getfield 29, 3) := by decide +kernel
theorem dX2_start_5 : decode cX2_start 5 = .ok (.putfield 33, 3) := by decide +kernel
theorem dX2_start_8 : decode cX2_start 8 = .ok (.return_, 1) := by decide +kernel
set_option maxRecDepth 20000 in
theorem ggX2_advance_X2_takeFromTape : GoodIn wsX2_advance wsX2_takeFromTape := goodIn_r _ [9, 10, 11, 12, 26, 27, 28, 29, 30, 31, 32, 33, 34, 35] (by decide +kernel) (by decide +kernel)
set_option maxRecDepth 20000 in
theorem gX2_advance_X2_takeFromTape : GoodIn wsX2_advance (wsV RX2 39 RX2 yX2_takeFromTape wsX2_takeFromTape) := goodIn_app (goodIn_of _ (by decide +kernel)) ggX2_advance_X2_takeFromTape
set_option maxRecDepth 20000 in
theorem ggX2_advance_X2_putOut : GoodIn wsX2_advance wsX2_putOut := goodIn_r _ [16, 17, 18, 26, 27, 28, 29, 30, 31, 32, 33, 34, 35] (by decide +kernel) (by decide +kernel)
set_option maxRecDepth 20000 in
theorem gX2_advance_X2_putOut : GoodIn wsX2_advance (wsV RX2 43 RX2 yX2_putOut wsX2_putOut) := goodIn_app (goodIn_of _ (by decide +kernel)) ggX2_advance_X2_putOut
set_option maxRecDepth 20000 in
theorem ggX2_advance_X3_putFlag : GoodIn wsX2_advance wsX3_putFlag := goodIn_r _ [23, 24, 25, 36, 37, 38] (by decide +kernel) (by decide +kernel)
set_option maxRecDepth 20000 in
theorem gX2_advance_X3_putFlag : GoodIn wsX2_advance (wsV RX2 47 RX3 yX3_putFlag wsX3_putFlag) := goodIn_app (goodIn_of _ (by decide +kernel)) ggX2_advance_X3_putFlag
theorem dX2_advance_0 : decode cX2_advance 0 = .ok (.aload_n 0, 1) := by decide +kernel
theorem dX2_advance_1 : decode cX2_advance 1 = .ok (.getfield 33, 3) := by decide +kernel
theorem dX2_advance_4 : decode cX2_advance 4 = .ok (.ifCond .ne 4, 3) := by decide +kernel
theorem dX2_advance_7 : decode cX2_advance 7 = .ok (.return_, 1) := by decide +kernel
theorem dX2_advance_8 : decode cX2_advance 8 = .ok (.aload_n 0, 1) := by decide +kernel
theorem dX2_advance_9 : decode cX2_advance 9 = .ok (.dup, 1) := by decide +kernel
theorem dX2_advance_10 : decode cX2_advance 10 = .ok (.getfield 33, 3) := by decide +kernel
theorem dX2_advance_13 : decode cX2_advance 13 = .ok (.iconst 1, 1) := by decide +kernel
theorem dX2_advance_14 : decode cX2_advance 14 = .ok (.isub, 1) := by decide +kernel
theorem dX2_advance_15 : decode cX2_advance 15 = .ok (.putfield 33, 3) := by decide +kernel
theorem dX2_advance_18 : decode cX2_advance 18 = .ok (.aload_n 0, 1) := by decide +kernel
theorem dX2_advance_19 : decode cX2_advance 19 = .ok (.getfield 33, 3) := by decide +kernel
theorem dX2_advance_22 : decode cX2_advance 22 = .ok (.ifCond .le 4, 3) := by decide +kernel
theorem dX2_advance_25 : decode cX2_advance 25 = .ok (.return_, 1) := by decide +kernel
theorem dX2_advance_26 : decode cX2_advance 26 = .ok (.aload_n 0, 1) := by decide +kernel
theorem dX2_advance_27 : decode cX2_advance 27 = .ok (.getfield 25, 3) := by decide +kernel
theorem dX2_advance_30 : decode cX2_advance 30 = .ok (.ifCond .eq 14, 3) := by decide +kernel
theorem dX2_advance_33 : decode cX2_advance 33 = .ok (.aload_n 0, 1) := by decide +kernel
theorem dX2_advance_34 : decode cX2_advance 34 = .ok (.aload_n 0, 1) := by decide +kernel
theorem dX2_advance_35 : decode cX2_advance 35 = .ok (.invokevirtual 39, 3) := by decide +kernel
theorem dX2_advance_38 : decode cX2_advance 38 = .ok (.putfield 36, 3) := by decide +kernel
theorem dX2_advance_41 : decode cX2_advance 41 = .ok (.goto 11, 3) := by decide +kernel
theorem dX2_advance_44 : decode cX2_advance 44 = .ok (.aload_n 0, 1) := by decide +kernel
theorem dX2_advance_45 : decode cX2_advance 45 = .ok (.aload_n 0, 1) := by decide +kernel
theorem dX2_advance_46 : decode cX2_advance 46 = .ok (.getfield 36, 3) := by decide +kernel
theorem dX2_advance_49 : decode cX2_advance 49 = .ok (.invokevirtual 43, 3) := by decide +kernel
theorem dX2_advance_52 : decode cX2_advance 52 = .ok (.aload_n 0, 1) := by decide +kernel
theorem dX2_advance_53 : decode cX2_advance 53 = .ok (.getfield 12, 3) := by decide +kernel
theorem dX2_advance_56 : decode cX2_advance 56 = .ok (.iconst 1, 1) := by decide +kernel
theorem dX2_advance_57 : decode cX2_advance 57 = .ok (.invokevirtual 47, 3) := by decide +kernel
theorem dX2_advance_60 : decode cX2_advance 60 = .ok (.return_, 1) := by decide +kernel
theorem dX2_putOnTape_0 : decode cX2_putOnTape 0 = .ok (.aload_n 0, 1) := by decide +kernel
theorem dX2_putOnTape_1 : decode cX2_putOnTape 1 = .ok (.getfield 51, 3) := by decide +kernel
theorem dX2_putOnTape_4 : decode cX2_putOnTape 4 = .ok (.aload_n 0, 1) := by decide +kernel
theorem dX2_putOnTape_5 : decode cX2_putOnTape 5 = .ok (.getfield 54, 3) := by decide +kernel
theorem dX2_putOnTape_8 : decode cX2_putOnTape 8 = .ok (.iadd, 1) := by decide +kernel
theorem dX2_putOnTape_9 : decode cX2_putOnTape 9 = .ok (.istore_n 2, 1) := by decide +kernel
theorem dX2_putOnTape_10 : decode cX2_putOnTape 10 = .ok (.iload_n 2, 1) := by decide +kernel
theorem dX2_putOnTape_11 : decode cX2_putOnTape 11 = .ok (.bipush 100, 2) := by decide +kernel
theorem dX2_putOnTape_13 : decode cX2_putOnTape 13 = .ok (.if_icmp .lt 6, 3) := by decide +kernel
theorem dX2_putOnTape_16 : decode cX2_putOnTape 16 = .ok (.iinc 2 (-100), 3) := by decide +kernel
theorem dX2_putOnTape_19 : decode cX2_putOnTape 19 = .ok (.aload_n 0, 1) := by decide +kernel
theorem dX2_putOnTape_20 : decode cX2_putOnTape 20 = .ok (.getfield 54, 3) := by decide +kernel
theorem dX2_putOnTape_23 : decode cX2_putOnTape 23 = .ok (.bipush 100, 2) := by decide +kernel
theorem dX2_putOnTape_25 : decode cX2_putOnTape 25 = .ok (.if_icmp .ge 33, 3) := by decide +kernel
theorem dX2_putOnTape_28 : decode cX2_putOnTape 28 = .ok (.iload_n 2, 1) := by decide +kernel
theorem dX2_putOnTape_29 : decode cX2_putOnTape 29 = .ok (.ifCond .lt 29, 3) := by decide +kernel
theorem dX2_putOnTape_32 : decode cX2_putOnTape 32 = .ok (.iload_n 2, 1) := by decide +kernel
theorem dX2_putOnTape_33 : decode cX2_putOnTape 33 = .ok (.aload_n 0, 1) := by decide +kernel
theorem dX2_putOnTape_34 : decode cX2_putOnTape 34 = .ok (.getfield 18, 3) := by decide +kernel
theorem dX2_putOnTape_37 : decode cX2_putOnTape 37 = .ok (.arraylength, 1) := by decide +kernel
theorem dX2_putOnTape_38 : decode cX2_putOnTape 38 = .ok (.if_icmp .ge 20, 3) := by decide +kernel
theorem dX2_putOnTape_41 : decode cX2_putOnTape 41 = .ok (.aload_n 0, 1) := by decide +kernel
theorem dX2_putOnTape_42 : decode cX2_putOnTape 42 = .ok (.getfield 18, 3) := by decide +kernel
theorem dX2_putOnTape_45 : decode cX2_putOnTape 45 = .ok (.iload_n 2, 1) := by decide +kernel
theorem dX2_putOnTape_46 : decode cX2_putOnTape 46 = .ok (.iload_n 1, 1) := by decide +kernel
theorem dX2_putOnTape_47 : decode cX2_putOnTape 47 = .ok (.iastore, 1) := by decide +kernel
theorem dX2_putOnTape_48 : decode cX2_putOnTape 48 = .ok (.aload_n 0, 1) := by decide +kernel
theorem dX2_putOnTape_49 : decode cX2_putOnTape 49 = .ok (.dup, 1) := by decide +kernel
theorem dX2_putOnTape_50 : decode cX2_putOnTape 50 = .ok (.getfield 54, 3) := by decide +kernel
theorem dX2_putOnTape_53 : decode cX2_putOnTape 53 = .ok (.iconst 1, 1) := by decide +kernel
theorem dX2_putOnTape_54 : decode cX2_putOnTape 54 = .ok (.iadd, 1) := by decide +kernel
theorem dX2_putOnTape_55 : decode cX2_putOnTape 55 = .ok (.putfield 54, 3) := by decide +kernel
theorem dX2_putOnTape_58 : decode cX2_putOnTape 58 = .ok (.return_, 1) := by decide +kernel
theorem dX2_takeFromTape_0 : decode cX2_takeFromTape 0 = .ok (.aload_n 0, 1) := by decide +kernel
theorem dX2_takeFromTape_1 : decode cX2_takeFromTape 1 = .ok (.getfield 54, 3) := by decide +kernel
theorem dX2_takeFromTape_4 : decode cX2_takeFromTape 4 = .ok (.ifCond .eq 22, 3) := by decide +kernel
theorem dX2_takeFromTape_7 : decode cX2_takeFromTape 7 = .ok (.aload_n 0, 1) := by decide +kernel
theorem dX2_takeFromTape_8 : decode cX2_takeFromTape 8 = .ok (.getfield 51, 3) := by decide +kernel
theorem dX2_takeFromTape_11 : decode cX2_takeFromTape 11 = .ok (.ifCond .lt 15, 3) := by decide +kernel
theorem dX2_takeFromTape_14 : decode cX2_takeFromTape 14 = .ok (.aload_n 0, 1) := by decide +kernel
theorem dX2_takeFromTape_15 : decode cX2_takeFromTape 15 = .ok (.getfield 51, 3) := by decide +kernel
theorem dX2_takeFromTape_18 : decode cX2_takeFromTape 18 = .ok (.aload_n 0, 1) := by decide +kernel
theorem dX2_takeFromTape_19 : decode cX2_takeFromTape 19 = .ok (.getfield 18, 3) := by decide +kernel
theorem dX2_takeFromTape_22 : decode cX2_takeFromTape 22 = .ok (.arraylength, 1) := by decide +kernel
theorem dX2_takeFromTape_23 : decode cX2_takeFromTape 23 = .ok (.if_icmp .lt 5, 3) := by decide +kernel
theorem dX2_takeFromTape_26 : decode cX2_takeFromTape 26 = .ok (.iconst 0, 1) := by decide +kernel
theorem dX2_takeFromTape_27 : decode cX2_takeFromTape 27 = .ok (.ireturn, 1) := by decide +kernel
theorem dX2_takeFromTape_28 : decode cX2_takeFromTape 28 = .ok (.aload_n 0, 1) := by decide +kernel
theorem dX2_takeFromTape_29 : decode cX2_takeFromTape 29 = .ok (.getfield 18, 3) := by decide +kernel
theorem dX2_takeFromTape_32 : decode cX2_takeFromTape 32 = .ok (.aload_n 0, 1) := by decide +kernel
theorem dX2_takeFromTape_33 : decode cX2_takeFromTape 33 = .ok (.getfield 51, 3) := by decide +kernel
theorem dX2_takeFromTape_36 : decode cX2_takeFromTape 36 = .ok (.iaload, 1) := by decide +kernel
theorem dX2_takeFromTape_37 : decode cX2_takeFromTape 37 = .ok (.istore_n 1, 1) := by decide +kernel
theorem dX2_takeFromTape_38 : decode cX2_takeFromTape 38 = .ok (.aload_n 0, 1) := by decide +kernel
theorem dX2_takeFromTape_39 : decode cX2_takeFromTape 39 = .ok (.aload_n 0, 1) := by decide +kernel
theorem dX2_takeFromTape_40 : decode cX2_takeFromTape 40 = .ok (.getfield 51, 3) := by decide +kernel
theorem dX2_takeFromTape_43 : decode cX2_takeFromTape 43 = .ok (.iconst 1, 1) := by decide +kernel
theorem dX2_takeFromTape_44 : decode cX2_takeFromTape 44 = .ok (.iadd, 1) := by decide +kernel
theorem dX2_takeFromTape_45 : decode cX2_takeFromTape 45 = .ok (.bipush 100, 2) := by decide +kernel
theorem dX2_takeFromTape_47 : decode cX2_takeFromTape 47 = .ok (.if_icmp .ge 12, 3) := by decide +kernel
theorem dX2_takeFromTape_50 : decode cX2_takeFromTape 50 = .ok (.aload_n 0, 1) := by decide +kernel
theorem dX2_takeFromTape_51 : decode cX2_takeFromTape 51 = .ok (.getfield 51, 3) := by decide +kernel
theorem dX2_takeFromTape_54 : decode cX2_takeFromTape 54 = .ok (.iconst 1, 1) := by decide +kernel
theorem dX2_takeFromTape_55 : decode cX2_takeFromTape 55 = .ok (.iadd, 1) := by decide +kernel
theorem dX2_takeFromTape_56 : decode cX2_takeFromTape 56 = .ok (.goto 4, 3) := by decide +kernel
theorem dX2_takeFromTape_59 : decode cX2_takeFromTape 59 = .ok (.iconst 0, 1) := by decide +kernel
theorem dX2_takeFromTape_60 : decode cX2_takeFromTape 60 = .ok (.putfield 51, 3) := by decide +kernel
theorem dX2_takeFromTape_63 : decode cX2_takeFromTape 63 = .ok (.aload_n 0, 1) := by decide +kernel
theorem dX2_takeFromTape_64 : decode cX2_takeFromTape 64 = .ok (.dup, 1) := by decide +kernel
theorem dX2_takeFromTape_65 : decode cX2_takeFromTape 65 = .ok (.getfield 54, 3) := by decide +kernel
theorem dX2_takeFromTape_68 : decode cX2_takeFromTape 68 = .ok (.iconst 1, 1) := by decide +kernel
theorem dX2_takeFromTape_69 : decode cX2_takeFromTape 69 = .ok (.isub, 1) := by decide +kernel
theorem dX2_takeFromTape_70 : decode cX2_takeFromTape 70 = .ok (.putfield 54, 3) := by decide +kernel
theorem dX2_takeFromTape_73 : decode cX2_takeFromTape 73 = .ok (.iload_n 1, 1) := by decide +kernel
theorem dX2_takeFromTape_74 : decode cX2_takeFromTape 74 = .ok (.ireturn, 1) := by decide +kernel
theorem dX2_putOut_0 : decode cX2_putOut 0 = .ok (.aload_n 0, 1) := by decide +kernel
theorem dX2_putOut_1 : decode cX2_putOut 1 = .ok (.getfield 57, 3) := by decide +kernel
theorem dX2_putOut_4 : decode cX2_putOut 4 = .ok (.ifCond .lt 25, 3) := by decide +kernel
theorem dX2_putOut_7 : decode cX2_putOut 7 = .ok (.aload_n 0, 1) := by decide +kernel
theorem dX2_putOut_8 : decode cX2_putOut 8 = .ok (.getfield 57, 3) := by decide +kernel
theorem dX2_putOut_11 : decode cX2_putOut 11 = .ok (.aload_n 0, 1) := by decide +kernel
theorem dX2_putOut_12 : decode cX2_putOut 12 = .ok (.getfield 22, 3) := by decide +kernel
theorem dX2_putOut_15 : decode cX2_putOut 15 = .ok (.arraylength, 1) := by decide +kernel
theorem dX2_putOut_16 : decode cX2_putOut 16 = .ok (.if_icmp .ge 13, 3) := by decide +kernel
theorem dX2_putOut_19 : decode cX2_putOut 19 = .ok (.aload_n 0, 1) := by decide +kernel
theorem dX2_putOut_20 : decode cX2_putOut 20 = .ok (.getfield 22, 3) := by decide +kernel
theorem dX2_putOut_23 : decode cX2_putOut 23 = .ok (.aload_n 0, 1) := by decide +kernel
theorem dX2_putOut_24 : decode cX2_putOut 24 = .ok (.getfield 57, 3) := by decide +kernel
theorem dX2_putOut_27 : decode cX2_putOut 27 = .ok (.iload_n 1, 1) := by decide +kernel
theorem dX2_putOut_28 : decode cX2_putOut 28 = .ok (.iastore, 1) := by decide +kernel
theorem dX2_putOut_29 : decode cX2_putOut 29 = .ok (.aload_n 0, 1) := by decide +kernel
theorem dX2_putOut_30 : decode cX2_putOut 30 = .ok (.dup, 1) := by decide +kernel
theorem dX2_putOut_31 : decode cX2_putOut 31 = .ok (.getfield 57, 3) := by decide +kernel
theorem dX2_putOut_34 : decode cX2_putOut 34 = .ok (.iconst 1, 1) := by decide +kernel
theorem dX2_putOut_35 : decode cX2_putOut 35 = .ok (.iadd, 1) := by decide +kernel
theorem dX2_putOut_36 : decode cX2_putOut 36 = .ok (.putfield 57, 3) := by decide +kernel
theorem dX2_putOut_39 : decode cX2_putOut 39 = .ok (.return_, 1) := by decide +kernel
theorem dX2_keptOut_0 : decode cX2_keptOut 0 = .ok (.iload_n 1, 1) := by decide +kernel
theorem dX2_keptOut_1 : decode cX2_keptOut 1 = .ok (.ifCond .lt 29, 3) := by decide +kernel
theorem dX2_keptOut_4 : decode cX2_keptOut 4 = .ok (.iload_n 1, 1) := by decide +kernel
theorem dX2_keptOut_5 : decode cX2_keptOut 5 = .ok (.aload_n 0, 1) := by decide +kernel
theorem dX2_keptOut_6 : decode cX2_keptOut 6 = .ok (.getfield 57, 3) := by decide +kernel
theorem dX2_keptOut_9 : decode cX2_keptOut 9 = .ok (.if_icmp .ge 21, 3) := by decide +kernel
theorem dX2_keptOut_12 : decode cX2_keptOut 12 = .ok (.iload_n 1, 1) := by decide +kernel
theorem dX2_keptOut_13 : decode cX2_keptOut 13 = .ok (.aload_n 0, 1) := by decide +kernel
theorem dX2_keptOut_14 : decode cX2_keptOut 14 = .ok (.getfield 22, 3) := by decide +kernel
theorem dX2_keptOut_17 : decode cX2_keptOut 17 = .ok (.arraylength, 1) := by decide +kernel
theorem dX2_keptOut_18 : decode cX2_keptOut 18 = .ok (.if_icmp .ge 12, 3) := by decide +kernel
theorem dX2_keptOut_21 : decode cX2_keptOut 21 = .ok (.aload_n 0, 1) := by decide +kernel
theorem dX2_keptOut_22 : decode cX2_keptOut 22 = .ok (.getfield 22, 3) := by decide +kernel
theorem dX2_keptOut_25 : decode cX2_keptOut 25 = .ok (.iload_n 1, 1) := by decide +kernel
theorem dX2_keptOut_26 : decode cX2_keptOut 26 = .ok (.iaload, 1) := by decide +kernel
theorem dX2_keptOut_27 : decode cX2_keptOut 27 = .ok (.goto 4, 3) := by decide +kernel
theorem dX2_keptOut_30 : decode cX2_keptOut 30 = .ok (.iconst (-1), 1) := by decide +kernel
theorem dX2_keptOut_31 : decode cX2_keptOut 31 = .ok (.ireturn, 1) := by decide +kernel
set_option maxRecDepth 20000 in
theorem ggX2_tellPart_X7_bit : GoodIn wsX2_tellPart wsX7_bit := goodIn_r _ [9] (by decide +kernel) (by decide +kernel)
set_option maxRecDepth 20000 in
theorem gX2_tellPart_X7_bit_n60 : GoodIn wsX2_tellPart (wsX7_bit) := ggX2_tellPart_X7_bit
theorem dX2_tellPart_0 : decode cX2_tellPart 0 = .ok (.iload_n 1, 1) := by decide +kernel
theorem dX2_tellPart_1 : decode cX2_tellPart 1 = .ok (.tableswitch 72 3 8 #[39, 44, 49, 54, 62, 67], 39) := by decide +kernel
theorem dX2_tellPart_40 : decode cX2_tellPart 40 = .ok (.aload_n 0, 1) := by decide +kernel
theorem dX2_tellPart_41 : decode cX2_tellPart 41 = .ok (.getfield 33, 3) := by decide +kernel
theorem dX2_tellPart_44 : decode cX2_tellPart 44 = .ok (.ireturn, 1) := by decide +kernel
theorem dX2_tellPart_45 : decode cX2_tellPart 45 = .ok (.aload_n 0, 1) := by decide +kernel
theorem dX2_tellPart_46 : decode cX2_tellPart 46 = .ok (.getfield 36, 3) := by decide +kernel
theorem dX2_tellPart_49 : decode cX2_tellPart 49 = .ok (.ireturn, 1) := by decide +kernel
theorem dX2_tellPart_50 : decode cX2_tellPart 50 = .ok (.aload_n 0, 1) := by decide +kernel
theorem dX2_tellPart_51 : decode cX2_tellPart 51 = .ok (.getfield 54, 3) := by decide +kernel
theorem dX2_tellPart_54 : decode cX2_tellPart 54 = .ok (.ireturn, 1) := by decide +kernel
theorem dX2_tellPart_55 : decode cX2_tellPart 55 = .ok (.aload_n 0, 1) := by decide +kernel
theorem dX2_tellPart_56 : decode cX2_tellPart 56 = .ok (.getfield 25, 3) := by decide +kernel
theorem dX2_tellPart_59 : decode cX2_tellPart 59 = .ok (.invokestatic 60, 3) := by decide +kernel
theorem dX2_tellPart_62 : decode cX2_tellPart 62 = .ok (.ireturn, 1) := by decide +kernel
theorem dX2_tellPart_63 : decode cX2_tellPart 63 = .ok (.aload_n 0, 1) := by decide +kernel
theorem dX2_tellPart_64 : decode cX2_tellPart 64 = .ok (.getfield 29, 3) := by decide +kernel
theorem dX2_tellPart_67 : decode cX2_tellPart 67 = .ok (.ireturn, 1) := by decide +kernel
theorem dX2_tellPart_68 : decode cX2_tellPart 68 = .ok (.aload_n 0, 1) := by decide +kernel
theorem dX2_tellPart_69 : decode cX2_tellPart 69 = .ok (.getfield 57, 3) := by decide +kernel
theorem dX2_tellPart_72 : decode cX2_tellPart 72 = .ok (.ireturn, 1) := by decide +kernel
theorem dX2_tellPart_73 : decode cX2_tellPart 73 = .ok (.iconst (-1), 1) := by decide +kernel
theorem dX2_tellPart_74 : decode cX2_tellPart 74 = .ok (.ireturn, 1) := by decide +kernel
theorem dX3_init_0 : decode cX3_init 0 = .ok (.aload_n 0, 1) := by decide +kernel
theorem dX3_init_1 : decode cX3_init 1 = .ok (.invokespecial 1, 3) := by decide +kernel
theorem dX3_init_4 : decode cX3_init 4 = .ok (.return_, 1) := by decide +kernel
theorem dX3_putFlag_0 : decode cX3_putFlag 0 = .ok (.aload_n 0, 1) := by decide +kernel
theorem dX3_putFlag_1 : decode cX3_putFlag 1 = .ok (.iload_n 1, 1) := by decide +kernel
theorem dX3_putFlag_2 : decode cX3_putFlag 2 = .ok (.putfield 7, 3) := by decide +kernel
theorem dX3_putFlag_5 : decode cX3_putFlag 5 = .ok (.aload_n 0, 1) := by decide +kernel
theorem dX3_putFlag_6 : decode cX3_putFlag 6 = .ok (.iload_n 1, 1) := by decide +kernel
theorem dX3_putFlag_7 : decode cX3_putFlag 7 = .ok (.putfield 13, 3) := by decide +kernel
theorem dX3_putFlag_10 : decode cX3_putFlag 10 = .ok (.return_, 1) := by decide +kernel
theorem dX4_init_0 : decode cX4_init 0 = .ok (.aload_n 0, 1) := by decide +kernel
theorem dX4_init_1 : decode cX4_init 1 = .ok (.invokespecial 3, 3) := by decide +kernel
theorem dX4_init_4 : decode cX4_init 4 = .ok (.aload_n 0, 1) := by decide +kernel
theorem dX4_init_5 : decode cX4_init 5 = .ok (.sipush 4096, 3) := by decide +kernel
theorem dX4_init_8 : decode cX4_init 8 = .ok (.newarray .int, 2) := by decide +kernel
theorem dX4_init_10 : decode cX4_init 10 = .ok (.putfield 9, 3) := by decide +kernel
theorem dX4_init_13 : decode cX4_init 13 = .ok (.return_, 1) := by decide +kernel
theorem dX4_read_0 : decode cX4_read 0 = .ok (.iload_n 1, 1) := by decide +kernel
theorem dX4_read_1 : decode cX4_read 1 = .ok (.ifCond .lt 21, 3) := by decide +kernel
theorem dX4_read_4 : decode cX4_read 4 = .ok (.iload_n 1, 1) := by decide +kernel
theorem dX4_read_5 : decode cX4_read 5 = .ok (.aload_n 0, 1) := by decide +kernel
theorem dX4_read_6 : decode cX4_read 6 = .ok (.getfield 9, 3) := by decide +kernel
theorem dX4_read_9 : decode cX4_read 9 = .ok (.arraylength, 1) := by decide +kernel
theorem dX4_read_10 : decode cX4_read 10 = .ok (.if_icmp .ge 12, 3) := by decide +kernel
theorem dX4_read_13 : decode cX4_read 13 = .ok (.aload_n 0, 1) := by decide +kernel
theorem dX4_read_14 : decode cX4_read 14 = .ok (.getfield 9, 3) := by decide +kernel
theorem dX4_read_17 : decode cX4_read 17 = .ok (.iload_n 1, 1) := by decide +kernel
theorem dX4_read_18 : decode cX4_read 18 = .ok (.iaload, 1) := by decide +kernel
theorem dX4_read_19 : decode cX4_read 19 = .ok (.goto 4, 3) := by decide +kernel
theorem dX4_read_22 : decode cX4_read 22 = .ok (.iconst 0, 1) := by decide +kernel
theorem dX4_read_23 : decode cX4_read 23 = .ok (.ireturn, 1) := by decide +kernel
theorem dX4_write_0 : decode cX4_write 0 = .ok (.iload_n 1, 1) := by decide +kernel
theorem dX4_write_1 : decode cX4_write 1 = .ok (.ifCond .lt 22, 3) := by decide +kernel
theorem dX4_write_4 : decode cX4_write 4 = .ok (.iload_n 1, 1) := by decide +kernel
theorem dX4_write_5 : decode cX4_write 5 = .ok (.aload_n 0, 1) := by decide +kernel
theorem dX4_write_6 : decode cX4_write 6 = .ok (.getfield 9, 3) := by decide +kernel
theorem dX4_write_9 : decode cX4_write 9 = .ok (.arraylength, 1) := by decide +kernel
theorem dX4_write_10 : decode cX4_write 10 = .ok (.if_icmp .ge 13, 3) := by decide +kernel
theorem dX4_write_13 : decode cX4_write 13 = .ok (.aload_n 0, 1) := by decide +kernel
theorem dX4_write_14 : decode cX4_write 14 = .ok (.getfield 9, 3) := by decide +kernel
theorem dX4_write_17 : decode cX4_write 17 = .ok (.iload_n 1, 1) := by decide +kernel
theorem dX4_write_18 : decode cX4_write 18 = .ok (.iload_n 2, 1) := by decide +kernel
theorem dX4_write_19 : decode cX4_write 19 = .ok (.ldc 15, 2) := by decide +kernel
theorem dX4_write_21 : decode cX4_write 21 = .ok (.iand, 1) := by decide +kernel
theorem dX4_write_22 : decode cX4_write 22 = .ok (.iastore, 1) := by decide +kernel
theorem dX4_write_23 : decode cX4_write 23 = .ok (.return_, 1) := by decide +kernel
theorem dX5_init_0 : decode cX5_init 0 = .ok (.aload_n 0, 1) := by decide +kernel
theorem dX5_init_1 : decode cX5_init 1 = .ok (.invokespecial 3, 3) := by decide +kernel
theorem dX5_init_4 : decode cX5_init 4 = .ok (.aload_n 0, 1) := by decide +kernel
theorem dX5_init_5 : decode cX5_init 5 = .ok (.aload_n 1, 1) := by decide +kernel
theorem dX5_init_6 : decode cX5_init 6 = .ok (.putfield 9, 3) := by decide +kernel
theorem dX5_init_9 : decode cX5_init 9 = .ok (.aload_n 0, 1) := by decide +kernel
theorem dX5_init_10 : decode cX5_init 10 = .ok (.aload_n 2, 1) := by decide +kernel
theorem dX5_init_11 : decode cX5_init 11 = .ok (.putfield 15, 3) := by decide +kernel
theorem dX5_init_14 : decode cX5_init 14 = .ok (.aload_n 0, 1) := by decide +kernel
theorem dX5_init_15 : decode cX5_init 15 = .ok (.aload_n 3, 1) := by decide +kernel
theorem dX5_init_16 : decode cX5_init 16 = .ok (.putfield 19, 3) := by decide +kernel
theorem dX5_init_19 : decode cX5_init 19 = .ok (.return_, 1) := by decide +kernel
set_option maxRecDepth 20000 in
theorem ggX5_nextWord_X4_read : GoodIn wsX5_nextWord wsX4_read := goodIn_r _ [7, 8, 24] (by decide +kernel) (by decide +kernel)
set_option maxRecDepth 20000 in
theorem gX5_nextWord_X4_read : GoodIn wsX5_nextWord (wsV RX5 29 RX4 yX4_read wsX4_read) := goodIn_app (goodIn_of _ (by decide +kernel)) ggX5_nextWord_X4_read
set_option maxRecDepth 20000 in
theorem ggX5_nextWord_X6_stepOn : GoodIn wsX5_nextWord wsX6_stepOn := goodIn_r _ [13, 14, 18, 19, 20, 21, 22, 23] (by decide +kernel) (by decide +kernel)
set_option maxRecDepth 20000 in
theorem gX5_nextWord_X6_stepOn : GoodIn wsX5_nextWord (wsV RX5 35 RX6 yX6_stepOn wsX6_stepOn) := goodIn_app (goodIn_of _ (by decide +kernel)) ggX5_nextWord_X6_stepOn
theorem dX5_nextWord_0 : decode cX5_nextWord 0 = .ok (.aload_n 0, 1) := by decide +kernel
theorem dX5_nextWord_1 : decode cX5_nextWord 1 = .ok (.getfield 9, 3) := by decide +kernel
theorem dX5_nextWord_4 : decode cX5_nextWord 4 = .ok (.aload_n 0, 1) := by decide +kernel
theorem dX5_nextWord_5 : decode cX5_nextWord 5 = .ok (.getfield 15, 3) := by decide +kernel
theorem dX5_nextWord_8 : decode cX5_nextWord 8 = .ok (.getfield 23, 3) := by decide +kernel
theorem dX5_nextWord_11 : decode cX5_nextWord 11 = .ok (.invokevirtual 29, 3) := by decide +kernel
theorem dX5_nextWord_14 : decode cX5_nextWord 14 = .ok (.istore_n 1, 1) := by decide +kernel
theorem dX5_nextWord_15 : decode cX5_nextWord 15 = .ok (.aload_n 0, 1) := by decide +kernel
theorem dX5_nextWord_16 : decode cX5_nextWord 16 = .ok (.getfield 15, 3) := by decide +kernel
theorem dX5_nextWord_19 : decode cX5_nextWord 19 = .ok (.invokevirtual 35, 3) := by decide +kernel
theorem dX5_nextWord_22 : decode cX5_nextWord 22 = .ok (.iload_n 1, 1) := by decide +kernel
theorem dX5_nextWord_23 : decode cX5_nextWord 23 = .ok (.ireturn, 1) := by decide +kernel
set_option maxRecDepth 20000 in
theorem ggX5_perform_X5_resolve : GoodIn wsX5_perform wsX5_resolve := goodIn_r _ [6, 1, 7, 8, 9, 10, 11, 12, 13, 14, 15, 16, 17, 18, 19, 20, 21, 209, 210, 211, 212, 213, 214, 215, 216, 217, 218] (by decide +kernel) (by decide +kernel)
set_option maxRecDepth 20000 in
theorem gX5_perform_X5_resolve : GoodIn wsX5_perform (wsV RX5 39 RX5 yX5_resolve wsX5_resolve) := goodIn_app (goodIn_of _ (by decide +kernel)) ggX5_perform_X5_resolve
set_option maxRecDepth 20000 in
theorem ggX5_perform_X5_referToMemory : GoodIn wsX5_perform wsX5_referToMemory := goodIn_r _ [25, 1, 7, 8, 26, 27, 5, 28, 9, 10, 11, 12, 13, 14, 29, 30, 31, 32, 33, 34, 35, 36, 37, 38, 39, 40, 41, 42, 43, 44, 45, 46, 47, 48, 49, 18, 50, 51, 52, 53, 54, 55, 209, 210, 211, 213, 214, 215, 216, 217, 218, 212] (by decide +kernel) (by decide +kernel)
set_option maxRecDepth 20000 in
theorem gX5_perform_X5_referToMemory : GoodIn wsX5_perform (wsV RX5 42 RX5 yX5_referToMemory wsX5_referToMemory) := goodIn_app (goodIn_of _ (by decide +kernel)) ggX5_perform_X5_referToMemory
set_option maxRecDepth 20000 in
theorem ggX5_perform_X5_alterAndSkip : GoodIn wsX5_perform wsX5_alterAndSkip := goodIn_r _ [59, 7, 8, 1, 26, 27, 5, 28, 9, 10, 11, 12, 13, 14, 60, 61, 62, 42, 63, 64, 65, 66, 67, 68, 69, 29, 30, 31, 32, 33, 43, 44, 45, 46, 47, 48, 49, 18, 50, 51, 209, 210, 211, 213, 214, 215, 216, 217, 218, 212] (by decide +kernel) (by decide +kernel)
set_option maxRecDepth 20000 in
theorem gX5_perform_X5_alterAndSkip : GoodIn wsX5_perform (wsV RX5 46 RX5 yX5_alterAndSkip wsX5_alterAndSkip) := goodIn_app (goodIn_of _ (by decide +kernel)) ggX5_perform_X5_alterAndSkip
set_option maxRecDepth 20000 in
theorem ggX5_perform_X5_shiftAndSkip : GoodIn wsX5_perform wsX5_shiftAndSkip := goodIn_r _ [73, 7, 8, 26, 27, 5, 28, 9, 10, 11, 12, 13, 14, 74, 75, 76, 77, 1, 42, 78, 79, 80, 81, 29, 30, 31, 32, 33, 43, 44, 45, 46, 47, 48, 49, 18, 50, 51, 209, 210, 211, 213, 214, 215, 216, 217, 218, 212] (by decide +kernel) (by decide +kernel)
set_option maxRecDepth 20000 in
theorem gX5_perform_X5_shiftAndSkip : GoodIn wsX5_perform (wsV RX5 50 RX5 yX5_shiftAndSkip wsX5_shiftAndSkip) := goodIn_app (goodIn_of _ (by decide +kernel)) ggX5_perform_X5_shiftAndSkip
set_option maxRecDepth 20000 in
theorem ggX5_perform_X5_inputOrOutput : GoodIn wsX5_perform wsX5_inputOrOutput := goodIn_r _ [85, 8, 86, 7, 26, 27, 5, 28, 15, 16, 17, 18, 19, 20, 21, 87, 88, 89, 90, 91, 92, 93, 94, 95, 96, 97, 98, 99, 100, 101, 102, 103, 104, 105, 106, 107, 108, 109, 110, 111, 112, 43, 44, 45, 46, 47, 48, 49, 50, 51, 9, 10, 11, 12, 13, 14, 113, 114, 115, 116, 117, 118, 119, 120, 121, 122, 123, 124, 125, 126, 127, 29, 30, 31, 32, 33, 128, 129, 130, 131, 132, 133, 134, 135, 136, 137, 138, 139, 140, 141, 142, 143, 144, 145, 146, 147, 148, 149, 150, 151, 152, 153, 154, 155, 156, 157, 158, 159, 160, 161, 209, 210, 211, 213, 214, 215, 216, 217, 218, 219, 220, 221, 222, 223, 224, 225, 226, 227, 228, 212, 229, 230, 231, 232, 233, 234, 235, 236, 237, 238, 239, 240, 241, 242, 243, 244, 245, 246] (by decide +kernel) (by decide +kernel)
set_option maxRecDepth 20000 in
theorem gX5_perform_X5_inputOrOutput : GoodIn wsX5_perform (wsV RX5 53 RX5 yX5_inputOrOutput wsX5_inputOrOutput) := goodIn_app (goodIn_of _ (by decide +kernel)) ggX5_perform_X5_inputOrOutput
set_option maxRecDepth 20000 in
theorem ggX5_perform_X5_hasAddressBehind : GoodIn wsX5_perform wsX5_hasAddressBehind := goodIn_r _ [164, 165, 166, 167, 168] (by decide +kernel) (by decide +kernel)
set_option maxRecDepth 20000 in
theorem gX5_perform_X5_hasAddressBehind : GoodIn wsX5_perform (va_wsS RX5 56 yX5_hasAddressBehind wsX5_hasAddressBehind) := goodIn_app (goodIn_of _ (by decide +kernel)) ggX5_perform_X5_hasAddressBehind
set_option maxRecDepth 20000 in
theorem ggX5_perform_X5_nextWord : GoodIn wsX5_perform wsX5_nextWord := goodIn_r _ [172, 7, 8, 9, 10, 11, 12, 13, 14, 47, 48, 49, 18, 50, 51, 209, 210, 211, 213, 214, 215, 216, 217, 218, 212] (by decide +kernel) (by decide +kernel)
set_option maxRecDepth 20000 in
theorem gX5_perform_X5_nextWord : GoodIn wsX5_perform (wsV RX5 60 RX5 yX5_nextWord wsX5_nextWord) := goodIn_app (goodIn_of _ (by decide +kernel)) ggX5_perform_X5_nextWord
set_option maxRecDepth 20000 in
theorem ggX5_perform_X5_doubleWord : GoodIn wsX5_perform wsX5_doubleWord := goodIn_r _ [176, 7, 9, 10, 11, 12, 13, 14, 177, 178, 179, 5, 180, 8, 181, 182, 183, 184, 29, 30, 31, 32, 33, 185, 186, 187, 188, 189, 190, 191, 192, 193, 194, 195, 196, 197, 198, 209, 210, 211, 212, 213, 214, 215, 216, 217, 218] (by decide +kernel) (by decide +kernel)
set_option maxRecDepth 20000 in
theorem gX5_perform_X5_doubleWord : GoodIn wsX5_perform (wsV RX5 64 RX5 yX5_doubleWord wsX5_doubleWord) := goodIn_app (goodIn_of _ (by decide +kernel)) ggX5_perform_X5_doubleWord
set_option maxRecDepth 20000 in
theorem ggX5_perform_X5_longShift : GoodIn wsX5_perform wsX5_longShift := goodIn_r _ [202, 203, 204, 205, 8, 191, 192, 193, 5, 194, 7, 9, 10, 11, 12, 13, 14, 181, 182, 183, 184, 29, 30, 31, 32, 33, 206, 207, 208, 94, 95, 96, 209, 210, 211, 213, 214, 215, 216, 217, 218, 212] (by decide +kernel) (by decide +kernel)
set_option maxRecDepth 20000 in
theorem gX5_perform_X5_longShift : GoodIn wsX5_perform (wsV RX5 67 RX5 yX5_longShift wsX5_longShift) := goodIn_app (goodIn_of _ (by decide +kernel)) ggX5_perform_X5_longShift
theorem dX5_perform_0 : decode cX5_perform 0 = .ok (.iload_n 1, 1) := by decide +kernel
theorem dX5_perform_1 : decode cX5_perform 1 = .ok (.sipush 1024, 3) := by decide +kernel
theorem dX5_perform_4 : decode cX5_perform 4 = .ok (.iand, 1) := by decide +kernel
theorem dX5_perform_5 : decode cX5_perform 5 = .ok (.ifCond .eq 7, 3) := by decide +kernel
theorem dX5_perform_8 : decode cX5_perform 8 = .ok (.iconst 1, 1) := by decide +kernel
theorem dX5_perform_9 : decode cX5_perform 9 = .ok (.goto 4, 3) := by decide +kernel
theorem dX5_perform_12 : decode cX5_perform 12 = .ok (.iconst 0, 1) := by decide +kernel
theorem dX5_perform_13 : decode cX5_perform 13 = .ok (.istore_n 3, 1) := by decide +kernel
theorem dX5_perform_14 : decode cX5_perform 14 = .ok (.iload_n 1, 1) := by decide +kernel
theorem dX5_perform_15 : decode cX5_perform 15 = .ok (.sipush 28672, 3) := by decide +kernel
theorem dX5_perform_18 : decode cX5_perform 18 = .ok (.iand, 1) := by decide +kernel
theorem dX5_perform_19 : decode cX5_perform 19 = .ok (.ifCond .eq 39, 3) := by decide +kernel
theorem dX5_perform_22 : decode cX5_perform 22 = .ok (.iload_n 3, 1) := by decide +kernel
theorem dX5_perform_23 : decode cX5_perform 23 = .ok (.ifCond .eq 7, 3) := by decide +kernel
theorem dX5_perform_26 : decode cX5_perform 26 = .ok (.iload_n 2, 1) := by decide +kernel
theorem dX5_perform_27 : decode cX5_perform 27 = .ok (.goto 4, 3) := by decide +kernel
theorem dX5_perform_30 : decode cX5_perform 30 = .ok (.iconst 0, 1) := by decide +kernel
theorem dX5_perform_31 : decode cX5_perform 31 = .ok (.iload_n 1, 1) := by decide +kernel
theorem dX5_perform_32 : decode cX5_perform 32 = .ok (.sipush 1023, 3) := by decide +kernel
theorem dX5_perform_35 : decode cX5_perform 35 = .ok (.iand, 1) := by decide +kernel
theorem dX5_perform_36 : decode cX5_perform 36 = .ok (.ior, 1) := by decide +kernel
theorem dX5_perform_37 : decode cX5_perform 37 = .ok (.istore 4, 2) := by decide +kernel
theorem dX5_perform_39 : decode cX5_perform 39 = .ok (.aload_n 0, 1) := by decide +kernel
theorem dX5_perform_40 : decode cX5_perform 40 = .ok (.iload_n 1, 1) := by decide +kernel
theorem dX5_perform_41 : decode cX5_perform 41 = .ok (.aload_n 0, 1) := by decide +kernel
theorem dX5_perform_42 : decode cX5_perform 42 = .ok (.iload_n 1, 1) := by decide +kernel
theorem dX5_perform_43 : decode cX5_perform 43 = .ok (.ldc 38, 2) := by decide +kernel
theorem dX5_perform_45 : decode cX5_perform 45 = .ok (.iand, 1) := by decide +kernel
theorem dX5_perform_46 : decode cX5_perform 46 = .ok (.iload 4, 2) := by decide +kernel
theorem dX5_perform_48 : decode cX5_perform 48 = .ok (.ior, 1) := by decide +kernel
theorem dX5_perform_49 : decode cX5_perform 49 = .ok (.invokevirtual 39, 3) := by decide +kernel
theorem dX5_perform_52 : decode cX5_perform 52 = .ok (.invokevirtual 42, 3) := by decide +kernel
theorem dX5_perform_55 : decode cX5_perform 55 = .ok (.goto 70, 3) := by decide +kernel
theorem dX5_perform_58 : decode cX5_perform 58 = .ok (.iload_n 1, 1) := by decide +kernel
theorem dX5_perform_59 : decode cX5_perform 59 = .ok (.ldc 38, 2) := by decide +kernel
theorem dX5_perform_61 : decode cX5_perform 61 = .ok (.iand, 1) := by decide +kernel
theorem dX5_perform_62 : decode cX5_perform 62 = .ok (.ifCond .ne 23, 3) := by decide +kernel
theorem dX5_perform_65 : decode cX5_perform 65 = .ok (.iload_n 3, 1) := by decide +kernel
theorem dX5_perform_66 : decode cX5_perform 66 = .ok (.ifCond .eq 11, 3) := by decide +kernel
theorem dX5_perform_69 : decode cX5_perform 69 = .ok (.aload_n 0, 1) := by decide +kernel
theorem dX5_perform_70 : decode cX5_perform 70 = .ok (.iload_n 1, 1) := by decide +kernel
theorem dX5_perform_71 : decode cX5_perform 71 = .ok (.invokevirtual 46, 3) := by decide +kernel
theorem dX5_perform_74 : decode cX5_perform 74 = .ok (.goto 51, 3) := by decide +kernel
theorem dX5_perform_77 : decode cX5_perform 77 = .ok (.aload_n 0, 1) := by decide +kernel
theorem dX5_perform_78 : decode cX5_perform 78 = .ok (.iload_n 1, 1) := by decide +kernel
theorem dX5_perform_79 : decode cX5_perform 79 = .ok (.invokevirtual 50, 3) := by decide +kernel
theorem dX5_perform_82 : decode cX5_perform 82 = .ok (.goto 43, 3) := by decide +kernel
theorem dX5_perform_85 : decode cX5_perform 85 = .ok (.iload_n 3, 1) := by decide +kernel
theorem dX5_perform_86 : decode cX5_perform 86 = .ok (.ifCond .eq 11, 3) := by decide +kernel
theorem dX5_perform_89 : decode cX5_perform 89 = .ok (.aload_n 0, 1) := by decide +kernel
theorem dX5_perform_90 : decode cX5_perform 90 = .ok (.iload_n 1, 1) := by decide +kernel
theorem dX5_perform_91 : decode cX5_perform 91 = .ok (.invokevirtual 53, 3) := by decide +kernel
theorem dX5_perform_94 : decode cX5_perform 94 = .ok (.goto 31, 3) := by decide +kernel
theorem dX5_perform_97 : decode cX5_perform 97 = .ok (.iload_n 1, 1) := by decide +kernel
theorem dX5_perform_98 : decode cX5_perform 98 = .ok (.invokestatic 56, 3) := by decide +kernel
theorem dX5_perform_101 : decode cX5_perform 101 = .ok (.ifCond .eq 19, 3) := by decide +kernel
theorem dX5_perform_104 : decode cX5_perform 104 = .ok (.aload_n 0, 1) := by decide +kernel
theorem dX5_perform_105 : decode cX5_perform 105 = .ok (.iload_n 1, 1) := by decide +kernel
theorem dX5_perform_106 : decode cX5_perform 106 = .ok (.aload_n 0, 1) := by decide +kernel
theorem dX5_perform_107 : decode cX5_perform 107 = .ok (.aload_n 0, 1) := by decide +kernel
theorem dX5_perform_108 : decode cX5_perform 108 = .ok (.invokevirtual 60, 3) := by decide +kernel
theorem dX5_perform_111 : decode cX5_perform 111 = .ok (.invokevirtual 39, 3) := by decide +kernel
theorem dX5_perform_114 : decode cX5_perform 114 = .ok (.invokevirtual 64, 3) := by decide +kernel
theorem dX5_perform_117 : decode cX5_perform 117 = .ok (.goto 8, 3) := by decide +kernel
theorem dX5_perform_120 : decode cX5_perform 120 = .ok (.aload_n 0, 1) := by decide +kernel
theorem dX5_perform_121 : decode cX5_perform 121 = .ok (.iload_n 1, 1) := by decide +kernel
theorem dX5_perform_122 : decode cX5_perform 122 = .ok (.invokevirtual 67, 3) := by decide +kernel
theorem dX5_perform_125 : decode cX5_perform 125 = .ok (.return_, 1) := by decide +kernel
set_option maxRecDepth 20000 in
theorem ggX5_resolve_X4_read : GoodIn wsX5_resolve wsX4_read := goodIn_r _ [8, 9, 20] (by decide +kernel) (by decide +kernel)
set_option maxRecDepth 20000 in
theorem gX5_resolve_X4_read : GoodIn wsX5_resolve (wsV RX5 29 RX4 yX4_read wsX4_read) := goodIn_app (goodIn_of _ (by decide +kernel)) ggX5_resolve_X4_read
set_option maxRecDepth 20000 in
theorem ggX5_resolve_X6_halt : GoodIn wsX5_resolve wsX6_halt := goodIn_r _ [14, 15, 16, 21, 22, 23, 24, 25, 26] (by decide +kernel) (by decide +kernel)
set_option maxRecDepth 20000 in
theorem gX5_resolve_X6_halt : GoodIn wsX5_resolve (wsV RX5 70 RX6 yX6_halt wsX6_halt) := goodIn_app (goodIn_of _ (by decide +kernel)) ggX5_resolve_X6_halt
theorem dX5_resolve_0 : decode cX5_resolve 0 = .ok (.iload_n 1, 1) := by decide +kernel
theorem dX5_resolve_1 : decode cX5_resolve 1 = .ok (.istore_n 2, 1) := by decide +kernel
theorem dX5_resolve_2 : decode cX5_resolve 2 = .ok (.iconst 0, 1) := by decide +kernel
theorem dX5_resolve_3 : decode cX5_resolve 3 = .ok (.istore_n 3, 1) := by decide +kernel
theorem dX5_resolve_4 : decode cX5_resolve 4 = .ok (.iload_n 3, 1) := by decide +kernel
theorem dX5_resolve_5 : decode cX5_resolve 5 = .ok (.bipush 32, 2) := by decide +kernel
theorem dX5_resolve_7 : decode cX5_resolve 7 = .ok (.if_icmp .ge 29, 3) := by decide +kernel
theorem dX5_resolve_10 : decode cX5_resolve 10 = .ok (.iload_n 2, 1) := by decide +kernel
theorem dX5_resolve_11 : decode cX5_resolve 11 = .ok (.ldc 38, 2) := by decide +kernel
theorem dX5_resolve_13 : decode cX5_resolve 13 = .ok (.iand, 1) := by decide +kernel
theorem dX5_resolve_14 : decode cX5_resolve 14 = .ok (.ifCond .eq 22, 3) := by decide +kernel
theorem dX5_resolve_17 : decode cX5_resolve 17 = .ok (.aload_n 0, 1) := by decide +kernel
theorem dX5_resolve_18 : decode cX5_resolve 18 = .ok (.getfield 9, 3) := by decide +kernel
theorem dX5_resolve_21 : decode cX5_resolve 21 = .ok (.iload_n 2, 1) := by decide +kernel
theorem dX5_resolve_22 : decode cX5_resolve 22 = .ok (.sipush 32767, 3) := by decide +kernel
theorem dX5_resolve_25 : decode cX5_resolve 25 = .ok (.iand, 1) := by decide +kernel
theorem dX5_resolve_26 : decode cX5_resolve 26 = .ok (.invokevirtual 29, 3) := by decide +kernel
theorem dX5_resolve_29 : decode cX5_resolve 29 = .ok (.istore_n 2, 1) := by decide +kernel
theorem dX5_resolve_30 : decode cX5_resolve 30 = .ok (.iinc 3 1, 3) := by decide +kernel
theorem dX5_resolve_33 : decode cX5_resolve 33 = .ok (.goto (-29), 3) := by decide +kernel
theorem dX5_resolve_36 : decode cX5_resolve 36 = .ok (.iload_n 2, 1) := by decide +kernel
theorem dX5_resolve_37 : decode cX5_resolve 37 = .ok (.ldc 38, 2) := by decide +kernel
theorem dX5_resolve_39 : decode cX5_resolve 39 = .ok (.iand, 1) := by decide +kernel
theorem dX5_resolve_40 : decode cX5_resolve 40 = .ok (.ifCond .eq 14, 3) := by decide +kernel
theorem dX5_resolve_43 : decode cX5_resolve 43 = .ok (.aload_n 0, 1) := by decide +kernel
theorem dX5_resolve_44 : decode cX5_resolve 44 = .ok (.getfield 15, 3) := by decide +kernel
theorem dX5_resolve_47 : decode cX5_resolve 47 = .ok (.bipush 64, 2) := by decide +kernel
theorem dX5_resolve_49 : decode cX5_resolve 49 = .ok (.invokevirtual 70, 3) := by decide +kernel
theorem dX5_resolve_52 : decode cX5_resolve 52 = .ok (.iconst (-1), 1) := by decide +kernel
theorem dX5_resolve_53 : decode cX5_resolve 53 = .ok (.ireturn, 1) := by decide +kernel
theorem dX5_resolve_54 : decode cX5_resolve 54 = .ok (.iload_n 2, 1) := by decide +kernel
theorem dX5_resolve_55 : decode cX5_resolve 55 = .ok (.ireturn, 1) := by decide +kernel
set_option maxRecDepth 20000 in
theorem ggX5_referToMemory_X5_registerOf : GoodIn wsX5_referToMemory wsX5_registerOf := goodIn_r _ [7] (by decide +kernel) (by decide +kernel)
set_option maxRecDepth 20000 in
theorem gX5_referToMemory_X5_registerOf : GoodIn wsX5_referToMemory (va_wsS RX5 73 yX5_registerOf wsX5_registerOf) := goodIn_app (goodIn_of _ (by decide +kernel)) ggX5_referToMemory_X5_registerOf
set_option maxRecDepth 20000 in
theorem ggX5_referToMemory_X4_read : GoodIn wsX5_referToMemory wsX4_read := goodIn_r _ [12, 13, 51] (by decide +kernel) (by decide +kernel)
set_option maxRecDepth 20000 in
theorem gX5_referToMemory_X4_read : GoodIn wsX5_referToMemory (wsV RX5 29 RX4 yX4_read wsX4_read) := goodIn_app (goodIn_of _ (by decide +kernel)) ggX5_referToMemory_X4_read
set_option maxRecDepth 20000 in
theorem ggX5_referToMemory_X4_write : GoodIn wsX5_referToMemory wsX4_write := goodIn_r _ [17, 13, 18, 51] (by decide +kernel) (by decide +kernel)
set_option maxRecDepth 20000 in
theorem gX5_referToMemory_X4_write : GoodIn wsX5_referToMemory (wsV RX5 76 RX4 yX4_write wsX4_write) := goodIn_app (goodIn_of _ (by decide +kernel)) ggX5_referToMemory_X4_write
set_option maxRecDepth 20000 in
theorem ggX5_referToMemory_X5_jump : GoodIn wsX5_referToMemory wsX5_jump := goodIn_r _ [22, 3, 42, 43, 44, 45, 46, 47, 48, 49, 50] (by decide +kernel) (by decide +kernel)
set_option maxRecDepth 20000 in
theorem gX5_referToMemory_X5_jump : GoodIn wsX5_referToMemory (wsV RX5 79 RX5 yX5_jump wsX5_jump) := goodIn_app (goodIn_of _ (by decide +kernel)) ggX5_referToMemory_X5_jump
set_option maxRecDepth 20000 in
theorem ggX5_referToMemory_X5_incrementAndSkip : GoodIn wsX5_referToMemory wsX5_incrementAndSkip := goodIn_r _ [26, 27, 2, 14, 15, 16, 11, 17, 13, 18, 28, 29, 30, 6, 31, 3, 32, 33, 34, 35, 36, 37, 42, 43, 44, 51, 45, 46, 47, 48, 49, 50] (by decide +kernel) (by decide +kernel)
set_option maxRecDepth 20000 in
theorem gX5_referToMemory_X5_incrementAndSkip : GoodIn wsX5_referToMemory (wsV RX5 83 RX5 yX5_incrementAndSkip wsX5_incrementAndSkip) := goodIn_app (goodIn_of _ (by decide +kernel)) ggX5_referToMemory_X5_incrementAndSkip
set_option maxRecDepth 20000 in
theorem ggX5_referToMemory_X5_add : GoodIn wsX5_referToMemory wsX5_add := goodIn_r _ [41, 2, 27, 3, 1, 8, 9, 10, 11, 12, 13, 14, 15, 16, 17, 18, 42, 43, 44, 45, 46, 47, 48, 49, 50, 51] (by decide +kernel) (by decide +kernel)
set_option maxRecDepth 20000 in
theorem gX5_referToMemory_X5_add : GoodIn wsX5_referToMemory (wsV RX5 86 RX5 yX5_add wsX5_add) := goodIn_app (goodIn_of _ (by decide +kernel)) ggX5_referToMemory_X5_add
set_option maxRecDepth 20000 in
theorem ggX5_referToMemory_X5_skipIf : GoodIn wsX5_referToMemory wsX5_skipIf := goodIn_r _ [31, 3, 32, 33, 34, 35, 36, 37, 42, 43, 44, 45, 46, 47, 48, 49, 50] (by decide +kernel) (by decide +kernel)
set_option maxRecDepth 20000 in
theorem gX5_referToMemory_X5_skipIf : GoodIn wsX5_referToMemory (wsV RX5 89 RX5 yX5_skipIf wsX5_skipIf) := goodIn_app (goodIn_of _ (by decide +kernel)) ggX5_referToMemory_X5_skipIf
theorem dX5_referToMemory_0 : decode cX5_referToMemory 0 = .ok (.iload_n 2, 1) := by decide +kernel
theorem dX5_referToMemory_1 : decode cX5_referToMemory 1 = .ok (.iconst (-1), 1) := by decide +kernel
theorem dX5_referToMemory_2 : decode cX5_referToMemory 2 = .ok (.if_icmp .ne 4, 3) := by decide +kernel
theorem dX5_referToMemory_5 : decode cX5_referToMemory 5 = .ok (.return_, 1) := by decide +kernel
theorem dX5_referToMemory_6 : decode cX5_referToMemory 6 = .ok (.iload_n 1, 1) := by decide +kernel
theorem dX5_referToMemory_7 : decode cX5_referToMemory 7 = .ok (.ldc 38, 2) := by decide +kernel
theorem dX5_referToMemory_9 : decode cX5_referToMemory 9 = .ok (.iand, 1) := by decide +kernel
theorem dX5_referToMemory_10 : decode cX5_referToMemory 10 = .ok (.ifCond .eq 7, 3) := by decide +kernel
theorem dX5_referToMemory_13 : decode cX5_referToMemory 13 = .ok (.iconst 1, 1) := by decide +kernel
theorem dX5_referToMemory_14 : decode cX5_referToMemory 14 = .ok (.goto 4, 3) := by decide +kernel
theorem dX5_referToMemory_17 : decode cX5_referToMemory 17 = .ok (.iconst 0, 1) := by decide +kernel
theorem dX5_referToMemory_18 : decode cX5_referToMemory 18 = .ok (.istore_n 3, 1) := by decide +kernel
theorem dX5_referToMemory_19 : decode cX5_referToMemory 19 = .ok (.iload_n 1, 1) := by decide +kernel
theorem dX5_referToMemory_20 : decode cX5_referToMemory 20 = .ok (.invokestatic 73, 3) := by decide +kernel
theorem dX5_referToMemory_23 : decode cX5_referToMemory 23 = .ok (.istore 4, 2) := by decide +kernel
theorem dX5_referToMemory_25 : decode cX5_referToMemory 25 = .ok (.aload_n 0, 1) := by decide +kernel
theorem dX5_referToMemory_26 : decode cX5_referToMemory 26 = .ok (.getfield 9, 3) := by decide +kernel
theorem dX5_referToMemory_29 : decode cX5_referToMemory 29 = .ok (.iload_n 2, 1) := by decide +kernel
theorem dX5_referToMemory_30 : decode cX5_referToMemory 30 = .ok (.invokevirtual 29, 3) := by decide +kernel
theorem dX5_referToMemory_33 : decode cX5_referToMemory 33 = .ok (.istore 5, 2) := by decide +kernel
theorem dX5_referToMemory_35 : decode cX5_referToMemory 35 = .ok (.iload_n 1, 1) := by decide +kernel
theorem dX5_referToMemory_36 : decode cX5_referToMemory 36 = .ok (.bipush 11, 2) := by decide +kernel
theorem dX5_referToMemory_38 : decode cX5_referToMemory 38 = .ok (.ishr, 1) := by decide +kernel
theorem dX5_referToMemory_39 : decode cX5_referToMemory 39 = .ok (.bipush 15, 2) := by decide +kernel
theorem dX5_referToMemory_41 : decode cX5_referToMemory 41 = .ok (.iand, 1) := by decide +kernel
theorem dX5_referToMemory_42 : decode cX5_referToMemory 42 = .ok (.tableswitch 252 2 15 #[70, 92, 118, 140, 149, 171, 181, 181, 192, 192, 218, 218, 232, 232], 70) := by decide +kernel
theorem dX5_referToMemory_112 : decode cX5_referToMemory 112 = .ok (.aload_n 0, 1) := by decide +kernel
theorem dX5_referToMemory_113 : decode cX5_referToMemory 113 = .ok (.getfield 9, 3) := by decide +kernel
theorem dX5_referToMemory_116 : decode cX5_referToMemory 116 = .ok (.iconst 0, 1) := by decide +kernel
theorem dX5_referToMemory_117 : decode cX5_referToMemory 117 = .ok (.aload_n 0, 1) := by decide +kernel
theorem dX5_referToMemory_118 : decode cX5_referToMemory 118 = .ok (.getfield 9, 3) := by decide +kernel
theorem dX5_referToMemory_121 : decode cX5_referToMemory 121 = .ok (.iconst 0, 1) := by decide +kernel
theorem dX5_referToMemory_122 : decode cX5_referToMemory 122 = .ok (.invokevirtual 29, 3) := by decide +kernel
theorem dX5_referToMemory_125 : decode cX5_referToMemory 125 = .ok (.iload 5, 2) := by decide +kernel
theorem dX5_referToMemory_127 : decode cX5_referToMemory 127 = .ok (.iand, 1) := by decide +kernel
theorem dX5_referToMemory_128 : decode cX5_referToMemory 128 = .ok (.invokevirtual 76, 3) := by decide +kernel
theorem dX5_referToMemory_131 : decode cX5_referToMemory 131 = .ok (.goto 163, 3) := by decide +kernel
theorem dX5_referToMemory_134 : decode cX5_referToMemory 134 = .ok (.aload_n 0, 1) := by decide +kernel
theorem dX5_referToMemory_135 : decode cX5_referToMemory 135 = .ok (.getfield 9, 3) := by decide +kernel
theorem dX5_referToMemory_138 : decode cX5_referToMemory 138 = .ok (.iload_n 2, 1) := by decide +kernel
theorem dX5_referToMemory_139 : decode cX5_referToMemory 139 = .ok (.aload_n 0, 1) := by decide +kernel
theorem dX5_referToMemory_140 : decode cX5_referToMemory 140 = .ok (.getfield 15, 3) := by decide +kernel
theorem dX5_referToMemory_143 : decode cX5_referToMemory 143 = .ok (.getfield 23, 3) := by decide +kernel
theorem dX5_referToMemory_146 : decode cX5_referToMemory 146 = .ok (.invokevirtual 76, 3) := by decide +kernel
theorem dX5_referToMemory_149 : decode cX5_referToMemory 149 = .ok (.aload_n 0, 1) := by decide +kernel
theorem dX5_referToMemory_150 : decode cX5_referToMemory 150 = .ok (.iload_n 2, 1) := by decide +kernel
theorem dX5_referToMemory_151 : decode cX5_referToMemory 151 = .ok (.iconst 1, 1) := by decide +kernel
theorem dX5_referToMemory_152 : decode cX5_referToMemory 152 = .ok (.iadd, 1) := by decide +kernel
theorem dX5_referToMemory_153 : decode cX5_referToMemory 153 = .ok (.iload_n 3, 1) := by decide +kernel
theorem dX5_referToMemory_154 : decode cX5_referToMemory 154 = .ok (.invokevirtual 79, 3) := by decide +kernel
theorem dX5_referToMemory_157 : decode cX5_referToMemory 157 = .ok (.goto 137, 3) := by decide +kernel
theorem dX5_referToMemory_160 : decode cX5_referToMemory 160 = .ok (.aload_n 0, 1) := by decide +kernel
theorem dX5_referToMemory_161 : decode cX5_referToMemory 161 = .ok (.getfield 9, 3) := by decide +kernel
theorem dX5_referToMemory_164 : decode cX5_referToMemory 164 = .ok (.iconst 0, 1) := by decide +kernel
theorem dX5_referToMemory_165 : decode cX5_referToMemory 165 = .ok (.aload_n 0, 1) := by decide +kernel
theorem dX5_referToMemory_166 : decode cX5_referToMemory 166 = .ok (.getfield 9, 3) := by decide +kernel
theorem dX5_referToMemory_169 : decode cX5_referToMemory 169 = .ok (.iconst 0, 1) := by decide +kernel
theorem dX5_referToMemory_170 : decode cX5_referToMemory 170 = .ok (.invokevirtual 29, 3) := by decide +kernel
theorem dX5_referToMemory_173 : decode cX5_referToMemory 173 = .ok (.iload 5, 2) := by decide +kernel
theorem dX5_referToMemory_175 : decode cX5_referToMemory 175 = .ok (.ixor, 1) := by decide +kernel
theorem dX5_referToMemory_176 : decode cX5_referToMemory 176 = .ok (.invokevirtual 76, 3) := by decide +kernel
theorem dX5_referToMemory_179 : decode cX5_referToMemory 179 = .ok (.goto 115, 3) := by decide +kernel
theorem dX5_referToMemory_182 : decode cX5_referToMemory 182 = .ok (.aload_n 0, 1) := by decide +kernel
theorem dX5_referToMemory_183 : decode cX5_referToMemory 183 = .ok (.iload_n 2, 1) := by decide +kernel
theorem dX5_referToMemory_184 : decode cX5_referToMemory 184 = .ok (.iload_n 3, 1) := by decide +kernel
theorem dX5_referToMemory_185 : decode cX5_referToMemory 185 = .ok (.invokevirtual 79, 3) := by decide +kernel
theorem dX5_referToMemory_188 : decode cX5_referToMemory 188 = .ok (.goto 106, 3) := by decide +kernel
theorem dX5_referToMemory_191 : decode cX5_referToMemory 191 = .ok (.aload_n 0, 1) := by decide +kernel
theorem dX5_referToMemory_192 : decode cX5_referToMemory 192 = .ok (.getfield 9, 3) := by decide +kernel
theorem dX5_referToMemory_195 : decode cX5_referToMemory 195 = .ok (.iconst 0, 1) := by decide +kernel
theorem dX5_referToMemory_196 : decode cX5_referToMemory 196 = .ok (.aload_n 0, 1) := by decide +kernel
theorem dX5_referToMemory_197 : decode cX5_referToMemory 197 = .ok (.getfield 9, 3) := by decide +kernel
theorem dX5_referToMemory_200 : decode cX5_referToMemory 200 = .ok (.iconst 0, 1) := by decide +kernel
theorem dX5_referToMemory_201 : decode cX5_referToMemory 201 = .ok (.invokevirtual 29, 3) := by decide +kernel
theorem dX5_referToMemory_204 : decode cX5_referToMemory 204 = .ok (.iload 5, 2) := by decide +kernel
theorem dX5_referToMemory_206 : decode cX5_referToMemory 206 = .ok (.ior, 1) := by decide +kernel
theorem dX5_referToMemory_207 : decode cX5_referToMemory 207 = .ok (.invokevirtual 76, 3) := by decide +kernel
theorem dX5_referToMemory_210 : decode cX5_referToMemory 210 = .ok (.goto 84, 3) := by decide +kernel
theorem dX5_referToMemory_213 : decode cX5_referToMemory 213 = .ok (.aload_n 0, 1) := by decide +kernel
theorem dX5_referToMemory_214 : decode cX5_referToMemory 214 = .ok (.iload_n 2, 1) := by decide +kernel
theorem dX5_referToMemory_215 : decode cX5_referToMemory 215 = .ok (.iload 5, 2) := by decide +kernel
theorem dX5_referToMemory_217 : decode cX5_referToMemory 217 = .ok (.invokevirtual 83, 3) := by decide +kernel
theorem dX5_referToMemory_220 : decode cX5_referToMemory 220 = .ok (.goto 74, 3) := by decide +kernel
theorem dX5_referToMemory_223 : decode cX5_referToMemory 223 = .ok (.aload_n 0, 1) := by decide +kernel
theorem dX5_referToMemory_224 : decode cX5_referToMemory 224 = .ok (.iload 4, 2) := by decide +kernel
theorem dX5_referToMemory_226 : decode cX5_referToMemory 226 = .ok (.iload 5, 2) := by decide +kernel
theorem dX5_referToMemory_228 : decode cX5_referToMemory 228 = .ok (.invokevirtual 86, 3) := by decide +kernel
theorem dX5_referToMemory_231 : decode cX5_referToMemory 231 = .ok (.goto 63, 3) := by decide +kernel
theorem dX5_referToMemory_234 : decode cX5_referToMemory 234 = .ok (.aload_n 0, 1) := by decide +kernel
theorem dX5_referToMemory_235 : decode cX5_referToMemory 235 = .ok (.aload_n 0, 1) := by decide +kernel
theorem dX5_referToMemory_236 : decode cX5_referToMemory 236 = .ok (.getfield 9, 3) := by decide +kernel
theorem dX5_referToMemory_239 : decode cX5_referToMemory 239 = .ok (.iload 4, 2) := by decide +kernel
theorem dX5_referToMemory_241 : decode cX5_referToMemory 241 = .ok (.invokevirtual 29, 3) := by decide +kernel
theorem dX5_referToMemory_244 : decode cX5_referToMemory 244 = .ok (.iload 5, 2) := by decide +kernel
theorem dX5_referToMemory_246 : decode cX5_referToMemory 246 = .ok (.if_icmp .eq 7, 3) := by decide +kernel
theorem dX5_referToMemory_249 : decode cX5_referToMemory 249 = .ok (.iconst 1, 1) := by decide +kernel
theorem dX5_referToMemory_250 : decode cX5_referToMemory 250 = .ok (.goto 4, 3) := by decide +kernel
theorem dX5_referToMemory_253 : decode cX5_referToMemory 253 = .ok (.iconst 0, 1) := by decide +kernel
theorem dX5_referToMemory_254 : decode cX5_referToMemory 254 = .ok (.invokevirtual 89, 3) := by decide +kernel
theorem dX5_referToMemory_257 : decode cX5_referToMemory 257 = .ok (.goto 37, 3) := by decide +kernel
theorem dX5_referToMemory_260 : decode cX5_referToMemory 260 = .ok (.aload_n 0, 1) := by decide +kernel
theorem dX5_referToMemory_261 : decode cX5_referToMemory 261 = .ok (.getfield 9, 3) := by decide +kernel
theorem dX5_referToMemory_264 : decode cX5_referToMemory 264 = .ok (.iload 4, 2) := by decide +kernel
theorem dX5_referToMemory_266 : decode cX5_referToMemory 266 = .ok (.iload 5, 2) := by decide +kernel
theorem dX5_referToMemory_268 : decode cX5_referToMemory 268 = .ok (.invokevirtual 76, 3) := by decide +kernel
theorem dX5_referToMemory_271 : decode cX5_referToMemory 271 = .ok (.goto 23, 3) := by decide +kernel
theorem dX5_referToMemory_274 : decode cX5_referToMemory 274 = .ok (.aload_n 0, 1) := by decide +kernel
theorem dX5_referToMemory_275 : decode cX5_referToMemory 275 = .ok (.getfield 9, 3) := by decide +kernel
theorem dX5_referToMemory_278 : decode cX5_referToMemory 278 = .ok (.iload_n 2, 1) := by decide +kernel
theorem dX5_referToMemory_279 : decode cX5_referToMemory 279 = .ok (.aload_n 0, 1) := by decide +kernel
theorem dX5_referToMemory_280 : decode cX5_referToMemory 280 = .ok (.getfield 9, 3) := by decide +kernel
theorem dX5_referToMemory_283 : decode cX5_referToMemory 283 = .ok (.iload 4, 2) := by decide +kernel
theorem dX5_referToMemory_285 : decode cX5_referToMemory 285 = .ok (.invokevirtual 29, 3) := by decide +kernel
theorem dX5_referToMemory_288 : decode cX5_referToMemory 288 = .ok (.invokevirtual 76, 3) := by decide +kernel
theorem dX5_referToMemory_291 : decode cX5_referToMemory 291 = .ok (.goto 3, 3) := by decide +kernel
theorem dX5_referToMemory_294 : decode cX5_referToMemory 294 = .ok (.return_, 1) := by decide +kernel
theorem dX5_registerOf_0 : decode cX5_registerOf 0 = .ok (.iload_n 0, 1) := by decide +kernel
theorem dX5_registerOf_1 : decode cX5_registerOf 1 = .ok (.sipush 2048, 3) := by decide +kernel
theorem dX5_registerOf_4 : decode cX5_registerOf 4 = .ok (.iand, 1) := by decide +kernel
theorem dX5_registerOf_5 : decode cX5_registerOf 5 = .ok (.ifCond .ne 7, 3) := by decide +kernel
theorem dX5_registerOf_8 : decode cX5_registerOf 8 = .ok (.iconst 0, 1) := by decide +kernel
theorem dX5_registerOf_9 : decode cX5_registerOf 9 = .ok (.goto 4, 3) := by decide +kernel
theorem dX5_registerOf_12 : decode cX5_registerOf 12 = .ok (.iconst 1, 1) := by decide +kernel
theorem dX5_registerOf_13 : decode cX5_registerOf 13 = .ok (.ireturn, 1) := by decide +kernel
set_option maxRecDepth 20000 in
theorem ggX5_skipIf_X6_stepOn : GoodIn wsX5_skipIf wsX6_stepOn := goodIn_r _ [6, 7, 11, 12, 13, 14, 15, 16] (by decide +kernel) (by decide +kernel)
set_option maxRecDepth 20000 in
theorem gX5_skipIf_X6_stepOn : GoodIn wsX5_skipIf (wsV RX5 35 RX6 yX6_stepOn wsX6_stepOn) := goodIn_app (goodIn_of _ (by decide +kernel)) ggX5_skipIf_X6_stepOn
theorem dX5_skipIf_0 : decode cX5_skipIf 0 = .ok (.iload_n 1, 1) := by decide +kernel
theorem dX5_skipIf_1 : decode cX5_skipIf 1 = .ok (.ifCond .eq 10, 3) := by decide +kernel
theorem dX5_skipIf_4 : decode cX5_skipIf 4 = .ok (.aload_n 0, 1) := by decide +kernel
theorem dX5_skipIf_5 : decode cX5_skipIf 5 = .ok (.getfield 15, 3) := by decide +kernel
theorem dX5_skipIf_8 : decode cX5_skipIf 8 = .ok (.invokevirtual 35, 3) := by decide +kernel
theorem dX5_skipIf_11 : decode cX5_skipIf 11 = .ok (.return_, 1) := by decide +kernel
theorem dX5_jump_0 : decode cX5_jump 0 = .ok (.aload_n 0, 1) := by decide +kernel
theorem dX5_jump_1 : decode cX5_jump 1 = .ok (.getfield 15, 3) := by decide +kernel
theorem dX5_jump_4 : decode cX5_jump 4 = .ok (.iload_n 1, 1) := by decide +kernel
theorem dX5_jump_5 : decode cX5_jump 5 = .ok (.sipush 32767, 3) := by decide +kernel
theorem dX5_jump_8 : decode cX5_jump 8 = .ok (.iand, 1) := by decide +kernel
theorem dX5_jump_9 : decode cX5_jump 9 = .ok (.putfield 23, 3) := by decide +kernel
theorem dX5_jump_12 : decode cX5_jump 12 = .ok (.aload_n 0, 1) := by decide +kernel
theorem dX5_jump_13 : decode cX5_jump 13 = .ok (.getfield 15, 3) := by decide +kernel
theorem dX5_jump_16 : decode cX5_jump 16 = .ok (.iload_n 2, 1) := by decide +kernel
theorem dX5_jump_17 : decode cX5_jump 17 = .ok (.putfield 93, 3) := by decide +kernel
theorem dX5_jump_20 : decode cX5_jump 20 = .ok (.return_, 1) := by decide +kernel
set_option maxRecDepth 20000 in
theorem ggX5_incrementAndSkip_X4_write : GoodIn wsX5_incrementAndSkip wsX4_write := goodIn_r _ [7, 8, 9, 25] (by decide +kernel) (by decide +kernel)
set_option maxRecDepth 20000 in
theorem gX5_incrementAndSkip_X4_write : GoodIn wsX5_incrementAndSkip (wsV RX5 76 RX4 yX4_write wsX4_write) := goodIn_app (goodIn_of _ (by decide +kernel)) ggX5_incrementAndSkip_X4_write
set_option maxRecDepth 20000 in
theorem ggX5_incrementAndSkip_X5_skipIf : GoodIn wsX5_incrementAndSkip wsX5_skipIf := goodIn_r _ [14, 15, 16, 17, 18, 19, 20, 21, 22, 23, 24, 26, 27, 28, 29, 30, 31] (by decide +kernel) (by decide +kernel)
set_option maxRecDepth 20000 in
theorem gX5_incrementAndSkip_X5_skipIf : GoodIn wsX5_incrementAndSkip (wsV RX5 89 RX5 yX5_skipIf wsX5_skipIf) := goodIn_app (goodIn_of _ (by decide +kernel)) ggX5_incrementAndSkip_X5_skipIf
theorem dX5_incrementAndSkip_0 : decode cX5_incrementAndSkip 0 = .ok (.iload_n 2, 1) := by decide +kernel
theorem dX5_incrementAndSkip_1 : decode cX5_incrementAndSkip 1 = .ok (.iconst 1, 1) := by decide +kernel
theorem dX5_incrementAndSkip_2 : decode cX5_incrementAndSkip 2 = .ok (.iadd, 1) := by decide +kernel
theorem dX5_incrementAndSkip_3 : decode cX5_incrementAndSkip 3 = .ok (.ldc 97, 2) := by decide +kernel
theorem dX5_incrementAndSkip_5 : decode cX5_incrementAndSkip 5 = .ok (.iand, 1) := by decide +kernel
theorem dX5_incrementAndSkip_6 : decode cX5_incrementAndSkip 6 = .ok (.istore_n 3, 1) := by decide +kernel
theorem dX5_incrementAndSkip_7 : decode cX5_incrementAndSkip 7 = .ok (.aload_n 0, 1) := by decide +kernel
theorem dX5_incrementAndSkip_8 : decode cX5_incrementAndSkip 8 = .ok (.getfield 9, 3) := by decide +kernel
theorem dX5_incrementAndSkip_11 : decode cX5_incrementAndSkip 11 = .ok (.iload_n 1, 1) := by decide +kernel
theorem dX5_incrementAndSkip_12 : decode cX5_incrementAndSkip 12 = .ok (.iload_n 3, 1) := by decide +kernel
theorem dX5_incrementAndSkip_13 : decode cX5_incrementAndSkip 13 = .ok (.invokevirtual 76, 3) := by decide +kernel
theorem dX5_incrementAndSkip_16 : decode cX5_incrementAndSkip 16 = .ok (.aload_n 0, 1) := by decide +kernel
theorem dX5_incrementAndSkip_17 : decode cX5_incrementAndSkip 17 = .ok (.iload_n 3, 1) := by decide +kernel
theorem dX5_incrementAndSkip_18 : decode cX5_incrementAndSkip 18 = .ok (.ifCond .ne 7, 3) := by decide +kernel
theorem dX5_incrementAndSkip_21 : decode cX5_incrementAndSkip 21 = .ok (.iconst 1, 1) := by decide +kernel
theorem dX5_incrementAndSkip_22 : decode cX5_incrementAndSkip 22 = .ok (.goto 4, 3) := by decide +kernel
theorem dX5_incrementAndSkip_25 : decode cX5_incrementAndSkip 25 = .ok (.iconst 0, 1) := by decide +kernel
theorem dX5_incrementAndSkip_26 : decode cX5_incrementAndSkip 26 = .ok (.invokevirtual 89, 3) := by decide +kernel
theorem dX5_incrementAndSkip_29 : decode cX5_incrementAndSkip 29 = .ok (.return_, 1) := by decide +kernel
set_option maxRecDepth 20000 in
theorem ggX5_add_X4_read : GoodIn wsX5_add wsX4_read := goodIn_r _ [9, 10, 25] (by decide +kernel) (by decide +kernel)
set_option maxRecDepth 20000 in
theorem gX5_add_X4_read : GoodIn wsX5_add (wsV RX5 29 RX4 yX4_read wsX4_read) := goodIn_app (goodIn_of _ (by decide +kernel)) ggX5_add_X4_read
set_option maxRecDepth 20000 in
theorem ggX5_add_X4_write : GoodIn wsX5_add wsX4_write := goodIn_r _ [14, 10, 15, 25] (by decide +kernel) (by decide +kernel)
set_option maxRecDepth 20000 in
theorem gX5_add_X4_write : GoodIn wsX5_add (wsV RX5 76 RX4 yX4_write wsX4_write) := goodIn_app (goodIn_of _ (by decide +kernel)) ggX5_add_X4_write
theorem dX5_add_0 : decode cX5_add 0 = .ok (.aload_n 0, 1) := by decide +kernel
theorem dX5_add_1 : decode cX5_add 1 = .ok (.getfield 9, 3) := by decide +kernel
theorem dX5_add_4 : decode cX5_add 4 = .ok (.iload_n 1, 1) := by decide +kernel
theorem dX5_add_5 : decode cX5_add 5 = .ok (.invokevirtual 29, 3) := by decide +kernel
theorem dX5_add_8 : decode cX5_add 8 = .ok (.istore_n 3, 1) := by decide +kernel
theorem dX5_add_9 : decode cX5_add 9 = .ok (.iload_n 3, 1) := by decide +kernel
theorem dX5_add_10 : decode cX5_add 10 = .ok (.iload_n 2, 1) := by decide +kernel
theorem dX5_add_11 : decode cX5_add 11 = .ok (.iadd, 1) := by decide +kernel
theorem dX5_add_12 : decode cX5_add 12 = .ok (.istore 4, 2) := by decide +kernel
theorem dX5_add_14 : decode cX5_add 14 = .ok (.aload_n 0, 1) := by decide +kernel
theorem dX5_add_15 : decode cX5_add 15 = .ok (.getfield 9, 3) := by decide +kernel
theorem dX5_add_18 : decode cX5_add 18 = .ok (.iload_n 1, 1) := by decide +kernel
theorem dX5_add_19 : decode cX5_add 19 = .ok (.iload 4, 2) := by decide +kernel
theorem dX5_add_21 : decode cX5_add 21 = .ok (.invokevirtual 76, 3) := by decide +kernel
theorem dX5_add_24 : decode cX5_add 24 = .ok (.iload 4, 2) := by decide +kernel
theorem dX5_add_26 : decode cX5_add 26 = .ok (.ldc 97, 2) := by decide +kernel
theorem dX5_add_28 : decode cX5_add 28 = .ok (.if_icmp .le 11, 3) := by decide +kernel
theorem dX5_add_31 : decode cX5_add 31 = .ok (.aload_n 0, 1) := by decide +kernel
theorem dX5_add_32 : decode cX5_add 32 = .ok (.getfield 15, 3) := by decide +kernel
theorem dX5_add_35 : decode cX5_add 35 = .ok (.iconst 1, 1) := by decide +kernel
theorem dX5_add_36 : decode cX5_add 36 = .ok (.putfield 98, 3) := by decide +kernel
theorem dX5_add_39 : decode cX5_add 39 = .ok (.iload_n 3, 1) := by decide +kernel
theorem dX5_add_40 : decode cX5_add 40 = .ok (.iload 4, 2) := by decide +kernel
theorem dX5_add_42 : decode cX5_add 42 = .ok (.ixor, 1) := by decide +kernel
theorem dX5_add_43 : decode cX5_add 43 = .ok (.iload_n 2, 1) := by decide +kernel
theorem dX5_add_44 : decode cX5_add 44 = .ok (.iload 4, 2) := by decide +kernel
theorem dX5_add_46 : decode cX5_add 46 = .ok (.ixor, 1) := by decide +kernel
theorem dX5_add_47 : decode cX5_add 47 = .ok (.iand, 1) := by decide +kernel
theorem dX5_add_48 : decode cX5_add 48 = .ok (.ldc 38, 2) := by decide +kernel
theorem dX5_add_50 : decode cX5_add 50 = .ok (.iand, 1) := by decide +kernel
theorem dX5_add_51 : decode cX5_add 51 = .ok (.ifCond .eq 11, 3) := by decide +kernel
theorem dX5_add_54 : decode cX5_add 54 = .ok (.aload_n 0, 1) := by decide +kernel
theorem dX5_add_55 : decode cX5_add 55 = .ok (.getfield 15, 3) := by decide +kernel
theorem dX5_add_58 : decode cX5_add 58 = .ok (.iconst 1, 1) := by decide +kernel
theorem dX5_add_59 : decode cX5_add 59 = .ok (.putfield 101, 3) := by decide +kernel
theorem dX5_add_62 : decode cX5_add 62 = .ok (.return_, 1) := by decide +kernel
set_option maxRecDepth 20000 in
theorem ggX5_shiftAndSkip_X5_registerOf : GoodIn wsX5_shiftAndSkip wsX5_registerOf := goodIn_r _ [6] (by decide +kernel) (by decide +kernel)
set_option maxRecDepth 20000 in
theorem gX5_shiftAndSkip_X5_registerOf : GoodIn wsX5_shiftAndSkip (va_wsS RX5 73 yX5_registerOf wsX5_registerOf) := goodIn_app (goodIn_of _ (by decide +kernel)) ggX5_shiftAndSkip_X5_registerOf
set_option maxRecDepth 20000 in
theorem ggX5_shiftAndSkip_X4_read : GoodIn wsX5_shiftAndSkip wsX4_read := goodIn_r _ [11, 12, 47] (by decide +kernel) (by decide +kernel)
set_option maxRecDepth 20000 in
theorem gX5_shiftAndSkip_X4_read : GoodIn wsX5_shiftAndSkip (wsV RX5 29 RX4 yX4_read wsX4_read) := goodIn_app (goodIn_of _ (by decide +kernel)) ggX5_shiftAndSkip_X4_read
set_option maxRecDepth 20000 in
theorem ggX5_shiftAndSkip_X5_shifted : GoodIn wsX5_shiftAndSkip wsX5_shifted := goodIn_r _ [16, 17, 18, 2, 19, 20, 21, 5, 22, 38, 39, 40, 41, 42, 43, 44, 45, 46] (by decide +kernel) (by decide +kernel)
set_option maxRecDepth 20000 in
theorem gX5_shiftAndSkip_X5_shifted : GoodIn wsX5_shiftAndSkip (wsV RX5 104 RX5 yX5_shifted wsX5_shifted) := goodIn_app (goodIn_of _ (by decide +kernel)) ggX5_shiftAndSkip_X5_shifted
set_option maxRecDepth 20000 in
theorem ggX5_shiftAndSkip_X4_write : GoodIn wsX5_shiftAndSkip wsX4_write := goodIn_r _ [26, 12, 27, 47] (by decide +kernel) (by decide +kernel)
set_option maxRecDepth 20000 in
theorem gX5_shiftAndSkip_X4_write : GoodIn wsX5_shiftAndSkip (wsV RX5 76 RX4 yX4_write wsX4_write) := goodIn_app (goodIn_of _ (by decide +kernel)) ggX5_shiftAndSkip_X4_write
set_option maxRecDepth 20000 in
theorem ggX5_shiftAndSkip_X5_skipIf : GoodIn wsX5_shiftAndSkip wsX5_skipIf := goodIn_r _ [31, 2, 32, 33, 34, 35, 36, 37, 38, 39, 40, 41, 42, 43, 44, 45, 46] (by decide +kernel) (by decide +kernel)
set_option maxRecDepth 20000 in
theorem gX5_shiftAndSkip_X5_skipIf : GoodIn wsX5_shiftAndSkip (wsV RX5 89 RX5 yX5_skipIf wsX5_skipIf) := goodIn_app (goodIn_of _ (by decide +kernel)) ggX5_shiftAndSkip_X5_skipIf
theorem dX5_shiftAndSkip_0 : decode cX5_shiftAndSkip 0 = .ok (.iload_n 1, 1) := by decide +kernel
theorem dX5_shiftAndSkip_1 : decode cX5_shiftAndSkip 1 = .ok (.invokestatic 73, 3) := by decide +kernel
theorem dX5_shiftAndSkip_4 : decode cX5_shiftAndSkip 4 = .ok (.istore_n 2, 1) := by decide +kernel
theorem dX5_shiftAndSkip_5 : decode cX5_shiftAndSkip 5 = .ok (.iload_n 1, 1) := by decide +kernel
theorem dX5_shiftAndSkip_6 : decode cX5_shiftAndSkip 6 = .ok (.sipush 512, 3) := by decide +kernel
theorem dX5_shiftAndSkip_9 : decode cX5_shiftAndSkip 9 = .ok (.iand, 1) := by decide +kernel
theorem dX5_shiftAndSkip_10 : decode cX5_shiftAndSkip 10 = .ok (.ifCond .eq 30, 3) := by decide +kernel
theorem dX5_shiftAndSkip_13 : decode cX5_shiftAndSkip 13 = .ok (.aload_n 0, 1) := by decide +kernel
theorem dX5_shiftAndSkip_14 : decode cX5_shiftAndSkip 14 = .ok (.getfield 9, 3) := by decide +kernel
theorem dX5_shiftAndSkip_17 : decode cX5_shiftAndSkip 17 = .ok (.iload_n 2, 1) := by decide +kernel
theorem dX5_shiftAndSkip_18 : decode cX5_shiftAndSkip 18 = .ok (.aload_n 0, 1) := by decide +kernel
theorem dX5_shiftAndSkip_19 : decode cX5_shiftAndSkip 19 = .ok (.aload_n 0, 1) := by decide +kernel
theorem dX5_shiftAndSkip_20 : decode cX5_shiftAndSkip 20 = .ok (.getfield 9, 3) := by decide +kernel
theorem dX5_shiftAndSkip_23 : decode cX5_shiftAndSkip 23 = .ok (.iload_n 2, 1) := by decide +kernel
theorem dX5_shiftAndSkip_24 : decode cX5_shiftAndSkip 24 = .ok (.invokevirtual 29, 3) := by decide +kernel
theorem dX5_shiftAndSkip_27 : decode cX5_shiftAndSkip 27 = .ok (.iload_n 1, 1) := by decide +kernel
theorem dX5_shiftAndSkip_28 : decode cX5_shiftAndSkip 28 = .ok (.bipush 6, 2) := by decide +kernel
theorem dX5_shiftAndSkip_30 : decode cX5_shiftAndSkip 30 = .ok (.ishr, 1) := by decide +kernel
theorem dX5_shiftAndSkip_31 : decode cX5_shiftAndSkip 31 = .ok (.bipush 7, 2) := by decide +kernel
theorem dX5_shiftAndSkip_33 : decode cX5_shiftAndSkip 33 = .ok (.iand, 1) := by decide +kernel
theorem dX5_shiftAndSkip_34 : decode cX5_shiftAndSkip 34 = .ok (.invokevirtual 104, 3) := by decide +kernel
theorem dX5_shiftAndSkip_37 : decode cX5_shiftAndSkip 37 = .ok (.invokevirtual 76, 3) := by decide +kernel
theorem dX5_shiftAndSkip_40 : decode cX5_shiftAndSkip 40 = .ok (.iload_n 1, 1) := by decide +kernel
theorem dX5_shiftAndSkip_41 : decode cX5_shiftAndSkip 41 = .ok (.bipush 32, 2) := by decide +kernel
theorem dX5_shiftAndSkip_43 : decode cX5_shiftAndSkip 43 = .ok (.iand, 1) := by decide +kernel
theorem dX5_shiftAndSkip_44 : decode cX5_shiftAndSkip 44 = .ok (.ifCond .eq 11, 3) := by decide +kernel
theorem dX5_shiftAndSkip_47 : decode cX5_shiftAndSkip 47 = .ok (.aload_n 0, 1) := by decide +kernel
theorem dX5_shiftAndSkip_48 : decode cX5_shiftAndSkip 48 = .ok (.getfield 15, 3) := by decide +kernel
theorem dX5_shiftAndSkip_51 : decode cX5_shiftAndSkip 51 = .ok (.iconst 0, 1) := by decide +kernel
theorem dX5_shiftAndSkip_52 : decode cX5_shiftAndSkip 52 = .ok (.putfield 98, 3) := by decide +kernel
theorem dX5_shiftAndSkip_55 : decode cX5_shiftAndSkip 55 = .ok (.aload_n 0, 1) := by decide +kernel
theorem dX5_shiftAndSkip_56 : decode cX5_shiftAndSkip 56 = .ok (.iload_n 1, 1) := by decide +kernel
theorem dX5_shiftAndSkip_57 : decode cX5_shiftAndSkip 57 = .ok (.bipush 8, 2) := by decide +kernel
theorem dX5_shiftAndSkip_59 : decode cX5_shiftAndSkip 59 = .ok (.iand, 1) := by decide +kernel
theorem dX5_shiftAndSkip_60 : decode cX5_shiftAndSkip 60 = .ok (.ifCond .eq 20, 3) := by decide +kernel
theorem dX5_shiftAndSkip_63 : decode cX5_shiftAndSkip 63 = .ok (.aload_n 0, 1) := by decide +kernel
theorem dX5_shiftAndSkip_64 : decode cX5_shiftAndSkip 64 = .ok (.getfield 9, 3) := by decide +kernel
theorem dX5_shiftAndSkip_67 : decode cX5_shiftAndSkip 67 = .ok (.iload_n 2, 1) := by decide +kernel
theorem dX5_shiftAndSkip_68 : decode cX5_shiftAndSkip 68 = .ok (.invokevirtual 29, 3) := by decide +kernel
theorem dX5_shiftAndSkip_71 : decode cX5_shiftAndSkip 71 = .ok (.iconst 1, 1) := by decide +kernel
theorem dX5_shiftAndSkip_72 : decode cX5_shiftAndSkip 72 = .ok (.iand, 1) := by decide +kernel
theorem dX5_shiftAndSkip_73 : decode cX5_shiftAndSkip 73 = .ok (.ifCond .ne 7, 3) := by decide +kernel
theorem dX5_shiftAndSkip_76 : decode cX5_shiftAndSkip 76 = .ok (.iconst 1, 1) := by decide +kernel
theorem dX5_shiftAndSkip_77 : decode cX5_shiftAndSkip 77 = .ok (.goto 4, 3) := by decide +kernel
theorem dX5_shiftAndSkip_80 : decode cX5_shiftAndSkip 80 = .ok (.iconst 0, 1) := by decide +kernel
theorem dX5_shiftAndSkip_81 : decode cX5_shiftAndSkip 81 = .ok (.invokevirtual 89, 3) := by decide +kernel
theorem dX5_shiftAndSkip_84 : decode cX5_shiftAndSkip 84 = .ok (.iload_n 1, 1) := by decide +kernel
theorem dX5_shiftAndSkip_85 : decode cX5_shiftAndSkip 85 = .ok (.bipush 16, 2) := by decide +kernel
theorem dX5_shiftAndSkip_87 : decode cX5_shiftAndSkip 87 = .ok (.iand, 1) := by decide +kernel
theorem dX5_shiftAndSkip_88 : decode cX5_shiftAndSkip 88 = .ok (.ifCond .eq 27, 3) := by decide +kernel
theorem dX5_shiftAndSkip_91 : decode cX5_shiftAndSkip 91 = .ok (.aload_n 0, 1) := by decide +kernel
theorem dX5_shiftAndSkip_92 : decode cX5_shiftAndSkip 92 = .ok (.getfield 9, 3) := by decide +kernel
theorem dX5_shiftAndSkip_95 : decode cX5_shiftAndSkip 95 = .ok (.iload_n 2, 1) := by decide +kernel
theorem dX5_shiftAndSkip_96 : decode cX5_shiftAndSkip 96 = .ok (.aload_n 0, 1) := by decide +kernel
theorem dX5_shiftAndSkip_97 : decode cX5_shiftAndSkip 97 = .ok (.aload_n 0, 1) := by decide +kernel
theorem dX5_shiftAndSkip_98 : decode cX5_shiftAndSkip 98 = .ok (.getfield 9, 3) := by decide +kernel
theorem dX5_shiftAndSkip_101 : decode cX5_shiftAndSkip 101 = .ok (.iload_n 2, 1) := by decide +kernel
theorem dX5_shiftAndSkip_102 : decode cX5_shiftAndSkip 102 = .ok (.invokevirtual 29, 3) := by decide +kernel
theorem dX5_shiftAndSkip_105 : decode cX5_shiftAndSkip 105 = .ok (.iload_n 1, 1) := by decide +kernel
theorem dX5_shiftAndSkip_106 : decode cX5_shiftAndSkip 106 = .ok (.bipush 7, 2) := by decide +kernel
theorem dX5_shiftAndSkip_108 : decode cX5_shiftAndSkip 108 = .ok (.iand, 1) := by decide +kernel
theorem dX5_shiftAndSkip_109 : decode cX5_shiftAndSkip 109 = .ok (.invokevirtual 104, 3) := by decide +kernel
theorem dX5_shiftAndSkip_112 : decode cX5_shiftAndSkip 112 = .ok (.invokevirtual 76, 3) := by decide +kernel
theorem dX5_shiftAndSkip_115 : decode cX5_shiftAndSkip 115 = .ok (.return_, 1) := by decide +kernel
set_option maxRecDepth 20000 in
theorem ggX5_shifted_X5_throughE : GoodIn wsX5_shifted wsX5_throughE := goodIn_r _ [8, 3, 9, 10, 11, 12, 13, 14, 15, 16, 17] (by decide +kernel) (by decide +kernel)
set_option maxRecDepth 20000 in
theorem gX5_shifted_X5_throughE : GoodIn wsX5_shifted (wsV RX5 108 RX5 yX5_throughE wsX5_throughE) := goodIn_app (goodIn_of _ (by decide +kernel)) ggX5_shifted_X5_throughE
theorem dX5_shifted_0 : decode cX5_shifted 0 = .ok (.iload_n 2, 1) := by decide +kernel
theorem dX5_shifted_1 : decode cX5_shifted 1 = .ok (.tableswitch 142 0 6 #[43, 56, 65, 77, 89, 97, 119], 43) := by decide +kernel
theorem dX5_shifted_44 : decode cX5_shifted 44 = .ok (.iload_n 1, 1) := by decide +kernel
theorem dX5_shifted_45 : decode cX5_shifted 45 = .ok (.ldc 38, 2) := by decide +kernel
theorem dX5_shifted_47 : decode cX5_shifted 47 = .ok (.iand, 1) := by decide +kernel
theorem dX5_shifted_48 : decode cX5_shifted 48 = .ok (.iload_n 1, 1) := by decide +kernel
theorem dX5_shifted_49 : decode cX5_shifted 49 = .ok (.iconst 1, 1) := by decide +kernel
theorem dX5_shifted_50 : decode cX5_shifted 50 = .ok (.ishl, 1) := by decide +kernel
theorem dX5_shifted_51 : decode cX5_shifted 51 = .ok (.sipush 32767, 3) := by decide +kernel
theorem dX5_shifted_54 : decode cX5_shifted 54 = .ok (.iand, 1) := by decide +kernel
theorem dX5_shifted_55 : decode cX5_shifted 55 = .ok (.ior, 1) := by decide +kernel
theorem dX5_shifted_56 : decode cX5_shifted 56 = .ok (.ireturn, 1) := by decide +kernel
theorem dX5_shifted_57 : decode cX5_shifted 57 = .ok (.iload_n 1, 1) := by decide +kernel
theorem dX5_shifted_58 : decode cX5_shifted 58 = .ok (.ldc 38, 2) := by decide +kernel
theorem dX5_shifted_60 : decode cX5_shifted 60 = .ok (.iand, 1) := by decide +kernel
theorem dX5_shifted_61 : decode cX5_shifted 61 = .ok (.iload_n 1, 1) := by decide +kernel
theorem dX5_shifted_62 : decode cX5_shifted 62 = .ok (.iconst 1, 1) := by decide +kernel
theorem dX5_shifted_63 : decode cX5_shifted 63 = .ok (.ishr, 1) := by decide +kernel
theorem dX5_shifted_64 : decode cX5_shifted 64 = .ok (.ior, 1) := by decide +kernel
theorem dX5_shifted_65 : decode cX5_shifted 65 = .ok (.ireturn, 1) := by decide +kernel
theorem dX5_shifted_66 : decode cX5_shifted 66 = .ok (.iload_n 1, 1) := by decide +kernel
theorem dX5_shifted_67 : decode cX5_shifted 67 = .ok (.iconst 1, 1) := by decide +kernel
theorem dX5_shifted_68 : decode cX5_shifted 68 = .ok (.ishl, 1) := by decide +kernel
theorem dX5_shifted_69 : decode cX5_shifted 69 = .ok (.iload_n 1, 1) := by decide +kernel
theorem dX5_shifted_70 : decode cX5_shifted 70 = .ok (.bipush 15, 2) := by decide +kernel
theorem dX5_shifted_72 : decode cX5_shifted 72 = .ok (.ishr, 1) := by decide +kernel
theorem dX5_shifted_73 : decode cX5_shifted 73 = .ok (.ior, 1) := by decide +kernel
theorem dX5_shifted_74 : decode cX5_shifted 74 = .ok (.ldc 97, 2) := by decide +kernel
theorem dX5_shifted_76 : decode cX5_shifted 76 = .ok (.iand, 1) := by decide +kernel
theorem dX5_shifted_77 : decode cX5_shifted 77 = .ok (.ireturn, 1) := by decide +kernel
theorem dX5_shifted_78 : decode cX5_shifted 78 = .ok (.iload_n 1, 1) := by decide +kernel
theorem dX5_shifted_79 : decode cX5_shifted 79 = .ok (.iconst 1, 1) := by decide +kernel
theorem dX5_shifted_80 : decode cX5_shifted 80 = .ok (.ishr, 1) := by decide +kernel
theorem dX5_shifted_81 : decode cX5_shifted 81 = .ok (.iload_n 1, 1) := by decide +kernel
theorem dX5_shifted_82 : decode cX5_shifted 82 = .ok (.bipush 15, 2) := by decide +kernel
theorem dX5_shifted_84 : decode cX5_shifted 84 = .ok (.ishl, 1) := by decide +kernel
end
section
theorem dX5_shifted_85 : decode cX5_shifted 85 = .ok (.ior, 1) := by decide +kernel
theorem dX5_shifted_86 : decode cX5_shifted 86 = .ok (.ldc 97, 2) := by decide +kernel
theorem dX5_shifted_88 : decode cX5_shifted 88 = .ok (.iand, 1) := by decide +kernel
theorem dX5_shifted_89 : decode cX5_shifted 89 = .ok (.ireturn, 1) := by decide +kernel
theorem dX5_shifted_90 : decode cX5_shifted 90 = .ok (.iload_n 1, 1) := by decide +kernel
theorem dX5_shifted_91 : decode cX5_shifted 91 = .ok (.iconst 1, 1) := by decide +kernel
theorem dX5_shifted_92 : decode cX5_shifted 92 = .ok (.ishl, 1) := by decide +kernel
theorem dX5_shifted_93 : decode cX5_shifted 93 = .ok (.sipush 32767, 3) := by decide +kernel
theorem dX5_shifted_96 : decode cX5_shifted 96 = .ok (.iand, 1) := by decide +kernel
theorem dX5_shifted_97 : decode cX5_shifted 97 = .ok (.ireturn, 1) := by decide +kernel
theorem dX5_shifted_98 : decode cX5_shifted 98 = .ok (.aload_n 0, 1) := by decide +kernel
theorem dX5_shifted_99 : decode cX5_shifted 99 = .ok (.iload_n 1, 1) := by decide +kernel
theorem dX5_shifted_100 : decode cX5_shifted 100 = .ok (.iconst 1, 1) := by decide +kernel
theorem dX5_shifted_101 : decode cX5_shifted 101 = .ok (.iand, 1) := by decide +kernel
theorem dX5_shifted_102 : decode cX5_shifted 102 = .ok (.iload_n 1, 1) := by decide +kernel
theorem dX5_shifted_103 : decode cX5_shifted 103 = .ok (.iconst 1, 1) := by decide +kernel
theorem dX5_shifted_104 : decode cX5_shifted 104 = .ok (.ishr, 1) := by decide +kernel
theorem dX5_shifted_105 : decode cX5_shifted 105 = .ok (.aload_n 0, 1) := by decide +kernel
theorem dX5_shifted_106 : decode cX5_shifted 106 = .ok (.getfield 15, 3) := by decide +kernel
theorem dX5_shifted_109 : decode cX5_shifted 109 = .ok (.getfield 98, 3) := by decide +kernel
theorem dX5_shifted_112 : decode cX5_shifted 112 = .ok (.bipush 15, 2) := by decide +kernel
theorem dX5_shifted_114 : decode cX5_shifted 114 = .ok (.ishl, 1) := by decide +kernel
theorem dX5_shifted_115 : decode cX5_shifted 115 = .ok (.ior, 1) := by decide +kernel
theorem dX5_shifted_116 : decode cX5_shifted 116 = .ok (.invokevirtual 108, 3) := by decide +kernel
theorem dX5_shifted_119 : decode cX5_shifted 119 = .ok (.ireturn, 1) := by decide +kernel
theorem dX5_shifted_120 : decode cX5_shifted 120 = .ok (.aload_n 0, 1) := by decide +kernel
theorem dX5_shifted_121 : decode cX5_shifted 121 = .ok (.iload_n 1, 1) := by decide +kernel
theorem dX5_shifted_122 : decode cX5_shifted 122 = .ok (.bipush 15, 2) := by decide +kernel
theorem dX5_shifted_124 : decode cX5_shifted 124 = .ok (.ishr, 1) := by decide +kernel
theorem dX5_shifted_125 : decode cX5_shifted 125 = .ok (.iload_n 1, 1) := by decide +kernel
theorem dX5_shifted_126 : decode cX5_shifted 126 = .ok (.iconst 1, 1) := by decide +kernel
theorem dX5_shifted_127 : decode cX5_shifted 127 = .ok (.ishl, 1) := by decide +kernel
theorem dX5_shifted_128 : decode cX5_shifted 128 = .ok (.ldc 97, 2) := by decide +kernel
theorem dX5_shifted_130 : decode cX5_shifted 130 = .ok (.iand, 1) := by decide +kernel
theorem dX5_shifted_131 : decode cX5_shifted 131 = .ok (.aload_n 0, 1) := by decide +kernel
theorem dX5_shifted_132 : decode cX5_shifted 132 = .ok (.getfield 15, 3) := by decide +kernel
theorem dX5_shifted_135 : decode cX5_shifted 135 = .ok (.getfield 98, 3) := by decide +kernel
theorem dX5_shifted_138 : decode cX5_shifted 138 = .ok (.ior, 1) := by decide +kernel
theorem dX5_shifted_139 : decode cX5_shifted 139 = .ok (.invokevirtual 108, 3) := by decide +kernel
theorem dX5_shifted_142 : decode cX5_shifted 142 = .ok (.ireturn, 1) := by decide +kernel
theorem dX5_shifted_143 : decode cX5_shifted 143 = .ok (.iload_n 1, 1) := by decide +kernel
theorem dX5_shifted_144 : decode cX5_shifted 144 = .ok (.iconst 4, 1) := by decide +kernel
theorem dX5_shifted_145 : decode cX5_shifted 145 = .ok (.ishl, 1) := by decide +kernel
theorem dX5_shifted_146 : decode cX5_shifted 146 = .ok (.iload_n 1, 1) := by decide +kernel
theorem dX5_shifted_147 : decode cX5_shifted 147 = .ok (.bipush 12, 2) := by decide +kernel
theorem dX5_shifted_149 : decode cX5_shifted 149 = .ok (.ishr, 1) := by decide +kernel
theorem dX5_shifted_150 : decode cX5_shifted 150 = .ok (.ior, 1) := by decide +kernel
theorem dX5_shifted_151 : decode cX5_shifted 151 = .ok (.ldc 97, 2) := by decide +kernel
theorem dX5_shifted_153 : decode cX5_shifted 153 = .ok (.iand, 1) := by decide +kernel
theorem dX5_shifted_154 : decode cX5_shifted 154 = .ok (.ireturn, 1) := by decide +kernel
theorem dX5_throughE_0 : decode cX5_throughE 0 = .ok (.aload_n 0, 1) := by decide +kernel
theorem dX5_throughE_1 : decode cX5_throughE 1 = .ok (.getfield 15, 3) := by decide +kernel
theorem dX5_throughE_4 : decode cX5_throughE 4 = .ok (.iload_n 1, 1) := by decide +kernel
theorem dX5_throughE_5 : decode cX5_throughE 5 = .ok (.putfield 98, 3) := by decide +kernel
theorem dX5_throughE_8 : decode cX5_throughE 8 = .ok (.iload_n 2, 1) := by decide +kernel
theorem dX5_throughE_9 : decode cX5_throughE 9 = .ok (.ireturn, 1) := by decide +kernel
set_option maxRecDepth 20000 in
theorem ggX5_alterAndSkip_X5_registerOf : GoodIn wsX5_alterAndSkip wsX5_registerOf := goodIn_r _ [7] (by decide +kernel) (by decide +kernel)
set_option maxRecDepth 20000 in
theorem gX5_alterAndSkip_X5_registerOf : GoodIn wsX5_alterAndSkip (va_wsS RX5 73 yX5_registerOf wsX5_registerOf) := goodIn_app (goodIn_of _ (by decide +kernel)) ggX5_alterAndSkip_X5_registerOf
set_option maxRecDepth 20000 in
theorem ggX5_alterAndSkip_X4_read : GoodIn wsX5_alterAndSkip wsX4_read := goodIn_r _ [12, 13, 49] (by decide +kernel) (by decide +kernel)
set_option maxRecDepth 20000 in
theorem gX5_alterAndSkip_X4_read : GoodIn wsX5_alterAndSkip (wsV RX5 29 RX4 yX4_read wsX4_read) := goodIn_app (goodIn_of _ (by decide +kernel)) ggX5_alterAndSkip_X4_read
set_option maxRecDepth 20000 in
theorem ggX5_alterAndSkip_X5_altered : GoodIn wsX5_alterAndSkip wsX5_altered := goodIn_r _ [16, 17] (by decide +kernel) (by decide +kernel)
set_option maxRecDepth 20000 in
theorem gX5_alterAndSkip_X5_altered : GoodIn wsX5_alterAndSkip (va_wsS RX5 111 yX5_altered wsX5_altered) := goodIn_app (goodIn_of _ (by decide +kernel)) ggX5_alterAndSkip_X5_altered
set_option maxRecDepth 20000 in
theorem ggX5_alterAndSkip_X5_alteredE : GoodIn wsX5_alterAndSkip wsX5_alteredE := goodIn_r _ [20] (by decide +kernel) (by decide +kernel)
set_option maxRecDepth 20000 in
theorem gX5_alterAndSkip_X5_alteredE : GoodIn wsX5_alterAndSkip (va_wsS RX5 114 yX5_alteredE wsX5_alteredE) := goodIn_app (goodIn_of _ (by decide +kernel)) ggX5_alterAndSkip_X5_alteredE
set_option maxRecDepth 20000 in
theorem ggX5_alterAndSkip_X5_incremented : GoodIn wsX5_alterAndSkip wsX5_incremented := goodIn_r _ [24, 17, 2, 40, 41, 42, 43, 44, 45, 46, 47, 48] (by decide +kernel) (by decide +kernel)
set_option maxRecDepth 20000 in
theorem gX5_alterAndSkip_X5_incremented : GoodIn wsX5_alterAndSkip (wsV RX5 117 RX5 yX5_incremented wsX5_incremented) := goodIn_app (goodIn_of _ (by decide +kernel)) ggX5_alterAndSkip_X5_incremented
set_option maxRecDepth 20000 in
theorem ggX5_alterAndSkip_X4_write : GoodIn wsX5_alterAndSkip wsX4_write := goodIn_r _ [28, 13, 29, 49] (by decide +kernel) (by decide +kernel)
set_option maxRecDepth 20000 in
theorem gX5_alterAndSkip_X4_write : GoodIn wsX5_alterAndSkip (wsV RX5 76 RX4 yX4_write wsX4_write) := goodIn_app (goodIn_of _ (by decide +kernel)) ggX5_alterAndSkip_X4_write
set_option maxRecDepth 20000 in
theorem ggX5_alterAndSkip_X5_skipIf : GoodIn wsX5_alterAndSkip wsX5_skipIf := goodIn_r _ [33, 2, 34, 35, 36, 37, 38, 39, 40, 41, 42, 43, 44, 45, 46, 47, 48] (by decide +kernel) (by decide +kernel)
set_option maxRecDepth 20000 in
theorem gX5_alterAndSkip_X5_skipIf : GoodIn wsX5_alterAndSkip (wsV RX5 89 RX5 yX5_skipIf wsX5_skipIf) := goodIn_app (goodIn_of _ (by decide +kernel)) ggX5_alterAndSkip_X5_skipIf
theorem dX5_alterAndSkip_0 : decode cX5_alterAndSkip 0 = .ok (.iload_n 1, 1) := by decide +kernel
theorem dX5_alterAndSkip_1 : decode cX5_alterAndSkip 1 = .ok (.invokestatic 73, 3) := by decide +kernel
theorem dX5_alterAndSkip_4 : decode cX5_alterAndSkip 4 = .ok (.istore_n 2, 1) := by decide +kernel
theorem dX5_alterAndSkip_5 : decode cX5_alterAndSkip 5 = .ok (.aload_n 0, 1) := by decide +kernel
theorem dX5_alterAndSkip_6 : decode cX5_alterAndSkip 6 = .ok (.getfield 9, 3) := by decide +kernel
theorem dX5_alterAndSkip_9 : decode cX5_alterAndSkip 9 = .ok (.iload_n 2, 1) := by decide +kernel
theorem dX5_alterAndSkip_10 : decode cX5_alterAndSkip 10 = .ok (.invokevirtual 29, 3) := by decide +kernel
theorem dX5_alterAndSkip_13 : decode cX5_alterAndSkip 13 = .ok (.iload_n 1, 1) := by decide +kernel
theorem dX5_alterAndSkip_14 : decode cX5_alterAndSkip 14 = .ok (.bipush 8, 2) := by decide +kernel
theorem dX5_alterAndSkip_16 : decode cX5_alterAndSkip 16 = .ok (.ishr, 1) := by decide +kernel
theorem dX5_alterAndSkip_17 : decode cX5_alterAndSkip 17 = .ok (.iconst 3, 1) := by decide +kernel
theorem dX5_alterAndSkip_18 : decode cX5_alterAndSkip 18 = .ok (.iand, 1) := by decide +kernel
theorem dX5_alterAndSkip_19 : decode cX5_alterAndSkip 19 = .ok (.invokestatic 111, 3) := by decide +kernel
theorem dX5_alterAndSkip_22 : decode cX5_alterAndSkip 22 = .ok (.istore_n 3, 1) := by decide +kernel
theorem dX5_alterAndSkip_23 : decode cX5_alterAndSkip 23 = .ok (.iload_n 1, 1) := by decide +kernel
theorem dX5_alterAndSkip_24 : decode cX5_alterAndSkip 24 = .ok (.bipush 32, 2) := by decide +kernel
theorem dX5_alterAndSkip_26 : decode cX5_alterAndSkip 26 = .ok (.iand, 1) := by decide +kernel
theorem dX5_alterAndSkip_27 : decode cX5_alterAndSkip 27 = .ok (.ifCond .eq 7, 3) := by decide +kernel
theorem dX5_alterAndSkip_30 : decode cX5_alterAndSkip 30 = .ok (.iconst 1, 1) := by decide +kernel
theorem dX5_alterAndSkip_31 : decode cX5_alterAndSkip 31 = .ok (.goto 4, 3) := by decide +kernel
theorem dX5_alterAndSkip_34 : decode cX5_alterAndSkip 34 = .ok (.iconst 0, 1) := by decide +kernel
theorem dX5_alterAndSkip_35 : decode cX5_alterAndSkip 35 = .ok (.istore 4, 2) := by decide +kernel
theorem dX5_alterAndSkip_37 : decode cX5_alterAndSkip 37 = .ok (.iload_n 1, 1) := by decide +kernel
theorem dX5_alterAndSkip_38 : decode cX5_alterAndSkip 38 = .ok (.bipush 16, 2) := by decide +kernel
theorem dX5_alterAndSkip_40 : decode cX5_alterAndSkip 40 = .ok (.iand, 1) := by decide +kernel
theorem dX5_alterAndSkip_41 : decode cX5_alterAndSkip 41 = .ok (.ifCond .eq 7, 3) := by decide +kernel
theorem dX5_alterAndSkip_44 : decode cX5_alterAndSkip 44 = .ok (.iconst 1, 1) := by decide +kernel
theorem dX5_alterAndSkip_45 : decode cX5_alterAndSkip 45 = .ok (.goto 4, 3) := by decide +kernel
theorem dX5_alterAndSkip_48 : decode cX5_alterAndSkip 48 = .ok (.iconst 0, 1) := by decide +kernel
theorem dX5_alterAndSkip_49 : decode cX5_alterAndSkip 49 = .ok (.istore 5, 2) := by decide +kernel
theorem dX5_alterAndSkip_51 : decode cX5_alterAndSkip 51 = .ok (.iload_n 1, 1) := by decide +kernel
theorem dX5_alterAndSkip_52 : decode cX5_alterAndSkip 52 = .ok (.bipush 8, 2) := by decide +kernel
theorem dX5_alterAndSkip_54 : decode cX5_alterAndSkip 54 = .ok (.iand, 1) := by decide +kernel
theorem dX5_alterAndSkip_55 : decode cX5_alterAndSkip 55 = .ok (.ifCond .eq 7, 3) := by decide +kernel
theorem dX5_alterAndSkip_58 : decode cX5_alterAndSkip 58 = .ok (.iconst 1, 1) := by decide +kernel
theorem dX5_alterAndSkip_59 : decode cX5_alterAndSkip 59 = .ok (.goto 4, 3) := by decide +kernel
theorem dX5_alterAndSkip_62 : decode cX5_alterAndSkip 62 = .ok (.iconst 0, 1) := by decide +kernel
theorem dX5_alterAndSkip_63 : decode cX5_alterAndSkip 63 = .ok (.istore 6, 2) := by decide +kernel
theorem dX5_alterAndSkip_65 : decode cX5_alterAndSkip 65 = .ok (.iload_n 1, 1) := by decide +kernel
theorem dX5_alterAndSkip_66 : decode cX5_alterAndSkip 66 = .ok (.iconst 2, 1) := by decide +kernel
theorem dX5_alterAndSkip_67 : decode cX5_alterAndSkip 67 = .ok (.iand, 1) := by decide +kernel
theorem dX5_alterAndSkip_68 : decode cX5_alterAndSkip 68 = .ok (.ifCond .eq 7, 3) := by decide +kernel
theorem dX5_alterAndSkip_71 : decode cX5_alterAndSkip 71 = .ok (.iconst 1, 1) := by decide +kernel
theorem dX5_alterAndSkip_72 : decode cX5_alterAndSkip 72 = .ok (.goto 4, 3) := by decide +kernel
theorem dX5_alterAndSkip_75 : decode cX5_alterAndSkip 75 = .ok (.iconst 0, 1) := by decide +kernel
theorem dX5_alterAndSkip_76 : decode cX5_alterAndSkip 76 = .ok (.istore 7, 2) := by decide +kernel
theorem dX5_alterAndSkip_78 : decode cX5_alterAndSkip 78 = .ok (.aload_n 0, 1) := by decide +kernel
theorem dX5_alterAndSkip_79 : decode cX5_alterAndSkip 79 = .ok (.getfield 15, 3) := by decide +kernel
theorem dX5_alterAndSkip_82 : decode cX5_alterAndSkip 82 = .ok (.getfield 98, 3) := by decide +kernel
theorem dX5_alterAndSkip_85 : decode cX5_alterAndSkip 85 = .ok (.ifCond .eq 7, 3) := by decide +kernel
theorem dX5_alterAndSkip_88 : decode cX5_alterAndSkip 88 = .ok (.iconst 1, 1) := by decide +kernel
theorem dX5_alterAndSkip_89 : decode cX5_alterAndSkip 89 = .ok (.goto 4, 3) := by decide +kernel
theorem dX5_alterAndSkip_92 : decode cX5_alterAndSkip 92 = .ok (.iconst 0, 1) := by decide +kernel
theorem dX5_alterAndSkip_93 : decode cX5_alterAndSkip 93 = .ok (.istore 8, 2) := by decide +kernel
theorem dX5_alterAndSkip_95 : decode cX5_alterAndSkip 95 = .ok (.iload_n 3, 1) := by decide +kernel
theorem dX5_alterAndSkip_96 : decode cX5_alterAndSkip 96 = .ok (.ldc 38, 2) := by decide +kernel
theorem dX5_alterAndSkip_98 : decode cX5_alterAndSkip 98 = .ok (.iand, 1) := by decide +kernel
theorem dX5_alterAndSkip_99 : decode cX5_alterAndSkip 99 = .ok (.ifCond .eq 7, 3) := by decide +kernel
theorem dX5_alterAndSkip_102 : decode cX5_alterAndSkip 102 = .ok (.iconst 1, 1) := by decide +kernel
theorem dX5_alterAndSkip_103 : decode cX5_alterAndSkip 103 = .ok (.goto 4, 3) := by decide +kernel
theorem dX5_alterAndSkip_106 : decode cX5_alterAndSkip 106 = .ok (.iconst 0, 1) := by decide +kernel
theorem dX5_alterAndSkip_107 : decode cX5_alterAndSkip 107 = .ok (.istore 9, 2) := by decide +kernel
theorem dX5_alterAndSkip_109 : decode cX5_alterAndSkip 109 = .ok (.iload_n 3, 1) := by decide +kernel
theorem dX5_alterAndSkip_110 : decode cX5_alterAndSkip 110 = .ok (.iconst 1, 1) := by decide +kernel
theorem dX5_alterAndSkip_111 : decode cX5_alterAndSkip 111 = .ok (.iand, 1) := by decide +kernel
theorem dX5_alterAndSkip_112 : decode cX5_alterAndSkip 112 = .ok (.ifCond .eq 7, 3) := by decide +kernel
theorem dX5_alterAndSkip_115 : decode cX5_alterAndSkip 115 = .ok (.iconst 1, 1) := by decide +kernel
theorem dX5_alterAndSkip_116 : decode cX5_alterAndSkip 116 = .ok (.goto 4, 3) := by decide +kernel
theorem dX5_alterAndSkip_119 : decode cX5_alterAndSkip 119 = .ok (.iconst 0, 1) := by decide +kernel
theorem dX5_alterAndSkip_120 : decode cX5_alterAndSkip 120 = .ok (.istore 10, 2) := by decide +kernel
theorem dX5_alterAndSkip_122 : decode cX5_alterAndSkip 122 = .ok (.aload_n 0, 1) := by decide +kernel
theorem dX5_alterAndSkip_123 : decode cX5_alterAndSkip 123 = .ok (.getfield 15, 3) := by decide +kernel
theorem dX5_alterAndSkip_126 : decode cX5_alterAndSkip 126 = .ok (.aload_n 0, 1) := by decide +kernel
theorem dX5_alterAndSkip_127 : decode cX5_alterAndSkip 127 = .ok (.getfield 15, 3) := by decide +kernel
theorem dX5_alterAndSkip_130 : decode cX5_alterAndSkip 130 = .ok (.getfield 98, 3) := by decide +kernel
theorem dX5_alterAndSkip_133 : decode cX5_alterAndSkip 133 = .ok (.iload_n 1, 1) := by decide +kernel
theorem dX5_alterAndSkip_134 : decode cX5_alterAndSkip 134 = .ok (.bipush 6, 2) := by decide +kernel
theorem dX5_alterAndSkip_136 : decode cX5_alterAndSkip 136 = .ok (.ishr, 1) := by decide +kernel
theorem dX5_alterAndSkip_137 : decode cX5_alterAndSkip 137 = .ok (.iconst 3, 1) := by decide +kernel
theorem dX5_alterAndSkip_138 : decode cX5_alterAndSkip 138 = .ok (.iand, 1) := by decide +kernel
theorem dX5_alterAndSkip_139 : decode cX5_alterAndSkip 139 = .ok (.invokestatic 114, 3) := by decide +kernel
theorem dX5_alterAndSkip_142 : decode cX5_alterAndSkip 142 = .ok (.putfield 98, 3) := by decide +kernel
theorem dX5_alterAndSkip_145 : decode cX5_alterAndSkip 145 = .ok (.iload_n 1, 1) := by decide +kernel
theorem dX5_alterAndSkip_146 : decode cX5_alterAndSkip 146 = .ok (.iconst 4, 1) := by decide +kernel
theorem dX5_alterAndSkip_147 : decode cX5_alterAndSkip 147 = .ok (.iand, 1) := by decide +kernel
theorem dX5_alterAndSkip_148 : decode cX5_alterAndSkip 148 = .ok (.ifCond .eq 9, 3) := by decide +kernel
theorem dX5_alterAndSkip_151 : decode cX5_alterAndSkip 151 = .ok (.aload_n 0, 1) := by decide +kernel
theorem dX5_alterAndSkip_152 : decode cX5_alterAndSkip 152 = .ok (.iload_n 3, 1) := by decide +kernel
theorem dX5_alterAndSkip_153 : decode cX5_alterAndSkip 153 = .ok (.invokevirtual 117, 3) := by decide +kernel
theorem dX5_alterAndSkip_156 : decode cX5_alterAndSkip 156 = .ok (.istore_n 3, 1) := by decide +kernel
theorem dX5_alterAndSkip_157 : decode cX5_alterAndSkip 157 = .ok (.aload_n 0, 1) := by decide +kernel
theorem dX5_alterAndSkip_158 : decode cX5_alterAndSkip 158 = .ok (.getfield 9, 3) := by decide +kernel
theorem dX5_alterAndSkip_161 : decode cX5_alterAndSkip 161 = .ok (.iload_n 2, 1) := by decide +kernel
theorem dX5_alterAndSkip_162 : decode cX5_alterAndSkip 162 = .ok (.iload_n 3, 1) := by decide +kernel
theorem dX5_alterAndSkip_163 : decode cX5_alterAndSkip 163 = .ok (.invokevirtual 76, 3) := by decide +kernel
theorem dX5_alterAndSkip_166 : decode cX5_alterAndSkip 166 = .ok (.iload_n 3, 1) := by decide +kernel
theorem dX5_alterAndSkip_167 : decode cX5_alterAndSkip 167 = .ok (.ifCond .eq 7, 3) := by decide +kernel
theorem dX5_alterAndSkip_170 : decode cX5_alterAndSkip 170 = .ok (.iconst 1, 1) := by decide +kernel
theorem dX5_alterAndSkip_171 : decode cX5_alterAndSkip 171 = .ok (.goto 4, 3) := by decide +kernel
theorem dX5_alterAndSkip_174 : decode cX5_alterAndSkip 174 = .ok (.iconst 0, 1) := by decide +kernel
theorem dX5_alterAndSkip_175 : decode cX5_alterAndSkip 175 = .ok (.istore 11, 2) := by decide +kernel
theorem dX5_alterAndSkip_177 : decode cX5_alterAndSkip 177 = .ok (.iload_n 1, 1) := by decide +kernel
theorem dX5_alterAndSkip_178 : decode cX5_alterAndSkip 178 = .ok (.iconst 1, 1) := by decide +kernel
theorem dX5_alterAndSkip_179 : decode cX5_alterAndSkip 179 = .ok (.iand, 1) := by decide +kernel
theorem dX5_alterAndSkip_180 : decode cX5_alterAndSkip 180 = .ok (.ifCond .ne 53, 3) := by decide +kernel
theorem dX5_alterAndSkip_183 : decode cX5_alterAndSkip 183 = .ok (.aload_n 0, 1) := by decide +kernel
theorem dX5_alterAndSkip_184 : decode cX5_alterAndSkip 184 = .ok (.iload 4, 2) := by decide +kernel
theorem dX5_alterAndSkip_186 : decode cX5_alterAndSkip 186 = .ok (.ifCond .eq 8, 3) := by decide +kernel
theorem dX5_alterAndSkip_189 : decode cX5_alterAndSkip 189 = .ok (.iload 8, 2) := by decide +kernel
theorem dX5_alterAndSkip_191 : decode cX5_alterAndSkip 191 = .ok (.ifCond .eq 33, 3) := by decide +kernel
theorem dX5_alterAndSkip_194 : decode cX5_alterAndSkip 194 = .ok (.iload 5, 2) := by decide +kernel
theorem dX5_alterAndSkip_196 : decode cX5_alterAndSkip 196 = .ok (.ifCond .eq 8, 3) := by decide +kernel
theorem dX5_alterAndSkip_199 : decode cX5_alterAndSkip 199 = .ok (.iload 9, 2) := by decide +kernel
theorem dX5_alterAndSkip_201 : decode cX5_alterAndSkip 201 = .ok (.ifCond .eq 23, 3) := by decide +kernel
theorem dX5_alterAndSkip_204 : decode cX5_alterAndSkip 204 = .ok (.iload 6, 2) := by decide +kernel
theorem dX5_alterAndSkip_206 : decode cX5_alterAndSkip 206 = .ok (.ifCond .eq 8, 3) := by decide +kernel
theorem dX5_alterAndSkip_209 : decode cX5_alterAndSkip 209 = .ok (.iload 10, 2) := by decide +kernel
theorem dX5_alterAndSkip_211 : decode cX5_alterAndSkip 211 = .ok (.ifCond .eq 13, 3) := by decide +kernel
theorem dX5_alterAndSkip_214 : decode cX5_alterAndSkip 214 = .ok (.iload 7, 2) := by decide +kernel
theorem dX5_alterAndSkip_216 : decode cX5_alterAndSkip 216 = .ok (.ifCond .eq 12, 3) := by decide +kernel
theorem dX5_alterAndSkip_219 : decode cX5_alterAndSkip 219 = .ok (.iload 11, 2) := by decide +kernel
theorem dX5_alterAndSkip_221 : decode cX5_alterAndSkip 221 = .ok (.ifCond .ne 7, 3) := by decide +kernel
theorem dX5_alterAndSkip_224 : decode cX5_alterAndSkip 224 = .ok (.iconst 1, 1) := by decide +kernel
theorem dX5_alterAndSkip_225 : decode cX5_alterAndSkip 225 = .ok (.goto 4, 3) := by decide +kernel
theorem dX5_alterAndSkip_228 : decode cX5_alterAndSkip 228 = .ok (.iconst 0, 1) := by decide +kernel
theorem dX5_alterAndSkip_229 : decode cX5_alterAndSkip 229 = .ok (.invokevirtual 89, 3) := by decide +kernel
theorem dX5_alterAndSkip_232 : decode cX5_alterAndSkip 232 = .ok (.return_, 1) := by decide +kernel
theorem dX5_alterAndSkip_233 : decode cX5_alterAndSkip 233 = .ok (.iload 4, 2) := by decide +kernel
theorem dX5_alterAndSkip_235 : decode cX5_alterAndSkip 235 = .ok (.ifCond .ne 22, 3) := by decide +kernel
theorem dX5_alterAndSkip_238 : decode cX5_alterAndSkip 238 = .ok (.iload 5, 2) := by decide +kernel
theorem dX5_alterAndSkip_240 : decode cX5_alterAndSkip 240 = .ok (.ifCond .ne 17, 3) := by decide +kernel
theorem dX5_alterAndSkip_243 : decode cX5_alterAndSkip 243 = .ok (.iload 6, 2) := by decide +kernel
theorem dX5_alterAndSkip_245 : decode cX5_alterAndSkip 245 = .ok (.ifCond .ne 12, 3) := by decide +kernel
theorem dX5_alterAndSkip_248 : decode cX5_alterAndSkip 248 = .ok (.iload 7, 2) := by decide +kernel
theorem dX5_alterAndSkip_250 : decode cX5_alterAndSkip 250 = .ok (.ifCond .ne 7, 3) := by decide +kernel
theorem dX5_alterAndSkip_253 : decode cX5_alterAndSkip 253 = .ok (.iconst 1, 1) := by decide +kernel
theorem dX5_alterAndSkip_254 : decode cX5_alterAndSkip 254 = .ok (.goto 4, 3) := by decide +kernel
theorem dX5_alterAndSkip_257 : decode cX5_alterAndSkip 257 = .ok (.iconst 0, 1) := by decide +kernel
theorem dX5_alterAndSkip_258 : decode cX5_alterAndSkip 258 = .ok (.istore 12, 2) := by decide +kernel
theorem dX5_alterAndSkip_260 : decode cX5_alterAndSkip 260 = .ok (.iload 5, 2) := by decide +kernel
theorem dX5_alterAndSkip_262 : decode cX5_alterAndSkip 262 = .ok (.ifCond .eq 26, 3) := by decide +kernel
theorem dX5_alterAndSkip_265 : decode cX5_alterAndSkip 265 = .ok (.iload 6, 2) := by decide +kernel
theorem dX5_alterAndSkip_267 : decode cX5_alterAndSkip 267 = .ok (.ifCond .eq 21, 3) := by decide +kernel
theorem dX5_alterAndSkip_270 : decode cX5_alterAndSkip 270 = .ok (.iload 9, 2) := by decide +kernel
theorem dX5_alterAndSkip_272 : decode cX5_alterAndSkip 272 = .ok (.ifCond .eq 12, 3) := by decide +kernel
theorem dX5_alterAndSkip_275 : decode cX5_alterAndSkip 275 = .ok (.iload 10, 2) := by decide +kernel
theorem dX5_alterAndSkip_277 : decode cX5_alterAndSkip 277 = .ok (.ifCond .eq 7, 3) := by decide +kernel
theorem dX5_alterAndSkip_280 : decode cX5_alterAndSkip 280 = .ok (.iconst 1, 1) := by decide +kernel
theorem dX5_alterAndSkip_281 : decode cX5_alterAndSkip 281 = .ok (.goto 32, 3) := by decide +kernel
theorem dX5_alterAndSkip_284 : decode cX5_alterAndSkip 284 = .ok (.iconst 0, 1) := by decide +kernel
theorem dX5_alterAndSkip_285 : decode cX5_alterAndSkip 285 = .ok (.goto 28, 3) := by decide +kernel
theorem dX5_alterAndSkip_288 : decode cX5_alterAndSkip 288 = .ok (.iload 5, 2) := by decide +kernel
theorem dX5_alterAndSkip_290 : decode cX5_alterAndSkip 290 = .ok (.ifCond .eq 8, 3) := by decide +kernel
theorem dX5_alterAndSkip_293 : decode cX5_alterAndSkip 293 = .ok (.iload 9, 2) := by decide +kernel
theorem dX5_alterAndSkip_295 : decode cX5_alterAndSkip 295 = .ok (.ifCond .ne 13, 3) := by decide +kernel
theorem dX5_alterAndSkip_298 : decode cX5_alterAndSkip 298 = .ok (.iload 6, 2) := by decide +kernel
theorem dX5_alterAndSkip_300 : decode cX5_alterAndSkip 300 = .ok (.ifCond .eq 12, 3) := by decide +kernel
theorem dX5_alterAndSkip_303 : decode cX5_alterAndSkip 303 = .ok (.iload 10, 2) := by decide +kernel
theorem dX5_alterAndSkip_305 : decode cX5_alterAndSkip 305 = .ok (.ifCond .eq 7, 3) := by decide +kernel
theorem dX5_alterAndSkip_308 : decode cX5_alterAndSkip 308 = .ok (.iconst 1, 1) := by decide +kernel
theorem dX5_alterAndSkip_309 : decode cX5_alterAndSkip 309 = .ok (.goto 4, 3) := by decide +kernel
theorem dX5_alterAndSkip_312 : decode cX5_alterAndSkip 312 = .ok (.iconst 0, 1) := by decide +kernel
theorem dX5_alterAndSkip_313 : decode cX5_alterAndSkip 313 = .ok (.istore 13, 2) := by decide +kernel
theorem dX5_alterAndSkip_315 : decode cX5_alterAndSkip 315 = .ok (.aload_n 0, 1) := by decide +kernel
theorem dX5_alterAndSkip_316 : decode cX5_alterAndSkip 316 = .ok (.iload 12, 2) := by decide +kernel
theorem dX5_alterAndSkip_318 : decode cX5_alterAndSkip 318 = .ok (.ifCond .ne 28, 3) := by decide +kernel
theorem dX5_alterAndSkip_321 : decode cX5_alterAndSkip 321 = .ok (.iload 4, 2) := by decide +kernel
theorem dX5_alterAndSkip_323 : decode cX5_alterAndSkip 323 = .ok (.ifCond .eq 8, 3) := by decide +kernel
theorem dX5_alterAndSkip_326 : decode cX5_alterAndSkip 326 = .ok (.iload 8, 2) := by decide +kernel
theorem dX5_alterAndSkip_328 : decode cX5_alterAndSkip 328 = .ok (.ifCond .ne 18, 3) := by decide +kernel
theorem dX5_alterAndSkip_331 : decode cX5_alterAndSkip 331 = .ok (.iload 13, 2) := by decide +kernel
theorem dX5_alterAndSkip_333 : decode cX5_alterAndSkip 333 = .ok (.ifCond .ne 13, 3) := by decide +kernel
theorem dX5_alterAndSkip_336 : decode cX5_alterAndSkip 336 = .ok (.iload 7, 2) := by decide +kernel
theorem dX5_alterAndSkip_338 : decode cX5_alterAndSkip 338 = .ok (.ifCond .eq 12, 3) := by decide +kernel
theorem dX5_alterAndSkip_341 : decode cX5_alterAndSkip 341 = .ok (.iload 11, 2) := by decide +kernel
theorem dX5_alterAndSkip_343 : decode cX5_alterAndSkip 343 = .ok (.ifCond .eq 7, 3) := by decide +kernel
theorem dX5_alterAndSkip_346 : decode cX5_alterAndSkip 346 = .ok (.iconst 1, 1) := by decide +kernel
theorem dX5_alterAndSkip_347 : decode cX5_alterAndSkip 347 = .ok (.goto 4, 3) := by decide +kernel
theorem dX5_alterAndSkip_350 : decode cX5_alterAndSkip 350 = .ok (.iconst 0, 1) := by decide +kernel
theorem dX5_alterAndSkip_351 : decode cX5_alterAndSkip 351 = .ok (.invokevirtual 89, 3) := by decide +kernel
theorem dX5_alterAndSkip_354 : decode cX5_alterAndSkip 354 = .ok (.return_, 1) := by decide +kernel
theorem dX5_altered_0 : decode cX5_altered 0 = .ok (.iload_n 1, 1) := by decide +kernel
theorem dX5_altered_1 : decode cX5_altered 1 = .ok (.tableswitch 37 1 3 #[27, 29, 34], 27) := by decide +kernel
theorem dX5_altered_28 : decode cX5_altered 28 = .ok (.iconst 0, 1) := by decide +kernel
theorem dX5_altered_29 : decode cX5_altered 29 = .ok (.ireturn, 1) := by decide +kernel
theorem dX5_altered_30 : decode cX5_altered 30 = .ok (.iload_n 0, 1) := by decide +kernel
theorem dX5_altered_31 : decode cX5_altered 31 = .ok (.ldc 97, 2) := by decide +kernel
theorem dX5_altered_33 : decode cX5_altered 33 = .ok (.ixor, 1) := by decide +kernel
theorem dX5_altered_34 : decode cX5_altered 34 = .ok (.ireturn, 1) := by decide +kernel
theorem dX5_altered_35 : decode cX5_altered 35 = .ok (.ldc 97, 2) := by decide +kernel
theorem dX5_altered_37 : decode cX5_altered 37 = .ok (.ireturn, 1) := by decide +kernel
theorem dX5_altered_38 : decode cX5_altered 38 = .ok (.iload_n 0, 1) := by decide +kernel
theorem dX5_altered_39 : decode cX5_altered 39 = .ok (.ireturn, 1) := by decide +kernel
theorem dX5_alteredE_0 : decode cX5_alteredE 0 = .ok (.iload_n 1, 1) := by decide +kernel
theorem dX5_alteredE_1 : decode cX5_alteredE 1 = .ok (.tableswitch 35 1 3 #[27, 29, 33], 27) := by decide +kernel
theorem dX5_alteredE_28 : decode cX5_alteredE 28 = .ok (.iconst 0, 1) := by decide +kernel
theorem dX5_alteredE_29 : decode cX5_alteredE 29 = .ok (.ireturn, 1) := by decide +kernel
theorem dX5_alteredE_30 : decode cX5_alteredE 30 = .ok (.iconst 1, 1) := by decide +kernel
theorem dX5_alteredE_31 : decode cX5_alteredE 31 = .ok (.iload_n 0, 1) := by decide +kernel
theorem dX5_alteredE_32 : decode cX5_alteredE 32 = .ok (.isub, 1) := by decide +kernel
theorem dX5_alteredE_33 : decode cX5_alteredE 33 = .ok (.ireturn, 1) := by decide +kernel
theorem dX5_alteredE_34 : decode cX5_alteredE 34 = .ok (.iconst 1, 1) := by decide +kernel
theorem dX5_alteredE_35 : decode cX5_alteredE 35 = .ok (.ireturn, 1) := by decide +kernel
theorem dX5_alteredE_36 : decode cX5_alteredE 36 = .ok (.iload_n 0, 1) := by decide +kernel
theorem dX5_alteredE_37 : decode cX5_alteredE 37 = .ok (.ireturn, 1) := by decide +kernel
theorem dX5_incremented_0 : decode cX5_incremented 0 = .ok (.iload_n 1, 1) := by decide +kernel
theorem dX5_incremented_1 : decode cX5_incremented 1 = .ok (.ldc 97, 2) := by decide +kernel
theorem dX5_incremented_3 : decode cX5_incremented 3 = .ok (.if_icmp .ne 11, 3) := by decide +kernel
theorem dX5_incremented_6 : decode cX5_incremented 6 = .ok (.aload_n 0, 1) := by decide +kernel
theorem dX5_incremented_7 : decode cX5_incremented 7 = .ok (.getfield 15, 3) := by decide +kernel
theorem dX5_incremented_10 : decode cX5_incremented 10 = .ok (.iconst 1, 1) := by decide +kernel
theorem dX5_incremented_11 : decode cX5_incremented 11 = .ok (.putfield 98, 3) := by decide +kernel
theorem dX5_incremented_14 : decode cX5_incremented 14 = .ok (.iload_n 1, 1) := by decide +kernel
theorem dX5_incremented_15 : decode cX5_incremented 15 = .ok (.sipush 32767, 3) := by decide +kernel
theorem dX5_incremented_18 : decode cX5_incremented 18 = .ok (.if_icmp .ne 11, 3) := by decide +kernel
theorem dX5_incremented_21 : decode cX5_incremented 21 = .ok (.aload_n 0, 1) := by decide +kernel
theorem dX5_incremented_22 : decode cX5_incremented 22 = .ok (.getfield 15, 3) := by decide +kernel
theorem dX5_incremented_25 : decode cX5_incremented 25 = .ok (.iconst 1, 1) := by decide +kernel
theorem dX5_incremented_26 : decode cX5_incremented 26 = .ok (.putfield 101, 3) := by decide +kernel
theorem dX5_incremented_29 : decode cX5_incremented 29 = .ok (.iload_n 1, 1) := by decide +kernel
theorem dX5_incremented_30 : decode cX5_incremented 30 = .ok (.iconst 1, 1) := by decide +kernel
theorem dX5_incremented_31 : decode cX5_incremented 31 = .ok (.iadd, 1) := by decide +kernel
theorem dX5_incremented_32 : decode cX5_incremented 32 = .ok (.ldc 97, 2) := by decide +kernel
theorem dX5_incremented_34 : decode cX5_incremented 34 = .ok (.iand, 1) := by decide +kernel
theorem dX5_incremented_35 : decode cX5_incremented 35 = .ok (.ireturn, 1) := by decide +kernel
set_option maxRecDepth 20000 in
theorem ggX5_inputOrOutput_X5_registerOf : GoodIn wsX5_inputOrOutput wsX5_registerOf := goodIn_r _ [7] (by decide +kernel) (by decide +kernel)
set_option maxRecDepth 20000 in
theorem gX5_inputOrOutput_X5_registerOf : GoodIn wsX5_inputOrOutput (va_wsS RX5 73 yX5_registerOf wsX5_registerOf) := goodIn_app (goodIn_of _ (by decide +kernel)) ggX5_inputOrOutput_X5_registerOf
set_option maxRecDepth 20000 in
theorem ggX5_inputOrOutput_X6_halt : GoodIn wsX5_inputOrOutput wsX6_halt := goodIn_r _ [12, 13, 14, 113, 114, 115, 116, 117, 118] (by decide +kernel) (by decide +kernel)
set_option maxRecDepth 20000 in
theorem gX5_inputOrOutput_X6_halt : GoodIn wsX5_inputOrOutput (wsV RX5 70 RX6 yX6_halt wsX6_halt) := goodIn_app (goodIn_of _ (by decide +kernel)) ggX5_inputOrOutput_X6_halt
set_option maxRecDepth 20000 in
theorem ggX5_inputOrOutput_X0_putFlag : GoodIn wsX5_inputOrOutput wsX0_putFlag := goodIn_r _ [19, 20, 21, 22, 23, 24, 25, 26, 27, 18, 28, 29, 30, 31, 32, 33, 34, 35, 36, 119, 120, 121, 122, 123, 124, 125, 113, 114, 115, 116, 117, 118, 126, 127, 128] (by decide +kernel) (by decide +kernel)
set_option maxRecDepth 20000 in
theorem gX5_inputOrOutput_X0_putFlag : GoodIn wsX5_inputOrOutput (wsV RX5 120 RX0 yX0_putFlag wsX0_putFlag) := goodIn_app (goodIn_of _ (by decide +kernel)) ggX5_inputOrOutput_X0_putFlag
set_option maxRecDepth 20000 in
theorem ggX5_inputOrOutput_X0_flagOf : GoodIn wsX5_inputOrOutput wsX0_flagOf := goodIn_r _ [40, 20, 21, 25, 26, 27, 18, 28, 29, 119, 120, 121, 122, 123, 124, 125, 113, 114, 115, 116, 117, 118, 126, 127, 128] (by decide +kernel) (by decide +kernel)
set_option maxRecDepth 20000 in
theorem gX5_inputOrOutput_X0_flagOf : GoodIn wsX5_inputOrOutput (wsV RX5 125 RX0 yX0_flagOf wsX0_flagOf) := goodIn_app (goodIn_of _ (by decide +kernel)) ggX5_inputOrOutput_X0_flagOf
set_option maxRecDepth 20000 in
theorem ggX5_inputOrOutput_X5_skipIf : GoodIn wsX5_inputOrOutput wsX5_skipIf := goodIn_r _ [44, 1, 45, 46, 47, 11, 48, 49, 110, 111, 112, 113, 114, 115, 116, 117, 118] (by decide +kernel) (by decide +kernel)
set_option maxRecDepth 20000 in
theorem gX5_inputOrOutput_X5_skipIf : GoodIn wsX5_inputOrOutput (wsV RX5 89 RX5 yX5_skipIf wsX5_skipIf) := goodIn_app (goodIn_of _ (by decide +kernel)) ggX5_inputOrOutput_X5_skipIf
set_option maxRecDepth 20000 in
theorem ggX5_inputOrOutput_X4_read : GoodIn wsX5_inputOrOutput wsX4_read := goodIn_r _ [54, 55, 129] (by decide +kernel) (by decide +kernel)
set_option maxRecDepth 20000 in
theorem gX5_inputOrOutput_X4_read : GoodIn wsX5_inputOrOutput (wsV RX5 29 RX4 yX4_read wsX4_read) := goodIn_app (goodIn_of _ (by decide +kernel)) ggX5_inputOrOutput_X4_read
set_option maxRecDepth 20000 in
theorem ggX5_inputOrOutput_X0_tell : GoodIn wsX5_inputOrOutput wsX0_tell := goodIn_r _ [59, 60, 61, 62, 63, 18, 64, 65, 66, 67, 68, 69, 70, 119, 120, 121, 122, 123, 124, 125, 130, 131, 132, 133, 134, 135, 136, 137, 138, 139, 140, 141, 142, 143, 144, 145, 146, 147] (by decide +kernel) (by decide +kernel)
set_option maxRecDepth 20000 in
theorem gX5_inputOrOutput_X0_tell : GoodIn wsX5_inputOrOutput (wsV RX5 128 RX0 yX0_tell wsX0_tell) := goodIn_app (goodIn_of _ (by decide +kernel)) ggX5_inputOrOutput_X0_tell
set_option maxRecDepth 20000 in
theorem ggX5_inputOrOutput_X4_write : GoodIn wsX5_inputOrOutput wsX4_write := goodIn_r _ [74, 55, 75, 129] (by decide +kernel) (by decide +kernel)
set_option maxRecDepth 20000 in
theorem gX5_inputOrOutput_X4_write : GoodIn wsX5_inputOrOutput (wsV RX5 76 RX4 yX4_write wsX4_write) := goodIn_app (goodIn_of _ (by decide +kernel)) ggX5_inputOrOutput_X4_write
set_option maxRecDepth 20000 in
theorem ggX5_inputOrOutput_X0_take : GoodIn wsX5_inputOrOutput wsX0_take := goodIn_r _ [79, 80, 61, 62, 63, 18, 64, 65, 81, 82, 83, 84, 85, 86, 87, 88, 89, 90, 66, 67, 68, 69, 70, 119, 120, 121, 122, 123, 124, 125, 130, 131, 132, 133, 134, 135, 136, 137, 138, 139, 140, 141, 142, 143, 144, 145, 146, 147] (by decide +kernel) (by decide +kernel)
set_option maxRecDepth 20000 in
theorem gX5_inputOrOutput_X0_take : GoodIn wsX5_inputOrOutput (wsV RX5 131 RX0 yX0_take wsX0_take) := goodIn_app (goodIn_of _ (by decide +kernel)) ggX5_inputOrOutput_X0_take
set_option maxRecDepth 20000 in
theorem ggX5_inputOrOutput_X0_putControl : GoodIn wsX5_inputOrOutput wsX0_putControl := goodIn_r _ [94, 95, 96, 97, 18, 98, 25, 26, 27, 28, 29, 61, 62, 63, 64, 65, 99, 100, 101, 102, 66, 67, 68, 69, 70, 103, 104, 105, 106, 107, 108, 109, 130, 131, 132, 133, 134, 135, 136, 137, 126, 127, 128, 119, 120, 121, 122, 123, 124, 125, 138, 139, 140, 141, 142, 143, 144, 145, 146, 147] (by decide +kernel) (by decide +kernel)
set_option maxRecDepth 20000 in
theorem gX5_inputOrOutput_X0_putControl : GoodIn wsX5_inputOrOutput (wsV RX5 134 RX0 yX0_putControl wsX0_putControl) := goodIn_app (goodIn_of _ (by decide +kernel)) ggX5_inputOrOutput_X0_putControl
theorem dX5_inputOrOutput_0 : decode cX5_inputOrOutput 0 = .ok (.iload_n 1, 1) := by decide +kernel
theorem dX5_inputOrOutput_1 : decode cX5_inputOrOutput 1 = .ok (.bipush 63, 2) := by decide +kernel
theorem dX5_inputOrOutput_3 : decode cX5_inputOrOutput 3 = .ok (.iand, 1) := by decide +kernel
theorem dX5_inputOrOutput_4 : decode cX5_inputOrOutput 4 = .ok (.istore_n 2, 1) := by decide +kernel
theorem dX5_inputOrOutput_5 : decode cX5_inputOrOutput 5 = .ok (.iload_n 1, 1) := by decide +kernel
theorem dX5_inputOrOutput_6 : decode cX5_inputOrOutput 6 = .ok (.invokestatic 73, 3) := by decide +kernel
theorem dX5_inputOrOutput_9 : decode cX5_inputOrOutput 9 = .ok (.istore_n 3, 1) := by decide +kernel
theorem dX5_inputOrOutput_10 : decode cX5_inputOrOutput 10 = .ok (.iload_n 1, 1) := by decide +kernel
theorem dX5_inputOrOutput_11 : decode cX5_inputOrOutput 11 = .ok (.sipush 512, 3) := by decide +kernel
theorem dX5_inputOrOutput_14 : decode cX5_inputOrOutput 14 = .ok (.iand, 1) := by decide +kernel
theorem dX5_inputOrOutput_15 : decode cX5_inputOrOutput 15 = .ok (.ifCond .eq 7, 3) := by decide +kernel
theorem dX5_inputOrOutput_18 : decode cX5_inputOrOutput 18 = .ok (.iconst 1, 1) := by decide +kernel
theorem dX5_inputOrOutput_19 : decode cX5_inputOrOutput 19 = .ok (.goto 4, 3) := by decide +kernel
theorem dX5_inputOrOutput_22 : decode cX5_inputOrOutput 22 = .ok (.iconst 0, 1) := by decide +kernel
theorem dX5_inputOrOutput_23 : decode cX5_inputOrOutput 23 = .ok (.istore 4, 2) := by decide +kernel
theorem dX5_inputOrOutput_25 : decode cX5_inputOrOutput 25 = .ok (.iload_n 1, 1) := by decide +kernel
theorem dX5_inputOrOutput_26 : decode cX5_inputOrOutput 26 = .ok (.bipush 6, 2) := by decide +kernel
theorem dX5_inputOrOutput_28 : decode cX5_inputOrOutput 28 = .ok (.ishr, 1) := by decide +kernel
theorem dX5_inputOrOutput_29 : decode cX5_inputOrOutput 29 = .ok (.bipush 7, 2) := by decide +kernel
theorem dX5_inputOrOutput_31 : decode cX5_inputOrOutput 31 = .ok (.iand, 1) := by decide +kernel
theorem dX5_inputOrOutput_32 : decode cX5_inputOrOutput 32 = .ok (.tableswitch 182 0 6 #[44, 55, 82, 103, 116, 144, 163], 44) := by decide +kernel
theorem dX5_inputOrOutput_76 : decode cX5_inputOrOutput 76 = .ok (.aload_n 0, 1) := by decide +kernel
theorem dX5_inputOrOutput_77 : decode cX5_inputOrOutput 77 = .ok (.getfield 15, 3) := by decide +kernel
theorem dX5_inputOrOutput_80 : decode cX5_inputOrOutput 80 = .ok (.iload_n 2, 1) := by decide +kernel
theorem dX5_inputOrOutput_81 : decode cX5_inputOrOutput 81 = .ok (.invokevirtual 70, 3) := by decide +kernel
theorem dX5_inputOrOutput_84 : decode cX5_inputOrOutput 84 = .ok (.goto 155, 3) := by decide +kernel
theorem dX5_inputOrOutput_87 : decode cX5_inputOrOutput 87 = .ok (.aload_n 0, 1) := by decide +kernel
theorem dX5_inputOrOutput_88 : decode cX5_inputOrOutput 88 = .ok (.getfield 19, 3) := by decide +kernel
theorem dX5_inputOrOutput_91 : decode cX5_inputOrOutput 91 = .ok (.iload_n 2, 1) := by decide +kernel
theorem dX5_inputOrOutput_92 : decode cX5_inputOrOutput 92 = .ok (.iload 4, 2) := by decide +kernel
theorem dX5_inputOrOutput_94 : decode cX5_inputOrOutput 94 = .ok (.ifCond .ne 7, 3) := by decide +kernel
theorem dX5_inputOrOutput_97 : decode cX5_inputOrOutput 97 = .ok (.iconst 1, 1) := by decide +kernel
theorem dX5_inputOrOutput_98 : decode cX5_inputOrOutput 98 = .ok (.goto 4, 3) := by decide +kernel
theorem dX5_inputOrOutput_101 : decode cX5_inputOrOutput 101 = .ok (.iconst 0, 1) := by decide +kernel
theorem dX5_inputOrOutput_102 : decode cX5_inputOrOutput 102 = .ok (.invokevirtual 120, 3) := by decide +kernel
theorem dX5_inputOrOutput_105 : decode cX5_inputOrOutput 105 = .ok (.aload_n 0, 1) := by decide +kernel
theorem dX5_inputOrOutput_106 : decode cX5_inputOrOutput 106 = .ok (.getfield 15, 3) := by decide +kernel
theorem dX5_inputOrOutput_109 : decode cX5_inputOrOutput 109 = .ok (.iconst 1, 1) := by decide +kernel
theorem dX5_inputOrOutput_110 : decode cX5_inputOrOutput 110 = .ok (.putfield 93, 3) := by decide +kernel
theorem dX5_inputOrOutput_113 : decode cX5_inputOrOutput 113 = .ok (.return_, 1) := by decide +kernel
theorem dX5_inputOrOutput_114 : decode cX5_inputOrOutput 114 = .ok (.aload_n 0, 1) := by decide +kernel
theorem dX5_inputOrOutput_115 : decode cX5_inputOrOutput 115 = .ok (.aload_n 0, 1) := by decide +kernel
theorem dX5_inputOrOutput_116 : decode cX5_inputOrOutput 116 = .ok (.getfield 19, 3) := by decide +kernel
theorem dX5_inputOrOutput_119 : decode cX5_inputOrOutput 119 = .ok (.iload_n 2, 1) := by decide +kernel
theorem dX5_inputOrOutput_120 : decode cX5_inputOrOutput 120 = .ok (.invokevirtual 125, 3) := by decide +kernel
theorem dX5_inputOrOutput_123 : decode cX5_inputOrOutput 123 = .ok (.ifCond .ne 7, 3) := by decide +kernel
theorem dX5_inputOrOutput_126 : decode cX5_inputOrOutput 126 = .ok (.iconst 1, 1) := by decide +kernel
theorem dX5_inputOrOutput_127 : decode cX5_inputOrOutput 127 = .ok (.goto 4, 3) := by decide +kernel
theorem dX5_inputOrOutput_130 : decode cX5_inputOrOutput 130 = .ok (.iconst 0, 1) := by decide +kernel
theorem dX5_inputOrOutput_131 : decode cX5_inputOrOutput 131 = .ok (.invokevirtual 89, 3) := by decide +kernel
theorem dX5_inputOrOutput_134 : decode cX5_inputOrOutput 134 = .ok (.return_, 1) := by decide +kernel
theorem dX5_inputOrOutput_135 : decode cX5_inputOrOutput 135 = .ok (.aload_n 0, 1) := by decide +kernel
theorem dX5_inputOrOutput_136 : decode cX5_inputOrOutput 136 = .ok (.aload_n 0, 1) := by decide +kernel
theorem dX5_inputOrOutput_137 : decode cX5_inputOrOutput 137 = .ok (.getfield 19, 3) := by decide +kernel
theorem dX5_inputOrOutput_140 : decode cX5_inputOrOutput 140 = .ok (.iload_n 2, 1) := by decide +kernel
theorem dX5_inputOrOutput_141 : decode cX5_inputOrOutput 141 = .ok (.invokevirtual 125, 3) := by decide +kernel
theorem dX5_inputOrOutput_144 : decode cX5_inputOrOutput 144 = .ok (.invokevirtual 89, 3) := by decide +kernel
theorem dX5_inputOrOutput_147 : decode cX5_inputOrOutput 147 = .ok (.return_, 1) := by decide +kernel
theorem dX5_inputOrOutput_148 : decode cX5_inputOrOutput 148 = .ok (.aload_n 0, 1) := by decide +kernel
theorem dX5_inputOrOutput_149 : decode cX5_inputOrOutput 149 = .ok (.getfield 9, 3) := by decide +kernel
theorem dX5_inputOrOutput_152 : decode cX5_inputOrOutput 152 = .ok (.iload_n 3, 1) := by decide +kernel
theorem dX5_inputOrOutput_153 : decode cX5_inputOrOutput 153 = .ok (.aload_n 0, 1) := by decide +kernel
theorem dX5_inputOrOutput_154 : decode cX5_inputOrOutput 154 = .ok (.getfield 9, 3) := by decide +kernel
theorem dX5_inputOrOutput_157 : decode cX5_inputOrOutput 157 = .ok (.iload_n 3, 1) := by decide +kernel
theorem dX5_inputOrOutput_158 : decode cX5_inputOrOutput 158 = .ok (.invokevirtual 29, 3) := by decide +kernel
theorem dX5_inputOrOutput_161 : decode cX5_inputOrOutput 161 = .ok (.aload_n 0, 1) := by decide +kernel
theorem dX5_inputOrOutput_162 : decode cX5_inputOrOutput 162 = .ok (.getfield 19, 3) := by decide +kernel
theorem dX5_inputOrOutput_165 : decode cX5_inputOrOutput 165 = .ok (.iload_n 2, 1) := by decide +kernel
theorem dX5_inputOrOutput_166 : decode cX5_inputOrOutput 166 = .ok (.invokevirtual 128, 3) := by decide +kernel
theorem dX5_inputOrOutput_169 : decode cX5_inputOrOutput 169 = .ok (.ior, 1) := by decide +kernel
theorem dX5_inputOrOutput_170 : decode cX5_inputOrOutput 170 = .ok (.invokevirtual 76, 3) := by decide +kernel
theorem dX5_inputOrOutput_173 : decode cX5_inputOrOutput 173 = .ok (.goto 66, 3) := by decide +kernel
theorem dX5_inputOrOutput_176 : decode cX5_inputOrOutput 176 = .ok (.aload_n 0, 1) := by decide +kernel
theorem dX5_inputOrOutput_177 : decode cX5_inputOrOutput 177 = .ok (.getfield 9, 3) := by decide +kernel
theorem dX5_inputOrOutput_180 : decode cX5_inputOrOutput 180 = .ok (.iload_n 3, 1) := by decide +kernel
theorem dX5_inputOrOutput_181 : decode cX5_inputOrOutput 181 = .ok (.aload_n 0, 1) := by decide +kernel
theorem dX5_inputOrOutput_182 : decode cX5_inputOrOutput 182 = .ok (.getfield 19, 3) := by decide +kernel
theorem dX5_inputOrOutput_185 : decode cX5_inputOrOutput 185 = .ok (.iload_n 2, 1) := by decide +kernel
theorem dX5_inputOrOutput_186 : decode cX5_inputOrOutput 186 = .ok (.invokevirtual 128, 3) := by decide +kernel
theorem dX5_inputOrOutput_189 : decode cX5_inputOrOutput 189 = .ok (.invokevirtual 76, 3) := by decide +kernel
theorem dX5_inputOrOutput_192 : decode cX5_inputOrOutput 192 = .ok (.goto 47, 3) := by decide +kernel
theorem dX5_inputOrOutput_195 : decode cX5_inputOrOutput 195 = .ok (.aload_n 0, 1) := by decide +kernel
theorem dX5_inputOrOutput_196 : decode cX5_inputOrOutput 196 = .ok (.getfield 19, 3) := by decide +kernel
theorem dX5_inputOrOutput_199 : decode cX5_inputOrOutput 199 = .ok (.iload_n 2, 1) := by decide +kernel
theorem dX5_inputOrOutput_200 : decode cX5_inputOrOutput 200 = .ok (.aload_n 0, 1) := by decide +kernel
theorem dX5_inputOrOutput_201 : decode cX5_inputOrOutput 201 = .ok (.getfield 9, 3) := by decide +kernel
theorem dX5_inputOrOutput_204 : decode cX5_inputOrOutput 204 = .ok (.iload_n 3, 1) := by decide +kernel
theorem dX5_inputOrOutput_205 : decode cX5_inputOrOutput 205 = .ok (.invokevirtual 29, 3) := by decide +kernel
theorem dX5_inputOrOutput_208 : decode cX5_inputOrOutput 208 = .ok (.invokevirtual 131, 3) := by decide +kernel
theorem dX5_inputOrOutput_211 : decode cX5_inputOrOutput 211 = .ok (.goto 28, 3) := by decide +kernel
theorem dX5_inputOrOutput_214 : decode cX5_inputOrOutput 214 = .ok (.aload_n 0, 1) := by decide +kernel
theorem dX5_inputOrOutput_215 : decode cX5_inputOrOutput 215 = .ok (.getfield 19, 3) := by decide +kernel
theorem dX5_inputOrOutput_218 : decode cX5_inputOrOutput 218 = .ok (.iload_n 2, 1) := by decide +kernel
theorem dX5_inputOrOutput_219 : decode cX5_inputOrOutput 219 = .ok (.iload_n 3, 1) := by decide +kernel
theorem dX5_inputOrOutput_220 : decode cX5_inputOrOutput 220 = .ok (.ifCond .ne 7, 3) := by decide +kernel
theorem dX5_inputOrOutput_223 : decode cX5_inputOrOutput 223 = .ok (.iconst 1, 1) := by decide +kernel
theorem dX5_inputOrOutput_224 : decode cX5_inputOrOutput 224 = .ok (.goto 4, 3) := by decide +kernel
theorem dX5_inputOrOutput_227 : decode cX5_inputOrOutput 227 = .ok (.iconst 0, 1) := by decide +kernel
theorem dX5_inputOrOutput_228 : decode cX5_inputOrOutput 228 = .ok (.invokevirtual 134, 3) := by decide +kernel
theorem dX5_inputOrOutput_231 : decode cX5_inputOrOutput 231 = .ok (.aload_n 0, 1) := by decide +kernel
theorem dX5_inputOrOutput_232 : decode cX5_inputOrOutput 232 = .ok (.getfield 15, 3) := by decide +kernel
theorem dX5_inputOrOutput_235 : decode cX5_inputOrOutput 235 = .ok (.iconst 1, 1) := by decide +kernel
theorem dX5_inputOrOutput_236 : decode cX5_inputOrOutput 236 = .ok (.putfield 93, 3) := by decide +kernel
theorem dX5_inputOrOutput_239 : decode cX5_inputOrOutput 239 = .ok (.iload 4, 2) := by decide +kernel
theorem dX5_inputOrOutput_241 : decode cX5_inputOrOutput 241 = .ok (.ifCond .eq 20, 3) := by decide +kernel
theorem dX5_inputOrOutput_244 : decode cX5_inputOrOutput 244 = .ok (.aload_n 0, 1) := by decide +kernel
theorem dX5_inputOrOutput_245 : decode cX5_inputOrOutput 245 = .ok (.getfield 19, 3) := by decide +kernel
theorem dX5_inputOrOutput_248 : decode cX5_inputOrOutput 248 = .ok (.iload_n 2, 1) := by decide +kernel
theorem dX5_inputOrOutput_249 : decode cX5_inputOrOutput 249 = .ok (.iconst 0, 1) := by decide +kernel
theorem dX5_inputOrOutput_250 : decode cX5_inputOrOutput 250 = .ok (.invokevirtual 120, 3) := by decide +kernel
theorem dX5_inputOrOutput_253 : decode cX5_inputOrOutput 253 = .ok (.aload_n 0, 1) := by decide +kernel
theorem dX5_inputOrOutput_254 : decode cX5_inputOrOutput 254 = .ok (.getfield 15, 3) := by decide +kernel
theorem dX5_inputOrOutput_257 : decode cX5_inputOrOutput 257 = .ok (.iconst 1, 1) := by decide +kernel
theorem dX5_inputOrOutput_258 : decode cX5_inputOrOutput 258 = .ok (.putfield 93, 3) := by decide +kernel
theorem dX5_inputOrOutput_261 : decode cX5_inputOrOutput 261 = .ok (.return_, 1) := by decide +kernel
theorem dX5_hasAddressBehind_0 : decode cX5_hasAddressBehind 0 = .ok (.iload_n 0, 1) := by decide +kernel
theorem dX5_hasAddressBehind_1 : decode cX5_hasAddressBehind 1 = .ok (.ldc 137, 2) := by decide +kernel
theorem dX5_hasAddressBehind_3 : decode cX5_hasAddressBehind 3 = .ok (.if_icmp .eq 21, 3) := by decide +kernel
theorem dX5_hasAddressBehind_6 : decode cX5_hasAddressBehind 6 = .ok (.iload_n 0, 1) := by decide +kernel
theorem dX5_hasAddressBehind_7 : decode cX5_hasAddressBehind 7 = .ok (.ldc 138, 2) := by decide +kernel
theorem dX5_hasAddressBehind_9 : decode cX5_hasAddressBehind 9 = .ok (.if_icmp .eq 15, 3) := by decide +kernel
theorem dX5_hasAddressBehind_12 : decode cX5_hasAddressBehind 12 = .ok (.iload_n 0, 1) := by decide +kernel
theorem dX5_hasAddressBehind_13 : decode cX5_hasAddressBehind 13 = .ok (.ldc 139, 2) := by decide +kernel
theorem dX5_hasAddressBehind_15 : decode cX5_hasAddressBehind 15 = .ok (.if_icmp .eq 9, 3) := by decide +kernel
theorem dX5_hasAddressBehind_18 : decode cX5_hasAddressBehind 18 = .ok (.iload_n 0, 1) := by decide +kernel
theorem dX5_hasAddressBehind_19 : decode cX5_hasAddressBehind 19 = .ok (.ldc 140, 2) := by decide +kernel
theorem dX5_hasAddressBehind_21 : decode cX5_hasAddressBehind 21 = .ok (.if_icmp .ne 7, 3) := by decide +kernel
theorem dX5_hasAddressBehind_24 : decode cX5_hasAddressBehind 24 = .ok (.iconst 1, 1) := by decide +kernel
theorem dX5_hasAddressBehind_25 : decode cX5_hasAddressBehind 25 = .ok (.goto 4, 3) := by decide +kernel
theorem dX5_hasAddressBehind_28 : decode cX5_hasAddressBehind 28 = .ok (.iconst 0, 1) := by decide +kernel
theorem dX5_hasAddressBehind_29 : decode cX5_hasAddressBehind 29 = .ok (.ireturn, 1) := by decide +kernel
set_option maxRecDepth 20000 in
theorem ggX5_doubleWord_X4_read : GoodIn wsX5_doubleWord wsX4_read := goodIn_r _ [6, 7, 40] (by decide +kernel) (by decide +kernel)
set_option maxRecDepth 20000 in
theorem gX5_doubleWord_X4_read : GoodIn wsX5_doubleWord (wsV RX5 29 RX4 yX4_read wsX4_read) := goodIn_app (goodIn_of _ (by decide +kernel)) ggX5_doubleWord_X4_read
set_option maxRecDepth 20000 in
theorem ggX5_doubleWord_X5_multiply : GoodIn wsX5_doubleWord wsX5_multiply := goodIn_r _ [12, 1, 13, 2, 3, 4, 5, 6, 7, 14, 15, 16, 11, 17, 18, 19, 20, 21, 22, 37, 38, 39, 41, 42, 43, 44, 45, 46, 40] (by decide +kernel) (by decide +kernel)
set_option maxRecDepth 20000 in
theorem gX5_doubleWord_X5_multiply : GoodIn wsX5_doubleWord (wsV RX5 141 RX5 yX5_multiply wsX5_multiply) := goodIn_app (goodIn_of _ (by decide +kernel)) ggX5_doubleWord_X5_multiply
set_option maxRecDepth 20000 in
theorem ggX5_doubleWord_X5_divide : GoodIn wsX5_doubleWord wsX5_divide := goodIn_r _ [26, 13, 27, 28, 1, 29, 30, 31, 11, 32, 2, 3, 4, 5, 6, 7, 18, 19, 20, 21, 22, 37, 38, 39, 41, 42, 43, 44, 45, 46, 40] (by decide +kernel) (by decide +kernel)
set_option maxRecDepth 20000 in
theorem gX5_doubleWord_X5_divide : GoodIn wsX5_doubleWord (wsV RX5 144 RX5 yX5_divide wsX5_divide) := goodIn_app (goodIn_of _ (by decide +kernel)) ggX5_doubleWord_X5_divide
set_option maxRecDepth 20000 in
theorem ggX5_doubleWord_X5_writeTwo : GoodIn wsX5_doubleWord wsX5_writeTwo := goodIn_r _ [36, 1, 18, 19, 20, 5, 21, 7, 22, 37, 38, 39, 40] (by decide +kernel) (by decide +kernel)
set_option maxRecDepth 20000 in
theorem gX5_doubleWord_X5_writeTwo : GoodIn wsX5_doubleWord (wsV RX5 147 RX5 yX5_writeTwo wsX5_writeTwo) := goodIn_app (goodIn_of _ (by decide +kernel)) ggX5_doubleWord_X5_writeTwo
theorem dX5_doubleWord_0 : decode cX5_doubleWord 0 = .ok (.iload_n 2, 1) := by decide +kernel
theorem dX5_doubleWord_1 : decode cX5_doubleWord 1 = .ok (.iconst (-1), 1) := by decide +kernel
theorem dX5_doubleWord_2 : decode cX5_doubleWord 2 = .ok (.if_icmp .ne 4, 3) := by decide +kernel
theorem dX5_doubleWord_5 : decode cX5_doubleWord 5 = .ok (.return_, 1) := by decide +kernel
theorem dX5_doubleWord_6 : decode cX5_doubleWord 6 = .ok (.iload_n 2, 1) := by decide +kernel
theorem dX5_doubleWord_7 : decode cX5_doubleWord 7 = .ok (.iconst 1, 1) := by decide +kernel
theorem dX5_doubleWord_8 : decode cX5_doubleWord 8 = .ok (.iadd, 1) := by decide +kernel
theorem dX5_doubleWord_9 : decode cX5_doubleWord 9 = .ok (.sipush 32767, 3) := by decide +kernel
theorem dX5_doubleWord_12 : decode cX5_doubleWord 12 = .ok (.iand, 1) := by decide +kernel
theorem dX5_doubleWord_13 : decode cX5_doubleWord 13 = .ok (.istore_n 3, 1) := by decide +kernel
theorem dX5_doubleWord_14 : decode cX5_doubleWord 14 = .ok (.iload_n 1, 1) := by decide +kernel
theorem dX5_doubleWord_15 : decode cX5_doubleWord 15 = .ok (.lookupswitch 88 #[(32896, 33), (33024, 48), (34944, 63)], 33) := by decide +kernel
theorem dX5_doubleWord_48 : decode cX5_doubleWord 48 = .ok (.aload_n 0, 1) := by decide +kernel
theorem dX5_doubleWord_49 : decode cX5_doubleWord 49 = .ok (.aload_n 0, 1) := by decide +kernel
theorem dX5_doubleWord_50 : decode cX5_doubleWord 50 = .ok (.getfield 9, 3) := by decide +kernel
theorem dX5_doubleWord_53 : decode cX5_doubleWord 53 = .ok (.iload_n 2, 1) := by decide +kernel
theorem dX5_doubleWord_54 : decode cX5_doubleWord 54 = .ok (.invokevirtual 29, 3) := by decide +kernel
theorem dX5_doubleWord_57 : decode cX5_doubleWord 57 = .ok (.invokevirtual 141, 3) := by decide +kernel
theorem dX5_doubleWord_60 : decode cX5_doubleWord 60 = .ok (.goto 65, 3) := by decide +kernel
theorem dX5_doubleWord_63 : decode cX5_doubleWord 63 = .ok (.aload_n 0, 1) := by decide +kernel
theorem dX5_doubleWord_64 : decode cX5_doubleWord 64 = .ok (.aload_n 0, 1) := by decide +kernel
theorem dX5_doubleWord_65 : decode cX5_doubleWord 65 = .ok (.getfield 9, 3) := by decide +kernel
theorem dX5_doubleWord_68 : decode cX5_doubleWord 68 = .ok (.iload_n 2, 1) := by decide +kernel
theorem dX5_doubleWord_69 : decode cX5_doubleWord 69 = .ok (.invokevirtual 29, 3) := by decide +kernel
theorem dX5_doubleWord_72 : decode cX5_doubleWord 72 = .ok (.invokevirtual 144, 3) := by decide +kernel
theorem dX5_doubleWord_75 : decode cX5_doubleWord 75 = .ok (.goto 50, 3) := by decide +kernel
theorem dX5_doubleWord_78 : decode cX5_doubleWord 78 = .ok (.aload_n 0, 1) := by decide +kernel
theorem dX5_doubleWord_79 : decode cX5_doubleWord 79 = .ok (.iconst 0, 1) := by decide +kernel
theorem dX5_doubleWord_80 : decode cX5_doubleWord 80 = .ok (.aload_n 0, 1) := by decide +kernel
theorem dX5_doubleWord_81 : decode cX5_doubleWord 81 = .ok (.getfield 9, 3) := by decide +kernel
theorem dX5_doubleWord_84 : decode cX5_doubleWord 84 = .ok (.iload_n 2, 1) := by decide +kernel
theorem dX5_doubleWord_85 : decode cX5_doubleWord 85 = .ok (.invokevirtual 29, 3) := by decide +kernel
theorem dX5_doubleWord_88 : decode cX5_doubleWord 88 = .ok (.iconst 1, 1) := by decide +kernel
theorem dX5_doubleWord_89 : decode cX5_doubleWord 89 = .ok (.aload_n 0, 1) := by decide +kernel
theorem dX5_doubleWord_90 : decode cX5_doubleWord 90 = .ok (.getfield 9, 3) := by decide +kernel
theorem dX5_doubleWord_93 : decode cX5_doubleWord 93 = .ok (.iload_n 3, 1) := by decide +kernel
theorem dX5_doubleWord_94 : decode cX5_doubleWord 94 = .ok (.invokevirtual 29, 3) := by decide +kernel
theorem dX5_doubleWord_97 : decode cX5_doubleWord 97 = .ok (.invokevirtual 147, 3) := by decide +kernel
theorem dX5_doubleWord_100 : decode cX5_doubleWord 100 = .ok (.goto 25, 3) := by decide +kernel
theorem dX5_doubleWord_103 : decode cX5_doubleWord 103 = .ok (.aload_n 0, 1) := by decide +kernel
theorem dX5_doubleWord_104 : decode cX5_doubleWord 104 = .ok (.iload_n 2, 1) := by decide +kernel
theorem dX5_doubleWord_105 : decode cX5_doubleWord 105 = .ok (.aload_n 0, 1) := by decide +kernel
theorem dX5_doubleWord_106 : decode cX5_doubleWord 106 = .ok (.getfield 9, 3) := by decide +kernel
theorem dX5_doubleWord_109 : decode cX5_doubleWord 109 = .ok (.iconst 0, 1) := by decide +kernel
theorem dX5_doubleWord_110 : decode cX5_doubleWord 110 = .ok (.invokevirtual 29, 3) := by decide +kernel
theorem dX5_doubleWord_113 : decode cX5_doubleWord 113 = .ok (.iload_n 3, 1) := by decide +kernel
theorem dX5_doubleWord_114 : decode cX5_doubleWord 114 = .ok (.aload_n 0, 1) := by decide +kernel
theorem dX5_doubleWord_115 : decode cX5_doubleWord 115 = .ok (.getfield 9, 3) := by decide +kernel
theorem dX5_doubleWord_118 : decode cX5_doubleWord 118 = .ok (.iconst 1, 1) := by decide +kernel
theorem dX5_doubleWord_119 : decode cX5_doubleWord 119 = .ok (.invokevirtual 29, 3) := by decide +kernel
theorem dX5_doubleWord_122 : decode cX5_doubleWord 122 = .ok (.invokevirtual 147, 3) := by decide +kernel
theorem dX5_doubleWord_125 : decode cX5_doubleWord 125 = .ok (.return_, 1) := by decide +kernel
set_option maxRecDepth 20000 in
theorem ggX5_writeTwo_X4_write : GoodIn wsX5_writeTwo wsX4_write := goodIn_r _ [6, 7, 8, 12] (by decide +kernel) (by decide +kernel)
set_option maxRecDepth 20000 in
theorem gX5_writeTwo_X4_write : GoodIn wsX5_writeTwo (wsV RX5 76 RX4 yX4_write wsX4_write) := goodIn_app (goodIn_of _ (by decide +kernel)) ggX5_writeTwo_X4_write
theorem dX5_writeTwo_0 : decode cX5_writeTwo 0 = .ok (.aload_n 0, 1) := by decide +kernel
theorem dX5_writeTwo_1 : decode cX5_writeTwo 1 = .ok (.getfield 9, 3) := by decide +kernel
theorem dX5_writeTwo_4 : decode cX5_writeTwo 4 = .ok (.iload_n 1, 1) := by decide +kernel
theorem dX5_writeTwo_5 : decode cX5_writeTwo 5 = .ok (.iload_n 2, 1) := by decide +kernel
theorem dX5_writeTwo_6 : decode cX5_writeTwo 6 = .ok (.invokevirtual 76, 3) := by decide +kernel
theorem dX5_writeTwo_9 : decode cX5_writeTwo 9 = .ok (.aload_n 0, 1) := by decide +kernel
theorem dX5_writeTwo_10 : decode cX5_writeTwo 10 = .ok (.getfield 9, 3) := by decide +kernel
theorem dX5_writeTwo_13 : decode cX5_writeTwo 13 = .ok (.iload_n 3, 1) := by decide +kernel
theorem dX5_writeTwo_14 : decode cX5_writeTwo 14 = .ok (.iload 4, 2) := by decide +kernel
theorem dX5_writeTwo_16 : decode cX5_writeTwo 16 = .ok (.invokevirtual 76, 3) := by decide +kernel
theorem dX5_writeTwo_19 : decode cX5_writeTwo 19 = .ok (.return_, 1) := by decide +kernel
set_option maxRecDepth 20000 in
theorem ggX5_readPair_X4_read : GoodIn wsX5_readPair wsX4_read := goodIn_r _ [6, 7, 11] (by decide +kernel) (by decide +kernel)
set_option maxRecDepth 20000 in
theorem gX5_readPair_X4_read : GoodIn wsX5_readPair (wsV RX5 29 RX4 yX4_read wsX4_read) := goodIn_app (goodIn_of _ (by decide +kernel)) ggX5_readPair_X4_read
theorem dX5_readPair_0 : decode cX5_readPair 0 = .ok (.aload_n 0, 1) := by decide +kernel
theorem dX5_readPair_1 : decode cX5_readPair 1 = .ok (.getfield 9, 3) := by decide +kernel
theorem dX5_readPair_4 : decode cX5_readPair 4 = .ok (.iconst 1, 1) := by decide +kernel
theorem dX5_readPair_5 : decode cX5_readPair 5 = .ok (.invokevirtual 29, 3) := by decide +kernel
theorem dX5_readPair_8 : decode cX5_readPair 8 = .ok (.bipush 16, 2) := by decide +kernel
theorem dX5_readPair_10 : decode cX5_readPair 10 = .ok (.ishl, 1) := by decide +kernel
theorem dX5_readPair_11 : decode cX5_readPair 11 = .ok (.aload_n 0, 1) := by decide +kernel
theorem dX5_readPair_12 : decode cX5_readPair 12 = .ok (.getfield 9, 3) := by decide +kernel
theorem dX5_readPair_15 : decode cX5_readPair 15 = .ok (.iconst 0, 1) := by decide +kernel
theorem dX5_readPair_16 : decode cX5_readPair 16 = .ok (.invokevirtual 29, 3) := by decide +kernel
theorem dX5_readPair_19 : decode cX5_readPair 19 = .ok (.ior, 1) := by decide +kernel
theorem dX5_readPair_20 : decode cX5_readPair 20 = .ok (.ireturn, 1) := by decide +kernel
set_option maxRecDepth 20000 in
theorem ggX5_writePair_X4_write : GoodIn wsX5_writePair wsX4_write := goodIn_r _ [6, 7, 8, 12] (by decide +kernel) (by decide +kernel)
set_option maxRecDepth 20000 in
theorem gX5_writePair_X4_write : GoodIn wsX5_writePair (wsV RX5 76 RX4 yX4_write wsX4_write) := goodIn_app (goodIn_of _ (by decide +kernel)) ggX5_writePair_X4_write
theorem dX5_writePair_0 : decode cX5_writePair 0 = .ok (.aload_n 0, 1) := by decide +kernel
theorem dX5_writePair_1 : decode cX5_writePair 1 = .ok (.getfield 9, 3) := by decide +kernel
theorem dX5_writePair_4 : decode cX5_writePair 4 = .ok (.iconst 0, 1) := by decide +kernel
theorem dX5_writePair_5 : decode cX5_writePair 5 = .ok (.iload_n 1, 1) := by decide +kernel
theorem dX5_writePair_6 : decode cX5_writePair 6 = .ok (.invokevirtual 76, 3) := by decide +kernel
theorem dX5_writePair_9 : decode cX5_writePair 9 = .ok (.aload_n 0, 1) := by decide +kernel
theorem dX5_writePair_10 : decode cX5_writePair 10 = .ok (.getfield 9, 3) := by decide +kernel
theorem dX5_writePair_13 : decode cX5_writePair 13 = .ok (.iconst 1, 1) := by decide +kernel
theorem dX5_writePair_14 : decode cX5_writePair 14 = .ok (.iload_n 1, 1) := by decide +kernel
theorem dX5_writePair_15 : decode cX5_writePair 15 = .ok (.bipush 16, 2) := by decide +kernel
theorem dX5_writePair_17 : decode cX5_writePair 17 = .ok (.iushr, 1) := by decide +kernel
theorem dX5_writePair_18 : decode cX5_writePair 18 = .ok (.invokevirtual 76, 3) := by decide +kernel
theorem dX5_writePair_21 : decode cX5_writePair 21 = .ok (.return_, 1) := by decide +kernel
set_option maxRecDepth 20000 in
theorem ggX5_multiply_X4_read : GoodIn wsX5_multiply wsX4_read := goodIn_r _ [7, 8, 28] (by decide +kernel) (by decide +kernel)
set_option maxRecDepth 20000 in
theorem gX5_multiply_X4_read : GoodIn wsX5_multiply (wsV RX5 29 RX4 yX4_read wsX4_read) := goodIn_app (goodIn_of _ (by decide +kernel)) ggX5_multiply_X4_read
set_option maxRecDepth 20000 in
theorem ggX5_multiply_X5_writePair : GoodIn wsX5_multiply wsX5_writePair := goodIn_r _ [13, 1, 14, 15, 16, 6, 17, 8, 18, 19, 20, 21, 28] (by decide +kernel) (by decide +kernel)
set_option maxRecDepth 20000 in
theorem gX5_multiply_X5_writePair : GoodIn wsX5_multiply (wsV RX5 151 RX5 yX5_writePair wsX5_writePair) := goodIn_app (goodIn_of _ (by decide +kernel)) ggX5_multiply_X5_writePair
theorem dX5_multiply_0 : decode cX5_multiply 0 = .ok (.aload_n 0, 1) := by decide +kernel
theorem dX5_multiply_1 : decode cX5_multiply 1 = .ok (.aload_n 0, 1) := by decide +kernel
theorem dX5_multiply_2 : decode cX5_multiply 2 = .ok (.getfield 9, 3) := by decide +kernel
theorem dX5_multiply_5 : decode cX5_multiply 5 = .ok (.iconst 0, 1) := by decide +kernel
theorem dX5_multiply_6 : decode cX5_multiply 6 = .ok (.invokevirtual 29, 3) := by decide +kernel
theorem dX5_multiply_9 : decode cX5_multiply 9 = .ok (.i2s, 1) := by decide +kernel
theorem dX5_multiply_10 : decode cX5_multiply 10 = .ok (.iload_n 1, 1) := by decide +kernel
theorem dX5_multiply_11 : decode cX5_multiply 11 = .ok (.i2s, 1) := by decide +kernel
theorem dX5_multiply_12 : decode cX5_multiply 12 = .ok (.imul, 1) := by decide +kernel
theorem dX5_multiply_13 : decode cX5_multiply 13 = .ok (.invokevirtual 151, 3) := by decide +kernel
theorem dX5_multiply_16 : decode cX5_multiply 16 = .ok (.aload_n 0, 1) := by decide +kernel
theorem dX5_multiply_17 : decode cX5_multiply 17 = .ok (.getfield 15, 3) := by decide +kernel
theorem dX5_multiply_20 : decode cX5_multiply 20 = .ok (.iconst 0, 1) := by decide +kernel
theorem dX5_multiply_21 : decode cX5_multiply 21 = .ok (.putfield 101, 3) := by decide +kernel
theorem dX5_multiply_24 : decode cX5_multiply 24 = .ok (.return_, 1) := by decide +kernel
set_option maxRecDepth 20000 in
theorem ggX5_divide_X5_readPair : GoodIn wsX5_divide wsX5_readPair := goodIn_r _ [9, 4, 10, 11, 12, 13, 14, 15, 21, 22, 23, 30] (by decide +kernel) (by decide +kernel)
set_option maxRecDepth 20000 in
theorem gX5_divide_X5_readPair : GoodIn wsX5_divide (wsV RX5 154 RX5 yX5_readPair wsX5_readPair) := goodIn_app (goodIn_of _ (by decide +kernel)) ggX5_divide_X5_readPair
set_option maxRecDepth 20000 in
theorem ggX5_divide_X4_write : GoodIn wsX5_divide wsX4_write := goodIn_r _ [19, 15, 20, 30] (by decide +kernel) (by decide +kernel)
set_option maxRecDepth 20000 in
theorem gX5_divide_X4_write : GoodIn wsX5_divide (wsV RX5 76 RX4 yX4_write wsX4_write) := goodIn_app (goodIn_of _ (by decide +kernel)) ggX5_divide_X4_write
theorem dX5_divide_0 : decode cX5_divide 0 = .ok (.iload_n 1, 1) := by decide +kernel
theorem dX5_divide_1 : decode cX5_divide 1 = .ok (.i2s, 1) := by decide +kernel
theorem dX5_divide_2 : decode cX5_divide 2 = .ok (.i2l, 1) := by decide +kernel
theorem dX5_divide_3 : decode cX5_divide 3 = .ok (.lstore_n 2, 1) := by decide +kernel
theorem dX5_divide_4 : decode cX5_divide 4 = .ok (.aload_n 0, 1) := by decide +kernel
theorem dX5_divide_5 : decode cX5_divide 5 = .ok (.getfield 15, 3) := by decide +kernel
theorem dX5_divide_8 : decode cX5_divide 8 = .ok (.iconst 1, 1) := by decide +kernel
theorem dX5_divide_9 : decode cX5_divide 9 = .ok (.putfield 101, 3) := by decide +kernel
theorem dX5_divide_12 : decode cX5_divide 12 = .ok (.lload_n 2, 1) := by decide +kernel
theorem dX5_divide_13 : decode cX5_divide 13 = .ok (.lconst 0, 1) := by decide +kernel
theorem dX5_divide_14 : decode cX5_divide 14 = .ok (.lcmp, 1) := by decide +kernel
theorem dX5_divide_15 : decode cX5_divide 15 = .ok (.ifCond .ne 4, 3) := by decide +kernel
theorem dX5_divide_18 : decode cX5_divide 18 = .ok (.return_, 1) := by decide +kernel
theorem dX5_divide_19 : decode cX5_divide 19 = .ok (.aload_n 0, 1) := by decide +kernel
theorem dX5_divide_20 : decode cX5_divide 20 = .ok (.invokevirtual 154, 3) := by decide +kernel
theorem dX5_divide_23 : decode cX5_divide 23 = .ok (.i2l, 1) := by decide +kernel
theorem dX5_divide_24 : decode cX5_divide 24 = .ok (.lstore 4, 2) := by decide +kernel
theorem dX5_divide_26 : decode cX5_divide 26 = .ok (.lload 4, 2) := by decide +kernel
theorem dX5_divide_28 : decode cX5_divide 28 = .ok (.lload_n 2, 1) := by decide +kernel
theorem dX5_divide_29 : decode cX5_divide 29 = .ok (.ldiv, 1) := by decide +kernel
theorem dX5_divide_30 : decode cX5_divide 30 = .ok (.lstore 6, 2) := by decide +kernel
theorem dX5_divide_32 : decode cX5_divide 32 = .ok (.lload 6, 2) := by decide +kernel
theorem dX5_divide_34 : decode cX5_divide 34 = .ok (.ldc2_w 157, 3) := by decide +kernel
theorem dX5_divide_37 : decode cX5_divide 37 = .ok (.lcmp, 1) := by decide +kernel
theorem dX5_divide_38 : decode cX5_divide 38 = .ok (.ifCond .lt 12, 3) := by decide +kernel
theorem dX5_divide_41 : decode cX5_divide 41 = .ok (.lload 6, 2) := by decide +kernel
theorem dX5_divide_43 : decode cX5_divide 43 = .ok (.ldc2_w 159, 3) := by decide +kernel
theorem dX5_divide_46 : decode cX5_divide 46 = .ok (.lcmp, 1) := by decide +kernel
theorem dX5_divide_47 : decode cX5_divide 47 = .ok (.ifCond .le 4, 3) := by decide +kernel
theorem dX5_divide_50 : decode cX5_divide 50 = .ok (.return_, 1) := by decide +kernel
theorem dX5_divide_51 : decode cX5_divide 51 = .ok (.aload_n 0, 1) := by decide +kernel
theorem dX5_divide_52 : decode cX5_divide 52 = .ok (.getfield 9, 3) := by decide +kernel
theorem dX5_divide_55 : decode cX5_divide 55 = .ok (.iconst 0, 1) := by decide +kernel
theorem dX5_divide_56 : decode cX5_divide 56 = .ok (.lload 6, 2) := by decide +kernel
theorem dX5_divide_58 : decode cX5_divide 58 = .ok (.l2i, 1) := by decide +kernel
theorem dX5_divide_59 : decode cX5_divide 59 = .ok (.invokevirtual 76, 3) := by decide +kernel
theorem dX5_divide_62 : decode cX5_divide 62 = .ok (.aload_n 0, 1) := by decide +kernel
theorem dX5_divide_63 : decode cX5_divide 63 = .ok (.getfield 9, 3) := by decide +kernel
theorem dX5_divide_66 : decode cX5_divide 66 = .ok (.iconst 1, 1) := by decide +kernel
theorem dX5_divide_67 : decode cX5_divide 67 = .ok (.lload 4, 2) := by decide +kernel
theorem dX5_divide_69 : decode cX5_divide 69 = .ok (.lload_n 2, 1) := by decide +kernel
theorem dX5_divide_70 : decode cX5_divide 70 = .ok (.lrem, 1) := by decide +kernel
theorem dX5_divide_71 : decode cX5_divide 71 = .ok (.l2i, 1) := by decide +kernel
theorem dX5_divide_72 : decode cX5_divide 72 = .ok (.invokevirtual 76, 3) := by decide +kernel
theorem dX5_divide_75 : decode cX5_divide 75 = .ok (.aload_n 0, 1) := by decide +kernel
theorem dX5_divide_76 : decode cX5_divide 76 = .ok (.getfield 15, 3) := by decide +kernel
theorem dX5_divide_79 : decode cX5_divide 79 = .ok (.iconst 0, 1) := by decide +kernel
theorem dX5_divide_80 : decode cX5_divide 80 = .ok (.putfield 101, 3) := by decide +kernel
theorem dX5_divide_83 : decode cX5_divide 83 = .ok (.return_, 1) := by decide +kernel
set_option maxRecDepth 20000 in
theorem ggX5_longShift_X5_readPair : GoodIn wsX5_longShift wsX5_readPair := goodIn_r _ [9, 10, 11, 12, 13, 14, 15, 16, 32, 33, 34, 41] (by decide +kernel) (by decide +kernel)
set_option maxRecDepth 20000 in
theorem gX5_longShift_X5_readPair : GoodIn wsX5_longShift (wsV RX5 154 RX5 yX5_readPair wsX5_readPair) := goodIn_app (goodIn_of _ (by decide +kernel)) ggX5_longShift_X5_readPair
set_option maxRecDepth 20000 in
theorem ggX5_longShift_X5_writePair : GoodIn wsX5_longShift wsX5_writePair := goodIn_r _ [20, 10, 21, 22, 23, 14, 24, 16, 25, 32, 33, 34, 41] (by decide +kernel) (by decide +kernel)
set_option maxRecDepth 20000 in
theorem gX5_longShift_X5_writePair : GoodIn wsX5_longShift (wsV RX5 151 RX5 yX5_writePair wsX5_writePair) := goodIn_app (goodIn_of _ (by decide +kernel)) ggX5_longShift_X5_writePair
set_option maxRecDepth 20000 in
theorem ggX5_longShift_X5_losesUnlikeSign : GoodIn wsX5_longShift wsX5_losesUnlikeSign := goodIn_r _ [28, 3] (by decide +kernel) (by decide +kernel)
set_option maxRecDepth 20000 in
theorem gX5_longShift_X5_losesUnlikeSign : GoodIn wsX5_longShift (va_wsS RX5 164 yX5_losesUnlikeSign wsX5_losesUnlikeSign) := goodIn_app (goodIn_of _ (by decide +kernel)) ggX5_longShift_X5_losesUnlikeSign
set_option maxRecDepth 20000 in
theorem ggX5_longShift_X7_bit : GoodIn wsX5_longShift wsX7_bit := goodIn_r _ [31] (by decide +kernel) (by decide +kernel)
set_option maxRecDepth 20000 in
theorem gX5_longShift_X7_bit_n168 : GoodIn wsX5_longShift (wsX7_bit) := ggX5_longShift_X7_bit
theorem dX5_longShift_0 : decode cX5_longShift 0 = .ok (.iload_n 1, 1) := by decide +kernel
theorem dX5_longShift_1 : decode cX5_longShift 1 = .ok (.bipush 15, 2) := by decide +kernel
theorem dX5_longShift_3 : decode cX5_longShift 3 = .ok (.iand, 1) := by decide +kernel
theorem dX5_longShift_4 : decode cX5_longShift 4 = .ok (.ifCond .ne 8, 3) := by decide +kernel
theorem dX5_longShift_7 : decode cX5_longShift 7 = .ok (.bipush 16, 2) := by decide +kernel
theorem dX5_longShift_9 : decode cX5_longShift 9 = .ok (.goto 7, 3) := by decide +kernel
theorem dX5_longShift_12 : decode cX5_longShift 12 = .ok (.iload_n 1, 1) := by decide +kernel
theorem dX5_longShift_13 : decode cX5_longShift 13 = .ok (.bipush 15, 2) := by decide +kernel
theorem dX5_longShift_15 : decode cX5_longShift 15 = .ok (.iand, 1) := by decide +kernel
theorem dX5_longShift_16 : decode cX5_longShift 16 = .ok (.istore_n 2, 1) := by decide +kernel
theorem dX5_longShift_17 : decode cX5_longShift 17 = .ok (.aload_n 0, 1) := by decide +kernel
theorem dX5_longShift_18 : decode cX5_longShift 18 = .ok (.invokevirtual 154, 3) := by decide +kernel
theorem dX5_longShift_21 : decode cX5_longShift 21 = .ok (.istore_n 3, 1) := by decide +kernel
theorem dX5_longShift_22 : decode cX5_longShift 22 = .ok (.iload_n 1, 1) := by decide +kernel
theorem dX5_longShift_23 : decode cX5_longShift 23 = .ok (.ldc 161, 2) := by decide +kernel
theorem dX5_longShift_25 : decode cX5_longShift 25 = .ok (.iand, 1) := by decide +kernel
theorem dX5_longShift_26 : decode cX5_longShift 26 = .ok (.lookupswitch 163 #[(32784, 58), (32800, 109), (32832, 129), (33296, 91), (33312, 119), (33344, 146)], 58) := by decide +kernel
theorem dX5_longShift_84 : decode cX5_longShift 84 = .ok (.aload_n 0, 1) := by decide +kernel
theorem dX5_longShift_85 : decode cX5_longShift 85 = .ok (.iload_n 3, 1) := by decide +kernel
theorem dX5_longShift_86 : decode cX5_longShift 86 = .ok (.ldc 162, 2) := by decide +kernel
theorem dX5_longShift_88 : decode cX5_longShift 88 = .ok (.iand, 1) := by decide +kernel
theorem dX5_longShift_89 : decode cX5_longShift 89 = .ok (.iload_n 3, 1) := by decide +kernel
theorem dX5_longShift_90 : decode cX5_longShift 90 = .ok (.iload_n 2, 1) := by decide +kernel
theorem dX5_longShift_91 : decode cX5_longShift 91 = .ok (.ishl, 1) := by decide +kernel
theorem dX5_longShift_92 : decode cX5_longShift 92 = .ok (.ldc 163, 2) := by decide +kernel
theorem dX5_longShift_94 : decode cX5_longShift 94 = .ok (.iand, 1) := by decide +kernel
theorem dX5_longShift_95 : decode cX5_longShift 95 = .ok (.ior, 1) := by decide +kernel
theorem dX5_longShift_96 : decode cX5_longShift 96 = .ok (.invokevirtual 151, 3) := by decide +kernel
theorem dX5_longShift_99 : decode cX5_longShift 99 = .ok (.aload_n 0, 1) := by decide +kernel
theorem dX5_longShift_100 : decode cX5_longShift 100 = .ok (.getfield 15, 3) := by decide +kernel
theorem dX5_longShift_103 : decode cX5_longShift 103 = .ok (.iload_n 3, 1) := by decide +kernel
theorem dX5_longShift_104 : decode cX5_longShift 104 = .ok (.iload_n 2, 1) := by decide +kernel
theorem dX5_longShift_105 : decode cX5_longShift 105 = .ok (.invokestatic 164, 3) := by decide +kernel
theorem dX5_longShift_108 : decode cX5_longShift 108 = .ok (.invokestatic 168, 3) := by decide +kernel
theorem dX5_longShift_111 : decode cX5_longShift 111 = .ok (.putfield 101, 3) := by decide +kernel
theorem dX5_longShift_114 : decode cX5_longShift 114 = .ok (.goto 75, 3) := by decide +kernel
theorem dX5_longShift_117 : decode cX5_longShift 117 = .ok (.aload_n 0, 1) := by decide +kernel
theorem dX5_longShift_118 : decode cX5_longShift 118 = .ok (.iload_n 3, 1) := by decide +kernel
theorem dX5_longShift_119 : decode cX5_longShift 119 = .ok (.iload_n 2, 1) := by decide +kernel
theorem dX5_longShift_120 : decode cX5_longShift 120 = .ok (.ishr, 1) := by decide +kernel
theorem dX5_longShift_121 : decode cX5_longShift 121 = .ok (.invokevirtual 151, 3) := by decide +kernel
theorem dX5_longShift_124 : decode cX5_longShift 124 = .ok (.aload_n 0, 1) := by decide +kernel
theorem dX5_longShift_125 : decode cX5_longShift 125 = .ok (.getfield 15, 3) := by decide +kernel
theorem dX5_longShift_128 : decode cX5_longShift 128 = .ok (.iconst 0, 1) := by decide +kernel
theorem dX5_longShift_129 : decode cX5_longShift 129 = .ok (.putfield 101, 3) := by decide +kernel
theorem dX5_longShift_132 : decode cX5_longShift 132 = .ok (.goto 57, 3) := by decide +kernel
theorem dX5_longShift_135 : decode cX5_longShift 135 = .ok (.aload_n 0, 1) := by decide +kernel
theorem dX5_longShift_136 : decode cX5_longShift 136 = .ok (.iload_n 3, 1) := by decide +kernel
theorem dX5_longShift_137 : decode cX5_longShift 137 = .ok (.iload_n 2, 1) := by decide +kernel
theorem dX5_longShift_138 : decode cX5_longShift 138 = .ok (.ishl, 1) := by decide +kernel
theorem dX5_longShift_139 : decode cX5_longShift 139 = .ok (.invokevirtual 151, 3) := by decide +kernel
theorem dX5_longShift_142 : decode cX5_longShift 142 = .ok (.goto 47, 3) := by decide +kernel
theorem dX5_longShift_145 : decode cX5_longShift 145 = .ok (.aload_n 0, 1) := by decide +kernel
theorem dX5_longShift_146 : decode cX5_longShift 146 = .ok (.iload_n 3, 1) := by decide +kernel
theorem dX5_longShift_147 : decode cX5_longShift 147 = .ok (.iload_n 2, 1) := by decide +kernel
theorem dX5_longShift_148 : decode cX5_longShift 148 = .ok (.iushr, 1) := by decide +kernel
theorem dX5_longShift_149 : decode cX5_longShift 149 = .ok (.invokevirtual 151, 3) := by decide +kernel
theorem dX5_longShift_152 : decode cX5_longShift 152 = .ok (.goto 37, 3) := by decide +kernel
theorem dX5_longShift_155 : decode cX5_longShift 155 = .ok (.aload_n 0, 1) := by decide +kernel
theorem dX5_longShift_156 : decode cX5_longShift 156 = .ok (.iload_n 3, 1) := by decide +kernel
theorem dX5_longShift_157 : decode cX5_longShift 157 = .ok (.iload_n 2, 1) := by decide +kernel
theorem dX5_longShift_158 : decode cX5_longShift 158 = .ok (.ishl, 1) := by decide +kernel
theorem dX5_longShift_159 : decode cX5_longShift 159 = .ok (.iload_n 3, 1) := by decide +kernel
theorem dX5_longShift_160 : decode cX5_longShift 160 = .ok (.bipush 32, 2) := by decide +kernel
theorem dX5_longShift_162 : decode cX5_longShift 162 = .ok (.iload_n 2, 1) := by decide +kernel
theorem dX5_longShift_163 : decode cX5_longShift 163 = .ok (.isub, 1) := by decide +kernel
theorem dX5_longShift_164 : decode cX5_longShift 164 = .ok (.iushr, 1) := by decide +kernel
theorem dX5_longShift_165 : decode cX5_longShift 165 = .ok (.ior, 1) := by decide +kernel
theorem dX5_longShift_166 : decode cX5_longShift 166 = .ok (.invokevirtual 151, 3) := by decide +kernel
theorem dX5_longShift_169 : decode cX5_longShift 169 = .ok (.goto 20, 3) := by decide +kernel
theorem dX5_longShift_172 : decode cX5_longShift 172 = .ok (.aload_n 0, 1) := by decide +kernel
theorem dX5_longShift_173 : decode cX5_longShift 173 = .ok (.iload_n 3, 1) := by decide +kernel
theorem dX5_longShift_174 : decode cX5_longShift 174 = .ok (.iload_n 2, 1) := by decide +kernel
theorem dX5_longShift_175 : decode cX5_longShift 175 = .ok (.iushr, 1) := by decide +kernel
theorem dX5_longShift_176 : decode cX5_longShift 176 = .ok (.iload_n 3, 1) := by decide +kernel
theorem dX5_longShift_177 : decode cX5_longShift 177 = .ok (.bipush 32, 2) := by decide +kernel
theorem dX5_longShift_179 : decode cX5_longShift 179 = .ok (.iload_n 2, 1) := by decide +kernel
theorem dX5_longShift_180 : decode cX5_longShift 180 = .ok (.isub, 1) := by decide +kernel
theorem dX5_longShift_181 : decode cX5_longShift 181 = .ok (.ishl, 1) := by decide +kernel
theorem dX5_longShift_182 : decode cX5_longShift 182 = .ok (.ior, 1) := by decide +kernel
theorem dX5_longShift_183 : decode cX5_longShift 183 = .ok (.invokevirtual 151, 3) := by decide +kernel
theorem dX5_longShift_186 : decode cX5_longShift 186 = .ok (.goto 3, 3) := by decide +kernel
theorem dX5_longShift_189 : decode cX5_longShift 189 = .ok (.return_, 1) := by decide +kernel
theorem dX5_losesUnlikeSign_0 : decode cX5_losesUnlikeSign 0 = .ok (.iload_n 0, 1) := by decide +kernel
theorem dX5_losesUnlikeSign_1 : decode cX5_losesUnlikeSign 1 = .ok (.ldc 163, 2) := by decide +kernel
theorem dX5_losesUnlikeSign_3 : decode cX5_losesUnlikeSign 3 = .ok (.iand, 1) := by decide +kernel
theorem dX5_losesUnlikeSign_4 : decode cX5_losesUnlikeSign 4 = .ok (.bipush 31, 2) := by decide +kernel
theorem dX5_losesUnlikeSign_6 : decode cX5_losesUnlikeSign 6 = .ok (.iload_n 1, 1) := by decide +kernel
theorem dX5_losesUnlikeSign_7 : decode cX5_losesUnlikeSign 7 = .ok (.isub, 1) := by decide +kernel
theorem dX5_losesUnlikeSign_8 : decode cX5_losesUnlikeSign 8 = .ok (.iushr, 1) := by decide +kernel
theorem dX5_losesUnlikeSign_9 : decode cX5_losesUnlikeSign 9 = .ok (.istore_n 2, 1) := by decide +kernel
theorem dX5_losesUnlikeSign_10 : decode cX5_losesUnlikeSign 10 = .ok (.iload_n 0, 1) := by decide +kernel
theorem dX5_losesUnlikeSign_11 : decode cX5_losesUnlikeSign 11 = .ok (.ifCond .ge 11, 3) := by decide +kernel
theorem dX5_losesUnlikeSign_14 : decode cX5_losesUnlikeSign 14 = .ok (.iconst 1, 1) := by decide +kernel
theorem dX5_losesUnlikeSign_15 : decode cX5_losesUnlikeSign 15 = .ok (.iload_n 1, 1) := by decide +kernel
theorem dX5_losesUnlikeSign_16 : decode cX5_losesUnlikeSign 16 = .ok (.ishl, 1) := by decide +kernel
theorem dX5_losesUnlikeSign_17 : decode cX5_losesUnlikeSign 17 = .ok (.iconst 1, 1) := by decide +kernel
theorem dX5_losesUnlikeSign_18 : decode cX5_losesUnlikeSign 18 = .ok (.isub, 1) := by decide +kernel
theorem dX5_losesUnlikeSign_19 : decode cX5_losesUnlikeSign 19 = .ok (.goto 4, 3) := by decide +kernel
theorem dX5_losesUnlikeSign_22 : decode cX5_losesUnlikeSign 22 = .ok (.iconst 0, 1) := by decide +kernel
theorem dX5_losesUnlikeSign_23 : decode cX5_losesUnlikeSign 23 = .ok (.istore_n 3, 1) := by decide +kernel
theorem dX5_losesUnlikeSign_24 : decode cX5_losesUnlikeSign 24 = .ok (.iload_n 2, 1) := by decide +kernel
theorem dX5_losesUnlikeSign_25 : decode cX5_losesUnlikeSign 25 = .ok (.iload_n 3, 1) := by decide +kernel
theorem dX5_losesUnlikeSign_26 : decode cX5_losesUnlikeSign 26 = .ok (.if_icmp .eq 7, 3) := by decide +kernel
theorem dX5_losesUnlikeSign_29 : decode cX5_losesUnlikeSign 29 = .ok (.iconst 1, 1) := by decide +kernel
theorem dX5_losesUnlikeSign_30 : decode cX5_losesUnlikeSign 30 = .ok (.goto 4, 3) := by decide +kernel
theorem dX5_losesUnlikeSign_33 : decode cX5_losesUnlikeSign 33 = .ok (.iconst 0, 1) := by decide +kernel
theorem dX5_losesUnlikeSign_34 : decode cX5_losesUnlikeSign 34 = .ok (.ireturn, 1) := by decide +kernel
theorem dX6_init_0 : decode cX6_init 0 = .ok (.aload_n 0, 1) := by decide +kernel
theorem dX6_init_1 : decode cX6_init 1 = .ok (.invokespecial 3, 3) := by decide +kernel
theorem dX6_init_4 : decode cX6_init 4 = .ok (.aload_n 0, 1) := by decide +kernel
theorem dX6_init_5 : decode cX6_init 5 = .ok (.iconst (-1), 1) := by decide +kernel
theorem dX6_init_6 : decode cX6_init 6 = .ok (.putfield 9, 3) := by decide +kernel
theorem dX6_init_9 : decode cX6_init 9 = .ok (.return_, 1) := by decide +kernel
theorem dX6_stepOn_0 : decode cX6_stepOn 0 = .ok (.aload_n 0, 1) := by decide +kernel
theorem dX6_stepOn_1 : decode cX6_stepOn 1 = .ok (.aload_n 0, 1) := by decide +kernel
theorem dX6_stepOn_2 : decode cX6_stepOn 2 = .ok (.getfield 15, 3) := by decide +kernel
theorem dX6_stepOn_5 : decode cX6_stepOn 5 = .ok (.iconst 1, 1) := by decide +kernel
theorem dX6_stepOn_6 : decode cX6_stepOn 6 = .ok (.iadd, 1) := by decide +kernel
theorem dX6_stepOn_7 : decode cX6_stepOn 7 = .ok (.sipush 32767, 3) := by decide +kernel
theorem dX6_stepOn_10 : decode cX6_stepOn 10 = .ok (.iand, 1) := by decide +kernel
theorem dX6_stepOn_11 : decode cX6_stepOn 11 = .ok (.putfield 15, 3) := by decide +kernel
theorem dX6_stepOn_14 : decode cX6_stepOn 14 = .ok (.return_, 1) := by decide +kernel
theorem dX6_halt_0 : decode cX6_halt 0 = .ok (.aload_n 0, 1) := by decide +kernel
theorem dX6_halt_1 : decode cX6_halt 1 = .ok (.iconst 1, 1) := by decide +kernel
theorem dX6_halt_2 : decode cX6_halt 2 = .ok (.putfield 18, 3) := by decide +kernel
theorem dX6_halt_5 : decode cX6_halt 5 = .ok (.aload_n 0, 1) := by decide +kernel
theorem dX6_halt_6 : decode cX6_halt 6 = .ok (.iload_n 1, 1) := by decide +kernel
theorem dX6_halt_7 : decode cX6_halt 7 = .ok (.putfield 9, 3) := by decide +kernel
theorem dX6_halt_10 : decode cX6_halt 10 = .ok (.return_, 1) := by decide +kernel
set_option maxRecDepth 20000 in
theorem ggX7_init_X4_init : GoodIn wsX7_init wsX4_init := goodIn_r _ [22, 23, 2, 3, 24, 25, 71] (by decide +kernel) (by decide +kernel)
set_option maxRecDepth 20000 in
theorem gX7_init_X4_init_n9 : GoodIn wsX7_init (wsX4_init) := ggX7_init_X4_init
set_option maxRecDepth 20000 in
theorem ggX7_init_X6_init : GoodIn wsX7_init wsX6_init := goodIn_r _ [27, 28, 2, 3, 29, 79, 80, 81, 82, 83, 84] (by decide +kernel) (by decide +kernel)
set_option maxRecDepth 20000 in
theorem gX7_init_X6_init_n18 : GoodIn wsX7_init (wsX6_init) := ggX7_init_X6_init
set_option maxRecDepth 20000 in
theorem ggX7_init_X0_init : GoodIn wsX7_init wsX0_init := goodIn_r _ [32, 33, 2, 3, 34, 35, 36, 37, 38, 39, 40, 41, 42, 43, 44, 45, 46, 47, 48, 49, 50, 51, 52, 53, 54, 55, 56, 57, 58, 59, 24, 60, 61, 62, 63, 85, 86, 87, 88, 89, 90, 91, 95, 96, 97, 98, 99, 100, 101, 102, 103, 104, 105, 106, 107, 108, 109, 110, 111, 112, 113, 114, 115] (by decide +kernel) (by decide +kernel)
set_option maxRecDepth 20000 in
theorem gX7_init_X0_init : GoodIn wsX7_init (wsX0_init) := ggX7_init_X0_init
set_option maxRecDepth 20000 in
theorem ggX7_init_X5_init : GoodIn wsX7_init wsX5_init := goodIn_r _ [66, 67, 2, 3, 68, 69, 70, 92, 93, 94] (by decide +kernel) (by decide +kernel)
set_option maxRecDepth 20000 in
theorem gX7_init_X5_init : GoodIn wsX7_init (wsX5_init) := ggX7_init_X5_init
theorem dX7_init_0 : decode cX7_init 0 = .ok (.aload_n 0, 1) := by decide +kernel
theorem dX7_init_1 : decode cX7_init 1 = .ok (.invokespecial 1, 3) := by decide +kernel
theorem dX7_init_4 : decode cX7_init 4 = .ok (.aload_n 0, 1) := by decide +kernel
theorem dX7_init_5 : decode cX7_init 5 = .ok (.new 7, 3) := by decide +kernel
theorem dX7_init_8 : decode cX7_init 8 = .ok (.dup, 1) := by decide +kernel
theorem dX7_init_9 : decode cX7_init 9 = .ok (.invokespecial 9, 3) := by decide +kernel
theorem dX7_init_12 : decode cX7_init 12 = .ok (.putfield 10, 3) := by decide +kernel
theorem dX7_init_15 : decode cX7_init 15 = .ok (.aload_n 0, 1) := by decide +kernel
theorem dX7_init_16 : decode cX7_init 16 = .ok (.new 16, 3) := by decide +kernel
theorem dX7_init_19 : decode cX7_init 19 = .ok (.dup, 1) := by decide +kernel
theorem dX7_init_20 : decode cX7_init 20 = .ok (.invokespecial 18, 3) := by decide +kernel
theorem dX7_init_23 : decode cX7_init 23 = .ok (.putfield 19, 3) := by decide +kernel
theorem dX7_init_26 : decode cX7_init 26 = .ok (.aload_n 0, 1) := by decide +kernel
theorem dX7_init_27 : decode cX7_init 27 = .ok (.new 23, 3) := by decide +kernel
theorem dX7_init_30 : decode cX7_init 30 = .ok (.dup, 1) := by decide +kernel
theorem dX7_init_31 : decode cX7_init 31 = .ok (.aload_n 0, 1) := by decide +kernel
theorem dX7_init_32 : decode cX7_init 32 = .ok (.getfield 19, 3) := by decide +kernel
theorem dX7_init_35 : decode cX7_init 35 = .ok (.invokespecial 25, 3) := by decide +kernel
theorem dX7_init_38 : decode cX7_init 38 = .ok (.putfield 28, 3) := by decide +kernel
theorem dX7_init_41 : decode cX7_init 41 = .ok (.aload_n 0, 1) := by decide +kernel
theorem dX7_init_42 : decode cX7_init 42 = .ok (.new 32, 3) := by decide +kernel
theorem dX7_init_45 : decode cX7_init 45 = .ok (.dup, 1) := by decide +kernel
theorem dX7_init_46 : decode cX7_init 46 = .ok (.aload_n 0, 1) := by decide +kernel
theorem dX7_init_47 : decode cX7_init 47 = .ok (.getfield 10, 3) := by decide +kernel
theorem dX7_init_50 : decode cX7_init 50 = .ok (.aload_n 0, 1) := by decide +kernel
theorem dX7_init_51 : decode cX7_init 51 = .ok (.getfield 19, 3) := by decide +kernel
theorem dX7_init_54 : decode cX7_init 54 = .ok (.aload_n 0, 1) := by decide +kernel
theorem dX7_init_55 : decode cX7_init 55 = .ok (.getfield 28, 3) := by decide +kernel
theorem dX7_init_58 : decode cX7_init 58 = .ok (.invokespecial 34, 3) := by decide +kernel
theorem dX7_init_61 : decode cX7_init 61 = .ok (.putfield 37, 3) := by decide +kernel
theorem dX7_init_64 : decode cX7_init 64 = .ok (.aload_n 0, 1) := by decide +kernel
theorem dX7_init_65 : decode cX7_init 65 = .ok (.iconst (-1), 1) := by decide +kernel
theorem dX7_init_66 : decode cX7_init 66 = .ok (.putfield 41, 3) := by decide +kernel
theorem dX7_init_69 : decode cX7_init 69 = .ok (.return_, 1) := by decide +kernel
set_option maxRecDepth 20000 in
theorem ggX7_run_X7_doTurn : GoodIn wsX7_run wsX7_doTurn := goodIn_r _ [9, 10, 11, 3, 12, 13, 14, 15, 16, 17, 18, 19, 20, 21, 22, 23, 24, 25, 26, 27, 28, 29, 30, 31, 32, 33, 34, 35, 36, 37, 38, 39, 40, 41, 42, 43, 44, 45, 46, 47, 48, 49, 50, 51, 52, 53, 54, 55, 56, 57, 58, 59, 60, 61, 62, 63, 64, 65, 66, 67, 68, 69, 70, 71, 72, 73, 74, 75, 76, 77, 78, 79, 80, 81, 82, 83, 84, 85, 86, 87, 88, 89, 90, 91, 92, 93, 94, 95, 96, 97, 98, 99, 100, 101, 102, 103, 104, 105, 106, 107, 108, 109, 110, 111, 112, 113, 114, 115, 116, 117, 118, 119, 120, 121, 122, 123, 124, 125, 126, 127, 128, 129, 130, 131, 132, 133, 134, 135, 136, 137, 138, 139, 140, 141, 142, 143, 144, 145, 146, 147, 148, 149, 150, 151, 152, 153, 154, 155, 156, 157, 158, 159, 160, 161, 162, 163, 164, 165, 166, 167, 168, 169, 170, 171, 172, 173, 174, 175, 176, 177, 178, 179, 180, 181, 182, 183, 184, 185, 186, 187, 188, 189, 190, 191, 192, 193, 194, 195, 8, 196, 197, 198, 199, 200, 201, 202, 203, 204, 205, 206, 207, 208, 209, 210, 211, 212, 213, 214, 215, 216, 217, 218, 219, 220, 221, 222, 223, 224, 225, 226, 227, 228, 229, 230, 231, 232, 233, 234, 235, 236, 237, 238, 239, 240, 241, 242, 243, 244, 245, 246, 247, 248, 249, 250, 251, 252, 253, 254, 255, 256, 257, 258, 259, 260, 261, 262, 263, 264, 265, 266, 267, 268, 269, 270, 271, 272, 273, 274, 275, 276, 277, 278, 279, 280, 281, 282, 283, 284, 291, 292, 293, 294, 295, 296, 297, 285, 286, 287, 288, 289, 290, 298, 299, 300, 301, 302, 303, 304, 305, 306, 307, 308, 309, 310, 311, 312, 313, 314, 315, 316, 317, 318, 319, 320, 321, 322] (by decide +kernel) (by decide +kernel)
set_option maxRecDepth 20000 in
theorem gX7_run_X7_doTurn : GoodIn wsX7_run (wsV RX7 56 RX7 yX7_doTurn wsX7_doTurn) := goodIn_app (goodIn_of _ (by decide +kernel)) ggX7_run_X7_doTurn
theorem dX7_run_0 : decode cX7_run 0 = .ok (.iload_n 1, 1) := by decide +kernel
theorem dX7_run_1 : decode cX7_run 1 = .ok (.ifCond .lt 10, 3) := by decide +kernel
theorem dX7_run_4 : decode cX7_run 4 = .ok (.iload_n 1, 1) := by decide +kernel
theorem dX7_run_5 : decode cX7_run 5 = .ok (.sipush 2000, 3) := by decide +kernel
theorem dX7_run_8 : decode cX7_run 8 = .ok (.if_icmp .le 13, 3) := by decide +kernel
theorem dX7_run_11 : decode cX7_run 11 = .ok (.new 45, 3) := by decide +kernel
theorem dX7_run_14 : decode cX7_run 14 = .ok (.dup, 1) := by decide +kernel
theorem dX7_run_15 : decode cX7_run 15 = .ok (.ldc 47, 2) := by decide +kernel
theorem dX7_run_17 : decode cX7_run 17 = .ok (.invokespecial 49, 3) := by decide +kernel
theorem dX7_run_20 : decode cX7_run 20 = .ok (.athrow, 1) := by decide +kernel
theorem dX7_run_21 : decode cX7_run 21 = .ok (.iconst 0, 1) := by decide +kernel
theorem dX7_run_22 : decode cX7_run 22 = .ok (.istore_n 2, 1) := by decide +kernel
theorem dX7_run_23 : decode cX7_run 23 = .ok (.iload_n 2, 1) := by decide +kernel
theorem dX7_run_24 : decode cX7_run 24 = .ok (.iload_n 1, 1) := by decide +kernel
theorem dX7_run_25 : decode cX7_run 25 = .ok (.if_icmp .ge 23, 3) := by decide +kernel
theorem dX7_run_28 : decode cX7_run 28 = .ok (.aload_n 0, 1) := by decide +kernel
theorem dX7_run_29 : decode cX7_run 29 = .ok (.getfield 19, 3) := by decide +kernel
theorem dX7_run_32 : decode cX7_run 32 = .ok (.getfield 52, 3) := by decide +kernel
theorem dX7_run_35 : decode cX7_run 35 = .ok (.ifCond .ne 13, 3) := by decide +kernel
theorem dX7_run_38 : decode cX7_run 38 = .ok (.aload_n 0, 1) := by decide +kernel
theorem dX7_run_39 : decode cX7_run 39 = .ok (.invokevirtual 56, 3) := by decide +kernel
theorem dX7_run_42 : decode cX7_run 42 = .ok (.iinc 2 1, 3) := by decide +kernel
theorem dX7_run_45 : decode cX7_run 45 = .ok (.goto (-22), 3) := by decide +kernel
theorem dX7_run_48 : decode cX7_run 48 = .ok (.aload_n 0, 1) := by decide +kernel
theorem dX7_run_49 : decode cX7_run 49 = .ok (.dup, 1) := by decide +kernel
theorem dX7_run_50 : decode cX7_run 50 = .ok (.getfield 59, 3) := by decide +kernel
theorem dX7_run_53 : decode cX7_run 53 = .ok (.iload_n 2, 1) := by decide +kernel
theorem dX7_run_54 : decode cX7_run 54 = .ok (.iadd, 1) := by decide +kernel
theorem dX7_run_55 : decode cX7_run 55 = .ok (.putfield 59, 3) := by decide +kernel
theorem dX7_run_58 : decode cX7_run 58 = .ok (.iload_n 2, 1) := by decide +kernel
theorem dX7_run_59 : decode cX7_run 59 = .ok (.ireturn, 1) := by decide +kernel
theorem dX7_go_0 : decode cX7_go 0 = .ok (.aload_n 0, 1) := by decide +kernel
theorem dX7_go_1 : decode cX7_go 1 = .ok (.getfield 19, 3) := by decide +kernel
theorem dX7_go_4 : decode cX7_go 4 = .ok (.iconst 0, 1) := by decide +kernel
theorem dX7_go_5 : decode cX7_go 5 = .ok (.putfield 52, 3) := by decide +kernel
theorem dX7_go_8 : decode cX7_go 8 = .ok (.iload_n 1, 1) := by decide +kernel
theorem dX7_go_9 : decode cX7_go 9 = .ok (.iconst (-1), 1) := by decide +kernel
theorem dX7_go_10 : decode cX7_go 10 = .ok (.if_icmp .eq 15, 3) := by decide +kernel
theorem dX7_go_13 : decode cX7_go 13 = .ok (.aload_n 0, 1) := by decide +kernel
theorem dX7_go_14 : decode cX7_go 14 = .ok (.getfield 19, 3) := by decide +kernel
theorem dX7_go_17 : decode cX7_go 17 = .ok (.iload_n 1, 1) := by decide +kernel
theorem dX7_go_18 : decode cX7_go 18 = .ok (.sipush 32767, 3) := by decide +kernel
theorem dX7_go_21 : decode cX7_go 21 = .ok (.iand, 1) := by decide +kernel
theorem dX7_go_22 : decode cX7_go 22 = .ok (.putfield 62, 3) := by decide +kernel
theorem dX7_go_25 : decode cX7_go 25 = .ok (.return_, 1) := by decide +kernel
set_option maxRecDepth 20000 in
theorem ggX7_word_X4_read : GoodIn wsX7_word wsX4_read := goodIn_r _ [8, 9, 17] (by decide +kernel) (by decide +kernel)
set_option maxRecDepth 20000 in
theorem gX7_word_X4_read : GoodIn wsX7_word (wsV RX7 70 RX4 yX4_read wsX4_read) := goodIn_app (goodIn_of _ (by decide +kernel)) ggX7_word_X4_read
theorem dX7_word_0 : decode cX7_word 0 = .ok (.iload_n 1, 1) := by decide +kernel
theorem dX7_word_1 : decode cX7_word 1 = .ok (.ifCond .lt 10, 3) := by decide +kernel
theorem dX7_word_4 : decode cX7_word 4 = .ok (.iload_n 1, 1) := by decide +kernel
theorem dX7_word_5 : decode cX7_word 5 = .ok (.sipush 4096, 3) := by decide +kernel
theorem dX7_word_8 : decode cX7_word 8 = .ok (.if_icmp .lt 13, 3) := by decide +kernel
theorem dX7_word_11 : decode cX7_word 11 = .ok (.new 65, 3) := by decide +kernel
theorem dX7_word_14 : decode cX7_word 14 = .ok (.dup, 1) := by decide +kernel
theorem dX7_word_15 : decode cX7_word 15 = .ok (.ldc 67, 2) := by decide +kernel
theorem dX7_word_17 : decode cX7_word 17 = .ok (.invokespecial 69, 3) := by decide +kernel
theorem dX7_word_20 : decode cX7_word 20 = .ok (.athrow, 1) := by decide +kernel
theorem dX7_word_21 : decode cX7_word 21 = .ok (.aload_n 0, 1) := by decide +kernel
theorem dX7_word_22 : decode cX7_word 22 = .ok (.getfield 10, 3) := by decide +kernel
theorem dX7_word_25 : decode cX7_word 25 = .ok (.iload_n 1, 1) := by decide +kernel
theorem dX7_word_26 : decode cX7_word 26 = .ok (.invokevirtual 70, 3) := by decide +kernel
theorem dX7_word_29 : decode cX7_word 29 = .ok (.ireturn, 1) := by decide +kernel
set_option maxRecDepth 20000 in
theorem ggX7_set_X4_write : GoodIn wsX7_set wsX4_write := goodIn_r _ [8, 9, 10, 18] (by decide +kernel) (by decide +kernel)
set_option maxRecDepth 20000 in
theorem gX7_set_X4_write : GoodIn wsX7_set (wsV RX7 74 RX4 yX4_write wsX4_write) := goodIn_app (goodIn_of _ (by decide +kernel)) ggX7_set_X4_write
theorem dX7_set_0 : decode cX7_set 0 = .ok (.iload_n 1, 1) := by decide +kernel
theorem dX7_set_1 : decode cX7_set 1 = .ok (.ifCond .lt 10, 3) := by decide +kernel
theorem dX7_set_4 : decode cX7_set 4 = .ok (.iload_n 1, 1) := by decide +kernel
theorem dX7_set_5 : decode cX7_set 5 = .ok (.sipush 4096, 3) := by decide +kernel
theorem dX7_set_8 : decode cX7_set 8 = .ok (.if_icmp .lt 13, 3) := by decide +kernel
theorem dX7_set_11 : decode cX7_set 11 = .ok (.new 65, 3) := by decide +kernel
theorem dX7_set_14 : decode cX7_set 14 = .ok (.dup, 1) := by decide +kernel
theorem dX7_set_15 : decode cX7_set 15 = .ok (.ldc 67, 2) := by decide +kernel
theorem dX7_set_17 : decode cX7_set 17 = .ok (.invokespecial 69, 3) := by decide +kernel
theorem dX7_set_20 : decode cX7_set 20 = .ok (.athrow, 1) := by decide +kernel
theorem dX7_set_21 : decode cX7_set 21 = .ok (.aload_n 0, 1) := by decide +kernel
theorem dX7_set_22 : decode cX7_set 22 = .ok (.getfield 10, 3) := by decide +kernel
theorem dX7_set_25 : decode cX7_set 25 = .ok (.iload_n 1, 1) := by decide +kernel
theorem dX7_set_26 : decode cX7_set 26 = .ok (.iload_n 2, 1) := by decide +kernel
theorem dX7_set_27 : decode cX7_set 27 = .ok (.invokevirtual 74, 3) := by decide +kernel
theorem dX7_set_30 : decode cX7_set 30 = .ok (.return_, 1) := by decide +kernel
set_option maxRecDepth 20000 in
theorem ggX7_state_X4_read : GoodIn wsX7_state wsX4_read := goodIn_r _ [11, 12, 37] (by decide +kernel) (by decide +kernel)
set_option maxRecDepth 20000 in
theorem gX7_state_X4_read : GoodIn wsX7_state (wsV RX7 70 RX4 yX4_read wsX4_read) := goodIn_app (goodIn_of _ (by decide +kernel)) ggX7_state_X4_read
set_option maxRecDepth 20000 in
theorem ggX7_state_X7_bit : GoodIn wsX7_state wsX7_bit := goodIn_r _ [16] (by decide +kernel) (by decide +kernel)
set_option maxRecDepth 20000 in
theorem gX7_state_X7_bit : GoodIn wsX7_state (va_wsS RX7 87 yX7_bit wsX7_bit) := goodIn_app (goodIn_of _ (by decide +kernel)) ggX7_state_X7_bit
theorem dX7_state_0 : decode cX7_state 0 = .ok (.iload_n 1, 1) := by decide +kernel
theorem dX7_state_1 : decode cX7_state 1 = .ok (.tableswitch 173 0 12 #[67, 76, 85, 93, 101, 109, 120, 131, 142, 150, 158, 163, 168], 67) := by decide +kernel
theorem dX7_state_68 : decode cX7_state 68 = .ok (.aload_n 0, 1) := by decide +kernel
theorem dX7_state_69 : decode cX7_state 69 = .ok (.getfield 10, 3) := by decide +kernel
theorem dX7_state_72 : decode cX7_state 72 = .ok (.iconst 0, 1) := by decide +kernel
theorem dX7_state_73 : decode cX7_state 73 = .ok (.invokevirtual 70, 3) := by decide +kernel
theorem dX7_state_76 : decode cX7_state 76 = .ok (.ireturn, 1) := by decide +kernel
theorem dX7_state_77 : decode cX7_state 77 = .ok (.aload_n 0, 1) := by decide +kernel
theorem dX7_state_78 : decode cX7_state 78 = .ok (.getfield 10, 3) := by decide +kernel
theorem dX7_state_81 : decode cX7_state 81 = .ok (.iconst 1, 1) := by decide +kernel
theorem dX7_state_82 : decode cX7_state 82 = .ok (.invokevirtual 70, 3) := by decide +kernel
theorem dX7_state_85 : decode cX7_state 85 = .ok (.ireturn, 1) := by decide +kernel
theorem dX7_state_86 : decode cX7_state 86 = .ok (.aload_n 0, 1) := by decide +kernel
theorem dX7_state_87 : decode cX7_state 87 = .ok (.getfield 19, 3) := by decide +kernel
theorem dX7_state_90 : decode cX7_state 90 = .ok (.getfield 62, 3) := by decide +kernel
theorem dX7_state_93 : decode cX7_state 93 = .ok (.ireturn, 1) := by decide +kernel
theorem dX7_state_94 : decode cX7_state 94 = .ok (.aload_n 0, 1) := by decide +kernel
theorem dX7_state_95 : decode cX7_state 95 = .ok (.getfield 19, 3) := by decide +kernel
theorem dX7_state_98 : decode cX7_state 98 = .ok (.getfield 78, 3) := by decide +kernel
theorem dX7_state_101 : decode cX7_state 101 = .ok (.ireturn, 1) := by decide +kernel
theorem dX7_state_102 : decode cX7_state 102 = .ok (.aload_n 0, 1) := by decide +kernel
theorem dX7_state_103 : decode cX7_state 103 = .ok (.getfield 19, 3) := by decide +kernel
theorem dX7_state_106 : decode cX7_state 106 = .ok (.getfield 81, 3) := by decide +kernel
theorem dX7_state_109 : decode cX7_state 109 = .ok (.ireturn, 1) := by decide +kernel
theorem dX7_state_110 : decode cX7_state 110 = .ok (.aload_n 0, 1) := by decide +kernel
theorem dX7_state_111 : decode cX7_state 111 = .ok (.getfield 28, 3) := by decide +kernel
theorem dX7_state_114 : decode cX7_state 114 = .ok (.getfield 84, 3) := by decide +kernel
theorem dX7_state_117 : decode cX7_state 117 = .ok (.invokestatic 87, 3) := by decide +kernel
theorem dX7_state_120 : decode cX7_state 120 = .ok (.ireturn, 1) := by decide +kernel
theorem dX7_state_121 : decode cX7_state 121 = .ok (.aload_n 0, 1) := by decide +kernel
theorem dX7_state_122 : decode cX7_state 122 = .ok (.getfield 19, 3) := by decide +kernel
theorem dX7_state_125 : decode cX7_state 125 = .ok (.getfield 91, 3) := by decide +kernel
theorem dX7_state_128 : decode cX7_state 128 = .ok (.invokestatic 87, 3) := by decide +kernel
theorem dX7_state_131 : decode cX7_state 131 = .ok (.ireturn, 1) := by decide +kernel
theorem dX7_state_132 : decode cX7_state 132 = .ok (.aload_n 0, 1) := by decide +kernel
theorem dX7_state_133 : decode cX7_state 133 = .ok (.getfield 19, 3) := by decide +kernel
theorem dX7_state_136 : decode cX7_state 136 = .ok (.getfield 52, 3) := by decide +kernel
theorem dX7_state_139 : decode cX7_state 139 = .ok (.invokestatic 87, 3) := by decide +kernel
theorem dX7_state_142 : decode cX7_state 142 = .ok (.ireturn, 1) := by decide +kernel
theorem dX7_state_143 : decode cX7_state 143 = .ok (.aload_n 0, 1) := by decide +kernel
theorem dX7_state_144 : decode cX7_state 144 = .ok (.getfield 19, 3) := by decide +kernel
theorem dX7_state_147 : decode cX7_state 147 = .ok (.getfield 94, 3) := by decide +kernel
theorem dX7_state_150 : decode cX7_state 150 = .ok (.ireturn, 1) := by decide +kernel
theorem dX7_state_151 : decode cX7_state 151 = .ok (.aload_n 0, 1) := by decide +kernel
theorem dX7_state_152 : decode cX7_state 152 = .ok (.getfield 28, 3) := by decide +kernel
theorem dX7_state_155 : decode cX7_state 155 = .ok (.getfield 97, 3) := by decide +kernel
theorem dX7_state_158 : decode cX7_state 158 = .ok (.ireturn, 1) := by decide +kernel
theorem dX7_state_159 : decode cX7_state 159 = .ok (.aload_n 0, 1) := by decide +kernel
theorem dX7_state_160 : decode cX7_state 160 = .ok (.getfield 59, 3) := by decide +kernel
theorem dX7_state_163 : decode cX7_state 163 = .ok (.ireturn, 1) := by decide +kernel
theorem dX7_state_164 : decode cX7_state 164 = .ok (.aload_n 0, 1) := by decide +kernel
theorem dX7_state_165 : decode cX7_state 165 = .ok (.getfield 100, 3) := by decide +kernel
theorem dX7_state_168 : decode cX7_state 168 = .ok (.ireturn, 1) := by decide +kernel
theorem dX7_state_169 : decode cX7_state 169 = .ok (.aload_n 0, 1) := by decide +kernel
theorem dX7_state_170 : decode cX7_state 170 = .ok (.getfield 41, 3) := by decide +kernel
theorem dX7_state_173 : decode cX7_state 173 = .ok (.ireturn, 1) := by decide +kernel
theorem dX7_state_174 : decode cX7_state 174 = .ok (.iconst (-1), 1) := by decide +kernel
theorem dX7_state_175 : decode cX7_state 175 = .ok (.ireturn, 1) := by decide +kernel
theorem dX7_switches_0 : decode cX7_switches 0 = .ok (.aload_n 0, 1) := by decide +kernel
theorem dX7_switches_1 : decode cX7_switches 1 = .ok (.getfield 28, 3) := by decide +kernel
theorem dX7_switches_4 : decode cX7_switches 4 = .ok (.iload_n 1, 1) := by decide +kernel
theorem dX7_switches_5 : decode cX7_switches 5 = .ok (.ldc 103, 2) := by decide +kernel
theorem dX7_switches_7 : decode cX7_switches 7 = .ok (.iand, 1) := by decide +kernel
theorem dX7_switches_8 : decode cX7_switches 8 = .ok (.putfield 104, 3) := by decide +kernel
theorem dX7_switches_11 : decode cX7_switches 11 = .ok (.return_, 1) := by decide +kernel
set_option maxRecDepth 20000 in
theorem ggX7_device_X0_deviceAt : GoodIn wsX7_device wsX0_deviceAt := goodIn_r _ [10, 11, 28, 29, 30, 31, 32, 33, 34] (by decide +kernel) (by decide +kernel)
set_option maxRecDepth 20000 in
theorem gX7_device_X0_deviceAt : GoodIn wsX7_device (wsV RX7 107 RX0 yX0_deviceAt wsX0_deviceAt) := goodIn_app (goodIn_of _ (by decide +kernel)) ggX7_device_X0_deviceAt
set_option maxRecDepth 20000 in
theorem ggX7_device_X2_equip : GoodIn wsX7_device wsX2_equip := goodIn_r _ [16, 17, 18, 19, 20, 35, 36, 37, 38, 39, 40, 41, 42, 43, 44] (by decide +kernel) (by decide +kernel)
set_option maxRecDepth 20000 in
theorem gX7_device_X2_equip : GoodIn wsX7_device (wsV RX7 115 RX2 yX2_equip wsX2_equip) := goodIn_app (goodIn_of _ (by decide +kernel)) ggX7_device_X2_equip
theorem dX7_device_0 : decode cX7_device 0 = .ok (.aload_n 0, 1) := by decide +kernel
theorem dX7_device_1 : decode cX7_device 1 = .ok (.getfield 28, 3) := by decide +kernel
theorem dX7_device_4 : decode cX7_device 4 = .ok (.iload_n 1, 1) := by decide +kernel
theorem dX7_device_5 : decode cX7_device 5 = .ok (.invokevirtual 107, 3) := by decide +kernel
theorem dX7_device_8 : decode cX7_device 8 = .ok (.astore 4, 2) := by decide +kernel
theorem dX7_device_10 : decode cX7_device 10 = .ok (.aload 4, 2) := by decide +kernel
theorem dX7_device_12 : decode cX7_device 12 = .ok (.ifnonnull 13, 3) := by decide +kernel
theorem dX7_device_15 : decode cX7_device 15 = .ok (.new 65, 3) := by decide +kernel
theorem dX7_device_18 : decode cX7_device 18 = .ok (.dup, 1) := by decide +kernel
theorem dX7_device_19 : decode cX7_device 19 = .ok (.ldc 111, 2) := by decide +kernel
theorem dX7_device_21 : decode cX7_device 21 = .ok (.invokespecial 69, 3) := by decide +kernel
theorem dX7_device_24 : decode cX7_device 24 = .ok (.athrow, 1) := by decide +kernel
theorem dX7_device_25 : decode cX7_device 25 = .ok (.iload_n 3, 1) := by decide +kernel
theorem dX7_device_26 : decode cX7_device 26 = .ok (.iconst 1, 1) := by decide +kernel
theorem dX7_device_27 : decode cX7_device 27 = .ok (.if_icmp .lt 9, 3) := by decide +kernel
theorem dX7_device_30 : decode cX7_device 30 = .ok (.iload_n 3, 1) := by decide +kernel
theorem dX7_device_31 : decode cX7_device 31 = .ok (.bipush 100, 2) := by decide +kernel
theorem dX7_device_33 : decode cX7_device 33 = .ok (.if_icmp .le 13, 3) := by decide +kernel
theorem dX7_device_36 : decode cX7_device 36 = .ok (.new 45, 3) := by decide +kernel
theorem dX7_device_39 : decode cX7_device 39 = .ok (.dup, 1) := by decide +kernel
theorem dX7_device_40 : decode cX7_device 40 = .ok (.ldc 113, 2) := by decide +kernel
theorem dX7_device_42 : decode cX7_device 42 = .ok (.invokespecial 49, 3) := by decide +kernel
theorem dX7_device_45 : decode cX7_device 45 = .ok (.athrow, 1) := by decide +kernel
theorem dX7_device_46 : decode cX7_device 46 = .ok (.aload 4, 2) := by decide +kernel
theorem dX7_device_48 : decode cX7_device 48 = .ok (.iload_n 2, 1) := by decide +kernel
theorem dX7_device_49 : decode cX7_device 49 = .ok (.iload_n 3, 1) := by decide +kernel
theorem dX7_device_50 : decode cX7_device 50 = .ok (.invokevirtual 115, 3) := by decide +kernel
theorem dX7_device_53 : decode cX7_device 53 = .ok (.return_, 1) := by decide +kernel
set_option maxRecDepth 20000 in
theorem ggX7_give_X0_deviceAt : GoodIn wsX7_give wsX0_deviceAt := goodIn_r _ [11, 12, 38, 39, 40, 41, 42, 43, 44] (by decide +kernel) (by decide +kernel)
set_option maxRecDepth 20000 in
theorem gX7_give_X0_deviceAt : GoodIn wsX7_give (wsV RX7 107 RX0 yX0_deviceAt wsX0_deviceAt) := goodIn_app (goodIn_of _ (by decide +kernel)) ggX7_give_X0_deviceAt
set_option maxRecDepth 20000 in
theorem ggX7_give_X2_putOnTape : GoodIn wsX7_give wsX2_putOnTape := goodIn_r _ [17, 18, 19, 20, 28, 29, 30, 31, 32, 33, 34, 35, 36, 37] (by decide +kernel) (by decide +kernel)
set_option maxRecDepth 20000 in
theorem gX7_give_X2_putOnTape : GoodIn wsX7_give (wsV RX7 129 RX2 yX2_putOnTape wsX2_putOnTape) := goodIn_app (goodIn_of _ (by decide +kernel)) ggX7_give_X2_putOnTape
theorem dX7_give_0 : decode cX7_give 0 = .ok (.aload_n 0, 1) := by decide +kernel
theorem dX7_give_1 : decode cX7_give 1 = .ok (.getfield 28, 3) := by decide +kernel
theorem dX7_give_4 : decode cX7_give 4 = .ok (.iload_n 1, 1) := by decide +kernel
theorem dX7_give_5 : decode cX7_give 5 = .ok (.invokevirtual 107, 3) := by decide +kernel
theorem dX7_give_8 : decode cX7_give 8 = .ok (.astore_n 3, 1) := by decide +kernel
theorem dX7_give_9 : decode cX7_give 9 = .ok (.aload_n 3, 1) := by decide +kernel
theorem dX7_give_10 : decode cX7_give 10 = .ok (.ifnonnull 13, 3) := by decide +kernel
theorem dX7_give_13 : decode cX7_give 13 = .ok (.new 65, 3) := by decide +kernel
theorem dX7_give_16 : decode cX7_give 16 = .ok (.dup, 1) := by decide +kernel
theorem dX7_give_17 : decode cX7_give 17 = .ok (.ldc 111, 2) := by decide +kernel
theorem dX7_give_19 : decode cX7_give 19 = .ok (.invokespecial 69, 3) := by decide +kernel
theorem dX7_give_22 : decode cX7_give 22 = .ok (.athrow, 1) := by decide +kernel
theorem dX7_give_23 : decode cX7_give 23 = .ok (.aload_n 3, 1) := by decide +kernel
theorem dX7_give_24 : decode cX7_give 24 = .ok (.getfield 121, 3) := by decide +kernel
theorem dX7_give_27 : decode cX7_give 27 = .ok (.bipush 100, 2) := by decide +kernel
theorem dX7_give_29 : decode cX7_give 29 = .ok (.if_icmp .lt 13, 3) := by decide +kernel
theorem dX7_give_32 : decode cX7_give 32 = .ok (.new 124, 3) := by decide +kernel
theorem dX7_give_35 : decode cX7_give 35 = .ok (.dup, 1) := by decide +kernel
theorem dX7_give_36 : decode cX7_give 36 = .ok (.ldc 126, 2) := by decide +kernel
theorem dX7_give_38 : decode cX7_give 38 = .ok (.invokespecial 128, 3) := by decide +kernel
theorem dX7_give_41 : decode cX7_give 41 = .ok (.athrow, 1) := by decide +kernel
theorem dX7_give_42 : decode cX7_give 42 = .ok (.aload_n 3, 1) := by decide +kernel
theorem dX7_give_43 : decode cX7_give 43 = .ok (.iload_n 2, 1) := by decide +kernel
theorem dX7_give_44 : decode cX7_give 44 = .ok (.ldc 103, 2) := by decide +kernel
theorem dX7_give_46 : decode cX7_give 46 = .ok (.iand, 1) := by decide +kernel
theorem dX7_give_47 : decode cX7_give 47 = .ok (.invokevirtual 129, 3) := by decide +kernel
theorem dX7_give_50 : decode cX7_give 50 = .ok (.aload_n 3, 1) := by decide +kernel
theorem dX7_give_51 : decode cX7_give 51 = .ok (.getfield 121, 3) := by decide +kernel
theorem dX7_give_54 : decode cX7_give 54 = .ok (.ireturn, 1) := by decide +kernel
set_option maxRecDepth 20000 in
theorem ggX7_out_X0_deviceAt : GoodIn wsX7_out wsX0_deviceAt := goodIn_r _ [8, 9, 24, 25, 26, 27, 28, 29, 30] (by decide +kernel) (by decide +kernel)
set_option maxRecDepth 20000 in
theorem gX7_out_X0_deviceAt : GoodIn wsX7_out (wsV RX7 107 RX0 yX0_deviceAt wsX0_deviceAt) := goodIn_app (goodIn_of _ (by decide +kernel)) ggX7_out_X0_deviceAt
set_option maxRecDepth 20000 in
theorem ggX7_out_X2_keptOut : GoodIn wsX7_out wsX2_keptOut := goodIn_r _ [14, 15, 16, 31, 32, 33, 34, 35, 36, 37, 38, 39, 40] (by decide +kernel) (by decide +kernel)
set_option maxRecDepth 20000 in
theorem gX7_out_X2_keptOut : GoodIn wsX7_out (wsV RX7 133 RX2 yX2_keptOut wsX2_keptOut) := goodIn_app (goodIn_of _ (by decide +kernel)) ggX7_out_X2_keptOut
theorem dX7_out_0 : decode cX7_out 0 = .ok (.aload_n 0, 1) := by decide +kernel
theorem dX7_out_1 : decode cX7_out 1 = .ok (.getfield 28, 3) := by decide +kernel
theorem dX7_out_4 : decode cX7_out 4 = .ok (.iload_n 1, 1) := by decide +kernel
theorem dX7_out_5 : decode cX7_out 5 = .ok (.invokevirtual 107, 3) := by decide +kernel
theorem dX7_out_8 : decode cX7_out 8 = .ok (.astore_n 3, 1) := by decide +kernel
theorem dX7_out_9 : decode cX7_out 9 = .ok (.aload_n 3, 1) := by decide +kernel
theorem dX7_out_10 : decode cX7_out 10 = .ok (.ifnonnull 13, 3) := by decide +kernel
theorem dX7_out_13 : decode cX7_out 13 = .ok (.new 65, 3) := by decide +kernel
theorem dX7_out_16 : decode cX7_out 16 = .ok (.dup, 1) := by decide +kernel
theorem dX7_out_17 : decode cX7_out 17 = .ok (.ldc 111, 2) := by decide +kernel
theorem dX7_out_19 : decode cX7_out 19 = .ok (.invokespecial 69, 3) := by decide +kernel
theorem dX7_out_22 : decode cX7_out 22 = .ok (.athrow, 1) := by decide +kernel
theorem dX7_out_23 : decode cX7_out 23 = .ok (.aload_n 3, 1) := by decide +kernel
theorem dX7_out_24 : decode cX7_out 24 = .ok (.iload_n 2, 1) := by decide +kernel
theorem dX7_out_25 : decode cX7_out 25 = .ok (.invokevirtual 133, 3) := by decide +kernel
theorem dX7_out_28 : decode cX7_out 28 = .ok (.ireturn, 1) := by decide +kernel
set_option maxRecDepth 20000 in
theorem ggX7_code_X0_lineOf : GoodIn wsX7_code wsX0_lineOf := goodIn_r _ [6, 7, 54, 55, 56, 57, 58, 59, 60] (by decide +kernel) (by decide +kernel)
set_option maxRecDepth 20000 in
theorem gX7_code_X0_lineOf : GoodIn wsX7_code (wsV RX7 136 RX0 yX0_lineOf wsX0_lineOf) := goodIn_app (goodIn_of _ (by decide +kernel)) ggX7_code_X0_lineOf
set_option maxRecDepth 20000 in
theorem ggX7_code_X7_bit : GoodIn wsX7_code wsX7_bit := goodIn_r _ [11] (by decide +kernel) (by decide +kernel)
set_option maxRecDepth 20000 in
theorem gX7_code_X7_bit : GoodIn wsX7_code (va_wsS RX7 87 yX7_bit wsX7_bit) := goodIn_app (goodIn_of _ (by decide +kernel)) ggX7_code_X7_bit
set_option maxRecDepth 20000 in
theorem ggX7_code_X0_channelAt : GoodIn wsX7_code wsX0_channelAt := goodIn_r _ [15, 16, 54, 55, 56, 57, 58, 59, 60] (by decide +kernel) (by decide +kernel)
set_option maxRecDepth 20000 in
theorem gX7_code_X0_channelAt : GoodIn wsX7_code (wsV RX7 151 RX0 yX0_channelAt wsX0_channelAt) := goodIn_app (goodIn_of _ (by decide +kernel)) ggX7_code_X0_channelAt
set_option maxRecDepth 20000 in
theorem ggX7_code_X1_tellPart : GoodIn wsX7_code wsX1_tellPart := goodIn_r _ [21, 22, 23, 24, 25, 26, 27, 9, 10, 11, 61, 62, 63, 64, 65, 66, 67, 68] (by decide +kernel) (by decide +kernel)
set_option maxRecDepth 20000 in
theorem gX7_code_X1_tellPart : GoodIn wsX7_code (wsV RX7 155 RX1 yX1_tellPart wsX1_tellPart) := goodIn_app (goodIn_of _ (by decide +kernel)) ggX7_code_X1_tellPart
set_option maxRecDepth 20000 in
theorem ggX7_code_X0_deviceAt : GoodIn wsX7_code wsX0_deviceAt := goodIn_r _ [31, 32, 54, 55, 56, 57, 58, 59, 60] (by decide +kernel) (by decide +kernel)
set_option maxRecDepth 20000 in
theorem gX7_code_X0_deviceAt : GoodIn wsX7_code (wsV RX7 107 RX0 yX0_deviceAt wsX0_deviceAt) := goodIn_app (goodIn_of _ (by decide +kernel)) ggX7_code_X0_deviceAt
set_option maxRecDepth 20000 in
theorem ggX7_code_X2_tellPart : GoodIn wsX7_code wsX2_tellPart := goodIn_r _ [37, 38, 39, 40, 41, 42, 43, 9, 10, 11, 69, 70, 71, 72, 73, 74, 75, 76, 77, 78] (by decide +kernel) (by decide +kernel)
set_option maxRecDepth 20000 in
theorem gX7_code_X2_tellPart : GoodIn wsX7_code (wsV RX7 160 RX2 yX2_tellPart wsX2_tellPart) := goodIn_app (goodIn_of _ (by decide +kernel)) ggX7_code_X2_tellPart
theorem dX7_code_0 : decode cX7_code 0 = .ok (.aload_n 0, 1) := by decide +kernel
theorem dX7_code_1 : decode cX7_code 1 = .ok (.getfield 28, 3) := by decide +kernel
theorem dX7_code_4 : decode cX7_code 4 = .ok (.iload_n 1, 1) := by decide +kernel
theorem dX7_code_5 : decode cX7_code 5 = .ok (.invokevirtual 136, 3) := by decide +kernel
theorem dX7_code_8 : decode cX7_code 8 = .ok (.astore_n 3, 1) := by decide +kernel
theorem dX7_code_9 : decode cX7_code 9 = .ok (.aload_n 3, 1) := by decide +kernel
theorem dX7_code_10 : decode cX7_code 10 = .ok (.ifnonnull 5, 3) := by decide +kernel
theorem dX7_code_13 : decode cX7_code 13 = .ok (.iconst (-1), 1) := by decide +kernel
theorem dX7_code_14 : decode cX7_code 14 = .ok (.ireturn, 1) := by decide +kernel
theorem dX7_code_15 : decode cX7_code 15 = .ok (.iload_n 2, 1) := by decide +kernel
theorem dX7_code_16 : decode cX7_code 16 = .ok (.tableswitch 52 0 2 #[28, 36, 44], 28) := by decide +kernel
theorem dX7_code_44 : decode cX7_code 44 = .ok (.aload_n 3, 1) := by decide +kernel
theorem dX7_code_45 : decode cX7_code 45 = .ok (.getfield 140, 3) := by decide +kernel
theorem dX7_code_48 : decode cX7_code 48 = .ok (.invokestatic 87, 3) := by decide +kernel
theorem dX7_code_51 : decode cX7_code 51 = .ok (.ireturn, 1) := by decide +kernel
theorem dX7_code_52 : decode cX7_code 52 = .ok (.aload_n 3, 1) := by decide +kernel
theorem dX7_code_53 : decode cX7_code 53 = .ok (.getfield 145, 3) := by decide +kernel
theorem dX7_code_56 : decode cX7_code 56 = .ok (.invokestatic 87, 3) := by decide +kernel
theorem dX7_code_59 : decode cX7_code 59 = .ok (.ireturn, 1) := by decide +kernel
theorem dX7_code_60 : decode cX7_code 60 = .ok (.aload_n 3, 1) := by decide +kernel
theorem dX7_code_61 : decode cX7_code 61 = .ok (.getfield 148, 3) := by decide +kernel
theorem dX7_code_64 : decode cX7_code 64 = .ok (.invokestatic 87, 3) := by decide +kernel
theorem dX7_code_67 : decode cX7_code 67 = .ok (.ireturn, 1) := by decide +kernel
theorem dX7_code_68 : decode cX7_code 68 = .ok (.aload_n 0, 1) := by decide +kernel
theorem dX7_code_69 : decode cX7_code 69 = .ok (.getfield 28, 3) := by decide +kernel
theorem dX7_code_72 : decode cX7_code 72 = .ok (.iload_n 1, 1) := by decide +kernel
theorem dX7_code_73 : decode cX7_code 73 = .ok (.bipush 6, 2) := by decide +kernel
theorem dX7_code_75 : decode cX7_code 75 = .ok (.isub, 1) := by decide +kernel
theorem dX7_code_76 : decode cX7_code 76 = .ok (.invokevirtual 151, 3) := by decide +kernel
theorem dX7_code_79 : decode cX7_code 79 = .ok (.astore 4, 2) := by decide +kernel
theorem dX7_code_81 : decode cX7_code 81 = .ok (.aload 4, 2) := by decide +kernel
theorem dX7_code_83 : decode cX7_code 83 = .ok (.ifnull 10, 3) := by decide +kernel
theorem dX7_code_86 : decode cX7_code 86 = .ok (.aload 4, 2) := by decide +kernel
theorem dX7_code_88 : decode cX7_code 88 = .ok (.iload_n 2, 1) := by decide +kernel
theorem dX7_code_89 : decode cX7_code 89 = .ok (.invokevirtual 155, 3) := by decide +kernel
theorem dX7_code_92 : decode cX7_code 92 = .ok (.ireturn, 1) := by decide +kernel
theorem dX7_code_93 : decode cX7_code 93 = .ok (.aload_n 0, 1) := by decide +kernel
theorem dX7_code_94 : decode cX7_code 94 = .ok (.getfield 28, 3) := by decide +kernel
theorem dX7_code_97 : decode cX7_code 97 = .ok (.iload_n 1, 1) := by decide +kernel
theorem dX7_code_98 : decode cX7_code 98 = .ok (.bipush 8, 2) := by decide +kernel
theorem dX7_code_100 : decode cX7_code 100 = .ok (.isub, 1) := by decide +kernel
theorem dX7_code_101 : decode cX7_code 101 = .ok (.invokevirtual 107, 3) := by decide +kernel
theorem dX7_code_104 : decode cX7_code 104 = .ok (.astore 5, 2) := by decide +kernel
theorem dX7_code_106 : decode cX7_code 106 = .ok (.aload 5, 2) := by decide +kernel
theorem dX7_code_108 : decode cX7_code 108 = .ok (.ifnonnull 7, 3) := by decide +kernel
theorem dX7_code_111 : decode cX7_code 111 = .ok (.iconst (-1), 1) := by decide +kernel
theorem dX7_code_112 : decode cX7_code 112 = .ok (.goto 9, 3) := by decide +kernel
theorem dX7_code_115 : decode cX7_code 115 = .ok (.aload 5, 2) := by decide +kernel
theorem dX7_code_117 : decode cX7_code 117 = .ok (.iload_n 2, 1) := by decide +kernel
theorem dX7_code_118 : decode cX7_code 118 = .ok (.invokevirtual 160, 3) := by decide +kernel
theorem dX7_code_121 : decode cX7_code 121 = .ok (.ireturn, 1) := by decide +kernel
set_option maxRecDepth 20000 in
theorem ggX7_sum_X4_read : GoodIn wsX7_sum wsX4_read := goodIn_r _ [6, 7, 15] (by decide +kernel) (by decide +kernel)
set_option maxRecDepth 20000 in
theorem gX7_sum_X4_read : GoodIn wsX7_sum (wsV RX7 70 RX4 yX4_read wsX4_read) := goodIn_app (goodIn_of _ (by decide +kernel)) ggX7_sum_X4_read
theorem dX7_sum_0 : decode cX7_sum 0 = .ok (.iconst 0, 1) := by decide +kernel
theorem dX7_sum_1 : decode cX7_sum 1 = .ok (.istore_n 1, 1) := by decide +kernel
theorem dX7_sum_2 : decode cX7_sum 2 = .ok (.iconst 0, 1) := by decide +kernel
theorem dX7_sum_3 : decode cX7_sum 3 = .ok (.istore_n 2, 1) := by decide +kernel
theorem dX7_sum_4 : decode cX7_sum 4 = .ok (.iload_n 2, 1) := by decide +kernel
theorem dX7_sum_5 : decode cX7_sum 5 = .ok (.sipush 4096, 3) := by decide +kernel
theorem dX7_sum_8 : decode cX7_sum 8 = .ok (.if_icmp .ge 23, 3) := by decide +kernel
theorem dX7_sum_11 : decode cX7_sum 11 = .ok (.bipush 31, 2) := by decide +kernel
theorem dX7_sum_13 : decode cX7_sum 13 = .ok (.iload_n 1, 1) := by decide +kernel
theorem dX7_sum_14 : decode cX7_sum 14 = .ok (.imul, 1) := by decide +kernel
theorem dX7_sum_15 : decode cX7_sum 15 = .ok (.aload_n 0, 1) := by decide +kernel
theorem dX7_sum_16 : decode cX7_sum 16 = .ok (.getfield 10, 3) := by decide +kernel
theorem dX7_sum_19 : decode cX7_sum 19 = .ok (.iload_n 2, 1) := by decide +kernel
theorem dX7_sum_20 : decode cX7_sum 20 = .ok (.invokevirtual 70, 3) := by decide +kernel
theorem dX7_sum_23 : decode cX7_sum 23 = .ok (.iadd, 1) := by decide +kernel
theorem dX7_sum_24 : decode cX7_sum 24 = .ok (.istore_n 1, 1) := by decide +kernel
theorem dX7_sum_25 : decode cX7_sum 25 = .ok (.iinc 2 1, 3) := by decide +kernel
theorem dX7_sum_28 : decode cX7_sum 28 = .ok (.goto (-24), 3) := by decide +kernel
theorem dX7_sum_31 : decode cX7_sum 31 = .ok (.iload_n 1, 1) := by decide +kernel
theorem dX7_sum_32 : decode cX7_sum 32 = .ok (.ireturn, 1) := by decide +kernel
set_option maxRecDepth 20000 in
theorem ggX7_doTurn_X0_advanceDevices : GoodIn wsX7_doTurn wsX0_advanceDevices := goodIn_r _ [11, 12, 13, 14, 10, 15, 16, 17, 18, 19, 20, 21, 22, 23, 24, 25, 26, 27, 28, 29, 30, 31, 32, 33, 34, 35, 36, 37, 38, 39, 40, 41, 42, 43, 44, 45, 278, 279, 280, 281, 282, 283, 284, 291, 292, 293, 294, 295, 296, 297, 298, 299, 300, 301, 302, 303] (by decide +kernel) (by decide +kernel)
set_option maxRecDepth 20000 in
theorem gX7_doTurn_X0_advanceDevices : GoodIn wsX7_doTurn (wsV RX7 161 RX0 yX0_advanceDevices wsX0_advanceDevices) := goodIn_app (goodIn_of _ (by decide +kernel)) ggX7_doTurn_X0_advanceDevices
set_option maxRecDepth 20000 in
theorem ggX7_doTurn_X0_advanceChannels : GoodIn wsX7_doTurn wsX0_advanceChannels := goodIn_r _ [49, 50, 51, 52, 10, 53, 54, 12, 13, 14, 15, 16, 55, 56, 57, 58, 59, 60, 61, 62, 63, 64, 65, 66, 67, 68, 69, 70, 71, 72, 73, 74, 75, 76, 77, 78, 40, 41, 42, 43, 44, 45, 79, 80, 81, 82, 83, 84, 85, 86, 87, 20, 88, 89, 22, 304, 305, 306, 307, 308, 309, 310, 311, 291, 292, 293, 294, 295, 296, 297, 298, 299, 300, 301, 302, 303, 278, 279, 280, 281, 282, 283, 284, 312] (by decide +kernel) (by decide +kernel)
set_option maxRecDepth 20000 in
theorem gX7_doTurn_X0_advanceChannels : GoodIn wsX7_doTurn (wsV RX7 164 RX0 yX0_advanceChannels wsX0_advanceChannels) := goodIn_app (goodIn_of _ (by decide +kernel)) ggX7_doTurn_X0_advanceChannels
set_option maxRecDepth 20000 in
theorem ggX7_doTurn_X0_takeInterrupt : GoodIn wsX7_doTurn wsX0_takeInterrupt := goodIn_r _ [93, 94, 95, 96, 10, 97, 98, 301, 302, 303, 278, 279, 280, 281, 282, 283, 284] (by decide +kernel) (by decide +kernel)
set_option maxRecDepth 20000 in
theorem gX7_doTurn_X0_takeInterrupt : GoodIn wsX7_doTurn (wsV RX7 168 RX0 yX0_takeInterrupt wsX0_takeInterrupt) := goodIn_app (goodIn_of _ (by decide +kernel)) ggX7_doTurn_X0_takeInterrupt
set_option maxRecDepth 20000 in
theorem ggX7_doTurn_X4_read : GoodIn wsX7_doTurn wsX4_read := goodIn_r _ [77, 72, 312] (by decide +kernel) (by decide +kernel)
set_option maxRecDepth 20000 in
theorem gX7_doTurn_X4_read : GoodIn wsX7_doTurn (wsV RX7 70 RX4 yX4_read wsX4_read) := goodIn_app (goodIn_of _ (by decide +kernel)) ggX7_doTurn_X4_read
set_option maxRecDepth 20000 in
theorem ggX7_doTurn_X5_perform : GoodIn wsX7_doTurn wsX5_perform := goodIn_r _ [104, 105, 106, 107, 108, 103, 109, 110, 111, 112, 75, 76, 70, 77, 72, 113, 114, 115, 116, 117, 118, 119, 120, 121, 122, 123, 124, 125, 126, 127, 68, 69, 71, 73, 128, 129, 130, 131, 132, 133, 134, 135, 136, 137, 138, 139, 140, 141, 142, 143, 144, 145, 146, 147, 148, 149, 150, 151, 152, 153, 154, 155, 156, 157, 158, 159, 160, 161, 162, 163, 164, 165, 166, 167, 168, 169, 170, 171, 172, 173, 174, 175, 176, 177, 178, 179, 180, 181, 182, 183, 10, 184, 185, 186, 187, 188, 189, 94, 95, 96, 97, 98, 190, 40, 41, 42, 43, 44, 45, 191, 192, 193, 194, 195, 196, 197, 198, 199, 50, 51, 52, 53, 54, 12, 13, 14, 15, 16, 200, 201, 202, 203, 204, 205, 206, 207, 58, 208, 209, 62, 61, 66, 60, 210, 211, 212, 213, 214, 215, 216, 217, 218, 219, 220, 221, 222, 86, 87, 20, 88, 89, 22, 223, 224, 225, 226, 227, 228, 229, 230, 231, 232, 233, 234, 235, 236, 237, 238, 239, 240, 241, 242, 243, 244, 245, 246, 247, 248, 249, 250, 251, 252, 253, 254, 255, 256, 257, 258, 259, 260, 261, 262, 263, 264, 265, 266, 267, 268, 269, 313, 314, 315, 312, 285, 286, 287, 288, 289, 290, 278, 279, 280, 281, 282, 283, 284, 301, 302, 303, 304, 305, 306, 307, 308, 309, 310, 311, 291, 292, 293, 294, 295, 296, 297, 298, 299, 300] (by decide +kernel) (by decide +kernel)
set_option maxRecDepth 20000 in
theorem gX7_doTurn_X5_perform : GoodIn wsX7_doTurn (wsV RX7 172 RX5 yX5_perform wsX5_perform) := goodIn_app (goodIn_of _ (by decide +kernel)) ggX7_doTurn_X5_perform
set_option maxRecDepth 20000 in
theorem ggX7_doTurn_X5_nextWord : GoodIn wsX7_doTurn wsX5_nextWord := goodIn_r _ [233, 110, 111, 112, 75, 76, 70, 77, 72, 141, 142, 143, 116, 144, 145, 313, 314, 315, 285, 286, 287, 288, 289, 290, 312] (by decide +kernel) (by decide +kernel)
set_option maxRecDepth 20000 in
theorem gX7_doTurn_X5_nextWord : GoodIn wsX7_doTurn (wsV RX7 175 RX5 yX5_nextWord wsX5_nextWord) := goodIn_app (goodIn_of _ (by decide +kernel)) ggX7_doTurn_X5_nextWord
theorem dX7_doTurn_0 : decode cX7_doTurn 0 = .ok (.aload_n 0, 1) := by decide +kernel
theorem dX7_doTurn_1 : decode cX7_doTurn 1 = .ok (.getfield 28, 3) := by decide +kernel
theorem dX7_doTurn_4 : decode cX7_doTurn 4 = .ok (.invokevirtual 161, 3) := by decide +kernel
theorem dX7_doTurn_7 : decode cX7_doTurn 7 = .ok (.aload_n 0, 1) := by decide +kernel
theorem dX7_doTurn_8 : decode cX7_doTurn 8 = .ok (.getfield 28, 3) := by decide +kernel
theorem dX7_doTurn_11 : decode cX7_doTurn 11 = .ok (.aload_n 0, 1) := by decide +kernel
theorem dX7_doTurn_12 : decode cX7_doTurn 12 = .ok (.getfield 10, 3) := by decide +kernel
theorem dX7_doTurn_15 : decode cX7_doTurn 15 = .ok (.invokevirtual 164, 3) := by decide +kernel
theorem dX7_doTurn_18 : decode cX7_doTurn 18 = .ok (.aload_n 0, 1) := by decide +kernel
theorem dX7_doTurn_19 : decode cX7_doTurn 19 = .ok (.getfield 28, 3) := by decide +kernel
theorem dX7_doTurn_22 : decode cX7_doTurn 22 = .ok (.getfield 84, 3) := by decide +kernel
theorem dX7_doTurn_25 : decode cX7_doTurn 25 = .ok (.ifCond .eq 23, 3) := by decide +kernel
theorem dX7_doTurn_28 : decode cX7_doTurn 28 = .ok (.aload_n 0, 1) := by decide +kernel
theorem dX7_doTurn_29 : decode cX7_doTurn 29 = .ok (.getfield 19, 3) := by decide +kernel
theorem dX7_doTurn_32 : decode cX7_doTurn 32 = .ok (.getfield 91, 3) := by decide +kernel
theorem dX7_doTurn_35 : decode cX7_doTurn 35 = .ok (.ifCond .ne 13, 3) := by decide +kernel
theorem dX7_doTurn_38 : decode cX7_doTurn 38 = .ok (.aload_n 0, 1) := by decide +kernel
theorem dX7_doTurn_39 : decode cX7_doTurn 39 = .ok (.getfield 28, 3) := by decide +kernel
theorem dX7_doTurn_42 : decode cX7_doTurn 42 = .ok (.invokevirtual 168, 3) := by decide +kernel
theorem dX7_doTurn_45 : decode cX7_doTurn 45 = .ok (.goto 4, 3) := by decide +kernel
theorem dX7_doTurn_48 : decode cX7_doTurn 48 = .ok (.iconst (-1), 1) := by decide +kernel
theorem dX7_doTurn_49 : decode cX7_doTurn 49 = .ok (.istore_n 1, 1) := by decide +kernel
theorem dX7_doTurn_50 : decode cX7_doTurn 50 = .ok (.aload_n 0, 1) := by decide +kernel
theorem dX7_doTurn_51 : decode cX7_doTurn 51 = .ok (.getfield 19, 3) := by decide +kernel
theorem dX7_doTurn_54 : decode cX7_doTurn 54 = .ok (.iconst 0, 1) := by decide +kernel
theorem dX7_doTurn_55 : decode cX7_doTurn 55 = .ok (.putfield 91, 3) := by decide +kernel
theorem dX7_doTurn_58 : decode cX7_doTurn 58 = .ok (.iload_n 1, 1) := by decide +kernel
theorem dX7_doTurn_59 : decode cX7_doTurn 59 = .ok (.iconst (-1), 1) := by decide +kernel
theorem dX7_doTurn_60 : decode cX7_doTurn 60 = .ok (.if_icmp .eq 37, 3) := by decide +kernel
theorem dX7_doTurn_63 : decode cX7_doTurn 63 = .ok (.aload_n 0, 1) := by decide +kernel
theorem dX7_doTurn_64 : decode cX7_doTurn 64 = .ok (.dup, 1) := by decide +kernel
theorem dX7_doTurn_65 : decode cX7_doTurn 65 = .ok (.getfield 100, 3) := by decide +kernel
theorem dX7_doTurn_68 : decode cX7_doTurn 68 = .ok (.iconst 1, 1) := by decide +kernel
theorem dX7_doTurn_69 : decode cX7_doTurn 69 = .ok (.iadd, 1) := by decide +kernel
theorem dX7_doTurn_70 : decode cX7_doTurn 70 = .ok (.putfield 100, 3) := by decide +kernel
theorem dX7_doTurn_73 : decode cX7_doTurn 73 = .ok (.aload_n 0, 1) := by decide +kernel
theorem dX7_doTurn_74 : decode cX7_doTurn 74 = .ok (.iload_n 1, 1) := by decide +kernel
theorem dX7_doTurn_75 : decode cX7_doTurn 75 = .ok (.putfield 41, 3) := by decide +kernel
theorem dX7_doTurn_78 : decode cX7_doTurn 78 = .ok (.aload_n 0, 1) := by decide +kernel
theorem dX7_doTurn_79 : decode cX7_doTurn 79 = .ok (.getfield 37, 3) := by decide +kernel
theorem dX7_doTurn_82 : decode cX7_doTurn 82 = .ok (.aload_n 0, 1) := by decide +kernel
theorem dX7_doTurn_83 : decode cX7_doTurn 83 = .ok (.getfield 10, 3) := by decide +kernel
theorem dX7_doTurn_86 : decode cX7_doTurn 86 = .ok (.iload_n 1, 1) := by decide +kernel
theorem dX7_doTurn_87 : decode cX7_doTurn 87 = .ok (.invokevirtual 70, 3) := by decide +kernel
theorem dX7_doTurn_90 : decode cX7_doTurn 90 = .ok (.iconst 0, 1) := by decide +kernel
theorem dX7_doTurn_91 : decode cX7_doTurn 91 = .ok (.invokevirtual 172, 3) := by decide +kernel
theorem dX7_doTurn_94 : decode cX7_doTurn 94 = .ok (.goto 30, 3) := by decide +kernel
theorem dX7_doTurn_97 : decode cX7_doTurn 97 = .ok (.aload_n 0, 1) := by decide +kernel
theorem dX7_doTurn_98 : decode cX7_doTurn 98 = .ok (.getfield 19, 3) := by decide +kernel
theorem dX7_doTurn_101 : decode cX7_doTurn 101 = .ok (.getfield 62, 3) := by decide +kernel
theorem dX7_doTurn_104 : decode cX7_doTurn 104 = .ok (.sipush 31744, 3) := by decide +kernel
theorem dX7_doTurn_107 : decode cX7_doTurn 107 = .ok (.iand, 1) := by decide +kernel
theorem dX7_doTurn_108 : decode cX7_doTurn 108 = .ok (.istore_n 2, 1) := by decide +kernel
theorem dX7_doTurn_109 : decode cX7_doTurn 109 = .ok (.aload_n 0, 1) := by decide +kernel
theorem dX7_doTurn_110 : decode cX7_doTurn 110 = .ok (.getfield 37, 3) := by decide +kernel
theorem dX7_doTurn_113 : decode cX7_doTurn 113 = .ok (.aload_n 0, 1) := by decide +kernel
theorem dX7_doTurn_114 : decode cX7_doTurn 114 = .ok (.getfield 37, 3) := by decide +kernel
theorem dX7_doTurn_117 : decode cX7_doTurn 117 = .ok (.invokevirtual 175, 3) := by decide +kernel
theorem dX7_doTurn_120 : decode cX7_doTurn 120 = .ok (.iload_n 2, 1) := by decide +kernel
theorem dX7_doTurn_121 : decode cX7_doTurn 121 = .ok (.invokevirtual 172, 3) := by decide +kernel
theorem dX7_doTurn_124 : decode cX7_doTurn 124 = .ok (.return_, 1) := by decide +kernel
theorem dX7_bit_0 : decode cX7_bit 0 = .ok (.iload_n 0, 1) := by decide +kernel
theorem dX7_bit_1 : decode cX7_bit 1 = .ok (.ifCond .eq 7, 3) := by decide +kernel
theorem dX7_bit_4 : decode cX7_bit 4 = .ok (.iconst 1, 1) := by decide +kernel
theorem dX7_bit_5 : decode cX7_bit 5 = .ok (.goto 4, 3) := by decide +kernel
theorem dX7_bit_8 : decode cX7_bit 8 = .ok (.iconst 0, 1) := by decide +kernel
theorem dX7_bit_9 : decode cX7_bit 9 = .ok (.ireturn, 1) := by decide +kernel
theorem dX8_init_0 : decode cX8_init 0 = .ok (.aload_n 0, 1) := by decide +kernel
theorem dX8_init_1 : decode cX8_init 1 = .ok (.invokespecial 1, 3) := by decide +kernel
theorem dX8_init_4 : decode cX8_init 4 = .ok (.aload_n 0, 1) := by decide +kernel
theorem dX8_init_5 : decode cX8_init 5 = .ok (.sipush 4096, 3) := by decide +kernel
theorem dX8_init_8 : decode cX8_init 8 = .ok (.newarray .int, 2) := by decide +kernel
theorem dX8_init_10 : decode cX8_init 10 = .ok (.putfield 9, 3) := by decide +kernel
theorem dX8_init_13 : decode cX8_init 13 = .ok (.aload_n 0, 1) := by decide +kernel
theorem dX8_init_14 : decode cX8_init 14 = .ok (.iconst (-1), 1) := by decide +kernel
theorem dX8_init_15 : decode cX8_init 15 = .ok (.putfield 13, 3) := by decide +kernel
theorem dX8_init_18 : decode cX8_init 18 = .ok (.aload_n 0, 1) := by decide +kernel
theorem dX8_init_19 : decode cX8_init 19 = .ok (.iconst (-1), 1) := by decide +kernel
theorem dX8_init_20 : decode cX8_init 20 = .ok (.putfield 17, 3) := by decide +kernel
theorem dX8_init_23 : decode cX8_init 23 = .ok (.aload_n 0, 1) := by decide +kernel
theorem dX8_init_24 : decode cX8_init 24 = .ok (.bipush 12, 2) := by decide +kernel
theorem dX8_init_26 : decode cX8_init 26 = .ok (.newarray .boolean, 2) := by decide +kernel
theorem dX8_init_28 : decode cX8_init 28 = .ok (.putfield 20, 3) := by decide +kernel
theorem dX8_init_31 : decode cX8_init 31 = .ok (.aload_n 0, 1) := by decide +kernel
theorem dX8_init_32 : decode cX8_init 32 = .ok (.bipush 12, 2) := by decide +kernel
theorem dX8_init_34 : decode cX8_init 34 = .ok (.newarray .boolean, 2) := by decide +kernel
theorem dX8_init_36 : decode cX8_init 36 = .ok (.putfield 24, 3) := by decide +kernel
theorem dX8_init_39 : decode cX8_init 39 = .ok (.aload_n 0, 1) := by decide +kernel
theorem dX8_init_40 : decode cX8_init 40 = .ok (.bipush 12, 2) := by decide +kernel
theorem dX8_init_42 : decode cX8_init 42 = .ok (.newarray .boolean, 2) := by decide +kernel
theorem dX8_init_44 : decode cX8_init 44 = .ok (.putfield 27, 3) := by decide +kernel
theorem dX8_init_47 : decode cX8_init 47 = .ok (.aload_n 0, 1) := by decide +kernel
theorem dX8_init_48 : decode cX8_init 48 = .ok (.bipush 12, 2) := by decide +kernel
theorem dX8_init_50 : decode cX8_init 50 = .ok (.newarray .boolean, 2) := by decide +kernel
theorem dX8_init_52 : decode cX8_init 52 = .ok (.putfield 30, 3) := by decide +kernel
theorem dX8_init_55 : decode cX8_init 55 = .ok (.aload_n 0, 1) := by decide +kernel
theorem dX8_init_56 : decode cX8_init 56 = .ok (.bipush 12, 2) := by decide +kernel
theorem dX8_init_58 : decode cX8_init 58 = .ok (.newarray .boolean, 2) := by decide +kernel
theorem dX8_init_60 : decode cX8_init 60 = .ok (.putfield 33, 3) := by decide +kernel
theorem dX8_init_63 : decode cX8_init 63 = .ok (.aload_n 0, 1) := by decide +kernel
theorem dX8_init_64 : decode cX8_init 64 = .ok (.bipush 12, 2) := by decide +kernel
theorem dX8_init_66 : decode cX8_init 66 = .ok (.newarray .boolean, 2) := by decide +kernel
theorem dX8_init_68 : decode cX8_init 68 = .ok (.putfield 36, 3) := by decide +kernel
theorem dX8_init_71 : decode cX8_init 71 = .ok (.aload_n 0, 1) := by decide +kernel
theorem dX8_init_72 : decode cX8_init 72 = .ok (.bipush 12, 2) := by decide +kernel
theorem dX8_init_74 : decode cX8_init 74 = .ok (.newarray .int, 2) := by decide +kernel
theorem dX8_init_76 : decode cX8_init 76 = .ok (.putfield 39, 3) := by decide +kernel
theorem dX8_init_79 : decode cX8_init 79 = .ok (.aload_n 0, 1) := by decide +kernel
theorem dX8_init_80 : decode cX8_init 80 = .ok (.bipush 12, 2) := by decide +kernel
theorem dX8_init_82 : decode cX8_init 82 = .ok (.newarray .int, 2) := by decide +kernel
theorem dX8_init_84 : decode cX8_init 84 = .ok (.putfield 42, 3) := by decide +kernel
theorem dX8_init_87 : decode cX8_init 87 = .ok (.aload_n 0, 1) := by decide +kernel
theorem dX8_init_88 : decode cX8_init 88 = .ok (.bipush 12, 2) := by decide +kernel
theorem dX8_init_90 : decode cX8_init 90 = .ok (.newarray .int, 2) := by decide +kernel
theorem dX8_init_92 : decode cX8_init 92 = .ok (.putfield 45, 3) := by decide +kernel
theorem dX8_init_95 : decode cX8_init 95 = .ok (.aload_n 0, 1) := by decide +kernel
theorem dX8_init_96 : decode cX8_init 96 = .ok (.bipush 12, 2) := by decide +kernel
theorem dX8_init_98 : decode cX8_init 98 = .ok (.newarray .int, 2) := by decide +kernel
theorem dX8_init_100 : decode cX8_init 100 = .ok (.putfield 48, 3) := by decide +kernel
theorem dX8_init_103 : decode cX8_init 103 = .ok (.aload_n 0, 1) := by decide +kernel
theorem dX8_init_104 : decode cX8_init 104 = .ok (.bipush 12, 2) := by decide +kernel
theorem dX8_init_106 : decode cX8_init 106 = .ok (.newarray .boolean, 2) := by decide +kernel
theorem dX8_init_108 : decode cX8_init 108 = .ok (.putfield 51, 3) := by decide +kernel
theorem dX8_init_111 : decode cX8_init 111 = .ok (.aload_n 0, 1) := by decide +kernel
theorem dX8_init_112 : decode cX8_init 112 = .ok (.bipush 12, 2) := by decide +kernel
theorem dX8_init_114 : decode cX8_init 114 = .ok (.newarray .int, 2) := by decide +kernel
theorem dX8_init_116 : decode cX8_init 116 = .ok (.putfield 54, 3) := by decide +kernel
theorem dX8_init_119 : decode cX8_init 119 = .ok (.aload_n 0, 1) := by decide +kernel
theorem dX8_init_120 : decode cX8_init 120 = .ok (.bipush 12, 2) := by decide +kernel
theorem dX8_init_122 : decode cX8_init 122 = .ok (.newarray .int, 2) := by decide +kernel
theorem dX8_init_124 : decode cX8_init 124 = .ok (.putfield 57, 3) := by decide +kernel
theorem dX8_init_127 : decode cX8_init 127 = .ok (.aload_n 0, 1) := by decide +kernel
theorem dX8_init_128 : decode cX8_init 128 = .ok (.bipush 12, 2) := by decide +kernel
theorem dX8_init_130 : decode cX8_init 130 = .ok (.newarray .int, 2) := by decide +kernel
theorem dX8_init_132 : decode cX8_init 132 = .ok (.putfield 60, 3) := by decide +kernel
theorem dX8_init_135 : decode cX8_init 135 = .ok (.aload_n 0, 1) := by decide +kernel
theorem dX8_init_136 : decode cX8_init 136 = .ok (.bipush 12, 2) := by decide +kernel
theorem dX8_init_138 : decode cX8_init 138 = .ok (.newarray .int, 2) := by decide +kernel
theorem dX8_init_140 : decode cX8_init 140 = .ok (.putfield 63, 3) := by decide +kernel
theorem dX8_init_143 : decode cX8_init 143 = .ok (.aload_n 0, 1) := by decide +kernel
theorem dX8_init_144 : decode cX8_init 144 = .ok (.bipush 12, 2) := by decide +kernel
theorem dX8_init_146 : decode cX8_init 146 = .ok (.newarray .int, 2) := by decide +kernel
theorem dX8_init_148 : decode cX8_init 148 = .ok (.putfield 66, 3) := by decide +kernel
theorem dX8_init_151 : decode cX8_init 151 = .ok (.aload_n 0, 1) := by decide +kernel
theorem dX8_init_152 : decode cX8_init 152 = .ok (.sipush 1200, 3) := by decide +kernel
theorem dX8_init_155 : decode cX8_init 155 = .ok (.newarray .int, 2) := by decide +kernel
theorem dX8_init_157 : decode cX8_init 157 = .ok (.putfield 69, 3) := by decide +kernel
theorem dX8_init_160 : decode cX8_init 160 = .ok (.aload_n 0, 1) := by decide +kernel
theorem dX8_init_161 : decode cX8_init 161 = .ok (.sipush 2400, 3) := by decide +kernel
theorem dX8_init_164 : decode cX8_init 164 = .ok (.newarray .int, 2) := by decide +kernel
theorem dX8_init_166 : decode cX8_init 166 = .ok (.putfield 72, 3) := by decide +kernel
theorem dX8_init_169 : decode cX8_init 169 = .ok (.bipush 8, 2) := by decide +kernel
theorem dX8_init_171 : decode cX8_init 171 = .ok (.istore_n 1, 1) := by decide +kernel
theorem dX8_init_172 : decode cX8_init 172 = .ok (.iload_n 1, 1) := by decide +kernel
theorem dX8_init_173 : decode cX8_init 173 = .ok (.bipush 12, 2) := by decide +kernel
theorem dX8_init_175 : decode cX8_init 175 = .ok (.if_icmp .ge 16, 3) := by decide +kernel
theorem dX8_init_178 : decode cX8_init 178 = .ok (.aload_n 0, 1) := by decide +kernel
theorem dX8_init_179 : decode cX8_init 179 = .ok (.getfield 54, 3) := by decide +kernel
theorem dX8_init_182 : decode cX8_init 182 = .ok (.iload_n 1, 1) := by decide +kernel
theorem dX8_init_183 : decode cX8_init 183 = .ok (.iconst 1, 1) := by decide +kernel
theorem dX8_init_184 : decode cX8_init 184 = .ok (.iastore, 1) := by decide +kernel
theorem dX8_init_185 : decode cX8_init 185 = .ok (.iinc 1 1, 3) := by decide +kernel
theorem dX8_init_188 : decode cX8_init 188 = .ok (.goto (-16), 3) := by decide +kernel
theorem dX8_init_191 : decode cX8_init 191 = .ok (.return_, 1) := by decide +kernel
theorem dX8_thrown_0 : decode cX8_thrown 0 = .ok (.aload_n 0, 1) := by decide +kernel
theorem dX8_thrown_1 : decode cX8_thrown 1 = .ok (.getfield 75, 3) := by decide +kernel
theorem dX8_thrown_4 : decode cX8_thrown 4 = .ok (.ireturn, 1) := by decide +kernel
theorem dX8_at_0 : decode cX8_at 0 = .ok (.iload_n 1, 1) := by decide +kernel
theorem dX8_at_1 : decode cX8_at 1 = .ok (.ifCond .ne 10, 3) := by decide +kernel
theorem dX8_at_4 : decode cX8_at 4 = .ok (.aload_n 0, 1) := by decide +kernel
theorem dX8_at_5 : decode cX8_at 5 = .ok (.getfield 78, 3) := by decide +kernel
theorem dX8_at_8 : decode cX8_at 8 = .ok (.goto 32, 3) := by decide +kernel
theorem dX8_at_11 : decode cX8_at 11 = .ok (.iload_n 1, 1) := by decide +kernel
theorem dX8_at_12 : decode cX8_at 12 = .ok (.iconst 1, 1) := by decide +kernel
theorem dX8_at_13 : decode cX8_at 13 = .ok (.if_icmp .ne 10, 3) := by decide +kernel
theorem dX8_at_16 : decode cX8_at 16 = .ok (.aload_n 0, 1) := by decide +kernel
theorem dX8_at_17 : decode cX8_at 17 = .ok (.getfield 81, 3) := by decide +kernel
theorem dX8_at_20 : decode cX8_at 20 = .ok (.goto 20, 3) := by decide +kernel
theorem dX8_at_23 : decode cX8_at 23 = .ok (.iload_n 1, 1) := by decide +kernel
theorem dX8_at_24 : decode cX8_at 24 = .ok (.sipush 4096, 3) := by decide +kernel
theorem dX8_at_27 : decode cX8_at 27 = .ok (.if_icmp .ge 12, 3) := by decide +kernel
theorem dX8_at_30 : decode cX8_at 30 = .ok (.aload_n 0, 1) := by decide +kernel
theorem dX8_at_31 : decode cX8_at 31 = .ok (.getfield 9, 3) := by decide +kernel
theorem dX8_at_34 : decode cX8_at 34 = .ok (.iload_n 1, 1) := by decide +kernel
theorem dX8_at_35 : decode cX8_at 35 = .ok (.iaload, 1) := by decide +kernel
theorem dX8_at_36 : decode cX8_at 36 = .ok (.goto 4, 3) := by decide +kernel
theorem dX8_at_39 : decode cX8_at 39 = .ok (.iconst 0, 1) := by decide +kernel
theorem dX8_at_40 : decode cX8_at 40 = .ok (.ireturn, 1) := by decide +kernel
theorem dX8_put_0 : decode cX8_put 0 = .ok (.iload_n 1, 1) := by decide +kernel
theorem dX8_put_1 : decode cX8_put 1 = .ok (.ifCond .ne 11, 3) := by decide +kernel
theorem dX8_put_4 : decode cX8_put 4 = .ok (.aload_n 0, 1) := by decide +kernel
theorem dX8_put_5 : decode cX8_put 5 = .ok (.iload_n 2, 1) := by decide +kernel
theorem dX8_put_6 : decode cX8_put 6 = .ok (.putfield 78, 3) := by decide +kernel
theorem dX8_put_9 : decode cX8_put 9 = .ok (.goto 30, 3) := by decide +kernel
theorem dX8_put_12 : decode cX8_put 12 = .ok (.iload_n 1, 1) := by decide +kernel
theorem dX8_put_13 : decode cX8_put 13 = .ok (.iconst 1, 1) := by decide +kernel
theorem dX8_put_14 : decode cX8_put 14 = .ok (.if_icmp .ne 11, 3) := by decide +kernel
theorem dX8_put_17 : decode cX8_put 17 = .ok (.aload_n 0, 1) := by decide +kernel
theorem dX8_put_18 : decode cX8_put 18 = .ok (.iload_n 2, 1) := by decide +kernel
theorem dX8_put_19 : decode cX8_put 19 = .ok (.putfield 81, 3) := by decide +kernel
theorem dX8_put_22 : decode cX8_put 22 = .ok (.goto 17, 3) := by decide +kernel
theorem dX8_put_25 : decode cX8_put 25 = .ok (.iload_n 1, 1) := by decide +kernel
theorem dX8_put_26 : decode cX8_put 26 = .ok (.sipush 4096, 3) := by decide +kernel
theorem dX8_put_29 : decode cX8_put 29 = .ok (.if_icmp .ge 10, 3) := by decide +kernel
theorem dX8_put_32 : decode cX8_put 32 = .ok (.aload_n 0, 1) := by decide +kernel
theorem dX8_put_33 : decode cX8_put 33 = .ok (.getfield 9, 3) := by decide +kernel
theorem dX8_put_36 : decode cX8_put 36 = .ok (.iload_n 1, 1) := by decide +kernel
theorem dX8_put_37 : decode cX8_put 37 = .ok (.iload_n 2, 1) := by decide +kernel
theorem dX8_put_38 : decode cX8_put 38 = .ok (.iastore, 1) := by decide +kernel
theorem dX8_put_39 : decode cX8_put 39 = .ok (.return_, 1) := by decide +kernel
theorem dX8_more_0 : decode cX8_more 0 = .ok (.iload_n 0, 1) := by decide +kernel
theorem dX8_more_1 : decode cX8_more 1 = .ok (.iconst 1, 1) := by decide +kernel
theorem dX8_more_2 : decode cX8_more 2 = .ok (.iadd, 1) := by decide +kernel
theorem dX8_more_3 : decode cX8_more 3 = .ok (.sipush 32767, 3) := by decide +kernel
theorem dX8_more_6 : decode cX8_more 6 = .ok (.iand, 1) := by decide +kernel
theorem dX8_more_7 : decode cX8_more 7 = .ok (.ireturn, 1) := by decide +kernel
set_option maxRecDepth 20000 in
theorem ggX8_skip_X8_more : GoodIn wsX8_skip wsX8_more := goodIn_r _ [5] (by decide +kernel) (by decide +kernel)
set_option maxRecDepth 20000 in
theorem gX8_skip_X8_more : GoodIn wsX8_skip (va_wsS RX8 87 yX8_more wsX8_more) := goodIn_app (goodIn_of _ (by decide +kernel)) ggX8_skip_X8_more
theorem dX8_skip_0 : decode cX8_skip 0 = .ok (.iload_n 1, 1) := by decide +kernel
theorem dX8_skip_1 : decode cX8_skip 1 = .ok (.ifCond .eq 14, 3) := by decide +kernel
theorem dX8_skip_4 : decode cX8_skip 4 = .ok (.aload_n 0, 1) := by decide +kernel
theorem dX8_skip_5 : decode cX8_skip 5 = .ok (.aload_n 0, 1) := by decide +kernel
theorem dX8_skip_6 : decode cX8_skip 6 = .ok (.getfield 84, 3) := by decide +kernel
theorem dX8_skip_9 : decode cX8_skip 9 = .ok (.invokestatic 87, 3) := by decide +kernel
theorem dX8_skip_12 : decode cX8_skip 12 = .ok (.putfield 84, 3) := by decide +kernel
theorem dX8_skip_15 : decode cX8_skip 15 = .ok (.return_, 1) := by decide +kernel
set_option maxRecDepth 20000 in
theorem ggX8_direct_X8_at : GoodIn wsX8_direct wsX8_at := goodIn_r _ [7, 8, 9, 10, 11, 12, 13, 14, 15, 16, 17, 18, 19, 20, 21, 22, 23, 24, 25, 26, 27, 28, 29, 30, 31, 32, 33, 34, 35, 36, 37, 38, 39, 40, 41, 42, 43, 44, 45] (by decide +kernel) (by decide +kernel)
set_option maxRecDepth 20000 in
theorem gX8_direct_X8_at : GoodIn wsX8_direct (wsV RX8 95 RX8 yX8_at wsX8_at) := goodIn_app (goodIn_of _ (by decide +kernel)) ggX8_direct_X8_at
theorem dX8_direct_0 : decode cX8_direct 0 = .ok (.iload_n 1, 1) := by decide +kernel
theorem dX8_direct_1 : decode cX8_direct 1 = .ok (.istore_n 2, 1) := by decide +kernel
theorem dX8_direct_2 : decode cX8_direct 2 = .ok (.iconst 0, 1) := by decide +kernel
theorem dX8_direct_3 : decode cX8_direct 3 = .ok (.istore_n 3, 1) := by decide +kernel
theorem dX8_direct_4 : decode cX8_direct 4 = .ok (.iload_n 2, 1) := by decide +kernel
theorem dX8_direct_5 : decode cX8_direct 5 = .ok (.bipush 15, 2) := by decide +kernel
theorem dX8_direct_7 : decode cX8_direct 7 = .ok (.ishr, 1) := by decide +kernel
theorem dX8_direct_8 : decode cX8_direct 8 = .ok (.iconst 1, 1) := by decide +kernel
theorem dX8_direct_9 : decode cX8_direct 9 = .ok (.if_icmp .ne 38, 3) := by decide +kernel
theorem dX8_direct_12 : decode cX8_direct 12 = .ok (.iinc 3 1, 3) := by decide +kernel
theorem dX8_direct_15 : decode cX8_direct 15 = .ok (.iload_n 3, 1) := by decide +kernel
theorem dX8_direct_16 : decode cX8_direct 16 = .ok (.bipush 33, 2) := by decide +kernel
theorem dX8_direct_18 : decode cX8_direct 18 = .ok (.if_icmp .ne 16, 3) := by decide +kernel
theorem dX8_direct_21 : decode cX8_direct 21 = .ok (.aload_n 0, 1) := by decide +kernel
theorem dX8_direct_22 : decode cX8_direct 22 = .ok (.iconst 1, 1) := by decide +kernel
end
section
theorem dX8_direct_23 : decode cX8_direct 23 = .ok (.putfield 91, 3) := by decide +kernel
theorem dX8_direct_26 : decode cX8_direct 26 = .ok (.aload_n 0, 1) := by decide +kernel
theorem dX8_direct_27 : decode cX8_direct 27 = .ok (.bipush 64, 2) := by decide +kernel
theorem dX8_direct_29 : decode cX8_direct 29 = .ok (.putfield 13, 3) := by decide +kernel
theorem dX8_direct_32 : decode cX8_direct 32 = .ok (.iconst (-1), 1) := by decide +kernel
theorem dX8_direct_33 : decode cX8_direct 33 = .ok (.ireturn, 1) := by decide +kernel
theorem dX8_direct_34 : decode cX8_direct 34 = .ok (.aload_n 0, 1) := by decide +kernel
theorem dX8_direct_35 : decode cX8_direct 35 = .ok (.iload_n 2, 1) := by decide +kernel
theorem dX8_direct_36 : decode cX8_direct 36 = .ok (.sipush 32767, 3) := by decide +kernel
theorem dX8_direct_39 : decode cX8_direct 39 = .ok (.iand, 1) := by decide +kernel
theorem dX8_direct_40 : decode cX8_direct 40 = .ok (.invokevirtual 95, 3) := by decide +kernel
theorem dX8_direct_43 : decode cX8_direct 43 = .ok (.istore_n 2, 1) := by decide +kernel
theorem dX8_direct_44 : decode cX8_direct 44 = .ok (.goto (-40), 3) := by decide +kernel
theorem dX8_direct_47 : decode cX8_direct 47 = .ok (.iload_n 2, 1) := by decide +kernel
theorem dX8_direct_48 : decode cX8_direct 48 = .ok (.ireturn, 1) := by decide +kernel
theorem dX8_started_0 : decode cX8_started 0 = .ok (.aload_n 0, 1) := by decide +kernel
theorem dX8_started_1 : decode cX8_started 1 = .ok (.getfield 60, 3) := by decide +kernel
theorem dX8_started_4 : decode cX8_started 4 = .ok (.iload_n 1, 1) := by decide +kernel
theorem dX8_started_5 : decode cX8_started 5 = .ok (.aload_n 0, 1) := by decide +kernel
theorem dX8_started_6 : decode cX8_started 6 = .ok (.getfield 54, 3) := by decide +kernel
theorem dX8_started_9 : decode cX8_started 9 = .ok (.iload_n 1, 1) := by decide +kernel
theorem dX8_started_10 : decode cX8_started 10 = .ok (.iaload, 1) := by decide +kernel
theorem dX8_started_11 : decode cX8_started 11 = .ok (.iastore, 1) := by decide +kernel
theorem dX8_started_12 : decode cX8_started 12 = .ok (.return_, 1) := by decide +kernel
theorem dX8_ready_0 : decode cX8_ready 0 = .ok (.aload_n 0, 1) := by decide +kernel
theorem dX8_ready_1 : decode cX8_ready 1 = .ok (.getfield 51, 3) := by decide +kernel
theorem dX8_ready_4 : decode cX8_ready 4 = .ok (.iload_n 1, 1) := by decide +kernel
theorem dX8_ready_5 : decode cX8_ready 5 = .ok (.baload, 1) := by decide +kernel
theorem dX8_ready_6 : decode cX8_ready 6 = .ok (.ifCond .eq 51, 3) := by decide +kernel
theorem dX8_ready_9 : decode cX8_ready 9 = .ok (.aload_n 0, 1) := by decide +kernel
theorem dX8_ready_10 : decode cX8_ready 10 = .ok (.getfield 66, 3) := by decide +kernel
theorem dX8_ready_13 : decode cX8_ready 13 = .ok (.iload_n 1, 1) := by decide +kernel
theorem dX8_ready_14 : decode cX8_ready 14 = .ok (.iaload, 1) := by decide +kernel
theorem dX8_ready_15 : decode cX8_ready 15 = .ok (.sipush 200, 3) := by decide +kernel
theorem dX8_ready_18 : decode cX8_ready 18 = .ok (.if_icmp .ge 26, 3) := by decide +kernel
theorem dX8_ready_21 : decode cX8_ready 21 = .ok (.aload_n 0, 1) := by decide +kernel
theorem dX8_ready_22 : decode cX8_ready 22 = .ok (.getfield 72, 3) := by decide +kernel
theorem dX8_ready_25 : decode cX8_ready 25 = .ok (.sipush 200, 3) := by decide +kernel
theorem dX8_ready_28 : decode cX8_ready 28 = .ok (.iload_n 1, 1) := by decide +kernel
theorem dX8_ready_29 : decode cX8_ready 29 = .ok (.imul, 1) := by decide +kernel
theorem dX8_ready_30 : decode cX8_ready 30 = .ok (.aload_n 0, 1) := by decide +kernel
theorem dX8_ready_31 : decode cX8_ready 31 = .ok (.getfield 66, 3) := by decide +kernel
theorem dX8_ready_34 : decode cX8_ready 34 = .ok (.iload_n 1, 1) := by decide +kernel
theorem dX8_ready_35 : decode cX8_ready 35 = .ok (.iaload, 1) := by decide +kernel
theorem dX8_ready_36 : decode cX8_ready 36 = .ok (.iadd, 1) := by decide +kernel
theorem dX8_ready_37 : decode cX8_ready 37 = .ok (.aload_n 0, 1) := by decide +kernel
theorem dX8_ready_38 : decode cX8_ready 38 = .ok (.getfield 57, 3) := by decide +kernel
theorem dX8_ready_41 : decode cX8_ready 41 = .ok (.iload_n 1, 1) := by decide +kernel
theorem dX8_ready_42 : decode cX8_ready 42 = .ok (.iaload, 1) := by decide +kernel
theorem dX8_ready_43 : decode cX8_ready 43 = .ok (.iastore, 1) := by decide +kernel
theorem dX8_ready_44 : decode cX8_ready 44 = .ok (.aload_n 0, 1) := by decide +kernel
theorem dX8_ready_45 : decode cX8_ready 45 = .ok (.getfield 66, 3) := by decide +kernel
theorem dX8_ready_48 : decode cX8_ready 48 = .ok (.iload_n 1, 1) := by decide +kernel
theorem dX8_ready_49 : decode cX8_ready 49 = .ok (.dup2, 1) := by decide +kernel
theorem dX8_ready_50 : decode cX8_ready 50 = .ok (.iaload, 1) := by decide +kernel
theorem dX8_ready_51 : decode cX8_ready 51 = .ok (.iconst 1, 1) := by decide +kernel
theorem dX8_ready_52 : decode cX8_ready 52 = .ok (.iadd, 1) := by decide +kernel
theorem dX8_ready_53 : decode cX8_ready 53 = .ok (.iastore, 1) := by decide +kernel
theorem dX8_ready_54 : decode cX8_ready 54 = .ok (.goto 86, 3) := by decide +kernel
theorem dX8_ready_57 : decode cX8_ready 57 = .ok (.aload_n 0, 1) := by decide +kernel
theorem dX8_ready_58 : decode cX8_ready 58 = .ok (.getfield 57, 3) := by decide +kernel
theorem dX8_ready_61 : decode cX8_ready 61 = .ok (.iload_n 1, 1) := by decide +kernel
theorem dX8_ready_62 : decode cX8_ready 62 = .ok (.iconst 0, 1) := by decide +kernel
theorem dX8_ready_63 : decode cX8_ready 63 = .ok (.iastore, 1) := by decide +kernel
theorem dX8_ready_64 : decode cX8_ready 64 = .ok (.aload_n 0, 1) := by decide +kernel
theorem dX8_ready_65 : decode cX8_ready 65 = .ok (.getfield 63, 3) := by decide +kernel
theorem dX8_ready_68 : decode cX8_ready 68 = .ok (.iload_n 1, 1) := by decide +kernel
theorem dX8_ready_69 : decode cX8_ready 69 = .ok (.iaload, 1) := by decide +kernel
theorem dX8_ready_70 : decode cX8_ready 70 = .ok (.ifCond .le 70, 3) := by decide +kernel
theorem dX8_ready_73 : decode cX8_ready 73 = .ok (.aload_n 0, 1) := by decide +kernel
theorem dX8_ready_74 : decode cX8_ready 74 = .ok (.getfield 57, 3) := by decide +kernel
theorem dX8_ready_77 : decode cX8_ready 77 = .ok (.iload_n 1, 1) := by decide +kernel
theorem dX8_ready_78 : decode cX8_ready 78 = .ok (.aload_n 0, 1) := by decide +kernel
theorem dX8_ready_79 : decode cX8_ready 79 = .ok (.getfield 69, 3) := by decide +kernel
theorem dX8_ready_82 : decode cX8_ready 82 = .ok (.bipush 100, 2) := by decide +kernel
theorem dX8_ready_84 : decode cX8_ready 84 = .ok (.iload_n 1, 1) := by decide +kernel
theorem dX8_ready_85 : decode cX8_ready 85 = .ok (.imul, 1) := by decide +kernel
theorem dX8_ready_86 : decode cX8_ready 86 = .ok (.iaload, 1) := by decide +kernel
theorem dX8_ready_87 : decode cX8_ready 87 = .ok (.iastore, 1) := by decide +kernel
theorem dX8_ready_88 : decode cX8_ready 88 = .ok (.aload_n 0, 1) := by decide +kernel
theorem dX8_ready_89 : decode cX8_ready 89 = .ok (.getfield 63, 3) := by decide +kernel
theorem dX8_ready_92 : decode cX8_ready 92 = .ok (.iload_n 1, 1) := by decide +kernel
theorem dX8_ready_93 : decode cX8_ready 93 = .ok (.dup2, 1) := by decide +kernel
theorem dX8_ready_94 : decode cX8_ready 94 = .ok (.iaload, 1) := by decide +kernel
theorem dX8_ready_95 : decode cX8_ready 95 = .ok (.iconst 1, 1) := by decide +kernel
theorem dX8_ready_96 : decode cX8_ready 96 = .ok (.isub, 1) := by decide +kernel
theorem dX8_ready_97 : decode cX8_ready 97 = .ok (.iastore, 1) := by decide +kernel
theorem dX8_ready_98 : decode cX8_ready 98 = .ok (.iconst 0, 1) := by decide +kernel
theorem dX8_ready_99 : decode cX8_ready 99 = .ok (.istore_n 2, 1) := by decide +kernel
theorem dX8_ready_100 : decode cX8_ready 100 = .ok (.iload_n 2, 1) := by decide +kernel
theorem dX8_ready_101 : decode cX8_ready 101 = .ok (.aload_n 0, 1) := by decide +kernel
theorem dX8_ready_102 : decode cX8_ready 102 = .ok (.getfield 63, 3) := by decide +kernel
theorem dX8_ready_105 : decode cX8_ready 105 = .ok (.iload_n 1, 1) := by decide +kernel
theorem dX8_ready_106 : decode cX8_ready 106 = .ok (.iaload, 1) := by decide +kernel
theorem dX8_ready_107 : decode cX8_ready 107 = .ok (.if_icmp .ge 33, 3) := by decide +kernel
theorem dX8_ready_110 : decode cX8_ready 110 = .ok (.aload_n 0, 1) := by decide +kernel
theorem dX8_ready_111 : decode cX8_ready 111 = .ok (.getfield 69, 3) := by decide +kernel
theorem dX8_ready_114 : decode cX8_ready 114 = .ok (.bipush 100, 2) := by decide +kernel
theorem dX8_ready_116 : decode cX8_ready 116 = .ok (.iload_n 1, 1) := by decide +kernel
theorem dX8_ready_117 : decode cX8_ready 117 = .ok (.imul, 1) := by decide +kernel
theorem dX8_ready_118 : decode cX8_ready 118 = .ok (.iload_n 2, 1) := by decide +kernel
theorem dX8_ready_119 : decode cX8_ready 119 = .ok (.iadd, 1) := by decide +kernel
theorem dX8_ready_120 : decode cX8_ready 120 = .ok (.aload_n 0, 1) := by decide +kernel
theorem dX8_ready_121 : decode cX8_ready 121 = .ok (.getfield 69, 3) := by decide +kernel
theorem dX8_ready_124 : decode cX8_ready 124 = .ok (.bipush 100, 2) := by decide +kernel
theorem dX8_ready_126 : decode cX8_ready 126 = .ok (.iload_n 1, 1) := by decide +kernel
theorem dX8_ready_127 : decode cX8_ready 127 = .ok (.imul, 1) := by decide +kernel
theorem dX8_ready_128 : decode cX8_ready 128 = .ok (.iload_n 2, 1) := by decide +kernel
theorem dX8_ready_129 : decode cX8_ready 129 = .ok (.iadd, 1) := by decide +kernel
theorem dX8_ready_130 : decode cX8_ready 130 = .ok (.iconst 1, 1) := by decide +kernel
theorem dX8_ready_131 : decode cX8_ready 131 = .ok (.iadd, 1) := by decide +kernel
theorem dX8_ready_132 : decode cX8_ready 132 = .ok (.iaload, 1) := by decide +kernel
theorem dX8_ready_133 : decode cX8_ready 133 = .ok (.iastore, 1) := by decide +kernel
theorem dX8_ready_134 : decode cX8_ready 134 = .ok (.iinc 2 1, 3) := by decide +kernel
theorem dX8_ready_137 : decode cX8_ready 137 = .ok (.goto (-37), 3) := by decide +kernel
theorem dX8_ready_140 : decode cX8_ready 140 = .ok (.aload_n 0, 1) := by decide +kernel
theorem dX8_ready_141 : decode cX8_ready 141 = .ok (.getfield 24, 3) := by decide +kernel
theorem dX8_ready_144 : decode cX8_ready 144 = .ok (.iload_n 1, 1) := by decide +kernel
theorem dX8_ready_145 : decode cX8_ready 145 = .ok (.iconst 1, 1) := by decide +kernel
theorem dX8_ready_146 : decode cX8_ready 146 = .ok (.bastore, 1) := by decide +kernel
theorem dX8_ready_147 : decode cX8_ready 147 = .ok (.aload_n 0, 1) := by decide +kernel
theorem dX8_ready_148 : decode cX8_ready 148 = .ok (.getfield 27, 3) := by decide +kernel
theorem dX8_ready_151 : decode cX8_ready 151 = .ok (.iload_n 1, 1) := by decide +kernel
theorem dX8_ready_152 : decode cX8_ready 152 = .ok (.iconst 1, 1) := by decide +kernel
theorem dX8_ready_153 : decode cX8_ready 153 = .ok (.bastore, 1) := by decide +kernel
theorem dX8_ready_154 : decode cX8_ready 154 = .ok (.return_, 1) := by decide +kernel
set_option maxRecDepth 20000 in
theorem ggX8_channel_X8_put : GoodIn wsX8_channel wsX8_put := goodIn_r _ [16, 17, 18, 19, 33, 34, 35, 36, 37, 38, 39, 40, 41, 42, 43, 44, 45, 46, 47, 48, 49, 50, 51, 52, 53, 54, 55, 56, 57, 58, 59, 60, 61, 62, 63, 64, 65, 66, 67] (by decide +kernel) (by decide +kernel)
set_option maxRecDepth 20000 in
theorem gX8_channel_X8_put : GoodIn wsX8_channel (wsV RX8 98 RX8 yX8_put wsX8_put) := goodIn_app (goodIn_of _ (by decide +kernel)) ggX8_channel_X8_put
set_option maxRecDepth 20000 in
theorem ggX8_channel_X8_at : GoodIn wsX8_channel wsX8_at := goodIn_r _ [23, 17, 18, 19, 33, 34, 35, 36, 37, 38, 39, 40, 41, 42, 43, 44, 45, 46, 47, 48, 49, 50, 51, 52, 53, 54, 55, 56, 57, 58, 59, 60, 61, 62, 63, 64, 65, 66, 67] (by decide +kernel) (by decide +kernel)
set_option maxRecDepth 20000 in
theorem gX8_channel_X8_at : GoodIn wsX8_channel (wsV RX8 95 RX8 yX8_at wsX8_at) := goodIn_app (goodIn_of _ (by decide +kernel)) ggX8_channel_X8_at
set_option maxRecDepth 20000 in
theorem ggX8_channel_X8_more : GoodIn wsX8_channel wsX8_more := goodIn_r _ [26] (by decide +kernel) (by decide +kernel)
set_option maxRecDepth 20000 in
theorem gX8_channel_X8_more : GoodIn wsX8_channel (va_wsS RX8 87 yX8_more wsX8_more) := goodIn_app (goodIn_of _ (by decide +kernel)) ggX8_channel_X8_more
set_option maxRecDepth 20000 in
theorem ggX8_channel_X8_started : GoodIn wsX8_channel wsX8_started := goodIn_r _ [30, 31, 32, 33, 34, 35, 36, 37, 38, 39, 40, 41, 42, 43, 44, 45, 46, 47, 48, 49, 50, 51, 52, 53, 54, 55, 56, 57, 58, 59, 60, 61, 62, 63, 64, 65, 66, 67] (by decide +kernel) (by decide +kernel)
set_option maxRecDepth 20000 in
theorem gX8_channel_X8_started : GoodIn wsX8_channel (wsV RX8 103 RX8 yX8_started wsX8_started) := goodIn_app (goodIn_of _ (by decide +kernel)) ggX8_channel_X8_started
theorem dX8_channel_0 : decode cX8_channel 0 = .ok (.aload_n 0, 1) := by decide +kernel
theorem dX8_channel_1 : decode cX8_channel 1 = .ok (.getfield 45, 3) := by decide +kernel
theorem dX8_channel_4 : decode cX8_channel 4 = .ok (.iload_n 1, 1) := by decide +kernel
theorem dX8_channel_5 : decode cX8_channel 5 = .ok (.iaload, 1) := by decide +kernel
theorem dX8_channel_6 : decode cX8_channel 6 = .ok (.bipush 63, 2) := by decide +kernel
theorem dX8_channel_8 : decode cX8_channel 8 = .ok (.iand, 1) := by decide +kernel
theorem dX8_channel_9 : decode cX8_channel 9 = .ok (.istore_n 2, 1) := by decide +kernel
theorem dX8_channel_10 : decode cX8_channel 10 = .ok (.aload_n 0, 1) := by decide +kernel
theorem dX8_channel_11 : decode cX8_channel 11 = .ok (.getfield 30, 3) := by decide +kernel
theorem dX8_channel_14 : decode cX8_channel 14 = .ok (.iload_n 1, 1) := by decide +kernel
theorem dX8_channel_15 : decode cX8_channel 15 = .ok (.baload, 1) := by decide +kernel
theorem dX8_channel_16 : decode cX8_channel 16 = .ok (.ifCond .eq 24, 3) := by decide +kernel
theorem dX8_channel_19 : decode cX8_channel 19 = .ok (.iload_n 2, 1) := by decide +kernel
theorem dX8_channel_20 : decode cX8_channel 20 = .ok (.bipush 8, 2) := by decide +kernel
theorem dX8_channel_22 : decode cX8_channel 22 = .ok (.if_icmp .lt 18, 3) := by decide +kernel
theorem dX8_channel_25 : decode cX8_channel 25 = .ok (.iload_n 2, 1) := by decide +kernel
theorem dX8_channel_26 : decode cX8_channel 26 = .ok (.bipush 12, 2) := by decide +kernel
theorem dX8_channel_28 : decode cX8_channel 28 = .ok (.if_icmp .ge 12, 3) := by decide +kernel
theorem dX8_channel_31 : decode cX8_channel 31 = .ok (.aload_n 0, 1) := by decide +kernel
theorem dX8_channel_32 : decode cX8_channel 32 = .ok (.getfield 24, 3) := by decide +kernel
theorem dX8_channel_35 : decode cX8_channel 35 = .ok (.iload_n 2, 1) := by decide +kernel
theorem dX8_channel_36 : decode cX8_channel 36 = .ok (.baload, 1) := by decide +kernel
theorem dX8_channel_37 : decode cX8_channel 37 = .ok (.ifCond .ne 4, 3) := by decide +kernel
theorem dX8_channel_40 : decode cX8_channel 40 = .ok (.return_, 1) := by decide +kernel
theorem dX8_channel_41 : decode cX8_channel 41 = .ok (.aload_n 0, 1) := by decide +kernel
theorem dX8_channel_42 : decode cX8_channel 42 = .ok (.getfield 33, 3) := by decide +kernel
theorem dX8_channel_45 : decode cX8_channel 45 = .ok (.iload_n 1, 1) := by decide +kernel
theorem dX8_channel_46 : decode cX8_channel 46 = .ok (.baload, 1) := by decide +kernel
theorem dX8_channel_47 : decode cX8_channel 47 = .ok (.ifCond .eq 22, 3) := by decide +kernel
theorem dX8_channel_50 : decode cX8_channel 50 = .ok (.aload_n 0, 1) := by decide +kernel
theorem dX8_channel_51 : decode cX8_channel 51 = .ok (.aload_n 0, 1) := by decide +kernel
theorem dX8_channel_52 : decode cX8_channel 52 = .ok (.getfield 39, 3) := by decide +kernel
theorem dX8_channel_55 : decode cX8_channel 55 = .ok (.iload_n 1, 1) := by decide +kernel
theorem dX8_channel_56 : decode cX8_channel 56 = .ok (.iaload, 1) := by decide +kernel
theorem dX8_channel_57 : decode cX8_channel 57 = .ok (.aload_n 0, 1) := by decide +kernel
theorem dX8_channel_58 : decode cX8_channel 58 = .ok (.getfield 57, 3) := by decide +kernel
theorem dX8_channel_61 : decode cX8_channel 61 = .ok (.iload_n 2, 1) := by decide +kernel
theorem dX8_channel_62 : decode cX8_channel 62 = .ok (.iaload, 1) := by decide +kernel
theorem dX8_channel_63 : decode cX8_channel 63 = .ok (.invokevirtual 98, 3) := by decide +kernel
theorem dX8_channel_66 : decode cX8_channel 66 = .ok (.goto 19, 3) := by decide +kernel
theorem dX8_channel_69 : decode cX8_channel 69 = .ok (.aload_n 0, 1) := by decide +kernel
theorem dX8_channel_70 : decode cX8_channel 70 = .ok (.getfield 57, 3) := by decide +kernel
theorem dX8_channel_73 : decode cX8_channel 73 = .ok (.iload_n 2, 1) := by decide +kernel
theorem dX8_channel_74 : decode cX8_channel 74 = .ok (.aload_n 0, 1) := by decide +kernel
theorem dX8_channel_75 : decode cX8_channel 75 = .ok (.aload_n 0, 1) := by decide +kernel
theorem dX8_channel_76 : decode cX8_channel 76 = .ok (.getfield 39, 3) := by decide +kernel
theorem dX8_channel_79 : decode cX8_channel 79 = .ok (.iload_n 1, 1) := by decide +kernel
theorem dX8_channel_80 : decode cX8_channel 80 = .ok (.iaload, 1) := by decide +kernel
theorem dX8_channel_81 : decode cX8_channel 81 = .ok (.invokevirtual 95, 3) := by decide +kernel
theorem dX8_channel_84 : decode cX8_channel 84 = .ok (.iastore, 1) := by decide +kernel
theorem dX8_channel_85 : decode cX8_channel 85 = .ok (.aload_n 0, 1) := by decide +kernel
theorem dX8_channel_86 : decode cX8_channel 86 = .ok (.getfield 24, 3) := by decide +kernel
theorem dX8_channel_89 : decode cX8_channel 89 = .ok (.iload_n 2, 1) := by decide +kernel
theorem dX8_channel_90 : decode cX8_channel 90 = .ok (.iconst 0, 1) := by decide +kernel
theorem dX8_channel_91 : decode cX8_channel 91 = .ok (.bastore, 1) := by decide +kernel
theorem dX8_channel_92 : decode cX8_channel 92 = .ok (.aload_n 0, 1) := by decide +kernel
theorem dX8_channel_93 : decode cX8_channel 93 = .ok (.getfield 27, 3) := by decide +kernel
theorem dX8_channel_96 : decode cX8_channel 96 = .ok (.iload_n 2, 1) := by decide +kernel
theorem dX8_channel_97 : decode cX8_channel 97 = .ok (.iconst 0, 1) := by decide +kernel
theorem dX8_channel_98 : decode cX8_channel 98 = .ok (.bastore, 1) := by decide +kernel
theorem dX8_channel_99 : decode cX8_channel 99 = .ok (.aload_n 0, 1) := by decide +kernel
theorem dX8_channel_100 : decode cX8_channel 100 = .ok (.getfield 39, 3) := by decide +kernel
theorem dX8_channel_103 : decode cX8_channel 103 = .ok (.iload_n 1, 1) := by decide +kernel
theorem dX8_channel_104 : decode cX8_channel 104 = .ok (.aload_n 0, 1) := by decide +kernel
theorem dX8_channel_105 : decode cX8_channel 105 = .ok (.getfield 39, 3) := by decide +kernel
theorem dX8_channel_108 : decode cX8_channel 108 = .ok (.iload_n 1, 1) := by decide +kernel
theorem dX8_channel_109 : decode cX8_channel 109 = .ok (.iaload, 1) := by decide +kernel
theorem dX8_channel_110 : decode cX8_channel 110 = .ok (.invokestatic 87, 3) := by decide +kernel
theorem dX8_channel_113 : decode cX8_channel 113 = .ok (.iastore, 1) := by decide +kernel
theorem dX8_channel_114 : decode cX8_channel 114 = .ok (.aload_n 0, 1) := by decide +kernel
theorem dX8_channel_115 : decode cX8_channel 115 = .ok (.getfield 42, 3) := by decide +kernel
theorem dX8_channel_118 : decode cX8_channel 118 = .ok (.iload_n 1, 1) := by decide +kernel
theorem dX8_channel_119 : decode cX8_channel 119 = .ok (.aload_n 0, 1) := by decide +kernel
theorem dX8_channel_120 : decode cX8_channel 120 = .ok (.getfield 42, 3) := by decide +kernel
theorem dX8_channel_123 : decode cX8_channel 123 = .ok (.iload_n 1, 1) := by decide +kernel
theorem dX8_channel_124 : decode cX8_channel 124 = .ok (.iaload, 1) := by decide +kernel
theorem dX8_channel_125 : decode cX8_channel 125 = .ok (.iconst 1, 1) := by decide +kernel
theorem dX8_channel_126 : decode cX8_channel 126 = .ok (.iadd, 1) := by decide +kernel
theorem dX8_channel_127 : decode cX8_channel 127 = .ok (.ldc 102, 2) := by decide +kernel
theorem dX8_channel_129 : decode cX8_channel 129 = .ok (.iand, 1) := by decide +kernel
theorem dX8_channel_130 : decode cX8_channel 130 = .ok (.iastore, 1) := by decide +kernel
theorem dX8_channel_131 : decode cX8_channel 131 = .ok (.aload_n 0, 1) := by decide +kernel
theorem dX8_channel_132 : decode cX8_channel 132 = .ok (.getfield 48, 3) := by decide +kernel
theorem dX8_channel_135 : decode cX8_channel 135 = .ok (.iload_n 1, 1) := by decide +kernel
theorem dX8_channel_136 : decode cX8_channel 136 = .ok (.dup2, 1) := by decide +kernel
theorem dX8_channel_137 : decode cX8_channel 137 = .ok (.iaload, 1) := by decide +kernel
theorem dX8_channel_138 : decode cX8_channel 138 = .ok (.iconst 1, 1) := by decide +kernel
theorem dX8_channel_139 : decode cX8_channel 139 = .ok (.iadd, 1) := by decide +kernel
theorem dX8_channel_140 : decode cX8_channel 140 = .ok (.iastore, 1) := by decide +kernel
theorem dX8_channel_141 : decode cX8_channel 141 = .ok (.aload_n 0, 1) := by decide +kernel
theorem dX8_channel_142 : decode cX8_channel 142 = .ok (.getfield 42, 3) := by decide +kernel
theorem dX8_channel_145 : decode cX8_channel 145 = .ok (.iload_n 1, 1) := by decide +kernel
theorem dX8_channel_146 : decode cX8_channel 146 = .ok (.iaload, 1) := by decide +kernel
theorem dX8_channel_147 : decode cX8_channel 147 = .ok (.ifCond .ne 49, 3) := by decide +kernel
theorem dX8_channel_150 : decode cX8_channel 150 = .ok (.aload_n 0, 1) := by decide +kernel
theorem dX8_channel_151 : decode cX8_channel 151 = .ok (.getfield 24, 3) := by decide +kernel
theorem dX8_channel_154 : decode cX8_channel 154 = .ok (.iload_n 1, 1) := by decide +kernel
theorem dX8_channel_155 : decode cX8_channel 155 = .ok (.iconst 1, 1) := by decide +kernel
theorem dX8_channel_156 : decode cX8_channel 156 = .ok (.bastore, 1) := by decide +kernel
theorem dX8_channel_157 : decode cX8_channel 157 = .ok (.aload_n 0, 1) := by decide +kernel
theorem dX8_channel_158 : decode cX8_channel 158 = .ok (.getfield 27, 3) := by decide +kernel
theorem dX8_channel_161 : decode cX8_channel 161 = .ok (.iload_n 1, 1) := by decide +kernel
theorem dX8_channel_162 : decode cX8_channel 162 = .ok (.iconst 1, 1) := by decide +kernel
theorem dX8_channel_163 : decode cX8_channel 163 = .ok (.bastore, 1) := by decide +kernel
theorem dX8_channel_164 : decode cX8_channel 164 = .ok (.aload_n 0, 1) := by decide +kernel
theorem dX8_channel_165 : decode cX8_channel 165 = .ok (.getfield 30, 3) := by decide +kernel
theorem dX8_channel_168 : decode cX8_channel 168 = .ok (.iload_n 1, 1) := by decide +kernel
theorem dX8_channel_169 : decode cX8_channel 169 = .ok (.iconst 0, 1) := by decide +kernel
theorem dX8_channel_170 : decode cX8_channel 170 = .ok (.bastore, 1) := by decide +kernel
theorem dX8_channel_171 : decode cX8_channel 171 = .ok (.aload_n 0, 1) := by decide +kernel
theorem dX8_channel_172 : decode cX8_channel 172 = .ok (.getfield 45, 3) := by decide +kernel
theorem dX8_channel_175 : decode cX8_channel 175 = .ok (.iload_n 1, 1) := by decide +kernel
theorem dX8_channel_176 : decode cX8_channel 176 = .ok (.iaload, 1) := by decide +kernel
theorem dX8_channel_177 : decode cX8_channel 177 = .ok (.bipush 13, 2) := by decide +kernel
theorem dX8_channel_179 : decode cX8_channel 179 = .ok (.ishr, 1) := by decide +kernel
theorem dX8_channel_180 : decode cX8_channel 180 = .ok (.iconst 1, 1) := by decide +kernel
theorem dX8_channel_181 : decode cX8_channel 181 = .ok (.iand, 1) := by decide +kernel
theorem dX8_channel_182 : decode cX8_channel 182 = .ok (.iconst 1, 1) := by decide +kernel
theorem dX8_channel_183 : decode cX8_channel 183 = .ok (.if_icmp .ne 38, 3) := by decide +kernel
theorem dX8_channel_186 : decode cX8_channel 186 = .ok (.aload_n 0, 1) := by decide +kernel
theorem dX8_channel_187 : decode cX8_channel 187 = .ok (.getfield 20, 3) := by decide +kernel
theorem dX8_channel_190 : decode cX8_channel 190 = .ok (.iload_n 2, 1) := by decide +kernel
theorem dX8_channel_191 : decode cX8_channel 191 = .ok (.iconst 0, 1) := by decide +kernel
theorem dX8_channel_192 : decode cX8_channel 192 = .ok (.bastore, 1) := by decide +kernel
theorem dX8_channel_193 : decode cX8_channel 193 = .ok (.goto 28, 3) := by decide +kernel
theorem dX8_channel_196 : decode cX8_channel 196 = .ok (.aload_n 0, 1) := by decide +kernel
theorem dX8_channel_197 : decode cX8_channel 197 = .ok (.getfield 45, 3) := by decide +kernel
theorem dX8_channel_200 : decode cX8_channel 200 = .ok (.iload_n 1, 1) := by decide +kernel
theorem dX8_channel_201 : decode cX8_channel 201 = .ok (.iaload, 1) := by decide +kernel
theorem dX8_channel_202 : decode cX8_channel 202 = .ok (.bipush 15, 2) := by decide +kernel
theorem dX8_channel_204 : decode cX8_channel 204 = .ok (.ishr, 1) := by decide +kernel
theorem dX8_channel_205 : decode cX8_channel 205 = .ok (.iconst 1, 1) := by decide +kernel
theorem dX8_channel_206 : decode cX8_channel 206 = .ok (.if_icmp .ne 15, 3) := by decide +kernel
theorem dX8_channel_209 : decode cX8_channel 209 = .ok (.aload_n 0, 1) := by decide +kernel
theorem dX8_channel_210 : decode cX8_channel 210 = .ok (.getfield 20, 3) := by decide +kernel
theorem dX8_channel_213 : decode cX8_channel 213 = .ok (.iload_n 2, 1) := by decide +kernel
theorem dX8_channel_214 : decode cX8_channel 214 = .ok (.iconst 1, 1) := by decide +kernel
theorem dX8_channel_215 : decode cX8_channel 215 = .ok (.bastore, 1) := by decide +kernel
theorem dX8_channel_216 : decode cX8_channel 216 = .ok (.aload_n 0, 1) := by decide +kernel
theorem dX8_channel_217 : decode cX8_channel 217 = .ok (.iload_n 2, 1) := by decide +kernel
theorem dX8_channel_218 : decode cX8_channel 218 = .ok (.invokevirtual 103, 3) := by decide +kernel
theorem dX8_channel_221 : decode cX8_channel 221 = .ok (.return_, 1) := by decide +kernel
set_option maxRecDepth 20000 in
theorem ggX8_turn_X8_ready : GoodIn wsX8_turn wsX8_ready := goodIn_r _ [16, 17, 18, 19, 20, 21, 22, 4, 7, 151, 152, 153, 154, 155, 156, 157, 158, 159, 160, 161, 162, 163, 164, 165, 166, 167, 168, 169, 170, 171, 172, 173, 174, 175, 176, 177, 178, 179, 180, 181, 182, 183, 184, 185] (by decide +kernel) (by decide +kernel)
set_option maxRecDepth 20000 in
theorem gX8_turn_X8_ready : GoodIn wsX8_turn (wsV RX8 110 RX8 yX8_ready wsX8_ready) := goodIn_app (goodIn_of _ (by decide +kernel)) ggX8_turn_X8_ready
set_option maxRecDepth 20000 in
theorem ggX8_turn_X8_channel : GoodIn wsX8_turn wsX8_channel := goodIn_r _ [26, 27, 28, 4, 29, 30, 20, 7, 31, 32, 33, 3, 34, 35, 36, 15, 37, 38, 39, 40, 41, 42, 43, 44, 45, 46, 47, 48, 49, 50, 51, 2, 52, 151, 152, 153, 154, 155, 156, 157, 158, 159, 160, 161, 162, 163, 164, 165, 166, 167, 168, 169, 170, 171, 172, 173, 174, 175, 176, 177, 178, 179, 180, 181, 182, 183, 184, 185] (by decide +kernel) (by decide +kernel)
set_option maxRecDepth 20000 in
theorem gX8_turn_X8_channel : GoodIn wsX8_turn (wsV RX8 113 RX8 yX8_channel wsX8_channel) := goodIn_app (goodIn_of _ (by decide +kernel)) ggX8_turn_X8_channel
set_option maxRecDepth 20000 in
theorem ggX8_turn_X8_at : GoodIn wsX8_turn wsX8_at := goodIn_r _ [44, 38, 39, 40, 151, 152, 153, 154, 155, 156, 157, 158, 159, 160, 161, 162, 163, 164, 165, 166, 167, 168, 169, 170, 171, 172, 173, 174, 175, 176, 177, 178, 179, 180, 181, 182, 183, 184, 185] (by decide +kernel) (by decide +kernel)
set_option maxRecDepth 20000 in
theorem gX8_turn_X8_at : GoodIn wsX8_turn (wsV RX8 95 RX8 yX8_at wsX8_at) := goodIn_app (goodIn_of _ (by decide +kernel)) ggX8_turn_X8_at
set_option maxRecDepth 20000 in
theorem ggX8_turn_X8_does : GoodIn wsX8_turn wsX8_does := goodIn_r _ [56, 57, 58, 59, 15, 60, 61, 38, 11, 8, 32, 39, 62, 63, 64, 65, 66, 67, 41, 42, 43, 44, 40, 34, 35, 36, 37, 45, 46, 47, 68, 69, 70, 71, 72, 73, 74, 75, 76, 77, 78, 79, 80, 81, 82, 83, 84, 85, 86, 87, 88, 89, 90, 91, 92, 93, 94, 95, 96, 97, 98, 99, 100, 101, 102, 103, 104, 5, 4, 7, 105, 106, 107, 108, 109, 110, 111, 112, 113, 31, 20, 114, 115, 116, 117, 118, 119, 30, 29, 27, 120, 121, 122, 123, 3, 28, 48, 49, 50, 51, 2, 52, 124, 125, 126, 127, 128, 129, 130, 131, 132, 133, 134, 135, 136, 137, 138, 139, 140, 141, 142, 143, 144, 145, 146, 147, 148, 149, 150, 151, 152, 153, 154, 155, 156, 157, 158, 159, 160, 161, 162, 163, 164, 165, 166, 167, 168, 169, 170, 171, 172, 173, 174, 175, 176, 177, 178, 179, 180, 181, 182, 183, 184, 185] (by decide +kernel) (by decide +kernel)
set_option maxRecDepth 20000 in
theorem gX8_turn_X8_does : GoodIn wsX8_turn (wsV RX8 128 RX8 yX8_does wsX8_does) := goodIn_app (goodIn_of _ (by decide +kernel)) ggX8_turn_X8_does
set_option maxRecDepth 20000 in
theorem ggX8_turn_X8_more : GoodIn wsX8_turn wsX8_more := goodIn_r _ [47] (by decide +kernel) (by decide +kernel)
set_option maxRecDepth 20000 in
theorem gX8_turn_X8_more : GoodIn wsX8_turn (va_wsS RX8 87 yX8_more wsX8_more) := goodIn_app (goodIn_of _ (by decide +kernel)) ggX8_turn_X8_more
theorem dX8_turn_0 : decode cX8_turn 0 = .ok (.aload_n 0, 1) := by decide +kernel
theorem dX8_turn_1 : decode cX8_turn 1 = .ok (.dup, 1) := by decide +kernel
theorem dX8_turn_2 : decode cX8_turn 2 = .ok (.getfield 107, 3) := by decide +kernel
theorem dX8_turn_5 : decode cX8_turn 5 = .ok (.iconst 1, 1) := by decide +kernel
theorem dX8_turn_6 : decode cX8_turn 6 = .ok (.iadd, 1) := by decide +kernel
theorem dX8_turn_7 : decode cX8_turn 7 = .ok (.putfield 107, 3) := by decide +kernel
theorem dX8_turn_10 : decode cX8_turn 10 = .ok (.bipush 8, 2) := by decide +kernel
theorem dX8_turn_12 : decode cX8_turn 12 = .ok (.istore_n 1, 1) := by decide +kernel
theorem dX8_turn_13 : decode cX8_turn 13 = .ok (.iload_n 1, 1) := by decide +kernel
theorem dX8_turn_14 : decode cX8_turn 14 = .ok (.bipush 12, 2) := by decide +kernel
theorem dX8_turn_16 : decode cX8_turn 16 = .ok (.if_icmp .ge 45, 3) := by decide +kernel
theorem dX8_turn_19 : decode cX8_turn 19 = .ok (.aload_n 0, 1) := by decide +kernel
theorem dX8_turn_20 : decode cX8_turn 20 = .ok (.getfield 60, 3) := by decide +kernel
theorem dX8_turn_23 : decode cX8_turn 23 = .ok (.iload_n 1, 1) := by decide +kernel
theorem dX8_turn_24 : decode cX8_turn 24 = .ok (.iaload, 1) := by decide +kernel
theorem dX8_turn_25 : decode cX8_turn 25 = .ok (.ifCond .ne 6, 3) := by decide +kernel
theorem dX8_turn_28 : decode cX8_turn 28 = .ok (.goto 27, 3) := by decide +kernel
theorem dX8_turn_31 : decode cX8_turn 31 = .ok (.aload_n 0, 1) := by decide +kernel
theorem dX8_turn_32 : decode cX8_turn 32 = .ok (.getfield 60, 3) := by decide +kernel
theorem dX8_turn_35 : decode cX8_turn 35 = .ok (.iload_n 1, 1) := by decide +kernel
theorem dX8_turn_36 : decode cX8_turn 36 = .ok (.dup2, 1) := by decide +kernel
theorem dX8_turn_37 : decode cX8_turn 37 = .ok (.iaload, 1) := by decide +kernel
theorem dX8_turn_38 : decode cX8_turn 38 = .ok (.iconst 1, 1) := by decide +kernel
theorem dX8_turn_39 : decode cX8_turn 39 = .ok (.isub, 1) := by decide +kernel
theorem dX8_turn_40 : decode cX8_turn 40 = .ok (.iastore, 1) := by decide +kernel
theorem dX8_turn_41 : decode cX8_turn 41 = .ok (.aload_n 0, 1) := by decide +kernel
theorem dX8_turn_42 : decode cX8_turn 42 = .ok (.getfield 60, 3) := by decide +kernel
theorem dX8_turn_45 : decode cX8_turn 45 = .ok (.iload_n 1, 1) := by decide +kernel
theorem dX8_turn_46 : decode cX8_turn 46 = .ok (.iaload, 1) := by decide +kernel
theorem dX8_turn_47 : decode cX8_turn 47 = .ok (.ifCond .ne 8, 3) := by decide +kernel
theorem dX8_turn_50 : decode cX8_turn 50 = .ok (.aload_n 0, 1) := by decide +kernel
theorem dX8_turn_51 : decode cX8_turn 51 = .ok (.iload_n 1, 1) := by decide +kernel
theorem dX8_turn_52 : decode cX8_turn 52 = .ok (.invokevirtual 110, 3) := by decide +kernel
theorem dX8_turn_55 : decode cX8_turn 55 = .ok (.iinc 1 1, 3) := by decide +kernel
theorem dX8_turn_58 : decode cX8_turn 58 = .ok (.goto (-45), 3) := by decide +kernel
theorem dX8_turn_61 : decode cX8_turn 61 = .ok (.aload_n 0, 1) := by decide +kernel
theorem dX8_turn_62 : decode cX8_turn 62 = .ok (.bipush 6, 2) := by decide +kernel
theorem dX8_turn_64 : decode cX8_turn 64 = .ok (.invokevirtual 113, 3) := by decide +kernel
theorem dX8_turn_67 : decode cX8_turn 67 = .ok (.aload_n 0, 1) := by decide +kernel
theorem dX8_turn_68 : decode cX8_turn 68 = .ok (.bipush 7, 2) := by decide +kernel
theorem dX8_turn_70 : decode cX8_turn 70 = .ok (.invokevirtual 113, 3) := by decide +kernel
theorem dX8_turn_73 : decode cX8_turn 73 = .ok (.bipush 6, 2) := by decide +kernel
theorem dX8_turn_75 : decode cX8_turn 75 = .ok (.istore_n 1, 1) := by decide +kernel
theorem dX8_turn_76 : decode cX8_turn 76 = .ok (.iload_n 1, 1) := by decide +kernel
theorem dX8_turn_77 : decode cX8_turn 77 = .ok (.bipush 12, 2) := by decide +kernel
theorem dX8_turn_79 : decode cX8_turn 79 = .ok (.if_icmp .ge 27, 3) := by decide +kernel
theorem dX8_turn_82 : decode cX8_turn 82 = .ok (.aload_n 0, 1) := by decide +kernel
theorem dX8_turn_83 : decode cX8_turn 83 = .ok (.getfield 20, 3) := by decide +kernel
theorem dX8_turn_86 : decode cX8_turn 86 = .ok (.iload_n 1, 1) := by decide +kernel
theorem dX8_turn_87 : decode cX8_turn 87 = .ok (.baload, 1) := by decide +kernel
theorem dX8_turn_88 : decode cX8_turn 88 = .ok (.ifCond .eq 12, 3) := by decide +kernel
theorem dX8_turn_91 : decode cX8_turn 91 = .ok (.aload_n 0, 1) := by decide +kernel
theorem dX8_turn_92 : decode cX8_turn 92 = .ok (.getfield 24, 3) := by decide +kernel
theorem dX8_turn_95 : decode cX8_turn 95 = .ok (.iload_n 1, 1) := by decide +kernel
theorem dX8_turn_96 : decode cX8_turn 96 = .ok (.baload, 1) := by decide +kernel
theorem dX8_turn_97 : decode cX8_turn 97 = .ok (.ifCond .ne 9, 3) := by decide +kernel
theorem dX8_turn_100 : decode cX8_turn 100 = .ok (.iinc 1 1, 3) := by decide +kernel
theorem dX8_turn_103 : decode cX8_turn 103 = .ok (.goto (-27), 3) := by decide +kernel
theorem dX8_turn_106 : decode cX8_turn 106 = .ok (.aload_n 0, 1) := by decide +kernel
theorem dX8_turn_107 : decode cX8_turn 107 = .ok (.getfield 116, 3) := by decide +kernel
theorem dX8_turn_110 : decode cX8_turn 110 = .ok (.ifCond .eq 29, 3) := by decide +kernel
theorem dX8_turn_113 : decode cX8_turn 113 = .ok (.aload_n 0, 1) := by decide +kernel
theorem dX8_turn_114 : decode cX8_turn 114 = .ok (.getfield 119, 3) := by decide +kernel
theorem dX8_turn_117 : decode cX8_turn 117 = .ok (.ifCond .ne 22, 3) := by decide +kernel
theorem dX8_turn_120 : decode cX8_turn 120 = .ok (.iload_n 1, 1) := by decide +kernel
theorem dX8_turn_121 : decode cX8_turn 121 = .ok (.bipush 12, 2) := by decide +kernel
theorem dX8_turn_123 : decode cX8_turn 123 = .ok (.if_icmp .ge 16, 3) := by decide +kernel
theorem dX8_turn_126 : decode cX8_turn 126 = .ok (.aload_n 0, 1) := by decide +kernel
theorem dX8_turn_127 : decode cX8_turn 127 = .ok (.getfield 27, 3) := by decide +kernel
theorem dX8_turn_130 : decode cX8_turn 130 = .ok (.iload_n 1, 1) := by decide +kernel
theorem dX8_turn_131 : decode cX8_turn 131 = .ok (.baload, 1) := by decide +kernel
theorem dX8_turn_132 : decode cX8_turn 132 = .ok (.ifCond .eq 7, 3) := by decide +kernel
theorem dX8_turn_135 : decode cX8_turn 135 = .ok (.iconst 1, 1) := by decide +kernel
theorem dX8_turn_136 : decode cX8_turn 136 = .ok (.goto 4, 3) := by decide +kernel
theorem dX8_turn_139 : decode cX8_turn 139 = .ok (.iconst 0, 1) := by decide +kernel
theorem dX8_turn_140 : decode cX8_turn 140 = .ok (.istore_n 2, 1) := by decide +kernel
theorem dX8_turn_141 : decode cX8_turn 141 = .ok (.aload_n 0, 1) := by decide +kernel
theorem dX8_turn_142 : decode cX8_turn 142 = .ok (.iconst 0, 1) := by decide +kernel
theorem dX8_turn_143 : decode cX8_turn 143 = .ok (.putfield 122, 3) := by decide +kernel
theorem dX8_turn_146 : decode cX8_turn 146 = .ok (.iload_n 2, 1) := by decide +kernel
theorem dX8_turn_147 : decode cX8_turn 147 = .ok (.ifCond .eq 38, 3) := by decide +kernel
theorem dX8_turn_150 : decode cX8_turn 150 = .ok (.aload_n 0, 1) := by decide +kernel
theorem dX8_turn_151 : decode cX8_turn 151 = .ok (.getfield 27, 3) := by decide +kernel
theorem dX8_turn_154 : decode cX8_turn 154 = .ok (.iload_n 1, 1) := by decide +kernel
theorem dX8_turn_155 : decode cX8_turn 155 = .ok (.iconst 0, 1) := by decide +kernel
theorem dX8_turn_156 : decode cX8_turn 156 = .ok (.bastore, 1) := by decide +kernel
theorem dX8_turn_157 : decode cX8_turn 157 = .ok (.aload_n 0, 1) := by decide +kernel
theorem dX8_turn_158 : decode cX8_turn 158 = .ok (.dup, 1) := by decide +kernel
theorem dX8_turn_159 : decode cX8_turn 159 = .ok (.getfield 125, 3) := by decide +kernel
theorem dX8_turn_162 : decode cX8_turn 162 = .ok (.iconst 1, 1) := by decide +kernel
theorem dX8_turn_163 : decode cX8_turn 163 = .ok (.iadd, 1) := by decide +kernel
theorem dX8_turn_164 : decode cX8_turn 164 = .ok (.putfield 125, 3) := by decide +kernel
theorem dX8_turn_167 : decode cX8_turn 167 = .ok (.aload_n 0, 1) := by decide +kernel
theorem dX8_turn_168 : decode cX8_turn 168 = .ok (.iload_n 1, 1) := by decide +kernel
theorem dX8_turn_169 : decode cX8_turn 169 = .ok (.putfield 17, 3) := by decide +kernel
theorem dX8_turn_172 : decode cX8_turn 172 = .ok (.aload_n 0, 1) := by decide +kernel
theorem dX8_turn_173 : decode cX8_turn 173 = .ok (.aload_n 0, 1) := by decide +kernel
theorem dX8_turn_174 : decode cX8_turn 174 = .ok (.iload_n 1, 1) := by decide +kernel
theorem dX8_turn_175 : decode cX8_turn 175 = .ok (.invokevirtual 95, 3) := by decide +kernel
theorem dX8_turn_178 : decode cX8_turn 178 = .ok (.iconst 0, 1) := by decide +kernel
theorem dX8_turn_179 : decode cX8_turn 179 = .ok (.invokevirtual 128, 3) := by decide +kernel
theorem dX8_turn_182 : decode cX8_turn 182 = .ok (.goto 33, 3) := by decide +kernel
theorem dX8_turn_185 : decode cX8_turn 185 = .ok (.aload_n 0, 1) := by decide +kernel
theorem dX8_turn_186 : decode cX8_turn 186 = .ok (.getfield 84, 3) := by decide +kernel
theorem dX8_turn_189 : decode cX8_turn 189 = .ok (.istore_n 3, 1) := by decide +kernel
theorem dX8_turn_190 : decode cX8_turn 190 = .ok (.aload_n 0, 1) := by decide +kernel
theorem dX8_turn_191 : decode cX8_turn 191 = .ok (.aload_n 0, 1) := by decide +kernel
theorem dX8_turn_192 : decode cX8_turn 192 = .ok (.getfield 84, 3) := by decide +kernel
theorem dX8_turn_195 : decode cX8_turn 195 = .ok (.invokestatic 87, 3) := by decide +kernel
theorem dX8_turn_198 : decode cX8_turn 198 = .ok (.putfield 84, 3) := by decide +kernel
theorem dX8_turn_201 : decode cX8_turn 201 = .ok (.aload_n 0, 1) := by decide +kernel
theorem dX8_turn_202 : decode cX8_turn 202 = .ok (.aload_n 0, 1) := by decide +kernel
theorem dX8_turn_203 : decode cX8_turn 203 = .ok (.iload_n 3, 1) := by decide +kernel
theorem dX8_turn_204 : decode cX8_turn 204 = .ok (.invokevirtual 95, 3) := by decide +kernel
theorem dX8_turn_207 : decode cX8_turn 207 = .ok (.iload_n 3, 1) := by decide +kernel
theorem dX8_turn_208 : decode cX8_turn 208 = .ok (.sipush 31744, 3) := by decide +kernel
theorem dX8_turn_211 : decode cX8_turn 211 = .ok (.iand, 1) := by decide +kernel
theorem dX8_turn_212 : decode cX8_turn 212 = .ok (.invokevirtual 128, 3) := by decide +kernel
theorem dX8_turn_215 : decode cX8_turn 215 = .ok (.aload_n 0, 1) := by decide +kernel
theorem dX8_turn_216 : decode cX8_turn 216 = .ok (.aload_n 0, 1) := by decide +kernel
theorem dX8_turn_217 : decode cX8_turn 217 = .ok (.getfield 122, 3) := by decide +kernel
theorem dX8_turn_220 : decode cX8_turn 220 = .ok (.putfield 119, 3) := by decide +kernel
theorem dX8_turn_223 : decode cX8_turn 223 = .ok (.return_, 1) := by decide +kernel
set_option maxRecDepth 20000 in
theorem ggX8_does_X8_memoryWord : GoodIn wsX8_does wsX8_memoryWord := goodIn_r _ [5, 6, 7, 8, 9, 10, 11, 12, 13, 14, 4, 15, 16, 17, 18, 19, 20, 21, 22, 23, 24, 25, 26, 27, 28, 29, 30, 31, 32, 33, 34, 35, 36, 37, 38, 39, 40, 41, 42, 43, 129, 130, 131, 132, 133, 134, 135, 136, 137, 138, 139, 140, 141, 142, 143, 144, 145, 146, 147, 148, 149, 150, 151, 152, 153, 154, 155, 156, 157, 158, 159, 160, 161, 162, 163] (by decide +kernel) (by decide +kernel)
set_option maxRecDepth 20000 in
theorem gX8_does_X8_memoryWord : GoodIn wsX8_does (wsV RX8 131 RX8 yX8_memoryWord wsX8_memoryWord) := goodIn_app (goodIn_of _ (by decide +kernel)) ggX8_does_X8_memoryWord
set_option maxRecDepth 20000 in
theorem ggX8_does_X8_registers : GoodIn wsX8_does wsX8_registers := goodIn_r _ [47, 11, 7, 39, 48, 49, 4, 50, 51, 52, 53, 54, 10, 38, 30, 31, 32, 33, 8, 27, 28, 29, 55, 56, 57, 58, 6, 129, 130, 131, 132, 133, 134, 135, 136, 137, 138, 139, 140, 141, 142, 143, 144, 145, 146, 147, 148, 149, 150, 151, 152, 153, 154, 155, 156, 157, 158, 159, 160, 161, 162, 163] (by decide +kernel) (by decide +kernel)
set_option maxRecDepth 20000 in
theorem gX8_does_X8_registers : GoodIn wsX8_does (wsV RX8 134 RX8 yX8_registers wsX8_registers) := goodIn_app (goodIn_of _ (by decide +kernel)) ggX8_does_X8_registers
set_option maxRecDepth 20000 in
theorem ggX8_does_X8_codes : GoodIn wsX8_does wsX8_codes := goodIn_r _ [62, 11, 7, 16, 17, 9, 48, 49, 4, 50, 63, 64, 65, 66, 67, 38, 68, 69, 70, 71, 72, 73, 30, 31, 32, 33, 8, 27, 28, 29, 74, 75, 76, 77, 78, 79, 80, 81, 82, 83, 84, 85, 86, 87, 88, 89, 90, 91, 92, 93, 94, 95, 96, 97, 98, 99, 100, 101, 129, 130, 131, 132, 133, 134, 135, 136, 137, 138, 139, 140, 141, 142, 143, 144, 145, 146, 147, 148, 149, 150, 151, 152, 153, 154, 155, 156, 157, 158, 159, 160, 161, 162, 163] (by decide +kernel) (by decide +kernel)
set_option maxRecDepth 20000 in
theorem gX8_does_X8_codes : GoodIn wsX8_does (wsV RX8 137 RX8 yX8_codes wsX8_codes) := goodIn_app (goodIn_of _ (by decide +kernel)) ggX8_does_X8_codes
set_option maxRecDepth 20000 in
theorem ggX8_does_X8_extended : GoodIn wsX8_does wsX8_extended := goodIn_r _ [105, 106, 107, 108, 109, 8, 38, 27, 28, 4, 29, 18, 19, 20, 21, 7, 11, 22, 12, 13, 14, 15, 16, 17, 110, 111, 112, 113, 114, 115, 10, 40, 41, 42, 43, 116, 117, 118, 119, 120, 121, 122, 123, 23, 24, 25, 26, 124, 125, 126, 127, 128, 129, 130, 131, 132, 133, 134, 135, 136, 137, 138, 139, 140, 141, 142, 143, 144, 145, 146, 147, 148, 149, 150, 151, 152, 153, 154, 155, 156, 157, 158, 159, 160, 161, 162, 163] (by decide +kernel) (by decide +kernel)
set_option maxRecDepth 20000 in
theorem gX8_does_X8_extended : GoodIn wsX8_does (wsV RX8 140 RX8 yX8_extended wsX8_extended) := goodIn_app (goodIn_of _ (by decide +kernel)) ggX8_does_X8_extended
theorem dX8_does_0 : decode cX8_does 0 = .ok (.iload_n 1, 1) := by decide +kernel
theorem dX8_does_1 : decode cX8_does 1 = .ok (.bipush 12, 2) := by decide +kernel
theorem dX8_does_3 : decode cX8_does 3 = .ok (.ishr, 1) := by decide +kernel
theorem dX8_does_4 : decode cX8_does 4 = .ok (.bipush 7, 2) := by decide +kernel
theorem dX8_does_6 : decode cX8_does 6 = .ok (.iand, 1) := by decide +kernel
theorem dX8_does_7 : decode cX8_does 7 = .ok (.ifCond .eq 12, 3) := by decide +kernel
theorem dX8_does_10 : decode cX8_does 10 = .ok (.aload_n 0, 1) := by decide +kernel
theorem dX8_does_11 : decode cX8_does 11 = .ok (.iload_n 1, 1) := by decide +kernel
theorem dX8_does_12 : decode cX8_does 12 = .ok (.iload_n 2, 1) := by decide +kernel
theorem dX8_does_13 : decode cX8_does 13 = .ok (.invokevirtual 131, 3) := by decide +kernel
theorem dX8_does_16 : decode cX8_does 16 = .ok (.goto 41, 3) := by decide +kernel
theorem dX8_does_19 : decode cX8_does 19 = .ok (.iload_n 1, 1) := by decide +kernel
theorem dX8_does_20 : decode cX8_does 20 = .ok (.bipush 15, 2) := by decide +kernel
theorem dX8_does_22 : decode cX8_does 22 = .ok (.ishr, 1) := by decide +kernel
theorem dX8_does_23 : decode cX8_does 23 = .ok (.ifCond .ne 11, 3) := by decide +kernel
theorem dX8_does_26 : decode cX8_does 26 = .ok (.aload_n 0, 1) := by decide +kernel
theorem dX8_does_27 : decode cX8_does 27 = .ok (.iload_n 1, 1) := by decide +kernel
theorem dX8_does_28 : decode cX8_does 28 = .ok (.invokevirtual 134, 3) := by decide +kernel
theorem dX8_does_31 : decode cX8_does 31 = .ok (.goto 26, 3) := by decide +kernel
theorem dX8_does_34 : decode cX8_does 34 = .ok (.iload_n 1, 1) := by decide +kernel
theorem dX8_does_35 : decode cX8_does 35 = .ok (.bipush 10, 2) := by decide +kernel
theorem dX8_does_37 : decode cX8_does 37 = .ok (.ishr, 1) := by decide +kernel
theorem dX8_does_38 : decode cX8_does 38 = .ok (.iconst 1, 1) := by decide +kernel
theorem dX8_does_39 : decode cX8_does 39 = .ok (.iand, 1) := by decide +kernel
theorem dX8_does_40 : decode cX8_does 40 = .ok (.iconst 1, 1) := by decide +kernel
theorem dX8_does_41 : decode cX8_does 41 = .ok (.if_icmp .ne 11, 3) := by decide +kernel
theorem dX8_does_44 : decode cX8_does 44 = .ok (.aload_n 0, 1) := by decide +kernel
theorem dX8_does_45 : decode cX8_does 45 = .ok (.iload_n 1, 1) := by decide +kernel
theorem dX8_does_46 : decode cX8_does 46 = .ok (.invokevirtual 137, 3) := by decide +kernel
theorem dX8_does_49 : decode cX8_does 49 = .ok (.goto 8, 3) := by decide +kernel
theorem dX8_does_52 : decode cX8_does 52 = .ok (.aload_n 0, 1) := by decide +kernel
theorem dX8_does_53 : decode cX8_does 53 = .ok (.iload_n 1, 1) := by decide +kernel
theorem dX8_does_54 : decode cX8_does 54 = .ok (.invokevirtual 140, 3) := by decide +kernel
theorem dX8_does_57 : decode cX8_does 57 = .ok (.return_, 1) := by decide +kernel
set_option maxRecDepth 20000 in
theorem ggX8_memoryWord_X8_direct : GoodIn wsX8_memoryWord wsX8_direct := goodIn_r _ [11, 12, 13, 14, 15, 16, 10, 17, 2, 6, 18, 40, 41, 42, 43, 44, 45, 46, 47, 48, 49, 50, 51, 52, 53, 54, 55, 56, 57, 58, 59, 60, 61, 62, 63, 64, 65, 66, 67, 68, 69, 70, 71, 72, 73, 74] (by decide +kernel) (by decide +kernel)
set_option maxRecDepth 20000 in
theorem gX8_memoryWord_X8_direct : GoodIn wsX8_memoryWord (wsV RX8 144 RX8 yX8_direct wsX8_direct) := goodIn_app (goodIn_of _ (by decide +kernel)) ggX8_memoryWord_X8_direct
set_option maxRecDepth 20000 in
theorem ggX8_memoryWord_X8_at : GoodIn wsX8_memoryWord wsX8_at := goodIn_r _ [17, 2, 6, 18, 40, 41, 42, 43, 44, 45, 46, 47, 48, 49, 50, 51, 52, 53, 54, 55, 56, 57, 58, 59, 60, 61, 62, 63, 64, 65, 66, 67, 68, 69, 70, 71, 72, 73, 74] (by decide +kernel) (by decide +kernel)
set_option maxRecDepth 20000 in
theorem gX8_memoryWord_X8_at : GoodIn wsX8_memoryWord (wsV RX8 95 RX8 yX8_at wsX8_at) := goodIn_app (goodIn_of _ (by decide +kernel)) ggX8_memoryWord_X8_at
set_option maxRecDepth 20000 in
theorem ggX8_memoryWord_X8_put : GoodIn wsX8_memoryWord wsX8_put := goodIn_r _ [22, 2, 6, 18, 40, 41, 42, 43, 44, 45, 46, 47, 48, 49, 50, 51, 52, 53, 54, 55, 56, 57, 58, 59, 60, 61, 62, 63, 64, 65, 66, 67, 68, 69, 70, 71, 72, 73, 74] (by decide +kernel) (by decide +kernel)
set_option maxRecDepth 20000 in
theorem gX8_memoryWord_X8_put : GoodIn wsX8_memoryWord (wsV RX8 98 RX8 yX8_put wsX8_put) := goodIn_app (goodIn_of _ (by decide +kernel)) ggX8_memoryWord_X8_put
set_option maxRecDepth 20000 in
theorem ggX8_memoryWord_X8_more : GoodIn wsX8_memoryWord wsX8_more := goodIn_r _ [25] (by decide +kernel) (by decide +kernel)
set_option maxRecDepth 20000 in
theorem gX8_memoryWord_X8_more : GoodIn wsX8_memoryWord (va_wsS RX8 87 yX8_more wsX8_more) := goodIn_app (goodIn_of _ (by decide +kernel)) ggX8_memoryWord_X8_more
set_option maxRecDepth 20000 in
theorem ggX8_memoryWord_X8_skip : GoodIn wsX8_memoryWord wsX8_skip := goodIn_r _ [29, 3, 23, 24, 10, 25, 40, 41, 42, 43, 44, 45, 46, 47, 48, 49, 50, 51, 52, 53, 54, 55, 56, 57, 58, 59, 60, 61, 62, 63, 64, 65, 66, 67, 68, 69, 70, 71, 72, 73, 74] (by decide +kernel) (by decide +kernel)
set_option maxRecDepth 20000 in
theorem gX8_memoryWord_X8_skip : GoodIn wsX8_memoryWord (wsV RX8 147 RX8 yX8_skip wsX8_skip) := goodIn_app (goodIn_of _ (by decide +kernel)) ggX8_memoryWord_X8_skip
set_option maxRecDepth 20000 in
theorem ggX8_memoryWord_X8_sum : GoodIn wsX8_memoryWord wsX8_sum := goodIn_r _ [33, 34, 5, 35, 36, 37, 10, 38, 39, 40, 41, 42, 43, 44, 45, 46, 47, 48, 49, 50, 51, 52, 53, 54, 55, 56, 57, 58, 59, 60, 61, 62, 63, 64, 65, 66, 67, 68, 69, 70, 71, 72, 73, 74] (by decide +kernel) (by decide +kernel)
set_option maxRecDepth 20000 in
theorem gX8_memoryWord_X8_sum : GoodIn wsX8_memoryWord (wsV RX8 151 RX8 yX8_sum wsX8_sum) := goodIn_app (goodIn_of _ (by decide +kernel)) ggX8_memoryWord_X8_sum
theorem dX8_memoryWord_0 : decode cX8_memoryWord 0 = .ok (.iload_n 1, 1) := by decide +kernel
theorem dX8_memoryWord_1 : decode cX8_memoryWord 1 = .ok (.sipush 1023, 3) := by decide +kernel
theorem dX8_memoryWord_4 : decode cX8_memoryWord 4 = .ok (.iand, 1) := by decide +kernel
theorem dX8_memoryWord_5 : decode cX8_memoryWord 5 = .ok (.istore_n 3, 1) := by decide +kernel
theorem dX8_memoryWord_6 : decode cX8_memoryWord 6 = .ok (.iload_n 1, 1) := by decide +kernel
theorem dX8_memoryWord_7 : decode cX8_memoryWord 7 = .ok (.bipush 10, 2) := by decide +kernel
theorem dX8_memoryWord_9 : decode cX8_memoryWord 9 = .ok (.ishr, 1) := by decide +kernel
theorem dX8_memoryWord_10 : decode cX8_memoryWord 10 = .ok (.iconst 1, 1) := by decide +kernel
theorem dX8_memoryWord_11 : decode cX8_memoryWord 11 = .ok (.iand, 1) := by decide +kernel
theorem dX8_memoryWord_12 : decode cX8_memoryWord 12 = .ok (.iconst 1, 1) := by decide +kernel
theorem dX8_memoryWord_13 : decode cX8_memoryWord 13 = .ok (.if_icmp .ne 7, 3) := by decide +kernel
theorem dX8_memoryWord_16 : decode cX8_memoryWord 16 = .ok (.iload_n 3, 1) := by decide +kernel
theorem dX8_memoryWord_17 : decode cX8_memoryWord 17 = .ok (.iload_n 2, 1) := by decide +kernel
theorem dX8_memoryWord_18 : decode cX8_memoryWord 18 = .ok (.ior, 1) := by decide +kernel
theorem dX8_memoryWord_19 : decode cX8_memoryWord 19 = .ok (.istore_n 3, 1) := by decide +kernel
theorem dX8_memoryWord_20 : decode cX8_memoryWord 20 = .ok (.iload_n 1, 1) := by decide +kernel
theorem dX8_memoryWord_21 : decode cX8_memoryWord 21 = .ok (.bipush 15, 2) := by decide +kernel
theorem dX8_memoryWord_23 : decode cX8_memoryWord 23 = .ok (.ishr, 1) := by decide +kernel
theorem dX8_memoryWord_24 : decode cX8_memoryWord 24 = .ok (.iconst 1, 1) := by decide +kernel
theorem dX8_memoryWord_25 : decode cX8_memoryWord 25 = .ok (.if_icmp .ne 7, 3) := by decide +kernel
theorem dX8_memoryWord_28 : decode cX8_memoryWord 28 = .ok (.iconst 1, 1) := by decide +kernel
theorem dX8_memoryWord_29 : decode cX8_memoryWord 29 = .ok (.goto 4, 3) := by decide +kernel
theorem dX8_memoryWord_32 : decode cX8_memoryWord 32 = .ok (.iconst 0, 1) := by decide +kernel
theorem dX8_memoryWord_33 : decode cX8_memoryWord 33 = .ok (.istore 4, 2) := by decide +kernel
theorem dX8_memoryWord_35 : decode cX8_memoryWord 35 = .ok (.iload 4, 2) := by decide +kernel
theorem dX8_memoryWord_37 : decode cX8_memoryWord 37 = .ok (.ifCond .eq 12, 3) := by decide +kernel
theorem dX8_memoryWord_40 : decode cX8_memoryWord 40 = .ok (.aload_n 0, 1) := by decide +kernel
theorem dX8_memoryWord_41 : decode cX8_memoryWord 41 = .ok (.iload_n 3, 1) := by decide +kernel
theorem dX8_memoryWord_42 : decode cX8_memoryWord 42 = .ok (.ldc 143, 2) := by decide +kernel
theorem dX8_memoryWord_44 : decode cX8_memoryWord 44 = .ok (.ior, 1) := by decide +kernel
theorem dX8_memoryWord_45 : decode cX8_memoryWord 45 = .ok (.invokevirtual 144, 3) := by decide +kernel
theorem dX8_memoryWord_48 : decode cX8_memoryWord 48 = .ok (.istore_n 3, 1) := by decide +kernel
theorem dX8_memoryWord_49 : decode cX8_memoryWord 49 = .ok (.iload_n 3, 1) := by decide +kernel
theorem dX8_memoryWord_50 : decode cX8_memoryWord 50 = .ok (.iconst (-1), 1) := by decide +kernel
theorem dX8_memoryWord_51 : decode cX8_memoryWord 51 = .ok (.if_icmp .ne 4, 3) := by decide +kernel
theorem dX8_memoryWord_54 : decode cX8_memoryWord 54 = .ok (.return_, 1) := by decide +kernel
theorem dX8_memoryWord_55 : decode cX8_memoryWord 55 = .ok (.iload_n 1, 1) := by decide +kernel
theorem dX8_memoryWord_56 : decode cX8_memoryWord 56 = .ok (.bipush 11, 2) := by decide +kernel
theorem dX8_memoryWord_58 : decode cX8_memoryWord 58 = .ok (.ishr, 1) := by decide +kernel
theorem dX8_memoryWord_59 : decode cX8_memoryWord 59 = .ok (.bipush 15, 2) := by decide +kernel
theorem dX8_memoryWord_61 : decode cX8_memoryWord 61 = .ok (.iand, 1) := by decide +kernel
theorem dX8_memoryWord_62 : decode cX8_memoryWord 62 = .ok (.istore 5, 2) := by decide +kernel
theorem dX8_memoryWord_64 : decode cX8_memoryWord 64 = .ok (.iload 5, 2) := by decide +kernel
theorem dX8_memoryWord_66 : decode cX8_memoryWord 66 = .ok (.tableswitch 317 2 14 #[66, 83, 109, 126, 140, 157, 193, 213, 233, 257, 281, 293, 305], 66) := by decide +kernel
theorem dX8_memoryWord_132 : decode cX8_memoryWord 132 = .ok (.aload_n 0, 1) := by decide +kernel
theorem dX8_memoryWord_133 : decode cX8_memoryWord 133 = .ok (.dup, 1) := by decide +kernel
theorem dX8_memoryWord_134 : decode cX8_memoryWord 134 = .ok (.getfield 78, 3) := by decide +kernel
theorem dX8_memoryWord_137 : decode cX8_memoryWord 137 = .ok (.aload_n 0, 1) := by decide +kernel
theorem dX8_memoryWord_138 : decode cX8_memoryWord 138 = .ok (.iload_n 3, 1) := by decide +kernel
theorem dX8_memoryWord_139 : decode cX8_memoryWord 139 = .ok (.invokevirtual 95, 3) := by decide +kernel
theorem dX8_memoryWord_142 : decode cX8_memoryWord 142 = .ok (.iand, 1) := by decide +kernel
theorem dX8_memoryWord_143 : decode cX8_memoryWord 143 = .ok (.putfield 78, 3) := by decide +kernel
theorem dX8_memoryWord_146 : decode cX8_memoryWord 146 = .ok (.goto 246, 3) := by decide +kernel
theorem dX8_memoryWord_149 : decode cX8_memoryWord 149 = .ok (.aload_n 0, 1) := by decide +kernel
theorem dX8_memoryWord_150 : decode cX8_memoryWord 150 = .ok (.iload_n 3, 1) := by decide +kernel
theorem dX8_memoryWord_151 : decode cX8_memoryWord 151 = .ok (.aload_n 0, 1) := by decide +kernel
theorem dX8_memoryWord_152 : decode cX8_memoryWord 152 = .ok (.getfield 84, 3) := by decide +kernel
theorem dX8_memoryWord_155 : decode cX8_memoryWord 155 = .ok (.invokevirtual 98, 3) := by decide +kernel
theorem dX8_memoryWord_158 : decode cX8_memoryWord 158 = .ok (.aload_n 0, 1) := by decide +kernel
theorem dX8_memoryWord_159 : decode cX8_memoryWord 159 = .ok (.iload_n 3, 1) := by decide +kernel
theorem dX8_memoryWord_160 : decode cX8_memoryWord 160 = .ok (.invokestatic 87, 3) := by decide +kernel
theorem dX8_memoryWord_163 : decode cX8_memoryWord 163 = .ok (.putfield 84, 3) := by decide +kernel
theorem dX8_memoryWord_166 : decode cX8_memoryWord 166 = .ok (.aload_n 0, 1) := by decide +kernel
theorem dX8_memoryWord_167 : decode cX8_memoryWord 167 = .ok (.iload 4, 2) := by decide +kernel
theorem dX8_memoryWord_169 : decode cX8_memoryWord 169 = .ok (.putfield 122, 3) := by decide +kernel
theorem dX8_memoryWord_172 : decode cX8_memoryWord 172 = .ok (.goto 220, 3) := by decide +kernel
theorem dX8_memoryWord_175 : decode cX8_memoryWord 175 = .ok (.aload_n 0, 1) := by decide +kernel
theorem dX8_memoryWord_176 : decode cX8_memoryWord 176 = .ok (.dup, 1) := by decide +kernel
theorem dX8_memoryWord_177 : decode cX8_memoryWord 177 = .ok (.getfield 78, 3) := by decide +kernel
theorem dX8_memoryWord_180 : decode cX8_memoryWord 180 = .ok (.aload_n 0, 1) := by decide +kernel
theorem dX8_memoryWord_181 : decode cX8_memoryWord 181 = .ok (.iload_n 3, 1) := by decide +kernel
theorem dX8_memoryWord_182 : decode cX8_memoryWord 182 = .ok (.invokevirtual 95, 3) := by decide +kernel
theorem dX8_memoryWord_185 : decode cX8_memoryWord 185 = .ok (.ixor, 1) := by decide +kernel
theorem dX8_memoryWord_186 : decode cX8_memoryWord 186 = .ok (.putfield 78, 3) := by decide +kernel
theorem dX8_memoryWord_189 : decode cX8_memoryWord 189 = .ok (.goto 203, 3) := by decide +kernel
theorem dX8_memoryWord_192 : decode cX8_memoryWord 192 = .ok (.aload_n 0, 1) := by decide +kernel
theorem dX8_memoryWord_193 : decode cX8_memoryWord 193 = .ok (.iload_n 3, 1) := by decide +kernel
theorem dX8_memoryWord_194 : decode cX8_memoryWord 194 = .ok (.putfield 84, 3) := by decide +kernel
theorem dX8_memoryWord_197 : decode cX8_memoryWord 197 = .ok (.aload_n 0, 1) := by decide +kernel
theorem dX8_memoryWord_198 : decode cX8_memoryWord 198 = .ok (.iload 4, 2) := by decide +kernel
theorem dX8_memoryWord_200 : decode cX8_memoryWord 200 = .ok (.putfield 122, 3) := by decide +kernel
theorem dX8_memoryWord_203 : decode cX8_memoryWord 203 = .ok (.goto 189, 3) := by decide +kernel
theorem dX8_memoryWord_206 : decode cX8_memoryWord 206 = .ok (.aload_n 0, 1) := by decide +kernel
theorem dX8_memoryWord_207 : decode cX8_memoryWord 207 = .ok (.dup, 1) := by decide +kernel
theorem dX8_memoryWord_208 : decode cX8_memoryWord 208 = .ok (.getfield 78, 3) := by decide +kernel
theorem dX8_memoryWord_211 : decode cX8_memoryWord 211 = .ok (.aload_n 0, 1) := by decide +kernel
theorem dX8_memoryWord_212 : decode cX8_memoryWord 212 = .ok (.iload_n 3, 1) := by decide +kernel
theorem dX8_memoryWord_213 : decode cX8_memoryWord 213 = .ok (.invokevirtual 95, 3) := by decide +kernel
theorem dX8_memoryWord_216 : decode cX8_memoryWord 216 = .ok (.ior, 1) := by decide +kernel
theorem dX8_memoryWord_217 : decode cX8_memoryWord 217 = .ok (.putfield 78, 3) := by decide +kernel
theorem dX8_memoryWord_220 : decode cX8_memoryWord 220 = .ok (.goto 172, 3) := by decide +kernel
theorem dX8_memoryWord_223 : decode cX8_memoryWord 223 = .ok (.aload_n 0, 1) := by decide +kernel
theorem dX8_memoryWord_224 : decode cX8_memoryWord 224 = .ok (.iload_n 3, 1) := by decide +kernel
theorem dX8_memoryWord_225 : decode cX8_memoryWord 225 = .ok (.invokevirtual 95, 3) := by decide +kernel
theorem dX8_memoryWord_228 : decode cX8_memoryWord 228 = .ok (.iconst 1, 1) := by decide +kernel
theorem dX8_memoryWord_229 : decode cX8_memoryWord 229 = .ok (.iadd, 1) := by decide +kernel
theorem dX8_memoryWord_230 : decode cX8_memoryWord 230 = .ok (.ldc 102, 2) := by decide +kernel
theorem dX8_memoryWord_232 : decode cX8_memoryWord 232 = .ok (.iand, 1) := by decide +kernel
theorem dX8_memoryWord_233 : decode cX8_memoryWord 233 = .ok (.istore 6, 2) := by decide +kernel
theorem dX8_memoryWord_235 : decode cX8_memoryWord 235 = .ok (.aload_n 0, 1) := by decide +kernel
theorem dX8_memoryWord_236 : decode cX8_memoryWord 236 = .ok (.iload_n 3, 1) := by decide +kernel
theorem dX8_memoryWord_237 : decode cX8_memoryWord 237 = .ok (.iload 6, 2) := by decide +kernel
theorem dX8_memoryWord_239 : decode cX8_memoryWord 239 = .ok (.invokevirtual 98, 3) := by decide +kernel
theorem dX8_memoryWord_242 : decode cX8_memoryWord 242 = .ok (.aload_n 0, 1) := by decide +kernel
theorem dX8_memoryWord_243 : decode cX8_memoryWord 243 = .ok (.iload 6, 2) := by decide +kernel
theorem dX8_memoryWord_245 : decode cX8_memoryWord 245 = .ok (.ifCond .ne 7, 3) := by decide +kernel
theorem dX8_memoryWord_248 : decode cX8_memoryWord 248 = .ok (.iconst 1, 1) := by decide +kernel
theorem dX8_memoryWord_249 : decode cX8_memoryWord 249 = .ok (.goto 4, 3) := by decide +kernel
theorem dX8_memoryWord_252 : decode cX8_memoryWord 252 = .ok (.iconst 0, 1) := by decide +kernel
theorem dX8_memoryWord_253 : decode cX8_memoryWord 253 = .ok (.invokevirtual 147, 3) := by decide +kernel
theorem dX8_memoryWord_256 : decode cX8_memoryWord 256 = .ok (.goto 136, 3) := by decide +kernel
theorem dX8_memoryWord_259 : decode cX8_memoryWord 259 = .ok (.aload_n 0, 1) := by decide +kernel
theorem dX8_memoryWord_260 : decode cX8_memoryWord 260 = .ok (.aload_n 0, 1) := by decide +kernel
theorem dX8_memoryWord_261 : decode cX8_memoryWord 261 = .ok (.aload_n 0, 1) := by decide +kernel
theorem dX8_memoryWord_262 : decode cX8_memoryWord 262 = .ok (.getfield 78, 3) := by decide +kernel
theorem dX8_memoryWord_265 : decode cX8_memoryWord 265 = .ok (.aload_n 0, 1) := by decide +kernel
theorem dX8_memoryWord_266 : decode cX8_memoryWord 266 = .ok (.iload_n 3, 1) := by decide +kernel
theorem dX8_memoryWord_267 : decode cX8_memoryWord 267 = .ok (.invokevirtual 95, 3) := by decide +kernel
theorem dX8_memoryWord_270 : decode cX8_memoryWord 270 = .ok (.invokevirtual 151, 3) := by decide +kernel
theorem dX8_memoryWord_273 : decode cX8_memoryWord 273 = .ok (.putfield 78, 3) := by decide +kernel
theorem dX8_memoryWord_276 : decode cX8_memoryWord 276 = .ok (.goto 116, 3) := by decide +kernel
theorem dX8_memoryWord_279 : decode cX8_memoryWord 279 = .ok (.aload_n 0, 1) := by decide +kernel
theorem dX8_memoryWord_280 : decode cX8_memoryWord 280 = .ok (.aload_n 0, 1) := by decide +kernel
theorem dX8_memoryWord_281 : decode cX8_memoryWord 281 = .ok (.aload_n 0, 1) := by decide +kernel
theorem dX8_memoryWord_282 : decode cX8_memoryWord 282 = .ok (.getfield 81, 3) := by decide +kernel
theorem dX8_memoryWord_285 : decode cX8_memoryWord 285 = .ok (.aload_n 0, 1) := by decide +kernel
theorem dX8_memoryWord_286 : decode cX8_memoryWord 286 = .ok (.iload_n 3, 1) := by decide +kernel
theorem dX8_memoryWord_287 : decode cX8_memoryWord 287 = .ok (.invokevirtual 95, 3) := by decide +kernel
theorem dX8_memoryWord_290 : decode cX8_memoryWord 290 = .ok (.invokevirtual 151, 3) := by decide +kernel
theorem dX8_memoryWord_293 : decode cX8_memoryWord 293 = .ok (.putfield 81, 3) := by decide +kernel
theorem dX8_memoryWord_296 : decode cX8_memoryWord 296 = .ok (.goto 96, 3) := by decide +kernel
theorem dX8_memoryWord_299 : decode cX8_memoryWord 299 = .ok (.aload_n 0, 1) := by decide +kernel
theorem dX8_memoryWord_300 : decode cX8_memoryWord 300 = .ok (.aload_n 0, 1) := by decide +kernel
theorem dX8_memoryWord_301 : decode cX8_memoryWord 301 = .ok (.getfield 78, 3) := by decide +kernel
theorem dX8_memoryWord_304 : decode cX8_memoryWord 304 = .ok (.aload_n 0, 1) := by decide +kernel
theorem dX8_memoryWord_305 : decode cX8_memoryWord 305 = .ok (.iload_n 3, 1) := by decide +kernel
theorem dX8_memoryWord_306 : decode cX8_memoryWord 306 = .ok (.invokevirtual 95, 3) := by decide +kernel
theorem dX8_memoryWord_309 : decode cX8_memoryWord 309 = .ok (.if_icmp .eq 7, 3) := by decide +kernel
theorem dX8_memoryWord_312 : decode cX8_memoryWord 312 = .ok (.iconst 1, 1) := by decide +kernel
theorem dX8_memoryWord_313 : decode cX8_memoryWord 313 = .ok (.goto 4, 3) := by decide +kernel
theorem dX8_memoryWord_316 : decode cX8_memoryWord 316 = .ok (.iconst 0, 1) := by decide +kernel
theorem dX8_memoryWord_317 : decode cX8_memoryWord 317 = .ok (.invokevirtual 147, 3) := by decide +kernel
theorem dX8_memoryWord_320 : decode cX8_memoryWord 320 = .ok (.goto 72, 3) := by decide +kernel
theorem dX8_memoryWord_323 : decode cX8_memoryWord 323 = .ok (.aload_n 0, 1) := by decide +kernel
theorem dX8_memoryWord_324 : decode cX8_memoryWord 324 = .ok (.aload_n 0, 1) := by decide +kernel
theorem dX8_memoryWord_325 : decode cX8_memoryWord 325 = .ok (.getfield 81, 3) := by decide +kernel
theorem dX8_memoryWord_328 : decode cX8_memoryWord 328 = .ok (.aload_n 0, 1) := by decide +kernel
theorem dX8_memoryWord_329 : decode cX8_memoryWord 329 = .ok (.iload_n 3, 1) := by decide +kernel
theorem dX8_memoryWord_330 : decode cX8_memoryWord 330 = .ok (.invokevirtual 95, 3) := by decide +kernel
theorem dX8_memoryWord_333 : decode cX8_memoryWord 333 = .ok (.if_icmp .eq 7, 3) := by decide +kernel
theorem dX8_memoryWord_336 : decode cX8_memoryWord 336 = .ok (.iconst 1, 1) := by decide +kernel
theorem dX8_memoryWord_337 : decode cX8_memoryWord 337 = .ok (.goto 4, 3) := by decide +kernel
theorem dX8_memoryWord_340 : decode cX8_memoryWord 340 = .ok (.iconst 0, 1) := by decide +kernel
theorem dX8_memoryWord_341 : decode cX8_memoryWord 341 = .ok (.invokevirtual 147, 3) := by decide +kernel
theorem dX8_memoryWord_344 : decode cX8_memoryWord 344 = .ok (.goto 48, 3) := by decide +kernel
theorem dX8_memoryWord_347 : decode cX8_memoryWord 347 = .ok (.aload_n 0, 1) := by decide +kernel
theorem dX8_memoryWord_348 : decode cX8_memoryWord 348 = .ok (.aload_n 0, 1) := by decide +kernel
theorem dX8_memoryWord_349 : decode cX8_memoryWord 349 = .ok (.iload_n 3, 1) := by decide +kernel
theorem dX8_memoryWord_350 : decode cX8_memoryWord 350 = .ok (.invokevirtual 95, 3) := by decide +kernel
theorem dX8_memoryWord_353 : decode cX8_memoryWord 353 = .ok (.putfield 78, 3) := by decide +kernel
theorem dX8_memoryWord_356 : decode cX8_memoryWord 356 = .ok (.goto 36, 3) := by decide +kernel
theorem dX8_memoryWord_359 : decode cX8_memoryWord 359 = .ok (.aload_n 0, 1) := by decide +kernel
theorem dX8_memoryWord_360 : decode cX8_memoryWord 360 = .ok (.aload_n 0, 1) := by decide +kernel
theorem dX8_memoryWord_361 : decode cX8_memoryWord 361 = .ok (.iload_n 3, 1) := by decide +kernel
theorem dX8_memoryWord_362 : decode cX8_memoryWord 362 = .ok (.invokevirtual 95, 3) := by decide +kernel
theorem dX8_memoryWord_365 : decode cX8_memoryWord 365 = .ok (.putfield 81, 3) := by decide +kernel
theorem dX8_memoryWord_368 : decode cX8_memoryWord 368 = .ok (.goto 24, 3) := by decide +kernel
theorem dX8_memoryWord_371 : decode cX8_memoryWord 371 = .ok (.aload_n 0, 1) := by decide +kernel
theorem dX8_memoryWord_372 : decode cX8_memoryWord 372 = .ok (.iload_n 3, 1) := by decide +kernel
theorem dX8_memoryWord_373 : decode cX8_memoryWord 373 = .ok (.aload_n 0, 1) := by decide +kernel
theorem dX8_memoryWord_374 : decode cX8_memoryWord 374 = .ok (.getfield 78, 3) := by decide +kernel
theorem dX8_memoryWord_377 : decode cX8_memoryWord 377 = .ok (.invokevirtual 98, 3) := by decide +kernel
theorem dX8_memoryWord_380 : decode cX8_memoryWord 380 = .ok (.goto 12, 3) := by decide +kernel
theorem dX8_memoryWord_383 : decode cX8_memoryWord 383 = .ok (.aload_n 0, 1) := by decide +kernel
theorem dX8_memoryWord_384 : decode cX8_memoryWord 384 = .ok (.iload_n 3, 1) := by decide +kernel
theorem dX8_memoryWord_385 : decode cX8_memoryWord 385 = .ok (.aload_n 0, 1) := by decide +kernel
theorem dX8_memoryWord_386 : decode cX8_memoryWord 386 = .ok (.getfield 81, 3) := by decide +kernel
theorem dX8_memoryWord_389 : decode cX8_memoryWord 389 = .ok (.invokevirtual 98, 3) := by decide +kernel
theorem dX8_memoryWord_392 : decode cX8_memoryWord 392 = .ok (.return_, 1) := by decide +kernel
theorem dX8_signed_0 : decode cX8_signed 0 = .ok (.iload_n 0, 1) := by decide +kernel
theorem dX8_signed_1 : decode cX8_signed 1 = .ok (.sipush 32767, 3) := by decide +kernel
theorem dX8_signed_4 : decode cX8_signed 4 = .ok (.if_icmp .le 10, 3) := by decide +kernel
theorem dX8_signed_7 : decode cX8_signed 7 = .ok (.iload_n 0, 1) := by decide +kernel
theorem dX8_signed_8 : decode cX8_signed 8 = .ok (.ldc 155, 2) := by decide +kernel
theorem dX8_signed_10 : decode cX8_signed 10 = .ok (.isub, 1) := by decide +kernel
theorem dX8_signed_11 : decode cX8_signed 11 = .ok (.goto 4, 3) := by decide +kernel
theorem dX8_signed_14 : decode cX8_signed 14 = .ok (.iload_n 0, 1) := by decide +kernel
theorem dX8_signed_15 : decode cX8_signed 15 = .ok (.ireturn, 1) := by decide +kernel
set_option maxRecDepth 20000 in
theorem ggX8_sum_X8_signed : GoodIn wsX8_sum wsX8_signed := goodIn_r _ [7, 8] (by decide +kernel) (by decide +kernel)
set_option maxRecDepth 20000 in
theorem gX8_sum_X8_signed : GoodIn wsX8_sum (va_wsS RX8 156 yX8_signed wsX8_signed) := goodIn_app (goodIn_of _ (by decide +kernel)) ggX8_sum_X8_signed
theorem dX8_sum_0 : decode cX8_sum 0 = .ok (.iload_n 1, 1) := by decide +kernel
theorem dX8_sum_1 : decode cX8_sum 1 = .ok (.invokestatic 156, 3) := by decide +kernel
theorem dX8_sum_4 : decode cX8_sum 4 = .ok (.iload_n 2, 1) := by decide +kernel
theorem dX8_sum_5 : decode cX8_sum 5 = .ok (.invokestatic 156, 3) := by decide +kernel
theorem dX8_sum_8 : decode cX8_sum 8 = .ok (.iadd, 1) := by decide +kernel
theorem dX8_sum_9 : decode cX8_sum 9 = .ok (.istore_n 3, 1) := by decide +kernel
theorem dX8_sum_10 : decode cX8_sum 10 = .ok (.iload_n 3, 1) := by decide +kernel
theorem dX8_sum_11 : decode cX8_sum 11 = .ok (.sipush (-32768), 3) := by decide +kernel
theorem dX8_sum_14 : decode cX8_sum 14 = .ok (.if_icmp .lt 10, 3) := by decide +kernel
theorem dX8_sum_17 : decode cX8_sum 17 = .ok (.iload_n 3, 1) := by decide +kernel
theorem dX8_sum_18 : decode cX8_sum 18 = .ok (.sipush 32767, 3) := by decide +kernel
theorem dX8_sum_21 : decode cX8_sum 21 = .ok (.if_icmp .le 8, 3) := by decide +kernel
theorem dX8_sum_24 : decode cX8_sum 24 = .ok (.aload_n 0, 1) := by decide +kernel
theorem dX8_sum_25 : decode cX8_sum 25 = .ok (.iconst 1, 1) := by decide +kernel
theorem dX8_sum_26 : decode cX8_sum 26 = .ok (.putfield 159, 3) := by decide +kernel
theorem dX8_sum_29 : decode cX8_sum 29 = .ok (.iload_n 1, 1) := by decide +kernel
theorem dX8_sum_30 : decode cX8_sum 30 = .ok (.iload_n 2, 1) := by decide +kernel
theorem dX8_sum_31 : decode cX8_sum 31 = .ok (.iadd, 1) := by decide +kernel
theorem dX8_sum_32 : decode cX8_sum 32 = .ok (.ldc 102, 2) := by decide +kernel
theorem dX8_sum_34 : decode cX8_sum 34 = .ok (.if_icmp .le 8, 3) := by decide +kernel
theorem dX8_sum_37 : decode cX8_sum 37 = .ok (.aload_n 0, 1) := by decide +kernel
theorem dX8_sum_38 : decode cX8_sum 38 = .ok (.iconst 1, 1) := by decide +kernel
theorem dX8_sum_39 : decode cX8_sum 39 = .ok (.putfield 162, 3) := by decide +kernel
theorem dX8_sum_42 : decode cX8_sum 42 = .ok (.iload_n 1, 1) := by decide +kernel
theorem dX8_sum_43 : decode cX8_sum 43 = .ok (.iload_n 2, 1) := by decide +kernel
theorem dX8_sum_44 : decode cX8_sum 44 = .ok (.iadd, 1) := by decide +kernel
theorem dX8_sum_45 : decode cX8_sum 45 = .ok (.ldc 102, 2) := by decide +kernel
theorem dX8_sum_47 : decode cX8_sum 47 = .ok (.iand, 1) := by decide +kernel
theorem dX8_sum_48 : decode cX8_sum 48 = .ok (.ireturn, 1) := by decide +kernel
theorem dX8_shifted_0 : decode cX8_shifted 0 = .ok (.iload_n 2, 1) := by decide +kernel
theorem dX8_shifted_1 : decode cX8_shifted 1 = .ok (.tableswitch 139 0 6 #[43, 56, 65, 77, 88, 96, 117], 43) := by decide +kernel
theorem dX8_shifted_44 : decode cX8_shifted 44 = .ok (.iload_n 1, 1) := by decide +kernel
theorem dX8_shifted_45 : decode cX8_shifted 45 = .ok (.ldc 143, 2) := by decide +kernel
theorem dX8_shifted_47 : decode cX8_shifted 47 = .ok (.iand, 1) := by decide +kernel
theorem dX8_shifted_48 : decode cX8_shifted 48 = .ok (.iload_n 1, 1) := by decide +kernel
theorem dX8_shifted_49 : decode cX8_shifted 49 = .ok (.iconst 1, 1) := by decide +kernel
theorem dX8_shifted_50 : decode cX8_shifted 50 = .ok (.ishl, 1) := by decide +kernel
theorem dX8_shifted_51 : decode cX8_shifted 51 = .ok (.sipush 32767, 3) := by decide +kernel
theorem dX8_shifted_54 : decode cX8_shifted 54 = .ok (.iand, 1) := by decide +kernel
theorem dX8_shifted_55 : decode cX8_shifted 55 = .ok (.ior, 1) := by decide +kernel
theorem dX8_shifted_56 : decode cX8_shifted 56 = .ok (.ireturn, 1) := by decide +kernel
theorem dX8_shifted_57 : decode cX8_shifted 57 = .ok (.iload_n 1, 1) := by decide +kernel
theorem dX8_shifted_58 : decode cX8_shifted 58 = .ok (.ldc 143, 2) := by decide +kernel
theorem dX8_shifted_60 : decode cX8_shifted 60 = .ok (.iand, 1) := by decide +kernel
theorem dX8_shifted_61 : decode cX8_shifted 61 = .ok (.iload_n 1, 1) := by decide +kernel
theorem dX8_shifted_62 : decode cX8_shifted 62 = .ok (.iconst 1, 1) := by decide +kernel
theorem dX8_shifted_63 : decode cX8_shifted 63 = .ok (.ishr, 1) := by decide +kernel
theorem dX8_shifted_64 : decode cX8_shifted 64 = .ok (.ior, 1) := by decide +kernel
theorem dX8_shifted_65 : decode cX8_shifted 65 = .ok (.ireturn, 1) := by decide +kernel
theorem dX8_shifted_66 : decode cX8_shifted 66 = .ok (.iload_n 1, 1) := by decide +kernel
theorem dX8_shifted_67 : decode cX8_shifted 67 = .ok (.iconst 1, 1) := by decide +kernel
theorem dX8_shifted_68 : decode cX8_shifted 68 = .ok (.ishl, 1) := by decide +kernel
theorem dX8_shifted_69 : decode cX8_shifted 69 = .ok (.ldc 102, 2) := by decide +kernel
theorem dX8_shifted_71 : decode cX8_shifted 71 = .ok (.iand, 1) := by decide +kernel
theorem dX8_shifted_72 : decode cX8_shifted 72 = .ok (.iload_n 1, 1) := by decide +kernel
theorem dX8_shifted_73 : decode cX8_shifted 73 = .ok (.bipush 15, 2) := by decide +kernel
theorem dX8_shifted_75 : decode cX8_shifted 75 = .ok (.ishr, 1) := by decide +kernel
theorem dX8_shifted_76 : decode cX8_shifted 76 = .ok (.ior, 1) := by decide +kernel
theorem dX8_shifted_77 : decode cX8_shifted 77 = .ok (.ireturn, 1) := by decide +kernel
theorem dX8_shifted_78 : decode cX8_shifted 78 = .ok (.iload_n 1, 1) := by decide +kernel
theorem dX8_shifted_79 : decode cX8_shifted 79 = .ok (.iconst 1, 1) := by decide +kernel
theorem dX8_shifted_80 : decode cX8_shifted 80 = .ok (.ishr, 1) := by decide +kernel
theorem dX8_shifted_81 : decode cX8_shifted 81 = .ok (.iload_n 1, 1) := by decide +kernel
theorem dX8_shifted_82 : decode cX8_shifted 82 = .ok (.iconst 1, 1) := by decide +kernel
theorem dX8_shifted_83 : decode cX8_shifted 83 = .ok (.iand, 1) := by decide +kernel
theorem dX8_shifted_84 : decode cX8_shifted 84 = .ok (.bipush 15, 2) := by decide +kernel
theorem dX8_shifted_86 : decode cX8_shifted 86 = .ok (.ishl, 1) := by decide +kernel
theorem dX8_shifted_87 : decode cX8_shifted 87 = .ok (.ior, 1) := by decide +kernel
theorem dX8_shifted_88 : decode cX8_shifted 88 = .ok (.ireturn, 1) := by decide +kernel
theorem dX8_shifted_89 : decode cX8_shifted 89 = .ok (.iload_n 1, 1) := by decide +kernel
theorem dX8_shifted_90 : decode cX8_shifted 90 = .ok (.iconst 1, 1) := by decide +kernel
theorem dX8_shifted_91 : decode cX8_shifted 91 = .ok (.ishl, 1) := by decide +kernel
theorem dX8_shifted_92 : decode cX8_shifted 92 = .ok (.sipush 32767, 3) := by decide +kernel
theorem dX8_shifted_95 : decode cX8_shifted 95 = .ok (.iand, 1) := by decide +kernel
theorem dX8_shifted_96 : decode cX8_shifted 96 = .ok (.ireturn, 1) := by decide +kernel
theorem dX8_shifted_97 : decode cX8_shifted 97 = .ok (.iload_n 1, 1) := by decide +kernel
theorem dX8_shifted_98 : decode cX8_shifted 98 = .ok (.iconst 1, 1) := by decide +kernel
theorem dX8_shifted_99 : decode cX8_shifted 99 = .ok (.ishr, 1) := by decide +kernel
theorem dX8_shifted_100 : decode cX8_shifted 100 = .ok (.aload_n 0, 1) := by decide +kernel
theorem dX8_shifted_101 : decode cX8_shifted 101 = .ok (.getfield 162, 3) := by decide +kernel
theorem dX8_shifted_104 : decode cX8_shifted 104 = .ok (.bipush 15, 2) := by decide +kernel
theorem dX8_shifted_106 : decode cX8_shifted 106 = .ok (.ishl, 1) := by decide +kernel
theorem dX8_shifted_107 : decode cX8_shifted 107 = .ok (.ior, 1) := by decide +kernel
theorem dX8_shifted_108 : decode cX8_shifted 108 = .ok (.istore_n 3, 1) := by decide +kernel
theorem dX8_shifted_109 : decode cX8_shifted 109 = .ok (.aload_n 0, 1) := by decide +kernel
theorem dX8_shifted_110 : decode cX8_shifted 110 = .ok (.iload_n 1, 1) := by decide +kernel
theorem dX8_shifted_111 : decode cX8_shifted 111 = .ok (.iconst 1, 1) := by decide +kernel
theorem dX8_shifted_112 : decode cX8_shifted 112 = .ok (.iand, 1) := by decide +kernel
theorem dX8_shifted_113 : decode cX8_shifted 113 = .ok (.putfield 162, 3) := by decide +kernel
theorem dX8_shifted_116 : decode cX8_shifted 116 = .ok (.iload_n 3, 1) := by decide +kernel
theorem dX8_shifted_117 : decode cX8_shifted 117 = .ok (.ireturn, 1) := by decide +kernel
theorem dX8_shifted_118 : decode cX8_shifted 118 = .ok (.iload_n 1, 1) := by decide +kernel
theorem dX8_shifted_119 : decode cX8_shifted 119 = .ok (.iconst 1, 1) := by decide +kernel
theorem dX8_shifted_120 : decode cX8_shifted 120 = .ok (.ishl, 1) := by decide +kernel
theorem dX8_shifted_121 : decode cX8_shifted 121 = .ok (.ldc 102, 2) := by decide +kernel
theorem dX8_shifted_123 : decode cX8_shifted 123 = .ok (.iand, 1) := by decide +kernel
theorem dX8_shifted_124 : decode cX8_shifted 124 = .ok (.aload_n 0, 1) := by decide +kernel
theorem dX8_shifted_125 : decode cX8_shifted 125 = .ok (.getfield 162, 3) := by decide +kernel
theorem dX8_shifted_128 : decode cX8_shifted 128 = .ok (.ior, 1) := by decide +kernel
theorem dX8_shifted_129 : decode cX8_shifted 129 = .ok (.istore_n 3, 1) := by decide +kernel
theorem dX8_shifted_130 : decode cX8_shifted 130 = .ok (.aload_n 0, 1) := by decide +kernel
theorem dX8_shifted_131 : decode cX8_shifted 131 = .ok (.iload_n 1, 1) := by decide +kernel
theorem dX8_shifted_132 : decode cX8_shifted 132 = .ok (.bipush 15, 2) := by decide +kernel
theorem dX8_shifted_134 : decode cX8_shifted 134 = .ok (.ishr, 1) := by decide +kernel
theorem dX8_shifted_135 : decode cX8_shifted 135 = .ok (.putfield 162, 3) := by decide +kernel
theorem dX8_shifted_138 : decode cX8_shifted 138 = .ok (.iload_n 3, 1) := by decide +kernel
theorem dX8_shifted_139 : decode cX8_shifted 139 = .ok (.ireturn, 1) := by decide +kernel
theorem dX8_shifted_140 : decode cX8_shifted 140 = .ok (.iload_n 1, 1) := by decide +kernel
theorem dX8_shifted_141 : decode cX8_shifted 141 = .ok (.iconst 4, 1) := by decide +kernel
theorem dX8_shifted_142 : decode cX8_shifted 142 = .ok (.ishl, 1) := by decide +kernel
theorem dX8_shifted_143 : decode cX8_shifted 143 = .ok (.ldc 102, 2) := by decide +kernel
theorem dX8_shifted_145 : decode cX8_shifted 145 = .ok (.iand, 1) := by decide +kernel
theorem dX8_shifted_146 : decode cX8_shifted 146 = .ok (.iload_n 1, 1) := by decide +kernel
theorem dX8_shifted_147 : decode cX8_shifted 147 = .ok (.bipush 12, 2) := by decide +kernel
theorem dX8_shifted_149 : decode cX8_shifted 149 = .ok (.ishr, 1) := by decide +kernel
theorem dX8_shifted_150 : decode cX8_shifted 150 = .ok (.ior, 1) := by decide +kernel
theorem dX8_shifted_151 : decode cX8_shifted 151 = .ok (.ireturn, 1) := by decide +kernel
theorem dX8_is_0 : decode cX8_is 0 = .ok (.iload_n 0, 1) := by decide +kernel
theorem dX8_is_1 : decode cX8_is 1 = .ok (.iload_n 1, 1) := by decide +kernel
theorem dX8_is_2 : decode cX8_is 2 = .ok (.ishr, 1) := by decide +kernel
theorem dX8_is_3 : decode cX8_is 3 = .ok (.iconst 1, 1) := by decide +kernel
theorem dX8_is_4 : decode cX8_is 4 = .ok (.iand, 1) := by decide +kernel
theorem dX8_is_5 : decode cX8_is 5 = .ok (.iconst 1, 1) := by decide +kernel
theorem dX8_is_6 : decode cX8_is 6 = .ok (.if_icmp .ne 7, 3) := by decide +kernel
theorem dX8_is_9 : decode cX8_is 9 = .ok (.iconst 1, 1) := by decide +kernel
theorem dX8_is_10 : decode cX8_is 10 = .ok (.goto 4, 3) := by decide +kernel
theorem dX8_is_13 : decode cX8_is 13 = .ok (.iconst 0, 1) := by decide +kernel
theorem dX8_is_14 : decode cX8_is 14 = .ok (.ireturn, 1) := by decide +kernel
set_option maxRecDepth 20000 in
theorem ggX8_registers_X8_is : GoodIn wsX8_registers wsX8_is := goodIn_r _ [7] (by decide +kernel) (by decide +kernel)
set_option maxRecDepth 20000 in
theorem gX8_registers_X8_is : GoodIn wsX8_registers (va_wsS RX8 165 yX8_is wsX8_is) := goodIn_app (goodIn_of _ (by decide +kernel)) ggX8_registers_X8_is
set_option maxRecDepth 20000 in
theorem ggX8_registers_X8_altered : GoodIn wsX8_registers wsX8_altered := goodIn_r _ [11, 12, 3, 13, 4, 5, 6, 7, 14, 15, 16, 17, 18, 19, 20, 21, 27, 28, 29, 30, 31, 32, 33, 34, 35, 36, 37, 38, 39, 40, 41, 42, 43, 44, 45, 46, 47, 48, 49, 50, 51, 52, 53, 54, 55, 56, 57, 58, 59, 60, 61] (by decide +kernel) (by decide +kernel)
set_option maxRecDepth 20000 in
theorem gX8_registers_X8_altered : GoodIn wsX8_registers (wsV RX8 169 RX8 yX8_altered wsX8_altered) := goodIn_app (goodIn_of _ (by decide +kernel)) ggX8_registers_X8_altered
set_option maxRecDepth 20000 in
theorem ggX8_registers_X8_shifted : GoodIn wsX8_registers wsX8_shifted := goodIn_r _ [25, 26, 12, 3, 27, 28, 29, 30, 31, 32, 33, 34, 35, 36, 37, 38, 39, 40, 41, 42, 43, 44, 45, 46, 47, 48, 49, 50, 51, 52, 53, 54, 55, 56, 57, 58, 59, 60, 61] (by decide +kernel) (by decide +kernel)
set_option maxRecDepth 20000 in
theorem gX8_registers_X8_shifted : GoodIn wsX8_registers (wsV RX8 172 RX8 yX8_shifted wsX8_shifted) := goodIn_app (goodIn_of _ (by decide +kernel)) ggX8_registers_X8_shifted
set_option maxRecDepth 20000 in
theorem ggX8_registers_X8_skip : GoodIn wsX8_registers wsX8_skip := goodIn_r _ [17, 18, 19, 20, 6, 21, 27, 28, 29, 30, 31, 32, 33, 34, 35, 36, 37, 38, 39, 40, 41, 42, 43, 44, 45, 46, 47, 48, 49, 50, 51, 52, 53, 54, 55, 56, 57, 58, 59, 60, 61] (by decide +kernel) (by decide +kernel)
set_option maxRecDepth 20000 in
theorem gX8_registers_X8_skip : GoodIn wsX8_registers (wsV RX8 147 RX8 yX8_skip wsX8_skip) := goodIn_app (goodIn_of _ (by decide +kernel)) ggX8_registers_X8_skip
theorem dX8_registers_0 : decode cX8_registers 0 = .ok (.iload_n 1, 1) := by decide +kernel
theorem dX8_registers_1 : decode cX8_registers 1 = .ok (.bipush 11, 2) := by decide +kernel
theorem dX8_registers_3 : decode cX8_registers 3 = .ok (.invokestatic 165, 3) := by decide +kernel
theorem dX8_registers_6 : decode cX8_registers 6 = .ok (.istore_n 2, 1) := by decide +kernel
theorem dX8_registers_7 : decode cX8_registers 7 = .ok (.iload_n 2, 1) := by decide +kernel
theorem dX8_registers_8 : decode cX8_registers 8 = .ok (.ifCond .eq 10, 3) := by decide +kernel
theorem dX8_registers_11 : decode cX8_registers 11 = .ok (.aload_n 0, 1) := by decide +kernel
theorem dX8_registers_12 : decode cX8_registers 12 = .ok (.getfield 81, 3) := by decide +kernel
theorem dX8_registers_15 : decode cX8_registers 15 = .ok (.goto 7, 3) := by decide +kernel
theorem dX8_registers_18 : decode cX8_registers 18 = .ok (.aload_n 0, 1) := by decide +kernel
theorem dX8_registers_19 : decode cX8_registers 19 = .ok (.getfield 78, 3) := by decide +kernel
theorem dX8_registers_22 : decode cX8_registers 22 = .ok (.istore_n 3, 1) := by decide +kernel
theorem dX8_registers_23 : decode cX8_registers 23 = .ok (.iload_n 1, 1) := by decide +kernel
theorem dX8_registers_24 : decode cX8_registers 24 = .ok (.bipush 10, 2) := by decide +kernel
theorem dX8_registers_26 : decode cX8_registers 26 = .ok (.invokestatic 165, 3) := by decide +kernel
theorem dX8_registers_29 : decode cX8_registers 29 = .ok (.ifCond .eq 13, 3) := by decide +kernel
theorem dX8_registers_32 : decode cX8_registers 32 = .ok (.aload_n 0, 1) := by decide +kernel
theorem dX8_registers_33 : decode cX8_registers 33 = .ok (.iload_n 1, 1) := by decide +kernel
theorem dX8_registers_34 : decode cX8_registers 34 = .ok (.iload_n 3, 1) := by decide +kernel
theorem dX8_registers_35 : decode cX8_registers 35 = .ok (.invokevirtual 169, 3) := by decide +kernel
theorem dX8_registers_38 : decode cX8_registers 38 = .ok (.istore_n 3, 1) := by decide +kernel
theorem dX8_registers_39 : decode cX8_registers 39 = .ok (.goto 79, 3) := by decide +kernel
theorem dX8_registers_42 : decode cX8_registers 42 = .ok (.iload_n 1, 1) := by decide +kernel
theorem dX8_registers_43 : decode cX8_registers 43 = .ok (.bipush 9, 2) := by decide +kernel
theorem dX8_registers_45 : decode cX8_registers 45 = .ok (.invokestatic 165, 3) := by decide +kernel
theorem dX8_registers_48 : decode cX8_registers 48 = .ok (.ifCond .eq 16, 3) := by decide +kernel
theorem dX8_registers_51 : decode cX8_registers 51 = .ok (.aload_n 0, 1) := by decide +kernel
theorem dX8_registers_52 : decode cX8_registers 52 = .ok (.iload_n 3, 1) := by decide +kernel
theorem dX8_registers_53 : decode cX8_registers 53 = .ok (.iload_n 1, 1) := by decide +kernel
theorem dX8_registers_54 : decode cX8_registers 54 = .ok (.bipush 6, 2) := by decide +kernel
theorem dX8_registers_56 : decode cX8_registers 56 = .ok (.ishr, 1) := by decide +kernel
theorem dX8_registers_57 : decode cX8_registers 57 = .ok (.bipush 7, 2) := by decide +kernel
theorem dX8_registers_59 : decode cX8_registers 59 = .ok (.iand, 1) := by decide +kernel
theorem dX8_registers_60 : decode cX8_registers 60 = .ok (.invokevirtual 172, 3) := by decide +kernel
theorem dX8_registers_63 : decode cX8_registers 63 = .ok (.istore_n 3, 1) := by decide +kernel
theorem dX8_registers_64 : decode cX8_registers 64 = .ok (.iload_n 1, 1) := by decide +kernel
theorem dX8_registers_65 : decode cX8_registers 65 = .ok (.iconst 5, 1) := by decide +kernel
theorem dX8_registers_66 : decode cX8_registers 66 = .ok (.invokestatic 165, 3) := by decide +kernel
theorem dX8_registers_69 : decode cX8_registers 69 = .ok (.ifCond .eq 8, 3) := by decide +kernel
theorem dX8_registers_72 : decode cX8_registers 72 = .ok (.aload_n 0, 1) := by decide +kernel
theorem dX8_registers_73 : decode cX8_registers 73 = .ok (.iconst 0, 1) := by decide +kernel
theorem dX8_registers_74 : decode cX8_registers 74 = .ok (.putfield 162, 3) := by decide +kernel
theorem dX8_registers_77 : decode cX8_registers 77 = .ok (.aload_n 0, 1) := by decide +kernel
theorem dX8_registers_78 : decode cX8_registers 78 = .ok (.iload_n 1, 1) := by decide +kernel
theorem dX8_registers_79 : decode cX8_registers 79 = .ok (.iconst 3, 1) := by decide +kernel
theorem dX8_registers_80 : decode cX8_registers 80 = .ok (.invokestatic 165, 3) := by decide +kernel
theorem dX8_registers_83 : decode cX8_registers 83 = .ok (.ifCond .eq 13, 3) := by decide +kernel
theorem dX8_registers_86 : decode cX8_registers 86 = .ok (.iload_n 3, 1) := by decide +kernel
theorem dX8_registers_87 : decode cX8_registers 87 = .ok (.iconst 1, 1) := by decide +kernel
theorem dX8_registers_88 : decode cX8_registers 88 = .ok (.iand, 1) := by decide +kernel
theorem dX8_registers_89 : decode cX8_registers 89 = .ok (.ifCond .ne 7, 3) := by decide +kernel
theorem dX8_registers_92 : decode cX8_registers 92 = .ok (.iconst 1, 1) := by decide +kernel
theorem dX8_registers_93 : decode cX8_registers 93 = .ok (.goto 4, 3) := by decide +kernel
theorem dX8_registers_96 : decode cX8_registers 96 = .ok (.iconst 0, 1) := by decide +kernel
theorem dX8_registers_97 : decode cX8_registers 97 = .ok (.invokevirtual 147, 3) := by decide +kernel
theorem dX8_registers_100 : decode cX8_registers 100 = .ok (.iload_n 1, 1) := by decide +kernel
theorem dX8_registers_101 : decode cX8_registers 101 = .ok (.iconst 4, 1) := by decide +kernel
theorem dX8_registers_102 : decode cX8_registers 102 = .ok (.invokestatic 165, 3) := by decide +kernel
theorem dX8_registers_105 : decode cX8_registers 105 = .ok (.ifCond .eq 13, 3) := by decide +kernel
theorem dX8_registers_108 : decode cX8_registers 108 = .ok (.aload_n 0, 1) := by decide +kernel
theorem dX8_registers_109 : decode cX8_registers 109 = .ok (.iload_n 3, 1) := by decide +kernel
theorem dX8_registers_110 : decode cX8_registers 110 = .ok (.iload_n 1, 1) := by decide +kernel
theorem dX8_registers_111 : decode cX8_registers 111 = .ok (.bipush 7, 2) := by decide +kernel
theorem dX8_registers_113 : decode cX8_registers 113 = .ok (.iand, 1) := by decide +kernel
theorem dX8_registers_114 : decode cX8_registers 114 = .ok (.invokevirtual 172, 3) := by decide +kernel
theorem dX8_registers_117 : decode cX8_registers 117 = .ok (.istore_n 3, 1) := by decide +kernel
theorem dX8_registers_118 : decode cX8_registers 118 = .ok (.iload_n 2, 1) := by decide +kernel
theorem dX8_registers_119 : decode cX8_registers 119 = .ok (.ifCond .eq 11, 3) := by decide +kernel
theorem dX8_registers_122 : decode cX8_registers 122 = .ok (.aload_n 0, 1) := by decide +kernel
theorem dX8_registers_123 : decode cX8_registers 123 = .ok (.iload_n 3, 1) := by decide +kernel
theorem dX8_registers_124 : decode cX8_registers 124 = .ok (.putfield 81, 3) := by decide +kernel
theorem dX8_registers_127 : decode cX8_registers 127 = .ok (.goto 8, 3) := by decide +kernel
theorem dX8_registers_130 : decode cX8_registers 130 = .ok (.aload_n 0, 1) := by decide +kernel
theorem dX8_registers_131 : decode cX8_registers 131 = .ok (.iload_n 3, 1) := by decide +kernel
theorem dX8_registers_132 : decode cX8_registers 132 = .ok (.putfield 78, 3) := by decide +kernel
theorem dX8_registers_135 : decode cX8_registers 135 = .ok (.return_, 1) := by decide +kernel
set_option maxRecDepth 20000 in
theorem ggX8_altered_X8_is : GoodIn wsX8_altered wsX8_is := goodIn_r _ [7] (by decide +kernel) (by decide +kernel)
set_option maxRecDepth 20000 in
theorem gX8_altered_X8_is : GoodIn wsX8_altered (va_wsS RX8 165 yX8_is wsX8_is) := goodIn_app (goodIn_of _ (by decide +kernel)) ggX8_altered_X8_is
set_option maxRecDepth 20000 in
theorem ggX8_altered_X8_skip : GoodIn wsX8_altered wsX8_skip := goodIn_r _ [11, 12, 13, 14, 6, 15, 16, 17, 18, 19, 20, 21, 22, 23, 24, 25, 26, 27, 28, 29, 30, 31, 32, 33, 34, 35, 36, 37, 38, 39, 40, 41, 42, 43, 44, 45, 46, 47, 48, 49, 50] (by decide +kernel) (by decide +kernel)
set_option maxRecDepth 20000 in
theorem gX8_altered_X8_skip : GoodIn wsX8_altered (wsV RX8 147 RX8 yX8_skip wsX8_skip) := goodIn_app (goodIn_of _ (by decide +kernel)) ggX8_altered_X8_skip
theorem dX8_altered_0 : decode cX8_altered 0 = .ok (.iload_n 2, 1) := by decide +kernel
theorem dX8_altered_1 : decode cX8_altered 1 = .ok (.istore_n 3, 1) := by decide +kernel
theorem dX8_altered_2 : decode cX8_altered 2 = .ok (.iload_n 1, 1) := by decide +kernel
theorem dX8_altered_3 : decode cX8_altered 3 = .ok (.bipush 8, 2) := by decide +kernel
theorem dX8_altered_5 : decode cX8_altered 5 = .ok (.ishr, 1) := by decide +kernel
theorem dX8_altered_6 : decode cX8_altered 6 = .ok (.iconst 3, 1) := by decide +kernel
theorem dX8_altered_7 : decode cX8_altered 7 = .ok (.iand, 1) := by decide +kernel
theorem dX8_altered_8 : decode cX8_altered 8 = .ok (.istore 4, 2) := by decide +kernel
theorem dX8_altered_10 : decode cX8_altered 10 = .ok (.iload 4, 2) := by decide +kernel
theorem dX8_altered_12 : decode cX8_altered 12 = .ok (.iconst 1, 1) := by decide +kernel
theorem dX8_altered_13 : decode cX8_altered 13 = .ok (.if_icmp .eq 9, 3) := by decide +kernel
theorem dX8_altered_16 : decode cX8_altered 16 = .ok (.iload 4, 2) := by decide +kernel
theorem dX8_altered_18 : decode cX8_altered 18 = .ok (.iconst 3, 1) := by decide +kernel
theorem dX8_altered_19 : decode cX8_altered 19 = .ok (.if_icmp .ne 5, 3) := by decide +kernel
theorem dX8_altered_22 : decode cX8_altered 22 = .ok (.iconst 0, 1) := by decide +kernel
theorem dX8_altered_23 : decode cX8_altered 23 = .ok (.istore_n 3, 1) := by decide +kernel
theorem dX8_altered_24 : decode cX8_altered 24 = .ok (.iload 4, 2) := by decide +kernel
theorem dX8_altered_26 : decode cX8_altered 26 = .ok (.iconst 1, 1) := by decide +kernel
theorem dX8_altered_27 : decode cX8_altered 27 = .ok (.if_icmp .le 10, 3) := by decide +kernel
theorem dX8_altered_30 : decode cX8_altered 30 = .ok (.iload_n 3, 1) := by decide +kernel
theorem dX8_altered_31 : decode cX8_altered 31 = .ok (.iconst (-1), 1) := by decide +kernel
theorem dX8_altered_32 : decode cX8_altered 32 = .ok (.ixor, 1) := by decide +kernel
theorem dX8_altered_33 : decode cX8_altered 33 = .ok (.ldc 102, 2) := by decide +kernel
theorem dX8_altered_35 : decode cX8_altered 35 = .ok (.iand, 1) := by decide +kernel
theorem dX8_altered_36 : decode cX8_altered 36 = .ok (.istore_n 3, 1) := by decide +kernel
theorem dX8_altered_37 : decode cX8_altered 37 = .ok (.iload_n 1, 1) := by decide +kernel
theorem dX8_altered_38 : decode cX8_altered 38 = .ok (.iconst 5, 1) := by decide +kernel
theorem dX8_altered_39 : decode cX8_altered 39 = .ok (.invokestatic 165, 3) := by decide +kernel
theorem dX8_altered_42 : decode cX8_altered 42 = .ok (.ifCond .eq 14, 3) := by decide +kernel
theorem dX8_altered_45 : decode cX8_altered 45 = .ok (.aload_n 0, 1) := by decide +kernel
theorem dX8_altered_46 : decode cX8_altered 46 = .ok (.getfield 162, 3) := by decide +kernel
theorem dX8_altered_49 : decode cX8_altered 49 = .ok (.ifCond .ne 7, 3) := by decide +kernel
theorem dX8_altered_52 : decode cX8_altered 52 = .ok (.iconst 1, 1) := by decide +kernel
theorem dX8_altered_53 : decode cX8_altered 53 = .ok (.goto 4, 3) := by decide +kernel
theorem dX8_altered_56 : decode cX8_altered 56 = .ok (.iconst 0, 1) := by decide +kernel
theorem dX8_altered_57 : decode cX8_altered 57 = .ok (.istore 5, 2) := by decide +kernel
theorem dX8_altered_59 : decode cX8_altered 59 = .ok (.iload_n 1, 1) := by decide +kernel
theorem dX8_altered_60 : decode cX8_altered 60 = .ok (.iconst 5, 1) := by decide +kernel
theorem dX8_altered_61 : decode cX8_altered 61 = .ok (.invokestatic 165, 3) := by decide +kernel
theorem dX8_altered_64 : decode cX8_altered 64 = .ok (.ifCond .eq 15, 3) := by decide +kernel
theorem dX8_altered_67 : decode cX8_altered 67 = .ok (.aload_n 0, 1) := by decide +kernel
theorem dX8_altered_68 : decode cX8_altered 68 = .ok (.getfield 162, 3) := by decide +kernel
theorem dX8_altered_71 : decode cX8_altered 71 = .ok (.iconst 1, 1) := by decide +kernel
theorem dX8_altered_72 : decode cX8_altered 72 = .ok (.if_icmp .ne 7, 3) := by decide +kernel
theorem dX8_altered_75 : decode cX8_altered 75 = .ok (.iconst 1, 1) := by decide +kernel
theorem dX8_altered_76 : decode cX8_altered 76 = .ok (.goto 4, 3) := by decide +kernel
theorem dX8_altered_79 : decode cX8_altered 79 = .ok (.iconst 0, 1) := by decide +kernel
theorem dX8_altered_80 : decode cX8_altered 80 = .ok (.istore 6, 2) := by decide +kernel
theorem dX8_altered_82 : decode cX8_altered 82 = .ok (.iload_n 1, 1) := by decide +kernel
theorem dX8_altered_83 : decode cX8_altered 83 = .ok (.bipush 6, 2) := by decide +kernel
theorem dX8_altered_85 : decode cX8_altered 85 = .ok (.ishr, 1) := by decide +kernel
theorem dX8_altered_86 : decode cX8_altered 86 = .ok (.iconst 3, 1) := by decide +kernel
theorem dX8_altered_87 : decode cX8_altered 87 = .ok (.iand, 1) := by decide +kernel
theorem dX8_altered_88 : decode cX8_altered 88 = .ok (.istore 7, 2) := by decide +kernel
theorem dX8_altered_90 : decode cX8_altered 90 = .ok (.iload 7, 2) := by decide +kernel
theorem dX8_altered_92 : decode cX8_altered 92 = .ok (.iconst 1, 1) := by decide +kernel
theorem dX8_altered_93 : decode cX8_altered 93 = .ok (.if_icmp .ne 8, 3) := by decide +kernel
theorem dX8_altered_96 : decode cX8_altered 96 = .ok (.aload_n 0, 1) := by decide +kernel
theorem dX8_altered_97 : decode cX8_altered 97 = .ok (.iconst 0, 1) := by decide +kernel
theorem dX8_altered_98 : decode cX8_altered 98 = .ok (.putfield 162, 3) := by decide +kernel
theorem dX8_altered_101 : decode cX8_altered 101 = .ok (.iload 7, 2) := by decide +kernel
theorem dX8_altered_103 : decode cX8_altered 103 = .ok (.iconst 2, 1) := by decide +kernel
theorem dX8_altered_104 : decode cX8_altered 104 = .ok (.if_icmp .ne 13, 3) := by decide +kernel
theorem dX8_altered_107 : decode cX8_altered 107 = .ok (.aload_n 0, 1) := by decide +kernel
theorem dX8_altered_108 : decode cX8_altered 108 = .ok (.iconst 1, 1) := by decide +kernel
theorem dX8_altered_109 : decode cX8_altered 109 = .ok (.aload_n 0, 1) := by decide +kernel
theorem dX8_altered_110 : decode cX8_altered 110 = .ok (.getfield 162, 3) := by decide +kernel
theorem dX8_altered_113 : decode cX8_altered 113 = .ok (.isub, 1) := by decide +kernel
theorem dX8_altered_114 : decode cX8_altered 114 = .ok (.putfield 162, 3) := by decide +kernel
theorem dX8_altered_117 : decode cX8_altered 117 = .ok (.iload 7, 2) := by decide +kernel
theorem dX8_altered_119 : decode cX8_altered 119 = .ok (.iconst 3, 1) := by decide +kernel
theorem dX8_altered_120 : decode cX8_altered 120 = .ok (.if_icmp .ne 8, 3) := by decide +kernel
theorem dX8_altered_123 : decode cX8_altered 123 = .ok (.aload_n 0, 1) := by decide +kernel
theorem dX8_altered_124 : decode cX8_altered 124 = .ok (.iconst 1, 1) := by decide +kernel
theorem dX8_altered_125 : decode cX8_altered 125 = .ok (.putfield 162, 3) := by decide +kernel
theorem dX8_altered_128 : decode cX8_altered 128 = .ok (.iload_n 3, 1) := by decide +kernel
theorem dX8_altered_129 : decode cX8_altered 129 = .ok (.bipush 15, 2) := by decide +kernel
theorem dX8_altered_131 : decode cX8_altered 131 = .ok (.ishr, 1) := by decide +kernel
theorem dX8_altered_132 : decode cX8_altered 132 = .ok (.iconst 1, 1) := by decide +kernel
theorem dX8_altered_133 : decode cX8_altered 133 = .ok (.if_icmp .ne 7, 3) := by decide +kernel
theorem dX8_altered_136 : decode cX8_altered 136 = .ok (.iconst 1, 1) := by decide +kernel
theorem dX8_altered_137 : decode cX8_altered 137 = .ok (.goto 4, 3) := by decide +kernel
theorem dX8_altered_140 : decode cX8_altered 140 = .ok (.iconst 0, 1) := by decide +kernel
theorem dX8_altered_141 : decode cX8_altered 141 = .ok (.istore 8, 2) := by decide +kernel
theorem dX8_altered_143 : decode cX8_altered 143 = .ok (.iload_n 3, 1) := by decide +kernel
theorem dX8_altered_144 : decode cX8_altered 144 = .ok (.iconst 1, 1) := by decide +kernel
theorem dX8_altered_145 : decode cX8_altered 145 = .ok (.iand, 1) := by decide +kernel
theorem dX8_altered_146 : decode cX8_altered 146 = .ok (.iconst 1, 1) := by decide +kernel
theorem dX8_altered_147 : decode cX8_altered 147 = .ok (.if_icmp .ne 7, 3) := by decide +kernel
theorem dX8_altered_150 : decode cX8_altered 150 = .ok (.iconst 1, 1) := by decide +kernel
theorem dX8_altered_151 : decode cX8_altered 151 = .ok (.goto 4, 3) := by decide +kernel
theorem dX8_altered_154 : decode cX8_altered 154 = .ok (.iconst 0, 1) := by decide +kernel
theorem dX8_altered_155 : decode cX8_altered 155 = .ok (.istore 9, 2) := by decide +kernel
theorem dX8_altered_157 : decode cX8_altered 157 = .ok (.iload 5, 2) := by decide +kernel
theorem dX8_altered_159 : decode cX8_altered 159 = .ok (.ifCond .ne 29, 3) := by decide +kernel
theorem dX8_altered_162 : decode cX8_altered 162 = .ok (.iload_n 1, 1) := by decide +kernel
theorem dX8_altered_163 : decode cX8_altered 163 = .ok (.iconst 4, 1) := by decide +kernel
theorem dX8_altered_164 : decode cX8_altered 164 = .ok (.invokestatic 165, 3) := by decide +kernel
theorem dX8_altered_167 : decode cX8_altered 167 = .ok (.ifCond .eq 8, 3) := by decide +kernel
theorem dX8_altered_170 : decode cX8_altered 170 = .ok (.iload 8, 2) := by decide +kernel
theorem dX8_altered_172 : decode cX8_altered 172 = .ok (.ifCond .eq 16, 3) := by decide +kernel
theorem dX8_altered_175 : decode cX8_altered 175 = .ok (.iload_n 1, 1) := by decide +kernel
theorem dX8_altered_176 : decode cX8_altered 176 = .ok (.iconst 3, 1) := by decide +kernel
theorem dX8_altered_177 : decode cX8_altered 177 = .ok (.invokestatic 165, 3) := by decide +kernel
theorem dX8_altered_180 : decode cX8_altered 180 = .ok (.ifCond .eq 12, 3) := by decide +kernel
theorem dX8_altered_183 : decode cX8_altered 183 = .ok (.iload 9, 2) := by decide +kernel
theorem dX8_altered_185 : decode cX8_altered 185 = .ok (.ifCond .ne 7, 3) := by decide +kernel
theorem dX8_altered_188 : decode cX8_altered 188 = .ok (.iconst 1, 1) := by decide +kernel
theorem dX8_altered_189 : decode cX8_altered 189 = .ok (.goto 4, 3) := by decide +kernel
theorem dX8_altered_192 : decode cX8_altered 192 = .ok (.iconst 0, 1) := by decide +kernel
theorem dX8_altered_193 : decode cX8_altered 193 = .ok (.istore 5, 2) := by decide +kernel
theorem dX8_altered_195 : decode cX8_altered 195 = .ok (.iload_n 1, 1) := by decide +kernel
theorem dX8_altered_196 : decode cX8_altered 196 = .ok (.iconst 4, 1) := by decide +kernel
theorem dX8_altered_197 : decode cX8_altered 197 = .ok (.invokestatic 165, 3) := by decide +kernel
theorem dX8_altered_200 : decode cX8_altered 200 = .ok (.ifCond .eq 36, 3) := by decide +kernel
theorem dX8_altered_203 : decode cX8_altered 203 = .ok (.iload_n 1, 1) := by decide +kernel
theorem dX8_altered_204 : decode cX8_altered 204 = .ok (.iconst 3, 1) := by decide +kernel
theorem dX8_altered_205 : decode cX8_altered 205 = .ok (.invokestatic 165, 3) := by decide +kernel
theorem dX8_altered_208 : decode cX8_altered 208 = .ok (.ifCond .eq 28, 3) := by decide +kernel
theorem dX8_altered_211 : decode cX8_altered 211 = .ok (.iload 6, 2) := by decide +kernel
theorem dX8_altered_213 : decode cX8_altered 213 = .ok (.ifCond .ne 13, 3) := by decide +kernel
theorem dX8_altered_216 : decode cX8_altered 216 = .ok (.iload 8, 2) := by decide +kernel
theorem dX8_altered_218 : decode cX8_altered 218 = .ok (.ifCond .eq 12, 3) := by decide +kernel
theorem dX8_altered_221 : decode cX8_altered 221 = .ok (.iload 9, 2) := by decide +kernel
theorem dX8_altered_223 : decode cX8_altered 223 = .ok (.ifCond .eq 7, 3) := by decide +kernel
theorem dX8_altered_226 : decode cX8_altered 226 = .ok (.iconst 1, 1) := by decide +kernel
theorem dX8_altered_227 : decode cX8_altered 227 = .ok (.goto 4, 3) := by decide +kernel
theorem dX8_altered_230 : decode cX8_altered 230 = .ok (.iconst 0, 1) := by decide +kernel
theorem dX8_altered_231 : decode cX8_altered 231 = .ok (.istore 6, 2) := by decide +kernel
theorem dX8_altered_233 : decode cX8_altered 233 = .ok (.goto 41, 3) := by decide +kernel
theorem dX8_altered_236 : decode cX8_altered 236 = .ok (.iload 6, 2) := by decide +kernel
theorem dX8_altered_238 : decode cX8_altered 238 = .ok (.ifCond .ne 29, 3) := by decide +kernel
theorem dX8_altered_241 : decode cX8_altered 241 = .ok (.iload_n 1, 1) := by decide +kernel
theorem dX8_altered_242 : decode cX8_altered 242 = .ok (.iconst 4, 1) := by decide +kernel
theorem dX8_altered_243 : decode cX8_altered 243 = .ok (.invokestatic 165, 3) := by decide +kernel
theorem dX8_altered_246 : decode cX8_altered 246 = .ok (.ifCond .eq 8, 3) := by decide +kernel
theorem dX8_altered_249 : decode cX8_altered 249 = .ok (.iload 8, 2) := by decide +kernel
theorem dX8_altered_251 : decode cX8_altered 251 = .ok (.ifCond .ne 16, 3) := by decide +kernel
theorem dX8_altered_254 : decode cX8_altered 254 = .ok (.iload_n 1, 1) := by decide +kernel
theorem dX8_altered_255 : decode cX8_altered 255 = .ok (.iconst 3, 1) := by decide +kernel
theorem dX8_altered_256 : decode cX8_altered 256 = .ok (.invokestatic 165, 3) := by decide +kernel
theorem dX8_altered_259 : decode cX8_altered 259 = .ok (.ifCond .eq 12, 3) := by decide +kernel
theorem dX8_altered_262 : decode cX8_altered 262 = .ok (.iload 9, 2) := by decide +kernel
theorem dX8_altered_264 : decode cX8_altered 264 = .ok (.ifCond .eq 7, 3) := by decide +kernel
theorem dX8_altered_267 : decode cX8_altered 267 = .ok (.iconst 1, 1) := by decide +kernel
theorem dX8_altered_268 : decode cX8_altered 268 = .ok (.goto 4, 3) := by decide +kernel
theorem dX8_altered_271 : decode cX8_altered 271 = .ok (.iconst 0, 1) := by decide +kernel
theorem dX8_altered_272 : decode cX8_altered 272 = .ok (.istore 6, 2) := by decide +kernel
theorem dX8_altered_274 : decode cX8_altered 274 = .ok (.iload_n 1, 1) := by decide +kernel
theorem dX8_altered_275 : decode cX8_altered 275 = .ok (.iconst 2, 1) := by decide +kernel
theorem dX8_altered_276 : decode cX8_altered 276 = .ok (.invokestatic 165, 3) := by decide +kernel
theorem dX8_altered_279 : decode cX8_altered 279 = .ok (.ifCond .eq 33, 3) := by decide +kernel
theorem dX8_altered_282 : decode cX8_altered 282 = .ok (.iload_n 3, 1) := by decide +kernel
theorem dX8_altered_283 : decode cX8_altered 283 = .ok (.ldc 102, 2) := by decide +kernel
theorem dX8_altered_285 : decode cX8_altered 285 = .ok (.if_icmp .ne 8, 3) := by decide +kernel
theorem dX8_altered_288 : decode cX8_altered 288 = .ok (.aload_n 0, 1) := by decide +kernel
theorem dX8_altered_289 : decode cX8_altered 289 = .ok (.iconst 1, 1) := by decide +kernel
theorem dX8_altered_290 : decode cX8_altered 290 = .ok (.putfield 162, 3) := by decide +kernel
theorem dX8_altered_293 : decode cX8_altered 293 = .ok (.iload_n 3, 1) := by decide +kernel
theorem dX8_altered_294 : decode cX8_altered 294 = .ok (.sipush 32767, 3) := by decide +kernel
theorem dX8_altered_297 : decode cX8_altered 297 = .ok (.if_icmp .ne 8, 3) := by decide +kernel
theorem dX8_altered_300 : decode cX8_altered 300 = .ok (.aload_n 0, 1) := by decide +kernel
theorem dX8_altered_301 : decode cX8_altered 301 = .ok (.iconst 1, 1) := by decide +kernel
theorem dX8_altered_302 : decode cX8_altered 302 = .ok (.putfield 159, 3) := by decide +kernel
theorem dX8_altered_305 : decode cX8_altered 305 = .ok (.iload_n 3, 1) := by decide +kernel
theorem dX8_altered_306 : decode cX8_altered 306 = .ok (.iconst 1, 1) := by decide +kernel
theorem dX8_altered_307 : decode cX8_altered 307 = .ok (.iadd, 1) := by decide +kernel
theorem dX8_altered_308 : decode cX8_altered 308 = .ok (.ldc 102, 2) := by decide +kernel
theorem dX8_altered_310 : decode cX8_altered 310 = .ok (.iand, 1) := by decide +kernel
theorem dX8_altered_311 : decode cX8_altered 311 = .ok (.istore_n 3, 1) := by decide +kernel
theorem dX8_altered_312 : decode cX8_altered 312 = .ok (.iload 5, 2) := by decide +kernel
theorem dX8_altered_314 : decode cX8_altered 314 = .ok (.ifCond .ne 15, 3) := by decide +kernel
theorem dX8_altered_317 : decode cX8_altered 317 = .ok (.iload_n 1, 1) := by decide +kernel
theorem dX8_altered_318 : decode cX8_altered 318 = .ok (.iconst 1, 1) := by decide +kernel
theorem dX8_altered_319 : decode cX8_altered 319 = .ok (.invokestatic 165, 3) := by decide +kernel
theorem dX8_altered_322 : decode cX8_altered 322 = .ok (.ifCond .eq 11, 3) := by decide +kernel
theorem dX8_altered_325 : decode cX8_altered 325 = .ok (.iload_n 3, 1) := by decide +kernel
theorem dX8_altered_326 : decode cX8_altered 326 = .ok (.ifCond .ne 7, 3) := by decide +kernel
theorem dX8_altered_329 : decode cX8_altered 329 = .ok (.iconst 1, 1) := by decide +kernel
theorem dX8_altered_330 : decode cX8_altered 330 = .ok (.goto 4, 3) := by decide +kernel
theorem dX8_altered_333 : decode cX8_altered 333 = .ok (.iconst 0, 1) := by decide +kernel
theorem dX8_altered_334 : decode cX8_altered 334 = .ok (.istore 5, 2) := by decide +kernel
theorem dX8_altered_336 : decode cX8_altered 336 = .ok (.iload 6, 2) := by decide +kernel
theorem dX8_altered_338 : decode cX8_altered 338 = .ok (.ifCond .ne 15, 3) := by decide +kernel
theorem dX8_altered_341 : decode cX8_altered 341 = .ok (.iload_n 1, 1) := by decide +kernel
theorem dX8_altered_342 : decode cX8_altered 342 = .ok (.iconst 1, 1) := by decide +kernel
theorem dX8_altered_343 : decode cX8_altered 343 = .ok (.invokestatic 165, 3) := by decide +kernel
theorem dX8_altered_346 : decode cX8_altered 346 = .ok (.ifCond .eq 11, 3) := by decide +kernel
theorem dX8_altered_349 : decode cX8_altered 349 = .ok (.iload_n 3, 1) := by decide +kernel
theorem dX8_altered_350 : decode cX8_altered 350 = .ok (.ifCond .eq 7, 3) := by decide +kernel
theorem dX8_altered_353 : decode cX8_altered 353 = .ok (.iconst 1, 1) := by decide +kernel
theorem dX8_altered_354 : decode cX8_altered 354 = .ok (.goto 4, 3) := by decide +kernel
theorem dX8_altered_357 : decode cX8_altered 357 = .ok (.iconst 0, 1) := by decide +kernel
theorem dX8_altered_358 : decode cX8_altered 358 = .ok (.istore 6, 2) := by decide +kernel
theorem dX8_altered_360 : decode cX8_altered 360 = .ok (.iload_n 1, 1) := by decide +kernel
theorem dX8_altered_361 : decode cX8_altered 361 = .ok (.iconst 5, 1) := by decide +kernel
theorem dX8_altered_362 : decode cX8_altered 362 = .ok (.invokestatic 165, 3) := by decide +kernel
theorem dX8_altered_365 : decode cX8_altered 365 = .ok (.ifCond .ne 31, 3) := by decide +kernel
theorem dX8_altered_368 : decode cX8_altered 368 = .ok (.iload_n 1, 1) := by decide +kernel
theorem dX8_altered_369 : decode cX8_altered 369 = .ok (.iconst 4, 1) := by decide +kernel
theorem dX8_altered_370 : decode cX8_altered 370 = .ok (.invokestatic 165, 3) := by decide +kernel
theorem dX8_altered_373 : decode cX8_altered 373 = .ok (.ifCond .ne 23, 3) := by decide +kernel
theorem dX8_altered_376 : decode cX8_altered 376 = .ok (.iload_n 1, 1) := by decide +kernel
theorem dX8_altered_377 : decode cX8_altered 377 = .ok (.iconst 3, 1) := by decide +kernel
theorem dX8_altered_378 : decode cX8_altered 378 = .ok (.invokestatic 165, 3) := by decide +kernel
theorem dX8_altered_381 : decode cX8_altered 381 = .ok (.ifCond .ne 15, 3) := by decide +kernel
theorem dX8_altered_384 : decode cX8_altered 384 = .ok (.iload_n 1, 1) := by decide +kernel
theorem dX8_altered_385 : decode cX8_altered 385 = .ok (.iconst 1, 1) := by decide +kernel
theorem dX8_altered_386 : decode cX8_altered 386 = .ok (.invokestatic 165, 3) := by decide +kernel
theorem dX8_altered_389 : decode cX8_altered 389 = .ok (.ifCond .ne 7, 3) := by decide +kernel
theorem dX8_altered_392 : decode cX8_altered 392 = .ok (.iconst 1, 1) := by decide +kernel
theorem dX8_altered_393 : decode cX8_altered 393 = .ok (.goto 4, 3) := by decide +kernel
theorem dX8_altered_396 : decode cX8_altered 396 = .ok (.iconst 0, 1) := by decide +kernel
theorem dX8_altered_397 : decode cX8_altered 397 = .ok (.istore 10, 2) := by decide +kernel
theorem dX8_altered_399 : decode cX8_altered 399 = .ok (.aload_n 0, 1) := by decide +kernel
theorem dX8_altered_400 : decode cX8_altered 400 = .ok (.iload_n 1, 1) := by decide +kernel
theorem dX8_altered_401 : decode cX8_altered 401 = .ok (.iconst 0, 1) := by decide +kernel
theorem dX8_altered_402 : decode cX8_altered 402 = .ok (.invokestatic 165, 3) := by decide +kernel
theorem dX8_altered_405 : decode cX8_altered 405 = .ok (.ifCond .eq 21, 3) := by decide +kernel
theorem dX8_altered_408 : decode cX8_altered 408 = .ok (.iload 10, 2) := by decide +kernel
theorem dX8_altered_410 : decode cX8_altered 410 = .ok (.ifCond .ne 8, 3) := by decide +kernel
theorem dX8_altered_413 : decode cX8_altered 413 = .ok (.iload 6, 2) := by decide +kernel
theorem dX8_altered_415 : decode cX8_altered 415 = .ok (.ifCond .eq 7, 3) := by decide +kernel
theorem dX8_altered_418 : decode cX8_altered 418 = .ok (.iconst 1, 1) := by decide +kernel
theorem dX8_altered_419 : decode cX8_altered 419 = .ok (.goto 9, 3) := by decide +kernel
theorem dX8_altered_422 : decode cX8_altered 422 = .ok (.iconst 0, 1) := by decide +kernel
theorem dX8_altered_423 : decode cX8_altered 423 = .ok (.goto 5, 3) := by decide +kernel
theorem dX8_altered_426 : decode cX8_altered 426 = .ok (.iload 5, 2) := by decide +kernel
theorem dX8_altered_428 : decode cX8_altered 428 = .ok (.invokevirtual 147, 3) := by decide +kernel
theorem dX8_altered_431 : decode cX8_altered 431 = .ok (.iload_n 3, 1) := by decide +kernel
theorem dX8_altered_432 : decode cX8_altered 432 = .ok (.ireturn, 1) := by decide +kernel
theorem dX8_flagOf_0 : decode cX8_flagOf 0 = .ok (.iload_n 1, 1) := by decide +kernel
theorem dX8_flagOf_1 : decode cX8_flagOf 1 = .ok (.ifCond .ne 10, 3) := by decide +kernel
theorem dX8_flagOf_4 : decode cX8_flagOf 4 = .ok (.aload_n 0, 1) := by decide +kernel
theorem dX8_flagOf_5 : decode cX8_flagOf 5 = .ok (.getfield 116, 3) := by decide +kernel
theorem dX8_flagOf_8 : decode cX8_flagOf 8 = .ok (.goto 50, 3) := by decide +kernel
theorem dX8_flagOf_11 : decode cX8_flagOf 11 = .ok (.iload_n 1, 1) := by decide +kernel
theorem dX8_flagOf_12 : decode cX8_flagOf 12 = .ok (.iconst 1, 1) := by decide +kernel
theorem dX8_flagOf_13 : decode cX8_flagOf 13 = .ok (.if_icmp .ne 19, 3) := by decide +kernel
theorem dX8_flagOf_16 : decode cX8_flagOf 16 = .ok (.aload_n 0, 1) := by decide +kernel
theorem dX8_flagOf_17 : decode cX8_flagOf 17 = .ok (.getfield 159, 3) := by decide +kernel
theorem dX8_flagOf_20 : decode cX8_flagOf 20 = .ok (.iconst 1, 1) := by decide +kernel
theorem dX8_flagOf_21 : decode cX8_flagOf 21 = .ok (.if_icmp .ne 7, 3) := by decide +kernel
theorem dX8_flagOf_24 : decode cX8_flagOf 24 = .ok (.iconst 1, 1) := by decide +kernel
theorem dX8_flagOf_25 : decode cX8_flagOf 25 = .ok (.goto 33, 3) := by decide +kernel
theorem dX8_flagOf_28 : decode cX8_flagOf 28 = .ok (.iconst 0, 1) := by decide +kernel
theorem dX8_flagOf_29 : decode cX8_flagOf 29 = .ok (.goto 29, 3) := by decide +kernel
theorem dX8_flagOf_32 : decode cX8_flagOf 32 = .ok (.iload_n 1, 1) := by decide +kernel
theorem dX8_flagOf_33 : decode cX8_flagOf 33 = .ok (.bipush 6, 2) := by decide +kernel
theorem dX8_flagOf_35 : decode cX8_flagOf 35 = .ok (.if_icmp .lt 22, 3) := by decide +kernel
theorem dX8_flagOf_38 : decode cX8_flagOf 38 = .ok (.iload_n 1, 1) := by decide +kernel
theorem dX8_flagOf_39 : decode cX8_flagOf 39 = .ok (.bipush 12, 2) := by decide +kernel
theorem dX8_flagOf_41 : decode cX8_flagOf 41 = .ok (.if_icmp .ge 16, 3) := by decide +kernel
theorem dX8_flagOf_44 : decode cX8_flagOf 44 = .ok (.aload_n 0, 1) := by decide +kernel
theorem dX8_flagOf_45 : decode cX8_flagOf 45 = .ok (.getfield 24, 3) := by decide +kernel
theorem dX8_flagOf_48 : decode cX8_flagOf 48 = .ok (.iload_n 1, 1) := by decide +kernel
theorem dX8_flagOf_49 : decode cX8_flagOf 49 = .ok (.baload, 1) := by decide +kernel
theorem dX8_flagOf_50 : decode cX8_flagOf 50 = .ok (.ifCond .eq 7, 3) := by decide +kernel
theorem dX8_flagOf_53 : decode cX8_flagOf 53 = .ok (.iconst 1, 1) := by decide +kernel
theorem dX8_flagOf_54 : decode cX8_flagOf 54 = .ok (.goto 4, 3) := by decide +kernel
theorem dX8_flagOf_57 : decode cX8_flagOf 57 = .ok (.iconst 0, 1) := by decide +kernel
theorem dX8_flagOf_58 : decode cX8_flagOf 58 = .ok (.ireturn, 1) := by decide +kernel
theorem dX8_setFlag_0 : decode cX8_setFlag 0 = .ok (.iload_n 1, 1) := by decide +kernel
theorem dX8_setFlag_1 : decode cX8_setFlag 1 = .ok (.ifCond .ne 8, 3) := by decide +kernel
theorem dX8_setFlag_4 : decode cX8_setFlag 4 = .ok (.aload_n 0, 1) := by decide +kernel
theorem dX8_setFlag_5 : decode cX8_setFlag 5 = .ok (.iload_n 2, 1) := by decide +kernel
theorem dX8_setFlag_6 : decode cX8_setFlag 6 = .ok (.putfield 116, 3) := by decide +kernel
theorem dX8_setFlag_9 : decode cX8_setFlag 9 = .ok (.iload_n 1, 1) := by decide +kernel
theorem dX8_setFlag_10 : decode cX8_setFlag 10 = .ok (.iconst 1, 1) := by decide +kernel
theorem dX8_setFlag_11 : decode cX8_setFlag 11 = .ok (.if_icmp .ne 16, 3) := by decide +kernel
theorem dX8_setFlag_14 : decode cX8_setFlag 14 = .ok (.aload_n 0, 1) := by decide +kernel
theorem dX8_setFlag_15 : decode cX8_setFlag 15 = .ok (.iload_n 2, 1) := by decide +kernel
theorem dX8_setFlag_16 : decode cX8_setFlag 16 = .ok (.ifCond .eq 7, 3) := by decide +kernel
theorem dX8_setFlag_19 : decode cX8_setFlag 19 = .ok (.iconst 1, 1) := by decide +kernel
theorem dX8_setFlag_20 : decode cX8_setFlag 20 = .ok (.goto 4, 3) := by decide +kernel
theorem dX8_setFlag_23 : decode cX8_setFlag 23 = .ok (.iconst 0, 1) := by decide +kernel
theorem dX8_setFlag_24 : decode cX8_setFlag 24 = .ok (.putfield 159, 3) := by decide +kernel
theorem dX8_setFlag_27 : decode cX8_setFlag 27 = .ok (.iload_n 1, 1) := by decide +kernel
theorem dX8_setFlag_28 : decode cX8_setFlag 28 = .ok (.bipush 6, 2) := by decide +kernel
theorem dX8_setFlag_30 : decode cX8_setFlag 30 = .ok (.if_icmp .lt 9, 3) := by decide +kernel
theorem dX8_setFlag_33 : decode cX8_setFlag 33 = .ok (.iload_n 1, 1) := by decide +kernel
theorem dX8_setFlag_34 : decode cX8_setFlag 34 = .ok (.bipush 12, 2) := by decide +kernel
theorem dX8_setFlag_36 : decode cX8_setFlag 36 = .ok (.if_icmp .lt 4, 3) := by decide +kernel
theorem dX8_setFlag_39 : decode cX8_setFlag 39 = .ok (.return_, 1) := by decide +kernel
theorem dX8_setFlag_40 : decode cX8_setFlag 40 = .ok (.aload_n 0, 1) := by decide +kernel
theorem dX8_setFlag_41 : decode cX8_setFlag 41 = .ok (.getfield 24, 3) := by decide +kernel
theorem dX8_setFlag_44 : decode cX8_setFlag 44 = .ok (.iload_n 1, 1) := by decide +kernel
theorem dX8_setFlag_45 : decode cX8_setFlag 45 = .ok (.iload_n 2, 1) := by decide +kernel
theorem dX8_setFlag_46 : decode cX8_setFlag 46 = .ok (.bastore, 1) := by decide +kernel
theorem dX8_setFlag_47 : decode cX8_setFlag 47 = .ok (.aload_n 0, 1) := by decide +kernel
theorem dX8_setFlag_48 : decode cX8_setFlag 48 = .ok (.getfield 27, 3) := by decide +kernel
theorem dX8_setFlag_51 : decode cX8_setFlag 51 = .ok (.iload_n 1, 1) := by decide +kernel
theorem dX8_setFlag_52 : decode cX8_setFlag 52 = .ok (.iload_n 2, 1) := by decide +kernel
theorem dX8_setFlag_53 : decode cX8_setFlag 53 = .ok (.bastore, 1) := by decide +kernel
theorem dX8_setFlag_54 : decode cX8_setFlag 54 = .ok (.return_, 1) := by decide +kernel
theorem dX8_told_0 : decode cX8_told 0 = .ok (.iload_n 1, 1) := by decide +kernel
theorem dX8_told_1 : decode cX8_told 1 = .ok (.iconst 1, 1) := by decide +kernel
theorem dX8_told_2 : decode cX8_told 2 = .ok (.if_icmp .ne 8, 3) := by decide +kernel
theorem dX8_told_5 : decode cX8_told 5 = .ok (.aload_n 0, 1) := by decide +kernel
theorem dX8_told_6 : decode cX8_told 6 = .ok (.getfield 175, 3) := by decide +kernel
theorem dX8_told_9 : decode cX8_told 9 = .ok (.ireturn, 1) := by decide +kernel
theorem dX8_told_10 : decode cX8_told 10 = .ok (.iload_n 1, 1) := by decide +kernel
theorem dX8_told_11 : decode cX8_told 11 = .ok (.iconst 2, 1) := by decide +kernel
theorem dX8_told_12 : decode cX8_told 12 = .ok (.if_icmp .eq 8, 3) := by decide +kernel
theorem dX8_told_15 : decode cX8_told 15 = .ok (.iload_n 1, 1) := by decide +kernel
theorem dX8_told_16 : decode cX8_told 16 = .ok (.iconst 3, 1) := by decide +kernel
theorem dX8_told_17 : decode cX8_told 17 = .ok (.if_icmp .ne 12, 3) := by decide +kernel
theorem dX8_told_20 : decode cX8_told 20 = .ok (.aload_n 0, 1) := by decide +kernel
theorem dX8_told_21 : decode cX8_told 21 = .ok (.getfield 42, 3) := by decide +kernel
theorem dX8_told_24 : decode cX8_told 24 = .ok (.iload_n 1, 1) := by decide +kernel
theorem dX8_told_25 : decode cX8_told 25 = .ok (.iconst 4, 1) := by decide +kernel
theorem dX8_told_26 : decode cX8_told 26 = .ok (.iadd, 1) := by decide +kernel
theorem dX8_told_27 : decode cX8_told 27 = .ok (.iaload, 1) := by decide +kernel
theorem dX8_told_28 : decode cX8_told 28 = .ok (.ireturn, 1) := by decide +kernel
theorem dX8_told_29 : decode cX8_told 29 = .ok (.iload_n 1, 1) := by decide +kernel
theorem dX8_told_30 : decode cX8_told 30 = .ok (.bipush 8, 2) := by decide +kernel
theorem dX8_told_32 : decode cX8_told 32 = .ok (.if_icmp .lt 18, 3) := by decide +kernel
theorem dX8_told_35 : decode cX8_told 35 = .ok (.iload_n 1, 1) := by decide +kernel
theorem dX8_told_36 : decode cX8_told 36 = .ok (.bipush 12, 2) := by decide +kernel
theorem dX8_told_38 : decode cX8_told 38 = .ok (.if_icmp .ge 12, 3) := by decide +kernel
theorem dX8_told_41 : decode cX8_told 41 = .ok (.aload_n 0, 1) := by decide +kernel
theorem dX8_told_42 : decode cX8_told 42 = .ok (.getfield 57, 3) := by decide +kernel
theorem dX8_told_45 : decode cX8_told 45 = .ok (.iload_n 1, 1) := by decide +kernel
theorem dX8_told_46 : decode cX8_told 46 = .ok (.iaload, 1) := by decide +kernel
theorem dX8_told_47 : decode cX8_told 47 = .ok (.goto 4, 3) := by decide +kernel
theorem dX8_told_50 : decode cX8_told 50 = .ok (.iconst 0, 1) := by decide +kernel
theorem dX8_told_51 : decode cX8_told 51 = .ok (.ireturn, 1) := by decide +kernel
theorem dX8_goes_0 : decode cX8_goes 0 = .ok (.iload_n 1, 1) := by decide +kernel
theorem dX8_goes_1 : decode cX8_goes 1 = .ok (.iconst 1, 1) := by decide +kernel
theorem dX8_goes_2 : decode cX8_goes 2 = .ok (.if_icmp .ne 8, 3) := by decide +kernel
theorem dX8_goes_5 : decode cX8_goes 5 = .ok (.aload_n 0, 1) := by decide +kernel
theorem dX8_goes_6 : decode cX8_goes 6 = .ok (.iload_n 2, 1) := by decide +kernel
theorem dX8_goes_7 : decode cX8_goes 7 = .ok (.putfield 178, 3) := by decide +kernel
theorem dX8_goes_10 : decode cX8_goes 10 = .ok (.iload_n 1, 1) := by decide +kernel
theorem dX8_goes_11 : decode cX8_goes 11 = .ok (.iconst 2, 1) := by decide +kernel
theorem dX8_goes_12 : decode cX8_goes 12 = .ok (.if_icmp .eq 8, 3) := by decide +kernel
theorem dX8_goes_15 : decode cX8_goes 15 = .ok (.iload_n 1, 1) := by decide +kernel
theorem dX8_goes_16 : decode cX8_goes 16 = .ok (.iconst 3, 1) := by decide +kernel
theorem dX8_goes_17 : decode cX8_goes 17 = .ok (.if_icmp .ne 56, 3) := by decide +kernel
theorem dX8_goes_20 : decode cX8_goes 20 = .ok (.iload_n 1, 1) := by decide +kernel
theorem dX8_goes_21 : decode cX8_goes 21 = .ok (.iconst 4, 1) := by decide +kernel
theorem dX8_goes_22 : decode cX8_goes 22 = .ok (.iadd, 1) := by decide +kernel
theorem dX8_goes_23 : decode cX8_goes 23 = .ok (.istore_n 3, 1) := by decide +kernel
theorem dX8_goes_24 : decode cX8_goes 24 = .ok (.aload_n 0, 1) := by decide +kernel
theorem dX8_goes_25 : decode cX8_goes 25 = .ok (.getfield 36, 3) := by decide +kernel
theorem dX8_goes_28 : decode cX8_goes 28 = .ok (.iload_n 3, 1) := by decide +kernel
theorem dX8_goes_29 : decode cX8_goes 29 = .ok (.baload, 1) := by decide +kernel
theorem dX8_goes_30 : decode cX8_goes 30 = .ok (.ifCond .eq 13, 3) := by decide +kernel
theorem dX8_goes_33 : decode cX8_goes 33 = .ok (.aload_n 0, 1) := by decide +kernel
theorem dX8_goes_34 : decode cX8_goes 34 = .ok (.getfield 42, 3) := by decide +kernel
theorem dX8_goes_37 : decode cX8_goes 37 = .ok (.iload_n 3, 1) := by decide +kernel
theorem dX8_goes_38 : decode cX8_goes 38 = .ok (.iload_n 2, 1) := by decide +kernel
theorem dX8_goes_39 : decode cX8_goes 39 = .ok (.iastore, 1) := by decide +kernel
theorem dX8_goes_40 : decode cX8_goes 40 = .ok (.goto 33, 3) := by decide +kernel
theorem dX8_goes_43 : decode cX8_goes 43 = .ok (.aload_n 0, 1) := by decide +kernel
theorem dX8_goes_44 : decode cX8_goes 44 = .ok (.getfield 39, 3) := by decide +kernel
theorem dX8_goes_47 : decode cX8_goes 47 = .ok (.iload_n 3, 1) := by decide +kernel
theorem dX8_goes_48 : decode cX8_goes 48 = .ok (.iload_n 2, 1) := by decide +kernel
theorem dX8_goes_49 : decode cX8_goes 49 = .ok (.sipush 32767, 3) := by decide +kernel
theorem dX8_goes_52 : decode cX8_goes 52 = .ok (.iand, 1) := by decide +kernel
theorem dX8_goes_53 : decode cX8_goes 53 = .ok (.iastore, 1) := by decide +kernel
theorem dX8_goes_54 : decode cX8_goes 54 = .ok (.aload_n 0, 1) := by decide +kernel
theorem dX8_goes_55 : decode cX8_goes 55 = .ok (.getfield 33, 3) := by decide +kernel
theorem dX8_goes_58 : decode cX8_goes 58 = .ok (.iload_n 3, 1) := by decide +kernel
theorem dX8_goes_59 : decode cX8_goes 59 = .ok (.iload_n 2, 1) := by decide +kernel
theorem dX8_goes_60 : decode cX8_goes 60 = .ok (.bipush 15, 2) := by decide +kernel
theorem dX8_goes_62 : decode cX8_goes 62 = .ok (.ishr, 1) := by decide +kernel
theorem dX8_goes_63 : decode cX8_goes 63 = .ok (.iconst 1, 1) := by decide +kernel
theorem dX8_goes_64 : decode cX8_goes 64 = .ok (.if_icmp .ne 7, 3) := by decide +kernel
theorem dX8_goes_67 : decode cX8_goes 67 = .ok (.iconst 1, 1) := by decide +kernel
theorem dX8_goes_68 : decode cX8_goes 68 = .ok (.goto 4, 3) := by decide +kernel
theorem dX8_goes_71 : decode cX8_goes 71 = .ok (.iconst 0, 1) := by decide +kernel
theorem dX8_goes_72 : decode cX8_goes 72 = .ok (.bastore, 1) := by decide +kernel
theorem dX8_goes_73 : decode cX8_goes 73 = .ok (.iload_n 1, 1) := by decide +kernel
theorem dX8_goes_74 : decode cX8_goes 74 = .ok (.bipush 6, 2) := by decide +kernel
theorem dX8_goes_76 : decode cX8_goes 76 = .ok (.if_icmp .eq 9, 3) := by decide +kernel
theorem dX8_goes_79 : decode cX8_goes 79 = .ok (.iload_n 1, 1) := by decide +kernel
theorem dX8_goes_80 : decode cX8_goes 80 = .ok (.bipush 7, 2) := by decide +kernel
theorem dX8_goes_82 : decode cX8_goes 82 = .ok (.if_icmp .ne 10, 3) := by decide +kernel
theorem dX8_goes_85 : decode cX8_goes 85 = .ok (.aload_n 0, 1) := by decide +kernel
theorem dX8_goes_86 : decode cX8_goes 86 = .ok (.getfield 45, 3) := by decide +kernel
theorem dX8_goes_89 : decode cX8_goes 89 = .ok (.iload_n 1, 1) := by decide +kernel
theorem dX8_goes_90 : decode cX8_goes 90 = .ok (.iload_n 2, 1) := by decide +kernel
theorem dX8_goes_91 : decode cX8_goes 91 = .ok (.iastore, 1) := by decide +kernel
theorem dX8_goes_92 : decode cX8_goes 92 = .ok (.iload_n 1, 1) := by decide +kernel
theorem dX8_goes_93 : decode cX8_goes 93 = .ok (.bipush 8, 2) := by decide +kernel
theorem dX8_goes_95 : decode cX8_goes 95 = .ok (.if_icmp .lt 16, 3) := by decide +kernel
theorem dX8_goes_98 : decode cX8_goes 98 = .ok (.iload_n 1, 1) := by decide +kernel
theorem dX8_goes_99 : decode cX8_goes 99 = .ok (.bipush 12, 2) := by decide +kernel
theorem dX8_goes_101 : decode cX8_goes 101 = .ok (.if_icmp .ge 10, 3) := by decide +kernel
theorem dX8_goes_104 : decode cX8_goes 104 = .ok (.aload_n 0, 1) := by decide +kernel
theorem dX8_goes_105 : decode cX8_goes 105 = .ok (.getfield 57, 3) := by decide +kernel
theorem dX8_goes_108 : decode cX8_goes 108 = .ok (.iload_n 1, 1) := by decide +kernel
theorem dX8_goes_109 : decode cX8_goes 109 = .ok (.iload_n 2, 1) := by decide +kernel
theorem dX8_goes_110 : decode cX8_goes 110 = .ok (.iastore, 1) := by decide +kernel
theorem dX8_goes_111 : decode cX8_goes 111 = .ok (.return_, 1) := by decide +kernel
set_option maxRecDepth 20000 in
theorem ggX8_setControl_X8_started : GoodIn wsX8_setControl wsX8_started := goodIn_r _ [8, 9, 10, 11, 12, 13, 14, 15, 16, 17, 18, 19, 20, 21, 22, 23, 24, 25, 26, 27, 28, 29, 30, 31, 32, 33, 34, 35, 36, 37, 38, 39, 40, 41, 42, 43, 44, 45] (by decide +kernel) (by decide +kernel)
set_option maxRecDepth 20000 in
theorem gX8_setControl_X8_started : GoodIn wsX8_setControl (wsV RX8 103 RX8 yX8_started wsX8_started) := goodIn_app (goodIn_of _ (by decide +kernel)) ggX8_setControl_X8_started
theorem dX8_setControl_0 : decode cX8_setControl 0 = .ok (.iload_n 1, 1) := by decide +kernel
theorem dX8_setControl_1 : decode cX8_setControl 1 = .ok (.iconst 2, 1) := by decide +kernel
theorem dX8_setControl_2 : decode cX8_setControl 2 = .ok (.if_icmp .eq 8, 3) := by decide +kernel
theorem dX8_setControl_5 : decode cX8_setControl 5 = .ok (.iload_n 1, 1) := by decide +kernel
theorem dX8_setControl_6 : decode cX8_setControl 6 = .ok (.iconst 3, 1) := by decide +kernel
theorem dX8_setControl_7 : decode cX8_setControl 7 = .ok (.if_icmp .ne 12, 3) := by decide +kernel
theorem dX8_setControl_10 : decode cX8_setControl 10 = .ok (.aload_n 0, 1) := by decide +kernel
theorem dX8_setControl_11 : decode cX8_setControl 11 = .ok (.getfield 36, 3) := by decide +kernel
theorem dX8_setControl_14 : decode cX8_setControl 14 = .ok (.iload_n 1, 1) := by decide +kernel
theorem dX8_setControl_15 : decode cX8_setControl 15 = .ok (.iconst 4, 1) := by decide +kernel
theorem dX8_setControl_16 : decode cX8_setControl 16 = .ok (.iadd, 1) := by decide +kernel
theorem dX8_setControl_17 : decode cX8_setControl 17 = .ok (.iload_n 2, 1) := by decide +kernel
theorem dX8_setControl_18 : decode cX8_setControl 18 = .ok (.bastore, 1) := by decide +kernel
theorem dX8_setControl_19 : decode cX8_setControl 19 = .ok (.iload_n 1, 1) := by decide +kernel
theorem dX8_setControl_20 : decode cX8_setControl 20 = .ok (.ifCond .ne 36, 3) := by decide +kernel
theorem dX8_setControl_23 : decode cX8_setControl 23 = .ok (.iload_n 2, 1) := by decide +kernel
theorem dX8_setControl_24 : decode cX8_setControl 24 = .ok (.ifCond .ne 32, 3) := by decide +kernel
theorem dX8_setControl_27 : decode cX8_setControl 27 = .ok (.bipush 6, 2) := by decide +kernel
theorem dX8_setControl_29 : decode cX8_setControl 29 = .ok (.istore_n 3, 1) := by decide +kernel
theorem dX8_setControl_30 : decode cX8_setControl 30 = .ok (.iload_n 3, 1) := by decide +kernel
theorem dX8_setControl_31 : decode cX8_setControl 31 = .ok (.bipush 12, 2) := by decide +kernel
theorem dX8_setControl_33 : decode cX8_setControl 33 = .ok (.if_icmp .ge 23, 3) := by decide +kernel
theorem dX8_setControl_36 : decode cX8_setControl 36 = .ok (.aload_n 0, 1) := by decide +kernel
theorem dX8_setControl_37 : decode cX8_setControl 37 = .ok (.getfield 20, 3) := by decide +kernel
theorem dX8_setControl_40 : decode cX8_setControl 40 = .ok (.iload_n 3, 1) := by decide +kernel
theorem dX8_setControl_41 : decode cX8_setControl 41 = .ok (.iconst 0, 1) := by decide +kernel
theorem dX8_setControl_42 : decode cX8_setControl 42 = .ok (.bastore, 1) := by decide +kernel
theorem dX8_setControl_43 : decode cX8_setControl 43 = .ok (.aload_n 0, 1) := by decide +kernel
theorem dX8_setControl_44 : decode cX8_setControl 44 = .ok (.getfield 30, 3) := by decide +kernel
theorem dX8_setControl_47 : decode cX8_setControl 47 = .ok (.iload_n 3, 1) := by decide +kernel
theorem dX8_setControl_48 : decode cX8_setControl 48 = .ok (.iconst 0, 1) := by decide +kernel
theorem dX8_setControl_49 : decode cX8_setControl 49 = .ok (.bastore, 1) := by decide +kernel
theorem dX8_setControl_50 : decode cX8_setControl 50 = .ok (.iinc 3 1, 3) := by decide +kernel
theorem dX8_setControl_53 : decode cX8_setControl 53 = .ok (.goto (-23), 3) := by decide +kernel
theorem dX8_setControl_56 : decode cX8_setControl 56 = .ok (.iload_n 1, 1) := by decide +kernel
theorem dX8_setControl_57 : decode cX8_setControl 57 = .ok (.bipush 6, 2) := by decide +kernel
theorem dX8_setControl_59 : decode cX8_setControl 59 = .ok (.if_icmp .lt 9, 3) := by decide +kernel
theorem dX8_setControl_62 : decode cX8_setControl 62 = .ok (.iload_n 1, 1) := by decide +kernel
theorem dX8_setControl_63 : decode cX8_setControl 63 = .ok (.bipush 12, 2) := by decide +kernel
theorem dX8_setControl_65 : decode cX8_setControl 65 = .ok (.if_icmp .lt 4, 3) := by decide +kernel
theorem dX8_setControl_68 : decode cX8_setControl 68 = .ok (.return_, 1) := by decide +kernel
theorem dX8_setControl_69 : decode cX8_setControl 69 = .ok (.aload_n 0, 1) := by decide +kernel
theorem dX8_setControl_70 : decode cX8_setControl 70 = .ok (.getfield 20, 3) := by decide +kernel
theorem dX8_setControl_73 : decode cX8_setControl 73 = .ok (.iload_n 1, 1) := by decide +kernel
theorem dX8_setControl_74 : decode cX8_setControl 74 = .ok (.iload_n 2, 1) := by decide +kernel
theorem dX8_setControl_75 : decode cX8_setControl 75 = .ok (.bastore, 1) := by decide +kernel
theorem dX8_setControl_76 : decode cX8_setControl 76 = .ok (.iload_n 1, 1) := by decide +kernel
theorem dX8_setControl_77 : decode cX8_setControl 77 = .ok (.bipush 8, 2) := by decide +kernel
theorem dX8_setControl_79 : decode cX8_setControl 79 = .ok (.if_icmp .ge 13, 3) := by decide +kernel
theorem dX8_setControl_82 : decode cX8_setControl 82 = .ok (.aload_n 0, 1) := by decide +kernel
theorem dX8_setControl_83 : decode cX8_setControl 83 = .ok (.getfield 30, 3) := by decide +kernel
theorem dX8_setControl_86 : decode cX8_setControl 86 = .ok (.iload_n 1, 1) := by decide +kernel
theorem dX8_setControl_87 : decode cX8_setControl 87 = .ok (.iload_n 2, 1) := by decide +kernel
theorem dX8_setControl_88 : decode cX8_setControl 88 = .ok (.bastore, 1) := by decide +kernel
theorem dX8_setControl_89 : decode cX8_setControl 89 = .ok (.goto 12, 3) := by decide +kernel
theorem dX8_setControl_92 : decode cX8_setControl 92 = .ok (.iload_n 2, 1) := by decide +kernel
theorem dX8_setControl_93 : decode cX8_setControl 93 = .ok (.ifCond .eq 8, 3) := by decide +kernel
theorem dX8_setControl_96 : decode cX8_setControl 96 = .ok (.aload_n 0, 1) := by decide +kernel
theorem dX8_setControl_97 : decode cX8_setControl 97 = .ok (.iload_n 1, 1) := by decide +kernel
theorem dX8_setControl_98 : decode cX8_setControl 98 = .ok (.invokevirtual 103, 3) := by decide +kernel
theorem dX8_setControl_101 : decode cX8_setControl 101 = .ok (.return_, 1) := by decide +kernel
set_option maxRecDepth 20000 in
theorem ggX8_codes_X8_is : GoodIn wsX8_codes wsX8_is := goodIn_r _ [9] (by decide +kernel) (by decide +kernel)
set_option maxRecDepth 20000 in
theorem gX8_codes_X8_is : GoodIn wsX8_codes (va_wsS RX8 165 yX8_is wsX8_is) := goodIn_app (goodIn_of _ (by decide +kernel)) ggX8_codes_X8_is
set_option maxRecDepth 20000 in
theorem ggX8_codes_X8_setFlag : GoodIn wsX8_codes wsX8_setFlag := goodIn_r _ [13, 14, 15, 16, 17, 58, 59, 60, 61, 62, 63, 64, 65, 66, 67, 68, 69, 70, 71, 72, 73, 74, 75, 76, 77, 78, 79, 80, 81, 82, 83, 84, 85, 86, 87, 88, 89, 90, 91, 92] (by decide +kernel) (by decide +kernel)
set_option maxRecDepth 20000 in
theorem gX8_codes_X8_setFlag : GoodIn wsX8_codes (wsV RX8 181 RX8 yX8_setFlag wsX8_setFlag) := goodIn_app (goodIn_of _ (by decide +kernel)) ggX8_codes_X8_setFlag
set_option maxRecDepth 20000 in
theorem ggX8_codes_X8_flagOf : GoodIn wsX8_codes wsX8_flagOf := goodIn_r _ [21, 14, 15, 16, 58, 59, 60, 61, 62, 63, 64, 65, 66, 67, 68, 69, 70, 71, 72, 73, 74, 75, 76, 77, 78, 79, 80, 81, 82, 83, 84, 85, 86, 87, 88, 89, 90, 91, 92] (by decide +kernel) (by decide +kernel)
set_option maxRecDepth 20000 in
theorem gX8_codes_X8_flagOf : GoodIn wsX8_codes (wsV RX8 185 RX8 yX8_flagOf wsX8_flagOf) := goodIn_app (goodIn_of _ (by decide +kernel)) ggX8_codes_X8_flagOf
set_option maxRecDepth 20000 in
theorem ggX8_codes_X8_skip : GoodIn wsX8_codes wsX8_skip := goodIn_r _ [25, 26, 27, 28, 8, 29, 58, 59, 60, 61, 62, 63, 64, 65, 66, 67, 68, 69, 70, 71, 72, 73, 74, 75, 76, 77, 78, 79, 80, 81, 82, 83, 84, 85, 86, 87, 88, 89, 90, 91, 92] (by decide +kernel) (by decide +kernel)
set_option maxRecDepth 20000 in
theorem gX8_codes_X8_skip : GoodIn wsX8_codes (wsV RX8 147 RX8 yX8_skip wsX8_skip) := goodIn_app (goodIn_of _ (by decide +kernel)) ggX8_codes_X8_skip
set_option maxRecDepth 20000 in
theorem ggX8_codes_X8_told : GoodIn wsX8_codes wsX8_told := goodIn_r _ [33, 34, 35, 36, 58, 59, 60, 61, 62, 63, 64, 65, 66, 67, 68, 69, 70, 71, 72, 73, 74, 75, 76, 77, 78, 79, 80, 81, 82, 83, 84, 85, 86, 87, 88, 89, 90, 91, 92] (by decide +kernel) (by decide +kernel)
set_option maxRecDepth 20000 in
theorem gX8_codes_X8_told : GoodIn wsX8_codes (wsV RX8 189 RX8 yX8_told wsX8_told) := goodIn_app (goodIn_of _ (by decide +kernel)) ggX8_codes_X8_told
set_option maxRecDepth 20000 in
theorem ggX8_codes_X8_goes : GoodIn wsX8_codes wsX8_goes := goodIn_r _ [40, 41, 42, 35, 43, 44, 45, 36, 58, 59, 60, 61, 62, 63, 64, 65, 66, 67, 68, 69, 70, 71, 72, 73, 74, 75, 76, 77, 78, 79, 80, 81, 82, 83, 84, 85, 86, 87, 88, 89, 90, 91, 92] (by decide +kernel) (by decide +kernel)
set_option maxRecDepth 20000 in
theorem gX8_codes_X8_goes : GoodIn wsX8_codes (wsV RX8 192 RX8 yX8_goes wsX8_goes) := goodIn_app (goodIn_of _ (by decide +kernel)) ggX8_codes_X8_goes
set_option maxRecDepth 20000 in
theorem ggX8_codes_X8_setControl : GoodIn wsX8_codes wsX8_setControl := goodIn_r _ [49, 42, 50, 51, 52, 53, 54, 8, 55, 56, 57, 58, 59, 60, 61, 62, 63, 64, 65, 66, 67, 68, 69, 70, 71, 72, 73, 74, 75, 76, 77, 78, 79, 80, 81, 82, 83, 84, 85, 86, 87, 88, 89, 90, 91, 92] (by decide +kernel) (by decide +kernel)
set_option maxRecDepth 20000 in
theorem gX8_codes_X8_setControl : GoodIn wsX8_codes (wsV RX8 195 RX8 yX8_setControl wsX8_setControl) := goodIn_app (goodIn_of _ (by decide +kernel)) ggX8_codes_X8_setControl
theorem dX8_codes_0 : decode cX8_codes 0 = .ok (.iload_n 1, 1) := by decide +kernel
theorem dX8_codes_1 : decode cX8_codes 1 = .ok (.bipush 63, 2) := by decide +kernel
theorem dX8_codes_3 : decode cX8_codes 3 = .ok (.iand, 1) := by decide +kernel
theorem dX8_codes_4 : decode cX8_codes 4 = .ok (.istore_n 2, 1) := by decide +kernel
theorem dX8_codes_5 : decode cX8_codes 5 = .ok (.iload_n 1, 1) := by decide +kernel
theorem dX8_codes_6 : decode cX8_codes 6 = .ok (.bipush 11, 2) := by decide +kernel
theorem dX8_codes_8 : decode cX8_codes 8 = .ok (.invokestatic 165, 3) := by decide +kernel
theorem dX8_codes_11 : decode cX8_codes 11 = .ok (.istore_n 3, 1) := by decide +kernel
theorem dX8_codes_12 : decode cX8_codes 12 = .ok (.iload_n 1, 1) := by decide +kernel
theorem dX8_codes_13 : decode cX8_codes 13 = .ok (.bipush 9, 2) := by decide +kernel
theorem dX8_codes_15 : decode cX8_codes 15 = .ok (.invokestatic 165, 3) := by decide +kernel
theorem dX8_codes_18 : decode cX8_codes 18 = .ok (.istore 4, 2) := by decide +kernel
theorem dX8_codes_20 : decode cX8_codes 20 = .ok (.iload_n 1, 1) := by decide +kernel
theorem dX8_codes_21 : decode cX8_codes 21 = .ok (.bipush 6, 2) := by decide +kernel
theorem dX8_codes_23 : decode cX8_codes 23 = .ok (.ishr, 1) := by decide +kernel
theorem dX8_codes_24 : decode cX8_codes 24 = .ok (.bipush 7, 2) := by decide +kernel
theorem dX8_codes_26 : decode cX8_codes 26 = .ok (.iand, 1) := by decide +kernel
theorem dX8_codes_27 : decode cX8_codes 27 = .ok (.istore 5, 2) := by decide +kernel
theorem dX8_codes_29 : decode cX8_codes 29 = .ok (.iload_n 3, 1) := by decide +kernel
theorem dX8_codes_30 : decode cX8_codes 30 = .ok (.ifCond .eq 10, 3) := by decide +kernel
theorem dX8_codes_33 : decode cX8_codes 33 = .ok (.aload_n 0, 1) := by decide +kernel
theorem dX8_codes_34 : decode cX8_codes 34 = .ok (.getfield 81, 3) := by decide +kernel
theorem dX8_codes_37 : decode cX8_codes 37 = .ok (.goto 7, 3) := by decide +kernel
theorem dX8_codes_40 : decode cX8_codes 40 = .ok (.aload_n 0, 1) := by decide +kernel
theorem dX8_codes_41 : decode cX8_codes 41 = .ok (.getfield 78, 3) := by decide +kernel
theorem dX8_codes_44 : decode cX8_codes 44 = .ok (.istore 6, 2) := by decide +kernel
theorem dX8_codes_46 : decode cX8_codes 46 = .ok (.iload 5, 2) := by decide +kernel
theorem dX8_codes_48 : decode cX8_codes 48 = .ok (.tableswitch 140 0 6 #[44, 57, 75, 95, 107, 120, 130], 44) := by decide +kernel
theorem dX8_codes_92 : decode cX8_codes 92 = .ok (.aload_n 0, 1) := by decide +kernel
theorem dX8_codes_93 : decode cX8_codes 93 = .ok (.iconst 1, 1) := by decide +kernel
theorem dX8_codes_94 : decode cX8_codes 94 = .ok (.putfield 91, 3) := by decide +kernel
theorem dX8_codes_97 : decode cX8_codes 97 = .ok (.aload_n 0, 1) := by decide +kernel
theorem dX8_codes_98 : decode cX8_codes 98 = .ok (.iload_n 2, 1) := by decide +kernel
theorem dX8_codes_99 : decode cX8_codes 99 = .ok (.putfield 13, 3) := by decide +kernel
theorem dX8_codes_102 : decode cX8_codes 102 = .ok (.goto 100, 3) := by decide +kernel
theorem dX8_codes_105 : decode cX8_codes 105 = .ok (.aload_n 0, 1) := by decide +kernel
theorem dX8_codes_106 : decode cX8_codes 106 = .ok (.iload_n 2, 1) := by decide +kernel
theorem dX8_codes_107 : decode cX8_codes 107 = .ok (.iload 4, 2) := by decide +kernel
theorem dX8_codes_109 : decode cX8_codes 109 = .ok (.ifCond .ne 7, 3) := by decide +kernel
theorem dX8_codes_112 : decode cX8_codes 112 = .ok (.iconst 1, 1) := by decide +kernel
theorem dX8_codes_113 : decode cX8_codes 113 = .ok (.goto 4, 3) := by decide +kernel
theorem dX8_codes_116 : decode cX8_codes 116 = .ok (.iconst 0, 1) := by decide +kernel
theorem dX8_codes_117 : decode cX8_codes 117 = .ok (.invokevirtual 181, 3) := by decide +kernel
theorem dX8_codes_120 : decode cX8_codes 120 = .ok (.goto 82, 3) := by decide +kernel
theorem dX8_codes_123 : decode cX8_codes 123 = .ok (.aload_n 0, 1) := by decide +kernel
theorem dX8_codes_124 : decode cX8_codes 124 = .ok (.aload_n 0, 1) := by decide +kernel
theorem dX8_codes_125 : decode cX8_codes 125 = .ok (.iload_n 2, 1) := by decide +kernel
theorem dX8_codes_126 : decode cX8_codes 126 = .ok (.invokevirtual 185, 3) := by decide +kernel
theorem dX8_codes_129 : decode cX8_codes 129 = .ok (.ifCond .ne 7, 3) := by decide +kernel
theorem dX8_codes_132 : decode cX8_codes 132 = .ok (.iconst 1, 1) := by decide +kernel
theorem dX8_codes_133 : decode cX8_codes 133 = .ok (.goto 4, 3) := by decide +kernel
theorem dX8_codes_136 : decode cX8_codes 136 = .ok (.iconst 0, 1) := by decide +kernel
theorem dX8_codes_137 : decode cX8_codes 137 = .ok (.invokevirtual 147, 3) := by decide +kernel
theorem dX8_codes_140 : decode cX8_codes 140 = .ok (.goto 62, 3) := by decide +kernel
theorem dX8_codes_143 : decode cX8_codes 143 = .ok (.aload_n 0, 1) := by decide +kernel
theorem dX8_codes_144 : decode cX8_codes 144 = .ok (.aload_n 0, 1) := by decide +kernel
theorem dX8_codes_145 : decode cX8_codes 145 = .ok (.iload_n 2, 1) := by decide +kernel
theorem dX8_codes_146 : decode cX8_codes 146 = .ok (.invokevirtual 185, 3) := by decide +kernel
theorem dX8_codes_149 : decode cX8_codes 149 = .ok (.invokevirtual 147, 3) := by decide +kernel
theorem dX8_codes_152 : decode cX8_codes 152 = .ok (.goto 50, 3) := by decide +kernel
theorem dX8_codes_155 : decode cX8_codes 155 = .ok (.iload 6, 2) := by decide +kernel
theorem dX8_codes_157 : decode cX8_codes 157 = .ok (.aload_n 0, 1) := by decide +kernel
theorem dX8_codes_158 : decode cX8_codes 158 = .ok (.iload_n 2, 1) := by decide +kernel
theorem dX8_codes_159 : decode cX8_codes 159 = .ok (.invokevirtual 189, 3) := by decide +kernel
theorem dX8_codes_162 : decode cX8_codes 162 = .ok (.ior, 1) := by decide +kernel
theorem dX8_codes_163 : decode cX8_codes 163 = .ok (.istore 6, 2) := by decide +kernel
theorem dX8_codes_165 : decode cX8_codes 165 = .ok (.goto 37, 3) := by decide +kernel
theorem dX8_codes_168 : decode cX8_codes 168 = .ok (.aload_n 0, 1) := by decide +kernel
theorem dX8_codes_169 : decode cX8_codes 169 = .ok (.iload_n 2, 1) := by decide +kernel
theorem dX8_codes_170 : decode cX8_codes 170 = .ok (.invokevirtual 189, 3) := by decide +kernel
theorem dX8_codes_173 : decode cX8_codes 173 = .ok (.istore 6, 2) := by decide +kernel
theorem dX8_codes_175 : decode cX8_codes 175 = .ok (.goto 27, 3) := by decide +kernel
theorem dX8_codes_178 : decode cX8_codes 178 = .ok (.aload_n 0, 1) := by decide +kernel
theorem dX8_codes_179 : decode cX8_codes 179 = .ok (.iload_n 2, 1) := by decide +kernel
theorem dX8_codes_180 : decode cX8_codes 180 = .ok (.iload 6, 2) := by decide +kernel
theorem dX8_codes_182 : decode cX8_codes 182 = .ok (.invokevirtual 192, 3) := by decide +kernel
theorem dX8_codes_185 : decode cX8_codes 185 = .ok (.goto 17, 3) := by decide +kernel
theorem dX8_codes_188 : decode cX8_codes 188 = .ok (.aload_n 0, 1) := by decide +kernel
theorem dX8_codes_189 : decode cX8_codes 189 = .ok (.iload_n 2, 1) := by decide +kernel
theorem dX8_codes_190 : decode cX8_codes 190 = .ok (.iload_n 3, 1) := by decide +kernel
theorem dX8_codes_191 : decode cX8_codes 191 = .ok (.ifCond .ne 7, 3) := by decide +kernel
theorem dX8_codes_194 : decode cX8_codes 194 = .ok (.iconst 1, 1) := by decide +kernel
theorem dX8_codes_195 : decode cX8_codes 195 = .ok (.goto 4, 3) := by decide +kernel
theorem dX8_codes_198 : decode cX8_codes 198 = .ok (.iconst 0, 1) := by decide +kernel
theorem dX8_codes_199 : decode cX8_codes 199 = .ok (.invokevirtual 195, 3) := by decide +kernel
theorem dX8_codes_202 : decode cX8_codes 202 = .ok (.iload 5, 2) := by decide +kernel
theorem dX8_codes_204 : decode cX8_codes 204 = .ok (.iconst 4, 1) := by decide +kernel
theorem dX8_codes_205 : decode cX8_codes 205 = .ok (.if_icmp .eq 9, 3) := by decide +kernel
theorem dX8_codes_208 : decode cX8_codes 208 = .ok (.iload 5, 2) := by decide +kernel
theorem dX8_codes_210 : decode cX8_codes 210 = .ok (.iconst 5, 1) := by decide +kernel
end
section
theorem dX8_codes_211 : decode cX8_codes 211 = .ok (.if_icmp .ne 22, 3) := by decide +kernel
theorem dX8_codes_214 : decode cX8_codes 214 = .ok (.iload_n 3, 1) := by decide +kernel
theorem dX8_codes_215 : decode cX8_codes 215 = .ok (.ifCond .eq 12, 3) := by decide +kernel
theorem dX8_codes_218 : decode cX8_codes 218 = .ok (.aload_n 0, 1) := by decide +kernel
theorem dX8_codes_219 : decode cX8_codes 219 = .ok (.iload 6, 2) := by decide +kernel
theorem dX8_codes_221 : decode cX8_codes 221 = .ok (.putfield 81, 3) := by decide +kernel
theorem dX8_codes_224 : decode cX8_codes 224 = .ok (.goto 9, 3) := by decide +kernel
theorem dX8_codes_227 : decode cX8_codes 227 = .ok (.aload_n 0, 1) := by decide +kernel
theorem dX8_codes_228 : decode cX8_codes 228 = .ok (.iload 6, 2) := by decide +kernel
theorem dX8_codes_230 : decode cX8_codes 230 = .ok (.putfield 78, 3) := by decide +kernel
theorem dX8_codes_233 : decode cX8_codes 233 = .ok (.iload 4, 2) := by decide +kernel
theorem dX8_codes_235 : decode cX8_codes 235 = .ok (.ifCond .eq 27, 3) := by decide +kernel
theorem dX8_codes_238 : decode cX8_codes 238 = .ok (.iload 5, 2) := by decide +kernel
theorem dX8_codes_240 : decode cX8_codes 240 = .ok (.iconst 1, 1) := by decide +kernel
theorem dX8_codes_241 : decode cX8_codes 241 = .ok (.if_icmp .eq 21, 3) := by decide +kernel
theorem dX8_codes_244 : decode cX8_codes 244 = .ok (.iload 5, 2) := by decide +kernel
theorem dX8_codes_246 : decode cX8_codes 246 = .ok (.iconst 2, 1) := by decide +kernel
theorem dX8_codes_247 : decode cX8_codes 247 = .ok (.if_icmp .eq 15, 3) := by decide +kernel
theorem dX8_codes_250 : decode cX8_codes 250 = .ok (.iload 5, 2) := by decide +kernel
theorem dX8_codes_252 : decode cX8_codes 252 = .ok (.iconst 3, 1) := by decide +kernel
theorem dX8_codes_253 : decode cX8_codes 253 = .ok (.if_icmp .eq 9, 3) := by decide +kernel
theorem dX8_codes_256 : decode cX8_codes 256 = .ok (.aload_n 0, 1) := by decide +kernel
theorem dX8_codes_257 : decode cX8_codes 257 = .ok (.iload_n 2, 1) := by decide +kernel
theorem dX8_codes_258 : decode cX8_codes 258 = .ok (.iconst 0, 1) := by decide +kernel
theorem dX8_codes_259 : decode cX8_codes 259 = .ok (.invokevirtual 181, 3) := by decide +kernel
theorem dX8_codes_262 : decode cX8_codes 262 = .ok (.aload_n 0, 1) := by decide +kernel
theorem dX8_codes_263 : decode cX8_codes 263 = .ok (.iload 5, 2) := by decide +kernel
theorem dX8_codes_265 : decode cX8_codes 265 = .ok (.iconst 1, 1) := by decide +kernel
theorem dX8_codes_266 : decode cX8_codes 266 = .ok (.if_icmp .eq 27, 3) := by decide +kernel
theorem dX8_codes_269 : decode cX8_codes 269 = .ok (.iload 5, 2) := by decide +kernel
theorem dX8_codes_271 : decode cX8_codes 271 = .ok (.bipush 7, 2) := by decide +kernel
theorem dX8_codes_273 : decode cX8_codes 273 = .ok (.if_icmp .eq 20, 3) := by decide +kernel
theorem dX8_codes_276 : decode cX8_codes 276 = .ok (.iload 4, 2) := by decide +kernel
theorem dX8_codes_278 : decode cX8_codes 278 = .ok (.ifCond .eq 19, 3) := by decide +kernel
theorem dX8_codes_281 : decode cX8_codes 281 = .ok (.iload 5, 2) := by decide +kernel
theorem dX8_codes_283 : decode cX8_codes 283 = .ok (.iconst 2, 1) := by decide +kernel
theorem dX8_codes_284 : decode cX8_codes 284 = .ok (.if_icmp .eq 13, 3) := by decide +kernel
theorem dX8_codes_287 : decode cX8_codes 287 = .ok (.iload 5, 2) := by decide +kernel
theorem dX8_codes_289 : decode cX8_codes 289 = .ok (.iconst 3, 1) := by decide +kernel
theorem dX8_codes_290 : decode cX8_codes 290 = .ok (.if_icmp .eq 7, 3) := by decide +kernel
theorem dX8_codes_293 : decode cX8_codes 293 = .ok (.iconst 1, 1) := by decide +kernel
theorem dX8_codes_294 : decode cX8_codes 294 = .ok (.goto 4, 3) := by decide +kernel
theorem dX8_codes_297 : decode cX8_codes 297 = .ok (.iconst 0, 1) := by decide +kernel
theorem dX8_codes_298 : decode cX8_codes 298 = .ok (.putfield 122, 3) := by decide +kernel
theorem dX8_codes_301 : decode cX8_codes 301 = .ok (.return_, 1) := by decide +kernel
theorem dX8_both_0 : decode cX8_both 0 = .ok (.aload_n 0, 1) := by decide +kernel
theorem dX8_both_1 : decode cX8_both 1 = .ok (.getfield 81, 3) := by decide +kernel
theorem dX8_both_4 : decode cX8_both 4 = .ok (.i2l, 1) := by decide +kernel
theorem dX8_both_5 : decode cX8_both 5 = .ok (.bipush 16, 2) := by decide +kernel
theorem dX8_both_7 : decode cX8_both 7 = .ok (.lshl, 1) := by decide +kernel
theorem dX8_both_8 : decode cX8_both 8 = .ok (.aload_n 0, 1) := by decide +kernel
theorem dX8_both_9 : decode cX8_both 9 = .ok (.getfield 78, 3) := by decide +kernel
theorem dX8_both_12 : decode cX8_both 12 = .ok (.i2l, 1) := by decide +kernel
theorem dX8_both_13 : decode cX8_both 13 = .ok (.lor, 1) := by decide +kernel
theorem dX8_both_14 : decode cX8_both 14 = .ok (.lreturn, 1) := by decide +kernel
theorem dX8_both__0 : decode cX8_both_ 0 = .ok (.aload_n 0, 1) := by decide +kernel
theorem dX8_both__1 : decode cX8_both_ 1 = .ok (.lload_n 1, 1) := by decide +kernel
theorem dX8_both__2 : decode cX8_both_ 2 = .ok (.l2i, 1) := by decide +kernel
theorem dX8_both__3 : decode cX8_both_ 3 = .ok (.ldc 102, 2) := by decide +kernel
theorem dX8_both__5 : decode cX8_both_ 5 = .ok (.iand, 1) := by decide +kernel
theorem dX8_both__6 : decode cX8_both_ 6 = .ok (.putfield 78, 3) := by decide +kernel
theorem dX8_both__9 : decode cX8_both_ 9 = .ok (.aload_n 0, 1) := by decide +kernel
theorem dX8_both__10 : decode cX8_both_ 10 = .ok (.lload_n 1, 1) := by decide +kernel
theorem dX8_both__11 : decode cX8_both_ 11 = .ok (.bipush 16, 2) := by decide +kernel
theorem dX8_both__13 : decode cX8_both_ 13 = .ok (.lshr, 1) := by decide +kernel
theorem dX8_both__14 : decode cX8_both_ 14 = .ok (.l2i, 1) := by decide +kernel
theorem dX8_both__15 : decode cX8_both_ 15 = .ok (.ldc 102, 2) := by decide +kernel
theorem dX8_both__17 : decode cX8_both_ 17 = .ok (.iand, 1) := by decide +kernel
theorem dX8_both__18 : decode cX8_both_ 18 = .ok (.putfield 81, 3) := by decide +kernel
theorem dX8_both__21 : decode cX8_both_ 21 = .ok (.return_, 1) := by decide +kernel
set_option maxRecDepth 20000 in
theorem ggX8_extended_X8_more : GoodIn wsX8_extended wsX8_more := goodIn_r _ [10] (by decide +kernel) (by decide +kernel)
set_option maxRecDepth 20000 in
theorem gX8_extended_X8_more : GoodIn wsX8_extended (va_wsS RX8 87 yX8_more wsX8_more) := goodIn_app (goodIn_of _ (by decide +kernel)) ggX8_extended_X8_more
set_option maxRecDepth 20000 in
theorem ggX8_extended_X8_at : GoodIn wsX8_extended wsX8_at := goodIn_r _ [14, 15, 16, 17, 52, 53, 54, 55, 56, 57, 58, 59, 60, 61, 62, 63, 64, 65, 66, 67, 68, 69, 70, 71, 72, 73, 74, 75, 76, 77, 78, 79, 80, 81, 82, 83, 84, 85, 86] (by decide +kernel) (by decide +kernel)
set_option maxRecDepth 20000 in
theorem gX8_extended_X8_at : GoodIn wsX8_extended (wsV RX8 95 RX8 yX8_at wsX8_at) := goodIn_app (goodIn_of _ (by decide +kernel)) ggX8_extended_X8_at
set_option maxRecDepth 20000 in
theorem ggX8_extended_X8_direct : GoodIn wsX8_extended wsX8_direct := goodIn_r _ [21, 22, 23, 11, 12, 13, 9, 14, 15, 16, 17, 52, 53, 54, 55, 56, 57, 58, 59, 60, 61, 62, 63, 64, 65, 66, 67, 68, 69, 70, 71, 72, 73, 74, 75, 76, 77, 78, 79, 80, 81, 82, 83, 84, 85, 86] (by decide +kernel) (by decide +kernel)
set_option maxRecDepth 20000 in
theorem gX8_extended_X8_direct : GoodIn wsX8_extended (wsV RX8 144 RX8 yX8_direct wsX8_direct) := goodIn_app (goodIn_of _ (by decide +kernel)) ggX8_extended_X8_direct
set_option maxRecDepth 20000 in
theorem ggX8_extended_X8_twoWords : GoodIn wsX8_extended wsX8_twoWords := goodIn_r _ [27, 1, 15, 6, 2, 28, 29, 30, 16, 3, 7, 8, 9, 10, 31, 32, 33, 34, 11, 12, 13, 14, 17, 35, 36, 37, 38, 39, 40, 41, 42, 43, 44, 45, 46, 52, 53, 54, 55, 56, 57, 58, 59, 60, 61, 62, 63, 64, 65, 66, 67, 68, 69, 70, 71, 72, 73, 74, 75, 76, 77, 78, 79, 80, 81, 82, 83, 84, 85, 86] (by decide +kernel) (by decide +kernel)
set_option maxRecDepth 20000 in
theorem gX8_extended_X8_twoWords : GoodIn wsX8_extended (wsV RX8 202 RX8 yX8_twoWords wsX8_twoWords) := goodIn_app (goodIn_of _ (by decide +kernel)) ggX8_extended_X8_twoWords
set_option maxRecDepth 20000 in
theorem ggX8_extended_X8_both : GoodIn wsX8_extended wsX8_both := goodIn_r _ [42, 16, 15, 52, 53, 54, 55, 56, 57, 58, 59, 60, 61, 62, 63, 64, 65, 66, 67, 68, 69, 70, 71, 72, 73, 74, 75, 76, 77, 78, 79, 80, 81, 82, 83, 84, 85, 86] (by decide +kernel) (by decide +kernel)
set_option maxRecDepth 20000 in
theorem gX8_extended_X8_both : GoodIn wsX8_extended (wsV RX8 205 RX8 yX8_both wsX8_both) := goodIn_app (goodIn_of _ (by decide +kernel)) ggX8_extended_X8_both
set_option maxRecDepth 20000 in
theorem ggX8_extended_X8_leftSigned : GoodIn wsX8_extended wsX8_leftSigned := goodIn_r _ [50, 6, 51, 39, 40, 41, 9, 42, 16, 15, 35, 36, 37, 38, 30, 52, 53, 54, 55, 56, 57, 58, 59, 60, 61, 62, 63, 64, 65, 66, 67, 68, 69, 70, 71, 72, 73, 74, 75, 76, 77, 78, 79, 80, 81, 82, 83, 84, 85, 86] (by decide +kernel) (by decide +kernel)
set_option maxRecDepth 20000 in
theorem gX8_extended_X8_leftSigned : GoodIn wsX8_extended (wsV RX8 209 RX8 yX8_leftSigned wsX8_leftSigned) := goodIn_app (goodIn_of _ (by decide +kernel)) ggX8_extended_X8_leftSigned
set_option maxRecDepth 20000 in
theorem ggX8_extended_X8_both_ : GoodIn wsX8_extended wsX8_both_ := goodIn_r _ [38, 30, 15, 16, 52, 53, 54, 55, 56, 57, 58, 59, 60, 61, 62, 63, 64, 65, 66, 67, 68, 69, 70, 71, 72, 73, 74, 75, 76, 77, 78, 79, 80, 81, 82, 83, 84, 85, 86] (by decide +kernel) (by decide +kernel)
set_option maxRecDepth 20000 in
theorem gX8_extended_X8_both_ : GoodIn wsX8_extended (wsV RX8 212 RX8 yX8_both_ wsX8_both_) := goodIn_app (goodIn_of _ (by decide +kernel)) ggX8_extended_X8_both_
theorem dX8_extended_0 : decode cX8_extended 0 = .ok (.iload_n 1, 1) := by decide +kernel
theorem dX8_extended_1 : decode cX8_extended 1 = .ok (.ldc 198, 2) := by decide +kernel
theorem dX8_extended_3 : decode cX8_extended 3 = .ok (.if_icmp .eq 21, 3) := by decide +kernel
theorem dX8_extended_6 : decode cX8_extended 6 = .ok (.iload_n 1, 1) := by decide +kernel
theorem dX8_extended_7 : decode cX8_extended 7 = .ok (.ldc 199, 2) := by decide +kernel
theorem dX8_extended_9 : decode cX8_extended 9 = .ok (.if_icmp .eq 15, 3) := by decide +kernel
theorem dX8_extended_12 : decode cX8_extended 12 = .ok (.iload_n 1, 1) := by decide +kernel
theorem dX8_extended_13 : decode cX8_extended 13 = .ok (.ldc 200, 2) := by decide +kernel
theorem dX8_extended_15 : decode cX8_extended 15 = .ok (.if_icmp .eq 9, 3) := by decide +kernel
theorem dX8_extended_18 : decode cX8_extended 18 = .ok (.iload_n 1, 1) := by decide +kernel
theorem dX8_extended_19 : decode cX8_extended 19 = .ok (.ldc 201, 2) := by decide +kernel
theorem dX8_extended_21 : decode cX8_extended 21 = .ok (.if_icmp .ne 41, 3) := by decide +kernel
theorem dX8_extended_24 : decode cX8_extended 24 = .ok (.aload_n 0, 1) := by decide +kernel
theorem dX8_extended_25 : decode cX8_extended 25 = .ok (.getfield 84, 3) := by decide +kernel
theorem dX8_extended_28 : decode cX8_extended 28 = .ok (.istore_n 2, 1) := by decide +kernel
theorem dX8_extended_29 : decode cX8_extended 29 = .ok (.aload_n 0, 1) := by decide +kernel
theorem dX8_extended_30 : decode cX8_extended 30 = .ok (.aload_n 0, 1) := by decide +kernel
theorem dX8_extended_31 : decode cX8_extended 31 = .ok (.getfield 84, 3) := by decide +kernel
theorem dX8_extended_34 : decode cX8_extended 34 = .ok (.invokestatic 87, 3) := by decide +kernel
theorem dX8_extended_37 : decode cX8_extended 37 = .ok (.putfield 84, 3) := by decide +kernel
theorem dX8_extended_40 : decode cX8_extended 40 = .ok (.aload_n 0, 1) := by decide +kernel
theorem dX8_extended_41 : decode cX8_extended 41 = .ok (.aload_n 0, 1) := by decide +kernel
theorem dX8_extended_42 : decode cX8_extended 42 = .ok (.iload_n 2, 1) := by decide +kernel
theorem dX8_extended_43 : decode cX8_extended 43 = .ok (.invokevirtual 95, 3) := by decide +kernel
theorem dX8_extended_46 : decode cX8_extended 46 = .ok (.invokevirtual 144, 3) := by decide +kernel
theorem dX8_extended_49 : decode cX8_extended 49 = .ok (.istore_n 3, 1) := by decide +kernel
theorem dX8_extended_50 : decode cX8_extended 50 = .ok (.iload_n 3, 1) := by decide +kernel
theorem dX8_extended_51 : decode cX8_extended 51 = .ok (.iconst (-1), 1) := by decide +kernel
theorem dX8_extended_52 : decode cX8_extended 52 = .ok (.if_icmp .eq 9, 3) := by decide +kernel
theorem dX8_extended_55 : decode cX8_extended 55 = .ok (.aload_n 0, 1) := by decide +kernel
theorem dX8_extended_56 : decode cX8_extended 56 = .ok (.iload_n 1, 1) := by decide +kernel
theorem dX8_extended_57 : decode cX8_extended 57 = .ok (.iload_n 3, 1) := by decide +kernel
theorem dX8_extended_58 : decode cX8_extended 58 = .ok (.invokevirtual 202, 3) := by decide +kernel
theorem dX8_extended_61 : decode cX8_extended 61 = .ok (.return_, 1) := by decide +kernel
theorem dX8_extended_62 : decode cX8_extended 62 = .ok (.iload_n 1, 1) := by decide +kernel
theorem dX8_extended_63 : decode cX8_extended 63 = .ok (.bipush 15, 2) := by decide +kernel
theorem dX8_extended_65 : decode cX8_extended 65 = .ok (.iand, 1) := by decide +kernel
theorem dX8_extended_66 : decode cX8_extended 66 = .ok (.ifCond .ne 8, 3) := by decide +kernel
theorem dX8_extended_69 : decode cX8_extended 69 = .ok (.bipush 16, 2) := by decide +kernel
theorem dX8_extended_71 : decode cX8_extended 71 = .ok (.goto 7, 3) := by decide +kernel
theorem dX8_extended_74 : decode cX8_extended 74 = .ok (.iload_n 1, 1) := by decide +kernel
theorem dX8_extended_75 : decode cX8_extended 75 = .ok (.bipush 15, 2) := by decide +kernel
theorem dX8_extended_77 : decode cX8_extended 77 = .ok (.iand, 1) := by decide +kernel
theorem dX8_extended_78 : decode cX8_extended 78 = .ok (.istore_n 2, 1) := by decide +kernel
theorem dX8_extended_79 : decode cX8_extended 79 = .ok (.aload_n 0, 1) := by decide +kernel
theorem dX8_extended_80 : decode cX8_extended 80 = .ok (.invokevirtual 205, 3) := by decide +kernel
theorem dX8_extended_83 : decode cX8_extended 83 = .ok (.lstore_n 3, 1) := by decide +kernel
theorem dX8_extended_84 : decode cX8_extended 84 = .ok (.iload_n 1, 1) := by decide +kernel
theorem dX8_extended_85 : decode cX8_extended 85 = .ok (.bipush (-16), 2) := by decide +kernel
theorem dX8_extended_87 : decode cX8_extended 87 = .ok (.iand, 1) := by decide +kernel
theorem dX8_extended_88 : decode cX8_extended 88 = .ok (.lookupswitch 139 #[(32784, 60), (32800, 85), (32832, 105), (33296, 68), (33312, 95), (33344, 122)], 60) := by decide +kernel
theorem dX8_extended_148 : decode cX8_extended 148 = .ok (.aload_n 0, 1) := by decide +kernel
theorem dX8_extended_149 : decode cX8_extended 149 = .ok (.iload_n 2, 1) := by decide +kernel
theorem dX8_extended_150 : decode cX8_extended 150 = .ok (.invokevirtual 209, 3) := by decide +kernel
theorem dX8_extended_153 : decode cX8_extended 153 = .ok (.goto 74, 3) := by decide +kernel
theorem dX8_extended_156 : decode cX8_extended 156 = .ok (.aload_n 0, 1) := by decide +kernel
theorem dX8_extended_157 : decode cX8_extended 157 = .ok (.lload_n 3, 1) := by decide +kernel
theorem dX8_extended_158 : decode cX8_extended 158 = .ok (.l2i, 1) := by decide +kernel
theorem dX8_extended_159 : decode cX8_extended 159 = .ok (.i2l, 1) := by decide +kernel
theorem dX8_extended_160 : decode cX8_extended 160 = .ok (.iload_n 2, 1) := by decide +kernel
theorem dX8_extended_161 : decode cX8_extended 161 = .ok (.lshr, 1) := by decide +kernel
theorem dX8_extended_162 : decode cX8_extended 162 = .ok (.invokevirtual 212, 3) := by decide +kernel
theorem dX8_extended_165 : decode cX8_extended 165 = .ok (.aload_n 0, 1) := by decide +kernel
theorem dX8_extended_166 : decode cX8_extended 166 = .ok (.iconst 0, 1) := by decide +kernel
theorem dX8_extended_167 : decode cX8_extended 167 = .ok (.putfield 159, 3) := by decide +kernel
theorem dX8_extended_170 : decode cX8_extended 170 = .ok (.goto 57, 3) := by decide +kernel
theorem dX8_extended_173 : decode cX8_extended 173 = .ok (.aload_n 0, 1) := by decide +kernel
theorem dX8_extended_174 : decode cX8_extended 174 = .ok (.lload_n 3, 1) := by decide +kernel
theorem dX8_extended_175 : decode cX8_extended 175 = .ok (.iload_n 2, 1) := by decide +kernel
theorem dX8_extended_176 : decode cX8_extended 176 = .ok (.lshl, 1) := by decide +kernel
theorem dX8_extended_177 : decode cX8_extended 177 = .ok (.invokevirtual 212, 3) := by decide +kernel
theorem dX8_extended_180 : decode cX8_extended 180 = .ok (.goto 47, 3) := by decide +kernel
theorem dX8_extended_183 : decode cX8_extended 183 = .ok (.aload_n 0, 1) := by decide +kernel
theorem dX8_extended_184 : decode cX8_extended 184 = .ok (.lload_n 3, 1) := by decide +kernel
theorem dX8_extended_185 : decode cX8_extended 185 = .ok (.iload_n 2, 1) := by decide +kernel
theorem dX8_extended_186 : decode cX8_extended 186 = .ok (.lshr, 1) := by decide +kernel
theorem dX8_extended_187 : decode cX8_extended 187 = .ok (.invokevirtual 212, 3) := by decide +kernel
theorem dX8_extended_190 : decode cX8_extended 190 = .ok (.goto 37, 3) := by decide +kernel
theorem dX8_extended_193 : decode cX8_extended 193 = .ok (.aload_n 0, 1) := by decide +kernel
theorem dX8_extended_194 : decode cX8_extended 194 = .ok (.lload_n 3, 1) := by decide +kernel
theorem dX8_extended_195 : decode cX8_extended 195 = .ok (.iload_n 2, 1) := by decide +kernel
theorem dX8_extended_196 : decode cX8_extended 196 = .ok (.lshl, 1) := by decide +kernel
theorem dX8_extended_197 : decode cX8_extended 197 = .ok (.lload_n 3, 1) := by decide +kernel
theorem dX8_extended_198 : decode cX8_extended 198 = .ok (.bipush 32, 2) := by decide +kernel
theorem dX8_extended_200 : decode cX8_extended 200 = .ok (.iload_n 2, 1) := by decide +kernel
theorem dX8_extended_201 : decode cX8_extended 201 = .ok (.isub, 1) := by decide +kernel
theorem dX8_extended_202 : decode cX8_extended 202 = .ok (.lshr, 1) := by decide +kernel
theorem dX8_extended_203 : decode cX8_extended 203 = .ok (.lor, 1) := by decide +kernel
theorem dX8_extended_204 : decode cX8_extended 204 = .ok (.invokevirtual 212, 3) := by decide +kernel
theorem dX8_extended_207 : decode cX8_extended 207 = .ok (.goto 20, 3) := by decide +kernel
theorem dX8_extended_210 : decode cX8_extended 210 = .ok (.aload_n 0, 1) := by decide +kernel
theorem dX8_extended_211 : decode cX8_extended 211 = .ok (.lload_n 3, 1) := by decide +kernel
theorem dX8_extended_212 : decode cX8_extended 212 = .ok (.iload_n 2, 1) := by decide +kernel
theorem dX8_extended_213 : decode cX8_extended 213 = .ok (.lshr, 1) := by decide +kernel
theorem dX8_extended_214 : decode cX8_extended 214 = .ok (.lload_n 3, 1) := by decide +kernel
theorem dX8_extended_215 : decode cX8_extended 215 = .ok (.bipush 32, 2) := by decide +kernel
theorem dX8_extended_217 : decode cX8_extended 217 = .ok (.iload_n 2, 1) := by decide +kernel
theorem dX8_extended_218 : decode cX8_extended 218 = .ok (.isub, 1) := by decide +kernel
theorem dX8_extended_219 : decode cX8_extended 219 = .ok (.lshl, 1) := by decide +kernel
theorem dX8_extended_220 : decode cX8_extended 220 = .ok (.lor, 1) := by decide +kernel
theorem dX8_extended_221 : decode cX8_extended 221 = .ok (.invokevirtual 212, 3) := by decide +kernel
theorem dX8_extended_224 : decode cX8_extended 224 = .ok (.goto 3, 3) := by decide +kernel
theorem dX8_extended_227 : decode cX8_extended 227 = .ok (.return_, 1) := by decide +kernel
set_option maxRecDepth 20000 in
theorem ggX8_leftSigned_X8_both : GoodIn wsX8_leftSigned wsX8_both := goodIn_r _ [7, 8, 9, 15, 16, 17, 18, 19, 20, 21, 22, 23, 24, 25, 26, 27, 28, 29, 30, 31, 32, 33, 34, 35, 36, 37, 38, 39, 40, 41, 42, 43, 44, 45, 46, 47, 48, 49] (by decide +kernel) (by decide +kernel)
set_option maxRecDepth 20000 in
theorem gX8_leftSigned_X8_both : GoodIn wsX8_leftSigned (wsV RX8 205 RX8 yX8_both wsX8_both) := goodIn_app (goodIn_of _ (by decide +kernel)) ggX8_leftSigned_X8_both
set_option maxRecDepth 20000 in
theorem ggX8_leftSigned_X8_both_ : GoodIn wsX8_leftSigned wsX8_both_ := goodIn_r _ [13, 14, 9, 8, 15, 16, 17, 18, 19, 20, 21, 22, 23, 24, 25, 26, 27, 28, 29, 30, 31, 32, 33, 34, 35, 36, 37, 38, 39, 40, 41, 42, 43, 44, 45, 46, 47, 48, 49] (by decide +kernel) (by decide +kernel)
set_option maxRecDepth 20000 in
theorem gX8_leftSigned_X8_both_ : GoodIn wsX8_leftSigned (wsV RX8 212 RX8 yX8_both_ wsX8_both_) := goodIn_app (goodIn_of _ (by decide +kernel)) ggX8_leftSigned_X8_both_
theorem dX8_leftSigned_0 : decode cX8_leftSigned 0 = .ok (.aload_n 0, 1) := by decide +kernel
theorem dX8_leftSigned_1 : decode cX8_leftSigned 1 = .ok (.invokevirtual 205, 3) := by decide +kernel
theorem dX8_leftSigned_4 : decode cX8_leftSigned 4 = .ok (.lstore_n 2, 1) := by decide +kernel
theorem dX8_leftSigned_5 : decode cX8_leftSigned 5 = .ok (.lload_n 2, 1) := by decide +kernel
theorem dX8_leftSigned_6 : decode cX8_leftSigned 6 = .ok (.bipush 31, 2) := by decide +kernel
theorem dX8_leftSigned_8 : decode cX8_leftSigned 8 = .ok (.lshr, 1) := by decide +kernel
theorem dX8_leftSigned_9 : decode cX8_leftSigned 9 = .ok (.lconst 1, 1) := by decide +kernel
theorem dX8_leftSigned_10 : decode cX8_leftSigned 10 = .ok (.land, 1) := by decide +kernel
theorem dX8_leftSigned_11 : decode cX8_leftSigned 11 = .ok (.lstore 4, 2) := by decide +kernel
theorem dX8_leftSigned_13 : decode cX8_leftSigned 13 = .ok (.aload_n 0, 1) := by decide +kernel
theorem dX8_leftSigned_14 : decode cX8_leftSigned 14 = .ok (.iconst 0, 1) := by decide +kernel
theorem dX8_leftSigned_15 : decode cX8_leftSigned 15 = .ok (.putfield 159, 3) := by decide +kernel
theorem dX8_leftSigned_18 : decode cX8_leftSigned 18 = .ok (.iconst 0, 1) := by decide +kernel
theorem dX8_leftSigned_19 : decode cX8_leftSigned 19 = .ok (.istore 6, 2) := by decide +kernel
theorem dX8_leftSigned_21 : decode cX8_leftSigned 21 = .ok (.iload 6, 2) := by decide +kernel
theorem dX8_leftSigned_23 : decode cX8_leftSigned 23 = .ok (.iload_n 1, 1) := by decide +kernel
theorem dX8_leftSigned_24 : decode cX8_leftSigned 24 = .ok (.if_icmp .ge 40, 3) := by decide +kernel
theorem dX8_leftSigned_27 : decode cX8_leftSigned 27 = .ok (.lload_n 2, 1) := by decide +kernel
theorem dX8_leftSigned_28 : decode cX8_leftSigned 28 = .ok (.bipush 30, 2) := by decide +kernel
theorem dX8_leftSigned_30 : decode cX8_leftSigned 30 = .ok (.lshr, 1) := by decide +kernel
theorem dX8_leftSigned_31 : decode cX8_leftSigned 31 = .ok (.lconst 1, 1) := by decide +kernel
theorem dX8_leftSigned_32 : decode cX8_leftSigned 32 = .ok (.land, 1) := by decide +kernel
theorem dX8_leftSigned_33 : decode cX8_leftSigned 33 = .ok (.lload 4, 2) := by decide +kernel
theorem dX8_leftSigned_35 : decode cX8_leftSigned 35 = .ok (.lcmp, 1) := by decide +kernel
theorem dX8_leftSigned_36 : decode cX8_leftSigned 36 = .ok (.ifCond .eq 8, 3) := by decide +kernel
theorem dX8_leftSigned_39 : decode cX8_leftSigned 39 = .ok (.aload_n 0, 1) := by decide +kernel
theorem dX8_leftSigned_40 : decode cX8_leftSigned 40 = .ok (.iconst 1, 1) := by decide +kernel
theorem dX8_leftSigned_41 : decode cX8_leftSigned 41 = .ok (.putfield 159, 3) := by decide +kernel
theorem dX8_leftSigned_44 : decode cX8_leftSigned 44 = .ok (.lload_n 2, 1) := by decide +kernel
theorem dX8_leftSigned_45 : decode cX8_leftSigned 45 = .ok (.iconst 1, 1) := by decide +kernel
theorem dX8_leftSigned_46 : decode cX8_leftSigned 46 = .ok (.lshl, 1) := by decide +kernel
theorem dX8_leftSigned_47 : decode cX8_leftSigned 47 = .ok (.ldc2_w 215, 3) := by decide +kernel
theorem dX8_leftSigned_50 : decode cX8_leftSigned 50 = .ok (.land, 1) := by decide +kernel
theorem dX8_leftSigned_51 : decode cX8_leftSigned 51 = .ok (.lload 4, 2) := by decide +kernel
theorem dX8_leftSigned_53 : decode cX8_leftSigned 53 = .ok (.bipush 31, 2) := by decide +kernel
theorem dX8_leftSigned_55 : decode cX8_leftSigned 55 = .ok (.lshl, 1) := by decide +kernel
theorem dX8_leftSigned_56 : decode cX8_leftSigned 56 = .ok (.lor, 1) := by decide +kernel
theorem dX8_leftSigned_57 : decode cX8_leftSigned 57 = .ok (.lstore_n 2, 1) := by decide +kernel
theorem dX8_leftSigned_58 : decode cX8_leftSigned 58 = .ok (.iinc 6 1, 3) := by decide +kernel
theorem dX8_leftSigned_61 : decode cX8_leftSigned 61 = .ok (.goto (-40), 3) := by decide +kernel
theorem dX8_leftSigned_64 : decode cX8_leftSigned 64 = .ok (.aload_n 0, 1) := by decide +kernel
theorem dX8_leftSigned_65 : decode cX8_leftSigned 65 = .ok (.lload_n 2, 1) := by decide +kernel
theorem dX8_leftSigned_66 : decode cX8_leftSigned 66 = .ok (.invokevirtual 212, 3) := by decide +kernel
theorem dX8_leftSigned_69 : decode cX8_leftSigned 69 = .ok (.return_, 1) := by decide +kernel
set_option maxRecDepth 20000 in
theorem ggX8_twoWords_X8_more : GoodIn wsX8_twoWords wsX8_more := goodIn_r _ [13] (by decide +kernel) (by decide +kernel)
set_option maxRecDepth 20000 in
theorem gX8_twoWords_X8_more : GoodIn wsX8_twoWords (va_wsS RX8 87 yX8_more wsX8_more) := goodIn_app (goodIn_of _ (by decide +kernel)) ggX8_twoWords_X8_more
set_option maxRecDepth 20000 in
theorem ggX8_twoWords_X8_signed : GoodIn wsX8_twoWords wsX8_signed := goodIn_r _ [16, 17] (by decide +kernel) (by decide +kernel)
set_option maxRecDepth 20000 in
theorem gX8_twoWords_X8_signed : GoodIn wsX8_twoWords (va_wsS RX8 156 yX8_signed wsX8_signed) := goodIn_app (goodIn_of _ (by decide +kernel)) ggX8_twoWords_X8_signed
set_option maxRecDepth 20000 in
theorem ggX8_twoWords_X8_at : GoodIn wsX8_twoWords wsX8_at := goodIn_r _ [21, 2, 8, 22, 35, 36, 37, 38, 39, 40, 41, 42, 43, 44, 45, 46, 47, 48, 49, 50, 51, 52, 53, 54, 55, 56, 57, 58, 59, 60, 61, 62, 63, 64, 65, 66, 67, 68, 69] (by decide +kernel) (by decide +kernel)
set_option maxRecDepth 20000 in
theorem gX8_twoWords_X8_at : GoodIn wsX8_twoWords (wsV RX8 95 RX8 yX8_at wsX8_at) := goodIn_app (goodIn_of _ (by decide +kernel)) ggX8_twoWords_X8_at
set_option maxRecDepth 20000 in
theorem ggX8_twoWords_X8_both_ : GoodIn wsX8_twoWords wsX8_both_ := goodIn_r _ [26, 7, 2, 8, 35, 36, 37, 38, 39, 40, 41, 42, 43, 44, 45, 46, 47, 48, 49, 50, 51, 52, 53, 54, 55, 56, 57, 58, 59, 60, 61, 62, 63, 64, 65, 66, 67, 68, 69] (by decide +kernel) (by decide +kernel)
set_option maxRecDepth 20000 in
theorem gX8_twoWords_X8_both_ : GoodIn wsX8_twoWords (wsV RX8 212 RX8 yX8_both_ wsX8_both_) := goodIn_app (goodIn_of _ (by decide +kernel)) ggX8_twoWords_X8_both_
set_option maxRecDepth 20000 in
theorem ggX8_twoWords_X8_both : GoodIn wsX8_twoWords wsX8_both := goodIn_r _ [30, 8, 2, 35, 36, 37, 38, 39, 40, 41, 42, 43, 44, 45, 46, 47, 48, 49, 50, 51, 52, 53, 54, 55, 56, 57, 58, 59, 60, 61, 62, 63, 64, 65, 66, 67, 68, 69] (by decide +kernel) (by decide +kernel)
set_option maxRecDepth 20000 in
theorem gX8_twoWords_X8_both : GoodIn wsX8_twoWords (wsV RX8 205 RX8 yX8_both wsX8_both) := goodIn_app (goodIn_of _ (by decide +kernel)) ggX8_twoWords_X8_both
set_option maxRecDepth 20000 in
theorem ggX8_twoWords_X8_put : GoodIn wsX8_twoWords wsX8_put := goodIn_r _ [34, 2, 8, 22, 35, 36, 37, 38, 39, 40, 41, 42, 43, 44, 45, 46, 47, 48, 49, 50, 51, 52, 53, 54, 55, 56, 57, 58, 59, 60, 61, 62, 63, 64, 65, 66, 67, 68, 69] (by decide +kernel) (by decide +kernel)
set_option maxRecDepth 20000 in
theorem gX8_twoWords_X8_put : GoodIn wsX8_twoWords (wsV RX8 98 RX8 yX8_put wsX8_put) := goodIn_app (goodIn_of _ (by decide +kernel)) ggX8_twoWords_X8_put
theorem dX8_twoWords_0 : decode cX8_twoWords 0 = .ok (.iload_n 2, 1) := by decide +kernel
theorem dX8_twoWords_1 : decode cX8_twoWords 1 = .ok (.invokestatic 87, 3) := by decide +kernel
theorem dX8_twoWords_4 : decode cX8_twoWords 4 = .ok (.istore_n 3, 1) := by decide +kernel
theorem dX8_twoWords_5 : decode cX8_twoWords 5 = .ok (.iload_n 1, 1) := by decide +kernel
theorem dX8_twoWords_6 : decode cX8_twoWords 6 = .ok (.ldc 198, 2) := by decide +kernel
theorem dX8_twoWords_8 : decode cX8_twoWords 8 = .ok (.if_icmp .ne 33, 3) := by decide +kernel
theorem dX8_twoWords_11 : decode cX8_twoWords 11 = .ok (.aload_n 0, 1) := by decide +kernel
theorem dX8_twoWords_12 : decode cX8_twoWords 12 = .ok (.aload_n 0, 1) := by decide +kernel
theorem dX8_twoWords_13 : decode cX8_twoWords 13 = .ok (.getfield 78, 3) := by decide +kernel
theorem dX8_twoWords_16 : decode cX8_twoWords 16 = .ok (.invokestatic 156, 3) := by decide +kernel
theorem dX8_twoWords_19 : decode cX8_twoWords 19 = .ok (.i2l, 1) := by decide +kernel
theorem dX8_twoWords_20 : decode cX8_twoWords 20 = .ok (.aload_n 0, 1) := by decide +kernel
theorem dX8_twoWords_21 : decode cX8_twoWords 21 = .ok (.iload_n 2, 1) := by decide +kernel
theorem dX8_twoWords_22 : decode cX8_twoWords 22 = .ok (.invokevirtual 95, 3) := by decide +kernel
theorem dX8_twoWords_25 : decode cX8_twoWords 25 = .ok (.invokestatic 156, 3) := by decide +kernel
theorem dX8_twoWords_28 : decode cX8_twoWords 28 = .ok (.i2l, 1) := by decide +kernel
theorem dX8_twoWords_29 : decode cX8_twoWords 29 = .ok (.lmul, 1) := by decide +kernel
theorem dX8_twoWords_30 : decode cX8_twoWords 30 = .ok (.invokevirtual 212, 3) := by decide +kernel
theorem dX8_twoWords_33 : decode cX8_twoWords 33 = .ok (.aload_n 0, 1) := by decide +kernel
theorem dX8_twoWords_34 : decode cX8_twoWords 34 = .ok (.iconst 0, 1) := by decide +kernel
theorem dX8_twoWords_35 : decode cX8_twoWords 35 = .ok (.putfield 159, 3) := by decide +kernel
theorem dX8_twoWords_38 : decode cX8_twoWords 38 = .ok (.goto 164, 3) := by decide +kernel
theorem dX8_twoWords_41 : decode cX8_twoWords 41 = .ok (.iload_n 1, 1) := by decide +kernel
theorem dX8_twoWords_42 : decode cX8_twoWords 42 = .ok (.ldc 199, 2) := by decide +kernel
theorem dX8_twoWords_44 : decode cX8_twoWords 44 = .ok (.if_icmp .ne 97, 3) := by decide +kernel
theorem dX8_twoWords_47 : decode cX8_twoWords 47 = .ok (.aload_n 0, 1) := by decide +kernel
theorem dX8_twoWords_48 : decode cX8_twoWords 48 = .ok (.iload_n 2, 1) := by decide +kernel
theorem dX8_twoWords_49 : decode cX8_twoWords 49 = .ok (.invokevirtual 95, 3) := by decide +kernel
theorem dX8_twoWords_52 : decode cX8_twoWords 52 = .ok (.invokestatic 156, 3) := by decide +kernel
theorem dX8_twoWords_55 : decode cX8_twoWords 55 = .ok (.i2l, 1) := by decide +kernel
theorem dX8_twoWords_56 : decode cX8_twoWords 56 = .ok (.lstore 4, 2) := by decide +kernel
theorem dX8_twoWords_58 : decode cX8_twoWords 58 = .ok (.aload_n 0, 1) := by decide +kernel
theorem dX8_twoWords_59 : decode cX8_twoWords 59 = .ok (.invokevirtual 205, 3) := by decide +kernel
theorem dX8_twoWords_62 : decode cX8_twoWords 62 = .ok (.l2i, 1) := by decide +kernel
theorem dX8_twoWords_63 : decode cX8_twoWords 63 = .ok (.i2l, 1) := by decide +kernel
theorem dX8_twoWords_64 : decode cX8_twoWords 64 = .ok (.lstore 6, 2) := by decide +kernel
theorem dX8_twoWords_66 : decode cX8_twoWords 66 = .ok (.aload_n 0, 1) := by decide +kernel
theorem dX8_twoWords_67 : decode cX8_twoWords 67 = .ok (.iconst 1, 1) := by decide +kernel
theorem dX8_twoWords_68 : decode cX8_twoWords 68 = .ok (.putfield 159, 3) := by decide +kernel
theorem dX8_twoWords_71 : decode cX8_twoWords 71 = .ok (.lload 4, 2) := by decide +kernel
theorem dX8_twoWords_73 : decode cX8_twoWords 73 = .ok (.lconst 0, 1) := by decide +kernel
theorem dX8_twoWords_74 : decode cX8_twoWords 74 = .ok (.lcmp, 1) := by decide +kernel
theorem dX8_twoWords_75 : decode cX8_twoWords 75 = .ok (.ifCond .eq 27, 3) := by decide +kernel
theorem dX8_twoWords_78 : decode cX8_twoWords 78 = .ok (.lload 6, 2) := by decide +kernel
theorem dX8_twoWords_80 : decode cX8_twoWords 80 = .ok (.lload 4, 2) := by decide +kernel
theorem dX8_twoWords_82 : decode cX8_twoWords 82 = .ok (.ldiv, 1) := by decide +kernel
theorem dX8_twoWords_83 : decode cX8_twoWords 83 = .ok (.ldc2_w 217, 3) := by decide +kernel
theorem dX8_twoWords_86 : decode cX8_twoWords 86 = .ok (.lcmp, 1) := by decide +kernel
theorem dX8_twoWords_87 : decode cX8_twoWords 87 = .ok (.ifCond .lt 15, 3) := by decide +kernel
theorem dX8_twoWords_90 : decode cX8_twoWords 90 = .ok (.lload 6, 2) := by decide +kernel
theorem dX8_twoWords_92 : decode cX8_twoWords 92 = .ok (.lload 4, 2) := by decide +kernel
theorem dX8_twoWords_94 : decode cX8_twoWords 94 = .ok (.ldiv, 1) := by decide +kernel
theorem dX8_twoWords_95 : decode cX8_twoWords 95 = .ok (.ldc2_w 219, 3) := by decide +kernel
theorem dX8_twoWords_98 : decode cX8_twoWords 98 = .ok (.lcmp, 1) := by decide +kernel
theorem dX8_twoWords_99 : decode cX8_twoWords 99 = .ok (.ifCond .le 4, 3) := by decide +kernel
theorem dX8_twoWords_102 : decode cX8_twoWords 102 = .ok (.return_, 1) := by decide +kernel
theorem dX8_twoWords_103 : decode cX8_twoWords 103 = .ok (.aload_n 0, 1) := by decide +kernel
theorem dX8_twoWords_104 : decode cX8_twoWords 104 = .ok (.iconst 0, 1) := by decide +kernel
theorem dX8_twoWords_105 : decode cX8_twoWords 105 = .ok (.putfield 159, 3) := by decide +kernel
theorem dX8_twoWords_108 : decode cX8_twoWords 108 = .ok (.lload 6, 2) := by decide +kernel
theorem dX8_twoWords_110 : decode cX8_twoWords 110 = .ok (.lload 4, 2) := by decide +kernel
theorem dX8_twoWords_112 : decode cX8_twoWords 112 = .ok (.lrem, 1) := by decide +kernel
theorem dX8_twoWords_113 : decode cX8_twoWords 113 = .ok (.l2i, 1) := by decide +kernel
theorem dX8_twoWords_114 : decode cX8_twoWords 114 = .ok (.ldc 102, 2) := by decide +kernel
theorem dX8_twoWords_116 : decode cX8_twoWords 116 = .ok (.iand, 1) := by decide +kernel
theorem dX8_twoWords_117 : decode cX8_twoWords 117 = .ok (.istore 8, 2) := by decide +kernel
theorem dX8_twoWords_119 : decode cX8_twoWords 119 = .ok (.aload_n 0, 1) := by decide +kernel
theorem dX8_twoWords_120 : decode cX8_twoWords 120 = .ok (.lload 6, 2) := by decide +kernel
theorem dX8_twoWords_122 : decode cX8_twoWords 122 = .ok (.lload 4, 2) := by decide +kernel
theorem dX8_twoWords_124 : decode cX8_twoWords 124 = .ok (.ldiv, 1) := by decide +kernel
theorem dX8_twoWords_125 : decode cX8_twoWords 125 = .ok (.l2i, 1) := by decide +kernel
theorem dX8_twoWords_126 : decode cX8_twoWords 126 = .ok (.ldc 102, 2) := by decide +kernel
theorem dX8_twoWords_128 : decode cX8_twoWords 128 = .ok (.iand, 1) := by decide +kernel
theorem dX8_twoWords_129 : decode cX8_twoWords 129 = .ok (.putfield 78, 3) := by decide +kernel
theorem dX8_twoWords_132 : decode cX8_twoWords 132 = .ok (.aload_n 0, 1) := by decide +kernel
theorem dX8_twoWords_133 : decode cX8_twoWords 133 = .ok (.iload 8, 2) := by decide +kernel
theorem dX8_twoWords_135 : decode cX8_twoWords 135 = .ok (.putfield 81, 3) := by decide +kernel
theorem dX8_twoWords_138 : decode cX8_twoWords 138 = .ok (.goto 64, 3) := by decide +kernel
theorem dX8_twoWords_141 : decode cX8_twoWords 141 = .ok (.iload_n 1, 1) := by decide +kernel
theorem dX8_twoWords_142 : decode cX8_twoWords 142 = .ok (.ldc 200, 2) := by decide +kernel
theorem dX8_twoWords_144 : decode cX8_twoWords 144 = .ok (.if_icmp .ne 32, 3) := by decide +kernel
theorem dX8_twoWords_147 : decode cX8_twoWords 147 = .ok (.aload_n 0, 1) := by decide +kernel
theorem dX8_twoWords_148 : decode cX8_twoWords 148 = .ok (.iload_n 2, 1) := by decide +kernel
theorem dX8_twoWords_149 : decode cX8_twoWords 149 = .ok (.invokevirtual 95, 3) := by decide +kernel
theorem dX8_twoWords_152 : decode cX8_twoWords 152 = .ok (.istore 4, 2) := by decide +kernel
theorem dX8_twoWords_154 : decode cX8_twoWords 154 = .ok (.aload_n 0, 1) := by decide +kernel
theorem dX8_twoWords_155 : decode cX8_twoWords 155 = .ok (.iload_n 3, 1) := by decide +kernel
theorem dX8_twoWords_156 : decode cX8_twoWords 156 = .ok (.invokevirtual 95, 3) := by decide +kernel
theorem dX8_twoWords_159 : decode cX8_twoWords 159 = .ok (.istore 5, 2) := by decide +kernel
theorem dX8_twoWords_161 : decode cX8_twoWords 161 = .ok (.aload_n 0, 1) := by decide +kernel
theorem dX8_twoWords_162 : decode cX8_twoWords 162 = .ok (.iload 4, 2) := by decide +kernel
theorem dX8_twoWords_164 : decode cX8_twoWords 164 = .ok (.putfield 78, 3) := by decide +kernel
theorem dX8_twoWords_167 : decode cX8_twoWords 167 = .ok (.aload_n 0, 1) := by decide +kernel
theorem dX8_twoWords_168 : decode cX8_twoWords 168 = .ok (.iload 5, 2) := by decide +kernel
theorem dX8_twoWords_170 : decode cX8_twoWords 170 = .ok (.putfield 81, 3) := by decide +kernel
theorem dX8_twoWords_173 : decode cX8_twoWords 173 = .ok (.goto 29, 3) := by decide +kernel
theorem dX8_twoWords_176 : decode cX8_twoWords 176 = .ok (.aload_n 0, 1) := by decide +kernel
theorem dX8_twoWords_177 : decode cX8_twoWords 177 = .ok (.getfield 78, 3) := by decide +kernel
theorem dX8_twoWords_180 : decode cX8_twoWords 180 = .ok (.istore 4, 2) := by decide +kernel
theorem dX8_twoWords_182 : decode cX8_twoWords 182 = .ok (.aload_n 0, 1) := by decide +kernel
theorem dX8_twoWords_183 : decode cX8_twoWords 183 = .ok (.getfield 81, 3) := by decide +kernel
theorem dX8_twoWords_186 : decode cX8_twoWords 186 = .ok (.istore 5, 2) := by decide +kernel
theorem dX8_twoWords_188 : decode cX8_twoWords 188 = .ok (.aload_n 0, 1) := by decide +kernel
theorem dX8_twoWords_189 : decode cX8_twoWords 189 = .ok (.iload_n 2, 1) := by decide +kernel
theorem dX8_twoWords_190 : decode cX8_twoWords 190 = .ok (.iload 4, 2) := by decide +kernel
theorem dX8_twoWords_192 : decode cX8_twoWords 192 = .ok (.invokevirtual 98, 3) := by decide +kernel
theorem dX8_twoWords_195 : decode cX8_twoWords 195 = .ok (.aload_n 0, 1) := by decide +kernel
theorem dX8_twoWords_196 : decode cX8_twoWords 196 = .ok (.iload_n 3, 1) := by decide +kernel
theorem dX8_twoWords_197 : decode cX8_twoWords 197 = .ok (.iload 5, 2) := by decide +kernel
theorem dX8_twoWords_199 : decode cX8_twoWords 199 = .ok (.invokevirtual 98, 3) := by decide +kernel
theorem dX8_twoWords_202 : decode cX8_twoWords 202 = .ok (.return_, 1) := by decide +kernel
set_option maxRecDepth 20000 in
theorem ggX8_run_X8_turn : GoodIn wsX8_run wsX8_turn := goodIn_r _ [7, 8, 9, 10, 11, 12, 13, 14, 15, 16, 17, 18, 19, 20, 21, 6, 22, 23, 24, 25, 26, 27, 28, 29, 30, 31, 32, 33, 34, 35, 36, 37, 38, 39, 40, 41, 42, 43, 44, 45, 46, 47, 48, 49, 50, 51, 52, 53, 54, 55, 56, 57, 58, 59, 60, 61, 62, 63, 64, 65, 66, 67, 68, 69, 70, 71, 2, 72, 73, 74, 75, 76, 77, 78, 79, 80, 81, 82, 83, 84, 85, 86, 87, 88, 89, 90, 91, 92, 93, 94, 95, 96, 97, 98, 99, 100, 101, 102, 103, 104, 105, 106, 107, 108, 109, 110, 111, 112, 113, 114, 115, 116, 117, 118, 119, 120, 121, 122, 123, 124, 125, 126, 127, 128, 129, 130, 131, 132, 133, 134, 135, 136, 137, 138, 139, 140, 141, 142, 143, 144, 145, 146, 147, 148, 149, 150, 151, 152, 153, 154, 155, 156, 157, 158, 159, 160, 161, 162, 163, 164, 165, 166, 167, 168, 169, 170, 171, 172, 173, 174, 175, 176, 177, 178, 179, 180, 181, 182, 183, 184, 185, 186, 187, 188, 189, 190] (by decide +kernel) (by decide +kernel)
set_option maxRecDepth 20000 in
theorem gX8_run_X8_turn : GoodIn wsX8_run (wsV RX8 221 RX8 yX8_turn wsX8_turn) := goodIn_app (goodIn_of _ (by decide +kernel)) ggX8_run_X8_turn
theorem dX8_run_0 : decode cX8_run 0 = .ok (.aload_n 0, 1) := by decide +kernel
theorem dX8_run_1 : decode cX8_run 1 = .ok (.iload_n 1, 1) := by decide +kernel
theorem dX8_run_2 : decode cX8_run 2 = .ok (.ifCond .lt 10, 3) := by decide +kernel
theorem dX8_run_5 : decode cX8_run 5 = .ok (.iload_n 1, 1) := by decide +kernel
theorem dX8_run_6 : decode cX8_run 6 = .ok (.sipush 2000, 3) := by decide +kernel
theorem dX8_run_9 : decode cX8_run 9 = .ok (.if_icmp .le 7, 3) := by decide +kernel
theorem dX8_run_12 : decode cX8_run 12 = .ok (.iconst 1, 1) := by decide +kernel
theorem dX8_run_13 : decode cX8_run 13 = .ok (.goto 4, 3) := by decide +kernel
theorem dX8_run_16 : decode cX8_run 16 = .ok (.iconst 0, 1) := by decide +kernel
theorem dX8_run_17 : decode cX8_run 17 = .ok (.putfield 75, 3) := by decide +kernel
theorem dX8_run_20 : decode cX8_run 20 = .ok (.iconst 0, 1) := by decide +kernel
theorem dX8_run_21 : decode cX8_run 21 = .ok (.istore_n 2, 1) := by decide +kernel
theorem dX8_run_22 : decode cX8_run 22 = .ok (.aload_n 0, 1) := by decide +kernel
theorem dX8_run_23 : decode cX8_run 23 = .ok (.getfield 75, 3) := by decide +kernel
theorem dX8_run_26 : decode cX8_run 26 = .ok (.ifCond .ne 25, 3) := by decide +kernel
theorem dX8_run_29 : decode cX8_run 29 = .ok (.iload_n 2, 1) := by decide +kernel
theorem dX8_run_30 : decode cX8_run 30 = .ok (.iload_n 1, 1) := by decide +kernel
theorem dX8_run_31 : decode cX8_run 31 = .ok (.if_icmp .ge 20, 3) := by decide +kernel
theorem dX8_run_34 : decode cX8_run 34 = .ok (.aload_n 0, 1) := by decide +kernel
theorem dX8_run_35 : decode cX8_run 35 = .ok (.getfield 91, 3) := by decide +kernel
theorem dX8_run_38 : decode cX8_run 38 = .ok (.ifCond .ne 13, 3) := by decide +kernel
theorem dX8_run_41 : decode cX8_run 41 = .ok (.aload_n 0, 1) := by decide +kernel
theorem dX8_run_42 : decode cX8_run 42 = .ok (.invokevirtual 221, 3) := by decide +kernel
theorem dX8_run_45 : decode cX8_run 45 = .ok (.iinc 2 1, 3) := by decide +kernel
theorem dX8_run_48 : decode cX8_run 48 = .ok (.goto (-26), 3) := by decide +kernel
theorem dX8_run_51 : decode cX8_run 51 = .ok (.iload_n 2, 1) := by decide +kernel
theorem dX8_run_52 : decode cX8_run 52 = .ok (.ireturn, 1) := by decide +kernel
theorem dX8_go_0 : decode cX8_go 0 = .ok (.aload_n 0, 1) := by decide +kernel
theorem dX8_go_1 : decode cX8_go 1 = .ok (.iconst 0, 1) := by decide +kernel
theorem dX8_go_2 : decode cX8_go 2 = .ok (.putfield 75, 3) := by decide +kernel
theorem dX8_go_5 : decode cX8_go 5 = .ok (.aload_n 0, 1) := by decide +kernel
theorem dX8_go_6 : decode cX8_go 6 = .ok (.iconst 0, 1) := by decide +kernel
theorem dX8_go_7 : decode cX8_go 7 = .ok (.putfield 91, 3) := by decide +kernel
theorem dX8_go_10 : decode cX8_go 10 = .ok (.iload_n 1, 1) := by decide +kernel
theorem dX8_go_11 : decode cX8_go 11 = .ok (.iconst (-1), 1) := by decide +kernel
theorem dX8_go_12 : decode cX8_go 12 = .ok (.if_icmp .eq 12, 3) := by decide +kernel
theorem dX8_go_15 : decode cX8_go 15 = .ok (.aload_n 0, 1) := by decide +kernel
theorem dX8_go_16 : decode cX8_go 16 = .ok (.iload_n 1, 1) := by decide +kernel
theorem dX8_go_17 : decode cX8_go 17 = .ok (.sipush 32767, 3) := by decide +kernel
theorem dX8_go_20 : decode cX8_go 20 = .ok (.iand, 1) := by decide +kernel
theorem dX8_go_21 : decode cX8_go 21 = .ok (.putfield 84, 3) := by decide +kernel
theorem dX8_go_24 : decode cX8_go 24 = .ok (.return_, 1) := by decide +kernel
theorem dX8_lacks_0 : decode cX8_lacks 0 = .ok (.aload_n 0, 1) := by decide +kernel
theorem dX8_lacks_1 : decode cX8_lacks 1 = .ok (.iload_n 1, 1) := by decide +kernel
theorem dX8_lacks_2 : decode cX8_lacks 2 = .ok (.ifCond .lt 8, 3) := by decide +kernel
theorem dX8_lacks_5 : decode cX8_lacks 5 = .ok (.iload_n 1, 1) := by decide +kernel
theorem dX8_lacks_6 : decode cX8_lacks 6 = .ok (.iload_n 2, 1) := by decide +kernel
theorem dX8_lacks_7 : decode cX8_lacks 7 = .ok (.if_icmp .lt 7, 3) := by decide +kernel
theorem dX8_lacks_10 : decode cX8_lacks 10 = .ok (.iconst 1, 1) := by decide +kernel
theorem dX8_lacks_11 : decode cX8_lacks 11 = .ok (.goto 4, 3) := by decide +kernel
theorem dX8_lacks_14 : decode cX8_lacks 14 = .ok (.iconst 0, 1) := by decide +kernel
theorem dX8_lacks_15 : decode cX8_lacks 15 = .ok (.putfield 75, 3) := by decide +kernel
theorem dX8_lacks_18 : decode cX8_lacks 18 = .ok (.aload_n 0, 1) := by decide +kernel
theorem dX8_lacks_19 : decode cX8_lacks 19 = .ok (.getfield 75, 3) := by decide +kernel
theorem dX8_lacks_22 : decode cX8_lacks 22 = .ok (.ifCond .le 7, 3) := by decide +kernel
theorem dX8_lacks_25 : decode cX8_lacks 25 = .ok (.iconst 1, 1) := by decide +kernel
theorem dX8_lacks_26 : decode cX8_lacks 26 = .ok (.goto 4, 3) := by decide +kernel
theorem dX8_lacks_29 : decode cX8_lacks 29 = .ok (.iconst 0, 1) := by decide +kernel
theorem dX8_lacks_30 : decode cX8_lacks 30 = .ok (.ireturn, 1) := by decide +kernel
set_option maxRecDepth 20000 in
theorem ggX8_word_X8_lacks : GoodIn wsX8_word wsX8_lacks := goodIn_r _ [5, 6, 14, 15, 16, 17, 18, 19, 20, 21, 22, 23, 24, 25, 26, 27, 28, 29, 30, 31, 32, 33, 34, 35, 36, 37, 38, 39, 40, 41, 42, 43, 44, 45, 46, 47, 48] (by decide +kernel) (by decide +kernel)
set_option maxRecDepth 20000 in
theorem gX8_word_X8_lacks : GoodIn wsX8_word (wsV RX8 224 RX8 yX8_lacks wsX8_lacks) := goodIn_app (goodIn_of _ (by decide +kernel)) ggX8_word_X8_lacks
set_option maxRecDepth 20000 in
theorem ggX8_word_X8_at : GoodIn wsX8_word wsX8_at := goodIn_r _ [10, 11, 12, 13, 14, 15, 16, 17, 18, 19, 20, 21, 22, 23, 24, 25, 26, 27, 28, 29, 30, 31, 32, 33, 34, 35, 36, 37, 38, 39, 40, 41, 42, 43, 44, 45, 46, 47, 48] (by decide +kernel) (by decide +kernel)
set_option maxRecDepth 20000 in
theorem gX8_word_X8_at : GoodIn wsX8_word (wsV RX8 95 RX8 yX8_at wsX8_at) := goodIn_app (goodIn_of _ (by decide +kernel)) ggX8_word_X8_at
theorem dX8_word_0 : decode cX8_word 0 = .ok (.aload_n 0, 1) := by decide +kernel
theorem dX8_word_1 : decode cX8_word 1 = .ok (.iload_n 1, 1) := by decide +kernel
theorem dX8_word_2 : decode cX8_word 2 = .ok (.sipush 4096, 3) := by decide +kernel
theorem dX8_word_5 : decode cX8_word 5 = .ok (.invokevirtual 224, 3) := by decide +kernel
theorem dX8_word_8 : decode cX8_word 8 = .ok (.ifCond .eq 7, 3) := by decide +kernel
theorem dX8_word_11 : decode cX8_word 11 = .ok (.iconst 0, 1) := by decide +kernel
theorem dX8_word_12 : decode cX8_word 12 = .ok (.goto 8, 3) := by decide +kernel
theorem dX8_word_15 : decode cX8_word 15 = .ok (.aload_n 0, 1) := by decide +kernel
theorem dX8_word_16 : decode cX8_word 16 = .ok (.iload_n 1, 1) := by decide +kernel
theorem dX8_word_17 : decode cX8_word 17 = .ok (.invokevirtual 95, 3) := by decide +kernel
theorem dX8_word_20 : decode cX8_word 20 = .ok (.ireturn, 1) := by decide +kernel
set_option maxRecDepth 20000 in
theorem ggX8_set_X8_lacks : GoodIn wsX8_set wsX8_lacks := goodIn_r _ [6, 7, 15, 16, 17, 18, 19, 20, 21, 22, 23, 24, 25, 26, 27, 28, 29, 30, 31, 32, 33, 34, 35, 36, 37, 38, 39, 40, 41, 42, 43, 44, 45, 46, 47, 48, 49] (by decide +kernel) (by decide +kernel)
set_option maxRecDepth 20000 in
theorem gX8_set_X8_lacks : GoodIn wsX8_set (wsV RX8 224 RX8 yX8_lacks wsX8_lacks) := goodIn_app (goodIn_of _ (by decide +kernel)) ggX8_set_X8_lacks
set_option maxRecDepth 20000 in
theorem ggX8_set_X8_put : GoodIn wsX8_set wsX8_put := goodIn_r _ [11, 12, 13, 14, 15, 16, 17, 18, 19, 20, 21, 22, 23, 24, 25, 26, 27, 28, 29, 30, 31, 32, 33, 34, 35, 36, 37, 38, 39, 40, 41, 42, 43, 44, 45, 46, 47, 48, 49] (by decide +kernel) (by decide +kernel)
set_option maxRecDepth 20000 in
theorem gX8_set_X8_put : GoodIn wsX8_set (wsV RX8 98 RX8 yX8_put wsX8_put) := goodIn_app (goodIn_of _ (by decide +kernel)) ggX8_set_X8_put
theorem dX8_set_0 : decode cX8_set 0 = .ok (.aload_n 0, 1) := by decide +kernel
theorem dX8_set_1 : decode cX8_set 1 = .ok (.iload_n 1, 1) := by decide +kernel
theorem dX8_set_2 : decode cX8_set 2 = .ok (.sipush 4096, 3) := by decide +kernel
theorem dX8_set_5 : decode cX8_set 5 = .ok (.invokevirtual 224, 3) := by decide +kernel
theorem dX8_set_8 : decode cX8_set 8 = .ok (.ifCond .eq 4, 3) := by decide +kernel
theorem dX8_set_11 : decode cX8_set 11 = .ok (.return_, 1) := by decide +kernel
theorem dX8_set_12 : decode cX8_set 12 = .ok (.aload_n 0, 1) := by decide +kernel
theorem dX8_set_13 : decode cX8_set 13 = .ok (.iload_n 1, 1) := by decide +kernel
theorem dX8_set_14 : decode cX8_set 14 = .ok (.iload_n 2, 1) := by decide +kernel
theorem dX8_set_15 : decode cX8_set 15 = .ok (.ldc 102, 2) := by decide +kernel
theorem dX8_set_17 : decode cX8_set 17 = .ok (.iand, 1) := by decide +kernel
theorem dX8_set_18 : decode cX8_set 18 = .ok (.invokevirtual 98, 3) := by decide +kernel
theorem dX8_set_21 : decode cX8_set 21 = .ok (.return_, 1) := by decide +kernel
theorem dX8_state_0 : decode cX8_state 0 = .ok (.aload_n 0, 1) := by decide +kernel
theorem dX8_state_1 : decode cX8_state 1 = .ok (.iconst 0, 1) := by decide +kernel
theorem dX8_state_2 : decode cX8_state 2 = .ok (.putfield 75, 3) := by decide +kernel
theorem dX8_state_5 : decode cX8_state 5 = .ok (.iload_n 1, 1) := by decide +kernel
theorem dX8_state_6 : decode cX8_state 6 = .ok (.tableswitch 155 0 12 #[66, 71, 76, 81, 86, 91, 104, 117, 130, 135, 140, 145, 150], 66) := by decide +kernel
theorem dX8_state_72 : decode cX8_state 72 = .ok (.aload_n 0, 1) := by decide +kernel
theorem dX8_state_73 : decode cX8_state 73 = .ok (.getfield 78, 3) := by decide +kernel
theorem dX8_state_76 : decode cX8_state 76 = .ok (.ireturn, 1) := by decide +kernel
theorem dX8_state_77 : decode cX8_state 77 = .ok (.aload_n 0, 1) := by decide +kernel
theorem dX8_state_78 : decode cX8_state 78 = .ok (.getfield 81, 3) := by decide +kernel
theorem dX8_state_81 : decode cX8_state 81 = .ok (.ireturn, 1) := by decide +kernel
theorem dX8_state_82 : decode cX8_state 82 = .ok (.aload_n 0, 1) := by decide +kernel
theorem dX8_state_83 : decode cX8_state 83 = .ok (.getfield 84, 3) := by decide +kernel
theorem dX8_state_86 : decode cX8_state 86 = .ok (.ireturn, 1) := by decide +kernel
theorem dX8_state_87 : decode cX8_state 87 = .ok (.aload_n 0, 1) := by decide +kernel
theorem dX8_state_88 : decode cX8_state 88 = .ok (.getfield 162, 3) := by decide +kernel
theorem dX8_state_91 : decode cX8_state 91 = .ok (.ireturn, 1) := by decide +kernel
theorem dX8_state_92 : decode cX8_state 92 = .ok (.aload_n 0, 1) := by decide +kernel
theorem dX8_state_93 : decode cX8_state 93 = .ok (.getfield 159, 3) := by decide +kernel
theorem dX8_state_96 : decode cX8_state 96 = .ok (.ireturn, 1) := by decide +kernel
theorem dX8_state_97 : decode cX8_state 97 = .ok (.aload_n 0, 1) := by decide +kernel
theorem dX8_state_98 : decode cX8_state 98 = .ok (.getfield 116, 3) := by decide +kernel
theorem dX8_state_101 : decode cX8_state 101 = .ok (.ifCond .eq 7, 3) := by decide +kernel
theorem dX8_state_104 : decode cX8_state 104 = .ok (.iconst 1, 1) := by decide +kernel
theorem dX8_state_105 : decode cX8_state 105 = .ok (.goto 4, 3) := by decide +kernel
theorem dX8_state_108 : decode cX8_state 108 = .ok (.iconst 0, 1) := by decide +kernel
theorem dX8_state_109 : decode cX8_state 109 = .ok (.ireturn, 1) := by decide +kernel
theorem dX8_state_110 : decode cX8_state 110 = .ok (.aload_n 0, 1) := by decide +kernel
theorem dX8_state_111 : decode cX8_state 111 = .ok (.getfield 119, 3) := by decide +kernel
theorem dX8_state_114 : decode cX8_state 114 = .ok (.ifCond .eq 7, 3) := by decide +kernel
theorem dX8_state_117 : decode cX8_state 117 = .ok (.iconst 1, 1) := by decide +kernel
theorem dX8_state_118 : decode cX8_state 118 = .ok (.goto 4, 3) := by decide +kernel
theorem dX8_state_121 : decode cX8_state 121 = .ok (.iconst 0, 1) := by decide +kernel
theorem dX8_state_122 : decode cX8_state 122 = .ok (.ireturn, 1) := by decide +kernel
theorem dX8_state_123 : decode cX8_state 123 = .ok (.aload_n 0, 1) := by decide +kernel
theorem dX8_state_124 : decode cX8_state 124 = .ok (.getfield 91, 3) := by decide +kernel
theorem dX8_state_127 : decode cX8_state 127 = .ok (.ifCond .eq 7, 3) := by decide +kernel
theorem dX8_state_130 : decode cX8_state 130 = .ok (.iconst 1, 1) := by decide +kernel
theorem dX8_state_131 : decode cX8_state 131 = .ok (.goto 4, 3) := by decide +kernel
theorem dX8_state_134 : decode cX8_state 134 = .ok (.iconst 0, 1) := by decide +kernel
theorem dX8_state_135 : decode cX8_state 135 = .ok (.ireturn, 1) := by decide +kernel
theorem dX8_state_136 : decode cX8_state 136 = .ok (.aload_n 0, 1) := by decide +kernel
theorem dX8_state_137 : decode cX8_state 137 = .ok (.getfield 13, 3) := by decide +kernel
theorem dX8_state_140 : decode cX8_state 140 = .ok (.ireturn, 1) := by decide +kernel
theorem dX8_state_141 : decode cX8_state 141 = .ok (.aload_n 0, 1) := by decide +kernel
theorem dX8_state_142 : decode cX8_state 142 = .ok (.getfield 178, 3) := by decide +kernel
theorem dX8_state_145 : decode cX8_state 145 = .ok (.ireturn, 1) := by decide +kernel
theorem dX8_state_146 : decode cX8_state 146 = .ok (.aload_n 0, 1) := by decide +kernel
theorem dX8_state_147 : decode cX8_state 147 = .ok (.getfield 107, 3) := by decide +kernel
theorem dX8_state_150 : decode cX8_state 150 = .ok (.ireturn, 1) := by decide +kernel
theorem dX8_state_151 : decode cX8_state 151 = .ok (.aload_n 0, 1) := by decide +kernel
theorem dX8_state_152 : decode cX8_state 152 = .ok (.getfield 125, 3) := by decide +kernel
theorem dX8_state_155 : decode cX8_state 155 = .ok (.ireturn, 1) := by decide +kernel
theorem dX8_state_156 : decode cX8_state 156 = .ok (.aload_n 0, 1) := by decide +kernel
theorem dX8_state_157 : decode cX8_state 157 = .ok (.getfield 17, 3) := by decide +kernel
theorem dX8_state_160 : decode cX8_state 160 = .ok (.ireturn, 1) := by decide +kernel
theorem dX8_state_161 : decode cX8_state 161 = .ok (.iconst (-1), 1) := by decide +kernel
theorem dX8_state_162 : decode cX8_state 162 = .ok (.ireturn, 1) := by decide +kernel
theorem dX8_switches_0 : decode cX8_switches 0 = .ok (.aload_n 0, 1) := by decide +kernel
theorem dX8_switches_1 : decode cX8_switches 1 = .ok (.iconst 0, 1) := by decide +kernel
theorem dX8_switches_2 : decode cX8_switches 2 = .ok (.putfield 75, 3) := by decide +kernel
theorem dX8_switches_5 : decode cX8_switches 5 = .ok (.aload_n 0, 1) := by decide +kernel
theorem dX8_switches_6 : decode cX8_switches 6 = .ok (.iload_n 1, 1) := by decide +kernel
theorem dX8_switches_7 : decode cX8_switches 7 = .ok (.ldc 102, 2) := by decide +kernel
theorem dX8_switches_9 : decode cX8_switches 9 = .ok (.iand, 1) := by decide +kernel
theorem dX8_switches_10 : decode cX8_switches 10 = .ok (.putfield 175, 3) := by decide +kernel
theorem dX8_switches_13 : decode cX8_switches 13 = .ok (.return_, 1) := by decide +kernel
set_option maxRecDepth 20000 in
theorem ggX8_device_X8_lacks : GoodIn wsX8_device wsX8_lacks := goodIn_r _ [10, 1, 11, 12, 13, 14, 15, 16, 17, 18, 19, 20, 21, 22, 23, 24, 25, 26, 27, 28, 29, 30, 31, 32, 33, 34, 35, 36, 37, 38, 39, 40, 41, 42, 43, 44, 45] (by decide +kernel) (by decide +kernel)
set_option maxRecDepth 20000 in
theorem gX8_device_X8_lacks : GoodIn wsX8_device (wsV RX8 224 RX8 yX8_lacks wsX8_lacks) := goodIn_app (goodIn_of _ (by decide +kernel)) ggX8_device_X8_lacks
theorem dX8_device_0 : decode cX8_device 0 = .ok (.aload_n 0, 1) := by decide +kernel
theorem dX8_device_1 : decode cX8_device 1 = .ok (.iload_n 1, 1) := by decide +kernel
theorem dX8_device_2 : decode cX8_device 2 = .ok (.iconst 4, 1) := by decide +kernel
theorem dX8_device_3 : decode cX8_device 3 = .ok (.invokevirtual 224, 3) := by decide +kernel
theorem dX8_device_6 : decode cX8_device 6 = .ok (.ifCond .eq 4, 3) := by decide +kernel
theorem dX8_device_9 : decode cX8_device 9 = .ok (.return_, 1) := by decide +kernel
theorem dX8_device_10 : decode cX8_device 10 = .ok (.aload_n 0, 1) := by decide +kernel
theorem dX8_device_11 : decode cX8_device 11 = .ok (.iload_n 3, 1) := by decide +kernel
theorem dX8_device_12 : decode cX8_device 12 = .ok (.iconst 1, 1) := by decide +kernel
theorem dX8_device_13 : decode cX8_device 13 = .ok (.if_icmp .lt 9, 3) := by decide +kernel
theorem dX8_device_16 : decode cX8_device 16 = .ok (.iload_n 3, 1) := by decide +kernel
theorem dX8_device_17 : decode cX8_device 17 = .ok (.bipush 100, 2) := by decide +kernel
theorem dX8_device_19 : decode cX8_device 19 = .ok (.if_icmp .le 7, 3) := by decide +kernel
theorem dX8_device_22 : decode cX8_device 22 = .ok (.iconst 2, 1) := by decide +kernel
theorem dX8_device_23 : decode cX8_device 23 = .ok (.goto 4, 3) := by decide +kernel
theorem dX8_device_26 : decode cX8_device 26 = .ok (.iconst 0, 1) := by decide +kernel
theorem dX8_device_27 : decode cX8_device 27 = .ok (.putfield 75, 3) := by decide +kernel
theorem dX8_device_30 : decode cX8_device 30 = .ok (.aload_n 0, 1) := by decide +kernel
theorem dX8_device_31 : decode cX8_device 31 = .ok (.getfield 75, 3) := by decide +kernel
theorem dX8_device_34 : decode cX8_device 34 = .ok (.ifCond .le 4, 3) := by decide +kernel
theorem dX8_device_37 : decode cX8_device 37 = .ok (.return_, 1) := by decide +kernel
theorem dX8_device_38 : decode cX8_device 38 = .ok (.bipush 8, 2) := by decide +kernel
theorem dX8_device_40 : decode cX8_device 40 = .ok (.iload_n 1, 1) := by decide +kernel
theorem dX8_device_41 : decode cX8_device 41 = .ok (.iadd, 1) := by decide +kernel
theorem dX8_device_42 : decode cX8_device 42 = .ok (.istore 4, 2) := by decide +kernel
theorem dX8_device_44 : decode cX8_device 44 = .ok (.aload_n 0, 1) := by decide +kernel
theorem dX8_device_45 : decode cX8_device 45 = .ok (.getfield 51, 3) := by decide +kernel
theorem dX8_device_48 : decode cX8_device 48 = .ok (.iload 4, 2) := by decide +kernel
theorem dX8_device_50 : decode cX8_device 50 = .ok (.iload_n 2, 1) := by decide +kernel
theorem dX8_device_51 : decode cX8_device 51 = .ok (.ifCond .ne 7, 3) := by decide +kernel
theorem dX8_device_54 : decode cX8_device 54 = .ok (.iconst 1, 1) := by decide +kernel
theorem dX8_device_55 : decode cX8_device 55 = .ok (.goto 4, 3) := by decide +kernel
theorem dX8_device_58 : decode cX8_device 58 = .ok (.iconst 0, 1) := by decide +kernel
theorem dX8_device_59 : decode cX8_device 59 = .ok (.bastore, 1) := by decide +kernel
theorem dX8_device_60 : decode cX8_device 60 = .ok (.aload_n 0, 1) := by decide +kernel
theorem dX8_device_61 : decode cX8_device 61 = .ok (.getfield 54, 3) := by decide +kernel
theorem dX8_device_64 : decode cX8_device 64 = .ok (.iload 4, 2) := by decide +kernel
theorem dX8_device_66 : decode cX8_device 66 = .ok (.iload_n 3, 1) := by decide +kernel
theorem dX8_device_67 : decode cX8_device 67 = .ok (.iastore, 1) := by decide +kernel
theorem dX8_device_68 : decode cX8_device 68 = .ok (.aload_n 0, 1) := by decide +kernel
theorem dX8_device_69 : decode cX8_device 69 = .ok (.getfield 60, 3) := by decide +kernel
theorem dX8_device_72 : decode cX8_device 72 = .ok (.iload 4, 2) := by decide +kernel
theorem dX8_device_74 : decode cX8_device 74 = .ok (.iconst 0, 1) := by decide +kernel
theorem dX8_device_75 : decode cX8_device 75 = .ok (.iastore, 1) := by decide +kernel
theorem dX8_device_76 : decode cX8_device 76 = .ok (.aload_n 0, 1) := by decide +kernel
theorem dX8_device_77 : decode cX8_device 77 = .ok (.getfield 57, 3) := by decide +kernel
theorem dX8_device_80 : decode cX8_device 80 = .ok (.iload 4, 2) := by decide +kernel
theorem dX8_device_82 : decode cX8_device 82 = .ok (.iconst 0, 1) := by decide +kernel
theorem dX8_device_83 : decode cX8_device 83 = .ok (.iastore, 1) := by decide +kernel
theorem dX8_device_84 : decode cX8_device 84 = .ok (.return_, 1) := by decide +kernel
set_option maxRecDepth 20000 in
theorem ggX8_give_X8_lacks : GoodIn wsX8_give wsX8_lacks := goodIn_r _ [9, 2, 10, 11, 12, 13, 14, 15, 16, 17, 18, 19, 20, 21, 22, 23, 24, 25, 26, 27, 28, 29, 30, 31, 32, 33, 34, 35, 36, 37, 38, 39, 40, 41, 42, 43, 44] (by decide +kernel) (by decide +kernel)
set_option maxRecDepth 20000 in
theorem gX8_give_X8_lacks : GoodIn wsX8_give (wsV RX8 224 RX8 yX8_lacks wsX8_lacks) := goodIn_app (goodIn_of _ (by decide +kernel)) ggX8_give_X8_lacks
theorem dX8_give_0 : decode cX8_give 0 = .ok (.aload_n 0, 1) := by decide +kernel
theorem dX8_give_1 : decode cX8_give 1 = .ok (.iload_n 1, 1) := by decide +kernel
theorem dX8_give_2 : decode cX8_give 2 = .ok (.iconst 4, 1) := by decide +kernel
theorem dX8_give_3 : decode cX8_give 3 = .ok (.invokevirtual 224, 3) := by decide +kernel
theorem dX8_give_6 : decode cX8_give 6 = .ok (.ifCond .eq 5, 3) := by decide +kernel
theorem dX8_give_9 : decode cX8_give 9 = .ok (.iconst 0, 1) := by decide +kernel
theorem dX8_give_10 : decode cX8_give 10 = .ok (.ireturn, 1) := by decide +kernel
theorem dX8_give_11 : decode cX8_give 11 = .ok (.bipush 8, 2) := by decide +kernel
theorem dX8_give_13 : decode cX8_give 13 = .ok (.iload_n 1, 1) := by decide +kernel
theorem dX8_give_14 : decode cX8_give 14 = .ok (.iadd, 1) := by decide +kernel
theorem dX8_give_15 : decode cX8_give 15 = .ok (.istore_n 3, 1) := by decide +kernel
theorem dX8_give_16 : decode cX8_give 16 = .ok (.aload_n 0, 1) := by decide +kernel
theorem dX8_give_17 : decode cX8_give 17 = .ok (.aload_n 0, 1) := by decide +kernel
theorem dX8_give_18 : decode cX8_give 18 = .ok (.getfield 63, 3) := by decide +kernel
theorem dX8_give_21 : decode cX8_give 21 = .ok (.iload_n 3, 1) := by decide +kernel
theorem dX8_give_22 : decode cX8_give 22 = .ok (.iaload, 1) := by decide +kernel
theorem dX8_give_23 : decode cX8_give 23 = .ok (.bipush 100, 2) := by decide +kernel
theorem dX8_give_25 : decode cX8_give 25 = .ok (.if_icmp .ne 7, 3) := by decide +kernel
theorem dX8_give_28 : decode cX8_give 28 = .ok (.iconst 2, 1) := by decide +kernel
theorem dX8_give_29 : decode cX8_give 29 = .ok (.goto 4, 3) := by decide +kernel
theorem dX8_give_32 : decode cX8_give 32 = .ok (.iconst 0, 1) := by decide +kernel
theorem dX8_give_33 : decode cX8_give 33 = .ok (.putfield 75, 3) := by decide +kernel
theorem dX8_give_36 : decode cX8_give 36 = .ok (.aload_n 0, 1) := by decide +kernel
theorem dX8_give_37 : decode cX8_give 37 = .ok (.getfield 75, 3) := by decide +kernel
theorem dX8_give_40 : decode cX8_give 40 = .ok (.ifCond .le 5, 3) := by decide +kernel
theorem dX8_give_43 : decode cX8_give 43 = .ok (.iconst 0, 1) := by decide +kernel
theorem dX8_give_44 : decode cX8_give 44 = .ok (.ireturn, 1) := by decide +kernel
theorem dX8_give_45 : decode cX8_give 45 = .ok (.aload_n 0, 1) := by decide +kernel
theorem dX8_give_46 : decode cX8_give 46 = .ok (.getfield 69, 3) := by decide +kernel
theorem dX8_give_49 : decode cX8_give 49 = .ok (.bipush 100, 2) := by decide +kernel
theorem dX8_give_51 : decode cX8_give 51 = .ok (.iload_n 3, 1) := by decide +kernel
theorem dX8_give_52 : decode cX8_give 52 = .ok (.imul, 1) := by decide +kernel
theorem dX8_give_53 : decode cX8_give 53 = .ok (.aload_n 0, 1) := by decide +kernel
theorem dX8_give_54 : decode cX8_give 54 = .ok (.getfield 63, 3) := by decide +kernel
theorem dX8_give_57 : decode cX8_give 57 = .ok (.iload_n 3, 1) := by decide +kernel
theorem dX8_give_58 : decode cX8_give 58 = .ok (.iaload, 1) := by decide +kernel
theorem dX8_give_59 : decode cX8_give 59 = .ok (.iadd, 1) := by decide +kernel
theorem dX8_give_60 : decode cX8_give 60 = .ok (.iload_n 2, 1) := by decide +kernel
theorem dX8_give_61 : decode cX8_give 61 = .ok (.ldc 102, 2) := by decide +kernel
theorem dX8_give_63 : decode cX8_give 63 = .ok (.iand, 1) := by decide +kernel
theorem dX8_give_64 : decode cX8_give 64 = .ok (.iastore, 1) := by decide +kernel
theorem dX8_give_65 : decode cX8_give 65 = .ok (.aload_n 0, 1) := by decide +kernel
theorem dX8_give_66 : decode cX8_give 66 = .ok (.getfield 63, 3) := by decide +kernel
theorem dX8_give_69 : decode cX8_give 69 = .ok (.iload_n 3, 1) := by decide +kernel
theorem dX8_give_70 : decode cX8_give 70 = .ok (.dup2, 1) := by decide +kernel
theorem dX8_give_71 : decode cX8_give 71 = .ok (.iaload, 1) := by decide +kernel
theorem dX8_give_72 : decode cX8_give 72 = .ok (.iconst 1, 1) := by decide +kernel
theorem dX8_give_73 : decode cX8_give 73 = .ok (.iadd, 1) := by decide +kernel
theorem dX8_give_74 : decode cX8_give 74 = .ok (.iastore, 1) := by decide +kernel
theorem dX8_give_75 : decode cX8_give 75 = .ok (.aload_n 0, 1) := by decide +kernel
theorem dX8_give_76 : decode cX8_give 76 = .ok (.getfield 63, 3) := by decide +kernel
theorem dX8_give_79 : decode cX8_give 79 = .ok (.iload_n 3, 1) := by decide +kernel
theorem dX8_give_80 : decode cX8_give 80 = .ok (.iaload, 1) := by decide +kernel
theorem dX8_give_81 : decode cX8_give 81 = .ok (.ireturn, 1) := by decide +kernel
set_option maxRecDepth 20000 in
theorem ggX8_out_X8_lacks : GoodIn wsX8_out wsX8_lacks := goodIn_r _ [7, 8, 9, 10, 11, 12, 13, 14, 15, 16, 17, 18, 19, 20, 21, 22, 23, 24, 25, 26, 27, 28, 29, 30, 31, 32, 33, 34, 35, 36, 37, 38, 39, 40, 41, 42, 43] (by decide +kernel) (by decide +kernel)
set_option maxRecDepth 20000 in
theorem gX8_out_X8_lacks : GoodIn wsX8_out (wsV RX8 224 RX8 yX8_lacks wsX8_lacks) := goodIn_app (goodIn_of _ (by decide +kernel)) ggX8_out_X8_lacks
theorem dX8_out_0 : decode cX8_out 0 = .ok (.aload_n 0, 1) := by decide +kernel
theorem dX8_out_1 : decode cX8_out 1 = .ok (.iload_n 1, 1) := by decide +kernel
theorem dX8_out_2 : decode cX8_out 2 = .ok (.iconst 4, 1) := by decide +kernel
theorem dX8_out_3 : decode cX8_out 3 = .ok (.invokevirtual 224, 3) := by decide +kernel
theorem dX8_out_6 : decode cX8_out 6 = .ok (.ifCond .eq 5, 3) := by decide +kernel
theorem dX8_out_9 : decode cX8_out 9 = .ok (.iconst 0, 1) := by decide +kernel
theorem dX8_out_10 : decode cX8_out 10 = .ok (.ireturn, 1) := by decide +kernel
theorem dX8_out_11 : decode cX8_out 11 = .ok (.bipush 8, 2) := by decide +kernel
theorem dX8_out_13 : decode cX8_out 13 = .ok (.iload_n 1, 1) := by decide +kernel
theorem dX8_out_14 : decode cX8_out 14 = .ok (.iadd, 1) := by decide +kernel
theorem dX8_out_15 : decode cX8_out 15 = .ok (.istore_n 3, 1) := by decide +kernel
theorem dX8_out_16 : decode cX8_out 16 = .ok (.iload_n 2, 1) := by decide +kernel
theorem dX8_out_17 : decode cX8_out 17 = .ok (.ifCond .lt 20, 3) := by decide +kernel
theorem dX8_out_20 : decode cX8_out 20 = .ok (.iload_n 2, 1) := by decide +kernel
theorem dX8_out_21 : decode cX8_out 21 = .ok (.aload_n 0, 1) := by decide +kernel
theorem dX8_out_22 : decode cX8_out 22 = .ok (.getfield 66, 3) := by decide +kernel
theorem dX8_out_25 : decode cX8_out 25 = .ok (.iload_n 3, 1) := by decide +kernel
theorem dX8_out_26 : decode cX8_out 26 = .ok (.iaload, 1) := by decide +kernel
theorem dX8_out_27 : decode cX8_out 27 = .ok (.if_icmp .ge 10, 3) := by decide +kernel
theorem dX8_out_30 : decode cX8_out 30 = .ok (.iload_n 2, 1) := by decide +kernel
theorem dX8_out_31 : decode cX8_out 31 = .ok (.sipush 200, 3) := by decide +kernel
theorem dX8_out_34 : decode cX8_out 34 = .ok (.if_icmp .lt 7, 3) := by decide +kernel
theorem dX8_out_37 : decode cX8_out 37 = .ok (.iconst (-1), 1) := by decide +kernel
theorem dX8_out_38 : decode cX8_out 38 = .ok (.goto 15, 3) := by decide +kernel
theorem dX8_out_41 : decode cX8_out 41 = .ok (.aload_n 0, 1) := by decide +kernel
theorem dX8_out_42 : decode cX8_out 42 = .ok (.getfield 72, 3) := by decide +kernel
theorem dX8_out_45 : decode cX8_out 45 = .ok (.sipush 200, 3) := by decide +kernel
theorem dX8_out_48 : decode cX8_out 48 = .ok (.iload_n 3, 1) := by decide +kernel
theorem dX8_out_49 : decode cX8_out 49 = .ok (.imul, 1) := by decide +kernel
theorem dX8_out_50 : decode cX8_out 50 = .ok (.iload_n 2, 1) := by decide +kernel
theorem dX8_out_51 : decode cX8_out 51 = .ok (.iadd, 1) := by decide +kernel
theorem dX8_out_52 : decode cX8_out 52 = .ok (.iaload, 1) := by decide +kernel
theorem dX8_out_53 : decode cX8_out 53 = .ok (.ireturn, 1) := by decide +kernel
theorem dX8_code_0 : decode cX8_code 0 = .ok (.aload_n 0, 1) := by decide +kernel
theorem dX8_code_1 : decode cX8_code 1 = .ok (.iconst 0, 1) := by decide +kernel
theorem dX8_code_2 : decode cX8_code 2 = .ok (.putfield 75, 3) := by decide +kernel
theorem dX8_code_5 : decode cX8_code 5 = .ok (.iload_n 1, 1) := by decide +kernel
theorem dX8_code_6 : decode cX8_code 6 = .ok (.bipush 6, 2) := by decide +kernel
theorem dX8_code_8 : decode cX8_code 8 = .ok (.if_icmp .lt 9, 3) := by decide +kernel
theorem dX8_code_11 : decode cX8_code 11 = .ok (.iload_n 1, 1) := by decide +kernel
theorem dX8_code_12 : decode cX8_code 12 = .ok (.bipush 12, 2) := by decide +kernel
theorem dX8_code_14 : decode cX8_code 14 = .ok (.if_icmp .lt 5, 3) := by decide +kernel
theorem dX8_code_17 : decode cX8_code 17 = .ok (.iconst (-1), 1) := by decide +kernel
theorem dX8_code_18 : decode cX8_code 18 = .ok (.ireturn, 1) := by decide +kernel
theorem dX8_code_19 : decode cX8_code 19 = .ok (.iload_n 2, 1) := by decide +kernel
theorem dX8_code_20 : decode cX8_code 20 = .ok (.tableswitch 253 0 8 #[52, 67, 82, 97, 127, 149, 171, 209, 231], 52) := by decide +kernel
theorem dX8_code_72 : decode cX8_code 72 = .ok (.aload_n 0, 1) := by decide +kernel
theorem dX8_code_73 : decode cX8_code 73 = .ok (.getfield 20, 3) := by decide +kernel
theorem dX8_code_76 : decode cX8_code 76 = .ok (.iload_n 1, 1) := by decide +kernel
theorem dX8_code_77 : decode cX8_code 77 = .ok (.baload, 1) := by decide +kernel
theorem dX8_code_78 : decode cX8_code 78 = .ok (.ifCond .eq 7, 3) := by decide +kernel
theorem dX8_code_81 : decode cX8_code 81 = .ok (.iconst 1, 1) := by decide +kernel
theorem dX8_code_82 : decode cX8_code 82 = .ok (.goto 4, 3) := by decide +kernel
theorem dX8_code_85 : decode cX8_code 85 = .ok (.iconst 0, 1) := by decide +kernel
theorem dX8_code_86 : decode cX8_code 86 = .ok (.ireturn, 1) := by decide +kernel
theorem dX8_code_87 : decode cX8_code 87 = .ok (.aload_n 0, 1) := by decide +kernel
theorem dX8_code_88 : decode cX8_code 88 = .ok (.getfield 24, 3) := by decide +kernel
theorem dX8_code_91 : decode cX8_code 91 = .ok (.iload_n 1, 1) := by decide +kernel
theorem dX8_code_92 : decode cX8_code 92 = .ok (.baload, 1) := by decide +kernel
theorem dX8_code_93 : decode cX8_code 93 = .ok (.ifCond .eq 7, 3) := by decide +kernel
theorem dX8_code_96 : decode cX8_code 96 = .ok (.iconst 1, 1) := by decide +kernel
theorem dX8_code_97 : decode cX8_code 97 = .ok (.goto 4, 3) := by decide +kernel
theorem dX8_code_100 : decode cX8_code 100 = .ok (.iconst 0, 1) := by decide +kernel
theorem dX8_code_101 : decode cX8_code 101 = .ok (.ireturn, 1) := by decide +kernel
theorem dX8_code_102 : decode cX8_code 102 = .ok (.aload_n 0, 1) := by decide +kernel
theorem dX8_code_103 : decode cX8_code 103 = .ok (.getfield 27, 3) := by decide +kernel
theorem dX8_code_106 : decode cX8_code 106 = .ok (.iload_n 1, 1) := by decide +kernel
theorem dX8_code_107 : decode cX8_code 107 = .ok (.baload, 1) := by decide +kernel
theorem dX8_code_108 : decode cX8_code 108 = .ok (.ifCond .eq 7, 3) := by decide +kernel
theorem dX8_code_111 : decode cX8_code 111 = .ok (.iconst 1, 1) := by decide +kernel
theorem dX8_code_112 : decode cX8_code 112 = .ok (.goto 4, 3) := by decide +kernel
theorem dX8_code_115 : decode cX8_code 115 = .ok (.iconst 0, 1) := by decide +kernel
theorem dX8_code_116 : decode cX8_code 116 = .ok (.ireturn, 1) := by decide +kernel
theorem dX8_code_117 : decode cX8_code 117 = .ok (.iload_n 1, 1) := by decide +kernel
theorem dX8_code_118 : decode cX8_code 118 = .ok (.bipush 8, 2) := by decide +kernel
theorem dX8_code_120 : decode cX8_code 120 = .ok (.if_icmp .ge 20, 3) := by decide +kernel
theorem dX8_code_123 : decode cX8_code 123 = .ok (.aload_n 0, 1) := by decide +kernel
theorem dX8_code_124 : decode cX8_code 124 = .ok (.getfield 30, 3) := by decide +kernel
theorem dX8_code_127 : decode cX8_code 127 = .ok (.iload_n 1, 1) := by decide +kernel
theorem dX8_code_128 : decode cX8_code 128 = .ok (.baload, 1) := by decide +kernel
theorem dX8_code_129 : decode cX8_code 129 = .ok (.ifCond .eq 7, 3) := by decide +kernel
theorem dX8_code_132 : decode cX8_code 132 = .ok (.iconst 1, 1) := by decide +kernel
theorem dX8_code_133 : decode cX8_code 133 = .ok (.goto 13, 3) := by decide +kernel
theorem dX8_code_136 : decode cX8_code 136 = .ok (.iconst 0, 1) := by decide +kernel
theorem dX8_code_137 : decode cX8_code 137 = .ok (.goto 9, 3) := by decide +kernel
theorem dX8_code_140 : decode cX8_code 140 = .ok (.aload_n 0, 1) := by decide +kernel
theorem dX8_code_141 : decode cX8_code 141 = .ok (.getfield 60, 3) := by decide +kernel
theorem dX8_code_144 : decode cX8_code 144 = .ok (.iload_n 1, 1) := by decide +kernel
theorem dX8_code_145 : decode cX8_code 145 = .ok (.iaload, 1) := by decide +kernel
theorem dX8_code_146 : decode cX8_code 146 = .ok (.ireturn, 1) := by decide +kernel
theorem dX8_code_147 : decode cX8_code 147 = .ok (.iload_n 1, 1) := by decide +kernel
theorem dX8_code_148 : decode cX8_code 148 = .ok (.bipush 8, 2) := by decide +kernel
theorem dX8_code_150 : decode cX8_code 150 = .ok (.if_icmp .ge 12, 3) := by decide +kernel
theorem dX8_code_153 : decode cX8_code 153 = .ok (.aload_n 0, 1) := by decide +kernel
theorem dX8_code_154 : decode cX8_code 154 = .ok (.getfield 39, 3) := by decide +kernel
theorem dX8_code_157 : decode cX8_code 157 = .ok (.iload_n 1, 1) := by decide +kernel
theorem dX8_code_158 : decode cX8_code 158 = .ok (.iaload, 1) := by decide +kernel
theorem dX8_code_159 : decode cX8_code 159 = .ok (.goto 9, 3) := by decide +kernel
theorem dX8_code_162 : decode cX8_code 162 = .ok (.aload_n 0, 1) := by decide +kernel
theorem dX8_code_163 : decode cX8_code 163 = .ok (.getfield 57, 3) := by decide +kernel
theorem dX8_code_166 : decode cX8_code 166 = .ok (.iload_n 1, 1) := by decide +kernel
theorem dX8_code_167 : decode cX8_code 167 = .ok (.iaload, 1) := by decide +kernel
theorem dX8_code_168 : decode cX8_code 168 = .ok (.ireturn, 1) := by decide +kernel
theorem dX8_code_169 : decode cX8_code 169 = .ok (.iload_n 1, 1) := by decide +kernel
theorem dX8_code_170 : decode cX8_code 170 = .ok (.bipush 8, 2) := by decide +kernel
theorem dX8_code_172 : decode cX8_code 172 = .ok (.if_icmp .ge 12, 3) := by decide +kernel
theorem dX8_code_175 : decode cX8_code 175 = .ok (.aload_n 0, 1) := by decide +kernel
theorem dX8_code_176 : decode cX8_code 176 = .ok (.getfield 42, 3) := by decide +kernel
theorem dX8_code_179 : decode cX8_code 179 = .ok (.iload_n 1, 1) := by decide +kernel
theorem dX8_code_180 : decode cX8_code 180 = .ok (.iaload, 1) := by decide +kernel
theorem dX8_code_181 : decode cX8_code 181 = .ok (.goto 9, 3) := by decide +kernel
theorem dX8_code_184 : decode cX8_code 184 = .ok (.aload_n 0, 1) := by decide +kernel
theorem dX8_code_185 : decode cX8_code 185 = .ok (.getfield 63, 3) := by decide +kernel
theorem dX8_code_188 : decode cX8_code 188 = .ok (.iload_n 1, 1) := by decide +kernel
theorem dX8_code_189 : decode cX8_code 189 = .ok (.iaload, 1) := by decide +kernel
theorem dX8_code_190 : decode cX8_code 190 = .ok (.ireturn, 1) := by decide +kernel
theorem dX8_code_191 : decode cX8_code 191 = .ok (.iload_n 1, 1) := by decide +kernel
theorem dX8_code_192 : decode cX8_code 192 = .ok (.bipush 8, 2) := by decide +kernel
theorem dX8_code_194 : decode cX8_code 194 = .ok (.if_icmp .ge 20, 3) := by decide +kernel
theorem dX8_code_197 : decode cX8_code 197 = .ok (.aload_n 0, 1) := by decide +kernel
theorem dX8_code_198 : decode cX8_code 198 = .ok (.getfield 33, 3) := by decide +kernel
theorem dX8_code_201 : decode cX8_code 201 = .ok (.iload_n 1, 1) := by decide +kernel
theorem dX8_code_202 : decode cX8_code 202 = .ok (.baload, 1) := by decide +kernel
theorem dX8_code_203 : decode cX8_code 203 = .ok (.ifCond .eq 7, 3) := by decide +kernel
theorem dX8_code_206 : decode cX8_code 206 = .ok (.iconst 1, 1) := by decide +kernel
theorem dX8_code_207 : decode cX8_code 207 = .ok (.goto 21, 3) := by decide +kernel
theorem dX8_code_210 : decode cX8_code 210 = .ok (.iconst 0, 1) := by decide +kernel
theorem dX8_code_211 : decode cX8_code 211 = .ok (.goto 17, 3) := by decide +kernel
theorem dX8_code_214 : decode cX8_code 214 = .ok (.aload_n 0, 1) := by decide +kernel
theorem dX8_code_215 : decode cX8_code 215 = .ok (.getfield 51, 3) := by decide +kernel
theorem dX8_code_218 : decode cX8_code 218 = .ok (.iload_n 1, 1) := by decide +kernel
theorem dX8_code_219 : decode cX8_code 219 = .ok (.baload, 1) := by decide +kernel
theorem dX8_code_220 : decode cX8_code 220 = .ok (.ifCond .eq 7, 3) := by decide +kernel
theorem dX8_code_223 : decode cX8_code 223 = .ok (.iconst 0, 1) := by decide +kernel
theorem dX8_code_224 : decode cX8_code 224 = .ok (.goto 4, 3) := by decide +kernel
theorem dX8_code_227 : decode cX8_code 227 = .ok (.iconst 1, 1) := by decide +kernel
theorem dX8_code_228 : decode cX8_code 228 = .ok (.ireturn, 1) := by decide +kernel
theorem dX8_code_229 : decode cX8_code 229 = .ok (.iload_n 1, 1) := by decide +kernel
theorem dX8_code_230 : decode cX8_code 230 = .ok (.bipush 8, 2) := by decide +kernel
theorem dX8_code_232 : decode cX8_code 232 = .ok (.if_icmp .ge 12, 3) := by decide +kernel
theorem dX8_code_235 : decode cX8_code 235 = .ok (.aload_n 0, 1) := by decide +kernel
theorem dX8_code_236 : decode cX8_code 236 = .ok (.getfield 45, 3) := by decide +kernel
theorem dX8_code_239 : decode cX8_code 239 = .ok (.iload_n 1, 1) := by decide +kernel
theorem dX8_code_240 : decode cX8_code 240 = .ok (.iaload, 1) := by decide +kernel
theorem dX8_code_241 : decode cX8_code 241 = .ok (.goto 9, 3) := by decide +kernel
theorem dX8_code_244 : decode cX8_code 244 = .ok (.aload_n 0, 1) := by decide +kernel
theorem dX8_code_245 : decode cX8_code 245 = .ok (.getfield 54, 3) := by decide +kernel
theorem dX8_code_248 : decode cX8_code 248 = .ok (.iload_n 1, 1) := by decide +kernel
theorem dX8_code_249 : decode cX8_code 249 = .ok (.iaload, 1) := by decide +kernel
theorem dX8_code_250 : decode cX8_code 250 = .ok (.ireturn, 1) := by decide +kernel
theorem dX8_code_251 : decode cX8_code 251 = .ok (.iload_n 1, 1) := by decide +kernel
theorem dX8_code_252 : decode cX8_code 252 = .ok (.bipush 8, 2) := by decide +kernel
theorem dX8_code_254 : decode cX8_code 254 = .ok (.if_icmp .ge 12, 3) := by decide +kernel
theorem dX8_code_257 : decode cX8_code 257 = .ok (.aload_n 0, 1) := by decide +kernel
theorem dX8_code_258 : decode cX8_code 258 = .ok (.getfield 48, 3) := by decide +kernel
theorem dX8_code_261 : decode cX8_code 261 = .ok (.iload_n 1, 1) := by decide +kernel
theorem dX8_code_262 : decode cX8_code 262 = .ok (.iaload, 1) := by decide +kernel
theorem dX8_code_263 : decode cX8_code 263 = .ok (.goto 9, 3) := by decide +kernel
theorem dX8_code_266 : decode cX8_code 266 = .ok (.aload_n 0, 1) := by decide +kernel
theorem dX8_code_267 : decode cX8_code 267 = .ok (.getfield 66, 3) := by decide +kernel
theorem dX8_code_270 : decode cX8_code 270 = .ok (.iload_n 1, 1) := by decide +kernel
theorem dX8_code_271 : decode cX8_code 271 = .ok (.iaload, 1) := by decide +kernel
theorem dX8_code_272 : decode cX8_code 272 = .ok (.ireturn, 1) := by decide +kernel
theorem dX8_code_273 : decode cX8_code 273 = .ok (.iconst (-1), 1) := by decide +kernel
theorem dX8_code_274 : decode cX8_code 274 = .ok (.ireturn, 1) := by decide +kernel
set_option maxRecDepth 20000 in
theorem ggX8_sum__X8_at : GoodIn wsX8_sum_ wsX8_at := goodIn_r _ [6, 7, 8, 9, 10, 11, 12, 13, 14, 15, 16, 17, 18, 19, 20, 21, 22, 23, 24, 25, 26, 27, 28, 29, 30, 31, 32, 33, 34, 35, 36, 37, 38, 39, 40, 41, 42, 43, 44] (by decide +kernel) (by decide +kernel)
set_option maxRecDepth 20000 in
theorem gX8_sum__X8_at : GoodIn wsX8_sum_ (wsV RX8 95 RX8 yX8_at wsX8_at) := goodIn_app (goodIn_of _ (by decide +kernel)) ggX8_sum__X8_at
theorem dX8_sum__0 : decode cX8_sum_ 0 = .ok (.aload_n 0, 1) := by decide +kernel
theorem dX8_sum__1 : decode cX8_sum_ 1 = .ok (.iconst 0, 1) := by decide +kernel
theorem dX8_sum__2 : decode cX8_sum_ 2 = .ok (.putfield 75, 3) := by decide +kernel
theorem dX8_sum__5 : decode cX8_sum_ 5 = .ok (.iconst 0, 1) := by decide +kernel
theorem dX8_sum__6 : decode cX8_sum_ 6 = .ok (.istore_n 1, 1) := by decide +kernel
theorem dX8_sum__7 : decode cX8_sum_ 7 = .ok (.iconst 0, 1) := by decide +kernel
theorem dX8_sum__8 : decode cX8_sum_ 8 = .ok (.istore_n 2, 1) := by decide +kernel
theorem dX8_sum__9 : decode cX8_sum_ 9 = .ok (.iload_n 2, 1) := by decide +kernel
theorem dX8_sum__10 : decode cX8_sum_ 10 = .ok (.sipush 4096, 3) := by decide +kernel
theorem dX8_sum__13 : decode cX8_sum_ 13 = .ok (.if_icmp .ge 20, 3) := by decide +kernel
theorem dX8_sum__16 : decode cX8_sum_ 16 = .ok (.bipush 31, 2) := by decide +kernel
theorem dX8_sum__18 : decode cX8_sum_ 18 = .ok (.iload_n 1, 1) := by decide +kernel
theorem dX8_sum__19 : decode cX8_sum_ 19 = .ok (.imul, 1) := by decide +kernel
theorem dX8_sum__20 : decode cX8_sum_ 20 = .ok (.aload_n 0, 1) := by decide +kernel
theorem dX8_sum__21 : decode cX8_sum_ 21 = .ok (.iload_n 2, 1) := by decide +kernel
theorem dX8_sum__22 : decode cX8_sum_ 22 = .ok (.invokevirtual 95, 3) := by decide +kernel
theorem dX8_sum__25 : decode cX8_sum_ 25 = .ok (.iadd, 1) := by decide +kernel
theorem dX8_sum__26 : decode cX8_sum_ 26 = .ok (.istore_n 1, 1) := by decide +kernel
theorem dX8_sum__27 : decode cX8_sum_ 27 = .ok (.iinc 2 1, 3) := by decide +kernel
theorem dX8_sum__30 : decode cX8_sum_ 30 = .ok (.goto (-21), 3) := by decide +kernel
theorem dX8_sum__33 : decode cX8_sum_ 33 = .ok (.iload_n 1, 1) := by decide +kernel
theorem dX8_sum__34 : decode cX8_sum_ 34 = .ok (.ireturn, 1) := by decide +kernel
set_option maxRecDepth 20000 in
theorem ggL_run_X7_run : GoodIn wsL_run wsX7_run := goodIn_ca (goodIn_r _ [6, 7, 8, 9, 10, 11, 12, 13, 5, 14, 15, 16, 17, 18, 19, 20, 21, 22, 23, 24, 25, 26, 27, 28, 29, 30, 31, 32, 33, 34, 35, 36, 37, 38, 39, 40, 41, 42, 43, 44, 45, 46, 47, 48, 49, 50, 51, 52, 53, 54, 55, 56, 57, 58, 59, 60, 61, 62, 63, 64, 65, 66, 67, 68, 69, 70, 71, 72, 73, 74, 75, 76, 77, 78, 79, 80, 81, 82, 83, 84, 85, 86, 87, 88, 89, 90, 91, 92, 93, 94, 95, 96, 97, 98, 99, 100, 101, 102, 103, 104, 105, 106, 107, 108, 109, 110, 111, 112, 113, 114, 115, 116, 117, 118, 119, 120, 121, 122, 123, 124, 125, 126, 127, 128, 129, 130, 131, 132, 133, 134, 135, 136, 137, 138, 139, 140, 141, 142, 143, 144, 145, 146, 147, 148, 149, 150, 151, 152, 153, 154, 155, 156, 157, 158, 159, 160, 161, 162, 163, 164, 165, 166, 167, 168, 169, 170, 171, 172, 173, 174, 175, 176, 177, 178, 179, 180, 181, 182, 183, 184, 185, 186, 187, 188, 189, 190, 191, 192, 193, 194, 195, 196, 197, 198, 199, 200, 201, 202, 203, 204, 205, 206, 207, 208, 209, 210, 211, 212, 213, 214, 215, 216, 217, 218, 219, 220, 221, 222, 223, 224, 225, 226, 227, 228, 229, 230, 231, 232, 233, 234, 235, 236, 237, 238, 239, 240, 241, 242, 243, 244, 245, 246, 247, 248, 249, 250, 251, 252, 253, 254, 255, 256, 257, 258, 259, 260, 261, 262, 263, 264, 265, 266, 267, 268, 269, 270, 271, 272, 273, 274, 275, 276, 277, 278, 279, 280, 281, 282, 283, 284, 285, 286, 287, 288, 289, 290, 291, 292, 293, 294, 295, 296, 297, 298, 299, 300, 301, 302, 303, 304, 305, 306, 307, 308, 309, 310, 311, 312, 313, 314, 315, 316, 317, 318, 319, 320, 321, 322, 323, 324, 325, 326, 327] (by decide +kernel) (by decide +kernel)) (goodIn_sub (fun _ h => List.mem_cons_of_mem _ (List.mem_append_right _ h)) (by decide +kernel))
set_option maxRecDepth 20000 in
theorem gL_run_X7_run : GoodIn wsL_run (wsV RL 7 RX7 yX7_run wsX7_run) := goodIn_app (goodIn_of _ (by decide +kernel)) ggL_run_X7_run
theorem dL_run_0 : decode cL_run 0 = .ok (.aload_n 2, 1) := by decide +kernel
theorem dL_run_1 : decode cL_run 1 = .ok (.iconst 0, 1) := by decide +kernel
theorem dL_run_2 : decode cL_run 2 = .ok (.aload_n 0, 1) := by decide +kernel
theorem dL_run_3 : decode cL_run 3 = .ok (.iload_n 1, 1) := by decide +kernel
theorem dL_run_4 : decode cL_run 4 = .ok (.invokevirtual 7, 3) := by decide +kernel
theorem dL_run_7 : decode cL_run 7 = .ok (.i2l, 1) := by decide +kernel
theorem dL_run_8 : decode cL_run 8 = .ok (.lastore, 1) := by decide +kernel
theorem dL_run_9 : decode cL_run 9 = .ok (.goto 6, 3) := by decide +kernel
theorem dL_run_12 : decode cL_run 12 = .ok (.astore_n 3, 1) := by decide +kernel
theorem dL_run_13 : decode cL_run 13 = .ok (.iconst 1, 1) := by decide +kernel
theorem dL_run_14 : decode cL_run 14 = .ok (.ireturn, 1) := by decide +kernel
theorem dL_run_15 : decode cL_run 15 = .ok (.iconst 0, 1) := by decide +kernel
theorem dL_run_16 : decode cL_run 16 = .ok (.ireturn, 1) := by decide +kernel
set_option maxRecDepth 20000 in
theorem ggL_word_X7_word : GoodIn wsL_word wsX7_word := goodIn_ca (goodIn_r _ [6, 7, 8, 9, 10, 11, 12, 13, 14, 15, 16, 17, 18, 19, 20, 21, 22, 23] (by decide +kernel) (by decide +kernel)) (goodIn_sub (fun _ h => List.mem_cons_of_mem _ (List.mem_append_right _ h)) (by decide +kernel))
set_option maxRecDepth 20000 in
theorem gL_word_X7_word : GoodIn wsL_word (wsV RL 15 RX7 yX7_word wsX7_word) := goodIn_app (goodIn_of _ (by decide +kernel)) ggL_word_X7_word
theorem dL_word_0 : decode cL_word 0 = .ok (.aload_n 2, 1) := by decide +kernel
theorem dL_word_1 : decode cL_word 1 = .ok (.iconst 0, 1) := by decide +kernel
theorem dL_word_2 : decode cL_word 2 = .ok (.aload_n 0, 1) := by decide +kernel
theorem dL_word_3 : decode cL_word 3 = .ok (.iload_n 1, 1) := by decide +kernel
theorem dL_word_4 : decode cL_word 4 = .ok (.invokevirtual 15, 3) := by decide +kernel
theorem dL_word_7 : decode cL_word 7 = .ok (.i2l, 1) := by decide +kernel
theorem dL_word_8 : decode cL_word 8 = .ok (.lastore, 1) := by decide +kernel
theorem dL_word_9 : decode cL_word 9 = .ok (.goto 6, 3) := by decide +kernel
theorem dL_word_12 : decode cL_word 12 = .ok (.astore_n 3, 1) := by decide +kernel
theorem dL_word_13 : decode cL_word 13 = .ok (.iconst 1, 1) := by decide +kernel
theorem dL_word_14 : decode cL_word 14 = .ok (.ireturn, 1) := by decide +kernel
theorem dL_word_15 : decode cL_word 15 = .ok (.iconst 0, 1) := by decide +kernel
theorem dL_word_16 : decode cL_word 16 = .ok (.ireturn, 1) := by decide +kernel
set_option maxRecDepth 20000 in
theorem ggL_set_X7_set : GoodIn wsL_set wsX7_set := goodIn_ca (goodIn_r _ [6, 7, 8, 9, 10, 11, 12, 13, 14, 15, 16, 17, 18, 19, 20, 21, 22, 23, 24] (by decide +kernel) (by decide +kernel)) (goodIn_sub (fun _ h => List.mem_cons_of_mem _ (List.mem_append_right _ h)) (by decide +kernel))
set_option maxRecDepth 20000 in
theorem gL_set_X7_set : GoodIn wsL_set (wsV RL 20 RX7 yX7_set wsX7_set) := goodIn_app (goodIn_of _ (by decide +kernel)) ggL_set_X7_set
theorem dL_set_0 : decode cL_set 0 = .ok (.aload_n 0, 1) := by decide +kernel
theorem dL_set_1 : decode cL_set 1 = .ok (.iload_n 1, 1) := by decide +kernel
theorem dL_set_2 : decode cL_set 2 = .ok (.iload_n 2, 1) := by decide +kernel
theorem dL_set_3 : decode cL_set 3 = .ok (.invokevirtual 20, 3) := by decide +kernel
theorem dL_set_6 : decode cL_set 6 = .ok (.goto 6, 3) := by decide +kernel
theorem dL_set_9 : decode cL_set 9 = .ok (.astore_n 3, 1) := by decide +kernel
theorem dL_set_10 : decode cL_set 10 = .ok (.iconst 1, 1) := by decide +kernel
theorem dL_set_11 : decode cL_set 11 = .ok (.ireturn, 1) := by decide +kernel
theorem dL_set_12 : decode cL_set 12 = .ok (.iconst 0, 1) := by decide +kernel
theorem dL_set_13 : decode cL_set 13 = .ok (.ireturn, 1) := by decide +kernel
set_option maxRecDepth 20000 in
theorem ggL_device_X7_device : GoodIn wsL_device wsX7_device := goodIn_ca (goodIn_ca (goodIn_r _ [7, 8, 9, 10, 11, 12, 13, 14, 15, 16, 17, 18, 19, 20, 21, 22, 23, 24, 25, 26, 27, 28, 29, 30, 31, 32, 33, 34, 35, 36, 37, 38, 39, 40, 41, 42, 43, 44, 45, 46, 47, 48, 49, 50, 51] (by decide +kernel) (by decide +kernel)) (goodIn_sub (fun _ h => List.mem_cons_of_mem _ (List.mem_append_left _ (List.mem_append_right _ h))) (by decide +kernel))) (goodIn_sub (fun _ h => List.mem_cons_of_mem _ (List.mem_append_right _ h)) (by decide +kernel))
set_option maxRecDepth 20000 in
theorem gL_device_X7_device : GoodIn wsL_device (wsV RL 24 RX7 yX7_device wsX7_device) := goodIn_app (goodIn_of _ (by decide +kernel)) ggL_device_X7_device
theorem dL_device_0 : decode cL_device 0 = .ok (.aload_n 0, 1) := by decide +kernel
theorem dL_device_1 : decode cL_device 1 = .ok (.iload_n 1, 1) := by decide +kernel
theorem dL_device_2 : decode cL_device 2 = .ok (.iload_n 2, 1) := by decide +kernel
theorem dL_device_3 : decode cL_device 3 = .ok (.iload_n 3, 1) := by decide +kernel
theorem dL_device_4 : decode cL_device 4 = .ok (.invokevirtual 24, 3) := by decide +kernel
theorem dL_device_7 : decode cL_device 7 = .ok (.goto 11, 3) := by decide +kernel
theorem dL_device_10 : decode cL_device 10 = .ok (.astore 4, 2) := by decide +kernel
theorem dL_device_12 : decode cL_device 12 = .ok (.iconst 1, 1) := by decide +kernel
theorem dL_device_13 : decode cL_device 13 = .ok (.ireturn, 1) := by decide +kernel
theorem dL_device_14 : decode cL_device 14 = .ok (.astore 4, 2) := by decide +kernel
theorem dL_device_16 : decode cL_device 16 = .ok (.iconst 2, 1) := by decide +kernel
theorem dL_device_17 : decode cL_device 17 = .ok (.ireturn, 1) := by decide +kernel
theorem dL_device_18 : decode cL_device 18 = .ok (.iconst 0, 1) := by decide +kernel
theorem dL_device_19 : decode cL_device 19 = .ok (.ireturn, 1) := by decide +kernel
set_option maxRecDepth 20000 in
theorem ggL_give_X7_give : GoodIn wsL_give wsX7_give := goodIn_ca (goodIn_ca (goodIn_r _ [7, 8, 9, 10, 11, 12, 13, 14, 15, 16, 17, 18, 19, 20, 21, 22, 23, 24, 25, 26, 27, 28, 29, 30, 31, 32, 33, 34, 35, 36, 37, 38, 39, 40, 41, 42, 43, 44, 45, 46, 47, 48, 49, 50, 51] (by decide +kernel) (by decide +kernel)) (goodIn_sub (fun _ h => List.mem_cons_of_mem _ (List.mem_append_left _ (List.mem_append_right _ h))) (by decide +kernel))) (goodIn_sub (fun _ h => List.mem_cons_of_mem _ (List.mem_append_right _ h)) (by decide +kernel))
set_option maxRecDepth 20000 in
theorem gL_give_X7_give : GoodIn wsL_give (wsV RL 28 RX7 yX7_give wsX7_give) := goodIn_app (goodIn_of _ (by decide +kernel)) ggL_give_X7_give
theorem dL_give_0 : decode cL_give 0 = .ok (.aload_n 3, 1) := by decide +kernel
theorem dL_give_1 : decode cL_give 1 = .ok (.iconst 0, 1) := by decide +kernel
theorem dL_give_2 : decode cL_give 2 = .ok (.aload_n 0, 1) := by decide +kernel
theorem dL_give_3 : decode cL_give 3 = .ok (.iload_n 1, 1) := by decide +kernel
theorem dL_give_4 : decode cL_give 4 = .ok (.iload_n 2, 1) := by decide +kernel
theorem dL_give_5 : decode cL_give 5 = .ok (.invokevirtual 28, 3) := by decide +kernel
theorem dL_give_8 : decode cL_give 8 = .ok (.i2l, 1) := by decide +kernel
theorem dL_give_9 : decode cL_give 9 = .ok (.lastore, 1) := by decide +kernel
theorem dL_give_10 : decode cL_give 10 = .ok (.goto 11, 3) := by decide +kernel
theorem dL_give_13 : decode cL_give 13 = .ok (.astore 4, 2) := by decide +kernel
theorem dL_give_15 : decode cL_give 15 = .ok (.iconst 1, 1) := by decide +kernel
theorem dL_give_16 : decode cL_give 16 = .ok (.ireturn, 1) := by decide +kernel
theorem dL_give_17 : decode cL_give 17 = .ok (.astore 4, 2) := by decide +kernel
theorem dL_give_19 : decode cL_give 19 = .ok (.iconst 2, 1) := by decide +kernel
theorem dL_give_20 : decode cL_give 20 = .ok (.ireturn, 1) := by decide +kernel
theorem dL_give_21 : decode cL_give 21 = .ok (.iconst 0, 1) := by decide +kernel
theorem dL_give_22 : decode cL_give 22 = .ok (.ireturn, 1) := by decide +kernel
set_option maxRecDepth 20000 in
theorem ggL_out_X7_out : GoodIn wsL_out wsX7_out := goodIn_ca (goodIn_r _ [6, 7, 8, 9, 10, 11, 12, 13, 14, 15, 16, 17, 18, 19, 20, 21, 22, 23, 24, 25, 26, 27, 28, 29, 30, 31, 32, 33, 34, 35, 36, 37, 38, 39, 40, 41, 42, 43, 44, 45, 46] (by decide +kernel) (by decide +kernel)) (goodIn_sub (fun _ h => List.mem_cons_of_mem _ (List.mem_append_right _ h)) (by decide +kernel))
set_option maxRecDepth 20000 in
theorem gL_out_X7_out : GoodIn wsL_out (wsV RL 34 RX7 yX7_out wsX7_out) := goodIn_app (goodIn_of _ (by decide +kernel)) ggL_out_X7_out
theorem dL_out_0 : decode cL_out 0 = .ok (.aload_n 3, 1) := by decide +kernel
theorem dL_out_1 : decode cL_out 1 = .ok (.iconst 0, 1) := by decide +kernel
theorem dL_out_2 : decode cL_out 2 = .ok (.aload_n 0, 1) := by decide +kernel
theorem dL_out_3 : decode cL_out 3 = .ok (.iload_n 1, 1) := by decide +kernel
theorem dL_out_4 : decode cL_out 4 = .ok (.iload_n 2, 1) := by decide +kernel
theorem dL_out_5 : decode cL_out 5 = .ok (.invokevirtual 34, 3) := by decide +kernel
theorem dL_out_8 : decode cL_out 8 = .ok (.i2l, 1) := by decide +kernel
theorem dL_out_9 : decode cL_out 9 = .ok (.lastore, 1) := by decide +kernel
theorem dL_out_10 : decode cL_out 10 = .ok (.goto 7, 3) := by decide +kernel
theorem dL_out_13 : decode cL_out 13 = .ok (.astore 4, 2) := by decide +kernel
theorem dL_out_15 : decode cL_out 15 = .ok (.iconst 1, 1) := by decide +kernel
theorem dL_out_16 : decode cL_out 16 = .ok (.ireturn, 1) := by decide +kernel
theorem dL_out_17 : decode cL_out 17 = .ok (.iconst 0, 1) := by decide +kernel
theorem dL_out_18 : decode cL_out 18 = .ok (.ireturn, 1) := by decide +kernel
theorem dL_law_0 : decode cL_law 0 = .ok (.new 8, 3) := by decide +kernel
theorem dL_law_3 : decode cL_law 3 = .ok (.dup, 1) := by decide +kernel
theorem dL_law_4 : decode cL_law 4 = .ok (.invokespecial 37, 3) := by decide +kernel
theorem dL_law_7 : decode cL_law 7 = .ok (.astore_n 1, 1) := by decide +kernel
theorem dL_law_8 : decode cL_law 8 = .ok (.new 38, 3) := by decide +kernel
theorem dL_law_11 : decode cL_law 11 = .ok (.dup, 1) := by decide +kernel
theorem dL_law_12 : decode cL_law 12 = .ok (.invokespecial 40, 3) := by decide +kernel
theorem dL_law_15 : decode cL_law 15 = .ok (.astore_n 2, 1) := by decide +kernel
theorem dL_law_16 : decode cL_law 16 = .ok (.iconst 1, 1) := by decide +kernel
theorem dL_law_17 : decode cL_law 17 = .ok (.newarray .long, 2) := by decide +kernel
theorem dL_law_19 : decode cL_law 19 = .ok (.astore_n 3, 1) := by decide +kernel
theorem dL_law_20 : decode cL_law 20 = .ok (.iconst 0, 1) := by decide +kernel
theorem dL_law_21 : decode cL_law 21 = .ok (.istore 4, 2) := by decide +kernel
theorem dL_law_23 : decode cL_law 23 = .ok (.iload 4, 2) := by decide +kernel
theorem dL_law_25 : decode cL_law 25 = .ok (.aload_n 0, 1) := by decide +kernel
theorem dL_law_26 : decode cL_law 26 = .ok (.arraylength, 1) := by decide +kernel
theorem dL_law_27 : decode cL_law 27 = .ok (.iconst 4, 1) := by decide +kernel
theorem dL_law_28 : decode cL_law 28 = .ok (.isub, 1) := by decide +kernel
theorem dL_law_29 : decode cL_law 29 = .ok (.if_icmp .gt 566, 3) := by decide +kernel
theorem dL_law_32 : decode cL_law 32 = .ok (.aload_n 0, 1) := by decide +kernel
theorem dL_law_33 : decode cL_law 33 = .ok (.iload 4, 2) := by decide +kernel
theorem dL_law_35 : decode cL_law 35 = .ok (.iaload, 1) := by decide +kernel
theorem dL_law_36 : decode cL_law 36 = .ok (.bipush 15, 2) := by decide +kernel
theorem dL_law_38 : decode cL_law 38 = .ok (.iand, 1) := by decide +kernel
theorem dL_law_39 : decode cL_law 39 = .ok (.tableswitch 550 0 10 #[57, 113, 136, 192, 240, 265, 288, 364, 432, 500, 537], 57) := by decide +kernel
theorem dL_law_96 : decode cL_law 96 = .ok (.aload_n 1, 1) := by decide +kernel
theorem dL_law_97 : decode cL_law 97 = .ok (.aload_n 0, 1) := by decide +kernel
theorem dL_law_98 : decode cL_law 98 = .ok (.iload 4, 2) := by decide +kernel
theorem dL_law_100 : decode cL_law 100 = .ok (.iconst 1, 1) := by decide +kernel
theorem dL_law_101 : decode cL_law 101 = .ok (.iadd, 1) := by decide +kernel
theorem dL_law_102 : decode cL_law 102 = .ok (.iaload, 1) := by decide +kernel
theorem dL_law_103 : decode cL_law 103 = .ok (.aload_n 3, 1) := by decide +kernel
theorem dL_law_104 : decode cL_law 104 = .ok (.invokestatic 41, 3) := by decide +kernel
theorem dL_law_107 : decode cL_law 107 = .ok (.istore 5, 2) := by decide +kernel
theorem dL_law_109 : decode cL_law 109 = .ok (.aload_n 2, 1) := by decide +kernel
theorem dL_law_110 : decode cL_law 110 = .ok (.aload_n 0, 1) := by decide +kernel
theorem dL_law_111 : decode cL_law 111 = .ok (.iload 4, 2) := by decide +kernel
theorem dL_law_113 : decode cL_law 113 = .ok (.iconst 1, 1) := by decide +kernel
theorem dL_law_114 : decode cL_law 114 = .ok (.iadd, 1) := by decide +kernel
theorem dL_law_115 : decode cL_law 115 = .ok (.iaload, 1) := by decide +kernel
theorem dL_law_116 : decode cL_law 116 = .ok (.invokevirtual 46, 3) := by decide +kernel
theorem dL_law_119 : decode cL_law 119 = .ok (.istore 6, 2) := by decide +kernel
theorem dL_law_121 : decode cL_law 121 = .ok (.aload_n 2, 1) := by decide +kernel
theorem dL_law_122 : decode cL_law 122 = .ok (.invokevirtual 47, 3) := by decide +kernel
theorem dL_law_125 : decode cL_law 125 = .ok (.iload 5, 2) := by decide +kernel
theorem dL_law_127 : decode cL_law 127 = .ok (.if_icmp .eq 5, 3) := by decide +kernel
theorem dL_law_130 : decode cL_law 130 = .ok (.iconst 0, 1) := by decide +kernel
theorem dL_law_131 : decode cL_law 131 = .ok (.ireturn, 1) := by decide +kernel
theorem dL_law_132 : decode cL_law 132 = .ok (.iload 5, 2) := by decide +kernel
theorem dL_law_134 : decode cL_law 134 = .ok (.ifCond .ne 15, 3) := by decide +kernel
theorem dL_law_137 : decode cL_law 137 = .ok (.aload_n 3, 1) := by decide +kernel
theorem dL_law_138 : decode cL_law 138 = .ok (.iconst 0, 1) := by decide +kernel
theorem dL_law_139 : decode cL_law 139 = .ok (.laload, 1) := by decide +kernel
theorem dL_law_140 : decode cL_law 140 = .ok (.iload 6, 2) := by decide +kernel
theorem dL_law_142 : decode cL_law 142 = .ok (.i2l, 1) := by decide +kernel
theorem dL_law_143 : decode cL_law 143 = .ok (.lcmp, 1) := by decide +kernel
theorem dL_law_144 : decode cL_law 144 = .ok (.ifCond .eq 5, 3) := by decide +kernel
theorem dL_law_147 : decode cL_law 147 = .ok (.iconst 0, 1) := by decide +kernel
theorem dL_law_148 : decode cL_law 148 = .ok (.ireturn, 1) := by decide +kernel
theorem dL_law_149 : decode cL_law 149 = .ok (.goto 440, 3) := by decide +kernel
theorem dL_law_152 : decode cL_law 152 = .ok (.aload_n 1, 1) := by decide +kernel
theorem dL_law_153 : decode cL_law 153 = .ok (.aload_n 0, 1) := by decide +kernel
theorem dL_law_154 : decode cL_law 154 = .ok (.iload 4, 2) := by decide +kernel
theorem dL_law_156 : decode cL_law 156 = .ok (.iconst 1, 1) := by decide +kernel
theorem dL_law_157 : decode cL_law 157 = .ok (.iadd, 1) := by decide +kernel
theorem dL_law_158 : decode cL_law 158 = .ok (.iaload, 1) := by decide +kernel
theorem dL_law_159 : decode cL_law 159 = .ok (.invokevirtual 51, 3) := by decide +kernel
theorem dL_law_162 : decode cL_law 162 = .ok (.aload_n 2, 1) := by decide +kernel
theorem dL_law_163 : decode cL_law 163 = .ok (.aload_n 0, 1) := by decide +kernel
theorem dL_law_164 : decode cL_law 164 = .ok (.iload 4, 2) := by decide +kernel
theorem dL_law_166 : decode cL_law 166 = .ok (.iconst 1, 1) := by decide +kernel
theorem dL_law_167 : decode cL_law 167 = .ok (.iadd, 1) := by decide +kernel
theorem dL_law_168 : decode cL_law 168 = .ok (.iaload, 1) := by decide +kernel
theorem dL_law_169 : decode cL_law 169 = .ok (.invokevirtual 55, 3) := by decide +kernel
theorem dL_law_172 : decode cL_law 172 = .ok (.goto 417, 3) := by decide +kernel
theorem dL_law_175 : decode cL_law 175 = .ok (.aload_n 1, 1) := by decide +kernel
theorem dL_law_176 : decode cL_law 176 = .ok (.aload_n 0, 1) := by decide +kernel
theorem dL_law_177 : decode cL_law 177 = .ok (.iload 4, 2) := by decide +kernel
theorem dL_law_179 : decode cL_law 179 = .ok (.iconst 1, 1) := by decide +kernel
theorem dL_law_180 : decode cL_law 180 = .ok (.iadd, 1) := by decide +kernel
theorem dL_law_181 : decode cL_law 181 = .ok (.iaload, 1) := by decide +kernel
theorem dL_law_182 : decode cL_law 182 = .ok (.aload_n 3, 1) := by decide +kernel
theorem dL_law_183 : decode cL_law 183 = .ok (.invokestatic 56, 3) := by decide +kernel
theorem dL_law_186 : decode cL_law 186 = .ok (.istore 5, 2) := by decide +kernel
theorem dL_law_188 : decode cL_law 188 = .ok (.aload_n 2, 1) := by decide +kernel
theorem dL_law_189 : decode cL_law 189 = .ok (.aload_n 0, 1) := by decide +kernel
theorem dL_law_190 : decode cL_law 190 = .ok (.iload 4, 2) := by decide +kernel
theorem dL_law_192 : decode cL_law 192 = .ok (.iconst 1, 1) := by decide +kernel
theorem dL_law_193 : decode cL_law 193 = .ok (.iadd, 1) := by decide +kernel
theorem dL_law_194 : decode cL_law 194 = .ok (.iaload, 1) := by decide +kernel
theorem dL_law_195 : decode cL_law 195 = .ok (.invokevirtual 58, 3) := by decide +kernel
theorem dL_law_198 : decode cL_law 198 = .ok (.istore 6, 2) := by decide +kernel
theorem dL_law_200 : decode cL_law 200 = .ok (.aload_n 2, 1) := by decide +kernel
theorem dL_law_201 : decode cL_law 201 = .ok (.invokevirtual 47, 3) := by decide +kernel
theorem dL_law_204 : decode cL_law 204 = .ok (.iload 5, 2) := by decide +kernel
theorem dL_law_206 : decode cL_law 206 = .ok (.if_icmp .eq 5, 3) := by decide +kernel
theorem dL_law_209 : decode cL_law 209 = .ok (.iconst 0, 1) := by decide +kernel
theorem dL_law_210 : decode cL_law 210 = .ok (.ireturn, 1) := by decide +kernel
theorem dL_law_211 : decode cL_law 211 = .ok (.iload 5, 2) := by decide +kernel
theorem dL_law_213 : decode cL_law 213 = .ok (.ifCond .ne 15, 3) := by decide +kernel
theorem dL_law_216 : decode cL_law 216 = .ok (.aload_n 3, 1) := by decide +kernel
theorem dL_law_217 : decode cL_law 217 = .ok (.iconst 0, 1) := by decide +kernel
theorem dL_law_218 : decode cL_law 218 = .ok (.laload, 1) := by decide +kernel
theorem dL_law_219 : decode cL_law 219 = .ok (.iload 6, 2) := by decide +kernel
theorem dL_law_221 : decode cL_law 221 = .ok (.i2l, 1) := by decide +kernel
theorem dL_law_222 : decode cL_law 222 = .ok (.lcmp, 1) := by decide +kernel
theorem dL_law_223 : decode cL_law 223 = .ok (.ifCond .eq 5, 3) := by decide +kernel
theorem dL_law_226 : decode cL_law 226 = .ok (.iconst 0, 1) := by decide +kernel
theorem dL_law_227 : decode cL_law 227 = .ok (.ireturn, 1) := by decide +kernel
theorem dL_law_228 : decode cL_law 228 = .ok (.goto 361, 3) := by decide +kernel
theorem dL_law_231 : decode cL_law 231 = .ok (.aload_n 1, 1) := by decide +kernel
theorem dL_law_232 : decode cL_law 232 = .ok (.aload_n 0, 1) := by decide +kernel
theorem dL_law_233 : decode cL_law 233 = .ok (.iload 4, 2) := by decide +kernel
theorem dL_law_235 : decode cL_law 235 = .ok (.iconst 1, 1) := by decide +kernel
theorem dL_law_236 : decode cL_law 236 = .ok (.iadd, 1) := by decide +kernel
theorem dL_law_237 : decode cL_law 237 = .ok (.iaload, 1) := by decide +kernel
theorem dL_law_238 : decode cL_law 238 = .ok (.aload_n 0, 1) := by decide +kernel
theorem dL_law_239 : decode cL_law 239 = .ok (.iload 4, 2) := by decide +kernel
theorem dL_law_241 : decode cL_law 241 = .ok (.iconst 2, 1) := by decide +kernel
theorem dL_law_242 : decode cL_law 242 = .ok (.iadd, 1) := by decide +kernel
theorem dL_law_243 : decode cL_law 243 = .ok (.iaload, 1) := by decide +kernel
theorem dL_law_244 : decode cL_law 244 = .ok (.invokestatic 59, 3) := by decide +kernel
theorem dL_law_247 : decode cL_law 247 = .ok (.istore 5, 2) := by decide +kernel
theorem dL_law_249 : decode cL_law 249 = .ok (.aload_n 2, 1) := by decide +kernel
theorem dL_law_250 : decode cL_law 250 = .ok (.aload_n 0, 1) := by decide +kernel
theorem dL_law_251 : decode cL_law 251 = .ok (.iload 4, 2) := by decide +kernel
theorem dL_law_253 : decode cL_law 253 = .ok (.iconst 1, 1) := by decide +kernel
theorem dL_law_254 : decode cL_law 254 = .ok (.iadd, 1) := by decide +kernel
theorem dL_law_255 : decode cL_law 255 = .ok (.iaload, 1) := by decide +kernel
theorem dL_law_256 : decode cL_law 256 = .ok (.aload_n 0, 1) := by decide +kernel
theorem dL_law_257 : decode cL_law 257 = .ok (.iload 4, 2) := by decide +kernel
theorem dL_law_259 : decode cL_law 259 = .ok (.iconst 2, 1) := by decide +kernel
theorem dL_law_260 : decode cL_law 260 = .ok (.iadd, 1) := by decide +kernel
theorem dL_law_261 : decode cL_law 261 = .ok (.iaload, 1) := by decide +kernel
theorem dL_law_262 : decode cL_law 262 = .ok (.invokevirtual 62, 3) := by decide +kernel
theorem dL_law_265 : decode cL_law 265 = .ok (.aload_n 2, 1) := by decide +kernel
theorem dL_law_266 : decode cL_law 266 = .ok (.invokevirtual 47, 3) := by decide +kernel
theorem dL_law_269 : decode cL_law 269 = .ok (.iload 5, 2) := by decide +kernel
theorem dL_law_271 : decode cL_law 271 = .ok (.if_icmp .eq 5, 3) := by decide +kernel
theorem dL_law_274 : decode cL_law 274 = .ok (.iconst 0, 1) := by decide +kernel
theorem dL_law_275 : decode cL_law 275 = .ok (.ireturn, 1) := by decide +kernel
theorem dL_law_276 : decode cL_law 276 = .ok (.goto 313, 3) := by decide +kernel
theorem dL_law_279 : decode cL_law 279 = .ok (.aload_n 1, 1) := by decide +kernel
theorem dL_law_280 : decode cL_law 280 = .ok (.aload_n 0, 1) := by decide +kernel
theorem dL_law_281 : decode cL_law 281 = .ok (.iload 4, 2) := by decide +kernel
theorem dL_law_283 : decode cL_law 283 = .ok (.iconst 1, 1) := by decide +kernel
theorem dL_law_284 : decode cL_law 284 = .ok (.iadd, 1) := by decide +kernel
theorem dL_law_285 : decode cL_law 285 = .ok (.iaload, 1) := by decide +kernel
theorem dL_law_286 : decode cL_law 286 = .ok (.invokevirtual 63, 3) := by decide +kernel
theorem dL_law_289 : decode cL_law 289 = .ok (.aload_n 2, 1) := by decide +kernel
theorem dL_law_290 : decode cL_law 290 = .ok (.aload_n 0, 1) := by decide +kernel
theorem dL_law_291 : decode cL_law 291 = .ok (.iload 4, 2) := by decide +kernel
theorem dL_law_293 : decode cL_law 293 = .ok (.iconst 1, 1) := by decide +kernel
theorem dL_law_294 : decode cL_law 294 = .ok (.iadd, 1) := by decide +kernel
theorem dL_law_295 : decode cL_law 295 = .ok (.iaload, 1) := by decide +kernel
theorem dL_law_296 : decode cL_law 296 = .ok (.invokevirtual 66, 3) := by decide +kernel
theorem dL_law_299 : decode cL_law 299 = .ok (.if_icmp .eq 290, 3) := by decide +kernel
theorem dL_law_302 : decode cL_law 302 = .ok (.iconst 0, 1) := by decide +kernel
theorem dL_law_303 : decode cL_law 303 = .ok (.ireturn, 1) := by decide +kernel
theorem dL_law_304 : decode cL_law 304 = .ok (.aload_n 1, 1) := by decide +kernel
theorem dL_law_305 : decode cL_law 305 = .ok (.aload_n 0, 1) := by decide +kernel
theorem dL_law_306 : decode cL_law 306 = .ok (.iload 4, 2) := by decide +kernel
theorem dL_law_308 : decode cL_law 308 = .ok (.iconst 1, 1) := by decide +kernel
theorem dL_law_309 : decode cL_law 309 = .ok (.iadd, 1) := by decide +kernel
theorem dL_law_310 : decode cL_law 310 = .ok (.iaload, 1) := by decide +kernel
theorem dL_law_311 : decode cL_law 311 = .ok (.invokevirtual 67, 3) := by decide +kernel
theorem dL_law_314 : decode cL_law 314 = .ok (.aload_n 2, 1) := by decide +kernel
theorem dL_law_315 : decode cL_law 315 = .ok (.aload_n 0, 1) := by decide +kernel
theorem dL_law_316 : decode cL_law 316 = .ok (.iload 4, 2) := by decide +kernel
theorem dL_law_318 : decode cL_law 318 = .ok (.iconst 1, 1) := by decide +kernel
theorem dL_law_319 : decode cL_law 319 = .ok (.iadd, 1) := by decide +kernel
theorem dL_law_320 : decode cL_law 320 = .ok (.iaload, 1) := by decide +kernel
theorem dL_law_321 : decode cL_law 321 = .ok (.invokevirtual 70, 3) := by decide +kernel
theorem dL_law_324 : decode cL_law 324 = .ok (.goto 265, 3) := by decide +kernel
theorem dL_law_327 : decode cL_law 327 = .ok (.aload_n 1, 1) := by decide +kernel
theorem dL_law_328 : decode cL_law 328 = .ok (.aload_n 0, 1) := by decide +kernel
theorem dL_law_329 : decode cL_law 329 = .ok (.iload 4, 2) := by decide +kernel
theorem dL_law_331 : decode cL_law 331 = .ok (.iconst 1, 1) := by decide +kernel
theorem dL_law_332 : decode cL_law 332 = .ok (.iadd, 1) := by decide +kernel
theorem dL_law_333 : decode cL_law 333 = .ok (.iaload, 1) := by decide +kernel
theorem dL_law_334 : decode cL_law 334 = .ok (.aload_n 0, 1) := by decide +kernel
theorem dL_law_335 : decode cL_law 335 = .ok (.iload 4, 2) := by decide +kernel
theorem dL_law_337 : decode cL_law 337 = .ok (.iconst 2, 1) := by decide +kernel
theorem dL_law_338 : decode cL_law 338 = .ok (.iadd, 1) := by decide +kernel
theorem dL_law_339 : decode cL_law 339 = .ok (.iaload, 1) := by decide +kernel
theorem dL_law_340 : decode cL_law 340 = .ok (.ifCond .eq 7, 3) := by decide +kernel
theorem dL_law_343 : decode cL_law 343 = .ok (.iconst 1, 1) := by decide +kernel
theorem dL_law_344 : decode cL_law 344 = .ok (.goto 4, 3) := by decide +kernel
theorem dL_law_347 : decode cL_law 347 = .ok (.iconst 0, 1) := by decide +kernel
theorem dL_law_348 : decode cL_law 348 = .ok (.aload_n 0, 1) := by decide +kernel
theorem dL_law_349 : decode cL_law 349 = .ok (.iload 4, 2) := by decide +kernel
theorem dL_law_351 : decode cL_law 351 = .ok (.iconst 3, 1) := by decide +kernel
theorem dL_law_352 : decode cL_law 352 = .ok (.iadd, 1) := by decide +kernel
theorem dL_law_353 : decode cL_law 353 = .ok (.iaload, 1) := by decide +kernel
theorem dL_law_354 : decode cL_law 354 = .ok (.invokestatic 71, 3) := by decide +kernel
theorem dL_law_357 : decode cL_law 357 = .ok (.istore 5, 2) := by decide +kernel
theorem dL_law_359 : decode cL_law 359 = .ok (.aload_n 2, 1) := by decide +kernel
theorem dL_law_360 : decode cL_law 360 = .ok (.aload_n 0, 1) := by decide +kernel
theorem dL_law_361 : decode cL_law 361 = .ok (.iload 4, 2) := by decide +kernel
theorem dL_law_363 : decode cL_law 363 = .ok (.iconst 1, 1) := by decide +kernel
theorem dL_law_364 : decode cL_law 364 = .ok (.iadd, 1) := by decide +kernel
theorem dL_law_365 : decode cL_law 365 = .ok (.iaload, 1) := by decide +kernel
theorem dL_law_366 : decode cL_law 366 = .ok (.aload_n 0, 1) := by decide +kernel
theorem dL_law_367 : decode cL_law 367 = .ok (.iload 4, 2) := by decide +kernel
theorem dL_law_369 : decode cL_law 369 = .ok (.iconst 2, 1) := by decide +kernel
theorem dL_law_370 : decode cL_law 370 = .ok (.iadd, 1) := by decide +kernel
theorem dL_law_371 : decode cL_law 371 = .ok (.iaload, 1) := by decide +kernel
theorem dL_law_372 : decode cL_law 372 = .ok (.ifCond .eq 7, 3) := by decide +kernel
theorem dL_law_375 : decode cL_law 375 = .ok (.iconst 1, 1) := by decide +kernel
theorem dL_law_376 : decode cL_law 376 = .ok (.goto 4, 3) := by decide +kernel
theorem dL_law_379 : decode cL_law 379 = .ok (.iconst 0, 1) := by decide +kernel
theorem dL_law_380 : decode cL_law 380 = .ok (.aload_n 0, 1) := by decide +kernel
theorem dL_law_381 : decode cL_law 381 = .ok (.iload 4, 2) := by decide +kernel
theorem dL_law_383 : decode cL_law 383 = .ok (.iconst 3, 1) := by decide +kernel
theorem dL_law_384 : decode cL_law 384 = .ok (.iadd, 1) := by decide +kernel
theorem dL_law_385 : decode cL_law 385 = .ok (.iaload, 1) := by decide +kernel
theorem dL_law_386 : decode cL_law 386 = .ok (.invokevirtual 74, 3) := by decide +kernel
theorem dL_law_389 : decode cL_law 389 = .ok (.aload_n 2, 1) := by decide +kernel
theorem dL_law_390 : decode cL_law 390 = .ok (.invokevirtual 47, 3) := by decide +kernel
theorem dL_law_393 : decode cL_law 393 = .ok (.iload 5, 2) := by decide +kernel
theorem dL_law_395 : decode cL_law 395 = .ok (.if_icmp .eq 5, 3) := by decide +kernel
theorem dL_law_398 : decode cL_law 398 = .ok (.iconst 0, 1) := by decide +kernel
theorem dL_law_399 : decode cL_law 399 = .ok (.ireturn, 1) := by decide +kernel
theorem dL_law_400 : decode cL_law 400 = .ok (.goto 189, 3) := by decide +kernel
theorem dL_law_403 : decode cL_law 403 = .ok (.aload_n 1, 1) := by decide +kernel
theorem dL_law_404 : decode cL_law 404 = .ok (.aload_n 0, 1) := by decide +kernel
theorem dL_law_405 : decode cL_law 405 = .ok (.iload 4, 2) := by decide +kernel
theorem dL_law_407 : decode cL_law 407 = .ok (.iconst 1, 1) := by decide +kernel
theorem dL_law_408 : decode cL_law 408 = .ok (.iadd, 1) := by decide +kernel
theorem dL_law_409 : decode cL_law 409 = .ok (.iaload, 1) := by decide +kernel
theorem dL_law_410 : decode cL_law 410 = .ok (.aload_n 0, 1) := by decide +kernel
theorem dL_law_411 : decode cL_law 411 = .ok (.iload 4, 2) := by decide +kernel
theorem dL_law_413 : decode cL_law 413 = .ok (.iconst 2, 1) := by decide +kernel
theorem dL_law_414 : decode cL_law 414 = .ok (.iadd, 1) := by decide +kernel
theorem dL_law_415 : decode cL_law 415 = .ok (.iaload, 1) := by decide +kernel
theorem dL_law_416 : decode cL_law 416 = .ok (.aload_n 3, 1) := by decide +kernel
theorem dL_law_417 : decode cL_law 417 = .ok (.invokestatic 75, 3) := by decide +kernel
theorem dL_law_420 : decode cL_law 420 = .ok (.istore 5, 2) := by decide +kernel
theorem dL_law_422 : decode cL_law 422 = .ok (.aload_n 2, 1) := by decide +kernel
theorem dL_law_423 : decode cL_law 423 = .ok (.aload_n 0, 1) := by decide +kernel
theorem dL_law_424 : decode cL_law 424 = .ok (.iload 4, 2) := by decide +kernel
theorem dL_law_426 : decode cL_law 426 = .ok (.iconst 1, 1) := by decide +kernel
theorem dL_law_427 : decode cL_law 427 = .ok (.iadd, 1) := by decide +kernel
theorem dL_law_428 : decode cL_law 428 = .ok (.iaload, 1) := by decide +kernel
theorem dL_law_429 : decode cL_law 429 = .ok (.aload_n 0, 1) := by decide +kernel
theorem dL_law_430 : decode cL_law 430 = .ok (.iload 4, 2) := by decide +kernel
theorem dL_law_432 : decode cL_law 432 = .ok (.iconst 2, 1) := by decide +kernel
theorem dL_law_433 : decode cL_law 433 = .ok (.iadd, 1) := by decide +kernel
theorem dL_law_434 : decode cL_law 434 = .ok (.iaload, 1) := by decide +kernel
theorem dL_law_435 : decode cL_law 435 = .ok (.invokevirtual 78, 3) := by decide +kernel
theorem dL_law_438 : decode cL_law 438 = .ok (.istore 6, 2) := by decide +kernel
theorem dL_law_440 : decode cL_law 440 = .ok (.aload_n 2, 1) := by decide +kernel
theorem dL_law_441 : decode cL_law 441 = .ok (.invokevirtual 47, 3) := by decide +kernel
theorem dL_law_444 : decode cL_law 444 = .ok (.iload 5, 2) := by decide +kernel
theorem dL_law_446 : decode cL_law 446 = .ok (.if_icmp .eq 5, 3) := by decide +kernel
theorem dL_law_449 : decode cL_law 449 = .ok (.iconst 0, 1) := by decide +kernel
theorem dL_law_450 : decode cL_law 450 = .ok (.ireturn, 1) := by decide +kernel
theorem dL_law_451 : decode cL_law 451 = .ok (.iload 5, 2) := by decide +kernel
theorem dL_law_453 : decode cL_law 453 = .ok (.ifCond .ne 15, 3) := by decide +kernel
theorem dL_law_456 : decode cL_law 456 = .ok (.aload_n 3, 1) := by decide +kernel
theorem dL_law_457 : decode cL_law 457 = .ok (.iconst 0, 1) := by decide +kernel
theorem dL_law_458 : decode cL_law 458 = .ok (.laload, 1) := by decide +kernel
theorem dL_law_459 : decode cL_law 459 = .ok (.iload 6, 2) := by decide +kernel
theorem dL_law_461 : decode cL_law 461 = .ok (.i2l, 1) := by decide +kernel
theorem dL_law_462 : decode cL_law 462 = .ok (.lcmp, 1) := by decide +kernel
theorem dL_law_463 : decode cL_law 463 = .ok (.ifCond .eq 5, 3) := by decide +kernel
theorem dL_law_466 : decode cL_law 466 = .ok (.iconst 0, 1) := by decide +kernel
theorem dL_law_467 : decode cL_law 467 = .ok (.ireturn, 1) := by decide +kernel
theorem dL_law_468 : decode cL_law 468 = .ok (.goto 121, 3) := by decide +kernel
theorem dL_law_471 : decode cL_law 471 = .ok (.aload_n 1, 1) := by decide +kernel
theorem dL_law_472 : decode cL_law 472 = .ok (.aload_n 0, 1) := by decide +kernel
theorem dL_law_473 : decode cL_law 473 = .ok (.iload 4, 2) := by decide +kernel
theorem dL_law_475 : decode cL_law 475 = .ok (.iconst 1, 1) := by decide +kernel
theorem dL_law_476 : decode cL_law 476 = .ok (.iadd, 1) := by decide +kernel
theorem dL_law_477 : decode cL_law 477 = .ok (.iaload, 1) := by decide +kernel
theorem dL_law_478 : decode cL_law 478 = .ok (.aload_n 0, 1) := by decide +kernel
theorem dL_law_479 : decode cL_law 479 = .ok (.iload 4, 2) := by decide +kernel
theorem dL_law_481 : decode cL_law 481 = .ok (.iconst 2, 1) := by decide +kernel
theorem dL_law_482 : decode cL_law 482 = .ok (.iadd, 1) := by decide +kernel
theorem dL_law_483 : decode cL_law 483 = .ok (.iaload, 1) := by decide +kernel
theorem dL_law_484 : decode cL_law 484 = .ok (.aload_n 3, 1) := by decide +kernel
theorem dL_law_485 : decode cL_law 485 = .ok (.invokestatic 79, 3) := by decide +kernel
theorem dL_law_488 : decode cL_law 488 = .ok (.istore 5, 2) := by decide +kernel
theorem dL_law_490 : decode cL_law 490 = .ok (.aload_n 2, 1) := by decide +kernel
theorem dL_law_491 : decode cL_law 491 = .ok (.aload_n 0, 1) := by decide +kernel
theorem dL_law_492 : decode cL_law 492 = .ok (.iload 4, 2) := by decide +kernel
theorem dL_law_494 : decode cL_law 494 = .ok (.iconst 1, 1) := by decide +kernel
theorem dL_law_495 : decode cL_law 495 = .ok (.iadd, 1) := by decide +kernel
theorem dL_law_496 : decode cL_law 496 = .ok (.iaload, 1) := by decide +kernel
theorem dL_law_497 : decode cL_law 497 = .ok (.aload_n 0, 1) := by decide +kernel
theorem dL_law_498 : decode cL_law 498 = .ok (.iload 4, 2) := by decide +kernel
theorem dL_law_500 : decode cL_law 500 = .ok (.iconst 2, 1) := by decide +kernel
theorem dL_law_501 : decode cL_law 501 = .ok (.iadd, 1) := by decide +kernel
theorem dL_law_502 : decode cL_law 502 = .ok (.iaload, 1) := by decide +kernel
theorem dL_law_503 : decode cL_law 503 = .ok (.invokevirtual 81, 3) := by decide +kernel
theorem dL_law_506 : decode cL_law 506 = .ok (.istore 6, 2) := by decide +kernel
theorem dL_law_508 : decode cL_law 508 = .ok (.aload_n 2, 1) := by decide +kernel
theorem dL_law_509 : decode cL_law 509 = .ok (.invokevirtual 47, 3) := by decide +kernel
theorem dL_law_512 : decode cL_law 512 = .ok (.iload 5, 2) := by decide +kernel
theorem dL_law_514 : decode cL_law 514 = .ok (.if_icmp .eq 5, 3) := by decide +kernel
theorem dL_law_517 : decode cL_law 517 = .ok (.iconst 0, 1) := by decide +kernel
theorem dL_law_518 : decode cL_law 518 = .ok (.ireturn, 1) := by decide +kernel
theorem dL_law_519 : decode cL_law 519 = .ok (.iload 5, 2) := by decide +kernel
theorem dL_law_521 : decode cL_law 521 = .ok (.ifCond .ne 15, 3) := by decide +kernel
theorem dL_law_524 : decode cL_law 524 = .ok (.aload_n 3, 1) := by decide +kernel
theorem dL_law_525 : decode cL_law 525 = .ok (.iconst 0, 1) := by decide +kernel
theorem dL_law_526 : decode cL_law 526 = .ok (.laload, 1) := by decide +kernel
theorem dL_law_527 : decode cL_law 527 = .ok (.iload 6, 2) := by decide +kernel
theorem dL_law_529 : decode cL_law 529 = .ok (.i2l, 1) := by decide +kernel
theorem dL_law_530 : decode cL_law 530 = .ok (.lcmp, 1) := by decide +kernel
theorem dL_law_531 : decode cL_law 531 = .ok (.ifCond .eq 5, 3) := by decide +kernel
theorem dL_law_534 : decode cL_law 534 = .ok (.iconst 0, 1) := by decide +kernel
theorem dL_law_535 : decode cL_law 535 = .ok (.ireturn, 1) := by decide +kernel
theorem dL_law_536 : decode cL_law 536 = .ok (.goto 53, 3) := by decide +kernel
theorem dL_law_539 : decode cL_law 539 = .ok (.aload_n 1, 1) := by decide +kernel
theorem dL_law_540 : decode cL_law 540 = .ok (.aload_n 0, 1) := by decide +kernel
theorem dL_law_541 : decode cL_law 541 = .ok (.iload 4, 2) := by decide +kernel
theorem dL_law_543 : decode cL_law 543 = .ok (.iconst 1, 1) := by decide +kernel
theorem dL_law_544 : decode cL_law 544 = .ok (.iadd, 1) := by decide +kernel
theorem dL_law_545 : decode cL_law 545 = .ok (.iaload, 1) := by decide +kernel
theorem dL_law_546 : decode cL_law 546 = .ok (.aload_n 0, 1) := by decide +kernel
theorem dL_law_547 : decode cL_law 547 = .ok (.iload 4, 2) := by decide +kernel
theorem dL_law_549 : decode cL_law 549 = .ok (.iconst 2, 1) := by decide +kernel
theorem dL_law_550 : decode cL_law 550 = .ok (.iadd, 1) := by decide +kernel
theorem dL_law_551 : decode cL_law 551 = .ok (.iaload, 1) := by decide +kernel
theorem dL_law_552 : decode cL_law 552 = .ok (.invokevirtual 82, 3) := by decide +kernel
theorem dL_law_555 : decode cL_law 555 = .ok (.aload_n 2, 1) := by decide +kernel
theorem dL_law_556 : decode cL_law 556 = .ok (.aload_n 0, 1) := by decide +kernel
theorem dL_law_557 : decode cL_law 557 = .ok (.iload 4, 2) := by decide +kernel
theorem dL_law_559 : decode cL_law 559 = .ok (.iconst 1, 1) := by decide +kernel
theorem dL_law_560 : decode cL_law 560 = .ok (.iadd, 1) := by decide +kernel
theorem dL_law_561 : decode cL_law 561 = .ok (.iaload, 1) := by decide +kernel
theorem dL_law_562 : decode cL_law 562 = .ok (.aload_n 0, 1) := by decide +kernel
theorem dL_law_563 : decode cL_law 563 = .ok (.iload 4, 2) := by decide +kernel
theorem dL_law_565 : decode cL_law 565 = .ok (.iconst 2, 1) := by decide +kernel
theorem dL_law_566 : decode cL_law 566 = .ok (.iadd, 1) := by decide +kernel
theorem dL_law_567 : decode cL_law 567 = .ok (.iaload, 1) := by decide +kernel
theorem dL_law_568 : decode cL_law 568 = .ok (.invokevirtual 85, 3) := by decide +kernel
theorem dL_law_571 : decode cL_law 571 = .ok (.if_icmp .eq 18, 3) := by decide +kernel
theorem dL_law_574 : decode cL_law 574 = .ok (.iconst 0, 1) := by decide +kernel
theorem dL_law_575 : decode cL_law 575 = .ok (.ireturn, 1) := by decide +kernel
theorem dL_law_576 : decode cL_law 576 = .ok (.aload_n 1, 1) := by decide +kernel
theorem dL_law_577 : decode cL_law 577 = .ok (.invokevirtual 86, 3) := by decide +kernel
theorem dL_law_580 : decode cL_law 580 = .ok (.aload_n 2, 1) := by decide +kernel
theorem dL_law_581 : decode cL_law 581 = .ok (.invokevirtual 89, 3) := by decide +kernel
theorem dL_law_584 : decode cL_law 584 = .ok (.if_icmp .eq 5, 3) := by decide +kernel
theorem dL_law_587 : decode cL_law 587 = .ok (.iconst 0, 1) := by decide +kernel
theorem dL_law_588 : decode cL_law 588 = .ok (.ireturn, 1) := by decide +kernel
theorem dL_law_589 : decode cL_law 589 = .ok (.iinc 4 4, 3) := by decide +kernel
theorem dL_law_592 : decode cL_law 592 = .ok (.goto (-569), 3) := by decide +kernel
theorem dL_law_595 : decode cL_law 595 = .ok (.iconst 1, 1) := by decide +kernel
theorem dL_law_596 : decode cL_law 596 = .ok (.ireturn, 1) := by decide +kernel
end
section
/-! ===== the state in numbers, the class's world, contracts over one world ===== -/
abbrev oh_St : Type := Nat → Nat → Int32
def oh_up (σ : oh_St) (k i : Nat) (v : Int32) : oh_St := va_up σ k (upd (σ k) i v)
/-- links between nest mates -/
def oh_nf : List (String × Nat × String × String × String) := [(RX5, 23, RX6, "p", "I"), (RX7, 62, RX6, "p", "I"), (RX7, 78, RX6, "e", "I"), (RX5, 98, RX6, "e", "I"), (RX7, 81, RX6, "o", "I"), (RX0, 79, RX6, "o", "I"), (RX5, 101, RX6, "o", "I"), (RX7, 91, RX6, "heldOff", "Z"), (RX5, 93, RX6, "heldOff", "Z"), (RX7, 52, RX6, "halted", "Z"), (RX7, 94, RX6, "haltCode", "I"), (RX1, 61, RX3, "control", "Z"), (RX0, 70, RX3, "control", "Z"), (RX7, 140, RX3, "control", "Z"), (RX0, 59, RX3, "flag", "Z"), (RX7, 145, RX3, "flag", "Z"), (RX0, 73, RX3, "asks", "Z"), (RX7, 148, RX3, "asks", "Z"), (RX0, 34, RX1, "line", "LOctalHouse$Line;"), (RX0, 51, RX1, "active", "Z"), (RX0, 95, RX1, "count", "I"), (RX0, 55, RX1, "firstWord", "I"), (RX0, 111, RX1, "countComesNext", "Z"), (RX0, 39, RX2, "line", "LOctalHouse$Line;"), (RX1, 41, RX2, "line", "LOctalHouse$Line;"), (RX1, 26, RX2, "buffer", "I"), (RX0, 98, RX2, "buffer", "I"), (RX7, 121, RX2, "tapeLength", "I"), (RX7, 84, RX0, "interruptsOn", "Z"), (RX7, 104, RX0, "switchWord", "I"), (RX7, 97, RX0, "lamps", "I")]
def oh_nm : List (String × Nat × MethodName) := [(RX7, 9, yX4_init), (RX7, 18, yX6_init), (RX0, 33, yX1_init), (RX1, 11, yX3_init), (RX0, 38, yX2_init), (RX2, 11, yX3_init), (RX1, 73, yX7_bit), (RX2, 60, yX7_bit), (RX0, 84, yX7_bit), (RX5, 168, yX7_bit)]
def oh_N (U : State) : Prop := (∀ q ∈ oh_nf, va_Nw (.fieldLinkNest q.1 q.2.1 q.2.2.1 q.2.2.2.1 q.2.2.2.2 RX7) U) ∧ (∀ q ∈ oh_nm, va_Nw (.methodLinkNest q.1 q.2.1 q.2.2 RX7) U)
theorem oh_N.warm {s U : State} (hW : s.WarmedH U.vm) (h : oh_N s) : oh_N U := ⟨fun q hq => va_Nw.warmF hW (h.1 q hq), fun q hq => va_Nw.warmM hW (h.2 q hq)⟩
theorem oh_N.same {u U : State} (e : u.vm = U.vm) (h : oh_N u) : oh_N U := ⟨fun q hq => va_Nw.same rfl e (h.1 q hq), fun q hq => va_Nw.same rfl e (h.2 q hq)⟩
theorem oh_nF {s : State} {args : Array Value} (h : oh_N s) {o : String} {i : Nat} {b n d : String} (hm : (o, i, b, n, d) ∈ oh_nf) : (Cond.fieldLinkNest o i b n d RX7).before args s = true := va_Nw.use rfl (h.1 _ hm)
theorem oh_nM {s : State} (h : oh_N s) {o : String} {i : Nat} {y : MethodName} (hm : (o, i, y) ∈ oh_nm) : va_Nw (.methodLinkNest o i y RX7) s := h.2 _ hm
/-- a contract's start -/
def oh_Pr (D : va_G) (tys : List (ClassId × FieldType)) (w : va_W) (sz : Nat) (U : State) : Prop := U.heap.size = sz ∧ va_P D vwCl w U.heap ∧ va_K D vwCl tys U ∧ oh_N U ∧ va_D (fun _ => True) w
theorem oh_blind {av : List Value} {D : va_G} {tys : List (ClassId × FieldType)} {w : va_W} {sz : Nat} : FrameBlind (va_Pc av (oh_Pr D tys w sz)) := fun a U g mk q => by
  obtain ⟨q0, q1, qP, qK, qN, qD⟩ := q
  exact ⟨q0, q1, qP, va_K.moved (u := U) (U := U.calling g mk a) (Vm.Alike.refl U.vm) qK, qN.same rfl, qD⟩
theorem oh_Pr.at {D : va_G} {tys : List (ClassId × FieldType)} {w : va_W} {A : Nat → Prop} {s : State} {H : Heap} (hP : va_P D vwCl w H) (hK : va_K D vwCl tys s) (hN : oh_N s) (hD : va_D A w) (U : State) (hU : U.heap = H) (hW : s.WarmedH U.vm) : oh_Pr D tys w H.size U :=
  ⟨by rw [hU], by rw [hU]; exact hP, va_K.moved hW.alike hK, hN.warm hW, hD.weaken (fun _ _ _ _ => trivial)⟩
def oh_Bk (D : va_G) (Wd : oh_St → va_W) (A : Nat → Prop) (u : oh_St) (t : State) : Prop := va_P D vwCl (Wd u) t.heap ∧ va_D A (Wd u)
def oh_Mi (l : Launch) (y : MethodName) (ws : List Cond) (rm : Room) (D : va_G) (tys : List (ClassId × FieldType)) (Wd : oh_St → va_W) (av : List Value) (σ : oh_St) (post : Int32 → oh_St → Prop) : Prop :=
  ∀ sz : Nat, Met l y ws rm (va_Pc av (oh_Pr D tys (Wd σ) sz)) (va_Qi post (oh_Bk D Wd (va_A (Wd σ) sz)) (va_A (Wd σ) sz)) 0 0 (va_A (Wd σ) sz)
def oh_Ml (l : Launch) (y : MethodName) (ws : List Cond) (rm : Room) (D : va_G) (tys : List (ClassId × FieldType)) (Wd : oh_St → va_W) (av : List Value) (σ : oh_St) (post : Int64 → oh_St → Prop) : Prop :=
  ∀ sz : Nat, Met l y ws rm (va_Pc av (oh_Pr D tys (Wd σ) sz)) (va_Ql post (oh_Bk D Wd (va_A (Wd σ) sz)) (va_A (Wd σ) sz)) 0 0 (va_A (Wd σ) sz)
def oh_Mv (l : Launch) (y : MethodName) (ws : List Cond) (rm : Room) (D : va_G) (tys : List (ClassId × FieldType)) (Wd : oh_St → va_W) (av : List Value) (σ : oh_St) (post : oh_St → Prop) : Prop :=
  ∀ sz : Nat, Met l y ws rm (va_Pc av (oh_Pr D tys (Wd σ) sz)) (va_Qv post (oh_Bk D Wd (va_A (Wd σ) sz)) (va_A (Wd σ) sz)) 0 0 (va_A (Wd σ) sz)
def oh_Mq (l : Launch) (y : MethodName) (ws : List Cond) (rm : Room) (D : va_G) (tys : List (ClassId × FieldType)) (Wd : oh_St → va_W) (av : List Value) (σ : oh_St) (post : Option Nat → oh_St → Prop) : Prop :=
  ∀ sz : Nat, Met l y ws rm (va_Pc av (oh_Pr D tys (Wd σ) sz)) (va_Qq post (oh_Bk D Wd (va_A (Wd σ) sz)) (va_A (Wd σ) sz)) 0 0 (va_A (Wd σ) sz)
def oh_Ei (below : List Frame) (post : Int32 → oh_St → Prop) (D : va_G) (Wd : oh_St → va_W) (A : Nat → Prop) (av : List Value) (s : State) : State → Prop := MQ below (va_Qi post (oh_Bk D Wd A) A) av.toArray s 0 0 A
def oh_El (below : List Frame) (post : Int64 → oh_St → Prop) (D : va_G) (Wd : oh_St → va_W) (A : Nat → Prop) (av : List Value) (s : State) : State → Prop := MQ below (va_Ql post (oh_Bk D Wd A) A) av.toArray s 0 0 A
def oh_Ev (below : List Frame) (post : oh_St → Prop) (D : va_G) (Wd : oh_St → va_W) (A : Nat → Prop) (av : List Value) (s : State) : State → Prop := MQ below (va_Qv post (oh_Bk D Wd A) A) av.toArray s 0 0 A
def oh_Eq (below : List Frame) (post : Option Nat → oh_St → Prop) (D : va_G) (Wd : oh_St → va_W) (A : Nat → Prop) (av : List Value) (s : State) : State → Prop := MQ below (va_Qq post (oh_Bk D Wd A) A) av.toArray s 0 0 A
/-- what stands all along a method's walk -/
def oh_Cx (p : Program) (s : State) (m : MethodId) (meth : Method) (c : Code) (cc : ByteArray) (nL : Nat) (rt : Option FieldType) (ws : List Cond) (args : Array Value) (own : String) (D : va_G) (tys : List (ClassId × FieldType)) (A : Nat → Prop) : Prop :=
  p.tables.exec = Jvm.exec ∧ c.code = cc ∧ c.maxLocals = nL ∧ s.vm.findClass own = some m.cls ∧ (∀ w ∈ ws, w.before args s = true) ∧ meth.sig.returnType = rt ∧ meth.locks = false ∧ va_K D vwCl tys s ∧ oh_N s ∧ (∀ q : Nat, s.heap.size ≤ q → A q)
section
variable {l : Launch} {y : MethodName} {ws ws' : List Cond} {rm : Room} {D : va_G} {tys : List (ClassId × FieldType)} {Wd : oh_St → va_W} {av : List Value} {σ : oh_St} {cc : ByteArray} {nL : Nat} {rt : Option FieldType}
theorem oh_ini {post : Int32 → oh_St → Prop} (hy : plainName y.cls = true) (hw : ws = Cond.code y cc nL rt :: ws') (hn : (lg_sl av).length ≤ nL)
    (body : ∀ (p : Program) (e : Env) (s : State) (m : MethodId) (below : List Frame) (meth : Method) (c : Code) (A : Nat → Prop) (ls : Array Slot), oh_Cx p s m meth c cc nL rt ws av.toArray y.cls D tys A → va_P D vwCl (Wd σ) s.heap → va_D A (Wd σ) → va_S A s.heap s.heap [] → lv_has ls nL (lv_args 0 av) → W p l e rm s m av.toArray below meth c s.heap [] 0 0 (oh_Ei below post D Wd A av s) (F0 m 0 ls [])) : oh_Mi l y ws rm D tys Wd av σ post := by
  intro sz
  refine Met.ofW (cc := cc) (maxL := nL) (ret := rt) hy hw ?_
  intro p e s m args below meth c s₁ B hml hv
  obtain ⟨rfl, hsz, hP, hK, hN, hD0⟩ := hv
  have hts := atoms_spec (ws := ws) B.pre
  have hown : s.vm.findClass y.cls = some m.cls := findClass_of_methodNamed B.named
  subst hsz
  have hl := lv_entry av (n := nL) hn
  rw [lg_entry_eq]
  exact body p e s m below meth c _ _ ⟨B.exec, B.bytes, hml, hown, hts, B.returns, B.notSynchronized, hK, hN, fun q h => Or.inr h⟩ hP hD0.self va_S.rf hl
theorem oh_inl {post : Int64 → oh_St → Prop} (hy : plainName y.cls = true) (hw : ws = Cond.code y cc nL rt :: ws') (hn : (lg_sl av).length ≤ nL)
    (body : ∀ (p : Program) (e : Env) (s : State) (m : MethodId) (below : List Frame) (meth : Method) (c : Code) (A : Nat → Prop) (ls : Array Slot), oh_Cx p s m meth c cc nL rt ws av.toArray y.cls D tys A → va_P D vwCl (Wd σ) s.heap → va_D A (Wd σ) → va_S A s.heap s.heap [] → lv_has ls nL (lv_args 0 av) → W p l e rm s m av.toArray below meth c s.heap [] 0 0 (oh_El below post D Wd A av s) (F0 m 0 ls [])) : oh_Ml l y ws rm D tys Wd av σ post := by
  intro sz
  refine Met.ofW (cc := cc) (maxL := nL) (ret := rt) hy hw ?_
  intro p e s m args below meth c s₁ B hml hv
  obtain ⟨rfl, hsz, hP, hK, hN, hD0⟩ := hv
  have hts := atoms_spec (ws := ws) B.pre
  have hown : s.vm.findClass y.cls = some m.cls := findClass_of_methodNamed B.named
  subst hsz
  have hl := lv_entry av (n := nL) hn
  rw [lg_entry_eq]
  exact body p e s m below meth c _ _ ⟨B.exec, B.bytes, hml, hown, hts, B.returns, B.notSynchronized, hK, hN, fun q h => Or.inr h⟩ hP hD0.self va_S.rf hl
theorem oh_inv {post : oh_St → Prop} (hy : plainName y.cls = true) (hw : ws = Cond.code y cc nL rt :: ws') (hn : (lg_sl av).length ≤ nL)
    (body : ∀ (p : Program) (e : Env) (s : State) (m : MethodId) (below : List Frame) (meth : Method) (c : Code) (A : Nat → Prop) (ls : Array Slot), oh_Cx p s m meth c cc nL rt ws av.toArray y.cls D tys A → va_P D vwCl (Wd σ) s.heap → va_D A (Wd σ) → va_S A s.heap s.heap [] → lv_has ls nL (lv_args 0 av) → W p l e rm s m av.toArray below meth c s.heap [] 0 0 (oh_Ev below post D Wd A av s) (F0 m 0 ls [])) : oh_Mv l y ws rm D tys Wd av σ post := by
  intro sz
  refine Met.ofW (cc := cc) (maxL := nL) (ret := rt) hy hw ?_
  intro p e s m args below meth c s₁ B hml hv
  obtain ⟨rfl, hsz, hP, hK, hN, hD0⟩ := hv
  have hts := atoms_spec (ws := ws) B.pre
  have hown : s.vm.findClass y.cls = some m.cls := findClass_of_methodNamed B.named
  subst hsz
  have hl := lv_entry av (n := nL) hn
  rw [lg_entry_eq]
  exact body p e s m below meth c _ _ ⟨B.exec, B.bytes, hml, hown, hts, B.returns, B.notSynchronized, hK, hN, fun q h => Or.inr h⟩ hP hD0.self va_S.rf hl
theorem oh_inq {post : Option Nat → oh_St → Prop} (hy : plainName y.cls = true) (hw : ws = Cond.code y cc nL rt :: ws') (hn : (lg_sl av).length ≤ nL)
    (body : ∀ (p : Program) (e : Env) (s : State) (m : MethodId) (below : List Frame) (meth : Method) (c : Code) (A : Nat → Prop) (ls : Array Slot), oh_Cx p s m meth c cc nL rt ws av.toArray y.cls D tys A → va_P D vwCl (Wd σ) s.heap → va_D A (Wd σ) → va_S A s.heap s.heap [] → lv_has ls nL (lv_args 0 av) → W p l e rm s m av.toArray below meth c s.heap [] 0 0 (oh_Eq below post D Wd A av s) (F0 m 0 ls [])) : oh_Mq l y ws rm D tys Wd av σ post := by
  intro sz
  refine Met.ofW (cc := cc) (maxL := nL) (ret := rt) hy hw ?_
  intro p e s m args below meth c s₁ B hml hv
  obtain ⟨rfl, hsz, hP, hK, hN, hD0⟩ := hv
  have hts := atoms_spec (ws := ws) B.pre
  have hown : s.vm.findClass y.cls = some m.cls := findClass_of_methodNamed B.named
  subst hsz
  have hl := lv_entry av (n := nL) hn
  rw [lg_entry_eq]
  exact body p e s m below meth c _ _ ⟨B.exec, B.bytes, hml, hown, hts, B.returns, B.notSynchronized, hK, hN, fun q h => Or.inr h⟩ hP hD0.self va_S.rf hl
end
section
variable {p : Program} {l : Launch} {e : Env} {R : Room} {s : State} {m : MethodId} {below : List Frame} {meth : Method} {c : Code} {H : Heap} {locs : List Loc} {D : va_G} {tys : List (ClassId × FieldType)} {Wd : oh_St → va_W} {av : List Value} {u : oh_St} {cc : ByteArray} {nL pc : Nat} {ls : Array Slot} {ws : List Cond} {own : String} {A : Nat → Prop}
theorem oh_reti {post : Int32 → oh_St → Prop} {v : Int32} (hC : oh_Cx p s m meth c cc nL (some .int) ws av.toArray own D tys A) (hP : va_P D vwCl (Wd u) H) (hD : va_D A (Wd u)) (hS : va_S A s.heap H locs) (hp : post v u) (hdg : decode cc pc = .ok (.ireturn, 1)) : W p l e R s m av.toArray below meth c H locs 0 0 (oh_Ei below post D Wd A av s) (F0 m pc ls [.int v]) := by
  obtain ⟨hx, hb, hml, hown, hts, hr, hlocks, hK, hN, hA⟩ := hC
  exact W.iret (v := v) hx hb hr (fun t ht hW => ⟨⟨v, u, rfl, hp, by rw [ht]; exact hP, hD⟩, hS.F ht⟩) hS.2.2 hdg
theorem oh_retz {post : Int32 → oh_St → Prop} {v : Int32} {ty : FieldType} (hC : oh_Cx p s m meth c cc nL (some ty) ws av.toArray own D tys A) (hn : narrow ty (.int v) = .int v) (hP : va_P D vwCl (Wd u) H) (hD : va_D A (Wd u)) (hS : va_S A s.heap H locs) (hp : post v u) (hdg : decode cc pc = .ok (.ireturn, 1)) : W p l e R s m av.toArray below meth c H locs 0 0 (oh_Ei below post D Wd A av s) (F0 m pc ls [.int v]) := by
  obtain ⟨hx, hb, hml, hown, hts, hr, hlocks, hK, hN, hA⟩ := hC
  exact W.zret (v := v) hx hb hr hn (fun t ht hW => ⟨⟨v, u, rfl, hp, by rw [ht]; exact hP, hD⟩, hS.F ht⟩) hS.2.2 hdg
theorem oh_retl {post : Int64 → oh_St → Prop} {v : Int64} (hC : oh_Cx p s m meth c cc nL (some .long) ws av.toArray own D tys A) (hP : va_P D vwCl (Wd u) H) (hD : va_D A (Wd u)) (hS : va_S A s.heap H locs) (hp : post v u) (hdg : decode cc pc = .ok (.lreturn, 1)) : W p l e R s m av.toArray below meth c H locs 0 0 (oh_El below post D Wd A av s) (F0 m pc ls [.long v]) := by
  obtain ⟨hx, hb, hml, hown, hts, hr, hlocks, hK, hN, hA⟩ := hC
  exact W.lret (v := v) hx hb hr (fun t ht hW => ⟨⟨v, u, rfl, hp, by rw [ht]; exact hP, hD⟩, hS.F ht⟩) hS.2.2 hdg
theorem oh_retv {post : oh_St → Prop} (hC : oh_Cx p s m meth c cc nL none ws av.toArray own D tys A) (hP : va_P D vwCl (Wd u) H) (hD : va_D A (Wd u)) (hS : va_S A s.heap H locs) (hp : post u) (hdg : decode cc pc = .ok (.return_, 1)) : W p l e R s m av.toArray below meth c H locs 0 0 (oh_Ev below post D Wd A av s) (F0 m pc ls []) := by
  obtain ⟨hx, hb, hml, hown, hts, hr, hlocks, hK, hN, hA⟩ := hC
  exact W.vret hx hb hr (fun t ht hW => ⟨⟨u, rfl, hp, by rw [ht]; exact hP, hD⟩, hS.F ht⟩) hS.2.2 hdg
theorem oh_retq {post : Option Nat → oh_St → Prop} {v : Option Nat} {C : String} (hC : oh_Cx p s m meth c cc nL (some (.object C)) ws av.toArray own D tys A) (hP : va_P D vwCl (Wd u) H) (hD : va_D A (Wd u)) (hS : va_S A s.heap H locs) (hp : post v u) (hdg : decode cc pc = .ok (.areturn, 1)) : W p l e R s m av.toArray below meth c H locs 0 0 (oh_Eq below post D Wd A av s) (F0 m pc ls [va_rf v]) := by
  obtain ⟨hx, hb, hml, hown, hts, hr, hlocks, hK, hN, hA⟩ := hC
  exact W.aret (v := va_rf v) hx hb hr (Or.inl ⟨C, rfl⟩) (va_rf_or v) (fun t ht hW => ⟨⟨v, u, rfl, hp, by rw [ht]; exact hP, hD⟩, hS.F ht⟩) hS.2.2 hdg
end
end
section
/-! ===== the world of an OctalHouse: cell j lies at a j ===== -/
def oh_ty (k : Nat → ClassId) : List (ClassId × FieldType) := [(k 0, .int), (k 1, .object RX1), (k 2, .object RX2), (k 3, .object RX3), (k 4, .boolean)]
def oh_W (a : Nat → Nat) (k : Nat → ClassId) (σ : oh_St) : va_W := [
  (a 0, .inr (7, [.ref (a 1), .ref (a 3), .ref (a 4), .ref (a 8), .int (σ 0 0), .int (σ 0 1), .int (σ 0 2)])),
  (a 1, .inr (4, [.ref (a 2)])),
  (a 2, .inl (k 0, 4096, .inl (σ 1))),
  (a 3, .inr (6, [.int (σ 0 3), .int (σ 0 4), .int (σ 0 5), .int (σ 0 6), .int (σ 0 7), .int (σ 0 8)])),
  (a 4, .inr (0, [.ref (a 3), .ref (a 5), .ref (a 6), .ref (a 7), .int (σ 0 9), .int (σ 0 10), .int (σ 0 11)])),
  (a 5, .inl (k 1, 2, .inr (.inr (.inr (.inr (fun i => some (a (15 + i)))))))),
  (a 6, .inl (k 2, 4, .inr (.inr (.inr (.inr (fun i => some (a (17 + i)))))))),
  (a 7, .inl (k 3, 6, .inr (.inr (.inr (.inr (fun i => some (a (9 + i)))))))),
  (a 8, .inr (5, [.ref (a 1), .ref (a 3), .ref (a 4)])),
  (a 9, .inr (3, [.int (σ 2 6), .int (σ 3 6), .int (σ 4 6)])),
  (a 10, .inr (3, [.int (σ 2 7), .int (σ 3 7), .int (σ 4 7)])),
  (a 11, .inr (3, [.int (σ 2 8), .int (σ 3 8), .int (σ 4 8)])),
  (a 12, .inr (3, [.int (σ 2 9), .int (σ 3 9), .int (σ 4 9)])),
  (a 13, .inr (3, [.int (σ 2 10), .int (σ 3 10), .int (σ 4 10)])),
  (a 14, .inr (3, [.int (σ 2 11), .int (σ 3 11), .int (σ 4 11)])),
  (a 15, .inr (1, [.ref (a 9), .int (σ 5 6), .int (σ 6 6), .int (σ 7 6), .int (σ 8 6), .int (σ 9 6), .int (σ 10 6), .int (σ 11 6)])),
  (a 16, .inr (1, [.ref (a 10), .int (σ 5 7), .int (σ 6 7), .int (σ 7 7), .int (σ 8 7), .int (σ 9 7), .int (σ 10 7), .int (σ 11 7)])),
  (a 17, .inr (2, [.ref (a (11)), .ref (a 21), .ref (a 25), .int (σ 12 8), .int (σ 13 8), .int (σ 14 8), .int (σ 15 8), .int (σ 18 8), .int (σ 16 8), .int (σ 17 8)])),
  (a 18, .inr (2, [.ref (a (12)), .ref (a 22), .ref (a 26), .int (σ 12 9), .int (σ 13 9), .int (σ 14 9), .int (σ 15 9), .int (σ 18 9), .int (σ 16 9), .int (σ 17 9)])),
  (a 19, .inr (2, [.ref (a (13)), .ref (a 23), .ref (a 27), .int (σ 12 10), .int (σ 13 10), .int (σ 14 10), .int (σ 15 10), .int (σ 18 10), .int (σ 16 10), .int (σ 17 10)])),
  (a 20, .inr (2, [.ref (a (14)), .ref (a 24), .ref (a 28), .int (σ 12 11), .int (σ 13 11), .int (σ 14 11), .int (σ 15 11), .int (σ 18 11), .int (σ 16 11), .int (σ 17 11)])),
  (a 21, .inl (k 0, 100, .inl (σ 20))),
  (a 22, .inl (k 0, 100, .inl (σ 21))),
  (a 23, .inl (k 0, 100, .inl (σ 22))),
  (a 24, .inl (k 0, 100, .inl (σ 23))),
  (a 25, .inl (k 0, 200, .inl (σ 24))),
  (a 26, .inl (k 0, 200, .inl (σ 25))),
  (a 27, .inl (k 0, 200, .inl (σ 26))),
  (a 28, .inl (k 0, 200, .inl (σ 27)))]
theorem oh_gln (a : Nat → Nat) (k : Nat → ClassId) (σ : oh_St) {n : Nat} (hn : n < 6) : (oh_W a k σ)[9 + n]? = some (a (9 + n), .inr (3, [.int (σ 2 (6 + n)), .int (σ 3 (6 + n)), .int (σ 4 (6 + n))])) := by
  rcases (show n = 0 ∨ n = 1 ∨ n = 2 ∨ n = 3 ∨ n = 4 ∨ n = 5 by omega) with rfl | rfl | rfl | rfl | rfl | rfl <;> rfl
theorem oh_sln0 (a : Nat → Nat) (k : Nat → ClassId) (σ : oh_St) {n : Nat} (hn : n < 6) (v : Int32) : (oh_W a k σ).set (9 + n) (a (9 + n), .inr (3, [.int (σ 2 (6 + n)), .int (σ 3 (6 + n)), .int (σ 4 (6 + n))].set 0 (.int v))) = oh_W a k (oh_up σ 2 (6 + n) v) := by
  rcases (show n = 0 ∨ n = 1 ∨ n = 2 ∨ n = 3 ∨ n = 4 ∨ n = 5 by omega) with rfl | rfl | rfl | rfl | rfl | rfl <;> rfl
theorem oh_sln1 (a : Nat → Nat) (k : Nat → ClassId) (σ : oh_St) {n : Nat} (hn : n < 6) (v : Int32) : (oh_W a k σ).set (9 + n) (a (9 + n), .inr (3, [.int (σ 2 (6 + n)), .int (σ 3 (6 + n)), .int (σ 4 (6 + n))].set 1 (.int v))) = oh_W a k (oh_up σ 3 (6 + n) v) := by
  rcases (show n = 0 ∨ n = 1 ∨ n = 2 ∨ n = 3 ∨ n = 4 ∨ n = 5 by omega) with rfl | rfl | rfl | rfl | rfl | rfl <;> rfl
theorem oh_sln2 (a : Nat → Nat) (k : Nat → ClassId) (σ : oh_St) {n : Nat} (hn : n < 6) (v : Int32) : (oh_W a k σ).set (9 + n) (a (9 + n), .inr (3, [.int (σ 2 (6 + n)), .int (σ 3 (6 + n)), .int (σ 4 (6 + n))].set 2 (.int v))) = oh_W a k (oh_up σ 4 (6 + n) v) := by
  rcases (show n = 0 ∨ n = 1 ∨ n = 2 ∨ n = 3 ∨ n = 4 ∨ n = 5 by omega) with rfl | rfl | rfl | rfl | rfl | rfl <;> rfl
theorem oh_gch (a : Nat → Nat) (k : Nat → ClassId) (σ : oh_St) {n : Nat} (hn : n < 2) : (oh_W a k σ)[15 + n]? = some (a (15 + n), .inr (1, [.ref (a (9 + n)), .int (σ 5 (6 + n)), .int (σ 6 (6 + n)), .int (σ 7 (6 + n)), .int (σ 8 (6 + n)), .int (σ 9 (6 + n)), .int (σ 10 (6 + n)), .int (σ 11 (6 + n))])) := by
  rcases (show n = 0 ∨ n = 1 by omega) with rfl | rfl <;> rfl
theorem oh_sch1 (a : Nat → Nat) (k : Nat → ClassId) (σ : oh_St) {n : Nat} (hn : n < 2) (v : Int32) : (oh_W a k σ).set (15 + n) (a (15 + n), .inr (1, [.ref (a (9 + n)), .int (σ 5 (6 + n)), .int (σ 6 (6 + n)), .int (σ 7 (6 + n)), .int (σ 8 (6 + n)), .int (σ 9 (6 + n)), .int (σ 10 (6 + n)), .int (σ 11 (6 + n))].set 1 (.int v))) = oh_W a k (oh_up σ 5 (6 + n) v) := by
  rcases (show n = 0 ∨ n = 1 by omega) with rfl | rfl <;> rfl
theorem oh_sch2 (a : Nat → Nat) (k : Nat → ClassId) (σ : oh_St) {n : Nat} (hn : n < 2) (v : Int32) : (oh_W a k σ).set (15 + n) (a (15 + n), .inr (1, [.ref (a (9 + n)), .int (σ 5 (6 + n)), .int (σ 6 (6 + n)), .int (σ 7 (6 + n)), .int (σ 8 (6 + n)), .int (σ 9 (6 + n)), .int (σ 10 (6 + n)), .int (σ 11 (6 + n))].set 2 (.int v))) = oh_W a k (oh_up σ 6 (6 + n) v) := by
  rcases (show n = 0 ∨ n = 1 by omega) with rfl | rfl <;> rfl
theorem oh_sch3 (a : Nat → Nat) (k : Nat → ClassId) (σ : oh_St) {n : Nat} (hn : n < 2) (v : Int32) : (oh_W a k σ).set (15 + n) (a (15 + n), .inr (1, [.ref (a (9 + n)), .int (σ 5 (6 + n)), .int (σ 6 (6 + n)), .int (σ 7 (6 + n)), .int (σ 8 (6 + n)), .int (σ 9 (6 + n)), .int (σ 10 (6 + n)), .int (σ 11 (6 + n))].set 3 (.int v))) = oh_W a k (oh_up σ 7 (6 + n) v) := by
  rcases (show n = 0 ∨ n = 1 by omega) with rfl | rfl <;> rfl
theorem oh_sch4 (a : Nat → Nat) (k : Nat → ClassId) (σ : oh_St) {n : Nat} (hn : n < 2) (v : Int32) : (oh_W a k σ).set (15 + n) (a (15 + n), .inr (1, [.ref (a (9 + n)), .int (σ 5 (6 + n)), .int (σ 6 (6 + n)), .int (σ 7 (6 + n)), .int (σ 8 (6 + n)), .int (σ 9 (6 + n)), .int (σ 10 (6 + n)), .int (σ 11 (6 + n))].set 4 (.int v))) = oh_W a k (oh_up σ 8 (6 + n) v) := by
  rcases (show n = 0 ∨ n = 1 by omega) with rfl | rfl <;> rfl
theorem oh_sch5 (a : Nat → Nat) (k : Nat → ClassId) (σ : oh_St) {n : Nat} (hn : n < 2) (v : Int32) : (oh_W a k σ).set (15 + n) (a (15 + n), .inr (1, [.ref (a (9 + n)), .int (σ 5 (6 + n)), .int (σ 6 (6 + n)), .int (σ 7 (6 + n)), .int (σ 8 (6 + n)), .int (σ 9 (6 + n)), .int (σ 10 (6 + n)), .int (σ 11 (6 + n))].set 5 (.int v))) = oh_W a k (oh_up σ 9 (6 + n) v) := by
  rcases (show n = 0 ∨ n = 1 by omega) with rfl | rfl <;> rfl
theorem oh_sch6 (a : Nat → Nat) (k : Nat → ClassId) (σ : oh_St) {n : Nat} (hn : n < 2) (v : Int32) : (oh_W a k σ).set (15 + n) (a (15 + n), .inr (1, [.ref (a (9 + n)), .int (σ 5 (6 + n)), .int (σ 6 (6 + n)), .int (σ 7 (6 + n)), .int (σ 8 (6 + n)), .int (σ 9 (6 + n)), .int (σ 10 (6 + n)), .int (σ 11 (6 + n))].set 6 (.int v))) = oh_W a k (oh_up σ 10 (6 + n) v) := by
  rcases (show n = 0 ∨ n = 1 by omega) with rfl | rfl <;> rfl
theorem oh_sch7 (a : Nat → Nat) (k : Nat → ClassId) (σ : oh_St) {n : Nat} (hn : n < 2) (v : Int32) : (oh_W a k σ).set (15 + n) (a (15 + n), .inr (1, [.ref (a (9 + n)), .int (σ 5 (6 + n)), .int (σ 6 (6 + n)), .int (σ 7 (6 + n)), .int (σ 8 (6 + n)), .int (σ 9 (6 + n)), .int (σ 10 (6 + n)), .int (σ 11 (6 + n))].set 7 (.int v))) = oh_W a k (oh_up σ 11 (6 + n) v) := by
  rcases (show n = 0 ∨ n = 1 by omega) with rfl | rfl <;> rfl
theorem oh_gdv (a : Nat → Nat) (k : Nat → ClassId) (σ : oh_St) {n : Nat} (hn : n < 4) : (oh_W a k σ)[17 + n]? = some (a (17 + n), .inr (2, [.ref (a (9 + (2 + n))), .ref (a (21 + n)), .ref (a (25 + n)), .int (σ 12 (8 + n)), .int (σ 13 (8 + n)), .int (σ 14 (8 + n)), .int (σ 15 (8 + n)), .int (σ 18 (8 + n)), .int (σ 16 (8 + n)), .int (σ 17 (8 + n))])) := by
  rcases (show n = 0 ∨ n = 1 ∨ n = 2 ∨ n = 3 by omega) with rfl | rfl | rfl | rfl <;> rfl
theorem oh_sdv3 (a : Nat → Nat) (k : Nat → ClassId) (σ : oh_St) {n : Nat} (hn : n < 4) (v : Int32) : (oh_W a k σ).set (17 + n) (a (17 + n), .inr (2, [.ref (a (9 + (2 + n))), .ref (a (21 + n)), .ref (a (25 + n)), .int (σ 12 (8 + n)), .int (σ 13 (8 + n)), .int (σ 14 (8 + n)), .int (σ 15 (8 + n)), .int (σ 18 (8 + n)), .int (σ 16 (8 + n)), .int (σ 17 (8 + n))].set 3 (.int v))) = oh_W a k (oh_up σ 12 (8 + n) v) := by
  rcases (show n = 0 ∨ n = 1 ∨ n = 2 ∨ n = 3 by omega) with rfl | rfl | rfl | rfl <;> rfl
theorem oh_sdv4 (a : Nat → Nat) (k : Nat → ClassId) (σ : oh_St) {n : Nat} (hn : n < 4) (v : Int32) : (oh_W a k σ).set (17 + n) (a (17 + n), .inr (2, [.ref (a (9 + (2 + n))), .ref (a (21 + n)), .ref (a (25 + n)), .int (σ 12 (8 + n)), .int (σ 13 (8 + n)), .int (σ 14 (8 + n)), .int (σ 15 (8 + n)), .int (σ 18 (8 + n)), .int (σ 16 (8 + n)), .int (σ 17 (8 + n))].set 4 (.int v))) = oh_W a k (oh_up σ 13 (8 + n) v) := by
  rcases (show n = 0 ∨ n = 1 ∨ n = 2 ∨ n = 3 by omega) with rfl | rfl | rfl | rfl <;> rfl
theorem oh_sdv5 (a : Nat → Nat) (k : Nat → ClassId) (σ : oh_St) {n : Nat} (hn : n < 4) (v : Int32) : (oh_W a k σ).set (17 + n) (a (17 + n), .inr (2, [.ref (a (9 + (2 + n))), .ref (a (21 + n)), .ref (a (25 + n)), .int (σ 12 (8 + n)), .int (σ 13 (8 + n)), .int (σ 14 (8 + n)), .int (σ 15 (8 + n)), .int (σ 18 (8 + n)), .int (σ 16 (8 + n)), .int (σ 17 (8 + n))].set 5 (.int v))) = oh_W a k (oh_up σ 14 (8 + n) v) := by
  rcases (show n = 0 ∨ n = 1 ∨ n = 2 ∨ n = 3 by omega) with rfl | rfl | rfl | rfl <;> rfl
theorem oh_sdv6 (a : Nat → Nat) (k : Nat → ClassId) (σ : oh_St) {n : Nat} (hn : n < 4) (v : Int32) : (oh_W a k σ).set (17 + n) (a (17 + n), .inr (2, [.ref (a (9 + (2 + n))), .ref (a (21 + n)), .ref (a (25 + n)), .int (σ 12 (8 + n)), .int (σ 13 (8 + n)), .int (σ 14 (8 + n)), .int (σ 15 (8 + n)), .int (σ 18 (8 + n)), .int (σ 16 (8 + n)), .int (σ 17 (8 + n))].set 6 (.int v))) = oh_W a k (oh_up σ 15 (8 + n) v) := by
  rcases (show n = 0 ∨ n = 1 ∨ n = 2 ∨ n = 3 by omega) with rfl | rfl | rfl | rfl <;> rfl
theorem oh_sdv7 (a : Nat → Nat) (k : Nat → ClassId) (σ : oh_St) {n : Nat} (hn : n < 4) (v : Int32) : (oh_W a k σ).set (17 + n) (a (17 + n), .inr (2, [.ref (a (9 + (2 + n))), .ref (a (21 + n)), .ref (a (25 + n)), .int (σ 12 (8 + n)), .int (σ 13 (8 + n)), .int (σ 14 (8 + n)), .int (σ 15 (8 + n)), .int (σ 18 (8 + n)), .int (σ 16 (8 + n)), .int (σ 17 (8 + n))].set 7 (.int v))) = oh_W a k (oh_up σ 18 (8 + n) v) := by
  rcases (show n = 0 ∨ n = 1 ∨ n = 2 ∨ n = 3 by omega) with rfl | rfl | rfl | rfl <;> rfl
theorem oh_sdv8 (a : Nat → Nat) (k : Nat → ClassId) (σ : oh_St) {n : Nat} (hn : n < 4) (v : Int32) : (oh_W a k σ).set (17 + n) (a (17 + n), .inr (2, [.ref (a (9 + (2 + n))), .ref (a (21 + n)), .ref (a (25 + n)), .int (σ 12 (8 + n)), .int (σ 13 (8 + n)), .int (σ 14 (8 + n)), .int (σ 15 (8 + n)), .int (σ 18 (8 + n)), .int (σ 16 (8 + n)), .int (σ 17 (8 + n))].set 8 (.int v))) = oh_W a k (oh_up σ 16 (8 + n) v) := by
  rcases (show n = 0 ∨ n = 1 ∨ n = 2 ∨ n = 3 by omega) with rfl | rfl | rfl | rfl <;> rfl
theorem oh_sdv9 (a : Nat → Nat) (k : Nat → ClassId) (σ : oh_St) {n : Nat} (hn : n < 4) (v : Int32) : (oh_W a k σ).set (17 + n) (a (17 + n), .inr (2, [.ref (a (9 + (2 + n))), .ref (a (21 + n)), .ref (a (25 + n)), .int (σ 12 (8 + n)), .int (σ 13 (8 + n)), .int (σ 14 (8 + n)), .int (σ 15 (8 + n)), .int (σ 18 (8 + n)), .int (σ 16 (8 + n)), .int (σ 17 (8 + n))].set 9 (.int v))) = oh_W a k (oh_up σ 17 (8 + n) v) := by
  rcases (show n = 0 ∨ n = 1 ∨ n = 2 ∨ n = 3 by omega) with rfl | rfl | rfl | rfl <;> rfl
theorem oh_gtp (a : Nat → Nat) (k : Nat → ClassId) (σ : oh_St) {n : Nat} (hn : n < 4) : (oh_W a k σ)[21 + n]? = some (a (21 + n), .inl (k 0, 100, .inl (σ (20 + n)))) := by
  rcases (show n = 0 ∨ n = 1 ∨ n = 2 ∨ n = 3 by omega) with rfl | rfl | rfl | rfl <;> rfl
theorem oh_stp (a : Nat → Nat) (k : Nat → ClassId) (σ : oh_St) {n : Nat} (hn : n < 4) (i : Nat) (v : Int32) : (oh_W a k σ).set (21 + n) (a (21 + n), .inl (k 0, 100, .inl (upd (σ (20 + n)) i v))) = oh_W a k (oh_up σ (20 + n) i v) := by
  rcases (show n = 0 ∨ n = 1 ∨ n = 2 ∨ n = 3 by omega) with rfl | rfl | rfl | rfl <;> rfl
theorem oh_gkp (a : Nat → Nat) (k : Nat → ClassId) (σ : oh_St) {n : Nat} (hn : n < 4) : (oh_W a k σ)[25 + n]? = some (a (25 + n), .inl (k 0, 200, .inl (σ (24 + n)))) := by
  rcases (show n = 0 ∨ n = 1 ∨ n = 2 ∨ n = 3 by omega) with rfl | rfl | rfl | rfl <;> rfl
theorem oh_skp (a : Nat → Nat) (k : Nat → ClassId) (σ : oh_St) {n : Nat} (hn : n < 4) (i : Nat) (v : Int32) : (oh_W a k σ).set (25 + n) (a (25 + n), .inl (k 0, 200, .inl (upd (σ (24 + n)) i v))) = oh_W a k (oh_up σ (24 + n) i v) := by
  rcases (show n = 0 ∨ n = 1 ∨ n = 2 ∨ n = 3 by omega) with rfl | rfl | rfl | rfl <;> rfl
abbrev oh_ix (i : Int32) (n : Nat) : Prop := 0 ≤ i.toInt ∧ i.toInt < (n : Int)
theorem oh_ixN {i : Int32} {n : Nat} (h : oh_ix i n) : i.toNatClampNeg < n := by
  obtain ⟨h1, h2⟩ := h
  have e : i.toNatClampNeg = i.toInt.toNat := rfl
  omega
theorem oh_ixin {i : Int32} {n : Nat} (h : oh_ix i n) : vp_in i n := vp_in_iff.mpr h
theorem oh_ix_iff {i N : Int32} {n : Nat} (hN : N.toInt = n) : oh_ix i n ↔ ¬ i < 0 ∧ ¬ N ≤ i := by
  rw [Int32.lt_iff_toInt_lt, Int32.le_iff_toInt_le]
  have : (0 : Int32).toInt = 0 := rfl
  unfold oh_ix
  omega
theorem oh_l1 {n : Nat} (h : n < 2) : n < 6 := by omega
theorem oh_l2 {n : Nat} (h : n < 4) : 2 + n < 6 := by omega
theorem oh_pair {α β : Type} {x : α} {y : β} {z : α × β} (h : (x, y) = z) : x = z.1 ∧ y = z.2 := by subst h; exact ⟨rfl, rfl⟩
theorem oh_nb {v : Int32} (h : v = 0 ∨ v = 1) : narrow .boolean (.int v) = .int v := by rcases h with rfl | rfl <;> rfl
theorem oh_fb {v : Int32} (h : v = 0 ∨ v = 1) : fits .boolean (.int v) = true := by rcases h with rfl | rfl <;> rfl
theorem oh_vb {v : Int32} (h : v = 0 ∨ v = 1) : vp_nar .boolean v = v := by rcases h with rfl | rfl <;> rfl
theorem oh_b01 {c : Prop} [Decidable c] : (if c then (1 : Int32) else 0) = 0 ∨ (if c then (1 : Int32) else 0) = 1 := by split <;> simp
theorem oh_b10 {c : Prop} [Decidable c] : (if c then (0 : Int32) else 1) = 0 ∨ (if c then (0 : Int32) else 1) = 1 := by split <;> simp
theorem oh_ne {x j : Int32} (h : ¬ x = j) : x.toInt ≠ j.toInt := fun e => h (Int32.toInt_inj.mp e)
theorem oh_in {i N : Int32} {n : Nat} (h1 : ¬ i < 0) (h2 : ¬ N ≤ i) (hN : N.toInt = n) : vp_in i n := by
  rw [vp_in_iff]
  rw [Int32.lt_iff_toInt_lt] at h1
  rw [Int32.le_iff_toInt_le] at h2
  have : (0 : Int32).toInt = 0 := rfl
  omega
theorem oh_inN {i : Int32} {n : Nat} (h : vp_in i n) : i.toNatClampNeg < n := by
  unfold vp_in at h
  omega
section
variable {p : Program} {l : Launch} {e : Env} {R : Room} {s : State} {m : MethodId} {args : Array Value} {below : List Frame} {meth : Method} {c : Code} {H : Heap} {locs : List Loc} {Q : State → Prop} {D : va_G} {tys : List (ClassId × FieldType)} {Wd : oh_St → va_W} {σ σ' : oh_St} {cc : ByteArray} {nL pc : Nat} {ls : Array Slot} {ws : List Cond} {own : String} {A : Nat → Prop} {rt : Option FieldType}
theorem oh_get (hC : oh_Cx p s m meth c cc nL rt ws args own D tys A) (hP : va_P D vwCl (Wd σ) H) {C : String} {T : u_T} {N : Nat} (hin : ∀ w ∈ u_ws C T N, w ∈ ws) (q0 : Nat) {b ci : Nat} {fs rest : List Value} (he : (Wd σ)[q0]? = some (b, .inr (ci, fs))) (hc : vwCl[ci]? = some (C, T, N)) (k : Nat) (hk : k < N) {index : Nat} (hlink : (Cond.fieldLink own index (T k).1 (T k).2.1 (T k).2.2.1) ∈ ws) {v : Value} (hv : fs[k]? = some v) (hdg : decode cc pc = .ok (.getfield index, 3)) (kk : W p l e R s m args below meth c H locs 0 0 Q (F0 m (pc + 3) ls (v :: rest))) : W p l e R s m args below meth c H locs 0 0 Q (F0 m pc ls (.ref b :: rest)) := by
  obtain ⟨hx, hb, hml, hown, hts, hr, hlocks, hK, hN, hA⟩ := hC
  exact va_get hx hb hts hin hown hK hP q0 he hc k hk (hts _ hlink) (fun _ h9 => h9) hv hdg kk
theorem oh_getN (hC : oh_Cx p s m meth c cc nL rt ws args own D tys A) (hP : va_P D vwCl (Wd σ) H) {C : String} {T : u_T} {N : Nat} (hin : ∀ w ∈ u_ws C T N, w ∈ ws) (q0 : Nat) {b ci : Nat} {fs rest : List Value} (he : (Wd σ)[q0]? = some (b, .inr (ci, fs))) (hc : vwCl[ci]? = some (C, T, N)) (k : Nat) (hk : k < N) {index : Nat} (hlink : (own, index, (T k).1, (T k).2.1, (T k).2.2.1) ∈ oh_nf) {v : Value} (hv : fs[k]? = some v) (hdg : decode cc pc = .ok (.getfield index, 3)) (kk : W p l e R s m args below meth c H locs 0 0 Q (F0 m (pc + 3) ls (v :: rest))) : W p l e R s m args below meth c H locs 0 0 Q (F0 m pc ls (.ref b :: rest)) := by
  obtain ⟨hx, hb, hml, hown, hts, hr, hlocks, hK, hN, hA⟩ := hC
  exact va_getN hx hb hts hin hown hK hP q0 he hc k hk (oh_nF hN hlink) (fun _ h9 => h9) hv hdg kk
theorem oh_put (hC : oh_Cx p s m meth c cc nL rt ws args own D tys A) (hP : va_P D vwCl (Wd σ) H) (hD : va_D A (Wd σ)) (hS : va_S A s.heap H locs) {C : String} {T : u_T} {N : Nat} (hin : ∀ w ∈ u_ws C T N, w ∈ ws) (ty0 : Nat → FieldType) (hty : ∀ k, k < N → parseFieldDescriptor (T k).2.2.1 = some (ty0 k)) (hnm : ∀ a, a < N → ∀ b, b < N → a ≠ b → (T a).2.1 ≠ (T b).2.1) (q0 : Nat) {b ci : Nat} {fs rest : List Value} (he : (Wd σ)[q0]? = some (b, .inr (ci, fs))) (hc : vwCl[ci]? = some (C, T, N)) (k : Nat) (hk : k < N) {index : Nat} (hlink : (Cond.fieldLink own index (T k).1 (T k).2.1 (T k).2.2.1) ∈ ws) (hfin : (T k).2.2.2 = false) {v : Value} (hn : narrow (ty0 k) v = v) (hfit : fits (ty0 k) v = true) (hl : k < fs.length) (hset : (Wd σ).set q0 (b, .inr (ci, fs.set k v)) = Wd σ') (hdg : decode cc pc = .ok (.putfield index, 3)) (kk : ∀ (H1 : Heap) (locs1 : List Loc), va_P D vwCl (Wd σ') H1 → va_D A (Wd σ') → va_S A s.heap H1 locs1 → W p l e R s m args below meth c H1 locs1 0 0 Q (F0 m (pc + 3) ls rest)) : W p l e R s m args below meth c H locs 0 0 Q (F0 m pc ls (v :: .ref b :: rest)) := by
  obtain ⟨hx, hb, hml, hown, hts, hr, hlocks, hK, hN, hA⟩ := hC
  refine va_put hx hb hts hin ty0 hty hnm hown hK hP hD hS q0 he hc k hk (hts _ hlink) (fun _ h9 => h9) hfin (hty k hk) hn hfit hl hdg (fun H1 locs1 hP1 hD1 hS1 => ?_)
  rw [hset] at hP1 hD1
  exact kk H1 locs1 hP1 hD1 hS1
theorem oh_putN (hC : oh_Cx p s m meth c cc nL rt ws args own D tys A) (hP : va_P D vwCl (Wd σ) H) (hD : va_D A (Wd σ)) (hS : va_S A s.heap H locs) {C : String} {T : u_T} {N : Nat} (hin : ∀ w ∈ u_ws C T N, w ∈ ws) (ty0 : Nat → FieldType) (hty : ∀ k, k < N → parseFieldDescriptor (T k).2.2.1 = some (ty0 k)) (hnm : ∀ a, a < N → ∀ b, b < N → a ≠ b → (T a).2.1 ≠ (T b).2.1) (q0 : Nat) {b ci : Nat} {fs rest : List Value} (he : (Wd σ)[q0]? = some (b, .inr (ci, fs))) (hc : vwCl[ci]? = some (C, T, N)) (k : Nat) (hk : k < N) {index : Nat} (hlink : (own, index, (T k).1, (T k).2.1, (T k).2.2.1) ∈ oh_nf) (hfin : (T k).2.2.2 = false) {v : Value} (hn : narrow (ty0 k) v = v) (hfit : fits (ty0 k) v = true) (hl : k < fs.length) (hset : (Wd σ).set q0 (b, .inr (ci, fs.set k v)) = Wd σ') (hdg : decode cc pc = .ok (.putfield index, 3)) (kk : ∀ (H1 : Heap) (locs1 : List Loc), va_P D vwCl (Wd σ') H1 → va_D A (Wd σ') → va_S A s.heap H1 locs1 → W p l e R s m args below meth c H1 locs1 0 0 Q (F0 m (pc + 3) ls rest)) : W p l e R s m args below meth c H locs 0 0 Q (F0 m pc ls (v :: .ref b :: rest)) := by
  obtain ⟨hx, hb, hml, hown, hts, hr, hlocks, hK, hN, hA⟩ := hC
  refine va_putN hx hb hts hin ty0 hty hnm hown hK hP hD hS q0 he hc k hk (oh_nF hN hlink) (fun _ h9 => h9) hfin (hty k hk) hn hfit hl hdg (fun H1 locs1 hP1 hD1 hS1 => ?_)
  rw [hset] at hP1 hD1
  exact kk H1 locs1 hP1 hD1 hS1
theorem oh_iald (hC : oh_Cx p s m meth c cc nL rt ws args own D tys A) (hP : va_P D vwCl (Wd σ) H) (q0 t0 : Nat) {b : Nat} {rest : List Value} {cA : ClassId} {n : Nat} {f : Nat → Int32} (he : (Wd σ)[q0]? = some (b, .inl (cA, n, .inl f))) (ht : tys[t0]? = some (cA, .int)) {i : Int32} (hin : vp_in i n) (hdg : decode cc pc = .ok (.iaload, 1)) (kk : W p l e R s m args below meth c H locs 0 0 Q (F0 m (pc + 1) ls (.int (f i.toNatClampNeg) :: rest))) : W p l e R s m args below meth c H locs 0 0 Q (F0 m pc ls (.int i :: .ref b :: rest)) := by
  obtain ⟨hx, hb, hml, hown, hts, hr, hlocks, hK, hN, hA⟩ := hC
  exact va_iald hx hb hK hP q0 t0 he ht hin hdg kk
theorem oh_zald (hC : oh_Cx p s m meth c cc nL rt ws args own D tys A) (hP : va_P D vwCl (Wd σ) H) (q0 t0 : Nat) {b : Nat} {rest : List Value} {cA : ClassId} {n : Nat} {f : Nat → Int32} (he : (Wd σ)[q0]? = some (b, .inl (cA, n, .inl f))) (ht : tys[t0]? = some (cA, .boolean)) {i : Int32} (hin : vp_in i n) (hdg : decode cc pc = .ok (.baload, 1)) (kk : W p l e R s m args below meth c H locs 0 0 Q (F0 m (pc + 1) ls (.int (f i.toNatClampNeg) :: rest))) : W p l e R s m args below meth c H locs 0 0 Q (F0 m pc ls (.int i :: .ref b :: rest)) := by
  obtain ⟨hx, hb, hml, hown, hts, hr, hlocks, hK, hN, hA⟩ := hC
  exact va_zald hx hb hK hP q0 t0 he ht hin hdg kk
theorem oh_aald (hC : oh_Cx p s m meth c cc nL rt ws args own D tys A) (hP : va_P D vwCl (Wd σ) H) (q0 t0 : Nat) {b : Nat} {rest : List Value} {cA : ClassId} {C : String} {n : Nat} {f : Nat → Option Nat} (he : (Wd σ)[q0]? = some (b, .inl (cA, n, .inr (.inr (.inr (.inr f)))))) (ht : tys[t0]? = some (cA, .object C)) {i : Int32} (hin : vp_in i n) (hdg : decode cc pc = .ok (.aaload, 1)) (kk : W p l e R s m args below meth c H locs 0 0 Q (F0 m (pc + 1) ls (va_rf (f i.toNatClampNeg) :: rest))) : W p l e R s m args below meth c H locs 0 0 Q (F0 m pc ls (.int i :: .ref b :: rest)) := by
  obtain ⟨hx, hb, hml, hown, hts, hr, hlocks, hK, hN, hA⟩ := hC
  exact va_aldq hx hb hK hP q0 t0 he ht hin hdg kk
theorem oh_iast (hC : oh_Cx p s m meth c cc nL rt ws args own D tys A) (hP : va_P D vwCl (Wd σ) H) (hD : va_D A (Wd σ)) (hS : va_S A s.heap H locs) (q0 t0 : Nat) {b : Nat} {rest : List Value} {cA : ClassId} {n : Nat} {f : Nat → Int32} (he : (Wd σ)[q0]? = some (b, .inl (cA, n, .inl f))) (ht : tys[t0]? = some (cA, .int)) {i x : Int32} (hin : vp_in i n) (hset : (Wd σ).set q0 (b, .inl (cA, n, .inl (upd f i.toNatClampNeg x))) = Wd σ') (hdg : decode cc pc = .ok (.iastore, 1)) (kk : ∀ (H1 : Heap) (locs1 : List Loc), va_P D vwCl (Wd σ') H1 → va_D A (Wd σ') → va_S A s.heap H1 locs1 → W p l e R s m args below meth c H1 locs1 0 0 Q (F0 m (pc + 1) ls rest)) : W p l e R s m args below meth c H locs 0 0 Q (F0 m pc ls (.int x :: .int i :: .ref b :: rest)) := by
  obtain ⟨hx, hb, hml, hown, hts, hr, hlocks, hK, hN, hA⟩ := hC
  refine va_iast hx hb hK hP hD hS q0 t0 he ht hin hdg (fun H1 locs1 hP1 hD1 hS1 => ?_)
  rw [hset] at hP1 hD1
  exact kk H1 locs1 hP1 hD1 hS1
theorem oh_zast (hC : oh_Cx p s m meth c cc nL rt ws args own D tys A) (hP : va_P D vwCl (Wd σ) H) (hD : va_D A (Wd σ)) (hS : va_S A s.heap H locs) (q0 t0 : Nat) {b : Nat} {rest : List Value} {cA : ClassId} {n : Nat} {f : Nat → Int32} (he : (Wd σ)[q0]? = some (b, .inl (cA, n, .inl f))) (ht : tys[t0]? = some (cA, .boolean)) {i x : Int32} (hin : vp_in i n) (hx01 : x = 0 ∨ x = 1) (hset : (Wd σ).set q0 (b, .inl (cA, n, .inl (upd f i.toNatClampNeg x))) = Wd σ') (hdg : decode cc pc = .ok (.bastore, 1)) (kk : ∀ (H1 : Heap) (locs1 : List Loc), va_P D vwCl (Wd σ') H1 → va_D A (Wd σ') → va_S A s.heap H1 locs1 → W p l e R s m args below meth c H1 locs1 0 0 Q (F0 m (pc + 1) ls rest)) : W p l e R s m args below meth c H locs 0 0 Q (F0 m pc ls (.int x :: .int i :: .ref b :: rest)) := by
  obtain ⟨hx, hb, hml, hown, hts, hr, hlocks, hK, hN, hA⟩ := hC
  refine va_zast hx hb hK hP hD hS q0 t0 he ht hin hdg (fun H1 locs1 hP1 hD1 hS1 => ?_)
  rw [oh_vb hx01, hset] at hP1 hD1
  exact kk H1 locs1 hP1 hD1 hS1
theorem oh_alen (hC : oh_Cx p s m meth c cc nL rt ws args own D tys A) (hP : va_P D vwCl (Wd σ) H) (q0 t0 : Nat) {b : Nat} {rest : List Value} {cA : ClassId} {x : vp_A} (he : (Wd σ)[q0]? = some (b, .inl (cA, x))) {ty : FieldType} (ht : tys[t0]? = some (cA, ty)) {v : Int32} (hv : Int32.ofNat x.1 = v) (hdg : decode cc pc = .ok (.arraylength, 1)) (kk : W p l e R s m args below meth c H locs 0 0 Q (F0 m (pc + 1) ls (.int v :: rest))) : W p l e R s m args below meth c H locs 0 0 Q (F0 m pc ls (.ref b :: rest)) := by
  obtain ⟨hx, hb, hml, hown, hts, hr, hlocks, hK, hN, hA⟩ := hC
  exact va_alen hx hb hK hP q0 t0 he ht hv hdg kk
theorem oh_fr (hA : ∀ q : Nat, s.heap.size ≤ q → A q) (hD : va_D A (Wd σ)) (hS : va_S A s.heap H locs) : ∀ q, va_A (Wd σ) H.size q → A q := by
  intro q h
  rcases h with ⟨k, e, h⟩ | h
  · exact hD.2 k _ h
  · exact hA q (Nat.le_trans hS.1 h)
section
variable {y : MethodName} {wy : List Cond} {rm : Room} {bytes : ByteArray} {maxL index n : Nat} {ret : Option FieldType} {C : String} {b : Nat} {As rest st0 : List Value}
theorem oh_cvi {post : Int32 → oh_St → Prop} (hC : oh_Cx p s m meth c cc nL rt ws args own D tys A) (hP : va_P D vwCl (Wd σ) H) (hD : va_D A (Wd σ)) (hS : va_S A s.heap H locs) (hM : oh_Mi l y wy rm D tys Wd (.ref b :: As) σ post) (cw : CallW R s args own C index y bytes maxL ret wy rm 0 0 n) (q0 ci : Nat) {T : u_T} {N : Nat} {fs : List Value} (he : (Wd σ)[q0]? = some (b, .inr (ci, fs))) (hc : vwCl[ci]? = some (C, T, N)) (hn : As.length = n) (hsz : ls.size = nL) (hst : st0 = As.reverse ++ .ref b :: rest) (hW : (rest.map fun v => v.category).sum ≤ 8) (hdg : decode cc pc = .ok (.invokevirtual index, 3)) (kk : ∀ (r : Int32) (u : oh_St) (H1 : Heap) (locs1 : List Loc), post r u → va_P D vwCl (Wd u) H1 → va_D A (Wd u) → va_S A s.heap H1 locs1 → W p l e R s m args below meth c H1 locs1 0 0 Q (F0 m (pc + 3) ls (.int r :: rest))) : W p l e R s m args below meth c H locs 0 0 Q (F0 m pc ls st0) := by
  obtain ⟨hx, hb, hml, hown, hts, hr, hlocks, hK, hN, hA⟩ := hC
  have hF := oh_fr hA hD hS
  subst hst
  refine va_calli (va_runV (As := As) (rest := rest) ⟨hx, hb, hml, hown, hts⟩ (hM H.size) cw ⟨oh_blind, va_recv hK hP hc he, fun U hU hW => ⟨rfl, oh_Pr.at hP hK hN hD U hU hW⟩⟩ rfl hn hsz rfl (lv_room hW) hdg ⟨Nat.zero_le _, Nat.zero_le _⟩) hS (fun q _ h => hF q h) hF (fun r u t H1 locs1 ht hvm hw hB hz1 hk1 hS1 => ?_)
  exact kk r u H1 locs1 hw (by rw [← ht]; exact hB.1) (hB.2.weaken (fun _ q _ h => hF q.1 h)) hS1
theorem oh_cvl {post : Int64 → oh_St → Prop} (hC : oh_Cx p s m meth c cc nL rt ws args own D tys A) (hP : va_P D vwCl (Wd σ) H) (hD : va_D A (Wd σ)) (hS : va_S A s.heap H locs) (hM : oh_Ml l y wy rm D tys Wd (.ref b :: As) σ post) (cw : CallW R s args own C index y bytes maxL ret wy rm 0 0 n) (q0 ci : Nat) {T : u_T} {N : Nat} {fs : List Value} (he : (Wd σ)[q0]? = some (b, .inr (ci, fs))) (hc : vwCl[ci]? = some (C, T, N)) (hn : As.length = n) (hsz : ls.size = nL) (hst : st0 = As.reverse ++ .ref b :: rest) (hW : (rest.map fun v => v.category).sum ≤ 8) (hdg : decode cc pc = .ok (.invokevirtual index, 3)) (kk : ∀ (r : Int64) (u : oh_St) (H1 : Heap) (locs1 : List Loc), post r u → va_P D vwCl (Wd u) H1 → va_D A (Wd u) → va_S A s.heap H1 locs1 → W p l e R s m args below meth c H1 locs1 0 0 Q (F0 m (pc + 3) ls (.long r :: rest))) : W p l e R s m args below meth c H locs 0 0 Q (F0 m pc ls st0) := by
  obtain ⟨hx, hb, hml, hown, hts, hr, hlocks, hK, hN, hA⟩ := hC
  have hF := oh_fr hA hD hS
  subst hst
  refine va_calll (va_runV (As := As) (rest := rest) ⟨hx, hb, hml, hown, hts⟩ (hM H.size) cw ⟨oh_blind, va_recv hK hP hc he, fun U hU hW => ⟨rfl, oh_Pr.at hP hK hN hD U hU hW⟩⟩ rfl hn hsz rfl (lv_room hW) hdg ⟨Nat.zero_le _, Nat.zero_le _⟩) hS (fun q _ h => hF q h) hF (fun r u t H1 locs1 ht hvm hw hB hz1 hk1 hS1 => ?_)
  exact kk r u H1 locs1 hw (by rw [← ht]; exact hB.1) (hB.2.weaken (fun _ q _ h => hF q.1 h)) hS1
theorem oh_cvv {post : oh_St → Prop} (hC : oh_Cx p s m meth c cc nL rt ws args own D tys A) (hP : va_P D vwCl (Wd σ) H) (hD : va_D A (Wd σ)) (hS : va_S A s.heap H locs) (hM : oh_Mv l y wy rm D tys Wd (.ref b :: As) σ post) (cw : CallW R s args own C index y bytes maxL ret wy rm 0 0 n) (q0 ci : Nat) {T : u_T} {N : Nat} {fs : List Value} (he : (Wd σ)[q0]? = some (b, .inr (ci, fs))) (hc : vwCl[ci]? = some (C, T, N)) (hn : As.length = n) (hsz : ls.size = nL) (hst : st0 = As.reverse ++ .ref b :: rest) (hW : (rest.map fun v => v.category).sum ≤ 8) (hdg : decode cc pc = .ok (.invokevirtual index, 3)) (kk : ∀ (u : oh_St) (H1 : Heap) (locs1 : List Loc), post u → va_P D vwCl (Wd u) H1 → va_D A (Wd u) → va_S A s.heap H1 locs1 → W p l e R s m args below meth c H1 locs1 0 0 Q (F0 m (pc + 3) ls rest)) : W p l e R s m args below meth c H locs 0 0 Q (F0 m pc ls st0) := by
  obtain ⟨hx, hb, hml, hown, hts, hr, hlocks, hK, hN, hA⟩ := hC
  have hF := oh_fr hA hD hS
  subst hst
  refine va_callv (va_runV (As := As) (rest := rest) ⟨hx, hb, hml, hown, hts⟩ (hM H.size) cw ⟨oh_blind, va_recv hK hP hc he, fun U hU hW => ⟨rfl, oh_Pr.at hP hK hN hD U hU hW⟩⟩ rfl hn hsz rfl (lv_room hW) hdg ⟨Nat.zero_le _, Nat.zero_le _⟩) hS (fun q _ h => hF q h) hF (fun u t H1 locs1 ht hvm hw hB hz1 hk1 hS1 => ?_)
  exact kk u H1 locs1 hw (by rw [← ht]; exact hB.1) (hB.2.weaken (fun _ q _ h => hF q.1 h)) hS1
theorem oh_cvq {post : Option Nat → oh_St → Prop} (hC : oh_Cx p s m meth c cc nL rt ws args own D tys A) (hP : va_P D vwCl (Wd σ) H) (hD : va_D A (Wd σ)) (hS : va_S A s.heap H locs) (hM : oh_Mq l y wy rm D tys Wd (.ref b :: As) σ post) (cw : CallW R s args own C index y bytes maxL ret wy rm 0 0 n) (q0 ci : Nat) {T : u_T} {N : Nat} {fs : List Value} (he : (Wd σ)[q0]? = some (b, .inr (ci, fs))) (hc : vwCl[ci]? = some (C, T, N)) (hn : As.length = n) (hsz : ls.size = nL) (hst : st0 = As.reverse ++ .ref b :: rest) (hW : (rest.map fun v => v.category).sum ≤ 8) (hdg : decode cc pc = .ok (.invokevirtual index, 3)) (kk : ∀ (r : Option Nat) (u : oh_St) (H1 : Heap) (locs1 : List Loc), post r u → va_P D vwCl (Wd u) H1 → va_D A (Wd u) → va_S A s.heap H1 locs1 → W p l e R s m args below meth c H1 locs1 0 0 Q (F0 m (pc + 3) ls (va_rf r :: rest))) : W p l e R s m args below meth c H locs 0 0 Q (F0 m pc ls st0) := by
  obtain ⟨hx, hb, hml, hown, hts, hr, hlocks, hK, hN, hA⟩ := hC
  have hF := oh_fr hA hD hS
  subst hst
  refine va_callq (va_runV (As := As) (rest := rest) ⟨hx, hb, hml, hown, hts⟩ (hM H.size) cw ⟨oh_blind, va_recv hK hP hc he, fun U hU hW => ⟨rfl, oh_Pr.at hP hK hN hD U hU hW⟩⟩ rfl hn hsz rfl (lv_room hW) hdg ⟨Nat.zero_le _, Nat.zero_le _⟩) hS (fun q _ h => hF q h) hF (fun r u t H1 locs1 ht hvm hw hB hz1 hk1 hS1 => ?_)
  exact kk r u H1 locs1 hw (by rw [← ht]; exact hB.1) (hB.2.weaken (fun _ q _ h => hF q.1 h)) hS1
theorem oh_csi {post : Int32 → oh_St → Prop} (hC : oh_Cx p s m meth c cc nL rt ws args own D tys A) (hP : va_P D vwCl (Wd σ) H) (hD : va_D A (Wd σ)) (hS : va_S A s.heap H locs) (hM : oh_Mi l y wy rm D tys Wd As σ post) (cw : CallB R s args own index y bytes maxL ret wy rm 0 0 n ∧ (Cond.static y).before args s = true) (hn : As.length = n) (hsz : ls.size = nL) (hst : st0 = As.reverse ++ rest) (hW : (rest.map fun v => v.category).sum ≤ 8) (hdg : decode cc pc = .ok (.invokestatic index, 3)) (kk : ∀ (r : Int32) (u : oh_St) (H1 : Heap) (locs1 : List Loc), post r u → va_P D vwCl (Wd u) H1 → va_D A (Wd u) → va_S A s.heap H1 locs1 → W p l e R s m args below meth c H1 locs1 0 0 Q (F0 m (pc + 3) ls (.int r :: rest))) : W p l e R s m args below meth c H locs 0 0 Q (F0 m pc ls st0) := by
  obtain ⟨hx, hb, hml, hown, hts, hr, hlocks, hK, hN, hA⟩ := hC
  have hF := oh_fr hA hD hS
  subst hst
  refine va_calli (va_runS (As := As) (rest := rest) ⟨hx, hb, hml, hown, hts⟩ (hM H.size) cw ⟨oh_blind, fun U hU hW => ⟨rfl, oh_Pr.at hP hK hN hD U hU hW⟩⟩ rfl hn hsz rfl (lv_room hW) hdg ⟨Nat.zero_le _, Nat.zero_le _⟩) hS (fun q _ h => hF q h) hF (fun r u t H1 locs1 ht hvm hw hB hz1 hk1 hS1 => ?_)
  exact kk r u H1 locs1 hw (by rw [← ht]; exact hB.1) (hB.2.weaken (fun _ q _ h => hF q.1 h)) hS1
theorem oh_csn {post : Int32 → oh_St → Prop} (hC : oh_Cx p s m meth c cc nL rt ws args own D tys A) (hP : va_P D vwCl (Wd σ) H) (hD : va_D A (Wd σ)) (hS : va_S A s.heap H locs) (hM : oh_Mi l y wy rm D tys Wd As σ post) (cw : va_CN R s args own index y RX7 bytes maxL ret wy rm 0 0 n ∧ (Cond.static y).before args s = true ∧ True) (hn : As.length = n) (hsz : ls.size = nL) (hst : st0 = As.reverse ++ rest) (hW : (rest.map fun v => v.category).sum ≤ 8) (hdg : decode cc pc = .ok (.invokestatic index, 3)) (kk : ∀ (r : Int32) (u : oh_St) (H1 : Heap) (locs1 : List Loc), post r u → va_P D vwCl (Wd u) H1 → va_D A (Wd u) → va_S A s.heap H1 locs1 → W p l e R s m args below meth c H1 locs1 0 0 Q (F0 m (pc + 3) ls (.int r :: rest))) : W p l e R s m args below meth c H locs 0 0 Q (F0 m pc ls st0) := by
  obtain ⟨hx, hb, hml, hown, hts, hr, hlocks, hK, hN, hA⟩ := hC
  have hF := oh_fr hA hD hS
  subst hst
  refine va_calli (va_runSN (As := As) (rest := rest) ⟨hx, hb, hml, hown, hts⟩ (hM H.size) cw ⟨oh_blind, fun U hU hW => ⟨rfl, oh_Pr.at hP hK hN hD U hU hW⟩⟩ rfl hn hsz rfl (lv_room hW) hdg ⟨Nat.zero_le _, Nat.zero_le _⟩) hS (fun q _ h => hF q h) hF (fun r u t H1 locs1 ht hvm hw hB hz1 hk1 hS1 => ?_)
  exact kk r u H1 locs1 hw (by rw [← ht]; exact hB.1) (hB.2.weaken (fun _ q _ h => hF q.1 h)) hS1
theorem oh_cvp {v : Int32} (hC : oh_Cx p s m meth c cc nL rt ws args own D tys A) (hP : va_P D vwCl (Wd σ) H) (hD : va_D A (Wd σ)) (hS : va_S A s.heap H locs) (hM : oh_Mi l y wy rm D tys Wd (.ref b :: As) σ (fun r u => r = v ∧ u = σ)) (cw : CallW R s args own C index y bytes maxL ret wy rm 0 0 n) (q0 ci : Nat) {T : u_T} {N : Nat} {fs : List Value} (he : (Wd σ)[q0]? = some (b, .inr (ci, fs))) (hc : vwCl[ci]? = some (C, T, N)) (hn : As.length = n) (hsz : ls.size = nL) (hst : st0 = As.reverse ++ .ref b :: rest) (hW : (rest.map fun v => v.category).sum ≤ 8) (hdg : decode cc pc = .ok (.invokevirtual index, 3)) (kk : ∀ (r : Int32) (H1 : Heap) (locs1 : List Loc), r = v → va_P D vwCl (Wd σ) H1 → va_D A (Wd σ) → va_S A s.heap H1 locs1 → W p l e R s m args below meth c H1 locs1 0 0 Q (F0 m (pc + 3) ls (.int r :: rest))) : W p l e R s m args below meth c H locs 0 0 Q (F0 m pc ls st0) :=
  oh_cvi hC hP hD hS hM cw q0 ci he hc hn hsz hst hW hdg (fun r u H1 locs1 hw hP1 hD1 hS1 => by obtain ⟨h1, h2⟩ := hw; rw [h2] at hP1 hD1; exact kk r H1 locs1 h1 hP1 hD1 hS1)
theorem oh_cvlp {v : Int64} (hC : oh_Cx p s m meth c cc nL rt ws args own D tys A) (hP : va_P D vwCl (Wd σ) H) (hD : va_D A (Wd σ)) (hS : va_S A s.heap H locs) (hM : oh_Ml l y wy rm D tys Wd (.ref b :: As) σ (fun r u => r = v ∧ u = σ)) (cw : CallW R s args own C index y bytes maxL ret wy rm 0 0 n) (q0 ci : Nat) {T : u_T} {N : Nat} {fs : List Value} (he : (Wd σ)[q0]? = some (b, .inr (ci, fs))) (hc : vwCl[ci]? = some (C, T, N)) (hn : As.length = n) (hsz : ls.size = nL) (hst : st0 = As.reverse ++ .ref b :: rest) (hW : (rest.map fun v => v.category).sum ≤ 8) (hdg : decode cc pc = .ok (.invokevirtual index, 3)) (kk : ∀ (r : Int64) (H1 : Heap) (locs1 : List Loc), r = v → va_P D vwCl (Wd σ) H1 → va_D A (Wd σ) → va_S A s.heap H1 locs1 → W p l e R s m args below meth c H1 locs1 0 0 Q (F0 m (pc + 3) ls (.long r :: rest))) : W p l e R s m args below meth c H locs 0 0 Q (F0 m pc ls st0) :=
  oh_cvl hC hP hD hS hM cw q0 ci he hc hn hsz hst hW hdg (fun r u H1 locs1 hw hP1 hD1 hS1 => by obtain ⟨h1, h2⟩ := hw; rw [h2] at hP1 hD1; exact kk r H1 locs1 h1 hP1 hD1 hS1)
theorem oh_cvqp {v : Option Nat} (hC : oh_Cx p s m meth c cc nL rt ws args own D tys A) (hP : va_P D vwCl (Wd σ) H) (hD : va_D A (Wd σ)) (hS : va_S A s.heap H locs) (hM : oh_Mq l y wy rm D tys Wd (.ref b :: As) σ (fun r u => r = v ∧ u = σ)) (cw : CallW R s args own C index y bytes maxL ret wy rm 0 0 n) (q0 ci : Nat) {T : u_T} {N : Nat} {fs : List Value} (he : (Wd σ)[q0]? = some (b, .inr (ci, fs))) (hc : vwCl[ci]? = some (C, T, N)) (hn : As.length = n) (hsz : ls.size = nL) (hst : st0 = As.reverse ++ .ref b :: rest) (hW : (rest.map fun v => v.category).sum ≤ 8) (hdg : decode cc pc = .ok (.invokevirtual index, 3)) (kk : ∀ (H1 : Heap) (locs1 : List Loc), va_P D vwCl (Wd σ) H1 → va_D A (Wd σ) → va_S A s.heap H1 locs1 → W p l e R s m args below meth c H1 locs1 0 0 Q (F0 m (pc + 3) ls (va_rf v :: rest))) : W p l e R s m args below meth c H locs 0 0 Q (F0 m pc ls st0) :=
  oh_cvq hC hP hD hS hM cw q0 ci he hc hn hsz hst hW hdg (fun r u H1 locs1 hw hP1 hD1 hS1 => by obtain ⟨h1, h2⟩ := hw; rw [h2] at hP1 hD1; rw [h1]; exact kk H1 locs1 hP1 hD1 hS1)
theorem oh_csp {v : Int32} (hC : oh_Cx p s m meth c cc nL rt ws args own D tys A) (hP : va_P D vwCl (Wd σ) H) (hD : va_D A (Wd σ)) (hS : va_S A s.heap H locs) (hM : oh_Mi l y wy rm D tys Wd As σ (fun r u => r = v ∧ u = σ)) (cw : CallB R s args own index y bytes maxL ret wy rm 0 0 n ∧ (Cond.static y).before args s = true) (hn : As.length = n) (hsz : ls.size = nL) (hst : st0 = As.reverse ++ rest) (hW : (rest.map fun v => v.category).sum ≤ 8) (hdg : decode cc pc = .ok (.invokestatic index, 3)) (kk : ∀ (r : Int32) (H1 : Heap) (locs1 : List Loc), r = v → va_P D vwCl (Wd σ) H1 → va_D A (Wd σ) → va_S A s.heap H1 locs1 → W p l e R s m args below meth c H1 locs1 0 0 Q (F0 m (pc + 3) ls (.int r :: rest))) : W p l e R s m args below meth c H locs 0 0 Q (F0 m pc ls st0) :=
  oh_csi hC hP hD hS hM cw hn hsz hst hW hdg (fun r u H1 locs1 hw hP1 hD1 hS1 => by obtain ⟨h1, h2⟩ := hw; rw [h2] at hP1 hD1; exact kk r H1 locs1 h1 hP1 hD1 hS1)
theorem oh_csnp {v : Int32} (hC : oh_Cx p s m meth c cc nL rt ws args own D tys A) (hP : va_P D vwCl (Wd σ) H) (hD : va_D A (Wd σ)) (hS : va_S A s.heap H locs) (hM : oh_Mi l y wy rm D tys Wd As σ (fun r u => r = v ∧ u = σ)) (cw : va_CN R s args own index y RX7 bytes maxL ret wy rm 0 0 n ∧ (Cond.static y).before args s = true ∧ True) (hn : As.length = n) (hsz : ls.size = nL) (hst : st0 = As.reverse ++ rest) (hW : (rest.map fun v => v.category).sum ≤ 8) (hdg : decode cc pc = .ok (.invokestatic index, 3)) (kk : ∀ (r : Int32) (H1 : Heap) (locs1 : List Loc), r = v → va_P D vwCl (Wd σ) H1 → va_D A (Wd σ) → va_S A s.heap H1 locs1 → W p l e R s m args below meth c H1 locs1 0 0 Q (F0 m (pc + 3) ls (.int r :: rest))) : W p l e R s m args below meth c H locs 0 0 Q (F0 m pc ls st0) :=
  oh_csn hC hP hD hS hM cw hn hsz hst hW hdg (fun r u H1 locs1 hw hP1 hD1 hS1 => by obtain ⟨h1, h2⟩ := hw; rw [h2] at hP1 hD1; exact kk r H1 locs1 h1 hP1 hD1 hS1)
end
end
end
section
-- OctalHouse.bit
def spX7_bit (p1 : Int32) : Int32 := (if p1 = (0 : Int32) then (0 : Int32) else (1 : Int32))
set_option maxHeartbeats 8000000 in
set_option maxRecDepth 100000 in
theorem mtX7_bit (l : Launch) (a : Nat → Nat) (k : Nat → ClassId) (D : va_G) (σ : oh_St) (p1 : Int32) : oh_Mi l yX7_bit wsX7_bit { frames := 0, cells := 0, slots := 0, locals := 0 } D (oh_ty k) (oh_W a k) [.int p1] σ (fun r u => r = spX7_bit p1 ∧ u = σ) := by
  refine oh_ini (cc := cX7_bit) (nL := 1) (rt := some .int) (by decide) rfl (Nat.le_of_ble_eq_true rfl) ?_
  intro p e s m below meth c A ls hC hP hD hS hl
  obtain ⟨hx, hb, hml, hown, hts, hr, hlocks, hK, hN, hA⟩ := id hC
  have hl : lv_has ls 1 [(0, .int p1)] := hl
  refine lv_iload_n hx hb dX7_bit_0 rfl (lv_at hl 0 rfl) ?_
  refine lv_if_eq (tgt := 8) hx hb dX7_bit_1 (by decide) (fun c1 => ?_) (fun c1 => ?_)
  · refine lv_iconst (v := (0 : Int32)) hx hb dX7_bit_8 (by decide) ?_
    exact oh_reti (v := (0 : Int32)) (u := σ) hC hP hD hS ⟨(by exact (if_pos c1).symm), rfl⟩ dX7_bit_9
  · refine lv_iconst (v := (1 : Int32)) hx hb dX7_bit_4 (by decide) ?_
    refine lv_goto (tgt := 9) hx hb dX7_bit_5 (by decide) ?_
    exact oh_reti (v := (1 : Int32)) (u := σ) hC hP hD hS ⟨(by exact (if_neg c1).symm), rfl⟩ dX7_bit_9
-- OctalHouse$Memory.read
theorem inX4_read_X4 : ∀ w ∈ u_ws RX4 TX4 1, w ∈ wsX4_read := by decide +kernel
def spX4_read (σ : oh_St) (p1 : Int32) : Int32 := (if p1 < (0 : Int32) then (0 : Int32) else (if (4096 : Int32) ≤ p1 then (0 : Int32) else (σ 1 p1.toNatClampNeg)))
set_option maxHeartbeats 8000000 in
set_option maxRecDepth 100000 in
theorem mtX4_read (l : Launch) (a : Nat → Nat) (k : Nat → ClassId) (D : va_G) (σ : oh_St) (p1 : Int32) : oh_Mi l yX4_read wsX4_read { frames := 0, cells := 0, slots := 0, locals := 0 } D (oh_ty k) (oh_W a k) [.ref (a 1), .int p1] σ (fun r u => r = spX4_read σ p1 ∧ u = σ) := by
  refine oh_ini (cc := cX4_read) (nL := 2) (rt := some .int) (by decide) rfl (Nat.le_of_ble_eq_true rfl) ?_
  intro p e s m below meth c A ls hC hP hD hS hl
  obtain ⟨hx, hb, hml, hown, hts, hr, hlocks, hK, hN, hA⟩ := id hC
  have hl : lv_has ls 2 [(0, .ref (a 1)), (1, .int p1)] := hl
  refine lv_iload_n hx hb dX4_read_0 rfl (lv_at hl 1 rfl) ?_
  refine lv_if_lt (tgt := 22) hx hb dX4_read_1 (by decide) (fun c1 => ?_) (fun c1 => ?_)
  · refine lv_iconst (v := (0 : Int32)) hx hb dX4_read_22 (by decide) ?_
    exact oh_reti (v := (0 : Int32)) (u := σ) hC hP hD hS ⟨(by exact (if_pos c1).symm), rfl⟩ dX4_read_23
  · refine lv_iload_n hx hb dX4_read_4 rfl (lv_at hl 1 rfl) ?_
    refine lv_aload_n hx hb dX4_read_5 rfl (lv_at hl 0 rfl) ?_
    refine oh_get (v := .ref (a 2)) hC hP inX4_read_X4 1 rfl rfl 0 (by decide) (by decide +kernel) rfl dX4_read_6 ?_
    refine oh_alen (v := (4096 : Int32)) hC hP 2 0 rfl rfl (by decide) dX4_read_9 ?_
    refine lv_icmp_ge (tgt := 22) hx hb dX4_read_10 (by decide) (fun c2 => ?_) (fun c2 => ?_)
    · refine lv_iconst (v := (0 : Int32)) hx hb dX4_read_22 (by decide) ?_
      exact oh_reti (v := (0 : Int32)) (u := σ) hC hP hD hS ⟨(by exact ((if_neg c1).trans (if_pos c2)).symm), rfl⟩ dX4_read_23
    · refine lv_aload_n hx hb dX4_read_13 rfl (lv_at hl 0 rfl) ?_
      refine oh_get (v := .ref (a 2)) hC hP inX4_read_X4 1 rfl rfl 0 (by decide) (by decide +kernel) rfl dX4_read_14 ?_
      refine lv_iload_n hx hb dX4_read_17 rfl (lv_at hl 1 rfl) ?_
      refine oh_iald hC hP 2 0 rfl rfl (oh_in c1 c2 rfl) dX4_read_18 ?_
      refine lv_goto (tgt := 23) hx hb dX4_read_19 (by decide) ?_
      exact oh_reti (v := (σ 1 p1.toNatClampNeg)) (u := σ) hC hP hD hS ⟨(by exact ((if_neg c1).trans (if_neg c2)).symm), rfl⟩ dX4_read_23
-- OctalHouse$Memory.write
theorem inX4_write_X4 : ∀ w ∈ u_ws RX4 TX4 1, w ∈ wsX4_write := by decide +kernel
def spX4_write (σ : oh_St) (p1 : Int32) (p2 : Int32) : oh_St := (if p1 < (0 : Int32) then σ else (if (4096 : Int32) ≤ p1 then σ else (oh_up σ 1 p1.toNatClampNeg (p2 &&& (65535 : Int32)))))
set_option maxHeartbeats 8000000 in
set_option maxRecDepth 100000 in
theorem mtX4_write (l : Launch) (a : Nat → Nat) (k : Nat → ClassId) (D : va_G) (σ : oh_St) (p1 : Int32) (p2 : Int32) : oh_Mv l yX4_write wsX4_write { frames := 0, cells := 0, slots := 0, locals := 0 } D (oh_ty k) (oh_W a k) [.ref (a 1), .int p1, .int p2] σ (fun u => u = spX4_write σ p1 p2) := by
  refine oh_inv (cc := cX4_write) (nL := 3) (rt := none) (by decide) rfl (Nat.le_of_ble_eq_true rfl) ?_
  intro p e s m below meth c A ls hC hP hD hS hl
  obtain ⟨hx, hb, hml, hown, hts, hr, hlocks, hK, hN, hA⟩ := id hC
  have hl : lv_has ls 3 [(0, .ref (a 1)), (1, .int p1), (2, .int p2)] := hl
  refine lv_iload_n hx hb dX4_write_0 rfl (lv_at hl 1 rfl) ?_
  refine lv_if_lt (tgt := 23) hx hb dX4_write_1 (by decide) (fun c1 => ?_) (fun c1 => ?_)
  · exact oh_retv (u := σ) hC hP hD hS (by exact (if_pos c1).symm) dX4_write_23
  · refine lv_iload_n hx hb dX4_write_4 rfl (lv_at hl 1 rfl) ?_
    refine lv_aload_n hx hb dX4_write_5 rfl (lv_at hl 0 rfl) ?_
    refine oh_get (v := .ref (a 2)) hC hP inX4_write_X4 1 rfl rfl 0 (by decide) (by decide +kernel) rfl dX4_write_6 ?_
    refine oh_alen (v := (4096 : Int32)) hC hP 2 0 rfl rfl (by decide) dX4_write_9 ?_
    refine lv_icmp_ge (tgt := 23) hx hb dX4_write_10 (by decide) (fun c2 => ?_) (fun c2 => ?_)
    · exact oh_retv (u := σ) hC hP hD hS (by exact ((if_neg c1).trans (if_pos c2)).symm) dX4_write_23
    · refine lv_aload_n hx hb dX4_write_13 rfl (lv_at hl 0 rfl) ?_
      refine oh_get (v := .ref (a 2)) hC hP inX4_write_X4 1 rfl rfl 0 (by decide) (by decide +kernel) rfl dX4_write_14 ?_
      refine lv_iload_n hx hb dX4_write_17 rfl (lv_at hl 1 rfl) ?_
      refine lv_iload_n hx hb dX4_write_18 rfl (lv_at hl 2 rfl) ?_
      refine lv_ldc (v := (65535 : Int32)) hx hb hown (hts (.constant RX4 15 (65535)) (by decide +kernel)) dX4_write_19 ?_
      refine lv_iand hx hb dX4_write_21 ?_
      refine oh_iast (σ' := (oh_up σ 1 p1.toNatClampNeg (p2 &&& (65535 : Int32)))) hC hP hD hS 2 0 rfl rfl (oh_in c1 c2 rfl) rfl dX4_write_22 (fun H locs hP hD hS => ?_)
      exact oh_retv (u := (oh_up σ 1 p1.toNatClampNeg (p2 &&& (65535 : Int32)))) hC hP hD hS (by exact ((if_neg c1).trans (if_neg c2)).symm) dX4_write_23
-- OctalHouse$Registers.stepOn
theorem inX6_stepOn_X6 : ∀ w ∈ u_ws RX6 TX6 6, w ∈ wsX6_stepOn := by decide +kernel
def spX6_stepOn (σ : oh_St) : oh_St := (oh_up σ 0 3 (((σ 0 3) + (1 : Int32)) &&& (32767 : Int32)))
set_option maxHeartbeats 8000000 in
set_option maxRecDepth 100000 in
theorem mtX6_stepOn (l : Launch) (a : Nat → Nat) (k : Nat → ClassId) (D : va_G) (σ : oh_St)  : oh_Mv l yX6_stepOn wsX6_stepOn { frames := 0, cells := 0, slots := 0, locals := 0 } D (oh_ty k) (oh_W a k) [.ref (a 3)] σ (fun u => u = spX6_stepOn σ) := by
  refine oh_inv (cc := cX6_stepOn) (nL := 1) (rt := none) (by decide) rfl (Nat.le_of_ble_eq_true rfl) ?_
  intro p e s m below meth c A ls hC hP hD hS hl
  obtain ⟨hx, hb, hml, hown, hts, hr, hlocks, hK, hN, hA⟩ := id hC
  have hl : lv_has ls 1 [(0, .ref (a 3))] := hl
  refine lv_aload_n hx hb dX6_stepOn_0 rfl (lv_at hl 0 rfl) ?_
  refine lv_aload_n hx hb dX6_stepOn_1 rfl (lv_at hl 0 rfl) ?_
  refine oh_get (v := .int (σ 0 3)) hC hP inX6_stepOn_X6 3 rfl rfl 0 (by decide) (by decide +kernel) rfl dX6_stepOn_2 ?_
  refine lv_iconst (v := (1 : Int32)) hx hb dX6_stepOn_5 (by decide) ?_
  refine lv_iadd hx hb dX6_stepOn_6 ?_
  refine lv_sipush (v := (32767 : Int32)) hx hb dX6_stepOn_7 (by decide) ?_
  refine lv_iand hx hb dX6_stepOn_10 ?_
  refine oh_put (σ' := (oh_up σ 0 3 (((σ 0 3) + (1 : Int32)) &&& (32767 : Int32)))) (v := .int (((σ 0 3) + (1 : Int32)) &&& (32767 : Int32))) hC hP hD hS inX6_stepOn_X6 tyX6 tyX6_ok nmX6 3 rfl rfl 0 (by decide) (by decide +kernel) rfl rfl rfl (by simp) rfl dX6_stepOn_11 (fun H locs hP hD hS => ?_)
  exact oh_retv (u := (oh_up σ 0 3 (((σ 0 3) + (1 : Int32)) &&& (32767 : Int32)))) hC hP hD hS (by exact rfl) dX6_stepOn_14
-- OctalHouse$Registers.halt
theorem inX6_halt_X6 : ∀ w ∈ u_ws RX6 TX6 6, w ∈ wsX6_halt := by decide +kernel
def spX6_halt (σ : oh_St) (p1 : Int32) : oh_St := (oh_up (oh_up σ 0 7 (1 : Int32)) 0 8 p1)
set_option maxHeartbeats 8000000 in
set_option maxRecDepth 100000 in
theorem mtX6_halt (l : Launch) (a : Nat → Nat) (k : Nat → ClassId) (D : va_G) (σ : oh_St) (p1 : Int32) : oh_Mv l yX6_halt wsX6_halt { frames := 0, cells := 0, slots := 0, locals := 0 } D (oh_ty k) (oh_W a k) [.ref (a 3), .int p1] σ (fun u => u = spX6_halt σ p1) := by
  refine oh_inv (cc := cX6_halt) (nL := 2) (rt := none) (by decide) rfl (Nat.le_of_ble_eq_true rfl) ?_
  intro p e s m below meth c A ls hC hP hD hS hl
  obtain ⟨hx, hb, hml, hown, hts, hr, hlocks, hK, hN, hA⟩ := id hC
  have hl : lv_has ls 2 [(0, .ref (a 3)), (1, .int p1)] := hl
  refine lv_aload_n hx hb dX6_halt_0 rfl (lv_at hl 0 rfl) ?_
  refine lv_iconst (v := (1 : Int32)) hx hb dX6_halt_1 (by decide) ?_
  refine oh_put (σ' := (oh_up σ 0 7 (1 : Int32))) (v := .int (1 : Int32)) hC hP hD hS inX6_halt_X6 tyX6 tyX6_ok nmX6 3 rfl rfl 4 (by decide) (by decide +kernel) rfl (oh_nb (by decide)) (oh_fb (by decide)) (by simp) rfl dX6_halt_2 (fun H locs hP hD hS => ?_)
  refine lv_aload_n hx hb dX6_halt_5 rfl (lv_at hl 0 rfl) ?_
  refine lv_iload_n hx hb dX6_halt_6 rfl (lv_at hl 1 rfl) ?_
  refine oh_put (σ' := (oh_up (oh_up σ 0 7 (1 : Int32)) 0 8 p1)) (v := .int p1) hC hP hD hS inX6_halt_X6 tyX6 tyX6_ok nmX6 3 rfl rfl 5 (by decide) (by decide +kernel) rfl rfl rfl (by simp) rfl dX6_halt_7 (fun H locs hP hD hS => ?_)
  exact oh_retv (u := (oh_up (oh_up σ 0 7 (1 : Int32)) 0 8 p1)) hC hP hD hS (by exact rfl) dX6_halt_10
-- OctalHouse$Line.putFlag
theorem inX3_putFlag_X3 : ∀ w ∈ u_ws RX3 TX3 3, w ∈ wsX3_putFlag := by decide +kernel
def spX3_putFlag (σ : oh_St) (n : Nat) (p1 : Int32) : oh_St := (oh_up (oh_up σ 3 (6 + n) p1) 4 (6 + n) p1)
set_option maxHeartbeats 8000000 in
set_option maxRecDepth 100000 in
theorem mtX3_putFlag (l : Launch) (a : Nat → Nat) (k : Nat → ClassId) (D : va_G) (σ : oh_St) {n : Nat} (hn : n < 6) (p1 : Int32) (hbp1 : p1 = 0 ∨ p1 = 1) : oh_Mv l yX3_putFlag wsX3_putFlag { frames := 0, cells := 0, slots := 0, locals := 0 } D (oh_ty k) (oh_W a k) [.ref (a (9 + n)), .int p1] σ (fun u => u = spX3_putFlag σ n p1) := by
  refine oh_inv (cc := cX3_putFlag) (nL := 2) (rt := none) (by decide) rfl (Nat.le_of_ble_eq_true rfl) ?_
  intro p e s m below meth c A ls hC hP hD hS hl
  obtain ⟨hx, hb, hml, hown, hts, hr, hlocks, hK, hN, hA⟩ := id hC
  have hl : lv_has ls 2 [(0, .ref (a (9 + n))), (1, .int p1)] := hl
  refine lv_aload_n hx hb dX3_putFlag_0 rfl (lv_at hl 0 rfl) ?_
  refine lv_iload_n hx hb dX3_putFlag_1 rfl (lv_at hl 1 rfl) ?_
  refine oh_put (σ' := (oh_up σ 3 (6 + n) p1)) (v := .int p1) hC hP hD hS inX3_putFlag_X3 tyX3 tyX3_ok nmX3 (9 + n) (oh_gln a k σ hn) rfl 1 (by decide) (by decide +kernel) rfl (oh_nb hbp1) (oh_fb hbp1) (by simp) (oh_sln1 a k σ hn _) dX3_putFlag_2 (fun H locs hP hD hS => ?_)
  refine lv_aload_n hx hb dX3_putFlag_5 rfl (lv_at hl 0 rfl) ?_
  refine lv_iload_n hx hb dX3_putFlag_6 rfl (lv_at hl 1 rfl) ?_
  refine oh_put (σ' := (oh_up (oh_up σ 3 (6 + n) p1) 4 (6 + n) p1)) (v := .int p1) hC hP hD hS inX3_putFlag_X3 tyX3 tyX3_ok nmX3 (9 + n) (oh_gln a k (oh_up σ 3 (6 + n) p1) hn) rfl 2 (by decide) (by decide +kernel) rfl (oh_nb hbp1) (oh_fb hbp1) (by simp) (oh_sln2 a k (oh_up σ 3 (6 + n) p1) hn _) dX3_putFlag_7 (fun H locs hP hD hS => ?_)
  exact oh_retv (u := (oh_up (oh_up σ 3 (6 + n) p1) 4 (6 + n) p1)) hC hP hD hS (by exact rfl) dX3_putFlag_10
end
