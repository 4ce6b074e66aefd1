section
-- ===== PART A: goes FIRST, ahead of the names: the tables' words, and 'selects' of the private methods out of them =====
/-- a private method of a class that the tables say can be made, by its rows of tables_1 -/
def lw_okq (q : MethodName × Nat) : Prop := (q.1.cls ≠ "java/lang/invoke/MethodHandle" ∧ q.1.cls ≠ "java/lang/invoke/VarHandle") ∧ Cond.instantiable q.1.cls q.2 ∈ tables_1 ∧ Cond.privateMethod q.1 ∈ tables_1 ∧ Cond.instanceMethod q.1 ∈ tables_1
theorem lw_p0 : lw_okq (⟨"SortBench", "checkRoom", "(I)V"⟩, 10) := ⟨⟨by decide +kernel, by decide +kernel⟩, List.mem_of_getElem? (i := 18) (by decide +kernel), List.mem_of_getElem? (i := 224) (by decide +kernel), List.mem_of_getElem? (i := 225) (by decide +kernel)⟩
theorem lw_p1 : lw_okq (⟨"java/lang/Throwable", "fillInStackTrace", "(I)Ljava/lang/Throwable;"⟩, 6) := ⟨⟨by decide +kernel, by decide +kernel⟩, List.mem_of_getElem? (i := 266) (by decide +kernel), List.mem_of_getElem? (i := 264) (by decide +kernel), List.mem_of_getElem? (i := 265) (by decide +kernel)⟩
theorem lw_p2 : lw_okq (⟨"SortBench", "checkAmount", "(I)V"⟩, 10) := ⟨⟨by decide +kernel, by decide +kernel⟩, List.mem_of_getElem? (i := 18) (by decide +kernel), List.mem_of_getElem? (i := 324) (by decide +kernel), List.mem_of_getElem? (i := 325) (by decide +kernel)⟩
theorem lw_p3 : lw_okq (⟨"SortBench", "checkPlace", "(I)V"⟩, 10) := ⟨⟨by decide +kernel, by decide +kernel⟩, List.mem_of_getElem? (i := 18) (by decide +kernel), List.mem_of_getElem? (i := 347) (by decide +kernel), List.mem_of_getElem? (i := 348) (by decide +kernel)⟩
theorem lw_p4 : lw_okq (⟨"SortBench", "checkChoice", "(II)V"⟩, 10) := ⟨⟨by decide +kernel, by decide +kernel⟩, List.mem_of_getElem? (i := 18) (by decide +kernel), List.mem_of_getElem? (i := 399) (by decide +kernel), List.mem_of_getElem? (i := 400) (by decide +kernel)⟩
theorem lw_p5 : lw_okq (⟨"SortBench", "startCounting", "()V"⟩, 10) := ⟨⟨by decide +kernel, by decide +kernel⟩, List.mem_of_getElem? (i := 18) (by decide +kernel), List.mem_of_getElem? (i := 419) (by decide +kernel), List.mem_of_getElem? (i := 420) (by decide +kernel)⟩
theorem lw_p6 : lw_okq (⟨"SortBench", "wayOf", "(I)LSortBench$Way;"⟩, 10) := ⟨⟨by decide +kernel, by decide +kernel⟩, List.mem_of_getElem? (i := 18) (by decide +kernel), List.mem_of_getElem? (i := 431) (by decide +kernel), List.mem_of_getElem? (i := 432) (by decide +kernel)⟩
theorem lw_p7 : lw_okq (⟨"SortBench$Heap", "sink", "(III)V"⟩, 1) := ⟨⟨by decide +kernel, by decide +kernel⟩, List.mem_of_getElem? (i := 81) (by decide +kernel), List.mem_of_getElem? (i := 446) (by decide +kernel), List.mem_of_getElem? (i := 447) (by decide +kernel)⟩
theorem lw_p8 : lw_okq (⟨"SortBench$Row", "settle", "(II)V"⟩, 8) := ⟨⟨by decide +kernel, by decide +kernel⟩, List.mem_of_getElem? (i := 26) (by decide +kernel), List.mem_of_getElem? (i := 455) (by decide +kernel), List.mem_of_getElem? (i := 456) (by decide +kernel)⟩
theorem lw_p9 : lw_okq (⟨"SortBench$Inserting", "insert", "(II)I"⟩, 1) := ⟨⟨by decide +kernel, by decide +kernel⟩, List.mem_of_getElem? (i := 58) (by decide +kernel), List.mem_of_getElem? (i := 478) (by decide +kernel), List.mem_of_getElem? (i := 479) (by decide +kernel)⟩
theorem lw_p10 : lw_okq (⟨"SortBench$Quick", "takeWhole", "()V"⟩, 15) := ⟨⟨by decide +kernel, by decide +kernel⟩, List.mem_of_getElem? (i := 89) (by decide +kernel), List.mem_of_getElem? (i := 489) (by decide +kernel), List.mem_of_getElem? (i := 490) (by decide +kernel)⟩
theorem lw_p11 : lw_okq (⟨"SortBench$Quick", "finishSmall", "()V"⟩, 15) := ⟨⟨by decide +kernel, by decide +kernel⟩, List.mem_of_getElem? (i := 89) (by decide +kernel), List.mem_of_getElem? (i := 494) (by decide +kernel), List.mem_of_getElem? (i := 495) (by decide +kernel)⟩
theorem lw_p12 : lw_okq (⟨"SortBench$Quick", "takeWaiting", "()Z"⟩, 15) := ⟨⟨by decide +kernel, by decide +kernel⟩, List.mem_of_getElem? (i := 89) (by decide +kernel), List.mem_of_getElem? (i := 503) (by decide +kernel), List.mem_of_getElem? (i := 504) (by decide +kernel)⟩
theorem lw_p13 : lw_okq (⟨"SortBench$Quick", "choosePivot", "(IZ)V"⟩, 15) := ⟨⟨by decide +kernel, by decide +kernel⟩, List.mem_of_getElem? (i := 89) (by decide +kernel), List.mem_of_getElem? (i := 507) (by decide +kernel), List.mem_of_getElem? (i := 508) (by decide +kernel)⟩
theorem lw_p14 : lw_okq (⟨"SortBench$Quick", "three", "(III)V"⟩, 15) := ⟨⟨by decide +kernel, by decide +kernel⟩, List.mem_of_getElem? (i := 89) (by decide +kernel), List.mem_of_getElem? (i := 511) (by decide +kernel), List.mem_of_getElem? (i := 512) (by decide +kernel)⟩
theorem lw_p15 : lw_okq (⟨"SortBench$Quick", "two", "(II)V"⟩, 15) := ⟨⟨by decide +kernel, by decide +kernel⟩, List.mem_of_getElem? (i := 89) (by decide +kernel), List.mem_of_getElem? (i := 515) (by decide +kernel), List.mem_of_getElem? (i := 516) (by decide +kernel)⟩
def lw_privs_1 : List (MethodName × Nat) := [(⟨"SortBench", "checkRoom", "(I)V"⟩, 10), (⟨"java/lang/Throwable", "fillInStackTrace", "(I)Ljava/lang/Throwable;"⟩, 6), (⟨"SortBench", "checkAmount", "(I)V"⟩, 10), (⟨"SortBench", "checkPlace", "(I)V"⟩, 10), (⟨"SortBench", "checkChoice", "(II)V"⟩, 10), (⟨"SortBench", "startCounting", "()V"⟩, 10), (⟨"SortBench", "wayOf", "(I)LSortBench$Way;"⟩, 10), (⟨"SortBench$Heap", "sink", "(III)V"⟩, 1), (⟨"SortBench$Row", "settle", "(II)V"⟩, 8), (⟨"SortBench$Inserting", "insert", "(II)I"⟩, 1), (⟨"SortBench$Quick", "takeWhole", "()V"⟩, 15), (⟨"SortBench$Quick", "finishSmall", "()V"⟩, 15), (⟨"SortBench$Quick", "takeWaiting", "()Z"⟩, 15), (⟨"SortBench$Quick", "choosePivot", "(IZ)V"⟩, 15), (⟨"SortBench$Quick", "three", "(III)V"⟩, 15), (⟨"SortBench$Quick", "two", "(II)V"⟩, 15)]
theorem lw_r1 : ∀ q ∈ lw_privs_1, lw_okq q := List.forall_mem_cons.mpr ⟨lw_p0, List.forall_mem_cons.mpr ⟨lw_p1, List.forall_mem_cons.mpr ⟨lw_p2, List.forall_mem_cons.mpr ⟨lw_p3, List.forall_mem_cons.mpr ⟨lw_p4, List.forall_mem_cons.mpr ⟨lw_p5, List.forall_mem_cons.mpr ⟨lw_p6, List.forall_mem_cons.mpr ⟨lw_p7, List.forall_mem_cons.mpr ⟨lw_p8, List.forall_mem_cons.mpr ⟨lw_p9, List.forall_mem_cons.mpr ⟨lw_p10, List.forall_mem_cons.mpr ⟨lw_p11, List.forall_mem_cons.mpr ⟨lw_p12, List.forall_mem_cons.mpr ⟨lw_p13, List.forall_mem_cons.mpr ⟨lw_p14, List.forall_mem_cons.mpr ⟨lw_p15, fun _ h => absurd h List.not_mem_nil⟩⟩⟩⟩⟩⟩⟩⟩⟩⟩⟩⟩⟩⟩⟩⟩
theorem lw_p16 : lw_okq (⟨"SortBench$Quick", "moveEqualLeft", "()I"⟩, 15) := ⟨⟨by decide +kernel, by decide +kernel⟩, List.mem_of_getElem? (i := 89) (by decide +kernel), List.mem_of_getElem? (i := 522) (by decide +kernel), List.mem_of_getElem? (i := 523) (by decide +kernel)⟩
theorem lw_p17 : lw_okq (⟨"SortBench$Quick", "downWhileGreater", "(II)I"⟩, 15) := ⟨⟨by decide +kernel, by decide +kernel⟩, List.mem_of_getElem? (i := 89) (by decide +kernel), List.mem_of_getElem? (i := 526) (by decide +kernel), List.mem_of_getElem? (i := 527) (by decide +kernel)⟩
theorem lw_p18 : lw_okq (⟨"SortBench$Quick", "upTillGreater", "(II)I"⟩, 15) := ⟨⟨by decide +kernel, by decide +kernel⟩, List.mem_of_getElem? (i := 89) (by decide +kernel), List.mem_of_getElem? (i := 530) (by decide +kernel), List.mem_of_getElem? (i := 531) (by decide +kernel)⟩
theorem lw_p19 : lw_okq (⟨"SortBench$Quick", "part", "()V"⟩, 15) := ⟨⟨by decide +kernel, by decide +kernel⟩, List.mem_of_getElem? (i := 89) (by decide +kernel), List.mem_of_getElem? (i := 535) (by decide +kernel), List.mem_of_getElem? (i := 536) (by decide +kernel)⟩
theorem lw_p20 : lw_okq (⟨"SortBench$Quick", "upWhileLess", "(II)I"⟩, 15) := ⟨⟨by decide +kernel, by decide +kernel⟩, List.mem_of_getElem? (i := 89) (by decide +kernel), List.mem_of_getElem? (i := 539) (by decide +kernel), List.mem_of_getElem? (i := 540) (by decide +kernel)⟩
theorem lw_p21 : lw_okq (⟨"SortBench$Quick", "downTillLess", "(II)I"⟩, 15) := ⟨⟨by decide +kernel, by decide +kernel⟩, List.mem_of_getElem? (i := 89) (by decide +kernel), List.mem_of_getElem? (i := 543) (by decide +kernel), List.mem_of_getElem? (i := 544) (by decide +kernel)⟩
theorem lw_p22 : lw_okq (⟨"SortBench$Quick", "isDoneWhenParted", "(I)Z"⟩, 15) := ⟨⟨by decide +kernel, by decide +kernel⟩, List.mem_of_getElem? (i := 89) (by decide +kernel), List.mem_of_getElem? (i := 547) (by decide +kernel), List.mem_of_getElem? (i := 548) (by decide +kernel)⟩
theorem lw_p23 : lw_okq (⟨"SortBench$Quick", "breakPatterns", "(II)V"⟩, 15) := ⟨⟨by decide +kernel, by decide +kernel⟩, List.mem_of_getElem? (i := 89) (by decide +kernel), List.mem_of_getElem? (i := 556) (by decide +kernel), List.mem_of_getElem? (i := 557) (by decide +kernel)⟩
theorem lw_p24 : lw_okq (⟨"SortBench$Quick", "goLeft", "()V"⟩, 15) := ⟨⟨by decide +kernel, by decide +kernel⟩, List.mem_of_getElem? (i := 89) (by decide +kernel), List.mem_of_getElem? (i := 560) (by decide +kernel), List.mem_of_getElem? (i := 561) (by decide +kernel)⟩
theorem lw_p25 : lw_okq (⟨"SortBench$Runs", "findRun", "(II)I"⟩, 7) := ⟨⟨by decide +kernel, by decide +kernel⟩, List.mem_of_getElem? (i := 139) (by decide +kernel), List.mem_of_getElem? (i := 568) (by decide +kernel), List.mem_of_getElem? (i := 569) (by decide +kernel)⟩
theorem lw_p26 : lw_okq (⟨"SortBench$Runs", "lengthen", "(III)I"⟩, 7) := ⟨⟨by decide +kernel, by decide +kernel⟩, List.mem_of_getElem? (i := 139) (by decide +kernel), List.mem_of_getElem? (i := 575) (by decide +kernel), List.mem_of_getElem? (i := 576) (by decide +kernel)⟩
theorem lw_p27 : lw_okq (⟨"SortBench$Runs", "insertByHalves", "(II)V"⟩, 7) := ⟨⟨by decide +kernel, by decide +kernel⟩, List.mem_of_getElem? (i := 139) (by decide +kernel), List.mem_of_getElem? (i := 582) (by decide +kernel), List.mem_of_getElem? (i := 583) (by decide +kernel)⟩
theorem lw_p28 : lw_okq (⟨"SortBench$Runs", "pileUp", "(II)V"⟩, 7) := ⟨⟨by decide +kernel, by decide +kernel⟩, List.mem_of_getElem? (i := 139) (by decide +kernel), List.mem_of_getElem? (i := 590) (by decide +kernel), List.mem_of_getElem? (i := 591) (by decide +kernel)⟩
theorem lw_p29 : lw_okq (⟨"SortBench$Runs", "mergeWhileFlat", "()V"⟩, 7) := ⟨⟨by decide +kernel, by decide +kernel⟩, List.mem_of_getElem? (i := 139) (by decide +kernel), List.mem_of_getElem? (i := 594) (by decide +kernel), List.mem_of_getElem? (i := 595) (by decide +kernel)⟩
theorem lw_p30 : lw_okq (⟨"SortBench$Runs", "isFlat", "(I)Z"⟩, 7) := ⟨⟨by decide +kernel, by decide +kernel⟩, List.mem_of_getElem? (i := 139) (by decide +kernel), List.mem_of_getElem? (i := 598) (by decide +kernel), List.mem_of_getElem? (i := 599) (by decide +kernel)⟩
theorem lw_p31 : lw_okq (⟨"SortBench$Runs", "sizeAt", "(I)I"⟩, 7) := ⟨⟨by decide +kernel, by decide +kernel⟩, List.mem_of_getElem? (i := 139) (by decide +kernel), List.mem_of_getElem? (i := 602) (by decide +kernel), List.mem_of_getElem? (i := 603) (by decide +kernel)⟩
def lw_privs_2 : List (MethodName × Nat) := [(⟨"SortBench$Quick", "moveEqualLeft", "()I"⟩, 15), (⟨"SortBench$Quick", "downWhileGreater", "(II)I"⟩, 15), (⟨"SortBench$Quick", "upTillGreater", "(II)I"⟩, 15), (⟨"SortBench$Quick", "part", "()V"⟩, 15), (⟨"SortBench$Quick", "upWhileLess", "(II)I"⟩, 15), (⟨"SortBench$Quick", "downTillLess", "(II)I"⟩, 15), (⟨"SortBench$Quick", "isDoneWhenParted", "(I)Z"⟩, 15), (⟨"SortBench$Quick", "breakPatterns", "(II)V"⟩, 15), (⟨"SortBench$Quick", "goLeft", "()V"⟩, 15), (⟨"SortBench$Runs", "findRun", "(II)I"⟩, 7), (⟨"SortBench$Runs", "lengthen", "(III)I"⟩, 7), (⟨"SortBench$Runs", "insertByHalves", "(II)V"⟩, 7), (⟨"SortBench$Runs", "pileUp", "(II)V"⟩, 7), (⟨"SortBench$Runs", "mergeWhileFlat", "()V"⟩, 7), (⟨"SortBench$Runs", "isFlat", "(I)Z"⟩, 7), (⟨"SortBench$Runs", "sizeAt", "(I)I"⟩, 7)]
theorem lw_r2 : ∀ q ∈ lw_privs_2, lw_okq q := List.forall_mem_cons.mpr ⟨lw_p16, List.forall_mem_cons.mpr ⟨lw_p17, List.forall_mem_cons.mpr ⟨lw_p18, List.forall_mem_cons.mpr ⟨lw_p19, List.forall_mem_cons.mpr ⟨lw_p20, List.forall_mem_cons.mpr ⟨lw_p21, List.forall_mem_cons.mpr ⟨lw_p22, List.forall_mem_cons.mpr ⟨lw_p23, List.forall_mem_cons.mpr ⟨lw_p24, List.forall_mem_cons.mpr ⟨lw_p25, List.forall_mem_cons.mpr ⟨lw_p26, List.forall_mem_cons.mpr ⟨lw_p27, List.forall_mem_cons.mpr ⟨lw_p28, List.forall_mem_cons.mpr ⟨lw_p29, List.forall_mem_cons.mpr ⟨lw_p30, List.forall_mem_cons.mpr ⟨lw_p31, fun _ h => absurd h List.not_mem_nil⟩⟩⟩⟩⟩⟩⟩⟩⟩⟩⟩⟩⟩⟩⟩⟩
theorem lw_p32 : lw_okq (⟨"SortBench$Runs", "lesserSide", "(I)I"⟩, 7) := ⟨⟨by decide +kernel, by decide +kernel⟩, List.mem_of_getElem? (i := 139) (by decide +kernel), List.mem_of_getElem? (i := 606) (by decide +kernel), List.mem_of_getElem? (i := 607) (by decide +kernel)⟩
theorem lw_p33 : lw_okq (⟨"SortBench$Runs", "mergeAt", "(I)V"⟩, 7) := ⟨⟨by decide +kernel, by decide +kernel⟩, List.mem_of_getElem? (i := 139) (by decide +kernel), List.mem_of_getElem? (i := 610) (by decide +kernel), List.mem_of_getElem? (i := 611) (by decide +kernel)⟩
theorem lw_p34 : lw_okq (⟨"SortBench$Runs", "merge", "(III)V"⟩, 7) := ⟨⟨by decide +kernel, by decide +kernel⟩, List.mem_of_getElem? (i := 139) (by decide +kernel), List.mem_of_getElem? (i := 614) (by decide +kernel), List.mem_of_getElem? (i := 615) (by decide +kernel)⟩
theorem lw_p35 : lw_okq (⟨"SortBench$Runs", "beginAt", "(I)I"⟩, 7) := ⟨⟨by decide +kernel, by decide +kernel⟩, List.mem_of_getElem? (i := 139) (by decide +kernel), List.mem_of_getElem? (i := 618) (by decide +kernel), List.mem_of_getElem? (i := 619) (by decide +kernel)⟩
theorem lw_p36 : lw_okq (⟨"SortBench$Runs", "mergeAll", "()V"⟩, 7) := ⟨⟨by decide +kernel, by decide +kernel⟩, List.mem_of_getElem? (i := 139) (by decide +kernel), List.mem_of_getElem? (i := 622) (by decide +kernel), List.mem_of_getElem? (i := 623) (by decide +kernel)⟩
theorem lw_p37 : lw_okq (⟨"SortBench$Steps", "stepDown", "(II)V"⟩, 1) := ⟨⟨by decide +kernel, by decide +kernel⟩, List.mem_of_getElem? (i := 165) (by decide +kernel), List.mem_of_getElem? (i := 632) (by decide +kernel), List.mem_of_getElem? (i := 633) (by decide +kernel)⟩
theorem lw_p38 : lw_okq (⟨"SortBench", "stopCounting", "()I"⟩, 10) := ⟨⟨by decide +kernel, by decide +kernel⟩, List.mem_of_getElem? (i := 18) (by decide +kernel), List.mem_of_getElem? (i := 639) (by decide +kernel), List.mem_of_getElem? (i := 640) (by decide +kernel)⟩
theorem lw_p39 : lw_okq (⟨"SortBench", "follows", "(III)Z"⟩, 10) := ⟨⟨by decide +kernel, by decide +kernel⟩, List.mem_of_getElem? (i := 18) (by decide +kernel), List.mem_of_getElem? (i := 682) (by decide +kernel), List.mem_of_getElem? (i := 683) (by decide +kernel)⟩
theorem lw_p40 : lw_okq (⟨"SortBenchModel", "add", "(I)V"⟩, 26) := ⟨⟨by decide +kernel, by decide +kernel⟩, List.mem_of_getElem? (i := 706) (by decide +kernel), List.mem_of_getElem? (i := 799) (by decide +kernel), List.mem_of_getElem? (i := 800) (by decide +kernel)⟩
theorem lw_p41 : lw_okq (⟨"SortBenchModel", "isPlace", "(I)Z"⟩, 26) := ⟨⟨by decide +kernel, by decide +kernel⟩, List.mem_of_getElem? (i := 706) (by decide +kernel), List.mem_of_getElem? (i := 817) (by decide +kernel), List.mem_of_getElem? (i := 818) (by decide +kernel)⟩
theorem lw_p42 : lw_okq (⟨"SortBenchModel", "swapThings", "(II)V"⟩, 26) := ⟨⟨by decide +kernel, by decide +kernel⟩, List.mem_of_getElem? (i := 706) (by decide +kernel), List.mem_of_getElem? (i := 821) (by decide +kernel), List.mem_of_getElem? (i := 822) (by decide +kernel)⟩
theorem lw_p43 : lw_okq (⟨"SortBenchModel", "work", "(I)I"⟩, 26) := ⟨⟨by decide +kernel, by decide +kernel⟩, List.mem_of_getElem? (i := 706) (by decide +kernel), List.mem_of_getElem? (i := 837) (by decide +kernel), List.mem_of_getElem? (i := 838) (by decide +kernel)⟩
theorem lw_p44 : lw_okq (⟨"SortBenchModel", "insert", "(IIZZ)Z"⟩, 26) := ⟨⟨by decide +kernel, by decide +kernel⟩, List.mem_of_getElem? (i := 706) (by decide +kernel), List.mem_of_getElem? (i := 841) (by decide +kernel), List.mem_of_getElem? (i := 842) (by decide +kernel)⟩
theorem lw_p45 : lw_okq (⟨"SortBenchModel", "lessAt", "(II)Z"⟩, 26) := ⟨⟨by decide +kernel, by decide +kernel⟩, List.mem_of_getElem? (i := 706) (by decide +kernel), List.mem_of_getElem? (i := 845) (by decide +kernel), List.mem_of_getElem? (i := 846) (by decide +kernel)⟩
theorem lw_p46 : lw_okq (⟨"SortBenchModel", "less", "(II)Z"⟩, 26) := ⟨⟨by decide +kernel, by decide +kernel⟩, List.mem_of_getElem? (i := 706) (by decide +kernel), List.mem_of_getElem? (i := 849) (by decide +kernel), List.mem_of_getElem? (i := 850) (by decide +kernel)⟩
theorem lw_p47 : lw_okq (⟨"SortBenchModel", "key", "(I)J"⟩, 26) := ⟨⟨by decide +kernel, by decide +kernel⟩, List.mem_of_getElem? (i := 706) (by decide +kernel), List.mem_of_getElem? (i := 853) (by decide +kernel), List.mem_of_getElem? (i := 854) (by decide +kernel)⟩
def lw_privs_3 : List (MethodName × Nat) := [(⟨"SortBench$Runs", "lesserSide", "(I)I"⟩, 7), (⟨"SortBench$Runs", "mergeAt", "(I)V"⟩, 7), (⟨"SortBench$Runs", "merge", "(III)V"⟩, 7), (⟨"SortBench$Runs", "beginAt", "(I)I"⟩, 7), (⟨"SortBench$Runs", "mergeAll", "()V"⟩, 7), (⟨"SortBench$Steps", "stepDown", "(II)V"⟩, 1), (⟨"SortBench", "stopCounting", "()I"⟩, 10), (⟨"SortBench", "follows", "(III)Z"⟩, 10), (⟨"SortBenchModel", "add", "(I)V"⟩, 26), (⟨"SortBenchModel", "isPlace", "(I)Z"⟩, 26), (⟨"SortBenchModel", "swapThings", "(II)V"⟩, 26), (⟨"SortBenchModel", "work", "(I)I"⟩, 26), (⟨"SortBenchModel", "insert", "(IIZZ)Z"⟩, 26), (⟨"SortBenchModel", "lessAt", "(II)Z"⟩, 26), (⟨"SortBenchModel", "less", "(II)Z"⟩, 26), (⟨"SortBenchModel", "key", "(I)J"⟩, 26)]
theorem lw_r3 : ∀ q ∈ lw_privs_3, lw_okq q := List.forall_mem_cons.mpr ⟨lw_p32, List.forall_mem_cons.mpr ⟨lw_p33, List.forall_mem_cons.mpr ⟨lw_p34, List.forall_mem_cons.mpr ⟨lw_p35, List.forall_mem_cons.mpr ⟨lw_p36, List.forall_mem_cons.mpr ⟨lw_p37, List.forall_mem_cons.mpr ⟨lw_p38, List.forall_mem_cons.mpr ⟨lw_p39, List.forall_mem_cons.mpr ⟨lw_p40, List.forall_mem_cons.mpr ⟨lw_p41, List.forall_mem_cons.mpr ⟨lw_p42, List.forall_mem_cons.mpr ⟨lw_p43, List.forall_mem_cons.mpr ⟨lw_p44, List.forall_mem_cons.mpr ⟨lw_p45, List.forall_mem_cons.mpr ⟨lw_p46, List.forall_mem_cons.mpr ⟨lw_p47, fun _ h => absurd h List.not_mem_nil⟩⟩⟩⟩⟩⟩⟩⟩⟩⟩⟩⟩⟩⟩⟩⟩
theorem lw_p48 : lw_okq (⟨"SortBenchModel", "heap", "(II)V"⟩, 26) := ⟨⟨by decide +kernel, by decide +kernel⟩, List.mem_of_getElem? (i := 706) (by decide +kernel), List.mem_of_getElem? (i := 858) (by decide +kernel), List.mem_of_getElem? (i := 859) (by decide +kernel)⟩
theorem lw_p49 : lw_okq (⟨"SortBenchModel", "sink", "(III)V"⟩, 26) := ⟨⟨by decide +kernel, by decide +kernel⟩, List.mem_of_getElem? (i := 706) (by decide +kernel), List.mem_of_getElem? (i := 862) (by decide +kernel), List.mem_of_getElem? (i := 863) (by decide +kernel)⟩
theorem lw_p50 : lw_okq (⟨"SortBenchModel", "swap", "(II)V"⟩, 26) := ⟨⟨by decide +kernel, by decide +kernel⟩, List.mem_of_getElem? (i := 706) (by decide +kernel), List.mem_of_getElem? (i := 866) (by decide +kernel), List.mem_of_getElem? (i := 867) (by decide +kernel)⟩
theorem lw_p51 : lw_okq (⟨"SortBenchModel", "quick", "(I)V"⟩, 26) := ⟨⟨by decide +kernel, by decide +kernel⟩, List.mem_of_getElem? (i := 706) (by decide +kernel), List.mem_of_getElem? (i := 870) (by decide +kernel), List.mem_of_getElem? (i := 871) (by decide +kernel)⟩
theorem lw_p52 : lw_okq (⟨"SortBenchModel", "wait", "(III)V"⟩, 26) := ⟨⟨by decide +kernel, by decide +kernel⟩, List.mem_of_getElem? (i := 706) (by decide +kernel), List.mem_of_getElem? (i := 874) (by decide +kernel), List.mem_of_getElem? (i := 875) (by decide +kernel)⟩
theorem lw_p53 : lw_okq (⟨"SortBenchModel", "range", "(III)V"⟩, 26) := ⟨⟨by decide +kernel, by decide +kernel⟩, List.mem_of_getElem? (i := 706) (by decide +kernel), List.mem_of_getElem? (i := 878) (by decide +kernel), List.mem_of_getElem? (i := 879) (by decide +kernel)⟩
theorem lw_p54 : lw_okq (⟨"SortBenchModel", "choose", "(II)V"⟩, 26) := ⟨⟨by decide +kernel, by decide +kernel⟩, List.mem_of_getElem? (i := 706) (by decide +kernel), List.mem_of_getElem? (i := 882) (by decide +kernel), List.mem_of_getElem? (i := 883) (by decide +kernel)⟩
theorem lw_p55 : lw_okq (⟨"SortBenchModel", "three", "(III)V"⟩, 26) := ⟨⟨by decide +kernel, by decide +kernel⟩, List.mem_of_getElem? (i := 706) (by decide +kernel), List.mem_of_getElem? (i := 886) (by decide +kernel), List.mem_of_getElem? (i := 887) (by decide +kernel)⟩
theorem lw_p56 : lw_okq (⟨"SortBenchModel", "two", "(II)V"⟩, 26) := ⟨⟨by decide +kernel, by decide +kernel⟩, List.mem_of_getElem? (i := 706) (by decide +kernel), List.mem_of_getElem? (i := 890) (by decide +kernel), List.mem_of_getElem? (i := 891) (by decide +kernel)⟩
theorem lw_p57 : lw_okq (⟨"SortBenchModel", "equals", "(II)I"⟩, 26) := ⟨⟨by decide +kernel, by decide +kernel⟩, List.mem_of_getElem? (i := 706) (by decide +kernel), List.mem_of_getElem? (i := 894) (by decide +kernel), List.mem_of_getElem? (i := 895) (by decide +kernel)⟩
theorem lw_p58 : lw_okq (⟨"SortBenchModel", "part", "(II)I"⟩, 26) := ⟨⟨by decide +kernel, by decide +kernel⟩, List.mem_of_getElem? (i := 706) (by decide +kernel), List.mem_of_getElem? (i := 898) (by decide +kernel), List.mem_of_getElem? (i := 899) (by decide +kernel)⟩
theorem lw_p59 : lw_okq (⟨"SortBenchModel", "shake", "(III)V"⟩, 26) := ⟨⟨by decide +kernel, by decide +kernel⟩, List.mem_of_getElem? (i := 706) (by decide +kernel), List.mem_of_getElem? (i := 902) (by decide +kernel), List.mem_of_getElem? (i := 903) (by decide +kernel)⟩
theorem lw_p60 : lw_okq (⟨"SortBenchModel", "runs", "()V"⟩, 26) := ⟨⟨by decide +kernel, by decide +kernel⟩, List.mem_of_getElem? (i := 706) (by decide +kernel), List.mem_of_getElem? (i := 906) (by decide +kernel), List.mem_of_getElem? (i := 907) (by decide +kernel)⟩
theorem lw_p61 : lw_okq (⟨"SortBenchModel", "run", "(I)I"⟩, 26) := ⟨⟨by decide +kernel, by decide +kernel⟩, List.mem_of_getElem? (i := 706) (by decide +kernel), List.mem_of_getElem? (i := 910) (by decide +kernel), List.mem_of_getElem? (i := 911) (by decide +kernel)⟩
theorem lw_p62 : lw_okq (⟨"SortBenchModel", "turnRow", "(II)V"⟩, 26) := ⟨⟨by decide +kernel, by decide +kernel⟩, List.mem_of_getElem? (i := 706) (by decide +kernel), List.mem_of_getElem? (i := 914) (by decide +kernel), List.mem_of_getElem? (i := 915) (by decide +kernel)⟩
theorem lw_p63 : lw_okq (⟨"SortBenchModel", "byHalves", "(III)V"⟩, 26) := ⟨⟨by decide +kernel, by decide +kernel⟩, List.mem_of_getElem? (i := 706) (by decide +kernel), List.mem_of_getElem? (i := 918) (by decide +kernel), List.mem_of_getElem? (i := 919) (by decide +kernel)⟩
def lw_privs_4 : List (MethodName × Nat) := [(⟨"SortBenchModel", "heap", "(II)V"⟩, 26), (⟨"SortBenchModel", "sink", "(III)V"⟩, 26), (⟨"SortBenchModel", "swap", "(II)V"⟩, 26), (⟨"SortBenchModel", "quick", "(I)V"⟩, 26), (⟨"SortBenchModel", "wait", "(III)V"⟩, 26), (⟨"SortBenchModel", "range", "(III)V"⟩, 26), (⟨"SortBenchModel", "choose", "(II)V"⟩, 26), (⟨"SortBenchModel", "three", "(III)V"⟩, 26), (⟨"SortBenchModel", "two", "(II)V"⟩, 26), (⟨"SortBenchModel", "equals", "(II)I"⟩, 26), (⟨"SortBenchModel", "part", "(II)I"⟩, 26), (⟨"SortBenchModel", "shake", "(III)V"⟩, 26), (⟨"SortBenchModel", "runs", "()V"⟩, 26), (⟨"SortBenchModel", "run", "(I)I"⟩, 26), (⟨"SortBenchModel", "turnRow", "(II)V"⟩, 26), (⟨"SortBenchModel", "byHalves", "(III)V"⟩, 26)]
theorem lw_r4 : ∀ q ∈ lw_privs_4, lw_okq q := List.forall_mem_cons.mpr ⟨lw_p48, List.forall_mem_cons.mpr ⟨lw_p49, List.forall_mem_cons.mpr ⟨lw_p50, List.forall_mem_cons.mpr ⟨lw_p51, List.forall_mem_cons.mpr ⟨lw_p52, List.forall_mem_cons.mpr ⟨lw_p53, List.forall_mem_cons.mpr ⟨lw_p54, List.forall_mem_cons.mpr ⟨lw_p55, List.forall_mem_cons.mpr ⟨lw_p56, List.forall_mem_cons.mpr ⟨lw_p57, List.forall_mem_cons.mpr ⟨lw_p58, List.forall_mem_cons.mpr ⟨lw_p59, List.forall_mem_cons.mpr ⟨lw_p60, List.forall_mem_cons.mpr ⟨lw_p61, List.forall_mem_cons.mpr ⟨lw_p62, List.forall_mem_cons.mpr ⟨lw_p63, fun _ h => absurd h List.not_mem_nil⟩⟩⟩⟩⟩⟩⟩⟩⟩⟩⟩⟩⟩⟩⟩⟩
theorem lw_p64 : lw_okq (⟨"SortBenchModel", "settle", "()V"⟩, 26) := ⟨⟨by decide +kernel, by decide +kernel⟩, List.mem_of_getElem? (i := 706) (by decide +kernel), List.mem_of_getElem? (i := 922) (by decide +kernel), List.mem_of_getElem? (i := 923) (by decide +kernel)⟩
theorem lw_p65 : lw_okq (⟨"SortBenchModel", "width", "(I)I"⟩, 26) := ⟨⟨by decide +kernel, by decide +kernel⟩, List.mem_of_getElem? (i := 706) (by decide +kernel), List.mem_of_getElem? (i := 926) (by decide +kernel), List.mem_of_getElem? (i := 927) (by decide +kernel)⟩
theorem lw_p66 : lw_okq (⟨"SortBenchModel", "merge", "(I)V"⟩, 26) := ⟨⟨by decide +kernel, by decide +kernel⟩, List.mem_of_getElem? (i := 706) (by decide +kernel), List.mem_of_getElem? (i := 930) (by decide +kernel), List.mem_of_getElem? (i := 931) (by decide +kernel)⟩
theorem lw_p67 : lw_okq (⟨"SortBenchModel", "steps", "()V"⟩, 26) := ⟨⟨by decide +kernel, by decide +kernel⟩, List.mem_of_getElem? (i := 706) (by decide +kernel), List.mem_of_getElem? (i := 934) (by decide +kernel), List.mem_of_getElem? (i := 935) (by decide +kernel)⟩
def lw_privs_5 : List (MethodName × Nat) := [(⟨"SortBenchModel", "settle", "()V"⟩, 26), (⟨"SortBenchModel", "width", "(I)I"⟩, 26), (⟨"SortBenchModel", "merge", "(I)V"⟩, 26), (⟨"SortBenchModel", "steps", "()V"⟩, 26)]
theorem lw_r5 : ∀ q ∈ lw_privs_5, lw_okq q := List.forall_mem_cons.mpr ⟨lw_p64, List.forall_mem_cons.mpr ⟨lw_p65, List.forall_mem_cons.mpr ⟨lw_p66, List.forall_mem_cons.mpr ⟨lw_p67, fun _ h => absurd h List.not_mem_nil⟩⟩⟩⟩
def lw_privs : List (MethodName × Nat) := lw_privs_1 ++ (lw_privs_2 ++ (lw_privs_3 ++ (lw_privs_4 ++ (lw_privs_5))))
def lw_tbl : List Cond := k2_sels lw_privs ++ tables_1
theorem lw_privs_ok : ∀ q ∈ lw_privs, lw_okq q := by
  show ∀ q ∈ lw_privs_1 ++ (lw_privs_2 ++ (lw_privs_3 ++ (lw_privs_4 ++ (lw_privs_5)))), lw_okq q
  exact List.forall_mem_append.mpr ⟨lw_r1, List.forall_mem_append.mpr ⟨lw_r2, List.forall_mem_append.mpr ⟨lw_r3, List.forall_mem_append.mpr ⟨lw_r4, lw_r5⟩⟩⟩⟩
end
section
/-! ===== BEGIN printed: names, fields, word lists, decode rows ===== -/
def RX0 : String := "SortBench$Heap"
def TX0 : u_T := fun k => match k with
  | _ => ("SortBench$Way", "row", "LSortBench$Row;", true)
def tyX0 : Nat → FieldType := fun k => match k with
  | _ => .object "SortBench$Row"
abbrev wsX00 : List Cond := u_ws RX0 TX0 1
theorem nmX0 : ∀ a, a < 1 → ∀ b, b < 1 → a ≠ b → (TX0 a).2.1 ≠ (TX0 b).2.1 := by decide +kernel
theorem tyX0_ok : ∀ k, k < 1 → parseFieldDescriptor (TX0 k).2.2.1 = some (tyX0 k) := by decide +kernel
abbrev cX0_init : ByteArray := prog_2_method_1_code
def yX0_init : MethodName := ⟨RX0, "<init>", "(LSortBench$Row;)V"⟩
abbrev cX0_arrange : ByteArray := prog_2_method_2_code
def yX0_arrange : MethodName := ⟨RX0, "arrange", "()V"⟩
abbrev cX0_arrangeRange : ByteArray := prog_2_method_3_code
def yX0_arrangeRange : MethodName := ⟨RX0, "arrangeRange", "(II)V"⟩
abbrev cX0_sink : ByteArray := prog_2_method_4_code
def yX0_sink : MethodName := ⟨RX0, "sink", "(III)V"⟩
def RX1 : String := "SortBench$Inserting"
def TX1 : u_T := fun k => match k with
  | _ => ("SortBench$Way", "row", "LSortBench$Row;", true)
def tyX1 : Nat → FieldType := fun k => match k with
  | _ => .object "SortBench$Row"
abbrev wsX10 : List Cond := u_ws RX1 TX1 1
theorem nmX1 : ∀ a, a < 1 → ∀ b, b < 1 → a ≠ b → (TX1 a).2.1 ≠ (TX1 b).2.1 := by decide +kernel
theorem tyX1_ok : ∀ k, k < 1 → parseFieldDescriptor (TX1 k).2.2.1 = some (tyX1 k) := by decide +kernel
abbrev cX1_init : ByteArray := prog_3_method_1_code
def yX1_init : MethodName := ⟨RX1, "<init>", "(LSortBench$Row;)V"⟩
abbrev cX1_arrange : ByteArray := prog_3_method_2_code
def yX1_arrange : MethodName := ⟨RX1, "arrange", "()V"⟩
abbrev cX1_guarded : ByteArray := prog_3_method_3_code
def yX1_guarded : MethodName := ⟨RX1, "guarded", "(II)V"⟩
abbrev cX1_unguarded : ByteArray := prog_3_method_4_code
def yX1_unguarded : MethodName := ⟨RX1, "unguarded", "(II)V"⟩
abbrev cX1_partly : ByteArray := prog_3_method_5_code
def yX1_partly : MethodName := ⟨RX1, "partly", "(II)Z"⟩
abbrev cX1_insert : ByteArray := prog_3_method_6_code
def yX1_insert : MethodName := ⟨RX1, "insert", "(II)I"⟩
def RX2 : String := "SortBench$Quick"
def TX2 : u_T := fun k => match k with
  | 0 => ("SortBench$Way", "row", "LSortBench$Row;", true)
  | 1 => ("SortBench$Quick", "inserting", "LSortBench$Inserting;", true)
  | 2 => ("SortBench$Quick", "heap", "LSortBench$Heap;", true)
  | 3 => ("SortBench$Quick", "waitingFrom", "[I", true)
  | 4 => ("SortBench$Quick", "waitingTo", "[I", true)
  | 5 => ("SortBench$Quick", "waitingBudget", "[I", true)
  | 6 => ("SortBench$Quick", "waiting", "I", false)
  | 7 => ("SortBench$Quick", "from", "I", false)
  | 8 => ("SortBench$Quick", "to", "I", false)
  | 9 => ("SortBench$Quick", "budget", "I", false)
  | 10 => ("SortBench$Quick", "first", "Z", false)
  | 11 => ("SortBench$Quick", "middle", "I", false)
  | 12 => ("SortBench$Quick", "wasParted", "Z", false)
  | 13 => ("SortBench$Quick", "falls", "J", false)
  | _ => ("SortBench$Quick", "parted", "J", false)
def tyX2 : Nat → FieldType := fun k => match k with
  | 0 => .object "SortBench$Row"
  | 1 => .object "SortBench$Inserting"
  | 2 => .object "SortBench$Heap"
  | 3 => .array .int
  | 4 => .array .int
  | 5 => .array .int
  | 6 => .int
  | 7 => .int
  | 8 => .int
  | 9 => .int
  | 10 => .boolean
  | 11 => .int
  | 12 => .boolean
  | 13 => .long
  | _ => .long
abbrev wsX20 : List Cond := u_ws RX2 TX2 15
theorem nmX2 : ∀ a, a < 15 → ∀ b, b < 15 → a ≠ b → (TX2 a).2.1 ≠ (TX2 b).2.1 := by decide +kernel
theorem tyX2_ok : ∀ k, k < 15 → parseFieldDescriptor (TX2 k).2.2.1 = some (tyX2 k) := by decide +kernel
abbrev cX2_init : ByteArray := prog_4_method_1_code
def yX2_init : MethodName := ⟨RX2, "<init>", "(LSortBench$Row;LSortBench$Inserting;LSortBench$Heap;)V"⟩
abbrev cX2_falls : ByteArray := prog_4_method_2_code
def yX2_falls : MethodName := ⟨RX2, "falls", "()J"⟩
abbrev cX2_parted : ByteArray := prog_4_method_3_code
def yX2_parted : MethodName := ⟨RX2, "parted", "()J"⟩
abbrev cX2_arrange : ByteArray := prog_4_method_4_code
def yX2_arrange : MethodName := ⟨RX2, "arrange", "()V"⟩
abbrev cX2_takeWhole : ByteArray := prog_4_method_5_code
def yX2_takeWhole : MethodName := ⟨RX2, "takeWhole", "()V"⟩
abbrev cX2_takeWaiting : ByteArray := prog_4_method_6_code
def yX2_takeWaiting : MethodName := ⟨RX2, "takeWaiting", "()Z"⟩
abbrev cX2_goLeft : ByteArray := prog_4_method_7_code
def yX2_goLeft : MethodName := ⟨RX2, "goLeft", "()V"⟩
abbrev cX2_finishSmall : ByteArray := prog_4_method_8_code
def yX2_finishSmall : MethodName := ⟨RX2, "finishSmall", "()V"⟩
abbrev cX2_choosePivot : ByteArray := prog_4_method_9_code
def yX2_choosePivot : MethodName := ⟨RX2, "choosePivot", "(IZ)V"⟩
abbrev cX2_three : ByteArray := prog_4_method_10_code
def yX2_three : MethodName := ⟨RX2, "three", "(III)V"⟩
abbrev cX2_two : ByteArray := prog_4_method_11_code
def yX2_two : MethodName := ⟨RX2, "two", "(II)V"⟩
abbrev cX2_moveEqualLeft : ByteArray := prog_4_method_12_code
def yX2_moveEqualLeft : MethodName := ⟨RX2, "moveEqualLeft", "()I"⟩
abbrev cX2_part : ByteArray := prog_4_method_13_code
def yX2_part : MethodName := ⟨RX2, "part", "()V"⟩
abbrev cX2_upWhileLess : ByteArray := prog_4_method_14_code
def yX2_upWhileLess : MethodName := ⟨RX2, "upWhileLess", "(II)I"⟩
abbrev cX2_upTillGreater : ByteArray := prog_4_method_15_code
def yX2_upTillGreater : MethodName := ⟨RX2, "upTillGreater", "(II)I"⟩
abbrev cX2_downWhileGreater : ByteArray := prog_4_method_16_code
def yX2_downWhileGreater : MethodName := ⟨RX2, "downWhileGreater", "(II)I"⟩
abbrev cX2_downTillLess : ByteArray := prog_4_method_17_code
def yX2_downTillLess : MethodName := ⟨RX2, "downTillLess", "(II)I"⟩
abbrev cX2_isDoneWhenParted : ByteArray := prog_4_method_18_code
def yX2_isDoneWhenParted : MethodName := ⟨RX2, "isDoneWhenParted", "(I)Z"⟩
abbrev cX2_breakPatterns : ByteArray := prog_4_method_19_code
def yX2_breakPatterns : MethodName := ⟨RX2, "breakPatterns", "(II)V"⟩
def RX3 : String := "SortBench$Row"
def TX3 : u_T := fun k => match k with
  | 0 => ("SortBench$Row", "numbers", "[I", true)
  | 1 => ("SortBench$Row", "things", "[I", true)
  | 2 => ("SortBench$Row", "size", "I", false)
  | 3 => ("SortBench$Row", "ordering", "I", false)
  | 4 => ("SortBench$Row", "asked", "J", false)
  | 5 => ("SortBench$Row", "adversary", "Z", false)
  | 6 => ("SortBench$Row", "candidate", "I", false)
  | _ => ("SortBench$Row", "settled", "I", false)
def tyX3 : Nat → FieldType := fun k => match k with
  | 0 => .array .int
  | 1 => .array .int
  | 2 => .int
  | 3 => .int
  | 4 => .long
  | 5 => .boolean
  | 6 => .int
  | _ => .int
abbrev wsX30 : List Cond := u_ws RX3 TX3 8
theorem nmX3 : ∀ a, a < 8 → ∀ b, b < 8 → a ≠ b → (TX3 a).2.1 ≠ (TX3 b).2.1 := by decide +kernel
theorem tyX3_ok : ∀ k, k < 8 → parseFieldDescriptor (TX3 k).2.2.1 = some (tyX3 k) := by decide +kernel
abbrev cX3_init : ByteArray := prog_5_method_1_code
def yX3_init : MethodName := ⟨RX3, "<init>", "()V"⟩
abbrev cX3_size : ByteArray := prog_5_method_2_code
def yX3_size : MethodName := ⟨RX3, "size", "()I"⟩
abbrev cX3_ordering : ByteArray := prog_5_method_3_code
def yX3_ordering : MethodName := ⟨RX3, "ordering", "()I"⟩
abbrev cX3_setOrdering : ByteArray := prog_5_method_4_code
def yX3_setOrdering : MethodName := ⟨RX3, "setOrdering", "(I)V"⟩
abbrev cX3_asked : ByteArray := prog_5_method_5_code
def yX3_asked : MethodName := ⟨RX3, "asked", "()J"⟩
abbrev cX3_empty : ByteArray := prog_5_method_6_code
def yX3_empty : MethodName := ⟨RX3, "empty", "()V"⟩
abbrev cX3_append : ByteArray := prog_5_method_7_code
def yX3_append : MethodName := ⟨RX3, "append", "(I)V"⟩
abbrev cX3_at : ByteArray := prog_5_method_8_code
def yX3_at : MethodName := ⟨RX3, "at", "(I)I"⟩
abbrev cX3_set : ByteArray := prog_5_method_9_code
def yX3_set : MethodName := ⟨RX3, "set", "(II)V"⟩
abbrev cX3_numberOf : ByteArray := prog_5_method_10_code
def yX3_numberOf : MethodName := ⟨RX3, "numberOf", "(I)I"⟩
abbrev cX3_swap : ByteArray := prog_5_method_11_code
def yX3_swap : MethodName := ⟨RX3, "swap", "(II)V"⟩
abbrev cX3_reverse : ByteArray := prog_5_method_12_code
def yX3_reverse : MethodName := ⟨RX3, "reverse", "(II)V"⟩
abbrev cX3_keyFor : ByteArray := prog_5_method_13_code
def yX3_keyFor : MethodName := ⟨RX3, "keyFor", "(J)J"⟩
abbrev cX3_less : ByteArray := prog_5_method_14_code
def yX3_less : MethodName := ⟨RX3, "less", "(II)Z"⟩
abbrev cX3_beginAdversary : ByteArray := prog_5_method_15_code
def yX3_beginAdversary : MethodName := ⟨RX3, "beginAdversary", "(I)V"⟩
abbrev cX3_endAdversary : ByteArray := prog_5_method_16_code
def yX3_endAdversary : MethodName := ⟨RX3, "endAdversary", "()V"⟩
abbrev cX3_settle : ByteArray := prog_5_method_17_code
def yX3_settle : MethodName := ⟨RX3, "settle", "(II)V"⟩
def RX4 : String := "SortBench$Runs"
def TX4 : u_T := fun k => match k with
  | 0 => ("SortBench$Way", "row", "LSortBench$Row;", true)
  | 1 => ("SortBench$Runs", "begins", "[I", true)
  | 2 => ("SortBench$Runs", "sizes", "[I", true)
  | 3 => ("SortBench$Runs", "spare", "[I", true)
  | 4 => ("SortBench$Runs", "height", "I", false)
  | 5 => ("SortBench$Runs", "piled", "J", false)
  | _ => ("SortBench$Runs", "merged", "J", false)
def tyX4 : Nat → FieldType := fun k => match k with
  | 0 => .object "SortBench$Row"
  | 1 => .array .int
  | 2 => .array .int
  | 3 => .array .int
  | 4 => .int
  | 5 => .long
  | _ => .long
abbrev wsX40 : List Cond := u_ws RX4 TX4 7
theorem nmX4 : ∀ a, a < 7 → ∀ b, b < 7 → a ≠ b → (TX4 a).2.1 ≠ (TX4 b).2.1 := by decide +kernel
theorem tyX4_ok : ∀ k, k < 7 → parseFieldDescriptor (TX4 k).2.2.1 = some (tyX4 k) := by decide +kernel
abbrev cX4_init : ByteArray := prog_6_method_1_code
def yX4_init : MethodName := ⟨RX4, "<init>", "(LSortBench$Row;)V"⟩
abbrev cX4_piled : ByteArray := prog_6_method_2_code
def yX4_piled : MethodName := ⟨RX4, "piled", "()J"⟩
abbrev cX4_merged : ByteArray := prog_6_method_3_code
def yX4_merged : MethodName := ⟨RX4, "merged", "()J"⟩
abbrev cX4_arrange : ByteArray := prog_6_method_4_code
def yX4_arrange : MethodName := ⟨RX4, "arrange", "()V"⟩
abbrev cX4_findRun : ByteArray := prog_6_method_5_code
def yX4_findRun : MethodName := ⟨RX4, "findRun", "(II)I"⟩
abbrev cX4_lengthen : ByteArray := prog_6_method_6_code
def yX4_lengthen : MethodName := ⟨RX4, "lengthen", "(III)I"⟩
abbrev cX4_insertByHalves : ByteArray := prog_6_method_7_code
def yX4_insertByHalves : MethodName := ⟨RX4, "insertByHalves", "(II)V"⟩
abbrev cX4_pileUp : ByteArray := prog_6_method_8_code
def yX4_pileUp : MethodName := ⟨RX4, "pileUp", "(II)V"⟩
abbrev cX4_sizeAt : ByteArray := prog_6_method_9_code
def yX4_sizeAt : MethodName := ⟨RX4, "sizeAt", "(I)I"⟩
abbrev cX4_beginAt : ByteArray := prog_6_method_10_code
def yX4_beginAt : MethodName := ⟨RX4, "beginAt", "(I)I"⟩
abbrev cX4_mergeWhileFlat : ByteArray := prog_6_method_11_code
def yX4_mergeWhileFlat : MethodName := ⟨RX4, "mergeWhileFlat", "()V"⟩
abbrev cX4_mergeAll : ByteArray := prog_6_method_12_code
def yX4_mergeAll : MethodName := ⟨RX4, "mergeAll", "()V"⟩
abbrev cX4_isFlat : ByteArray := prog_6_method_13_code
def yX4_isFlat : MethodName := ⟨RX4, "isFlat", "(I)Z"⟩
abbrev cX4_lesserSide : ByteArray := prog_6_method_14_code
def yX4_lesserSide : MethodName := ⟨RX4, "lesserSide", "(I)I"⟩
abbrev cX4_mergeAt : ByteArray := prog_6_method_15_code
def yX4_mergeAt : MethodName := ⟨RX4, "mergeAt", "(I)V"⟩
abbrev cX4_merge : ByteArray := prog_6_method_16_code
def yX4_merge : MethodName := ⟨RX4, "merge", "(III)V"⟩
def RX5 : String := "SortBench$Steps"
def TX5 : u_T := fun k => match k with
  | _ => ("SortBench$Way", "row", "LSortBench$Row;", true)
def tyX5 : Nat → FieldType := fun k => match k with
  | _ => .object "SortBench$Row"
abbrev wsX50 : List Cond := u_ws RX5 TX5 1
theorem nmX5 : ∀ a, a < 1 → ∀ b, b < 1 → a ≠ b → (TX5 a).2.1 ≠ (TX5 b).2.1 := by decide +kernel
theorem tyX5_ok : ∀ k, k < 1 → parseFieldDescriptor (TX5 k).2.2.1 = some (tyX5 k) := by decide +kernel
abbrev cX5_init : ByteArray := prog_7_method_1_code
def yX5_init : MethodName := ⟨RX5, "<init>", "(LSortBench$Row;)V"⟩
abbrev cX5_arrange : ByteArray := prog_7_method_2_code
def yX5_arrange : MethodName := ⟨RX5, "arrange", "()V"⟩
abbrev cX5_stepDown : ByteArray := prog_7_method_3_code
def yX5_stepDown : MethodName := ⟨RX5, "stepDown", "(II)V"⟩
def RX6 : String := "SortBench$Way"
def TX6 : u_T := fun k => match k with
  | _ => ("", "", "", false)
def tyX6 : Nat → FieldType := fun k => match k with
  | _ => .int
abbrev wsX60 : List Cond := u_ws RX6 TX6 0
theorem nmX6 : ∀ a, a < 0 → ∀ b, b < 0 → a ≠ b → (TX6 a).2.1 ≠ (TX6 b).2.1 := by decide +kernel
theorem tyX6_ok : ∀ k, k < 0 → parseFieldDescriptor (TX6 k).2.2.1 = some (tyX6 k) := by decide +kernel
abbrev cX6_init : ByteArray := prog_8_method_1_code
def yX6_init : MethodName := ⟨RX6, "<init>", "(LSortBench$Row;)V"⟩
def RX7 : String := "SortBench"
def TX7 : u_T := fun k => match k with
  | 0 => ("SortBench", "row", "LSortBench$Row;", true)
  | 1 => ("SortBench", "inserting", "LSortBench$Inserting;", true)
  | 2 => ("SortBench", "heap", "LSortBench$Heap;", true)
  | 3 => ("SortBench", "quick", "LSortBench$Quick;", true)
  | 4 => ("SortBench", "runs", "LSortBench$Runs;", true)
  | 5 => ("SortBench", "steps", "LSortBench$Steps;", true)
  | 6 => ("SortBench", "askedBefore", "J", false)
  | 7 => ("SortBench", "fallsBefore", "J", false)
  | 8 => ("SortBench", "latestAsked", "J", false)
  | _ => ("SortBench", "latestFalls", "J", false)
def tyX7 : Nat → FieldType := fun k => match k with
  | 0 => .object "SortBench$Row"
  | 1 => .object "SortBench$Inserting"
  | 2 => .object "SortBench$Heap"
  | 3 => .object "SortBench$Quick"
  | 4 => .object "SortBench$Runs"
  | 5 => .object "SortBench$Steps"
  | 6 => .long
  | 7 => .long
  | 8 => .long
  | _ => .long
abbrev wsX70 : List Cond := u_ws RX7 TX7 10
theorem nmX7 : ∀ a, a < 10 → ∀ b, b < 10 → a ≠ b → (TX7 a).2.1 ≠ (TX7 b).2.1 := by decide +kernel
theorem tyX7_ok : ∀ k, k < 10 → parseFieldDescriptor (TX7 k).2.2.1 = some (tyX7 k) := by decide +kernel
abbrev cX7_init : ByteArray := prog_1_method_1_code
def yX7_init : MethodName := ⟨RX7, "<init>", "()V"⟩
abbrev cX7_put : ByteArray := prog_1_method_2_code
def yX7_put : MethodName := ⟨RX7, "put", "(I)I"⟩
abbrev cX7_more : ByteArray := prog_1_method_3_code
def yX7_more : MethodName := ⟨RX7, "more", "(JII)I"⟩
abbrev cX7_line : ByteArray := prog_1_method_4_code
def yX7_line : MethodName := ⟨RX7, "line", "(IIII)I"⟩
abbrev cX7_exchange : ByteArray := prog_1_method_5_code
def yX7_exchange : MethodName := ⟨RX7, "exchange", "(II)V"⟩
abbrev cX7_turn : ByteArray := prog_1_method_6_code
def yX7_turn : MethodName := ⟨RX7, "turn", "(II)V"⟩
abbrev cX7_order : ByteArray := prog_1_method_7_code
def yX7_order : MethodName := ⟨RX7, "order", "(I)I"⟩
abbrev cX7_sort : ByteArray := prog_1_method_8_code
def yX7_sort : MethodName := ⟨RX7, "sort", "(I)I"⟩
abbrev cX7_kill : ByteArray := prog_1_method_9_code
def yX7_kill : MethodName := ⟨RX7, "kill", "(II)I"⟩
abbrev cX7_get : ByteArray := prog_1_method_10_code
def yX7_get : MethodName := ⟨RX7, "get", "(I)I"⟩
abbrev cX7_tag : ByteArray := prog_1_method_11_code
def yX7_tag : MethodName := ⟨RX7, "tag", "(I)I"⟩
abbrev cX7_is : ByteArray := prog_1_method_12_code
def yX7_is : MethodName := ⟨RX7, "is", "(I)Z"⟩
abbrev cX7_count : ByteArray := prog_1_method_13_code
def yX7_count : MethodName := ⟨RX7, "count", "(I)J"⟩
abbrev cX7_clear : ByteArray := prog_1_method_14_code
def yX7_clear : MethodName := ⟨RX7, "clear", "()I"⟩
abbrev cX7_checkPlace : ByteArray := prog_1_method_15_code
def yX7_checkPlace : MethodName := ⟨RX7, "checkPlace", "(I)V"⟩
abbrev cX7_checkChoice : ByteArray := prog_1_method_16_code
def yX7_checkChoice : MethodName := ⟨RX7, "checkChoice", "(II)V"⟩
abbrev cX7_checkAmount : ByteArray := prog_1_method_17_code
def yX7_checkAmount : MethodName := ⟨RX7, "checkAmount", "(I)V"⟩
abbrev cX7_checkRoom : ByteArray := prog_1_method_18_code
def yX7_checkRoom : MethodName := ⟨RX7, "checkRoom", "(I)V"⟩
abbrev cX7_wayOf : ByteArray := prog_1_method_19_code
def yX7_wayOf : MethodName := ⟨RX7, "wayOf", "(I)LSortBench$Way;"⟩
abbrev cX7_startCounting : ByteArray := prog_1_method_20_code
def yX7_startCounting : MethodName := ⟨RX7, "startCounting", "()V"⟩
abbrev cX7_stopCounting : ByteArray := prog_1_method_21_code
def yX7_stopCounting : MethodName := ⟨RX7, "stopCounting", "()I"⟩
abbrev cX7_follows : ByteArray := prog_1_method_22_code
def yX7_follows : MethodName := ⟨RX7, "follows", "(III)Z"⟩
def RX8 : String := "SortBenchModel"
def TX8 : u_T := fun k => match k with
  | 0 => ("SortBenchModel", "thrown", "I", false)
  | 1 => ("SortBenchModel", "size", "I", false)
  | 2 => ("SortBenchModel", "numbers", "[I", true)
  | 3 => ("SortBenchModel", "tags", "[I", true)
  | 4 => ("SortBenchModel", "settled", "[I", true)
  | 5 => ("SortBenchModel", "adverse", "Z", false)
  | 6 => ("SortBenchModel", "candidate", "I", false)
  | 7 => ("SortBenchModel", "next", "I", false)
  | 8 => ("SortBenchModel", "order", "I", false)
  | 9 => ("SortBenchModel", "row", "[I", true)
  | 10 => ("SortBenchModel", "other", "[I", true)
  | 11 => ("SortBenchModel", "compared", "J", false)
  | 12 => ("SortBenchModel", "latest", "J", false)
  | 13 => ("SortBenchModel", "falls", "J", false)
  | 14 => ("SortBenchModel", "fallsNow", "J", false)
  | 15 => ("SortBenchModel", "parted", "J", false)
  | 16 => ("SortBenchModel", "piled", "J", false)
  | 17 => ("SortBenchModel", "merged", "J", false)
  | 18 => ("SortBenchModel", "begins", "[I", true)
  | 19 => ("SortBenchModel", "ends", "[I", true)
  | 20 => ("SortBenchModel", "pile", "I", false)
  | 21 => ("SortBenchModel", "waitFrom", "[I", true)
  | 22 => ("SortBenchModel", "waitTo", "[I", true)
  | 23 => ("SortBenchModel", "waitBudget", "[I", true)
  | 24 => ("SortBenchModel", "waiting", "I", false)
  | _ => ("SortBenchModel", "wasParted", "Z", false)
def tyX8 : Nat → FieldType := fun k => match k with
  | 0 => .int
  | 1 => .int
  | 2 => .array .int
  | 3 => .array .int
  | 4 => .array .int
  | 5 => .boolean
  | 6 => .int
  | 7 => .int
  | 8 => .int
  | 9 => .array .int
  | 10 => .array .int
  | 11 => .long
  | 12 => .long
  | 13 => .long
  | 14 => .long
  | 15 => .long
  | 16 => .long
  | 17 => .long
  | 18 => .array .int
  | 19 => .array .int
  | 20 => .int
  | 21 => .array .int
  | 22 => .array .int
  | 23 => .array .int
  | 24 => .int
  | _ => .boolean
abbrev wsX80 : List Cond := u_ws RX8 TX8 26
theorem nmX8 : ∀ a, a < 26 → ∀ b, b < 26 → a ≠ b → (TX8 a).2.1 ≠ (TX8 b).2.1 := by decide +kernel
theorem tyX8_ok : ∀ k, k < 26 → parseFieldDescriptor (TX8 k).2.2.1 = some (tyX8 k) := by decide +kernel
abbrev cX8_init : ByteArray := prog_10_method_1_code
def yX8_init : MethodName := ⟨RX8, "<init>", "()V"⟩
abbrev cX8_thrown : ByteArray := prog_10_method_2_code
def yX8_thrown : MethodName := ⟨RX8, "thrown", "()I"⟩
abbrev cX8_put : ByteArray := prog_10_method_3_code
def yX8_put : MethodName := ⟨RX8, "put", "(I)I"⟩
abbrev cX8_add : ByteArray := prog_10_method_4_code
def yX8_add : MethodName := ⟨RX8, "add", "(I)V"⟩
abbrev cX8_more : ByteArray := prog_10_method_5_code
def yX8_more : MethodName := ⟨RX8, "more", "(JII)I"⟩
abbrev cX8_line : ByteArray := prog_10_method_6_code
def yX8_line : MethodName := ⟨RX8, "line", "(IIII)I"⟩
abbrev cX8_isPlace : ByteArray := prog_10_method_7_code
def yX8_isPlace : MethodName := ⟨RX8, "isPlace", "(I)Z"⟩
abbrev cX8_swapThings : ByteArray := prog_10_method_8_code
def yX8_swapThings : MethodName := ⟨RX8, "swapThings", "(II)V"⟩
abbrev cX8_exchange : ByteArray := prog_10_method_9_code
def yX8_exchange : MethodName := ⟨RX8, "exchange", "(II)V"⟩
abbrev cX8_turn : ByteArray := prog_10_method_10_code
def yX8_turn : MethodName := ⟨RX8, "turn", "(II)V"⟩
abbrev cX8_order : ByteArray := prog_10_method_11_code
def yX8_order : MethodName := ⟨RX8, "order", "(I)I"⟩
abbrev cX8_key : ByteArray := prog_10_method_12_code
def yX8_key : MethodName := ⟨RX8, "key", "(I)J"⟩
abbrev cX8_less : ByteArray := prog_10_method_13_code
def yX8_less : MethodName := ⟨RX8, "less", "(II)Z"⟩
abbrev cX8_lessAt : ByteArray := prog_10_method_14_code
def yX8_lessAt : MethodName := ⟨RX8, "lessAt", "(II)Z"⟩
abbrev cX8_swap : ByteArray := prog_10_method_15_code
def yX8_swap : MethodName := ⟨RX8, "swap", "(II)V"⟩
abbrev cX8_insert : ByteArray := prog_10_method_16_code
def yX8_insert : MethodName := ⟨RX8, "insert", "(IIZZ)Z"⟩
abbrev cX8_sink : ByteArray := prog_10_method_17_code
def yX8_sink : MethodName := ⟨RX8, "sink", "(III)V"⟩
abbrev cX8_heap : ByteArray := prog_10_method_18_code
def yX8_heap : MethodName := ⟨RX8, "heap", "(II)V"⟩
abbrev cX8_two : ByteArray := prog_10_method_19_code
def yX8_two : MethodName := ⟨RX8, "two", "(II)V"⟩
abbrev cX8_three : ByteArray := prog_10_method_20_code
def yX8_three : MethodName := ⟨RX8, "three", "(III)V"⟩
abbrev cX8_equals : ByteArray := prog_10_method_21_code
def yX8_equals : MethodName := ⟨RX8, "equals", "(II)I"⟩
abbrev cX8_part : ByteArray := prog_10_method_22_code
def yX8_part : MethodName := ⟨RX8, "part", "(II)I"⟩
abbrev cX8_shake : ByteArray := prog_10_method_23_code
def yX8_shake : MethodName := ⟨RX8, "shake", "(III)V"⟩
abbrev cX8_choose : ByteArray := prog_10_method_24_code
def yX8_choose : MethodName := ⟨RX8, "choose", "(II)V"⟩
abbrev cX8_quick : ByteArray := prog_10_method_25_code
def yX8_quick : MethodName := ⟨RX8, "quick", "(I)V"⟩
abbrev cX8_wait : ByteArray := prog_10_method_26_code
def yX8_wait : MethodName := ⟨RX8, "wait", "(III)V"⟩
abbrev cX8_range : ByteArray := prog_10_method_27_code
def yX8_range : MethodName := ⟨RX8, "range", "(III)V"⟩
abbrev cX8_turnRow : ByteArray := prog_10_method_28_code
def yX8_turnRow : MethodName := ⟨RX8, "turnRow", "(II)V"⟩
abbrev cX8_run : ByteArray := prog_10_method_29_code
def yX8_run : MethodName := ⟨RX8, "run", "(I)I"⟩
abbrev cX8_byHalves : ByteArray := prog_10_method_30_code
def yX8_byHalves : MethodName := ⟨RX8, "byHalves", "(III)V"⟩
abbrev cX8_merge : ByteArray := prog_10_method_31_code
def yX8_merge : MethodName := ⟨RX8, "merge", "(I)V"⟩
abbrev cX8_width : ByteArray := prog_10_method_32_code
def yX8_width : MethodName := ⟨RX8, "width", "(I)I"⟩
abbrev cX8_settle : ByteArray := prog_10_method_33_code
def yX8_settle : MethodName := ⟨RX8, "settle", "()V"⟩
abbrev cX8_runs : ByteArray := prog_10_method_34_code
def yX8_runs : MethodName := ⟨RX8, "runs", "()V"⟩
abbrev cX8_gap : ByteArray := prog_10_method_35_code
def yX8_gap : MethodName := ⟨RX8, "gap", "(I)I"⟩
abbrev cX8_steps : ByteArray := prog_10_method_36_code
def yX8_steps : MethodName := ⟨RX8, "steps", "()V"⟩
abbrev cX8_work : ByteArray := prog_10_method_37_code
def yX8_work : MethodName := ⟨RX8, "work", "(I)I"⟩
abbrev cX8_sort : ByteArray := prog_10_method_38_code
def yX8_sort : MethodName := ⟨RX8, "sort", "(I)I"⟩
abbrev cX8_kill : ByteArray := prog_10_method_39_code
def yX8_kill : MethodName := ⟨RX8, "kill", "(II)I"⟩
abbrev cX8_get : ByteArray := prog_10_method_40_code
def yX8_get : MethodName := ⟨RX8, "get", "(I)I"⟩
abbrev cX8_tag : ByteArray := prog_10_method_41_code
def yX8_tag : MethodName := ⟨RX8, "tag", "(I)I"⟩
abbrev cX8_is : ByteArray := prog_10_method_42_code
def yX8_is : MethodName := ⟨RX8, "is", "(I)Z"⟩
abbrev cX8_count : ByteArray := prog_10_method_43_code
def yX8_count : MethodName := ⟨RX8, "count", "(I)J"⟩
abbrev cX8_clear : ByteArray := prog_10_method_44_code
def yX8_clear : MethodName := ⟨RX8, "clear", "()I"⟩
def RJ9 : String := "java/lang/Math"
def TJ9 : u_T := fun k => match k with
  | _ => ("", "", "", false)
def tyJ9 : Nat → FieldType := fun k => match k with
  | _ => .int
abbrev wsJ90 : List Cond := u_ws RJ9 TJ9 0
theorem nmJ9 : ∀ a, a < 0 → ∀ b, b < 0 → a ≠ b → (TJ9 a).2.1 ≠ (TJ9 b).2.1 := by decide +kernel
theorem tyJ9_ok : ∀ k, k < 0 → parseFieldDescriptor (TJ9 k).2.2.1 = some (tyJ9 k) := by decide +kernel
abbrev cJ9_max_7cf53 : ByteArray := prog_14_method_65_code
def yJ9_max_7cf53 : MethodName := ⟨RJ9, "max", "(II)I"⟩
abbrev cJ9_min_7cf53 : ByteArray := prog_14_method_69_code
def yJ9_min_7cf53 : MethodName := ⟨RJ9, "min", "(II)I"⟩
def RJ0 : String := "java/lang/String"
def TJ0 : u_T := fun k => match k with
  | _ => ("", "", "", false)
def tyJ0 : Nat → FieldType := fun k => match k with
  | _ => .int
abbrev wsJ00 : List Cond := u_ws RJ0 TJ0 0
theorem nmJ0 : ∀ a, a < 0 → ∀ b, b < 0 → a ≠ b → (TJ0 a).2.1 ≠ (TJ0 b).2.1 := by decide +kernel
theorem tyJ0_ok : ∀ k, k < 0 → parseFieldDescriptor (TJ0 k).2.2.1 = some (tyJ0 k) := by decide +kernel
def RL : String := "SortBenchLaw"
abbrev cL_put : ByteArray := method_3_code
def yL_put : MethodName := ⟨RL, "put", "(LSortBench;I[J)I"⟩
abbrev cL_more : ByteArray := method_4_code
def yL_more : MethodName := ⟨RL, "more", "(LSortBench;JII[J)I"⟩
abbrev cL_line : ByteArray := method_5_code
def yL_line : MethodName := ⟨RL, "line", "(LSortBench;IIII[J)I"⟩
abbrev cL_exchange : ByteArray := method_6_code
def yL_exchange : MethodName := ⟨RL, "exchange", "(LSortBench;II)I"⟩
abbrev cL_turn : ByteArray := method_7_code
def yL_turn : MethodName := ⟨RL, "turn", "(LSortBench;II)I"⟩
abbrev cL_order : ByteArray := method_8_code
def yL_order : MethodName := ⟨RL, "order", "(LSortBench;I[J)I"⟩
abbrev cL_sort : ByteArray := method_9_code
def yL_sort : MethodName := ⟨RL, "sort", "(LSortBench;I[J)I"⟩
abbrev cL_kill : ByteArray := method_10_code
def yL_kill : MethodName := ⟨RL, "kill", "(LSortBench;II[J)I"⟩
abbrev cL_get : ByteArray := method_11_code
def yL_get : MethodName := ⟨RL, "get", "(LSortBench;I[J)I"⟩
abbrev cL_tag : ByteArray := method_12_code
def yL_tag : MethodName := ⟨RL, "tag", "(LSortBench;I[J)I"⟩
abbrev cL_is : ByteArray := method_13_code
def yL_is : MethodName := ⟨RL, "is", "(LSortBench;I[J)I"⟩
abbrev cL_count : ByteArray := method_14_code
def yL_count : MethodName := ⟨RL, "count", "(LSortBench;I[J)I"⟩
abbrev cL_law : ByteArray := code
def yL_law : MethodName := ⟨RL, "law", "([I)Z"⟩
end
section
/-! ===== the interpreter's tables, by program (wip/whole/prog/gen_tables.py) out of the printed names and tables ===== -/
def ez_t0 : List (Nat × Instr × Nat) := [(0, .aload_n 0, 1), (1, .iconst 0, 1), (2, .aload_n 0, 1), (3, .getfield 7, 3), (6, .invokevirtual 13, 3), (9, .invokevirtual 19, 3), (12, .return_, 1)]
def ez_t1 : List (Nat × Instr × Nat) := [(0, .iload_n 2, 1), (1, .iload_n 1, 1), (2, .isub, 1), (3, .istore_n 3, 1), (4, .iload_n 3, 1), (5, .iconst 2, 1), (6, .idiv, 1), (7, .iconst 1, 1), (8, .isub, 1), (9, .istore 4, 2), (11, .iload 4, 2), (13, .ifCond .lt 17, 3), (16, .aload_n 0, 1), (17, .iload_n 1, 1), (18, .iload 4, 2), (20, .iload_n 3, 1), (21, .invokevirtual 23, 3), (24, .iinc 4 (-1), 3), (27, .goto (-16), 3), (30, .iload_n 3, 1), (31, .iconst 1, 1), (32, .isub, 1), (33, .istore 4, 2), (35, .iload 4, 2), (37, .iconst 1, 1), (38, .if_icmp .lt 29, 3), (41, .aload_n 0, 1), (42, .getfield 7, 3), (45, .iload_n 1, 1), (46, .iload_n 1, 1), (47, .iload 4, 2), (49, .iadd, 1), (50, .invokevirtual 27, 3), (53, .aload_n 0, 1), (54, .iload_n 1, 1), (55, .iconst 0, 1), (56, .iload 4, 2), (58, .invokevirtual 23, 3), (61, .iinc 4 (-1), 3), (64, .goto (-29), 3), (67, .return_, 1)]
def ez_t2 : List (Nat × Instr × Nat) := [(0, .aload_n 0, 1), (1, .getfield 7, 3), (4, .iload_n 1, 1), (5, .iload_n 2, 1), (6, .iadd, 1), (7, .invokevirtual 30, 3), (10, .istore 4, 2), (12, .iload_n 2, 1), (13, .istore 5, 2), (15, .iconst 2, 1), (16, .iload 5, 2), (18, .imul, 1), (19, .iconst 1, 1), (20, .iadd, 1), (21, .istore 6, 2), (23, .iload 6, 2), (25, .iload_n 3, 1), (26, .if_icmp .ge 111, 3), (29, .iload 6, 2), (31, .iconst 1, 1), (32, .iadd, 1), (33, .iload_n 3, 1), (34, .if_icmp .ge 40, 3), (37, .aload_n 0, 1), (38, .getfield 7, 3), (41, .aload_n 0, 1), (42, .getfield 7, 3), (45, .iload_n 1, 1), (46, .iload 6, 2), (48, .iadd, 1), (49, .invokevirtual 30, 3), (52, .aload_n 0, 1), (53, .getfield 7, 3), (56, .iload_n 1, 1), (57, .iload 6, 2), (59, .iadd, 1), (60, .iconst 1, 1), (61, .iadd, 1), (62, .invokevirtual 30, 3), (65, .invokevirtual 34, 3), (68, .ifCond .eq 6, 3), (71, .iinc 6 1, 3), (74, .aload_n 0, 1), (75, .getfield 7, 3), (78, .iload 4, 2), (80, .aload_n 0, 1), (81, .getfield 7, 3), (84, .iload_n 1, 1), (85, .iload 6, 2), (87, .iadd, 1), (88, .invokevirtual 30, 3), (91, .invokevirtual 34, 3), (94, .ifCond .ne 6, 3), (97, .goto 40, 3), (100, .aload_n 0, 1), (101, .getfield 7, 3), (104, .iload_n 1, 1), (105, .iload 5, 2), (107, .iadd, 1), (108, .aload_n 0, 1), (109, .getfield 7, 3), (112, .iload_n 1, 1), (113, .iload 6, 2), (115, .iadd, 1), (116, .invokevirtual 30, 3), (119, .invokevirtual 38, 3), (122, .iload 6, 2), (124, .istore 5, 2), (126, .iconst 2, 1), (127, .iload 5, 2), (129, .imul, 1), (130, .iconst 1, 1), (131, .iadd, 1), (132, .istore 6, 2), (134, .goto (-111), 3), (137, .aload_n 0, 1), (138, .getfield 7, 3), (141, .iload_n 1, 1), (142, .iload 5, 2), (144, .iadd, 1), (145, .iload 4, 2), (147, .invokevirtual 38, 3), (150, .return_, 1)]
def ez_t3 : List (Nat × Instr × Nat) := [(0, .aload_n 0, 1), (1, .iconst 0, 1), (2, .aload_n 0, 1), (3, .getfield 7, 3), (6, .invokevirtual 13, 3), (9, .invokevirtual 19, 3), (12, .return_, 1)]
def ez_t4 : List (Nat × Instr × Nat) := [(0, .iload_n 1, 1), (1, .iconst 1, 1), (2, .iadd, 1), (3, .istore_n 3, 1), (4, .iload_n 3, 1), (5, .iload_n 2, 1), (6, .if_icmp .ge 16, 3), (9, .aload_n 0, 1), (10, .iload_n 3, 1), (11, .iload_n 1, 1), (12, .invokevirtual 23, 3), (15, .pop, 1), (16, .iinc 3 1, 3), (19, .goto (-15), 3), (22, .return_, 1)]
def ez_t5 : List (Nat × Instr × Nat) := [(0, .iload_n 1, 1), (1, .iconst 1, 1), (2, .iadd, 1), (3, .istore_n 3, 1), (4, .iload_n 3, 1), (5, .iload_n 2, 1), (6, .if_icmp .ge 16, 3), (9, .aload_n 0, 1), (10, .iload_n 3, 1), (11, .iconst 0, 1), (12, .invokevirtual 23, 3), (15, .pop, 1), (16, .iinc 3 1, 3), (19, .goto (-15), 3), (22, .return_, 1)]
def ez_t6 : List (Nat × Instr × Nat) := [(0, .iconst 0, 1), (1, .istore_n 3, 1), (2, .iload_n 1, 1), (3, .iconst 1, 1), (4, .iadd, 1), (5, .istore 4, 2), (7, .iload 4, 2), (9, .iload_n 2, 1), (10, .if_icmp .ge 27, 3), (13, .iload_n 3, 1), (14, .bipush 8, 2), (16, .if_icmp .le 5, 3), (19, .iconst 0, 1), (20, .ireturn, 1), (21, .iload_n 3, 1), (22, .aload_n 0, 1), (23, .iload 4, 2), (25, .iload_n 1, 1), (26, .invokevirtual 23, 3), (29, .iadd, 1), (30, .istore_n 3, 1), (31, .iinc 4 1, 3), (34, .goto (-27), 3), (37, .iconst 1, 1), (38, .ireturn, 1)]
def ez_t7 : List (Nat × Instr × Nat) := [(0, .aload_n 0, 1), (1, .getfield 7, 3), (4, .iload_n 1, 1), (5, .invokevirtual 27, 3), (8, .istore_n 3, 1), (9, .aload_n 0, 1), (10, .getfield 7, 3), (13, .iload_n 3, 1), (14, .aload_n 0, 1), (15, .getfield 7, 3), (18, .iload_n 1, 1), (19, .iconst 1, 1), (20, .isub, 1), (21, .invokevirtual 27, 3), (24, .invokevirtual 31, 3), (27, .ifCond .ne 5, 3), (30, .iconst 0, 1), (31, .ireturn, 1), (32, .iload_n 1, 1), (33, .istore 4, 2), (35, .aload_n 0, 1), (36, .getfield 7, 3), (39, .iload 4, 2), (41, .aload_n 0, 1), (42, .getfield 7, 3), (45, .iload 4, 2), (47, .iconst 1, 1), (48, .isub, 1), (49, .invokevirtual 27, 3), (52, .invokevirtual 35, 3), (55, .iinc 4 (-1), 3), (58, .iload 4, 2), (60, .iload_n 2, 1), (61, .if_icmp .le 25, 3), (64, .aload_n 0, 1), (65, .getfield 7, 3), (68, .iload_n 3, 1), (69, .aload_n 0, 1), (70, .getfield 7, 3), (73, .iload 4, 2), (75, .iconst 1, 1), (76, .isub, 1), (77, .invokevirtual 27, 3), (80, .invokevirtual 31, 3), (83, .ifCond .ne (-48), 3), (86, .aload_n 0, 1), (87, .getfield 7, 3), (90, .iload 4, 2), (92, .iload_n 3, 1), (93, .invokevirtual 35, 3), (96, .iload_n 1, 1), (97, .iload 4, 2), (99, .isub, 1), (100, .ireturn, 1)]
def ez_t8 : List (Nat × Instr × Nat) := [(0, .aload_n 0, 1), (1, .getfield 29, 3), (4, .lreturn, 1)]
def ez_t9 : List (Nat × Instr × Nat) := [(0, .aload_n 0, 1), (1, .getfield 33, 3), (4, .lreturn, 1)]
def ez_t10 : List (Nat × Instr × Nat) := [(0, .aload_n 0, 1), (1, .getfield 36, 3), (4, .invokevirtual 40, 3), (7, .iconst 2, 1), (8, .if_icmp .lt 7, 3), (11, .iconst 1, 1), (12, .goto 4, 3), (15, .iconst 0, 1), (16, .istore_n 1, 1), (17, .aload_n 0, 1), (18, .invokevirtual 46, 3), (21, .iconst 0, 1), (22, .istore_n 2, 1), (23, .iload_n 1, 1), (24, .ifCond .eq 143, 3), (27, .iload_n 2, 1), (28, .ldc 50, 2), (30, .if_icmp .ge 137, 3), (33, .aload_n 0, 1), (34, .getfield 51, 3), (37, .aload_n 0, 1), (38, .getfield 55, 3), (41, .isub, 1), (42, .istore_n 3, 1), (43, .iload_n 3, 1), (44, .bipush 24, 2), (46, .if_icmp .ge 15, 3), (49, .aload_n 0, 1), (50, .invokevirtual 58, 3), (53, .aload_n 0, 1), (54, .invokevirtual 61, 3), (57, .istore_n 1, 1), (58, .goto 103, 3), (61, .aload_n 0, 1), (62, .iload_n 3, 1), (63, .iconst 2, 1), (64, .idiv, 1), (65, .iload_n 3, 1), (66, .sipush 128, 3), (69, .if_icmp .le 7, 3), (72, .iconst 1, 1), (73, .goto 4, 3), (76, .iconst 0, 1), (77, .invokevirtual 65, 3), (80, .aload_n 0, 1), (81, .getfield 69, 3), (84, .ifCond .ne 50, 3), (87, .aload_n 0, 1), (88, .getfield 36, 3), (91, .aload_n 0, 1), (92, .getfield 36, 3), (95, .aload_n 0, 1), (96, .getfield 55, 3), (99, .iconst 1, 1), (100, .isub, 1), (101, .invokevirtual 73, 3), (104, .aload_n 0, 1), (105, .getfield 36, 3), (108, .aload_n 0, 1), (109, .getfield 55, 3), (112, .invokevirtual 73, 3), (115, .invokevirtual 77, 3), (118, .ifCond .ne 16, 3), (121, .aload_n 0, 1), (122, .aload_n 0, 1), (123, .invokevirtual 81, 3), (126, .iconst 1, 1), (127, .iadd, 1), (128, .putfield 55, 3), (131, .goto 30, 3), (134, .aload_n 0, 1), (135, .invokevirtual 84, 3), (138, .aload_n 0, 1), (139, .iload_n 3, 1), (140, .bipush 8, 2), (142, .idiv, 1), (143, .invokevirtual 87, 3), (146, .ifCond .eq 11, 3), (149, .aload_n 0, 1), (150, .invokevirtual 61, 3), (153, .istore_n 1, 1), (154, .goto 7, 3), (157, .aload_n 0, 1), (158, .invokevirtual 91, 3), (161, .iinc 2 1, 3), (164, .goto (-141), 3), (167, .return_, 1)]
def ez_t11 : List (Nat × Instr × Nat) := [(0, .aload_n 0, 1), (1, .iconst 0, 1), (2, .putfield 94, 3), (5, .aload_n 0, 1), (6, .iconst 0, 1), (7, .putfield 55, 3), (10, .aload_n 0, 1), (11, .aload_n 0, 1), (12, .getfield 36, 3), (15, .invokevirtual 40, 3), (18, .putfield 51, 3), (21, .aload_n 0, 1), (22, .iconst 1, 1), (23, .putfield 69, 3), (26, .aload_n 0, 1), (27, .iconst 0, 1), (28, .putfield 97, 3), (31, .iconst 1, 1), (32, .istore_n 1, 1), (33, .iload_n 1, 1), (34, .bipush 31, 2), (36, .if_icmp .ge 23, 3), (39, .aload_n 0, 1), (40, .getfield 51, 3), (43, .iload_n 1, 1), (44, .ishr, 1), (45, .ifCond .le 14, 3), (48, .aload_n 0, 1), (49, .iload_n 1, 1), (50, .putfield 97, 3), (53, .iinc 1 1, 3), (56, .goto (-23), 3), (59, .return_, 1)]
def ez_t12 : List (Nat × Instr × Nat) := [(0, .aload_n 0, 1), (1, .getfield 94, 3), (4, .iconst 1, 1), (5, .if_icmp .lt 12, 3), (8, .aload_n 0, 1), (9, .getfield 94, 3), (12, .bipush 64, 2), (14, .if_icmp .le 5, 3), (17, .iconst 0, 1), (18, .ireturn, 1), (19, .aload_n 0, 1), (20, .dup, 1), (21, .getfield 94, 3), (24, .iconst 1, 1), (25, .isub, 1), (26, .putfield 94, 3), (29, .aload_n 0, 1), (30, .aload_n 0, 1), (31, .getfield 19, 3), (34, .aload_n 0, 1), (35, .getfield 94, 3), (38, .iaload, 1), (39, .putfield 55, 3), (42, .aload_n 0, 1), (43, .aload_n 0, 1), (44, .getfield 23, 3), (47, .aload_n 0, 1), (48, .getfield 94, 3), (51, .iaload, 1), (52, .putfield 51, 3), (55, .aload_n 0, 1), (56, .aload_n 0, 1), (57, .getfield 26, 3), (60, .aload_n 0, 1), (61, .getfield 94, 3), (64, .iaload, 1), (65, .putfield 97, 3), (68, .aload_n 0, 1), (69, .iconst 0, 1), (70, .putfield 69, 3), (73, .iconst 1, 1), (74, .ireturn, 1)]
def ez_t13 : List (Nat × Instr × Nat) := [(0, .aload_n 0, 1), (1, .getfield 94, 3), (4, .ifCond .lt 63, 3), (7, .aload_n 0, 1), (8, .getfield 94, 3), (11, .bipush 64, 2), (13, .if_icmp .ge 54, 3), (16, .aload_n 0, 1), (17, .getfield 19, 3), (20, .aload_n 0, 1), (21, .getfield 94, 3), (24, .aload_n 0, 1), (25, .getfield 100, 3), (28, .iconst 1, 1), (29, .iadd, 1), (30, .iastore, 1), (31, .aload_n 0, 1), (32, .getfield 23, 3), (35, .aload_n 0, 1), (36, .getfield 94, 3), (39, .aload_n 0, 1), (40, .getfield 51, 3), (43, .iastore, 1), (44, .aload_n 0, 1), (45, .getfield 26, 3), (48, .aload_n 0, 1), (49, .getfield 94, 3), (52, .aload_n 0, 1), (53, .getfield 97, 3), (56, .iastore, 1), (57, .aload_n 0, 1), (58, .dup, 1), (59, .getfield 94, 3), (62, .iconst 1, 1), (63, .iadd, 1), (64, .putfield 94, 3), (67, .aload_n 0, 1), (68, .aload_n 0, 1), (69, .getfield 100, 3), (72, .putfield 51, 3), (75, .return_, 1)]
def ez_t14 : List (Nat × Instr × Nat) := [(0, .aload_n 0, 1), (1, .getfield 69, 3), (4, .ifCond .eq 21, 3), (7, .aload_n 0, 1), (8, .getfield 9, 3), (11, .aload_n 0, 1), (12, .getfield 55, 3), (15, .aload_n 0, 1), (16, .getfield 51, 3), (19, .invokevirtual 103, 3), (22, .goto 18, 3), (25, .aload_n 0, 1), (26, .getfield 9, 3), (29, .aload_n 0, 1), (30, .getfield 55, 3), (33, .aload_n 0, 1), (34, .getfield 51, 3), (37, .invokevirtual 109, 3), (40, .return_, 1)]
def ez_t15 : List (Nat × Instr × Nat) := [(0, .aload_n 0, 1), (1, .getfield 55, 3), (4, .iload_n 1, 1), (5, .iadd, 1), (6, .istore_n 3, 1), (7, .iload_n 2, 1), (8, .ifCond .eq 82, 3), (11, .aload_n 0, 1), (12, .aload_n 0, 1), (13, .getfield 55, 3), (16, .iload_n 3, 1), (17, .aload_n 0, 1), (18, .getfield 51, 3), (21, .iconst 1, 1), (22, .isub, 1), (23, .invokevirtual 112, 3), (26, .aload_n 0, 1), (27, .aload_n 0, 1), (28, .getfield 55, 3), (31, .iconst 1, 1), (32, .iadd, 1), (33, .iload_n 3, 1), (34, .iconst 1, 1), (35, .isub, 1), (36, .aload_n 0, 1), (37, .getfield 51, 3), (40, .iconst 2, 1), (41, .isub, 1), (42, .invokevirtual 112, 3), (45, .aload_n 0, 1), (46, .aload_n 0, 1), (47, .getfield 55, 3), (50, .iconst 2, 1), (51, .iadd, 1), (52, .iload_n 3, 1), (53, .iconst 1, 1), (54, .iadd, 1), (55, .aload_n 0, 1), (56, .getfield 51, 3), (59, .iconst 3, 1), (60, .isub, 1), (61, .invokevirtual 112, 3), (64, .aload_n 0, 1), (65, .iload_n 3, 1), (66, .iconst 1, 1), (67, .isub, 1), (68, .iload_n 3, 1), (69, .iload_n 3, 1), (70, .iconst 1, 1), (71, .iadd, 1), (72, .invokevirtual 112, 3), (75, .aload_n 0, 1), (76, .getfield 36, 3), (79, .aload_n 0, 1), (80, .getfield 55, 3), (83, .iload_n 3, 1), (84, .invokevirtual 116, 3), (87, .goto 18, 3), (90, .aload_n 0, 1), (91, .iload_n 3, 1), (92, .aload_n 0, 1), (93, .getfield 55, 3), (96, .aload_n 0, 1), (97, .getfield 51, 3), (100, .iconst 1, 1), (101, .isub, 1), (102, .invokevirtual 112, 3), (105, .return_, 1)]
def ez_t16 : List (Nat × Instr × Nat) := [(0, .aload_n 0, 1), (1, .iload_n 1, 1), (2, .iload_n 2, 1), (3, .invokevirtual 119, 3), (6, .aload_n 0, 1), (7, .iload_n 2, 1), (8, .iload_n 3, 1), (9, .invokevirtual 119, 3), (12, .aload_n 0, 1), (13, .iload_n 1, 1), (14, .iload_n 2, 1), (15, .invokevirtual 119, 3), (18, .return_, 1)]
def ez_t17 : List (Nat × Instr × Nat) := [(0, .aload_n 0, 1), (1, .getfield 36, 3), (4, .aload_n 0, 1), (5, .getfield 36, 3), (8, .iload_n 2, 1), (9, .invokevirtual 73, 3), (12, .aload_n 0, 1), (13, .getfield 36, 3), (16, .iload_n 1, 1), (17, .invokevirtual 73, 3), (20, .invokevirtual 77, 3), (23, .ifCond .eq 12, 3), (26, .aload_n 0, 1), (27, .getfield 36, 3), (30, .iload_n 1, 1), (31, .iload_n 2, 1), (32, .invokevirtual 116, 3), (35, .return_, 1)]
def ez_t18 : List (Nat × Instr × Nat) := [(0, .aload_n 0, 1), (1, .getfield 36, 3), (4, .aload_n 0, 1), (5, .getfield 55, 3), (8, .invokevirtual 73, 3), (11, .istore_n 1, 1), (12, .aload_n 0, 1), (13, .getfield 55, 3), (16, .istore_n 2, 1), (17, .aload_n 0, 1), (18, .aload_n 0, 1), (19, .getfield 51, 3), (22, .iload_n 1, 1), (23, .invokevirtual 122, 3), (26, .istore_n 3, 1), (27, .iload_n 3, 1), (28, .iconst 1, 1), (29, .iadd, 1), (30, .aload_n 0, 1), (31, .getfield 51, 3), (34, .if_icmp .ne 33, 3), (37, .iload_n 2, 1), (38, .iload_n 3, 1), (39, .if_icmp .ge 35, 3), (42, .iinc 2 1, 3), (45, .aload_n 0, 1), (46, .getfield 36, 3), (49, .iload_n 1, 1), (50, .aload_n 0, 1), (51, .getfield 36, 3), (54, .iload_n 2, 1), (55, .invokevirtual 73, 3), (58, .invokevirtual 77, 3), (61, .ifCond .eq (-24), 3), (64, .goto 10, 3), (67, .aload_n 0, 1), (68, .iload_n 2, 1), (69, .iload_n 1, 1), (70, .invokevirtual 126, 3), (73, .istore_n 2, 1), (74, .iconst 0, 1), (75, .istore 4, 2), (77, .iload_n 2, 1), (78, .iload_n 3, 1), (79, .if_icmp .ge 40, 3), (82, .iload 4, 2), (84, .sipush 600, 3), (87, .if_icmp .ge 32, 3), (90, .aload_n 0, 1), (91, .getfield 36, 3), (94, .iload_n 2, 1), (95, .iload_n 3, 1), (96, .invokevirtual 116, 3), (99, .aload_n 0, 1), (100, .iload_n 3, 1), (101, .iload_n 1, 1), (102, .invokevirtual 122, 3), (105, .istore_n 3, 1), (106, .aload_n 0, 1), (107, .iload_n 2, 1), (108, .iload_n 1, 1), (109, .invokevirtual 126, 3), (112, .istore_n 2, 1), (113, .iinc 4 1, 3), (116, .goto (-39), 3), (119, .aload_n 0, 1), (120, .getfield 36, 3), (123, .aload_n 0, 1), (124, .getfield 55, 3), (127, .aload_n 0, 1), (128, .getfield 36, 3), (131, .iload_n 3, 1), (132, .invokevirtual 73, 3), (135, .invokevirtual 129, 3), (138, .aload_n 0, 1), (139, .getfield 36, 3), (142, .iload_n 3, 1), (143, .iload_n 1, 1), (144, .invokevirtual 129, 3), (147, .iload_n 3, 1), (148, .ireturn, 1)]
def ez_t19 : List (Nat × Instr × Nat) := [(0, .aload_n 0, 1), (1, .getfield 36, 3), (4, .aload_n 0, 1), (5, .getfield 55, 3), (8, .invokevirtual 73, 3), (11, .istore_n 1, 1), (12, .aload_n 0, 1), (13, .aload_n 0, 1), (14, .getfield 55, 3), (17, .iload_n 1, 1), (18, .invokevirtual 132, 3), (21, .istore_n 2, 1), (22, .aload_n 0, 1), (23, .getfield 51, 3), (26, .istore_n 3, 1), (27, .iload_n 2, 1), (28, .iconst 1, 1), (29, .isub, 1), (30, .aload_n 0, 1), (31, .getfield 55, 3), (34, .if_icmp .ne 33, 3), (37, .iload_n 2, 1), (38, .iload_n 3, 1), (39, .if_icmp .ge 35, 3), (42, .iinc 3 (-1), 3), (45, .aload_n 0, 1), (46, .getfield 36, 3), (49, .aload_n 0, 1), (50, .getfield 36, 3), (53, .iload_n 3, 1), (54, .invokevirtual 73, 3), (57, .iload_n 1, 1), (58, .invokevirtual 77, 3), (61, .ifCond .eq (-24), 3), (64, .goto 10, 3), (67, .aload_n 0, 1), (68, .iload_n 3, 1), (69, .iload_n 1, 1), (70, .invokevirtual 135, 3), (73, .istore_n 3, 1), (74, .aload_n 0, 1), (75, .iload_n 2, 1), (76, .iload_n 3, 1), (77, .if_icmp .lt 7, 3), (80, .iconst 1, 1), (81, .goto 4, 3), (84, .iconst 0, 1), (85, .putfield 138, 3), (88, .iconst 0, 1), (89, .istore 4, 2), (91, .iload_n 2, 1), (92, .iload_n 3, 1), (93, .if_icmp .ge 40, 3), (96, .iload 4, 2), (98, .sipush 600, 3), (101, .if_icmp .ge 32, 3), (104, .aload_n 0, 1), (105, .getfield 36, 3), (108, .iload_n 2, 1), (109, .iload_n 3, 1), (110, .invokevirtual 116, 3), (113, .aload_n 0, 1), (114, .iload_n 2, 1), (115, .iload_n 1, 1), (116, .invokevirtual 132, 3), (119, .istore_n 2, 1), (120, .aload_n 0, 1), (121, .iload_n 3, 1), (122, .iload_n 1, 1), (123, .invokevirtual 135, 3), (126, .istore_n 3, 1), (127, .iinc 4 1, 3), (130, .goto (-39), 3), (133, .aload_n 0, 1), (134, .iload_n 2, 1), (135, .iconst 1, 1), (136, .isub, 1), (137, .putfield 100, 3), (140, .aload_n 0, 1), (141, .getfield 36, 3), (144, .aload_n 0, 1), (145, .getfield 55, 3), (148, .aload_n 0, 1), (149, .getfield 36, 3), (152, .aload_n 0, 1), (153, .getfield 100, 3), (156, .invokevirtual 73, 3), (159, .invokevirtual 129, 3), (162, .aload_n 0, 1), (163, .getfield 36, 3), (166, .aload_n 0, 1), (167, .getfield 100, 3), (170, .iload_n 1, 1), (171, .invokevirtual 129, 3), (174, .aload_n 0, 1), (175, .dup, 1), (176, .getfield 33, 3), (179, .lconst 1, 1), (180, .ladd, 1), (181, .putfield 33, 3), (184, .return_, 1)]
def ez_t20 : List (Nat × Instr × Nat) := [(0, .iload_n 1, 1), (1, .iconst 1, 1), (2, .iadd, 1), (3, .istore_n 3, 1), (4, .iload_n 3, 1), (5, .aload_n 0, 1), (6, .getfield 36, 3), (9, .invokevirtual 40, 3), (12, .if_icmp .ge 28, 3), (15, .aload_n 0, 1), (16, .getfield 36, 3), (19, .aload_n 0, 1), (20, .getfield 36, 3), (23, .iload_n 3, 1), (24, .invokevirtual 73, 3), (27, .iload_n 2, 1), (28, .invokevirtual 77, 3), (31, .ifCond .eq 9, 3), (34, .iinc 3 1, 3), (37, .goto (-33), 3), (40, .iload_n 3, 1), (41, .ireturn, 1)]
def ez_t21 : List (Nat × Instr × Nat) := [(0, .iload_n 1, 1), (1, .iconst 1, 1), (2, .iadd, 1), (3, .istore_n 3, 1), (4, .iload_n 3, 1), (5, .aload_n 0, 1), (6, .getfield 36, 3), (9, .invokevirtual 40, 3), (12, .if_icmp .ge 28, 3), (15, .aload_n 0, 1), (16, .getfield 36, 3), (19, .iload_n 2, 1), (20, .aload_n 0, 1), (21, .getfield 36, 3), (24, .iload_n 3, 1), (25, .invokevirtual 73, 3), (28, .invokevirtual 77, 3), (31, .ifCond .ne 9, 3), (34, .iinc 3 1, 3), (37, .goto (-33), 3), (40, .iload_n 3, 1), (41, .ireturn, 1)]
def ez_t22 : List (Nat × Instr × Nat) := [(0, .iload_n 1, 1), (1, .iconst 1, 1), (2, .isub, 1), (3, .istore_n 3, 1), (4, .iload_n 3, 1), (5, .ifCond .lt 28, 3), (8, .aload_n 0, 1), (9, .getfield 36, 3), (12, .iload_n 2, 1), (13, .aload_n 0, 1), (14, .getfield 36, 3), (17, .iload_n 3, 1), (18, .invokevirtual 73, 3), (21, .invokevirtual 77, 3), (24, .ifCond .eq 9, 3), (27, .iinc 3 (-1), 3), (30, .goto (-26), 3), (33, .iload_n 3, 1), (34, .ireturn, 1)]
def ez_t23 : List (Nat × Instr × Nat) := [(0, .iload_n 1, 1), (1, .iconst 1, 1), (2, .isub, 1), (3, .istore_n 3, 1), (4, .iload_n 3, 1), (5, .ifCond .lt 28, 3), (8, .aload_n 0, 1), (9, .getfield 36, 3), (12, .aload_n 0, 1), (13, .getfield 36, 3), (16, .iload_n 3, 1), (17, .invokevirtual 73, 3), (20, .iload_n 2, 1), (21, .invokevirtual 77, 3), (24, .ifCond .ne 9, 3), (27, .iinc 3 (-1), 3), (30, .goto (-26), 3), (33, .iload_n 3, 1), (34, .ireturn, 1)]
def ez_t24 : List (Nat × Instr × Nat) := [(0, .aload_n 0, 1), (1, .getfield 100, 3), (4, .aload_n 0, 1), (5, .getfield 55, 3), (8, .isub, 1), (9, .istore_n 2, 1), (10, .aload_n 0, 1), (11, .getfield 51, 3), (14, .aload_n 0, 1), (15, .getfield 100, 3), (18, .isub, 1), (19, .iconst 1, 1), (20, .isub, 1), (21, .istore_n 3, 1), (22, .iload_n 2, 1), (23, .iload_n 1, 1), (24, .if_icmp .lt 59, 3), (27, .iload_n 3, 1), (28, .iload_n 1, 1), (29, .if_icmp .lt 54, 3), (32, .aload_n 0, 1), (33, .getfield 138, 3), (36, .ifCond .eq 45, 3), (39, .aload_n 0, 1), (40, .getfield 9, 3), (43, .aload_n 0, 1), (44, .getfield 55, 3), (47, .aload_n 0, 1), (48, .getfield 100, 3), (51, .invokevirtual 141, 3), (54, .ifCond .eq 27, 3), (57, .aload_n 0, 1), (58, .getfield 9, 3), (61, .aload_n 0, 1), (62, .getfield 100, 3), (65, .iconst 1, 1), (66, .iadd, 1), (67, .aload_n 0, 1), (68, .getfield 51, 3), (71, .invokevirtual 141, 3), (74, .ifCond .eq 7, 3), (77, .iconst 1, 1), (78, .goto 4, 3), (81, .iconst 0, 1), (82, .ireturn, 1), (83, .aload_n 0, 1), (84, .dup, 1), (85, .getfield 97, 3), (88, .iconst 1, 1), (89, .isub, 1), (90, .putfield 97, 3), (93, .aload_n 0, 1), (94, .getfield 97, 3), (97, .ifCond .ne 30, 3), (100, .aload_n 0, 1), (101, .dup, 1), (102, .getfield 29, 3), (105, .lconst 1, 1), (106, .ladd, 1), (107, .putfield 29, 3), (110, .aload_n 0, 1), (111, .getfield 15, 3), (114, .aload_n 0, 1), (115, .getfield 55, 3), (118, .aload_n 0, 1), (119, .getfield 51, 3), (122, .invokevirtual 144, 3), (125, .iconst 1, 1), (126, .ireturn, 1), (127, .aload_n 0, 1), (128, .aload_n 0, 1), (129, .getfield 55, 3), (132, .aload_n 0, 1), (133, .getfield 100, 3), (136, .invokevirtual 149, 3), (139, .aload_n 0, 1), (140, .aload_n 0, 1), (141, .getfield 100, 3), (144, .iconst 1, 1), (145, .iadd, 1), (146, .aload_n 0, 1), (147, .getfield 51, 3), (150, .invokevirtual 149, 3), (153, .iconst 0, 1), (154, .ireturn, 1)]
def ez_t25 : List (Nat × Instr × Nat) := [(0, .iload_n 2, 1), (1, .iload_n 1, 1), (2, .isub, 1), (3, .istore_n 3, 1), (4, .iload_n 3, 1), (5, .iconst 4, 1), (6, .idiv, 1), (7, .istore 4, 2), (9, .iload_n 3, 1), (10, .bipush 24, 2), (12, .if_icmp .lt 29, 3), (15, .aload_n 0, 1), (16, .getfield 36, 3), (19, .iload_n 1, 1), (20, .iload_n 1, 1), (21, .iload 4, 2), (23, .iadd, 1), (24, .invokevirtual 116, 3), (27, .aload_n 0, 1), (28, .getfield 36, 3), (31, .iload_n 2, 1), (32, .iconst 1, 1), (33, .isub, 1), (34, .iload_n 2, 1), (35, .iload 4, 2), (37, .isub, 1), (38, .invokevirtual 116, 3), (41, .iload_n 3, 1), (42, .sipush 128, 3), (45, .if_icmp .le 67, 3), (48, .aload_n 0, 1), (49, .getfield 36, 3), (52, .iload_n 1, 1), (53, .iconst 1, 1), (54, .iadd, 1), (55, .iload_n 1, 1), (56, .iconst 1, 1), (57, .iadd, 1), (58, .iload 4, 2), (60, .iadd, 1), (61, .invokevirtual 116, 3), (64, .aload_n 0, 1), (65, .getfield 36, 3), (68, .iload_n 1, 1), (69, .iconst 2, 1), (70, .iadd, 1), (71, .iload_n 1, 1), (72, .iconst 2, 1), (73, .iadd, 1), (74, .iload 4, 2), (76, .iadd, 1), (77, .invokevirtual 116, 3), (80, .aload_n 0, 1), (81, .getfield 36, 3), (84, .iload_n 2, 1), (85, .iconst 2, 1), (86, .isub, 1), (87, .iload_n 2, 1), (88, .iconst 1, 1), (89, .isub, 1), (90, .iload 4, 2), (92, .isub, 1), (93, .invokevirtual 116, 3), (96, .aload_n 0, 1), (97, .getfield 36, 3), (100, .iload_n 2, 1), (101, .iconst 3, 1), (102, .isub, 1), (103, .iload_n 2, 1), (104, .iconst 2, 1), (105, .isub, 1), (106, .iload 4, 2), (108, .isub, 1), (109, .invokevirtual 116, 3), (112, .return_, 1)]
def ez_t26 : List (Nat × Instr × Nat) := [(0, .aload_n 0, 1), (1, .getfield 22, 3), (4, .ireturn, 1)]
def ez_t27 : List (Nat × Instr × Nat) := [(0, .aload_n 0, 1), (1, .getfield 25, 3), (4, .ireturn, 1)]
def ez_t28 : List (Nat × Instr × Nat) := [(0, .aload_n 0, 1), (1, .iload_n 1, 1), (2, .putfield 25, 3), (5, .return_, 1)]
def ez_t29 : List (Nat × Instr × Nat) := [(0, .aload_n 0, 1), (1, .getfield 28, 3), (4, .lreturn, 1)]
def ez_t30 : List (Nat × Instr × Nat) := [(0, .aload_n 0, 1), (1, .iconst 0, 1), (2, .putfield 22, 3), (5, .return_, 1)]
def ez_t31 : List (Nat × Instr × Nat) := [(0, .aload_n 0, 1), (1, .getfield 22, 3), (4, .ifCond .lt 60, 3), (7, .aload_n 0, 1), (8, .getfield 22, 3), (11, .aload_n 0, 1), (12, .getfield 9, 3), (15, .arraylength, 1), (16, .if_icmp .ge 48, 3), (19, .aload_n 0, 1), (20, .getfield 22, 3), (23, .aload_n 0, 1), (24, .getfield 15, 3), (27, .arraylength, 1), (28, .if_icmp .ge 36, 3), (31, .aload_n 0, 1), (32, .getfield 9, 3), (35, .aload_n 0, 1), (36, .getfield 22, 3), (39, .iload_n 1, 1), (40, .iastore, 1), (41, .aload_n 0, 1), (42, .getfield 15, 3), (45, .aload_n 0, 1), (46, .getfield 22, 3), (49, .aload_n 0, 1), (50, .getfield 22, 3), (53, .iastore, 1), (54, .aload_n 0, 1), (55, .dup, 1), (56, .getfield 22, 3), (59, .iconst 1, 1), (60, .iadd, 1), (61, .putfield 22, 3), (64, .return_, 1)]
def ez_t32 : List (Nat × Instr × Nat) := [(0, .iload_n 1, 1), (1, .ifCond .lt 21, 3), (4, .iload_n 1, 1), (5, .aload_n 0, 1), (6, .getfield 15, 3), (9, .arraylength, 1), (10, .if_icmp .ge 12, 3), (13, .aload_n 0, 1), (14, .getfield 15, 3), (17, .iload_n 1, 1), (18, .iaload, 1), (19, .goto 4, 3), (22, .iconst 0, 1), (23, .ireturn, 1)]
def ez_t33 : List (Nat × Instr × Nat) := [(0, .iload_n 1, 1), (1, .ifCond .lt 19, 3), (4, .iload_n 1, 1), (5, .aload_n 0, 1), (6, .getfield 15, 3), (9, .arraylength, 1), (10, .if_icmp .ge 10, 3), (13, .aload_n 0, 1), (14, .getfield 15, 3), (17, .iload_n 1, 1), (18, .iload_n 2, 1), (19, .iastore, 1), (20, .return_, 1)]
def ez_t34 : List (Nat × Instr × Nat) := [(0, .iload_n 1, 1), (1, .ifCond .lt 21, 3), (4, .iload_n 1, 1), (5, .aload_n 0, 1), (6, .getfield 9, 3), (9, .arraylength, 1), (10, .if_icmp .ge 12, 3), (13, .aload_n 0, 1), (14, .getfield 9, 3), (17, .iload_n 1, 1), (18, .iaload, 1), (19, .goto 4, 3), (22, .iconst 0, 1), (23, .ireturn, 1)]
def ez_t35 : List (Nat × Instr × Nat) := [(0, .aload_n 0, 1), (1, .iload_n 1, 1), (2, .invokevirtual 32, 3), (5, .istore_n 3, 1), (6, .aload_n 0, 1), (7, .iload_n 1, 1), (8, .aload_n 0, 1), (9, .iload_n 2, 1), (10, .invokevirtual 32, 3), (13, .invokevirtual 36, 3), (16, .aload_n 0, 1), (17, .iload_n 2, 1), (18, .iload_n 3, 1), (19, .invokevirtual 36, 3), (22, .return_, 1)]
def ez_t36 : List (Nat × Instr × Nat) := [(0, .iload_n 2, 1), (1, .iconst 1, 1), (2, .isub, 1), (3, .istore_n 3, 1), (4, .iload_n 1, 1), (5, .istore 4, 2), (7, .iload 4, 2), (9, .iload_n 3, 1), (10, .if_icmp .ge 19, 3), (13, .aload_n 0, 1), (14, .iload 4, 2), (16, .iload_n 3, 1), (17, .invokevirtual 40, 3), (20, .iinc 3 (-1), 3), (23, .iinc 4 1, 3), (26, .goto (-19), 3), (29, .return_, 1)]
def ez_t37 : List (Nat × Instr × Nat) := [(0, .aload_n 0, 1), (1, .getfield 25, 3), (4, .tableswitch 50 1 3 #[28, 31, 37], 28), (32, .lload_n 1, 1), (33, .lneg, 1), (34, .lreturn, 1), (35, .lload_n 1, 1), (36, .ldc2_w 43, 3), (39, .land, 1), (40, .lreturn, 1), (41, .lload_n 1, 1), (42, .lconst 0, 1), (43, .lcmp, 1), (44, .ifCond .ge 8, 3), (47, .lload_n 1, 1), (48, .lneg, 1), (49, .goto 4, 3), (52, .lload_n 1, 1), (53, .lreturn, 1), (54, .lload_n 1, 1), (55, .lreturn, 1)]
def ez_t38 : List (Nat × Instr × Nat) := [(0, .aload_n 0, 1), (1, .dup, 1), (2, .getfield 28, 3), (5, .lconst 1, 1), (6, .ladd, 1), (7, .putfield 28, 3), (10, .aload_n 0, 1), (11, .getfield 45, 3), (14, .ifCond .eq 28, 3), (17, .aload_n 0, 1), (18, .iload_n 1, 1), (19, .iload_n 2, 1), (20, .invokevirtual 49, 3), (23, .aload_n 0, 1), (24, .iload_n 1, 1), (25, .invokevirtual 52, 3), (28, .aload_n 0, 1), (29, .iload_n 2, 1), (30, .invokevirtual 52, 3), (33, .if_icmp .ge 7, 3), (36, .iconst 1, 1), (37, .goto 4, 3), (40, .iconst 0, 1), (41, .ireturn, 1), (42, .aload_n 0, 1), (43, .aload_n 0, 1), (44, .iload_n 1, 1), (45, .invokevirtual 52, 3), (48, .i2l, 1), (49, .invokevirtual 55, 3), (52, .aload_n 0, 1), (53, .aload_n 0, 1), (54, .iload_n 2, 1), (55, .invokevirtual 52, 3), (58, .i2l, 1), (59, .invokevirtual 55, 3), (62, .lcmp, 1), (63, .ifCond .ge 7, 3), (66, .iconst 1, 1), (67, .goto 4, 3), (70, .iconst 0, 1), (71, .ireturn, 1)]
def ez_t39 : List (Nat × Instr × Nat) := [(0, .aload_n 0, 1), (1, .iconst 0, 1), (2, .putfield 22, 3), (5, .iconst 0, 1), (6, .istore_n 2, 1), (7, .iload_n 2, 1), (8, .iload_n 1, 1), (9, .if_icmp .ge 14, 3), (12, .aload_n 0, 1), (13, .iload_n 1, 1), (14, .invokevirtual 59, 3), (17, .iinc 2 1, 3), (20, .goto (-13), 3), (23, .aload_n 0, 1), (24, .iconst (-1), 1), (25, .putfield 18, 3), (28, .aload_n 0, 1), (29, .iconst 0, 1), (30, .putfield 63, 3), (33, .aload_n 0, 1), (34, .iconst 1, 1), (35, .putfield 45, 3), (38, .return_, 1)]
def ez_t40 : List (Nat × Instr × Nat) := [(0, .aload_n 0, 1), (1, .iconst 0, 1), (2, .putfield 45, 3), (5, .iconst 0, 1), (6, .istore_n 1, 1), (7, .iload_n 1, 1), (8, .aload_n 0, 1), (9, .getfield 22, 3), (12, .if_icmp .ge 15, 3), (15, .aload_n 0, 1), (16, .iload_n 1, 1), (17, .iload_n 1, 1), (18, .invokevirtual 36, 3), (21, .iinc 1 1, 3), (24, .goto (-17), 3), (27, .return_, 1)]
def ez_t41 : List (Nat × Instr × Nat) := [(0, .iload_n 1, 1), (1, .ifCond .lt 25, 3), (4, .iload_n 1, 1), (5, .aload_n 0, 1), (6, .getfield 9, 3), (9, .arraylength, 1), (10, .if_icmp .ge 16, 3), (13, .iload_n 2, 1), (14, .ifCond .lt 12, 3), (17, .iload_n 2, 1), (18, .aload_n 0, 1), (19, .getfield 9, 3), (22, .arraylength, 1), (23, .if_icmp .lt 4, 3), (26, .return_, 1), (27, .aload_n 0, 1), (28, .getfield 22, 3), (31, .istore_n 3, 1), (32, .aload_n 0, 1), (33, .getfield 9, 3), (36, .iload_n 1, 1), (37, .iaload, 1), (38, .iload_n 3, 1), (39, .if_icmp .ne 45, 3), (42, .aload_n 0, 1), (43, .getfield 9, 3), (46, .iload_n 2, 1), (47, .iaload, 1), (48, .iload_n 3, 1), (49, .if_icmp .ne 35, 3), (52, .aload_n 0, 1), (53, .getfield 9, 3), (56, .aload_n 0, 1), (57, .getfield 18, 3), (60, .iload_n 1, 1), (61, .if_icmp .ne 7, 3), (64, .iload_n 1, 1), (65, .goto 4, 3), (68, .iload_n 2, 1), (69, .aload_n 0, 1), (70, .getfield 63, 3), (73, .iastore, 1), (74, .aload_n 0, 1), (75, .dup, 1), (76, .getfield 63, 3), (79, .iconst 1, 1), (80, .iadd, 1), (81, .putfield 63, 3), (84, .aload_n 0, 1), (85, .getfield 9, 3), (88, .iload_n 1, 1), (89, .iaload, 1), (90, .iload_n 3, 1), (91, .if_icmp .ne 11, 3), (94, .aload_n 0, 1), (95, .iload_n 1, 1), (96, .putfield 18, 3), (99, .goto 18, 3), (102, .aload_n 0, 1), (103, .getfield 9, 3), (106, .iload_n 2, 1), (107, .iaload, 1), (108, .iload_n 3, 1), (109, .if_icmp .ne 8, 3), (112, .aload_n 0, 1), (113, .iload_n 2, 1), (114, .putfield 18, 3), (117, .return_, 1)]
def ez_t42 : List (Nat × Instr × Nat) := [(0, .aload_n 0, 1), (1, .getfield 21, 3), (4, .lreturn, 1)]
def ez_t43 : List (Nat × Instr × Nat) := [(0, .aload_n 0, 1), (1, .getfield 25, 3), (4, .lreturn, 1)]
def ez_t44 : List (Nat × Instr × Nat) := [(0, .aload_n 0, 1), (1, .iconst 0, 1), (2, .putfield 28, 3), (5, .aload_n 0, 1), (6, .getfield 32, 3), (9, .invokevirtual 36, 3), (12, .istore_n 1, 1), (13, .iconst 0, 1), (14, .istore_n 2, 1), (15, .iconst 0, 1), (16, .istore_n 3, 1), (17, .iload_n 3, 1), (18, .iload_n 1, 1), (19, .if_icmp .ge 44, 3), (22, .iload_n 2, 1), (23, .iload_n 1, 1), (24, .if_icmp .ge 39, 3), (27, .aload_n 0, 1), (28, .iload_n 2, 1), (29, .aload_n 0, 1), (30, .iload_n 2, 1), (31, .iload_n 1, 1), (32, .invokevirtual 42, 3), (35, .iload_n 1, 1), (36, .invokevirtual 46, 3), (39, .istore 4, 2), (41, .aload_n 0, 1), (42, .iload_n 2, 1), (43, .iload 4, 2), (45, .iload_n 2, 1), (46, .isub, 1), (47, .invokevirtual 50, 3), (50, .aload_n 0, 1), (51, .invokevirtual 54, 3), (54, .iload 4, 2), (56, .istore_n 2, 1), (57, .iinc 3 1, 3), (60, .goto (-43), 3), (63, .aload_n 0, 1), (64, .invokevirtual 58, 3), (67, .return_, 1)]
def ez_t45 : List (Nat × Instr × Nat) := [(0, .iload_n 1, 1), (1, .iconst 2, 1), (2, .iadd, 1), (3, .istore_n 3, 1), (4, .iload_n 3, 1), (5, .iload_n 2, 1), (6, .if_icmp .le 5, 3), (9, .iload_n 2, 1), (10, .ireturn, 1), (11, .aload_n 0, 1), (12, .getfield 32, 3), (15, .aload_n 0, 1), (16, .getfield 32, 3), (19, .iload_n 1, 1), (20, .iconst 1, 1), (21, .iadd, 1), (22, .invokevirtual 61, 3), (25, .aload_n 0, 1), (26, .getfield 32, 3), (29, .iload_n 1, 1), (30, .invokevirtual 61, 3), (33, .invokevirtual 65, 3), (36, .ifCond .eq 53, 3), (39, .iload_n 3, 1), (40, .iload_n 2, 1), (41, .if_icmp .ge 37, 3), (44, .aload_n 0, 1), (45, .getfield 32, 3), (48, .aload_n 0, 1), (49, .getfield 32, 3), (52, .iload_n 3, 1), (53, .invokevirtual 61, 3), (56, .aload_n 0, 1), (57, .getfield 32, 3), (60, .iload_n 3, 1), (61, .iconst 1, 1), (62, .isub, 1), (63, .invokevirtual 61, 3), (66, .invokevirtual 65, 3), (69, .ifCond .eq 9, 3), (72, .iinc 3 1, 3), (75, .goto (-36), 3), (78, .aload_n 0, 1), (79, .getfield 32, 3), (82, .iload_n 1, 1), (83, .iload_n 3, 1), (84, .invokevirtual 69, 3), (87, .iload_n 3, 1), (88, .ireturn, 1), (89, .iload_n 3, 1), (90, .iload_n 2, 1), (91, .if_icmp .ge 37, 3), (94, .aload_n 0, 1), (95, .getfield 32, 3), (98, .aload_n 0, 1), (99, .getfield 32, 3), (102, .iload_n 3, 1), (103, .invokevirtual 61, 3), (106, .aload_n 0, 1), (107, .getfield 32, 3), (110, .iload_n 3, 1), (111, .iconst 1, 1), (112, .isub, 1), (113, .invokevirtual 61, 3), (116, .invokevirtual 65, 3), (119, .ifCond .ne 9, 3), (122, .iinc 3 1, 3), (125, .goto (-36), 3), (128, .iload_n 3, 1), (129, .ireturn, 1)]
def ez_t46 : List (Nat × Instr × Nat) := [(0, .iload_n 1, 1), (1, .bipush 16, 2), (3, .iadd, 1), (4, .iload_n 3, 1), (5, .invokestatic 72, 3), (8, .istore 4, 2), (10, .iload_n 2, 1), (11, .istore 5, 2), (13, .iload 5, 2), (15, .iload 4, 2), (17, .if_icmp .ge 16, 3), (20, .aload_n 0, 1), (21, .iload_n 1, 1), (22, .iload 5, 2), (24, .invokevirtual 77, 3), (27, .iinc 5 1, 3), (30, .goto (-17), 3), (33, .iload_n 2, 1), (34, .iload 4, 2), (36, .invokestatic 80, 3), (39, .ireturn, 1)]
def ez_t47 : List (Nat × Instr × Nat) := [(0, .aload_n 0, 1), (1, .getfield 32, 3), (4, .iload_n 2, 1), (5, .invokevirtual 61, 3), (8, .istore_n 3, 1), (9, .iload_n 1, 1), (10, .istore 4, 2), (12, .iload_n 2, 1), (13, .istore 5, 2), (15, .iload 4, 2), (17, .iload 5, 2), (19, .if_icmp .ge 48, 3), (22, .iload 4, 2), (24, .iload 5, 2), (26, .iadd, 1), (27, .iconst 2, 1), (28, .idiv, 1), (29, .istore 6, 2), (31, .aload_n 0, 1), (32, .getfield 32, 3), (35, .iload_n 3, 1), (36, .aload_n 0, 1), (37, .getfield 32, 3), (40, .iload 6, 2), (42, .invokevirtual 61, 3), (45, .invokevirtual 65, 3), (48, .ifCond .eq 10, 3), (51, .iload 6, 2), (53, .istore 5, 2), (55, .goto 9, 3), (58, .iload 6, 2), (60, .iconst 1, 1), (61, .iadd, 1), (62, .istore 4, 2), (64, .goto (-49), 3), (67, .iload_n 2, 1), (68, .istore 6, 2), (70, .iload 6, 2), (72, .iload 4, 2), (74, .if_icmp .le 29, 3), (77, .aload_n 0, 1), (78, .getfield 32, 3), (81, .iload 6, 2), (83, .aload_n 0, 1), (84, .getfield 32, 3), (87, .iload 6, 2), (89, .iconst 1, 1), (90, .isub, 1), (91, .invokevirtual 61, 3), (94, .invokevirtual 83, 3), (97, .iinc 6 (-1), 3), (100, .goto (-30), 3), (103, .aload_n 0, 1), (104, .getfield 32, 3), (107, .iload 4, 2), (109, .iload_n 3, 1), (110, .invokevirtual 83, 3), (113, .return_, 1)]
def ez_t48 : List (Nat × Instr × Nat) := [(0, .aload_n 0, 1), (1, .getfield 28, 3), (4, .ifCond .lt 42, 3), (7, .aload_n 0, 1), (8, .getfield 28, 3), (11, .bipush 40, 2), (13, .if_icmp .ge 33, 3), (16, .aload_n 0, 1), (17, .getfield 11, 3), (20, .aload_n 0, 1), (21, .getfield 28, 3), (24, .iload_n 1, 1), (25, .iastore, 1), (26, .aload_n 0, 1), (27, .getfield 15, 3), (30, .aload_n 0, 1), (31, .getfield 28, 3), (34, .iload_n 2, 1), (35, .iastore, 1), (36, .aload_n 0, 1), (37, .dup, 1), (38, .getfield 28, 3), (41, .iconst 1, 1), (42, .iadd, 1), (43, .putfield 28, 3), (46, .aload_n 0, 1), (47, .dup, 1), (48, .getfield 21, 3), (51, .lconst 1, 1), (52, .ladd, 1), (53, .putfield 21, 3), (56, .return_, 1)]
def ez_t49 : List (Nat × Instr × Nat) := [(0, .iload_n 1, 1), (1, .ifCond .lt 18, 3), (4, .iload_n 1, 1), (5, .bipush 40, 2), (7, .if_icmp .ge 12, 3), (10, .aload_n 0, 1), (11, .getfield 15, 3), (14, .iload_n 1, 1), (15, .iaload, 1), (16, .goto 4, 3), (19, .iconst 0, 1), (20, .ireturn, 1)]
def ez_t50 : List (Nat × Instr × Nat) := [(0, .iload_n 1, 1), (1, .ifCond .lt 18, 3), (4, .iload_n 1, 1), (5, .bipush 40, 2), (7, .if_icmp .ge 12, 3), (10, .aload_n 0, 1), (11, .getfield 11, 3), (14, .iload_n 1, 1), (15, .iaload, 1), (16, .goto 4, 3), (19, .iconst 0, 1), (20, .ireturn, 1)]
def ez_t51 : List (Nat × Instr × Nat) := [(0, .aload_n 0, 1), (1, .getfield 28, 3), (4, .istore_n 1, 1), (5, .iload_n 1, 1), (6, .iconst 2, 1), (7, .if_icmp .lt 62, 3), (10, .aload_n 0, 1), (11, .getfield 28, 3), (14, .iconst 1, 1), (15, .isub, 1), (16, .istore_n 2, 1), (17, .aload_n 0, 1), (18, .iload_n 2, 1), (19, .invokevirtual 86, 3), (22, .ifCond .eq 15, 3), (25, .aload_n 0, 1), (26, .aload_n 0, 1), (27, .iload_n 2, 1), (28, .invokevirtual 90, 3), (31, .invokevirtual 93, 3), (34, .goto 29, 3), (37, .aload_n 0, 1), (38, .iload_n 2, 1), (39, .iconst 1, 1), (40, .isub, 1), (41, .invokevirtual 97, 3), (44, .aload_n 0, 1), (45, .iload_n 2, 1), (46, .invokevirtual 97, 3), (49, .if_icmp .gt 13, 3), (52, .aload_n 0, 1), (53, .iload_n 2, 1), (54, .iconst 1, 1), (55, .isub, 1), (56, .invokevirtual 93, 3), (59, .goto 4, 3), (62, .return_, 1), (63, .iinc 1 (-1), 3), (66, .goto (-61), 3), (69, .return_, 1)]
def ez_t52 : List (Nat × Instr × Nat) := [(0, .aload_n 0, 1), (1, .getfield 28, 3), (4, .istore_n 1, 1), (5, .iload_n 1, 1), (6, .iconst 2, 1), (7, .if_icmp .lt 23, 3), (10, .aload_n 0, 1), (11, .aload_n 0, 1), (12, .aload_n 0, 1), (13, .getfield 28, 3), (16, .iconst 1, 1), (17, .isub, 1), (18, .invokevirtual 90, 3), (21, .invokevirtual 93, 3), (24, .iinc 1 (-1), 3), (27, .goto (-22), 3), (30, .return_, 1)]
def ez_t53 : List (Nat × Instr × Nat) := [(0, .iload_n 1, 1), (1, .iconst 2, 1), (2, .if_icmp .lt 26, 3), (5, .aload_n 0, 1), (6, .iload_n 1, 1), (7, .iconst 2, 1), (8, .isub, 1), (9, .invokevirtual 97, 3), (12, .aload_n 0, 1), (13, .iload_n 1, 1), (14, .iconst 1, 1), (15, .isub, 1), (16, .invokevirtual 97, 3), (19, .aload_n 0, 1), (20, .iload_n 1, 1), (21, .invokevirtual 97, 3), (24, .iadd, 1), (25, .if_icmp .le 33, 3), (28, .iload_n 1, 1), (29, .iconst 3, 1), (30, .if_icmp .lt 32, 3), (33, .aload_n 0, 1), (34, .iload_n 1, 1), (35, .iconst 3, 1), (36, .isub, 1), (37, .invokevirtual 97, 3), (40, .aload_n 0, 1), (41, .iload_n 1, 1), (42, .iconst 2, 1), (43, .isub, 1), (44, .invokevirtual 97, 3), (47, .aload_n 0, 1), (48, .iload_n 1, 1), (49, .iconst 1, 1), (50, .isub, 1), (51, .invokevirtual 97, 3), (54, .iadd, 1), (55, .if_icmp .gt 7, 3), (58, .iconst 1, 1), (59, .goto 4, 3), (62, .iconst 0, 1), (63, .ireturn, 1)]
def ez_t54 : List (Nat × Instr × Nat) := [(0, .iload_n 1, 1), (1, .iconst 2, 1), (2, .if_icmp .lt 24, 3), (5, .aload_n 0, 1), (6, .iload_n 1, 1), (7, .iconst 2, 1), (8, .isub, 1), (9, .invokevirtual 97, 3), (12, .aload_n 0, 1), (13, .iload_n 1, 1), (14, .invokevirtual 97, 3), (17, .if_icmp .ge 9, 3), (20, .iload_n 1, 1), (21, .iconst 2, 1), (22, .isub, 1), (23, .goto 6, 3), (26, .iload_n 1, 1), (27, .iconst 1, 1), (28, .isub, 1), (29, .ireturn, 1)]
def ez_t55 : List (Nat × Instr × Nat) := [(0, .iload_n 1, 1), (1, .ifCond .lt 22, 3), (4, .iload_n 1, 1), (5, .iconst 1, 1), (6, .iadd, 1), (7, .aload_n 0, 1), (8, .getfield 28, 3), (11, .if_icmp .ge 12, 3), (14, .aload_n 0, 1), (15, .getfield 28, 3), (18, .bipush 40, 2), (20, .if_icmp .le 4, 3), (23, .return_, 1), (24, .aload_n 0, 1), (25, .getfield 11, 3), (28, .iload_n 1, 1), (29, .iconst 1, 1), (30, .iadd, 1), (31, .iaload, 1), (32, .istore_n 2, 1), (33, .aload_n 0, 1), (34, .aload_n 0, 1), (35, .getfield 11, 3), (38, .iload_n 1, 1), (39, .iaload, 1), (40, .iload_n 2, 1), (41, .iload_n 2, 1), (42, .aload_n 0, 1), (43, .getfield 15, 3), (46, .iload_n 1, 1), (47, .iconst 1, 1), (48, .iadd, 1), (49, .iaload, 1), (50, .iadd, 1), (51, .invokevirtual 100, 3), (54, .aload_n 0, 1), (55, .getfield 15, 3), (58, .iload_n 1, 1), (59, .dup2, 1), (60, .iaload, 1), (61, .aload_n 0, 1), (62, .getfield 15, 3), (65, .iload_n 1, 1), (66, .iconst 1, 1), (67, .iadd, 1), (68, .iaload, 1), (69, .iadd, 1), (70, .iastore, 1), (71, .iload_n 1, 1), (72, .iconst 2, 1), (73, .iadd, 1), (74, .istore_n 3, 1), (75, .iload_n 3, 1), (76, .aload_n 0, 1), (77, .getfield 28, 3), (80, .if_icmp .ge 35, 3), (83, .aload_n 0, 1), (84, .getfield 11, 3), (87, .iload_n 3, 1), (88, .iconst 1, 1), (89, .isub, 1), (90, .aload_n 0, 1), (91, .iload_n 3, 1), (92, .invokevirtual 104, 3), (95, .iastore, 1), (96, .aload_n 0, 1), (97, .getfield 15, 3), (100, .iload_n 3, 1), (101, .iconst 1, 1), (102, .isub, 1), (103, .aload_n 0, 1), (104, .iload_n 3, 1), (105, .invokevirtual 97, 3), (108, .iastore, 1), (109, .iinc 3 1, 3), (112, .goto (-37), 3), (115, .aload_n 0, 1), (116, .dup, 1), (117, .getfield 28, 3), (120, .iconst 1, 1), (121, .isub, 1), (122, .putfield 28, 3), (125, .aload_n 0, 1), (126, .dup, 1), (127, .getfield 25, 3), (130, .lconst 1, 1), (131, .ladd, 1), (132, .putfield 25, 3), (135, .return_, 1)]
def ez_t56 : List (Nat × Instr × Nat) := [(0, .iload_n 2, 1), (1, .iload_n 1, 1), (2, .isub, 1), (3, .aload_n 0, 1), (4, .getfield 18, 3), (7, .arraylength, 1), (8, .invokestatic 72, 3), (11, .istore 4, 2), (13, .iconst 0, 1), (14, .istore 5, 2), (16, .iload 5, 2), (18, .iload 4, 2), (20, .if_icmp .ge 27, 3), (23, .aload_n 0, 1), (24, .getfield 18, 3), (27, .iload 5, 2), (29, .aload_n 0, 1), (30, .getfield 32, 3), (33, .iload_n 1, 1), (34, .iload 5, 2), (36, .iadd, 1), (37, .invokevirtual 61, 3), (40, .iastore, 1), (41, .iinc 5 1, 3), (44, .goto (-28), 3), (47, .iconst 0, 1), (48, .istore 5, 2), (50, .iload_n 2, 1), (51, .istore 6, 2), (53, .iload_n 1, 1), (54, .istore 7, 2), (56, .iload 5, 2), (58, .iload 4, 2), (60, .if_icmp .ge 84, 3), (63, .iload 6, 2), (65, .iload_n 3, 1), (66, .if_icmp .ge 78, 3), (69, .aload_n 0, 1), (70, .getfield 32, 3), (73, .aload_n 0, 1), (74, .getfield 32, 3), (77, .iload 6, 2), (79, .invokevirtual 61, 3), (82, .aload_n 0, 1), (83, .getfield 18, 3), (86, .iload 5, 2), (88, .iaload, 1), (89, .invokevirtual 65, 3), (92, .ifCond .eq 27, 3), (95, .aload_n 0, 1), (96, .getfield 32, 3), (99, .iload 7, 2), (101, .aload_n 0, 1), (102, .getfield 32, 3), (105, .iload 6, 2), (107, .invokevirtual 61, 3), (110, .invokevirtual 83, 3), (113, .iinc 6 1, 3), (116, .goto 22, 3), (119, .aload_n 0, 1), (120, .getfield 32, 3), (123, .iload 7, 2), (125, .aload_n 0, 1), (126, .getfield 18, 3), (129, .iload 5, 2), (131, .iaload, 1), (132, .invokevirtual 83, 3), (135, .iinc 5 1, 3), (138, .iinc 7 1, 3), (141, .goto (-85), 3), (144, .iload 5, 2), (146, .iload 4, 2), (148, .if_icmp .ge 28, 3), (151, .aload_n 0, 1), (152, .getfield 32, 3), (155, .iload 7, 2), (157, .aload_n 0, 1), (158, .getfield 18, 3), (161, .iload 5, 2), (163, .iaload, 1), (164, .invokevirtual 83, 3), (167, .iinc 7 1, 3), (170, .iinc 5 1, 3), (173, .goto (-29), 3), (176, .return_, 1)]
def ez_t57 : List (Nat × Instr × Nat) := [(0, .aload_n 0, 1), (1, .getfield 13, 3), (4, .iload_n 1, 1), (5, .invokevirtual 27, 3), (8, .istore_n 3, 1), (9, .iload_n 1, 1), (10, .istore 4, 2), (12, .iload 4, 2), (14, .iload_n 2, 1), (15, .if_icmp .lt 54, 3), (18, .aload_n 0, 1), (19, .getfield 13, 3), (22, .iload_n 3, 1), (23, .aload_n 0, 1), (24, .getfield 13, 3), (27, .iload 4, 2), (29, .iload_n 2, 1), (30, .isub, 1), (31, .invokevirtual 27, 3), (34, .invokevirtual 31, 3), (37, .ifCond .eq 32, 3), (40, .aload_n 0, 1), (41, .getfield 13, 3), (44, .iload 4, 2), (46, .aload_n 0, 1), (47, .getfield 13, 3), (50, .iload 4, 2), (52, .iload_n 2, 1), (53, .isub, 1), (54, .invokevirtual 27, 3), (57, .invokevirtual 35, 3), (60, .iload 4, 2), (62, .iload_n 2, 1), (63, .isub, 1), (64, .istore 4, 2), (66, .goto (-54), 3), (69, .aload_n 0, 1), (70, .getfield 13, 3), (73, .iload 4, 2), (75, .iload_n 3, 1), (76, .invokevirtual 35, 3), (79, .return_, 1)]
def ez_t58 : List (Nat × Instr × Nat) := [(0, .aload_n 0, 1), (1, .getfield 10, 3), (4, .invokevirtual 62, 3), (7, .istore_n 1, 1), (8, .aload_n 0, 1), (9, .getfield 10, 3), (12, .invokevirtual 161, 3), (15, .iload_n 1, 1), (16, .ireturn, 1)]
def ez_t59 : List (Nat × Instr × Nat) := [(0, .aload_n 0, 1), (1, .aload_n 0, 1), (2, .getfield 10, 3), (5, .invokevirtual 138, 3), (8, .putfield 175, 3), (11, .aload_n 0, 1), (12, .aload_n 0, 1), (13, .getfield 37, 3), (16, .invokevirtual 146, 3), (19, .putfield 178, 3), (22, .return_, 1)]
def ez_t60 : List (Nat × Instr × Nat) := [(0, .aload_n 0, 1), (1, .aload_n 0, 1), (2, .getfield 10, 3), (5, .invokevirtual 138, 3), (8, .aload_n 0, 1), (9, .getfield 175, 3), (12, .lsub, 1), (13, .putfield 142, 3), (16, .aload_n 0, 1), (17, .aload_n 0, 1), (18, .getfield 37, 3), (21, .invokevirtual 146, 3), (24, .aload_n 0, 1), (25, .getfield 178, 3), (28, .lsub, 1), (29, .putfield 149, 3), (32, .aload_n 0, 1), (33, .getfield 142, 3), (36, .l2i, 1), (37, .ireturn, 1)]
def ez_t61 : List (Nat × Instr × Nat) := [(0, .aload_n 0, 1), (1, .getfield 10, 3), (4, .aload_n 0, 1), (5, .getfield 10, 3), (8, .iload_n 2, 1), (9, .invokevirtual 131, 3), (12, .i2l, 1), (13, .invokevirtual 181, 3), (16, .lstore 4, 2), (18, .aload_n 0, 1), (19, .getfield 10, 3), (22, .aload_n 0, 1), (23, .getfield 10, 3), (26, .iload_n 3, 1), (27, .invokevirtual 131, 3), (30, .i2l, 1), (31, .invokevirtual 181, 3), (34, .lstore 6, 2), (36, .iload_n 1, 1), (37, .lookupswitch 68 #[(0, 27), (1, 41)], 27), (64, .lload 6, 2), (66, .lload 4, 2), (68, .lcmp, 1), (69, .ifCond .lt 7, 3), (72, .iconst 1, 1), (73, .goto 4, 3), (76, .iconst 0, 1), (77, .ireturn, 1), (78, .lload 6, 2), (80, .lload 4, 2), (82, .lcmp, 1), (83, .ifCond .gt 16, 3), (86, .lload 6, 2), (88, .lload 4, 2), (90, .lcmp, 1), (91, .ifCond .ne 12, 3), (94, .iload_n 3, 1), (95, .iload_n 2, 1), (96, .if_icmp .le 7, 3), (99, .iconst 1, 1), (100, .goto 4, 3), (103, .iconst 0, 1), (104, .ireturn, 1), (105, .lload 6, 2), (107, .lload 4, 2), (109, .lcmp, 1), (110, .ifCond .ge 7, 3), (113, .iconst 1, 1), (114, .goto 4, 3), (117, .iconst 0, 1), (118, .ireturn, 1)]
def ez_t62 : List (Nat × Instr × Nat) := [(0, .aload_n 0, 1), (1, .getfield 40, 3), (4, .ireturn, 1)]
def ez_t63 : List (Nat × Instr × Nat) := [(0, .aload_n 0, 1), (1, .aload_n 0, 1), (2, .getfield 44, 3), (5, .sipush 600, 3), (8, .if_icmp .ne 7, 3), (11, .iconst 1, 1), (12, .goto 4, 3), (15, .iconst 0, 1), (16, .putfield 40, 3), (19, .aload_n 0, 1), (20, .getfield 40, 3), (23, .ifCond .ne 8, 3), (26, .aload_n 0, 1), (27, .iload_n 1, 1), (28, .invokevirtual 47, 3), (31, .aload_n 0, 1), (32, .getfield 44, 3), (35, .ireturn, 1)]
def ez_t64 : List (Nat × Instr × Nat) := [(0, .aload_n 0, 1), (1, .getfield 7, 3), (4, .aload_n 0, 1), (5, .getfield 44, 3), (8, .iload_n 1, 1), (9, .iastore, 1), (10, .aload_n 0, 1), (11, .getfield 13, 3), (14, .aload_n 0, 1), (15, .getfield 44, 3), (18, .aload_n 0, 1), (19, .getfield 44, 3), (22, .iastore, 1), (23, .aload_n 0, 1), (24, .dup, 1), (25, .getfield 44, 3), (28, .iconst 1, 1), (29, .iadd, 1), (30, .putfield 44, 3), (33, .return_, 1)]
def ez_t65 : List (Nat × Instr × Nat) := [(0, .aload_n 0, 1), (1, .iload_n 3, 1), (2, .iconst 1, 1), (3, .if_icmp .lt 16, 3), (6, .iload 4, 2), (8, .ifCond .lt 11, 3), (11, .iload 4, 2), (13, .sipush 600, 3), (16, .if_icmp .le 7, 3), (19, .iconst 1, 1), (20, .goto 21, 3), (23, .aload_n 0, 1), (24, .getfield 44, 3), (27, .iload 4, 2), (29, .iadd, 1), (30, .sipush 600, 3), (33, .if_icmp .le 7, 3), (36, .iconst 2, 1), (37, .goto 4, 3), (40, .iconst 0, 1), (41, .putfield 40, 3), (44, .lload_n 1, 1), (45, .lstore 5, 2), (47, .iconst 0, 1), (48, .istore 7, 2), (50, .iload 7, 2), (52, .iload 4, 2), (54, .if_icmp .ge 41, 3), (57, .aload_n 0, 1), (58, .getfield 40, 3), (61, .ifCond .ne 34, 3), (64, .lload 5, 2), (66, .ldc2_w 51, 3), (69, .lmul, 1), (70, .ldc2_w 53, 3), (73, .ladd, 1), (74, .lstore 5, 2), (76, .aload_n 0, 1), (77, .lload 5, 2), (79, .bipush 33, 2), (81, .lushr, 1), (82, .iload_n 3, 1), (83, .i2l, 1), (84, .lrem, 1), (85, .l2i, 1), (86, .invokevirtual 47, 3), (89, .iinc 7 1, 3), (92, .goto (-42), 3), (95, .aload_n 0, 1), (96, .getfield 44, 3), (99, .ireturn, 1)]
def ez_t66 : List (Nat × Instr × Nat) := [(0, .aload_n 0, 1), (1, .iload_n 3, 1), (2, .ifCond .lt 24, 3), (5, .iload_n 3, 1), (6, .sipush 600, 3), (9, .if_icmp .gt 17, 3), (12, .iload 4, 2), (14, .iconst 1, 1), (15, .if_icmp .lt 11, 3), (18, .iload 4, 2), (20, .sipush 600, 3), (23, .if_icmp .le 7, 3), (26, .iconst 1, 1), (27, .goto 20, 3), (30, .aload_n 0, 1), (31, .getfield 44, 3), (34, .iload_n 3, 1), (35, .iadd, 1), (36, .sipush 600, 3), (39, .if_icmp .le 7, 3), (42, .iconst 2, 1), (43, .goto 4, 3), (46, .iconst 0, 1), (47, .putfield 40, 3), (50, .iconst 0, 1), (51, .istore 5, 2), (53, .iload 5, 2), (55, .iload_n 3, 1), (56, .if_icmp .ge 29, 3), (59, .aload_n 0, 1), (60, .getfield 40, 3), (63, .ifCond .ne 22, 3), (66, .aload_n 0, 1), (67, .iload_n 1, 1), (68, .iload 5, 2), (70, .iload 4, 2), (72, .idiv, 1), (73, .iload_n 2, 1), (74, .imul, 1), (75, .iadd, 1), (76, .invokevirtual 47, 3), (79, .iinc 5 1, 3), (82, .goto (-29), 3), (85, .aload_n 0, 1), (86, .getfield 44, 3), (89, .ireturn, 1)]
def ez_t67 : List (Nat × Instr × Nat) := [(0, .iload_n 1, 1), (1, .ifCond .lt 15, 3), (4, .iload_n 1, 1), (5, .aload_n 0, 1), (6, .getfield 44, 3), (9, .if_icmp .ge 7, 3), (12, .iconst 1, 1), (13, .goto 4, 3), (16, .iconst 0, 1), (17, .ireturn, 1)]
def ez_t68 : List (Nat × Instr × Nat) := [(0, .aload_n 0, 1), (1, .getfield 7, 3), (4, .iload_n 1, 1), (5, .iaload, 1), (6, .istore_n 3, 1), (7, .aload_n 0, 1), (8, .getfield 7, 3), (11, .iload_n 1, 1), (12, .aload_n 0, 1), (13, .getfield 7, 3), (16, .iload_n 2, 1), (17, .iaload, 1), (18, .iastore, 1), (19, .aload_n 0, 1), (20, .getfield 7, 3), (23, .iload_n 2, 1), (24, .iload_n 3, 1), (25, .iastore, 1), (26, .aload_n 0, 1), (27, .getfield 13, 3), (30, .iload_n 1, 1), (31, .iaload, 1), (32, .istore 4, 2), (34, .aload_n 0, 1), (35, .getfield 13, 3), (38, .iload_n 1, 1), (39, .aload_n 0, 1), (40, .getfield 13, 3), (43, .iload_n 2, 1), (44, .iaload, 1), (45, .iastore, 1), (46, .aload_n 0, 1), (47, .getfield 13, 3), (50, .iload_n 2, 1), (51, .iload 4, 2), (53, .iastore, 1), (54, .return_, 1)]
def ez_t69 : List (Nat × Instr × Nat) := [(0, .aload_n 0, 1), (1, .aload_n 0, 1), (2, .iload_n 1, 1), (3, .invokevirtual 55, 3), (6, .ifCond .eq 15, 3), (9, .aload_n 0, 1), (10, .iload_n 2, 1), (11, .invokevirtual 55, 3), (14, .ifCond .eq 7, 3), (17, .iconst 0, 1), (18, .goto 4, 3), (21, .iconst 1, 1), (22, .putfield 40, 3), (25, .aload_n 0, 1), (26, .getfield 40, 3), (29, .ifCond .ne 9, 3), (32, .aload_n 0, 1), (33, .iload_n 1, 1), (34, .iload_n 2, 1), (35, .invokevirtual 59, 3), (38, .return_, 1)]
def ez_t70 : List (Nat × Instr × Nat) := [(0, .aload_n 0, 1), (1, .iload_n 1, 1), (2, .ifCond .lt 20, 3), (5, .iload_n 1, 1), (6, .iload_n 2, 1), (7, .if_icmp .gt 15, 3), (10, .iload_n 2, 1), (11, .aload_n 0, 1), (12, .getfield 44, 3), (15, .if_icmp .gt 7, 3), (18, .iconst 0, 1), (19, .goto 4, 3), (22, .iconst 1, 1), (23, .putfield 40, 3), (26, .iconst 0, 1), (27, .istore_n 3, 1), (28, .iload_n 3, 1), (29, .iload_n 2, 1), (30, .iload_n 1, 1), (31, .isub, 1), (32, .iconst 2, 1), (33, .idiv, 1), (34, .if_icmp .ge 28, 3), (37, .aload_n 0, 1), (38, .getfield 40, 3), (41, .ifCond .ne 21, 3), (44, .aload_n 0, 1), (45, .iload_n 1, 1), (46, .iload_n 3, 1), (47, .iadd, 1), (48, .iload_n 2, 1), (49, .iconst 1, 1), (50, .isub, 1), (51, .iload_n 3, 1), (52, .isub, 1), (53, .invokevirtual 59, 3), (56, .iinc 3 1, 3), (59, .goto (-31), 3), (62, .return_, 1)]
def ez_t71 : List (Nat × Instr × Nat) := [(0, .aload_n 0, 1), (1, .iload_n 1, 1), (2, .ifCond .lt 8, 3), (5, .iload_n 1, 1), (6, .iconst 3, 1), (7, .if_icmp .le 7, 3), (10, .iconst 1, 1), (11, .goto 4, 3), (14, .iconst 0, 1), (15, .putfield 40, 3), (18, .aload_n 0, 1), (19, .getfield 63, 3), (22, .istore_n 2, 1), (23, .aload_n 0, 1), (24, .aload_n 0, 1), (25, .getfield 40, 3), (28, .ifCond .ne 7, 3), (31, .iload_n 1, 1), (32, .goto 7, 3), (35, .aload_n 0, 1), (36, .getfield 63, 3), (39, .putfield 63, 3), (42, .iload_n 2, 1), (43, .ireturn, 1)]
def ez_t72 : List (Nat × Instr × Nat) := [(0, .aload_n 0, 1), (1, .getfield 7, 3), (4, .iload_n 1, 1), (5, .iaload, 1), (6, .i2l, 1), (7, .lstore_n 2, 1), (8, .aload_n 0, 1), (9, .getfield 63, 3), (12, .ifCond .ne 7, 3), (15, .lload_n 2, 1), (16, .goto 44, 3), (19, .aload_n 0, 1), (20, .getfield 63, 3), (23, .iconst 1, 1), (24, .if_icmp .ne 8, 3), (27, .lload_n 2, 1), (28, .lneg, 1), (29, .goto 31, 3), (32, .aload_n 0, 1), (33, .getfield 63, 3), (36, .iconst 2, 1), (37, .if_icmp .ne 11, 3), (40, .lload_n 2, 1), (41, .ldc2_w 66, 3), (44, .land, 1), (45, .goto 15, 3), (48, .lload_n 2, 1), (49, .lconst 0, 1), (50, .lcmp, 1), (51, .ifCond .ge 8, 3), (54, .lload_n 2, 1), (55, .lneg, 1), (56, .goto 4, 3), (59, .lload_n 2, 1), (60, .lreturn, 1)]
def ez_t73 : List (Nat × Instr × Nat) := [(0, .aload_n 0, 1), (1, .dup, 1), (2, .getfield 68, 3), (5, .lconst 1, 1), (6, .ladd, 1), (7, .putfield 68, 3), (10, .aload_n 0, 1), (11, .dup, 1), (12, .getfield 72, 3), (15, .lconst 1, 1), (16, .ladd, 1), (17, .putfield 72, 3), (20, .aload_n 0, 1), (21, .getfield 75, 3), (24, .ifCond .ne 23, 3), (27, .aload_n 0, 1), (28, .iload_n 1, 1), (29, .invokevirtual 79, 3), (32, .aload_n 0, 1), (33, .iload_n 2, 1), (34, .invokevirtual 79, 3), (37, .lcmp, 1), (38, .ifCond .ge 7, 3), (41, .iconst 1, 1), (42, .goto 4, 3), (45, .iconst 0, 1), (46, .ireturn, 1), (47, .aload_n 0, 1), (48, .getfield 16, 3), (51, .iload_n 1, 1), (52, .iaload, 1), (53, .ifCond .ge 44, 3), (56, .aload_n 0, 1), (57, .getfield 16, 3), (60, .iload_n 2, 1), (61, .iaload, 1), (62, .ifCond .ge 35, 3), (65, .aload_n 0, 1), (66, .getfield 16, 3), (69, .aload_n 0, 1), (70, .getfield 83, 3), (73, .iload_n 1, 1), (74, .if_icmp .ne 7, 3), (77, .iload_n 1, 1), (78, .goto 4, 3), (81, .iload_n 2, 1), (82, .aload_n 0, 1), (83, .getfield 86, 3), (86, .iastore, 1), (87, .aload_n 0, 1), (88, .dup, 1), (89, .getfield 86, 3), (92, .iconst 1, 1), (93, .iadd, 1), (94, .putfield 86, 3), (97, .aload_n 0, 1), (98, .getfield 16, 3), (101, .iload_n 1, 1), (102, .iaload, 1), (103, .ifCond .ge 11, 3), (106, .aload_n 0, 1), (107, .iload_n 1, 1), (108, .putfield 83, 3), (111, .goto 17, 3), (114, .aload_n 0, 1), (115, .getfield 16, 3), (118, .iload_n 2, 1), (119, .iaload, 1), (120, .ifCond .ge 8, 3), (123, .aload_n 0, 1), (124, .iload_n 2, 1), (125, .putfield 83, 3), (128, .aload_n 0, 1), (129, .getfield 16, 3), (132, .iload_n 1, 1), (133, .iaload, 1), (134, .ifCond .lt 31, 3), (137, .aload_n 0, 1), (138, .getfield 16, 3), (141, .iload_n 2, 1), (142, .iaload, 1), (143, .ifCond .lt 18, 3), (146, .aload_n 0, 1), (147, .getfield 16, 3), (150, .iload_n 1, 1), (151, .iaload, 1), (152, .aload_n 0, 1), (153, .getfield 16, 3), (156, .iload_n 2, 1), (157, .iaload, 1), (158, .if_icmp .ge 7, 3), (161, .iconst 1, 1), (162, .goto 4, 3), (165, .iconst 0, 1), (166, .ireturn, 1)]
def ez_t74 : List (Nat × Instr × Nat) := [(0, .aload_n 0, 1), (1, .aload_n 0, 1), (2, .getfield 19, 3), (5, .iload_n 1, 1), (6, .iaload, 1), (7, .aload_n 0, 1), (8, .getfield 19, 3), (11, .iload_n 2, 1), (12, .iaload, 1), (13, .invokevirtual 89, 3), (16, .ireturn, 1)]
def ez_t75 : List (Nat × Instr × Nat) := [(0, .aload_n 0, 1), (1, .getfield 19, 3), (4, .iload_n 1, 1), (5, .iaload, 1), (6, .istore_n 3, 1), (7, .aload_n 0, 1), (8, .getfield 19, 3), (11, .iload_n 1, 1), (12, .aload_n 0, 1), (13, .getfield 19, 3), (16, .iload_n 2, 1), (17, .iaload, 1), (18, .iastore, 1), (19, .aload_n 0, 1), (20, .getfield 19, 3), (23, .iload_n 2, 1), (24, .iload_n 3, 1), (25, .iastore, 1), (26, .return_, 1)]
def ez_t76 : List (Nat × Instr × Nat) := [(0, .iconst 0, 1), (1, .istore 5, 2), (3, .iload_n 1, 1), (4, .iconst 1, 1), (5, .iadd, 1), (6, .istore 6, 2), (8, .iload 6, 2), (10, .iload_n 2, 1), (11, .if_icmp .ge 133, 3), (14, .iload 4, 2), (16, .ifCond .eq 12, 3), (19, .iload 5, 2), (21, .bipush 8, 2), (23, .if_icmp .le 5, 3), (26, .iconst 0, 1), (27, .ireturn, 1), (28, .aload_n 0, 1), (29, .iload 6, 2), (31, .iload 6, 2), (33, .iconst 1, 1), (34, .isub, 1), (35, .invokevirtual 93, 3), (38, .ifCond .eq 100, 3), (41, .aload_n 0, 1), (42, .getfield 19, 3), (45, .iload 6, 2), (47, .iaload, 1), (48, .istore 7, 2), (50, .iload 6, 2), (52, .istore 8, 2), (54, .iconst 1, 1), (55, .istore 9, 2), (57, .iload 9, 2), (59, .ifCond .eq 60, 3), (62, .aload_n 0, 1), (63, .getfield 19, 3), (66, .iload 8, 2), (68, .aload_n 0, 1), (69, .getfield 19, 3), (72, .iload 8, 2), (74, .iconst 1, 1), (75, .isub, 1), (76, .iaload, 1), (77, .iastore, 1), (78, .iinc 8 (-1), 3), (81, .iload_n 3, 1), (82, .ifCond .eq 9, 3), (85, .iload 8, 2), (87, .iload_n 1, 1), (88, .if_icmp .le 25, 3), (91, .aload_n 0, 1), (92, .iload 7, 2), (94, .aload_n 0, 1), (95, .getfield 19, 3), (98, .iload 8, 2), (100, .iconst 1, 1), (101, .isub, 1), (102, .iaload, 1), (103, .invokevirtual 89, 3), (106, .ifCond .eq 7, 3), (109, .iconst 1, 1), (110, .goto 4, 3), (113, .iconst 0, 1), (114, .istore 9, 2), (116, .goto (-59), 3), (119, .aload_n 0, 1), (120, .getfield 19, 3), (123, .iload 8, 2), (125, .iload 7, 2), (127, .iastore, 1), (128, .iload 5, 2), (130, .iload 6, 2), (132, .iadd, 1), (133, .iload 8, 2), (135, .isub, 1), (136, .istore 5, 2), (138, .iinc 6 1, 3), (141, .goto (-133), 3), (144, .iconst 1, 1), (145, .ireturn, 1)]
def ez_t77 : List (Nat × Instr × Nat) := [(0, .iload_n 2, 1), (1, .istore 4, 2), (3, .aload_n 0, 1), (4, .getfield 19, 3), (7, .iload_n 1, 1), (8, .iload 4, 2), (10, .iadd, 1), (11, .iaload, 1), (12, .istore 5, 2), (14, .iconst 1, 1), (15, .istore 6, 2), (17, .iload 6, 2), (19, .ifCond .eq 96, 3), (22, .iconst 2, 1), (23, .iload 4, 2), (25, .imul, 1), (26, .iconst 1, 1), (27, .iadd, 1), (28, .iload_n 3, 1), (29, .if_icmp .ge 86, 3), (32, .iconst 2, 1), (33, .iload 4, 2), (35, .imul, 1), (36, .iconst 1, 1), (37, .iadd, 1), (38, .istore 7, 2), (40, .iload 7, 2), (42, .iconst 1, 1), (43, .iadd, 1), (44, .iload_n 3, 1), (45, .if_icmp .ge 23, 3), (48, .aload_n 0, 1), (49, .iload_n 1, 1), (50, .iload 7, 2), (52, .iadd, 1), (53, .iload_n 1, 1), (54, .iload 7, 2), (56, .iadd, 1), (57, .iconst 1, 1), (58, .iadd, 1), (59, .invokevirtual 93, 3), (62, .ifCond .eq 6, 3), (65, .iinc 7 1, 3), (68, .aload_n 0, 1), (69, .iload 5, 2), (71, .aload_n 0, 1), (72, .getfield 19, 3), (75, .iload_n 1, 1), (76, .iload 7, 2), (78, .iadd, 1), (79, .iaload, 1), (80, .invokevirtual 89, 3), (83, .istore 6, 2), (85, .iload 6, 2), (87, .ifCond .eq 25, 3), (90, .aload_n 0, 1), (91, .getfield 19, 3), (94, .iload_n 1, 1), (95, .iload 4, 2), (97, .iadd, 1), (98, .aload_n 0, 1), (99, .getfield 19, 3), (102, .iload_n 1, 1), (103, .iload 7, 2), (105, .iadd, 1), (106, .iaload, 1), (107, .iastore, 1), (108, .iload 7, 2), (110, .istore 4, 2), (112, .goto (-95), 3), (115, .aload_n 0, 1), (116, .getfield 19, 3), (119, .iload_n 1, 1), (120, .iload 4, 2), (122, .iadd, 1), (123, .iload 5, 2), (125, .iastore, 1), (126, .return_, 1)]
def ez_t78 : List (Nat × Instr × Nat) := [(0, .iload_n 2, 1), (1, .iload_n 1, 1), (2, .isub, 1), (3, .istore_n 3, 1), (4, .iload_n 3, 1), (5, .iconst 2, 1), (6, .idiv, 1), (7, .iconst 1, 1), (8, .isub, 1), (9, .istore 4, 2), (11, .iload 4, 2), (13, .ifCond .lt 17, 3), (16, .aload_n 0, 1), (17, .iload_n 1, 1), (18, .iload 4, 2), (20, .iload_n 3, 1), (21, .invokevirtual 96, 3), (24, .iinc 4 (-1), 3), (27, .goto (-16), 3), (30, .iload_n 3, 1), (31, .iconst 1, 1), (32, .isub, 1), (33, .istore 4, 2), (35, .iload 4, 2), (37, .ifCond .le 26, 3), (40, .aload_n 0, 1), (41, .iload_n 1, 1), (42, .iload_n 1, 1), (43, .iload 4, 2), (45, .iadd, 1), (46, .invokevirtual 100, 3), (49, .aload_n 0, 1), (50, .iload_n 1, 1), (51, .iconst 0, 1), (52, .iload 4, 2), (54, .invokevirtual 96, 3), (57, .iinc 4 (-1), 3), (60, .goto (-25), 3), (63, .return_, 1)]
def ez_t79 : List (Nat × Instr × Nat) := [(0, .aload_n 0, 1), (1, .iload_n 2, 1), (2, .iload_n 1, 1), (3, .invokevirtual 93, 3), (6, .ifCond .eq 9, 3), (9, .aload_n 0, 1), (10, .iload_n 1, 1), (11, .iload_n 2, 1), (12, .invokevirtual 100, 3), (15, .return_, 1)]
def ez_t80 : List (Nat × Instr × Nat) := [(0, .aload_n 0, 1), (1, .iload_n 1, 1), (2, .iload_n 2, 1), (3, .invokevirtual 103, 3), (6, .aload_n 0, 1), (7, .iload_n 2, 1), (8, .iload_n 3, 1), (9, .invokevirtual 103, 3), (12, .aload_n 0, 1), (13, .iload_n 1, 1), (14, .iload_n 2, 1), (15, .invokevirtual 103, 3), (18, .return_, 1)]
def ez_t81 : List (Nat × Instr × Nat) := [(0, .aload_n 0, 1), (1, .getfield 19, 3), (4, .iload_n 1, 1), (5, .iaload, 1), (6, .istore_n 3, 1), (7, .iload_n 1, 1), (8, .istore 4, 2), (10, .iload_n 2, 1), (11, .iconst 1, 1), (12, .isub, 1), (13, .istore 5, 2), (15, .aload_n 0, 1), (16, .iload_n 3, 1), (17, .aload_n 0, 1), (18, .getfield 19, 3), (21, .iload 5, 2), (23, .iaload, 1), (24, .invokevirtual 89, 3), (27, .ifCond .eq 9, 3), (30, .iinc 5 (-1), 3), (33, .goto (-18), 3), (36, .iconst 1, 1), (37, .istore 6, 2), (39, .iload 5, 2), (41, .iconst 1, 1), (42, .iadd, 1), (43, .iload_n 2, 1), (44, .if_icmp .ne 43, 3), (47, .iload 6, 2), (49, .ifCond .eq 71, 3), (52, .iload 4, 2), (54, .iload 5, 2), (56, .if_icmp .ge 64, 3), (59, .iinc 4 1, 3), (62, .aload_n 0, 1), (63, .iload_n 3, 1), (64, .aload_n 0, 1), (65, .getfield 19, 3), (68, .iload 4, 2), (70, .iaload, 1), (71, .invokevirtual 89, 3), (74, .ifCond .ne 7, 3), (77, .iconst 1, 1), (78, .goto 4, 3), (81, .iconst 0, 1), (82, .istore 6, 2), (84, .goto (-37), 3), (87, .iload 6, 2), (89, .ifCond .eq 31, 3), (92, .iinc 4 1, 3), (95, .aload_n 0, 1), (96, .iload_n 3, 1), (97, .aload_n 0, 1), (98, .getfield 19, 3), (101, .iload 4, 2), (103, .iaload, 1), (104, .invokevirtual 89, 3), (107, .ifCond .ne 7, 3), (110, .iconst 1, 1), (111, .goto 4, 3), (114, .iconst 0, 1), (115, .istore 6, 2), (117, .goto (-30), 3), (120, .iload 4, 2), (122, .iload 5, 2), (124, .if_icmp .ge 59, 3), (127, .aload_n 0, 1), (128, .iload 4, 2), (130, .iload 5, 2), (132, .invokevirtual 100, 3), (135, .iinc 5 (-1), 3), (138, .aload_n 0, 1), (139, .iload_n 3, 1), (140, .aload_n 0, 1), (141, .getfield 19, 3), (144, .iload 5, 2), (146, .iaload, 1), (147, .invokevirtual 89, 3), (150, .ifCond .eq 9, 3), (153, .iinc 5 (-1), 3), (156, .goto (-18), 3), (159, .iinc 4 1, 3), (162, .aload_n 0, 1), (163, .iload_n 3, 1), (164, .aload_n 0, 1), (165, .getfield 19, 3), (168, .iload 4, 2), (170, .iaload, 1), (171, .invokevirtual 89, 3), (174, .ifCond .ne (-54), 3), (177, .iinc 4 1, 3), (180, .goto (-18), 3), (183, .aload_n 0, 1), (184, .getfield 19, 3), (187, .iload_n 1, 1), (188, .aload_n 0, 1), (189, .getfield 19, 3), (192, .iload 5, 2), (194, .iaload, 1), (195, .iastore, 1), (196, .aload_n 0, 1), (197, .getfield 19, 3), (200, .iload 5, 2), (202, .iload_n 3, 1), (203, .iastore, 1), (204, .iload 5, 2), (206, .iconst 1, 1), (207, .iadd, 1), (208, .ireturn, 1)]
def ez_t82 : List (Nat × Instr × Nat) := [(0, .aload_n 0, 1), (1, .getfield 19, 3), (4, .iload_n 1, 1), (5, .iaload, 1), (6, .istore_n 3, 1), (7, .iload_n 1, 1), (8, .iconst 1, 1), (9, .iadd, 1), (10, .istore 4, 2), (12, .iload_n 2, 1), (13, .istore 5, 2), (15, .aload_n 0, 1), (16, .aload_n 0, 1), (17, .getfield 19, 3), (20, .iload 4, 2), (22, .iaload, 1), (23, .iload_n 3, 1), (24, .invokevirtual 89, 3), (27, .ifCond .eq 9, 3), (30, .iinc 4 1, 3), (33, .goto (-18), 3), (36, .iconst 1, 1), (37, .istore 6, 2), (39, .iload 4, 2), (41, .iconst 1, 1), (42, .isub, 1), (43, .iload_n 1, 1), (44, .if_icmp .ne 43, 3), (47, .iload 6, 2), (49, .ifCond .eq 71, 3), (52, .iload 4, 2), (54, .iload 5, 2), (56, .if_icmp .ge 64, 3), (59, .iinc 5 (-1), 3), (62, .aload_n 0, 1), (63, .aload_n 0, 1), (64, .getfield 19, 3), (67, .iload 5, 2), (69, .iaload, 1), (70, .iload_n 3, 1), (71, .invokevirtual 89, 3), (74, .ifCond .ne 7, 3), (77, .iconst 1, 1), (78, .goto 4, 3), (81, .iconst 0, 1), (82, .istore 6, 2), (84, .goto (-37), 3), (87, .iload 6, 2), (89, .ifCond .eq 31, 3), (92, .iinc 5 (-1), 3), (95, .aload_n 0, 1), (96, .aload_n 0, 1), (97, .getfield 19, 3), (100, .iload 5, 2), (102, .iaload, 1), (103, .iload_n 3, 1), (104, .invokevirtual 89, 3), (107, .ifCond .ne 7, 3), (110, .iconst 1, 1), (111, .goto 4, 3), (114, .iconst 0, 1), (115, .istore 6, 2), (117, .goto (-30), 3), (120, .aload_n 0, 1), (121, .iload 4, 2), (123, .iload 5, 2), (125, .if_icmp .lt 7, 3), (128, .iconst 1, 1), (129, .goto 4, 3), (132, .iconst 0, 1), (133, .putfield 106, 3), (136, .iload 4, 2), (138, .iload 5, 2), (140, .if_icmp .ge 59, 3), (143, .aload_n 0, 1), (144, .iload 4, 2), (146, .iload 5, 2), (148, .invokevirtual 100, 3), (151, .iinc 4 1, 3), (154, .aload_n 0, 1), (155, .aload_n 0, 1), (156, .getfield 19, 3), (159, .iload 4, 2), (161, .iaload, 1), (162, .iload_n 3, 1), (163, .invokevirtual 89, 3), (166, .ifCond .eq 9, 3), (169, .iinc 4 1, 3), (172, .goto (-18), 3), (175, .iinc 5 (-1), 3), (178, .aload_n 0, 1), (179, .aload_n 0, 1), (180, .getfield 19, 3), (183, .iload 5, 2), (185, .iaload, 1), (186, .iload_n 3, 1), (187, .invokevirtual 89, 3), (190, .ifCond .ne (-54), 3), (193, .iinc 5 (-1), 3), (196, .goto (-18), 3), (199, .aload_n 0, 1), (200, .getfield 19, 3), (203, .iload_n 1, 1), (204, .aload_n 0, 1), (205, .getfield 19, 3), (208, .iload 4, 2), (210, .iconst 1, 1), (211, .isub, 1), (212, .iaload, 1), (213, .iastore, 1), (214, .aload_n 0, 1), (215, .getfield 19, 3), (218, .iload 4, 2), (220, .iconst 1, 1), (221, .isub, 1), (222, .iload_n 3, 1), (223, .iastore, 1), (224, .aload_n 0, 1), (225, .dup, 1), (226, .getfield 109, 3), (229, .lconst 1, 1), (230, .ladd, 1), (231, .putfield 109, 3), (234, .iload 4, 2), (236, .iconst 1, 1), (237, .isub, 1), (238, .ireturn, 1)]
def ez_t83 : List (Nat × Instr × Nat) := [(0, .iload_n 2, 1), (1, .iload_n 1, 1), (2, .isub, 1), (3, .istore 4, 2), (5, .iload_n 3, 1), (6, .iload_n 2, 1), (7, .isub, 1), (8, .iconst 1, 1), (9, .isub, 1), (10, .istore 5, 2), (12, .iload 4, 2), (14, .iconst 4, 1), (15, .idiv, 1), (16, .istore 6, 2), (18, .iload 4, 2), (20, .bipush 24, 2), (22, .if_icmp .lt 23, 3), (25, .aload_n 0, 1), (26, .iload_n 1, 1), (27, .iload_n 1, 1), (28, .iload 6, 2), (30, .iadd, 1), (31, .invokevirtual 100, 3), (34, .aload_n 0, 1), (35, .iload_n 2, 1), (36, .iconst 1, 1), (37, .isub, 1), (38, .iload_n 2, 1), (39, .iload 6, 2), (41, .isub, 1), (42, .invokevirtual 100, 3), (45, .iload 4, 2), (47, .sipush 128, 3), (50, .if_icmp .le 55, 3), (53, .aload_n 0, 1), (54, .iload_n 1, 1), (55, .iconst 1, 1), (56, .iadd, 1), (57, .iload_n 1, 1), (58, .iload 6, 2), (60, .iadd, 1), (61, .iconst 1, 1), (62, .iadd, 1), (63, .invokevirtual 100, 3), (66, .aload_n 0, 1), (67, .iload_n 1, 1), (68, .iconst 2, 1), (69, .iadd, 1), (70, .iload_n 1, 1), (71, .iload 6, 2), (73, .iadd, 1), (74, .iconst 2, 1), (75, .iadd, 1), (76, .invokevirtual 100, 3), (79, .aload_n 0, 1), (80, .iload_n 2, 1), (81, .iconst 2, 1), (82, .isub, 1), (83, .iload_n 2, 1), (84, .iload 6, 2), (86, .isub, 1), (87, .iconst 1, 1), (88, .isub, 1), (89, .invokevirtual 100, 3), (92, .aload_n 0, 1), (93, .iload_n 2, 1), (94, .iconst 3, 1), (95, .isub, 1), (96, .iload_n 2, 1), (97, .iload 6, 2), (99, .isub, 1), (100, .iconst 2, 1), (101, .isub, 1), (102, .invokevirtual 100, 3), (105, .iload 5, 2), (107, .iconst 4, 1), (108, .idiv, 1), (109, .istore 6, 2), (111, .iload 5, 2), (113, .bipush 24, 2), (115, .if_icmp .lt 27, 3), (118, .aload_n 0, 1), (119, .iload_n 2, 1), (120, .iconst 1, 1), (121, .iadd, 1), (122, .iload_n 2, 1), (123, .iconst 1, 1), (124, .iadd, 1), (125, .iload 6, 2), (127, .iadd, 1), (128, .invokevirtual 100, 3), (131, .aload_n 0, 1), (132, .iload_n 3, 1), (133, .iconst 1, 1), (134, .isub, 1), (135, .iload_n 3, 1), (136, .iload 6, 2), (138, .isub, 1), (139, .invokevirtual 100, 3), (142, .iload 5, 2), (144, .sipush 128, 3), (147, .if_icmp .le 55, 3), (150, .aload_n 0, 1), (151, .iload_n 2, 1), (152, .iconst 2, 1), (153, .iadd, 1), (154, .iload_n 2, 1), (155, .iconst 2, 1), (156, .iadd, 1), (157, .iload 6, 2), (159, .iadd, 1), (160, .invokevirtual 100, 3), (163, .aload_n 0, 1), (164, .iload_n 2, 1), (165, .iconst 3, 1), (166, .iadd, 1), (167, .iload_n 2, 1), (168, .iconst 3, 1), (169, .iadd, 1), (170, .iload 6, 2), (172, .iadd, 1), (173, .invokevirtual 100, 3), (176, .aload_n 0, 1), (177, .iload_n 3, 1), (178, .iconst 2, 1), (179, .isub, 1), (180, .iload_n 3, 1), (181, .iconst 1, 1), (182, .isub, 1), (183, .iload 6, 2), (185, .isub, 1), (186, .invokevirtual 100, 3), (189, .aload_n 0, 1), (190, .iload_n 3, 1), (191, .iconst 3, 1), (192, .isub, 1), (193, .iload_n 3, 1), (194, .iconst 2, 1), (195, .isub, 1), (196, .iload 6, 2), (198, .isub, 1), (199, .invokevirtual 100, 3), (202, .return_, 1)]
def ez_t84 : List (Nat × Instr × Nat) := [(0, .iload_n 2, 1), (1, .iload_n 1, 1), (2, .isub, 1), (3, .iconst 2, 1), (4, .idiv, 1), (5, .istore_n 3, 1), (6, .iload_n 2, 1), (7, .iload_n 1, 1), (8, .isub, 1), (9, .sipush 128, 3), (12, .if_icmp .le 72, 3), (15, .aload_n 0, 1), (16, .iload_n 1, 1), (17, .iload_n 1, 1), (18, .iload_n 3, 1), (19, .iadd, 1), (20, .iload_n 2, 1), (21, .iconst 1, 1), (22, .isub, 1), (23, .invokevirtual 112, 3), (26, .aload_n 0, 1), (27, .iload_n 1, 1), (28, .iconst 1, 1), (29, .iadd, 1), (30, .iload_n 1, 1), (31, .iload_n 3, 1), (32, .iadd, 1), (33, .iconst 1, 1), (34, .isub, 1), (35, .iload_n 2, 1), (36, .iconst 2, 1), (37, .isub, 1), (38, .invokevirtual 112, 3), (41, .aload_n 0, 1), (42, .iload_n 1, 1), (43, .iconst 2, 1), (44, .iadd, 1), (45, .iload_n 1, 1), (46, .iload_n 3, 1), (47, .iadd, 1), (48, .iconst 1, 1), (49, .iadd, 1), (50, .iload_n 2, 1), (51, .iconst 3, 1), (52, .isub, 1), (53, .invokevirtual 112, 3), (56, .aload_n 0, 1), (57, .iload_n 1, 1), (58, .iload_n 3, 1), (59, .iadd, 1), (60, .iconst 1, 1), (61, .isub, 1), (62, .iload_n 1, 1), (63, .iload_n 3, 1), (64, .iadd, 1), (65, .iload_n 1, 1), (66, .iload_n 3, 1), (67, .iadd, 1), (68, .iconst 1, 1), (69, .iadd, 1), (70, .invokevirtual 112, 3), (73, .aload_n 0, 1), (74, .iload_n 1, 1), (75, .iload_n 1, 1), (76, .iload_n 3, 1), (77, .iadd, 1), (78, .invokevirtual 100, 3), (81, .goto 14, 3), (84, .aload_n 0, 1), (85, .iload_n 1, 1), (86, .iload_n 3, 1), (87, .iadd, 1), (88, .iload_n 1, 1), (89, .iload_n 2, 1), (90, .iconst 1, 1), (91, .isub, 1), (92, .invokevirtual 112, 3), (95, .return_, 1)]
def ez_t85 : List (Nat × Instr × Nat) := [(0, .iconst 0, 1), (1, .istore_n 2, 1), (2, .iload_n 1, 1), (3, .istore_n 3, 1), (4, .iload_n 3, 1), (5, .iconst 1, 1), (6, .if_icmp .le 13, 3), (9, .iinc 2 1, 3), (12, .iload_n 3, 1), (13, .iconst 2, 1), (14, .idiv, 1), (15, .istore_n 3, 1), (16, .goto (-12), 3), (19, .aload_n 0, 1), (20, .iconst 0, 1), (21, .putfield 115, 3), (24, .aload_n 0, 1), (25, .iconst 0, 1), (26, .iload_n 1, 1), (27, .iload_n 2, 1), (28, .invokevirtual 118, 3), (31, .aload_n 0, 1), (32, .getfield 115, 3), (35, .ifCond .le 47, 3), (38, .aload_n 0, 1), (39, .dup, 1), (40, .getfield 115, 3), (43, .iconst 1, 1), (44, .isub, 1), (45, .putfield 115, 3), (48, .aload_n 0, 1), (49, .aload_n 0, 1), (50, .getfield 31, 3), (53, .aload_n 0, 1), (54, .getfield 115, 3), (57, .iaload, 1), (58, .aload_n 0, 1), (59, .getfield 34, 3), (62, .aload_n 0, 1), (63, .getfield 115, 3), (66, .iaload, 1), (67, .aload_n 0, 1), (68, .getfield 37, 3), (71, .aload_n 0, 1), (72, .getfield 115, 3), (75, .iaload, 1), (76, .invokevirtual 121, 3), (79, .goto (-48), 3), (82, .return_, 1)]
def ez_t86 : List (Nat × Instr × Nat) := [(0, .aload_n 0, 1), (1, .getfield 31, 3), (4, .aload_n 0, 1), (5, .getfield 115, 3), (8, .iload_n 1, 1), (9, .iastore, 1), (10, .aload_n 0, 1), (11, .getfield 34, 3), (14, .aload_n 0, 1), (15, .getfield 115, 3), (18, .iload_n 2, 1), (19, .iastore, 1), (20, .aload_n 0, 1), (21, .getfield 37, 3), (24, .aload_n 0, 1), (25, .getfield 115, 3), (28, .iload_n 3, 1), (29, .iastore, 1), (30, .aload_n 0, 1), (31, .dup, 1), (32, .getfield 115, 3), (35, .iconst 1, 1), (36, .iadd, 1), (37, .putfield 115, 3), (40, .return_, 1)]
def ez_t87 : List (Nat × Instr × Nat) := [(0, .iload_n 2, 1), (1, .iload_n 1, 1), (2, .isub, 1), (3, .istore 4, 2), (5, .iload 4, 2), (7, .bipush 24, 2), (9, .if_icmp .ge 22, 3), (12, .aload_n 0, 1), (13, .iload_n 1, 1), (14, .iload_n 2, 1), (15, .iload_n 1, 1), (16, .ifCond .ne 7, 3), (19, .iconst 1, 1), (20, .goto 4, 3), (23, .iconst 0, 1), (24, .iconst 0, 1), (25, .invokevirtual 124, 3), (28, .istore 5, 2), (30, .return_, 1), (31, .aload_n 0, 1), (32, .iload_n 1, 1), (33, .iload_n 2, 1), (34, .invokevirtual 128, 3), (37, .iload_n 1, 1), (38, .ifCond .le 31, 3), (41, .aload_n 0, 1), (42, .iload_n 1, 1), (43, .iconst 1, 1), (44, .isub, 1), (45, .iload_n 1, 1), (46, .invokevirtual 93, 3), (49, .ifCond .ne 20, 3), (52, .aload_n 0, 1), (53, .iload_n 1, 1), (54, .iload_n 2, 1), (55, .invokevirtual 131, 3), (58, .istore 5, 2), (60, .aload_n 0, 1), (61, .iload 5, 2), (63, .iload_n 2, 1), (64, .iload_n 3, 1), (65, .invokevirtual 118, 3), (68, .return_, 1), (69, .aload_n 0, 1), (70, .iload_n 1, 1), (71, .iload_n 2, 1), (72, .invokevirtual 135, 3), (75, .istore 5, 2), (77, .aload_n 0, 1), (78, .getfield 106, 3), (81, .istore 6, 2), (83, .iload_n 3, 1), (84, .istore 7, 2), (86, .iload 5, 2), (88, .iload_n 1, 1), (89, .isub, 1), (90, .iload 4, 2), (92, .bipush 8, 2), (94, .idiv, 1), (95, .if_icmp .lt 17, 3), (98, .iload_n 2, 1), (99, .iload 5, 2), (101, .isub, 1), (102, .iconst 1, 1), (103, .isub, 1), (104, .iload 4, 2), (106, .bipush 8, 2), (108, .idiv, 1), (109, .if_icmp .ge 49, 3), (112, .iinc 7 (-1), 3), (115, .iload 7, 2), (117, .ifCond .ne 30, 3), (120, .aload_n 0, 1), (121, .dup, 1), (122, .getfield 138, 3), (125, .lconst 1, 1), (126, .ladd, 1), (127, .putfield 138, 3), (130, .aload_n 0, 1), (131, .dup, 1), (132, .getfield 141, 3), (135, .lconst 1, 1), (136, .ladd, 1), (137, .putfield 141, 3), (140, .aload_n 0, 1), (141, .iload_n 1, 1), (142, .iload_n 2, 1), (143, .invokevirtual 144, 3), (146, .return_, 1), (147, .aload_n 0, 1), (148, .iload_n 1, 1), (149, .iload 5, 2), (151, .iload_n 2, 1), (152, .invokevirtual 147, 3), (155, .goto 35, 3), (158, .iload 6, 2), (160, .ifCond .eq 30, 3), (163, .aload_n 0, 1), (164, .iload_n 1, 1), (165, .iload 5, 2), (167, .iconst 1, 1), (168, .iconst 1, 1), (169, .invokevirtual 124, 3), (172, .ifCond .eq 18, 3), (175, .aload_n 0, 1), (176, .iload 5, 2), (178, .iconst 1, 1), (179, .iadd, 1), (180, .iload_n 2, 1), (181, .iconst 1, 1), (182, .iconst 1, 1), (183, .invokevirtual 124, 3), (186, .ifCond .eq 4, 3), (189, .return_, 1), (190, .aload_n 0, 1), (191, .iload 5, 2), (193, .iconst 1, 1), (194, .iadd, 1), (195, .iload_n 2, 1), (196, .iload 7, 2), (198, .invokevirtual 118, 3), (201, .aload_n 0, 1), (202, .iload_n 1, 1), (203, .iload 5, 2), (205, .iload 7, 2), (207, .invokevirtual 118, 3), (210, .return_, 1)]
def ez_t88 : List (Nat × Instr × Nat) := [(0, .iconst 0, 1), (1, .istore_n 3, 1), (2, .iload_n 3, 1), (3, .iload_n 2, 1), (4, .iload_n 1, 1), (5, .isub, 1), (6, .iconst 2, 1), (7, .idiv, 1), (8, .if_icmp .ge 21, 3), (11, .aload_n 0, 1), (12, .iload_n 1, 1), (13, .iload_n 3, 1), (14, .iadd, 1), (15, .iload_n 2, 1), (16, .iconst 1, 1), (17, .isub, 1), (18, .iload_n 3, 1), (19, .isub, 1), (20, .invokevirtual 100, 3), (23, .iinc 3 1, 3), (26, .goto (-24), 3), (29, .return_, 1)]
def ez_t89 : List (Nat × Instr × Nat) := [(0, .iload_n 1, 1), (1, .iconst 1, 1), (2, .iadd, 1), (3, .istore_n 2, 1), (4, .iload_n 2, 1), (5, .aload_n 0, 1), (6, .getfield 44, 3), (9, .if_icmp .ne 5, 3), (12, .iload_n 2, 1), (13, .ireturn, 1), (14, .aload_n 0, 1), (15, .iload_n 2, 1), (16, .iload_n 2, 1), (17, .iconst 1, 1), (18, .isub, 1), (19, .invokevirtual 93, 3), (22, .istore_n 3, 1), (23, .iinc 2 1, 3), (26, .iload_n 2, 1), (27, .aload_n 0, 1), (28, .getfield 44, 3), (31, .if_icmp .ge 21, 3), (34, .aload_n 0, 1), (35, .iload_n 2, 1), (36, .iload_n 2, 1), (37, .iconst 1, 1), (38, .isub, 1), (39, .invokevirtual 93, 3), (42, .iload_n 3, 1), (43, .if_icmp .ne 9, 3), (46, .iinc 2 1, 3), (49, .goto (-23), 3), (52, .iload_n 3, 1), (53, .ifCond .eq 9, 3), (56, .aload_n 0, 1), (57, .iload_n 1, 1), (58, .iload_n 2, 1), (59, .invokevirtual 150, 3), (62, .iload_n 2, 1), (63, .ireturn, 1)]
def ez_t90 : List (Nat × Instr × Nat) := [(0, .iload_n 2, 1), (1, .istore 4, 2), (3, .iload 4, 2), (5, .iload_n 3, 1), (6, .if_icmp .ge 115, 3), (9, .aload_n 0, 1), (10, .getfield 19, 3), (13, .iload 4, 2), (15, .iaload, 1), (16, .istore 5, 2), (18, .iload_n 1, 1), (19, .istore 6, 2), (21, .iload 4, 2), (23, .istore 7, 2), (25, .iload 6, 2), (27, .iload 7, 2), (29, .if_icmp .ge 44, 3), (32, .iload 6, 2), (34, .iload 7, 2), (36, .iadd, 1), (37, .iconst 2, 1), (38, .idiv, 1), (39, .istore 8, 2), (41, .aload_n 0, 1), (42, .iload 5, 2), (44, .aload_n 0, 1), (45, .getfield 19, 3), (48, .iload 8, 2), (50, .iaload, 1), (51, .invokevirtual 89, 3), (54, .ifCond .eq 10, 3), (57, .iload 8, 2), (59, .istore 7, 2), (61, .goto 9, 3), (64, .iload 8, 2), (66, .iconst 1, 1), (67, .iadd, 1), (68, .istore 6, 2), (70, .goto (-45), 3), (73, .iload 4, 2), (75, .istore 8, 2), (77, .iload 8, 2), (79, .iload 6, 2), (81, .if_icmp .le 25, 3), (84, .aload_n 0, 1), (85, .getfield 19, 3), (88, .iload 8, 2), (90, .aload_n 0, 1), (91, .getfield 19, 3), (94, .iload 8, 2), (96, .iconst 1, 1), (97, .isub, 1), (98, .iaload, 1), (99, .iastore, 1), (100, .iinc 8 (-1), 3), (103, .goto (-26), 3), (106, .aload_n 0, 1), (107, .getfield 19, 3), (110, .iload 6, 2), (112, .iload 5, 2), (114, .iastore, 1), (115, .iinc 4 1, 3), (118, .goto (-115), 3), (121, .return_, 1)]
def ez_t91 : List (Nat × Instr × Nat) := [(0, .aload_n 0, 1), (1, .getfield 25, 3), (4, .iload_n 1, 1), (5, .iaload, 1), (6, .istore_n 2, 1), (7, .aload_n 0, 1), (8, .getfield 25, 3), (11, .iload_n 1, 1), (12, .iconst 1, 1), (13, .iadd, 1), (14, .iaload, 1), (15, .istore_n 3, 1), (16, .aload_n 0, 1), (17, .getfield 28, 3), (20, .iload_n 1, 1), (21, .iconst 1, 1), (22, .iadd, 1), (23, .iaload, 1), (24, .istore 4, 2), (26, .iload_n 2, 1), (27, .istore 5, 2), (29, .iload_n 3, 1), (30, .istore 6, 2), (32, .iload_n 2, 1), (33, .istore 7, 2), (35, .iload 7, 2), (37, .iload 4, 2), (39, .if_icmp .ge 93, 3), (42, .iload 5, 2), (44, .iload_n 3, 1), (45, .if_icmp .eq 31, 3), (48, .iload 6, 2), (50, .iload 4, 2), (52, .if_icmp .ge 28, 3), (55, .aload_n 0, 1), (56, .aload_n 0, 1), (57, .getfield 19, 3), (60, .iload 6, 2), (62, .iaload, 1), (63, .aload_n 0, 1), (64, .getfield 19, 3), (67, .iload 5, 2), (69, .iaload, 1), (70, .invokevirtual 89, 3), (73, .ifCond .eq 7, 3), (76, .iconst 1, 1), (77, .goto 4, 3), (80, .iconst 0, 1), (81, .istore 8, 2), (83, .aload_n 0, 1), (84, .getfield 22, 3), (87, .iload 7, 2), (89, .iload 8, 2), (91, .ifCond .eq 13, 3), (94, .aload_n 0, 1), (95, .getfield 19, 3), (98, .iload 6, 2), (100, .iaload, 1), (101, .goto 10, 3), (104, .aload_n 0, 1), (105, .getfield 19, 3), (108, .iload 5, 2), (110, .iaload, 1), (111, .iastore, 1), (112, .iload 8, 2), (114, .ifCond .eq 9, 3), (117, .iinc 6 1, 3), (120, .goto 6, 3), (123, .iinc 5 1, 3), (126, .iinc 7 1, 3), (129, .goto (-94), 3), (132, .iload_n 2, 1), (133, .istore 7, 2), (135, .iload 7, 2), (137, .iload 4, 2), (139, .if_icmp .ge 23, 3), (142, .aload_n 0, 1), (143, .getfield 19, 3), (146, .iload 7, 2), (148, .aload_n 0, 1), (149, .getfield 22, 3), (152, .iload 7, 2), (154, .iaload, 1), (155, .iastore, 1), (156, .iinc 7 1, 3), (159, .goto (-24), 3), (162, .aload_n 0, 1), (163, .getfield 28, 3), (166, .iload_n 1, 1), (167, .iload 4, 2), (169, .iastore, 1), (170, .iload_n 1, 1), (171, .iconst 1, 1), (172, .iadd, 1), (173, .istore 7, 2), (175, .iload 7, 2), (177, .aload_n 0, 1), (178, .getfield 153, 3), (181, .iconst 1, 1), (182, .isub, 1), (183, .if_icmp .ge 41, 3), (186, .aload_n 0, 1), (187, .getfield 25, 3), (190, .iload 7, 2), (192, .aload_n 0, 1), (193, .getfield 25, 3), (196, .iload 7, 2), (198, .iconst 1, 1), (199, .iadd, 1), (200, .iaload, 1), (201, .iastore, 1), (202, .aload_n 0, 1), (203, .getfield 28, 3), (206, .iload 7, 2), (208, .aload_n 0, 1), (209, .getfield 28, 3), (212, .iload 7, 2), (214, .iconst 1, 1), (215, .iadd, 1), (216, .iaload, 1), (217, .iastore, 1), (218, .iinc 7 1, 3), (221, .goto (-46), 3), (224, .aload_n 0, 1), (225, .dup, 1), (226, .getfield 153, 3), (229, .iconst 1, 1), (230, .isub, 1), (231, .putfield 153, 3), (234, .aload_n 0, 1), (235, .dup, 1), (236, .getfield 156, 3), (239, .lconst 1, 1), (240, .ladd, 1), (241, .putfield 156, 3), (244, .return_, 1)]
def ez_t92 : List (Nat × Instr × Nat) := [(0, .aload_n 0, 1), (1, .getfield 28, 3), (4, .iload_n 1, 1), (5, .iaload, 1), (6, .aload_n 0, 1), (7, .getfield 25, 3), (10, .iload_n 1, 1), (11, .iaload, 1), (12, .isub, 1), (13, .ireturn, 1)]
def ez_t93 : List (Nat × Instr × Nat) := [(0, .iconst 1, 1), (1, .istore_n 1, 1), (2, .iload_n 1, 1), (3, .ifCond .eq 153, 3), (6, .aload_n 0, 1), (7, .getfield 153, 3), (10, .iconst 1, 1), (11, .if_icmp .le 145, 3), (14, .aload_n 0, 1), (15, .getfield 153, 3), (18, .iconst 1, 1), (19, .isub, 1), (20, .istore_n 2, 1), (21, .aload_n 0, 1), (22, .getfield 153, 3), (25, .iconst 2, 1), (26, .if_icmp .le 26, 3), (29, .aload_n 0, 1), (30, .iload_n 2, 1), (31, .iconst 2, 1), (32, .isub, 1), (33, .invokevirtual 159, 3), (36, .aload_n 0, 1), (37, .iload_n 2, 1), (38, .iconst 1, 1), (39, .isub, 1), (40, .invokevirtual 159, 3), (43, .aload_n 0, 1), (44, .iload_n 2, 1), (45, .invokevirtual 159, 3), (48, .iadd, 1), (49, .if_icmp .le 36, 3), (52, .aload_n 0, 1), (53, .getfield 153, 3), (56, .iconst 3, 1), (57, .if_icmp .le 32, 3), (60, .aload_n 0, 1), (61, .iload_n 2, 1), (62, .iconst 3, 1), (63, .isub, 1), (64, .invokevirtual 159, 3), (67, .aload_n 0, 1), (68, .iload_n 2, 1), (69, .iconst 2, 1), (70, .isub, 1), (71, .invokevirtual 159, 3), (74, .aload_n 0, 1), (75, .iload_n 2, 1), (76, .iconst 1, 1), (77, .isub, 1), (78, .invokevirtual 159, 3), (81, .iadd, 1), (82, .if_icmp .gt 7, 3), (85, .iconst 1, 1), (86, .goto 4, 3), (89, .iconst 0, 1), (90, .istore_n 3, 1), (91, .iload_n 3, 1), (92, .ifCond .eq 34, 3), (95, .aload_n 0, 1), (96, .aload_n 0, 1), (97, .iload_n 2, 1), (98, .iconst 2, 1), (99, .isub, 1), (100, .invokevirtual 159, 3), (103, .aload_n 0, 1), (104, .iload_n 2, 1), (105, .invokevirtual 159, 3), (108, .if_icmp .ge 9, 3), (111, .iload_n 2, 1), (112, .iconst 2, 1), (113, .isub, 1), (114, .goto 6, 3), (117, .iload_n 2, 1), (118, .iconst 1, 1), (119, .isub, 1), (120, .invokevirtual 163, 3), (123, .goto 30, 3), (126, .aload_n 0, 1), (127, .iload_n 2, 1), (128, .iconst 1, 1), (129, .isub, 1), (130, .invokevirtual 159, 3), (133, .aload_n 0, 1), (134, .iload_n 2, 1), (135, .invokevirtual 159, 3), (138, .if_icmp .gt 13, 3), (141, .aload_n 0, 1), (142, .iload_n 2, 1), (143, .iconst 1, 1), (144, .isub, 1), (145, .invokevirtual 163, 3), (148, .goto 5, 3), (151, .iconst 0, 1), (152, .istore_n 1, 1), (153, .goto (-151), 3), (156, .return_, 1)]
def ez_t94 : List (Nat × Instr × Nat) := [(0, .aload_n 0, 1), (1, .iconst 0, 1), (2, .putfield 153, 3), (5, .iconst 0, 1), (6, .istore_n 1, 1), (7, .iload_n 1, 1), (8, .aload_n 0, 1), (9, .getfield 44, 3), (12, .if_icmp .ge 98, 3), (15, .aload_n 0, 1), (16, .iload_n 1, 1), (17, .invokevirtual 166, 3), (20, .istore_n 2, 1), (21, .iload_n 2, 1), (22, .iload_n 1, 1), (23, .isub, 1), (24, .bipush 16, 2), (26, .if_icmp .ge 35, 3), (29, .iload_n 1, 1), (30, .bipush 16, 2), (32, .iadd, 1), (33, .aload_n 0, 1), (34, .getfield 44, 3), (37, .if_icmp .ge 10, 3), (40, .iload_n 1, 1), (41, .bipush 16, 2), (43, .iadd, 1), (44, .goto 7, 3), (47, .aload_n 0, 1), (48, .getfield 44, 3), (51, .istore_n 3, 1), (52, .aload_n 0, 1), (53, .iload_n 1, 1), (54, .iload_n 2, 1), (55, .iload_n 3, 1), (56, .invokevirtual 169, 3), (59, .iload_n 3, 1), (60, .istore_n 2, 1), (61, .aload_n 0, 1), (62, .getfield 25, 3), (65, .aload_n 0, 1), (66, .getfield 153, 3), (69, .iload_n 1, 1), (70, .iastore, 1), (71, .aload_n 0, 1), (72, .getfield 28, 3), (75, .aload_n 0, 1), (76, .getfield 153, 3), (79, .iload_n 2, 1), (80, .iastore, 1), (81, .aload_n 0, 1), (82, .dup, 1), (83, .getfield 153, 3), (86, .iconst 1, 1), (87, .iadd, 1), (88, .putfield 153, 3), (91, .aload_n 0, 1), (92, .dup, 1), (93, .getfield 172, 3), (96, .lconst 1, 1), (97, .ladd, 1), (98, .putfield 172, 3), (101, .aload_n 0, 1), (102, .invokevirtual 175, 3), (105, .iload_n 2, 1), (106, .istore_n 1, 1), (107, .goto (-100), 3), (110, .aload_n 0, 1), (111, .getfield 153, 3), (114, .iconst 1, 1), (115, .if_icmp .le 49, 3), (118, .aload_n 0, 1), (119, .getfield 153, 3), (122, .iconst 1, 1), (123, .isub, 1), (124, .istore_n 2, 1), (125, .aload_n 0, 1), (126, .aload_n 0, 1), (127, .getfield 153, 3), (130, .iconst 2, 1), (131, .if_icmp .le 24, 3), (134, .aload_n 0, 1), (135, .iload_n 2, 1), (136, .iconst 2, 1), (137, .isub, 1), (138, .invokevirtual 159, 3), (141, .aload_n 0, 1), (142, .iload_n 2, 1), (143, .invokevirtual 159, 3), (146, .if_icmp .ge 9, 3), (149, .iload_n 2, 1), (150, .iconst 2, 1), (151, .isub, 1), (152, .goto 6, 3), (155, .iload_n 2, 1), (156, .iconst 1, 1), (157, .isub, 1), (158, .invokevirtual 163, 3), (161, .goto (-51), 3), (164, .return_, 1)]
def ez_t95 : List (Nat × Instr × Nat) := [(0, .iload_n 0, 1), (1, .ifCond .ne 9, 3), (4, .sipush 301, 3), (7, .goto 54, 3), (10, .iload_n 0, 1), (11, .iconst 1, 1), (12, .if_icmp .ne 9, 3), (15, .sipush 132, 3), (18, .goto 43, 3), (21, .iload_n 0, 1), (22, .iconst 2, 1), (23, .if_icmp .ne 8, 3), (26, .bipush 57, 2), (28, .goto 33, 3), (31, .iload_n 0, 1), (32, .iconst 3, 1), (33, .if_icmp .ne 8, 3), (36, .bipush 23, 2), (38, .goto 23, 3), (41, .iload_n 0, 1), (42, .iconst 4, 1), (43, .if_icmp .ne 8, 3), (46, .bipush 10, 2), (48, .goto 13, 3), (51, .iload_n 0, 1), (52, .iconst 5, 1), (53, .if_icmp .ne 7, 3), (56, .iconst 4, 1), (57, .goto 4, 3), (60, .iconst 1, 1), (61, .ireturn, 1)]
def ez_t96 : List (Nat × Instr × Nat) := [(0, .iconst 0, 1), (1, .istore_n 1, 1), (2, .iload_n 1, 1), (3, .bipush 7, 2), (5, .if_icmp .ge 99, 3), (8, .iload_n 1, 1), (9, .invokestatic 178, 3), (12, .istore_n 2, 1), (13, .iload_n 2, 1), (14, .istore_n 3, 1), (15, .iload_n 3, 1), (16, .aload_n 0, 1), (17, .getfield 44, 3), (20, .if_icmp .ge 78, 3), (23, .aload_n 0, 1), (24, .getfield 19, 3), (27, .iload_n 3, 1), (28, .iaload, 1), (29, .istore 4, 2), (31, .iload_n 3, 1), (32, .istore 5, 2), (34, .iload 5, 2), (36, .iload_n 2, 1), (37, .if_icmp .lt 46, 3), (40, .aload_n 0, 1), (41, .iload 4, 2), (43, .aload_n 0, 1), (44, .getfield 19, 3), (47, .iload 5, 2), (49, .iload_n 2, 1), (50, .isub, 1), (51, .iaload, 1), (52, .invokevirtual 89, 3), (55, .ifCond .eq 28, 3), (58, .aload_n 0, 1), (59, .getfield 19, 3), (62, .iload 5, 2), (64, .aload_n 0, 1), (65, .getfield 19, 3), (68, .iload 5, 2), (70, .iload_n 2, 1), (71, .isub, 1), (72, .iaload, 1), (73, .iastore, 1), (74, .iload 5, 2), (76, .iload_n 2, 1), (77, .isub, 1), (78, .istore 5, 2), (80, .goto (-46), 3), (83, .aload_n 0, 1), (84, .getfield 19, 3), (87, .iload 5, 2), (89, .iload 4, 2), (91, .iastore, 1), (92, .iinc 3 1, 3), (95, .goto (-80), 3), (98, .iinc 1 1, 3), (101, .goto (-99), 3), (104, .return_, 1)]
def ez_t97 : List (Nat × Instr × Nat) := [(0, .aload_n 0, 1), (1, .lconst 0, 1), (2, .putfield 72, 3), (5, .aload_n 0, 1), (6, .lconst 0, 1), (7, .putfield 141, 3), (10, .iconst 0, 1), (11, .istore_n 2, 1), (12, .iload_n 2, 1), (13, .aload_n 0, 1), (14, .getfield 44, 3), (17, .if_icmp .ge 16, 3), (20, .aload_n 0, 1), (21, .getfield 19, 3), (24, .iload_n 2, 1), (25, .iload_n 2, 1), (26, .iastore, 1), (27, .iinc 2 1, 3), (30, .goto (-18), 3), (33, .iload_n 1, 1), (34, .ifCond .ne 18, 3), (37, .aload_n 0, 1), (38, .iconst 0, 1), (39, .aload_n 0, 1), (40, .getfield 44, 3), (43, .iconst 1, 1), (44, .iconst 0, 1), (45, .invokevirtual 124, 3), (48, .istore_n 2, 1), (49, .goto 65, 3), (52, .iload_n 1, 1), (53, .iconst 1, 1), (54, .if_icmp .ne 15, 3), (57, .aload_n 0, 1), (58, .iconst 0, 1), (59, .aload_n 0, 1), (60, .getfield 44, 3), (63, .invokevirtual 144, 3), (66, .goto 48, 3), (69, .iload_n 1, 1), (70, .iconst 2, 1), (71, .if_icmp .ne 22, 3), (74, .aload_n 0, 1), (75, .getfield 44, 3), (78, .iconst 1, 1), (79, .if_icmp .le 14, 3), (82, .aload_n 0, 1), (83, .aload_n 0, 1), (84, .getfield 44, 3), (87, .invokevirtual 181, 3), (90, .goto 24, 3), (93, .iload_n 1, 1), (94, .iconst 3, 1), (95, .if_icmp .ne 10, 3), (98, .aload_n 0, 1), (99, .invokevirtual 184, 3), (102, .goto 12, 3), (105, .iload_n 1, 1), (106, .iconst 4, 1), (107, .if_icmp .ne 7, 3), (110, .aload_n 0, 1), (111, .invokevirtual 187, 3), (114, .aload_n 0, 1), (115, .getfield 72, 3), (118, .l2i, 1), (119, .ireturn, 1)]
def ez_t98 : List (Nat × Instr × Nat) := [(0, .aload_n 0, 1), (1, .iload_n 1, 1), (2, .ifCond .lt 8, 3), (5, .iload_n 1, 1), (6, .iconst 4, 1), (7, .if_icmp .le 7, 3), (10, .iconst 1, 1), (11, .goto 4, 3), (14, .iconst 0, 1), (15, .putfield 40, 3), (18, .aload_n 0, 1), (19, .getfield 40, 3), (22, .ifCond .le 5, 3), (25, .iconst 0, 1), (26, .ireturn, 1), (27, .aload_n 0, 1), (28, .iconst 0, 1), (29, .putfield 75, 3), (32, .aload_n 0, 1), (33, .iload_n 1, 1), (34, .invokevirtual 190, 3), (37, .istore_n 2, 1), (38, .iconst 0, 1), (39, .istore_n 3, 1), (40, .iload_n 3, 1), (41, .aload_n 0, 1), (42, .getfield 44, 3), (45, .if_icmp .ge 43, 3), (48, .aload_n 0, 1), (49, .getfield 22, 3), (52, .iload_n 3, 1), (53, .aload_n 0, 1), (54, .getfield 7, 3), (57, .aload_n 0, 1), (58, .getfield 19, 3), (61, .iload_n 3, 1), (62, .iaload, 1), (63, .iaload, 1), (64, .iastore, 1), (65, .aload_n 0, 1), (66, .getfield 16, 3), (69, .iload_n 3, 1), (70, .aload_n 0, 1), (71, .getfield 13, 3), (74, .aload_n 0, 1), (75, .getfield 19, 3), (78, .iload_n 3, 1), (79, .iaload, 1), (80, .iaload, 1), (81, .iastore, 1), (82, .iinc 3 1, 3), (85, .goto (-45), 3), (88, .iconst 0, 1), (89, .istore_n 3, 1), (90, .iload_n 3, 1), (91, .aload_n 0, 1), (92, .getfield 44, 3), (95, .if_icmp .ge 33, 3), (98, .aload_n 0, 1), (99, .getfield 7, 3), (102, .iload_n 3, 1), (103, .aload_n 0, 1), (104, .getfield 22, 3), (107, .iload_n 3, 1), (108, .iaload, 1), (109, .iastore, 1), (110, .aload_n 0, 1), (111, .getfield 13, 3), (114, .iload_n 3, 1), (115, .aload_n 0, 1), (116, .getfield 16, 3), (119, .iload_n 3, 1), (120, .iaload, 1), (121, .iastore, 1), (122, .iinc 3 1, 3), (125, .goto (-35), 3), (128, .iload_n 2, 1), (129, .ireturn, 1)]
def ez_t99 : List (Nat × Instr × Nat) := [(0, .aload_n 0, 1), (1, .iload_n 1, 1), (2, .ifCond .lt 19, 3), (5, .iload_n 1, 1), (6, .iconst 4, 1), (7, .if_icmp .gt 14, 3), (10, .iload_n 2, 1), (11, .ifCond .lt 10, 3), (14, .iload_n 2, 1), (15, .sipush 600, 3), (18, .if_icmp .le 7, 3), (21, .iconst 1, 1), (22, .goto 4, 3), (25, .iconst 0, 1), (26, .putfield 40, 3), (29, .aload_n 0, 1), (30, .getfield 40, 3), (33, .ifCond .le 5, 3), (36, .iconst 0, 1), (37, .ireturn, 1), (38, .aload_n 0, 1), (39, .iload_n 2, 1), (40, .putfield 44, 3), (43, .aload_n 0, 1), (44, .iconst 1, 1), (45, .putfield 75, 3), (48, .aload_n 0, 1), (49, .iconst (-1), 1), (50, .putfield 83, 3), (53, .aload_n 0, 1), (54, .iconst 0, 1), (55, .putfield 86, 3), (58, .iconst 0, 1), (59, .istore_n 3, 1), (60, .iload_n 3, 1), (61, .iload_n 2, 1), (62, .if_icmp .ge 23, 3), (65, .aload_n 0, 1), (66, .getfield 16, 3), (69, .iload_n 3, 1), (70, .iconst (-1), 1), (71, .iastore, 1), (72, .aload_n 0, 1), (73, .getfield 13, 3), (76, .iload_n 3, 1), (77, .iload_n 3, 1), (78, .iastore, 1), (79, .iinc 3 1, 3), (82, .goto (-22), 3), (85, .aload_n 0, 1), (86, .iload_n 1, 1), (87, .invokevirtual 190, 3), (90, .istore_n 3, 1), (91, .iconst 0, 1), (92, .istore 4, 2), (94, .iload 4, 2), (96, .iload_n 2, 1), (97, .if_icmp .ge 37, 3), (100, .aload_n 0, 1), (101, .getfield 7, 3), (104, .iload 4, 2), (106, .aload_n 0, 1), (107, .getfield 16, 3), (110, .iload 4, 2), (112, .iaload, 1), (113, .ifCond .ge 7, 3), (116, .iload_n 2, 1), (117, .goto 10, 3), (120, .aload_n 0, 1), (121, .getfield 16, 3), (124, .iload 4, 2), (126, .iaload, 1), (127, .iastore, 1), (128, .iinc 4 1, 3), (131, .goto (-37), 3), (134, .iload_n 3, 1), (135, .ireturn, 1)]
def ez_t100 : List (Nat × Instr × Nat) := [(0, .aload_n 0, 1), (1, .aload_n 0, 1), (2, .iload_n 1, 1), (3, .invokevirtual 55, 3), (6, .ifCond .eq 7, 3), (9, .iconst 0, 1), (10, .goto 4, 3), (13, .iconst 1, 1), (14, .putfield 40, 3), (17, .aload_n 0, 1), (18, .getfield 40, 3), (21, .ifCond .ne 12, 3), (24, .aload_n 0, 1), (25, .getfield 7, 3), (28, .iload_n 1, 1), (29, .iaload, 1), (30, .goto 4, 3), (33, .iconst 0, 1), (34, .ireturn, 1)]
def ez_t101 : List (Nat × Instr × Nat) := [(0, .aload_n 0, 1), (1, .aload_n 0, 1), (2, .iload_n 1, 1), (3, .invokevirtual 55, 3), (6, .ifCond .eq 7, 3), (9, .iconst 0, 1), (10, .goto 4, 3), (13, .iconst 1, 1), (14, .putfield 40, 3), (17, .aload_n 0, 1), (18, .getfield 40, 3), (21, .ifCond .ne 12, 3), (24, .aload_n 0, 1), (25, .getfield 13, 3), (28, .iload_n 1, 1), (29, .iaload, 1), (30, .goto 4, 3), (33, .iconst 0, 1), (34, .ireturn, 1)]
def ez_t102 : List (Nat × Instr × Nat) := [(0, .aload_n 0, 1), (1, .iload_n 1, 1), (2, .ifCond .lt 8, 3), (5, .iload_n 1, 1), (6, .iconst 2, 1), (7, .if_icmp .le 7, 3), (10, .iconst 1, 1), (11, .goto 4, 3), (14, .iconst 0, 1), (15, .putfield 40, 3), (18, .iconst 1, 1), (19, .istore_n 2, 1), (20, .iconst 1, 1), (21, .istore_n 3, 1), (22, .iload_n 3, 1), (23, .aload_n 0, 1), (24, .getfield 44, 3), (27, .if_icmp .ge 100, 3), (30, .aload_n 0, 1), (31, .iload_n 3, 1), (32, .iconst 1, 1), (33, .isub, 1), (34, .invokevirtual 79, 3), (37, .lstore 4, 2), (39, .aload_n 0, 1), (40, .iload_n 3, 1), (41, .invokevirtual 79, 3), (44, .lstore 6, 2), (46, .lload 4, 2), (48, .lload 6, 2), (50, .lcmp, 1), (51, .ifCond .ne 7, 3), (54, .iconst 1, 1), (55, .goto 4, 3), (58, .iconst 0, 1), (59, .istore 8, 2), (61, .iload_n 2, 1), (62, .ifCond .eq 57, 3), (65, .iload_n 1, 1), (66, .iconst 2, 1), (67, .if_icmp .ne 14, 3), (70, .lload 6, 2), (72, .lload 4, 2), (74, .lcmp, 1), (75, .ifCond .ge 44, 3), (78, .goto 37, 3), (81, .lload 4, 2), (83, .lload 6, 2), (85, .lcmp, 1), (86, .ifCond .lt 29, 3), (89, .iload 8, 2), (91, .ifCond .eq 28, 3), (94, .iload_n 1, 1), (95, .ifCond .eq 20, 3), (98, .aload_n 0, 1), (99, .getfield 13, 3), (102, .iload_n 3, 1), (103, .iconst 1, 1), (104, .isub, 1), (105, .iaload, 1), (106, .aload_n 0, 1), (107, .getfield 13, 3), (110, .iload_n 3, 1), (111, .iaload, 1), (112, .if_icmp .ge 7, 3), (115, .iconst 1, 1), (116, .goto 4, 3), (119, .iconst 0, 1), (120, .istore_n 2, 1), (121, .iinc 3 1, 3), (124, .goto (-102), 3), (127, .iload_n 2, 1), (128, .ireturn, 1)]
def ez_t103 : List (Nat × Instr × Nat) := [(0, .aload_n 0, 1), (1, .iload_n 1, 1), (2, .ifCond .lt 9, 3), (5, .iload_n 1, 1), (6, .bipush 8, 2), (8, .if_icmp .le 7, 3), (11, .iconst 1, 1), (12, .goto 4, 3), (15, .iconst 0, 1), (16, .putfield 40, 3), (19, .iload_n 1, 1), (20, .tableswitch 89 0 7 #[48, 54, 59, 64, 69, 74, 79, 84], 48), (68, .aload_n 0, 1), (69, .getfield 44, 3), (72, .i2l, 1), (73, .lreturn, 1), (74, .aload_n 0, 1), (75, .getfield 68, 3), (78, .lreturn, 1), (79, .aload_n 0, 1), (80, .getfield 72, 3), (83, .lreturn, 1), (84, .aload_n 0, 1), (85, .getfield 138, 3), (88, .lreturn, 1), (89, .aload_n 0, 1), (90, .getfield 141, 3), (93, .lreturn, 1), (94, .aload_n 0, 1), (95, .getfield 109, 3), (98, .lreturn, 1), (99, .aload_n 0, 1), (100, .getfield 172, 3), (103, .lreturn, 1), (104, .aload_n 0, 1), (105, .getfield 156, 3), (108, .lreturn, 1), (109, .aload_n 0, 1), (110, .getfield 63, 3), (113, .i2l, 1), (114, .lreturn, 1)]
def ez_t104 : List (Nat × Instr × Nat) := [(0, .aload_n 0, 1), (1, .iconst 0, 1), (2, .putfield 40, 3), (5, .aload_n 0, 1), (6, .getfield 44, 3), (9, .istore_n 1, 1), (10, .aload_n 0, 1), (11, .iconst 0, 1), (12, .putfield 44, 3), (15, .iload_n 1, 1), (16, .ireturn, 1)]
def ez_tb : List (List (Nat × Instr × Nat)) := [ez_t0, ez_t1, ez_t2, ez_t3, ez_t4, ez_t5, ez_t6, ez_t7, ez_t8, ez_t9, ez_t10, ez_t11, ez_t12, ez_t13, ez_t14, ez_t15, ez_t16, ez_t17, ez_t18, ez_t19, ez_t20, ez_t21, ez_t22, ez_t23, ez_t24, ez_t25, ez_t26, ez_t27, ez_t28, ez_t29, ez_t30, ez_t31, ez_t32, ez_t33, ez_t34, ez_t35, ez_t36, ez_t37, ez_t38, ez_t39, ez_t40, ez_t41, ez_t42, ez_t43, ez_t44, ez_t45, ez_t46, ez_t47, ez_t48, ez_t49, ez_t50, ez_t51, ez_t52, ez_t53, ez_t54, ez_t55, ez_t56, ez_t57, ez_t58, ez_t59, ez_t60, ez_t61, ez_t62, ez_t63, ez_t64, ez_t65, ez_t66, ez_t67, ez_t68, ez_t69, ez_t70, ez_t71, ez_t72, ez_t73, ez_t74, ez_t75, ez_t76, ez_t77, ez_t78, ez_t79, ez_t80, ez_t81, ez_t82, ez_t83, ez_t84, ez_t85, ez_t86, ez_t87, ez_t88, ez_t89, ez_t90, ez_t91, ez_t92, ez_t93, ez_t94, ez_t95, ez_t96, ez_t97, ez_t98, ez_t99, ez_t100, ez_t101, ez_t102, ez_t103, ez_t104]
def ez_ms0 : List (Nat × MethodName × ByteArray × Nat × Option FieldType × Nat × Nat × Nat) := [(0, yX0_arrange, cX0_arrange, 1, none, 0, 4, 95),
  (0, yX0_arrangeRange, cX0_arrangeRange, 5, none, 2, 3, 71),
  (0, yX0_sink, cX0_sink, 7, none, 3, 2, 45),
  (1, yX1_arrange, cX1_arrange, 1, none, 0, 4, 92),
  (1, yX1_guarded, cX1_guarded, 4, none, 2, 3, 69),
  (1, yX1_unguarded, cX1_unguarded, 4, none, 2, 3, 69),
  (1, yX1_partly, cX1_partly, 5, (some .boolean), 2, 3, 69),
  (1, yX1_insert, cX1_insert, 5, (some .int), 2, 2, 45),
  (2, yX2_falls, cX2_falls, 1, (some .long), 0, 0, 0),
  (2, yX2_parted, cX2_parted, 1, (some .long), 0, 0, 0),
  (2, yX2_arrange, cX2_arrange, 4, none, 0, 5, 118),
  (2, yX2_takeWhole, cX2_takeWhole, 2, none, 0, 1, 20),
  (2, yX2_takeWaiting, cX2_takeWaiting, 1, (some .boolean), 0, 0, 0),
  (2, yX2_goLeft, cX2_goLeft, 1, none, 0, 0, 0),
  (2, yX2_finishSmall, cX2_finishSmall, 1, none, 0, 4, 92),
  (2, yX2_choosePivot, cX2_choosePivot, 4, none, 2, 4, 90),
  (2, yX2_three, cX2_three, 4, none, 3, 3, 67),
  (2, yX2_two, cX2_two, 3, none, 2, 2, 45),
  (2, yX2_moveEqualLeft, cX2_moveEqualLeft, 5, (some .int), 0, 3, 68),
  (2, yX2_part, cX2_part, 5, none, 0, 3, 68),
  (2, yX2_upWhileLess, cX2_upWhileLess, 4, (some .int), 2, 2, 45),
  (2, yX2_upTillGreater, cX2_upTillGreater, 4, (some .int), 2, 2, 45),
  (2, yX2_downWhileGreater, cX2_downWhileGreater, 4, (some .int), 2, 2, 45),
  (2, yX2_downTillLess, cX2_downTillLess, 4, (some .int), 2, 2, 45),
  (2, yX2_isDoneWhenParted, cX2_isDoneWhenParted, 4, (some .boolean), 1, 4, 95),
  (2, yX2_breakPatterns, cX2_breakPatterns, 5, none, 2, 2, 45),
  (3, yX3_size, cX3_size, 1, (some .int), 0, 0, 0),
  (3, yX3_ordering, cX3_ordering, 1, (some .int), 0, 0, 0),
  (3, yX3_setOrdering, cX3_setOrdering, 2, none, 1, 0, 0),
  (3, yX3_asked, cX3_asked, 1, (some .long), 0, 0, 0),
  (3, yX3_empty, cX3_empty, 1, none, 0, 0, 0),
  (3, yX3_append, cX3_append, 2, none, 1, 0, 0),
  (3, yX3_at, cX3_at, 2, (some .int), 1, 0, 0),
  (3, yX3_set, cX3_set, 3, none, 2, 0, 0),
  (3, yX3_numberOf, cX3_numberOf, 2, (some .int), 1, 0, 0),
  (3, yX3_swap, cX3_swap, 4, none, 2, 1, 22),
  (3, yX3_reverse, cX3_reverse, 5, none, 2, 2, 45),
  (3, yX3_keyFor, cX3_keyFor, 3, (some .long), 1, 0, 0),
  (3, yX3_less, cX3_less, 3, (some .boolean), 2, 1, 23),
  (3, yX3_beginAdversary, cX3_beginAdversary, 3, none, 1, 1, 21)]
def ez_ms1 : List (Nat × MethodName × ByteArray × Nat × Option FieldType × Nat × Nat × Nat) := [(3, yX3_endAdversary, cX3_endAdversary, 2, none, 0, 1, 22),
  (3, yX3_settle, cX3_settle, 4, none, 2, 0, 0),
  (4, yX4_piled, cX4_piled, 1, (some .long), 0, 0, 0),
  (4, yX4_merged, cX4_merged, 1, (some .long), 0, 0, 0),
  (4, yX4_arrange, cX4_arrange, 5, none, 0, 5, 117),
  (4, yX4_findRun, cX4_findRun, 4, (some .int), 2, 3, 69),
  (4, yX4_lengthen, cX4_lengthen, 6, (some .int), 3, 3, 71),
  (4, yX4_insertByHalves, cX4_insertByHalves, 7, none, 2, 2, 45),
  (4, yX4_pileUp, cX4_pileUp, 3, none, 2, 0, 0),
  (4, yX4_sizeAt, cX4_sizeAt, 2, (some .int), 1, 0, 0),
  (4, yX4_beginAt, cX4_beginAt, 2, (some .int), 1, 0, 0),
  (4, yX4_mergeWhileFlat, cX4_mergeWhileFlat, 3, none, 0, 4, 95),
  (4, yX4_mergeAll, cX4_mergeAll, 2, none, 0, 4, 95),
  (4, yX4_isFlat, cX4_isFlat, 2, (some .boolean), 1, 1, 21),
  (4, yX4_lesserSide, cX4_lesserSide, 2, (some .int), 1, 1, 21),
  (4, yX4_mergeAt, cX4_mergeAt, 4, none, 1, 3, 72),
  (4, yX4_merge, cX4_merge, 8, none, 3, 2, 45),
  (5, yX5_stepDown, cX5_stepDown, 5, none, 2, 2, 45),
  (6, yX7_clear, cX7_clear, 2, (some .int), 0, 1, 20),
  (6, yX7_startCounting, cX7_startCounting, 1, none, 0, 1, 20),
  (6, yX7_stopCounting, cX7_stopCounting, 1, (some .int), 0, 1, 20),
  (6, yX7_follows, cX7_follows, 8, (some .boolean), 3, 1, 22),
  (7, yX8_thrown, cX8_thrown, 1, (some .int), 0, 0, 0),
  (7, yX8_put, cX8_put, 2, (some .int), 1, 1, 21),
  (7, yX8_add, cX8_add, 2, none, 1, 0, 0),
  (7, yX8_more, cX8_more, 8, (some .int), 3, 1, 21),
  (7, yX8_line, cX8_line, 6, (some .int), 4, 1, 21),
  (7, yX8_isPlace, cX8_isPlace, 2, (some .boolean), 1, 0, 0),
  (7, yX8_swapThings, cX8_swapThings, 5, none, 2, 0, 0),
  (7, yX8_exchange, cX8_exchange, 3, none, 2, 1, 24),
  (7, yX8_turn, cX8_turn, 4, none, 2, 1, 24),
  (7, yX8_order, cX8_order, 3, (some .int), 1, 0, 0),
  (7, yX8_key, cX8_key, 4, (some .long), 1, 0, 0),
  (7, yX8_less, cX8_less, 3, (some .boolean), 2, 1, 23),
  (7, yX8_lessAt, cX8_lessAt, 3, (some .boolean), 2, 2, 45),
  (7, yX8_swap, cX8_swap, 4, none, 2, 0, 0),
  (7, yX8_insert, cX8_insert, 10, (some .boolean), 4, 3, 67),
  (7, yX8_sink, cX8_sink, 8, none, 3, 3, 67),
  (7, yX8_heap, cX8_heap, 5, none, 2, 4, 94),
  (7, yX8_two, cX8_two, 3, none, 2, 3, 67)]
def ez_ms2 : List (Nat × MethodName × ByteArray × Nat × Option FieldType × Nat × Nat × Nat) := [(7, yX8_three, cX8_three, 4, none, 3, 4, 89),
  (7, yX8_equals, cX8_equals, 7, (some .int), 2, 2, 45),
  (7, yX8_part, cX8_part, 7, (some .int), 2, 2, 45),
  (7, yX8_shake, cX8_shake, 7, none, 3, 1, 23),
  (7, yX8_choose, cX8_choose, 4, none, 2, 5, 112),
  (7, yX8_quick, cX8_quick, 4, none, 1, 7, 162),
  (7, yX8_wait, cX8_wait, 4, none, 3, 0, 0),
  (7, yX8_range, cX8_range, 8, none, 3, 6, 135),
  (7, yX8_turnRow, cX8_turnRow, 4, none, 2, 1, 23),
  (7, yX8_run, cX8_run, 4, (some .int), 1, 3, 67),
  (7, yX8_byHalves, cX8_byHalves, 9, none, 3, 2, 45),
  (7, yX8_merge, cX8_merge, 9, none, 1, 2, 45),
  (7, yX8_width, cX8_width, 2, (some .int), 1, 0, 0),
  (7, yX8_settle, cX8_settle, 4, none, 0, 3, 73),
  (7, yX8_runs, cX8_runs, 4, none, 0, 4, 96),
  (7, yX8_gap, cX8_gap, 1, (some .int), 1, 0, 0),
  (7, yX8_steps, cX8_steps, 6, none, 0, 2, 45),
  (7, yX8_work, cX8_work, 3, (some .int), 1, 8, 185),
  (7, yX8_sort, cX8_sort, 4, (some .int), 1, 9, 207),
  (7, yX8_kill, cX8_kill, 5, (some .int), 2, 9, 207),
  (7, yX8_get, cX8_get, 2, (some .int), 1, 1, 21),
  (7, yX8_tag, cX8_tag, 2, (some .int), 1, 1, 21),
  (7, yX8_is, cX8_is, 9, (some .boolean), 1, 1, 23),
  (7, yX8_count, cX8_count, 2, (some .long), 1, 0, 0),
  (7, yX8_clear, cX8_clear, 2, (some .int), 0, 0, 0)]
def ez_ms : List (Nat × MethodName × ByteArray × Nat × Option FieldType × Nat × Nat × Nat) := ez_ms0 ++ ez_ms1 ++ ez_ms2
/-- by class: a field's pool number, its place, its kind (0 int, 1 long, 2 boolean, 3 not to be written) -/
def ez_ff : List (List (Nat × Nat × Nat)) := [[(7, 0, 3)],
  [(7, 0, 3)],
  [(9, 1, 3), (15, 2, 3), (19, 3, 3), (23, 4, 3), (26, 5, 3), (29, 13, 1), (33, 14, 1), (36, 0, 3), (51, 8, 0), (55, 7, 0), (69, 10, 2), (94, 6, 0), (97, 9, 0), (100, 11, 0), (138, 12, 2)],
  [(9, 0, 3), (15, 1, 3), (18, 6, 0), (22, 2, 0), (25, 3, 0), (28, 4, 1), (45, 5, 2), (63, 7, 0)],
  [(11, 1, 3), (15, 2, 3), (18, 3, 3), (21, 5, 1), (25, 6, 1), (28, 4, 0), (32, 0, 3)],
  [(13, 0, 3)],
  [(10, 0, 3), (37, 3, 3), (142, 8, 1), (149, 9, 1), (175, 6, 1), (178, 7, 1)],
  [(7, 2, 3), (13, 3, 3), (16, 4, 3), (19, 9, 3), (22, 10, 3), (25, 18, 3), (28, 19, 3), (31, 21, 3), (34, 22, 3), (37, 23, 3), (40, 0, 0), (44, 1, 0), (63, 8, 0), (68, 11, 1), (72, 12, 1), (75, 5, 2), (83, 6, 0), (86, 7, 0), (106, 25, 2), (109, 15, 1), (115, 24, 0), (138, 13, 1), (141, 14, 1), (153, 20, 0), (156, 17, 1), (172, 16, 1)]]
def ez_cc : List (List (Nat × Nat)) := [[(13, 26), (19, 1), (23, 2), (27, 35), (30, 32), (34, 38), (38, 33)],
  [(13, 26), (19, 4), (23, 7), (27, 32), (31, 38), (35, 33)],
  [(40, 26), (46, 11), (58, 14), (61, 12), (65, 15), (73, 32), (77, 38), (81, 18), (84, 19), (87, 24), (91, 13), (103, 4), (109, 5), (112, 16), (116, 35), (119, 17), (122, 22), (126, 21), (129, 33), (132, 20), (135, 23), (141, 6), (144, 1), (149, 25)],
  [(32, 32), (36, 33), (40, 35), (49, 41), (52, 34), (55, 37), (59, 31)],
  [(36, 26), (42, 45), (46, 46), (50, 48), (54, 51), (58, 52), (61, 32), (65, 38), (69, 36), (77, 47), (83, 33), (86, 53), (90, 54), (93, 55), (97, 49), (100, 56), (104, 50)],
  [(27, 32), (31, 38), (35, 33)],
  [(62, 26), (131, 34), (138, 29), (146, 8), (161, 30), (181, 37)],
  [(47, 64), (55, 67), (59, 68), (79, 72), (89, 73), (93, 74), (96, 77), (100, 75), (103, 79), (112, 80), (118, 86), (121, 87), (124, 76), (128, 84), (131, 81), (135, 82), (144, 78), (147, 83), (150, 88), (159, 92), (163, 91), (166, 89), (169, 90), (175, 93), (181, 85), (184, 94), (187, 96), (190, 97)]]
def ez_sc : List (List (Nat × Nat)) := [[],
  [],
  [],
  [],
  [],
  [],
  [],
  [(178, 95)]]
def ez_mm : List (List (Nat × Nat)) := [[],
  [],
  [],
  [],
  [(72, 0), (80, 1)],
  [],
  [],
  []]
def ez_kk : List (List (Nat × Int32)) := [[],
  [],
  [(50, (1000000 : Int32))],
  [],
  [],
  [],
  [],
  []]
def ez_kl : List (List (Nat × Int64)) := [[],
  [],
  [],
  [(43, (255 : Int64))],
  [],
  [],
  [],
  [(51, (6364136223846793005 : Int64)), (53, (1442695040888963407 : Int64)), (66, (255 : Int64))]]
end
section
/-! ===== AN INTERPRETER of the bytecode of the methods that make nothing and throw nothing. Its world is a list of cells; a reference is a place in that list. ===== -/
abbrev ez_C : Type := (Nat × (Nat → Int32)) ⊕ (Nat × List Value)
abbrev ez_W : Type := List ez_C
abbrev ez_L : Type := List (Option Value)
abbrev ez_K : Type := Nat × ez_L × List Value × ez_W
abbrev ez_M : Type := Nat × MethodName × ByteArray × Nat × Option FieldType × Nat × Nat × Nat
def ez_lk {α : Type} : List (Nat × α) → Nat → Option α
  | [], _ => none
  | q :: t, k => bif Nat.beq q.1 k then some q.2 else ez_lk t k
def ez_at {α : Type} (t : List (List (Nat × α))) (o k : Nat) : Option α := match t[o]? with
  | some r => ez_lk r k
  | none => none
def ez_i (mi pc : Nat) : Option (Instr × Nat) := ez_at ez_tb mi pc
def ez_li (L : ez_L) (k : Nat) : Option Int32 := match L[k]? with
  | some (some (.int x)) => some x
  | _ => none
def ez_ll (L : ez_L) (k : Nat) : Option Int64 := match L[k]? with
  | some (some (.long x)) => some x
  | _ => none
def ez_la (L : ez_L) (k : Nat) : Option Nat := match L[k]? with
  | some (some (.ref x)) => some x
  | _ => none
def ez_clr (L : ez_L) : Nat → ez_L
  | 0 => L
  | k + 1 => match L[k]? with
    | some (some (.long _)) => L.set k none
    | some (some (.double _)) => L.set k none
    | _ => L
def ez_s1 (L : ez_L) (k : Nat) (v : Value) : Option ez_L := bif Nat.blt k L.length then some ((ez_clr L k).set k (some v)) else none
def ez_s2 (L : ez_L) (k : Nat) (v : Value) : Option ez_L := bif Nat.blt (k + 1) L.length then some (((ez_clr L k).set k (some v)).set (k + 1) none) else none
def ez_br (pc : Nat) (off : Int) : Option Nat := match (pc : Int) + off with
  | .ofNat t => some t
  | .negSucc _ => none
def ez_cd (c : Jvm.ClassFile.Cond) (x y : Int32) : Bool := match c with
  | .eq => decide (x = y)
  | .ne => decide (¬ x = y)
  | .lt => decide (x < y)
  | .ge => decide (y ≤ x)
  | .gt => decide (y < x)
  | .le => decide (x ≤ y)
def ez_ft (kd : Nat) (v : Value) : Bool := match kd, v with
  | 0, .int _ => true
  | 1, .long _ => true
  | 2, .int x => x == 0 || x == 1
  | _, _ => false
/-- the length of the instructions that are known here; 0: any -/
def ez_n : Instr → Nat
  | .bipush _ | .ldc _ | .iload _ | .lload _ | .aload _ | .istore _ | .lstore _ => 2
  | .sipush _ | .ldc2_w _ | .iinc _ _ | .if_icmp _ _ | .ifCond _ _ | .goto _ | .getfield _ | .putfield _ | .invokevirtual _ | .invokestatic _ => 3
  | .tableswitch .. | .lookupswitch .. => 0
  | _ => 1
def ez_ok (i : Instr) (len : Nat) : Bool := bif Nat.beq (ez_n i) 0 then true else Nat.beq len (ez_n i)
/-- one step within a method: no call, no return -/
def ez_s (o : Nat) (i : Instr) (pc : Nat) (L : ez_L) (st : List Value) (w : ez_W) : Option ez_K := match i with
  | .iconst n => some (pc + 1, L, .int (Int32.ofInt n) :: st, w)
  | .bipush n => some (pc + 2, L, .int (Int8.ofInt n).toInt32 :: st, w)
  | .sipush n => some (pc + 3, L, .int (Int16.ofInt n).toInt32 :: st, w)
  | .lconst n => some (pc + 1, L, .long (Int64.ofNat n) :: st, w)
  | .ldc k => match ez_at ez_kk o k with
    | some v => some (pc + 2, L, .int v :: st, w)
    | none => none
  | .ldc2_w k => match ez_at ez_kl o k with
    | some v => some (pc + 3, L, .long v :: st, w)
    | none => none
  | .iload_n k => match ez_li L k with
    | some x => some (pc + 1, L, .int x :: st, w)
    | none => none
  | .iload k => match ez_li L k with
    | some x => some (pc + 2, L, .int x :: st, w)
    | none => none
  | .lload_n k => match ez_ll L k with
    | some x => some (pc + 1, L, .long x :: st, w)
    | none => none
  | .lload k => match ez_ll L k with
    | some x => some (pc + 2, L, .long x :: st, w)
    | none => none
  | .aload_n k => match ez_la L k with
    | some x => some (pc + 1, L, .ref x :: st, w)
    | none => none
  | .aload k => match ez_la L k with
    | some x => some (pc + 2, L, .ref x :: st, w)
    | none => none
  | .istore_n k => match st with
    | .int x :: st => match ez_s1 L k (.int x) with
      | some L => some (pc + 1, L, st, w)
      | none => none
    | _ => none
  | .istore k => match st with
    | .int x :: st => match ez_s1 L k (.int x) with
      | some L => some (pc + 2, L, st, w)
      | none => none
    | _ => none
  | .lstore_n k => match st with
    | .long x :: st => match ez_s2 L k (.long x) with
      | some L => some (pc + 1, L, st, w)
      | none => none
    | _ => none
  | .lstore k => match st with
    | .long x :: st => match ez_s2 L k (.long x) with
      | some L => some (pc + 2, L, st, w)
      | none => none
    | _ => none
  | .iinc k n => match ez_li L k with
    | some x => match ez_s1 L k (.int (x + Int32.ofInt n)) with
      | some L => some (pc + 3, L, st, w)
      | none => none
    | none => none
  | .iadd => match st with
    | .int y :: .int x :: st => some (pc + 1, L, .int (x + y) :: st, w)
    | _ => none
  | .isub => match st with
    | .int y :: .int x :: st => some (pc + 1, L, .int (x - y) :: st, w)
    | _ => none
  | .imul => match st with
    | .int y :: .int x :: st => some (pc + 1, L, .int (x * y) :: st, w)
    | _ => none
  | .iand => match st with
    | .int y :: .int x :: st => some (pc + 1, L, .int (x &&& y) :: st, w)
    | _ => none
  | .ishr => match st with
    | .int y :: .int x :: st => some (pc + 1, L, .int (x >>> (y &&& 31)) :: st, w)
    | _ => none
  | .idiv => match st with
    | .int y :: .int x :: st => if y = 0 then none else some (pc + 1, L, .int (x / y) :: st, w)
    | _ => none
  | .ladd => match st with
    | .long y :: .long x :: st => some (pc + 1, L, .long (x + y) :: st, w)
    | _ => none
  | .lsub => match st with
    | .long y :: .long x :: st => some (pc + 1, L, .long (x - y) :: st, w)
    | _ => none
  | .lmul => match st with
    | .long y :: .long x :: st => some (pc + 1, L, .long (x * y) :: st, w)
    | _ => none
  | .land => match st with
    | .long y :: .long x :: st => some (pc + 1, L, .long (x &&& y) :: st, w)
    | _ => none
  | .lrem => match st with
    | .long y :: .long x :: st => if y = 0 then none else some (pc + 1, L, .long (x - x / y * y) :: st, w)
    | _ => none
  | .lneg => match st with
    | .long x :: st => some (pc + 1, L, .long (-x) :: st, w)
    | _ => none
  | .lushr => match st with
    | .int y :: .long x :: st => some (pc + 1, L, .long (x.toUInt64 >>> (y.toInt64.toUInt64 &&& Int64.toUInt64 63)).toInt64 :: st, w)
    | _ => none
  | .lcmp => match st with
    | .long y :: .long x :: st => some (pc + 1, L, .int (lg_cmp x y) :: st, w)
    | _ => none
  | .i2l => match st with
    | .int x :: st => some (pc + 1, L, .long x.toInt64 :: st, w)
    | _ => none
  | .l2i => match st with
    | .long x :: st => some (pc + 1, L, .int x.toInt32 :: st, w)
    | _ => none
  | .dup => match st with
    | .int x :: st => some (pc + 1, L, .int x :: .int x :: st, w)
    | .ref x :: st => some (pc + 1, L, .ref x :: .ref x :: st, w)
    | _ => none
  | .dup2 => match st with
    | .int y :: .ref x :: st => some (pc + 1, L, .int y :: .ref x :: .int y :: .ref x :: st, w)
    | _ => none
  | .pop => match st with
    | .int _ :: st => some (pc + 1, L, st, w)
    | _ => none
  | .goto off => match ez_br pc off with
    | some t => some (t, L, st, w)
    | none => none
  | .ifCond c off => match st with
    | .int x :: st => match ez_br pc off with
      | some t => some (bif ez_cd c x 0 then t else pc + 3, L, st, w)
      | none => none
    | _ => none
  | .if_icmp c off => match st with
    | .int y :: .int x :: st => match ez_br pc off with
      | some t => some (bif ez_cd c x y then t else pc + 3, L, st, w)
      | none => none
    | _ => none
  | .tableswitch d lo hi offs => match st with
    | .int x :: st => match (if x.toInt < lo ∨ hi < x.toInt then some d else offs[(x.toInt - lo).toNat]?) with
      | some off => match ez_br pc off with
        | some t => some (t, L, st, w)
        | none => none
      | none => none
    | _ => none
  | .lookupswitch d ps => match st with
    | .int x :: st => bif (ps.toList.zip (ps.toList.drop 1)).all (fun (a, next) => a.1 < next.1) then match ez_br pc (Op.lookupswitch.offset ps.toList d x.toInt) with
        | some t => some (t, L, st, w)
        | none => none
      else none
    | _ => none
  | .getfield k => match st with
    | .ref a :: st => match ez_at ez_ff o k with
      | some (j, _) => match w[a]? with
        | some (.inr (c, fs)) => bif Nat.beq c o then match fs[j]? with
            | some v => some (pc + 3, L, v :: st, w)
            | none => none
          else none
        | _ => none
      | none => none
    | _ => none
  | .putfield k => match st with
    | v :: .ref a :: st => match ez_at ez_ff o k with
      | some (j, kd) => bif ez_ft kd v then match w[a]? with
          | some (.inr (c, fs)) => bif Nat.beq c o && Nat.blt j fs.length then some (pc + 3, L, st, w.set a (.inr (c, fs.set j v))) else none
          | _ => none
        else none
      | none => none
    | _ => none
  | .iaload => match st with
    | .int i :: .ref a :: st => match w[a]? with
      | some (.inl (n, f)) => if i < 0 ∨ n ≤ i.toNatClampNeg then none else some (pc + 1, L, .int (f i.toNatClampNeg) :: st, w)
      | _ => none
    | _ => none
  | .iastore => match st with
    | .int x :: .int i :: .ref a :: st => match w[a]? with
      | some (.inl (n, f)) => if i < 0 ∨ n ≤ i.toNatClampNeg then none else some (pc + 1, L, st, w.set a (.inl (n, upd f i.toNatClampNeg x)))
      | _ => none
    | _ => none
  | .arraylength => match st with
    | .ref a :: st => match w[a]? with
      | some (.inl (n, _)) => some (pc + 1, L, .int (Int32.ofNat n) :: st, w)
      | _ => none
    | _ => none
  | _ => none
/-- the locals at a method's entry -/
def ez_en (vs : List Value) (n : Nat) : ez_L := (vs.flatMap fun v => if v.category = 2 then [some v, none] else [some v]) ++ List.replicate (n - (vs.flatMap fun v => if v.category = 2 then [some v, none] else [some v]).length) none
def ez_rk (r : Option FieldType) (v : Int32) : Bool := match r with
  | some .int => true
  | some .boolean => v == 0 || v == 1
  | _ => false
/-- does the callee N fit the room of M, with rest left on the stack? -/
def ez_fit (M N : ez_M) (rest : List Value) : Bool := Nat.ble (N.2.2.2.2.2.2.1 + 1) M.2.2.2.2.2.2.1 && (Nat.ble (8 + (N.2.2.2.1 + 11) + N.2.2.2.2.2.2.2) M.2.2.2.2.2.2.2 && Nat.ble (rest.map fun v => v.category).sum 8)
/-- a method's run: what it answers, and the world behind it -/
def ez_ev : Nat → Nat → Nat → ez_L → List Value → ez_W → Option (Option Value × ez_W)
  | 0, _, _, _, _, _ => none
  | n + 1, mi, pc, L, st, w => match ez_ms[mi]? with
    | none => none
    | some M => match ez_i mi pc with
      | none => none
      | some (i, len) => bif ez_ok i len then
        match i with
        | .ireturn => match st with
          | [.int v] => bif ez_rk M.2.2.2.2.1 v then some (some (.int v), w) else none
          | _ => none
        | .lreturn => match st, M.2.2.2.2.1 with
          | [.long v], some .long => some (some (.long v), w)
          | _, _ => none
        | .return_ => match st, M.2.2.2.2.1 with
          | [], none => some (none, w)
          | _, _ => none
        | .invokevirtual k => match ez_at ez_cc M.1 k with
          | none => none
          | some j => match ez_ms[j]? with
            | none => none
            | some N => match st.drop N.2.2.2.2.2.1 with
              | .ref a :: rest => match w[a]? with
                | some (.inr (c, _)) =>
                  bif Nat.beq c N.1 && (ez_fit M N rest && (Nat.beq (st.take N.2.2.2.2.2.1).length N.2.2.2.2.2.1 && Nat.beq (ez_en (.ref a :: (st.take N.2.2.2.2.2.1).reverse) N.2.2.2.1).length N.2.2.2.1)) then
                    match ez_ev n j 0 (ez_en (.ref a :: (st.take N.2.2.2.2.2.1).reverse) N.2.2.2.1) [] w with
                    | some (r, w1) => ez_ev n mi (pc + 3) L (r.toList ++ rest) w1
                    | none => none
                  else none
                | _ => none
              | _ => none
        | .invokestatic k => match ez_at ez_mm M.1 k with
          | some f => match st with
            | .int y :: .int x :: rest => bif Nat.ble 1 M.2.2.2.2.2.2.1 && (Nat.ble ((rest.map fun v => v.category).sum + 13) M.2.2.2.2.2.2.2) then
                ez_ev n mi (pc + 3) L (.int (bif Nat.beq f 0 then (if y < x then y else x) else (if x < y then y else x)) :: rest) w else none
            | _ => none
          | none => match ez_at ez_sc M.1 k with
            | none => none
            | some j => match ez_ms[j]? with
              | none => none
              | some N => 
                bif Nat.beq M.1 N.1 && (ez_fit M N (st.drop N.2.2.2.2.2.1) && (Nat.beq (st.take N.2.2.2.2.2.1).length N.2.2.2.2.2.1 && Nat.beq (ez_en ((st.take N.2.2.2.2.2.1).reverse) N.2.2.2.1).length N.2.2.2.1)) then
                  match ez_ev n j 0 (ez_en ((st.take N.2.2.2.2.2.1).reverse) N.2.2.2.1) [] w with
                  | some (r, w1) => ez_ev n mi (pc + 3) L (r.toList ++ st.drop N.2.2.2.2.2.1) w1
                  | none => none
                else none
        | i => match ez_s M.1 i pc L st w with
          | some (pc', L', st', w') => ez_ev n mi pc' L' st' w'
          | none => none
      else none
end
section
/-! ===== the tables hold what the Statement's tables say ===== -/
abbrev vwCl : List vw_C := [(RX0, TX0, 1), (RX1, TX1, 1), (RX2, TX2, 15), (RX3, TX3, 8), (RX4, TX4, 7), (RX5, TX5, 1), (RX7, TX7, 10), (RX8, TX8, 26)]
def ez_R (o : Nat) : String := match vwCl[o]? with
  | some q => q.1
  | none => ""
def ez_in (w : Jvm.Cond) : Bool := decide (w ∈ lw_tbl) && goodWord w
def ez_fk (kd : Nat) (f : String × String × String × Bool) : Bool := match kd with
  | 0 => !f.2.2.2 && decide (parseFieldDescriptor f.2.2.1 = some .int)
  | 1 => !f.2.2.2 && decide (parseFieldDescriptor f.2.2.1 = some .long)
  | 2 => !f.2.2.2 && decide (parseFieldDescriptor f.2.2.1 = some .boolean)
  | _ => true
def ez_fok (q : vw_C) (r : Nat × Nat × Nat) : Bool :=
  decide (r.2.1 < q.2.2) && (ez_in (.fieldLink q.1 r.1 q.1 (q.2.1 r.2.1).2.1 (q.2.1 r.2.1).2.2.1) && ((decide ((q.2.1 r.2.1).1 = q.1) || ez_in (.sameField q.1 (q.2.1 r.2.1).1 (q.2.1 r.2.1).2.1 (q.2.1 r.2.1).2.2.1)) && ez_fk r.2.2 (q.2.1 r.2.1)))
def ez_inp (k : Nat) (w : Jvm.Cond) : Bool := decide (lw_tbl[k]? = some w) && goodWord w
def ez_mok (N : ez_M) (q : Nat × Nat) : Bool :=
  ez_inp q.1 (.code N.2.1 N.2.2.1 N.2.2.2.1 N.2.2.2.2.1) && (ez_inp q.2 (.initialized N.2.1.cls) && (decide (ez_R N.1 = N.2.1.cls) && (decide (plainName N.2.1.cls = true) && (decide (N.2.1.cls ≠ "java/lang/invoke/MethodHandle" ∧ N.2.1.cls ≠ "java/lang/invoke/VarHandle") && decide ((parseMethodDescriptor N.2.1.desc).map (fun d => d.parameters.length) = some N.2.2.2.2.2.1)))))
def ez_cok (o : Nat) (p : (Nat × Nat) × (Nat × Nat × Nat)) : Bool := match ez_ms[p.1.2]? with
  | some N => ez_inp p.2.1 (.methodLink (ez_R o) p.1.1 N.2.1) && (ez_inp p.2.2.1 (.instanceMethod N.2.1) && ez_inp p.2.2.2 (.selects N.2.1.cls N.2.1 N.2.1))
  | none => false
def ez_sok (o : Nat) (r : Nat × Nat) : Bool := match ez_ms[r.2]? with
  | some N => ez_in (.methodLink (ez_R o) r.1 N.2.1) && ez_in (.static N.2.1)
  | none => false
def ez_mmok (o : Nat) (r : Nat × Nat) : Bool := bif Nat.beq r.2 0 then ez_in (.methodLink (ez_R o) r.1 Lib.Math.min.name) && (ez_in (.static Lib.Math.min.name) && (ez_in (.initialized "java/lang/Math") && ez_in (.code Lib.Math.min.name Lib.Math.min.code 2 (some .int))))
  else ez_in (.methodLink (ez_R o) r.1 Lib.Math.max.name) && (ez_in (.static Lib.Math.max.name) && (ez_in (.initialized "java/lang/Math") && ez_in (.code Lib.Math.max.name Lib.Math.max.code 2 (some .int))))
def ez_kok (o : Nat) (r : Nat × Int32) : Bool := ez_in (.constant (ez_R o) r.1 r.2)
def ez_klok (o : Nat) (r : Nat × Int64) : Bool := ez_in (.constantLong (ez_R o) r.1 r.2)
def ez_dok (b : ByteArray) (t : List (Nat × Instr × Nat)) : Bool := t.all (fun q => decide (decode b q.1 = .ok q.2))
set_option maxRecDepth 100000 in
theorem ez_ff_ok : ∀ p ∈ vwCl.zip ez_ff, p.2.all (ez_fok p.1) = true := by decide +kernel
def ez_ccp : List (List (Nat × Nat × Nat)) := [[(508, 276, 277), (509, 510, 511), (513, 515, 7), (536, 435, 436), (517, 439, 440), (518, 519, 520), (535, 443, 444)],
  [(540, 276, 277), (541, 542, 543), (545, 547, 9), (549, 439, 440), (550, 519, 520), (551, 443, 444)],
  [(555, 276, 277), (556, 558, 10), (561, 563, 11), (570, 572, 12), (574, 576, 13), (586, 439, 440), (587, 519, 520), (589, 591, 16), (602, 604, 19), (614, 616, 22), (627, 629, 24), (565, 542, 543), (566, 567, 568), (578, 580, 14), (588, 435, 436), (582, 584, 15), (593, 595, 17), (597, 599, 18), (601, 443, 444), (606, 608, 20), (610, 612, 21), (618, 619, 620), (622, 510, 511), (623, 625, 23)],
  [(438, 439, 440), (442, 443, 444), (458, 435, 436), (522, 524, 8), (526, 527, 528), (530, 531, 532), (721, 364, 365)],
  [(634, 276, 277), (635, 637, 25), (642, 644, 26), (657, 659, 28), (661, 663, 29), (689, 691, 36), (639, 439, 440), (640, 519, 520), (641, 455, 456), (649, 651, 27), (653, 443, 444), (665, 667, 30), (673, 675, 32), (677, 679, 33), (669, 671, 31), (681, 683, 34), (685, 687, 35)],
  [(703, 439, 440), (704, 519, 520), (705, 443, 444)],
  [(275, 276, 277), (734, 527, 528), (490, 491, 492), (494, 495, 496), (279, 280, 281), (753, 531, 532)],
  [(866, 868, 40), (884, 886, 41), (888, 890, 42), (920, 922, 47), (916, 918, 46), (912, 914, 45), (929, 931, 49), (933, 935, 50), (957, 959, 56), (953, 955, 55), (941, 943, 52), (945, 947, 53), (908, 910, 44), (949, 951, 54), (961, 963, 57), (965, 967, 58), (925, 927, 48), (969, 971, 59), (981, 983, 62), (993, 995, 65), (997, 999, 66), (977, 979, 61), (985, 987, 63), (989, 991, 64), (937, 939, 51), (973, 975, 60), (1001, 1003, 67), (904, 906, 43)]]
def ez_msp : List (Nat × Nat) := [(507, 73), (512, 73), (516, 73), (539, 72), (544, 72), (569, 72), (621, 72), (548, 72), (497, 74), (764, 74), (554, 74), (559, 74), (573, 74), (630, 74), (564, 74), (577, 74), (581, 74), (585, 74), (592, 74), (605, 74), (609, 74), (600, 74), (596, 74), (613, 74), (617, 74), (626, 74), (278, 70), (474, 70), (478, 70), (493, 70), (282, 70), (366, 70), (441, 70), (445, 70), (529, 70), (437, 70), (457, 70), (533, 70), (521, 70), (720, 70), (725, 70), (525, 70), (768, 75), (772, 75), (633, 75), (638, 75), (645, 75), (652, 75), (660, 75), (672, 75), (688, 75), (664, 75), (692, 75), (668, 75), (676, 75), (680, 75), (684, 75), (702, 76), (274, 69), (489, 69), (709, 69), (752, 69), (861, 77), (865, 77), (869, 77), (873, 77), (879, 77), (887, 77), (891, 77), (883, 77), (895, 77), (899, 77), (923, 77), (919, 77), (915, 77), (936, 77), (911, 77), (932, 77), (928, 77), (960, 77), (956, 77), (964, 77), (968, 77), (972, 77), (952, 77), (940, 77), (944, 77), (948, 77), (984, 77), (980, 77), (988, 77), (1000, 77), (996, 77), (992, 77), (976, 77), (1007, 77), (1004, 77), (907, 77), (903, 77), (1011, 77), (1015, 77), (1019, 77), (1023, 77), (1027, 77), (1031, 77)]
theorem ez_cc_len : ∀ o ∈ List.range 8, ((ez_cc[o]?).getD []).length = ((ez_ccp[o]?).getD []).length := by decide +kernel
set_option maxRecDepth 100000 in
theorem ez_cc_ok0 : (((ez_cc[0]?).getD []).zip ((ez_ccp[0]?).getD [])).all (ez_cok 0) = true := by decide +kernel
set_option maxRecDepth 100000 in
theorem ez_cc_ok1 : (((ez_cc[1]?).getD []).zip ((ez_ccp[1]?).getD [])).all (ez_cok 1) = true := by decide +kernel
set_option maxRecDepth 100000 in
theorem ez_cc_ok2 : (((ez_cc[2]?).getD []).zip ((ez_ccp[2]?).getD [])).all (ez_cok 2) = true := by decide +kernel
set_option maxRecDepth 100000 in
theorem ez_cc_ok3 : (((ez_cc[3]?).getD []).zip ((ez_ccp[3]?).getD [])).all (ez_cok 3) = true := by decide +kernel
set_option maxRecDepth 100000 in
theorem ez_cc_ok4 : (((ez_cc[4]?).getD []).zip ((ez_ccp[4]?).getD [])).all (ez_cok 4) = true := by decide +kernel
set_option maxRecDepth 100000 in
theorem ez_cc_ok5 : (((ez_cc[5]?).getD []).zip ((ez_ccp[5]?).getD [])).all (ez_cok 5) = true := by decide +kernel
set_option maxRecDepth 100000 in
theorem ez_cc_ok6 : (((ez_cc[6]?).getD []).zip ((ez_ccp[6]?).getD [])).all (ez_cok 6) = true := by decide +kernel
set_option maxRecDepth 100000 in
theorem ez_cc_ok7 : (((ez_cc[7]?).getD []).zip ((ez_ccp[7]?).getD [])).all (ez_cok 7) = true := by decide +kernel
theorem ez_ms_len : ez_ms.length = ez_msp.length := by decide +kernel
set_option maxRecDepth 100000 in
theorem ez_ms_ok0 : ∀ p ∈ ((ez_ms.zip ez_msp).drop 0).take 15, ez_mok p.1 p.2 = true := by decide +kernel
set_option maxRecDepth 100000 in
theorem ez_ms_ok15 : ∀ p ∈ ((ez_ms.zip ez_msp).drop 15).take 15, ez_mok p.1 p.2 = true := by decide +kernel
set_option maxRecDepth 100000 in
theorem ez_ms_ok30 : ∀ p ∈ ((ez_ms.zip ez_msp).drop 30).take 15, ez_mok p.1 p.2 = true := by decide +kernel
set_option maxRecDepth 100000 in
theorem ez_ms_ok45 : ∀ p ∈ ((ez_ms.zip ez_msp).drop 45).take 15, ez_mok p.1 p.2 = true := by decide +kernel
set_option maxRecDepth 100000 in
theorem ez_ms_ok60 : ∀ p ∈ ((ez_ms.zip ez_msp).drop 60).take 15, ez_mok p.1 p.2 = true := by decide +kernel
set_option maxRecDepth 100000 in
theorem ez_ms_ok75 : ∀ p ∈ ((ez_ms.zip ez_msp).drop 75).take 15, ez_mok p.1 p.2 = true := by decide +kernel
set_option maxRecDepth 100000 in
theorem ez_ms_ok90 : ∀ p ∈ ((ez_ms.zip ez_msp).drop 90).take 15, ez_mok p.1 p.2 = true := by decide +kernel
set_option maxRecDepth 100000 in
theorem ez_sc_ok : ∀ o ∈ List.range 8, ((ez_sc[o]?).getD []).all (ez_sok o) = true := by decide +kernel
set_option maxRecDepth 100000 in
theorem ez_mm_ok : ∀ o ∈ List.range 8, ((ez_mm[o]?).getD []).all (ez_mmok o) = true := by decide +kernel
set_option maxRecDepth 100000 in
theorem ez_kk_ok : ∀ o ∈ List.range 8, ((ez_kk[o]?).getD []).all (ez_kok o) = true := by decide +kernel
set_option maxRecDepth 100000 in
theorem ez_kl_ok : ∀ o ∈ List.range 8, ((ez_kl[o]?).getD []).all (ez_klok o) = true := by decide +kernel
set_option maxRecDepth 100000 in
theorem ez_d_ok0 : ∀ p ∈ ((ez_ms.zip ez_tb).drop 0).take 20, ez_dok p.1.2.2.1 p.2 = true := by decide +kernel
set_option maxRecDepth 100000 in
theorem ez_d_ok20 : ∀ p ∈ ((ez_ms.zip ez_tb).drop 20).take 20, ez_dok p.1.2.2.1 p.2 = true := by decide +kernel
set_option maxRecDepth 100000 in
theorem ez_d_ok40 : ∀ p ∈ ((ez_ms.zip ez_tb).drop 40).take 20, ez_dok p.1.2.2.1 p.2 = true := by decide +kernel
set_option maxRecDepth 100000 in
theorem ez_d_ok60 : ∀ p ∈ ((ez_ms.zip ez_tb).drop 60).take 15, ez_dok p.1.2.2.1 p.2 = true := by decide +kernel
set_option maxRecDepth 100000 in
theorem ez_d_ok75 : ∀ p ∈ ((ez_ms.zip ez_tb).drop 75).take 15, ez_dok p.1.2.2.1 p.2 = true := by decide +kernel
set_option maxRecDepth 100000 in
theorem ez_d_ok90 : ∀ p ∈ ((ez_ms.zip ez_tb).drop 90).take 15, ez_dok p.1.2.2.1 p.2 = true := by decide +kernel
end
section
/-! ===== a step of the interpreter is a step of the machine ===== -/
def ez_G : List Jvm.Cond := lw_tbl.filter goodWord
theorem ez_in_G {w : Jvm.Cond} (h : ez_in w = true) : w ∈ ez_G := by
  simp only [ez_in, Bool.and_eq_true, decide_eq_true_eq] at h
  exact List.mem_filter.mpr h
theorem ez_inp_G {k : Nat} {w : Jvm.Cond} (h : ez_inp k w = true) : w ∈ ez_G := by
  simp only [ez_inp, Bool.and_eq_true, decide_eq_true_eq] at h
  exact List.mem_filter.mpr ⟨List.mem_of_getElem? h.1, h.2⟩
theorem ez_G_good {ws : List Jvm.Cond} (h : ∀ w ∈ ws, w ∈ ez_G) : GoodIn ez_G ws := fun w hw => ⟨h w hw, good_of_word (List.mem_filter.mp (h w hw)).2⟩
theorem ez_G_tbl {w : Jvm.Cond} (h : w ∈ ez_G) : w ∈ lw_tbl := (List.mem_filter.mp h).1
theorem ez_lk_mem {α : Type} {k : Nat} {v : α} : ∀ {r : List (Nat × α)}, ez_lk r k = some v → (k, v) ∈ r
  | [], h => by cases h
  | q :: t, h => by
    unfold ez_lk at h
    cases hq : Nat.beq q.1 k with
    | true =>
      rw [hq] at h
      obtain ⟨a, b⟩ := q
      have e1 : a = k := Nat.eq_of_beq_eq_true hq
      cases h
      rw [e1]
      exact List.mem_cons_self
    | false =>
      rw [hq] at h
      exact List.mem_cons_of_mem _ (ez_lk_mem h)
theorem ez_at_mem {α : Type} {t : List (List (Nat × α))} {o k : Nat} {v : α} (h : ez_at t o k = some v) : ∃ r, t[o]? = some r ∧ (k, v) ∈ r := by
  unfold ez_at at h
  cases hr : t[o]? with
  | none => rw [hr] at h; cases h
  | some r => rw [hr] at h; exact ⟨r, rfl, ez_lk_mem h⟩
def ez_v (ad : Nat → Nat) : Value → Value
  | .ref a => .ref (ad a)
  | v => v
theorem ez_v_cat (ad : Nat → Nat) (v : Value) : (ez_v ad v).category = v.category := by cases v <;> rfl
def ez_e (cI : ClassId) (ad : Nat → Nat) : ez_C → va_E
  | .inl x => .inl (cI, x.1, .inl x.2)
  | .inr o => .inr (o.1, o.2.map (ez_v ad))
def ez_z (cI : ClassId) (ad : Nat → Nat) (w : ez_W) : va_W := w.mapIdx (fun k e => (ad k, ez_e cI ad e))
theorem ez_z_at {cI : ClassId} {ad : Nat → Nat} {w : ez_W} {k : Nat} {e : ez_C} (h : w[k]? = some e) : (ez_z cI ad w)[k]? = some (ad k, ez_e cI ad e) := by simp [ez_z, h]
theorem ez_z_set {cI : ClassId} {ad : Nat → Nat} {w : ez_W} {k : Nat} {e : ez_C} : ez_z cI ad (w.set k e) = (ez_z cI ad w).set k (ad k, ez_e cI ad e) := by
  apply List.ext_getElem?
  intro j
  simp only [ez_z, List.getElem?_mapIdx, List.getElem?_set, List.length_mapIdx]
  by_cases hj : k = j
  · subst hj
    by_cases hk : k < w.length <;> simp [hk]
  · simp [hj]
def ez_l (nL : Nat) (ad : Nat → Nat) (L : ez_L) (ls : Array Slot) : Prop := L.length = nL ∧ ls.size = nL ∧ lv_wf ls ∧ ∀ (i : Nat) (v : Value), L[i]? = some (some v) → ls[i]? = some (.val (ez_v ad v))
def ez_p (ad : Nat → Nat) (L : ez_L) : List (Nat × Value) := (List.range L.length).filterMap (fun k => match L[k]? with
  | some (some v) => some (k, ez_v ad v)
  | _ => none)
theorem ez_p_mem {ad : Nat → Nat} {L : ez_L} {i : Nat} {v : Value} (h : L[i]? = some (some v)) : (i, ez_v ad v) ∈ ez_p ad L := by
  refine List.mem_filterMap.mpr ⟨i, List.mem_range.mpr ?_, ?_⟩
  · exact (List.getElem?_eq_some_iff.mp h).1
  · rw [h]
theorem ez_p_of {ad : Nat → Nat} {L : ez_L} {q : Nat × Value} (h : q ∈ ez_p ad L) : ∃ v, L[q.1]? = some (some v) ∧ q.2 = ez_v ad v := by
  obtain ⟨k, -, hk⟩ := List.mem_filterMap.mp h
  split at hk
  · rename_i v hv
    cases hk
    exact ⟨v, hv, rfl⟩
  · cases hk
theorem ez_has {nL : Nat} {ad : Nat → Nat} {L : ez_L} {ls : Array Slot} (h : ez_l nL ad L ls) : lv_has ls nL (ez_p ad L) := by
  refine ⟨h.2.1, h.2.2.1, fun q hq => ?_⟩
  obtain ⟨v, h1, h2⟩ := ez_p_of hq
  rw [h2]
  exact h.2.2.2 _ _ h1
theorem ez_clr_len (L : ez_L) (i : Nat) : (ez_clr L i).length = L.length := by
  cases i with
  | zero => rfl
  | succ k =>
    unfold ez_clr
    dsimp only
    split <;> simp
theorem ez_clr_get {L : ez_L} {i j : Nat} {u : Value} (h : (ez_clr L i)[j]? = some (some u)) : L[j]? = some (some u) ∧ (j + 1 = i → u.category = 1) := by
  cases i with
  | zero => exact ⟨h, fun q => by omega⟩
  | succ k =>
    unfold ez_clr at h
    dsimp only at h
    split at h
    · by_cases hj : k = j
      · subst hj
        rw [List.getElem?_set] at h
        simp at h
      · rw [List.getElem?_set_ne hj] at h
        exact ⟨h, fun q => by omega⟩
    · by_cases hj : k = j
      · subst hj
        rw [List.getElem?_set] at h
        simp at h
      · rw [List.getElem?_set_ne hj] at h
        exact ⟨h, fun q => by omega⟩
    · rename_i h1 h2
      refine ⟨h, fun q => ?_⟩
      have e : j = k := by omega
      subst e
      cases u <;> first | rfl | exact absurd h (h1 _) | exact absurd h (h2 _)
theorem ez_s1_ok {nL : Nat} {ad : Nat → Nat} {L L' : ez_L} {i : Nat} {v : Value} {ls' : Array Slot} (hL : L.length = nL) (he : ez_s1 L i v = some L') (h : lv_has ls' nL ((i, ez_v ad v) :: (ez_p ad L).filter (fun q => !(q.1 == i) && !(q.1 + 1 == i && q.2.category == 2)))) : ez_l nL ad L' ls' := by
  unfold ez_s1 at he
  cases hb : Nat.blt i L.length with
  | false => rw [hb] at he; cases he
  | true =>
    rw [hb] at he
    cases he
    refine ⟨by rw [List.length_set, ez_clr_len, hL], h.1, h.2.1, fun j u hj => ?_⟩
    by_cases hij : i = j
    · subst hij
      rw [List.getElem?_set_self' ] at hj
      cases hq : (ez_clr L i)[i]? with
      | none => rw [hq] at hj; cases hj
      | some z =>
        rw [hq] at hj
        cases hj
        exact h.2.2 _ List.mem_cons_self
    · rw [List.getElem?_set_ne hij] at hj
      obtain ⟨h1, h2⟩ := ez_clr_get hj
      refine h.2.2 (j, ez_v ad u) (List.mem_cons_of_mem _ (List.mem_filter.mpr ⟨ez_p_mem h1, ?_⟩))
      have a1 : (j == i) = false := by simp; omega
      by_cases hji : j + 1 = i
      · have := h2 hji
        simp [a1, ez_v_cat, this]
      · simp [a1, hji]
theorem ez_s2_ok {nL : Nat} {ad : Nat → Nat} {L L' : ez_L} {i : Nat} {v : Value} {ls' : Array Slot} (hL : L.length = nL) (he : ez_s2 L i v = some L') (h : lv_has ls' nL ((i, ez_v ad v) :: (ez_p ad L).filter (fun q => !(q.1 == i) && (!(q.1 == i + 1) && !(q.1 + 1 == i && q.2.category == 2))))) : ez_l nL ad L' ls' := by
  unfold ez_s2 at he
  cases hb : Nat.blt (i + 1) L.length with
  | false => rw [hb] at he; cases he
  | true =>
    rw [hb] at he
    cases he
    refine ⟨by rw [List.length_set, List.length_set, ez_clr_len, hL], h.1, h.2.1, fun j u hj => ?_⟩
    by_cases hij1 : i + 1 = j
    · subst hij1
      rw [List.getElem?_set_self'] at hj
      cases hq : ((ez_clr L i).set i (some v))[i + 1]? with
      | none => rw [hq] at hj; cases hj
      | some z => rw [hq] at hj; cases hj
    · rw [List.getElem?_set_ne hij1] at hj
      by_cases hij : i = j
      · subst hij
        rw [List.getElem?_set_self' ] at hj
        cases hq : (ez_clr L i)[i]? with
        | none => rw [hq] at hj; cases hj
        | some z =>
          rw [hq] at hj
          cases hj
          exact h.2.2 _ List.mem_cons_self
      · rw [List.getElem?_set_ne hij] at hj
        obtain ⟨h1, h2⟩ := ez_clr_get hj
        refine h.2.2 (j, ez_v ad u) (List.mem_cons_of_mem _ (List.mem_filter.mpr ⟨ez_p_mem h1, ?_⟩))
        have a1 : (j == i) = false := by simp; omega
        have a2 : (j == i + 1) = false := by simp; omega
        by_cases hji : j + 1 = i
        · have := h2 hji
          simp [a1, a2, ez_v_cat, this]
        · simp [a1, a2, hji]
theorem ez_li_of {L : ez_L} {k : Nat} {x : Int32} (h : ez_li L k = some x) : L[k]? = some (some (.int x)) := by
  unfold ez_li at h
  split at h
  · rename_i y hy
    cases h
    exact hy
  · cases h
theorem ez_ll_of {L : ez_L} {k : Nat} {x : Int64} (h : ez_ll L k = some x) : L[k]? = some (some (.long x)) := by
  unfold ez_ll at h
  split at h
  · rename_i y hy
    cases h
    exact hy
  · cases h
theorem ez_la_of {L : ez_L} {k : Nat} {x : Nat} (h : ez_la L k = some x) : L[k]? = some (some (.ref x)) := by
  unfold ez_la at h
  split at h
  · rename_i y hy
    cases h
    exact hy
  · cases h
theorem ez_br_of {pc t : Nat} {off : Int} (h : ez_br pc off = some t) : (pc : Int) + off = (t : Int) := by
  unfold ez_br at h
  split at h
  · rename_i y hy
    cases h
    exact hy
  · cases h
theorem ez_s1_lt {L L' : ez_L} {i nL : Nat} {v : Value} (hL : L.length = nL) (h : ez_s1 L i v = some L') : i < nL := by
  unfold ez_s1 at h
  cases hb : Nat.blt i L.length with
  | false => rw [hb] at h; cases h
  | true => rw [← hL]; exact Nat.le_of_ble_eq_true hb
theorem ez_s2_lt {L L' : ez_L} {i nL : Nat} {v : Value} (hL : L.length = nL) (h : ez_s2 L i v = some L') : i + 1 < nL := by
  unfold ez_s2 at h
  cases hb : Nat.blt (i + 1) L.length with
  | false => rw [hb] at h; cases h
  | true => rw [← hL]; exact Nat.le_of_ble_eq_true hb
end
section
/-! ===== what the tables say of a field, a class, a constant ===== -/
theorem ez_w0 : ∀ w ∈ wsX00, ez_in w = true := by decide +kernel
theorem ez_w1 : ∀ w ∈ wsX10, ez_in w = true := by decide +kernel
theorem ez_w2 : ∀ w ∈ wsX20, ez_in w = true := by decide +kernel
theorem ez_w3 : ∀ w ∈ wsX30, ez_in w = true := by decide +kernel
theorem ez_w4 : ∀ w ∈ wsX40, ez_in w = true := by decide +kernel
theorem ez_w5 : ∀ w ∈ wsX50, ez_in w = true := by decide +kernel
theorem ez_w6 : ∀ w ∈ wsX70, ez_in w = true := by decide +kernel
theorem ez_w7 : ∀ w ∈ wsX80, ez_in w = true := by decide +kernel
def ez_cf (q : vw_C) : Prop := (∀ w ∈ u_ws q.1 q.2.1 q.2.2, w ∈ ez_G) ∧ ∃ ty0 : Nat → FieldType, (∀ k, k < q.2.2 → parseFieldDescriptor (q.2.1 k).2.2.1 = some (ty0 k)) ∧ (∀ a, a < q.2.2 → ∀ b, b < q.2.2 → a ≠ b → (q.2.1 a).2.1 ≠ (q.2.1 b).2.1)
theorem ez_cls {o : Nat} {q : vw_C} (h : vwCl[o]? = some q) : o < 8 ∧ ez_R o = q.1 ∧ ez_cf q := by
  have ho : o < 8 := (List.getElem?_eq_some_iff.mp h).1
  refine ⟨ho, by unfold ez_R; rw [h], ?_⟩
  match o, h with
  | 0, h => cases h; exact ⟨fun w hw => ez_in_G (ez_w0 w hw), tyX0, tyX0_ok, nmX0⟩
  | 1, h => cases h; exact ⟨fun w hw => ez_in_G (ez_w1 w hw), tyX1, tyX1_ok, nmX1⟩
  | 2, h => cases h; exact ⟨fun w hw => ez_in_G (ez_w2 w hw), tyX2, tyX2_ok, nmX2⟩
  | 3, h => cases h; exact ⟨fun w hw => ez_in_G (ez_w3 w hw), tyX3, tyX3_ok, nmX3⟩
  | 4, h => cases h; exact ⟨fun w hw => ez_in_G (ez_w4 w hw), tyX4, tyX4_ok, nmX4⟩
  | 5, h => cases h; exact ⟨fun w hw => ez_in_G (ez_w5 w hw), tyX5, tyX5_ok, nmX5⟩
  | 6, h => cases h; exact ⟨fun w hw => ez_in_G (ez_w6 w hw), tyX7, tyX7_ok, nmX7⟩
  | 7, h => cases h; exact ⟨fun w hw => ez_in_G (ez_w7 w hw), tyX8, tyX8_ok, nmX8⟩
theorem ez_fld {o idx k kd : Nat} (h : ez_at ez_ff o idx = some (k, kd)) : ∃ q : vw_C, vwCl[o]? = some q ∧ k < q.2.2 ∧ Jvm.Cond.fieldLink q.1 idx q.1 (q.2.1 k).2.1 (q.2.1 k).2.2.1 ∈ ez_G ∧ ((q.2.1 k).1 = q.1 ∨ Jvm.Cond.sameField q.1 (q.2.1 k).1 (q.2.1 k).2.1 (q.2.1 k).2.2.1 ∈ ez_G) ∧ ez_fk kd (q.2.1 k) = true := by
  obtain ⟨r, h1, h2⟩ := ez_at_mem h
  have ho : o < 8 := (List.getElem?_eq_some_iff.mp h1).1
  have hl : vwCl.length = 8 := rfl
  have hq : vwCl[o]? = some (vwCl[o]'(by omega)) := List.getElem?_eq_getElem _
  generalize (vwCl[o]'(by omega)) = q at hq
  have hz : (q, r) ∈ vwCl.zip ez_ff := by
    refine List.mem_of_getElem? (i := o) ?_
    rw [List.getElem?_zip_eq_some]
    exact ⟨hq, h1⟩
  have h3 := List.all_eq_true.mp (ez_ff_ok _ hz) _ h2
  simp only [ez_fok, Bool.and_eq_true, Bool.or_eq_true, decide_eq_true_eq] at h3
  obtain ⟨a1, a2, a3, a4⟩ := h3
  exact ⟨q, hq, a1, ez_in_G a2, a3.imp id ez_in_G, a4⟩
theorem ez_kk_of {o k : Nat} {v : Int32} (h : ez_at ez_kk o k = some v) : Jvm.Cond.constant (ez_R o) k v ∈ ez_G := by
  obtain ⟨r, h1, h2⟩ := ez_at_mem h
  have ho : o < 8 := (List.getElem?_eq_some_iff.mp h1).1
  have h3 := ez_kk_ok o (List.mem_range.mpr ho)
  rw [h1, Option.getD_some] at h3
  have h4 : ez_kok o (k, v) = true := List.all_eq_true.mp h3 _ h2
  unfold ez_kok at h4
  exact ez_in_G h4
theorem ez_kl_of {o k : Nat} {v : Int64} (h : ez_at ez_kl o k = some v) : Jvm.Cond.constantLong (ez_R o) k v ∈ ez_G := by
  obtain ⟨r, h1, h2⟩ := ez_at_mem h
  have ho : o < 8 := (List.getElem?_eq_some_iff.mp h1).1
  have h3 := ez_kl_ok o (List.mem_range.mpr ho)
  rw [h1, Option.getD_some] at h3
  have h4 : ez_klok o (k, v) = true := List.all_eq_true.mp h3 _ h2
  unfold ez_klok at h4
  exact ez_in_G h4
theorem ez_ft_of {kd : Nat} {v : Value} {f : String × String × String × Bool} (h : ez_fk kd f = true) (hv : ez_ft kd v = true) : f.2.2.2 = false ∧ ∃ ty, parseFieldDescriptor f.2.2.1 = some ty ∧ narrow ty v = v ∧ fits ty v = true := by
  unfold ez_ft at hv
  split at hv
  · simp only [ez_fk, Bool.and_eq_true, decide_eq_true_eq, Bool.not_eq_true'] at h
    exact ⟨h.1, _, h.2, rfl, rfl⟩
  · simp only [ez_fk, Bool.and_eq_true, decide_eq_true_eq, Bool.not_eq_true'] at h
    exact ⟨h.1, _, h.2, rfl, rfl⟩
  · simp only [ez_fk, Bool.and_eq_true, decide_eq_true_eq, Bool.not_eq_true'] at h
    refine ⟨h.1, _, h.2, ?_, hv⟩
    simp only [Bool.or_eq_true, beq_iff_eq] at hv
    rcases hv with rfl | rfl <;> rfl
  · cases hv
/-- what a method's walk stands on -/
def ez_F (p : Program) (s : State) (m : MethodId) (args : Array Value) (c : Code) (D : va_G) (cI : ClassId) (o : Nat) (bytes : ByteArray) : Prop :=
  p.tables.exec = Jvm.exec ∧ c.code = bytes ∧ s.vm.findClass (ez_R o) = some m.cls ∧ (∀ w ∈ ez_G, w.before args s = true) ∧ va_K D vwCl [(cI, .int)] s
section EZ
variable {p : Program} {l : Launch} {e : Env} {R : Room} {s : State} {m : MethodId} {args : Array Value} {below : List Frame} {meth : Method} {c : Code} {H H0 : Heap} {locs : List Loc} {cells slots : Nat} {Q : State → Prop}
variable {D : va_G} {cI : ClassId} {o pc pc' len nL : Nat} {bytes : ByteArray} {L L' : ez_L} {st st' : List Value} {w w' : ez_W} {ad : Nat → Nat} {A : Nat → Prop} {ls : Array Slot} {i : Instr}
theorem ez_getf {k a j kd : Nat} {cc : Nat} {fs : List Value} {v : Value} (F : ez_F p s m args c D cI o bytes) (hd : decode bytes pc = .ok (.getfield k, 3)) (hP : va_P D vwCl (ez_z cI ad w) H) (hf : ez_at ez_ff o k = some (j, kd)) (hw : w[a]? = some (.inr (cc, fs))) (hc : Nat.beq cc o = true) (hv : fs[j]? = some v)
    (kk : W p l e R s m args below meth c H locs cells slots Q (F0 m (pc + 3) ls (ez_v ad v :: st.map (ez_v ad)))) : W p l e R s m args below meth c H locs cells slots Q (F0 m pc ls (.ref (ad a) :: st.map (ez_v ad))) := by
  obtain ⟨hx, hb, hown, hts, hK⟩ := F
  obtain ⟨q, h1, h2, h3, h4, -⟩ := ez_fld hf
  obtain ⟨-, hR, hG, -⟩ := ez_cls h1
  have hcc : cc = o := Nat.eq_of_beq_eq_true hc
  subst hcc
  rw [hR] at hown
  refine va_get (D := D) (ci := cc) (C := q.1) (T := q.2.1) (N := q.2.2) hx hb hts hG hown hK hP a (ez_z_at hw) h1 j h2 (hts _ h3) (fun x hx1 => ?_) (v := ez_v ad v) (by simp [hv]) hd kk
  rcases h4 with h4 | h4
  · rw [h4] at hx1; exact hx1
  · exact u_same (hts _ h4) x hx1
theorem ez_putf {k a j kd : Nat} {cc : Nat} {fs : List Value} {v : Value} (F : ez_F p s m args c D cI o bytes) (hd : decode bytes pc = .ok (.putfield k, 3)) (hP : va_P D vwCl (ez_z cI ad w) H) (hD : va_D A (ez_z cI ad w)) (hS : va_S A H0 H locs) (hf : ez_at ez_ff o k = some (j, kd)) (hw : w[a]? = some (.inr (cc, fs))) (hc : Nat.beq cc o = true) (hj : Nat.blt j fs.length = true) (hv : ez_ft kd v = true)
    (kk : ∀ (H1 : Heap) (locs1 : List Loc), va_P D vwCl (ez_z cI ad (w.set a (.inr (cc, fs.set j v)))) H1 → va_D A (ez_z cI ad (w.set a (.inr (cc, fs.set j v)))) → va_S A H0 H1 locs1 → W p l e R s m args below meth c H1 locs1 cells slots Q (F0 m (pc + 3) ls (st.map (ez_v ad)))) : W p l e R s m args below meth c H locs cells slots Q (F0 m pc ls (ez_v ad v :: .ref (ad a) :: st.map (ez_v ad))) := by
  obtain ⟨hx, hb, hown, hts, hK⟩ := F
  obtain ⟨q, h1, h2, h3, h4, h5⟩ := ez_fld hf
  obtain ⟨-, hR, hG, ty0, hty, hnm⟩ := ez_cls h1
  have hcc : cc = o := Nat.eq_of_beq_eq_true hc
  subst hcc
  rw [hR] at hown
  have hvv : ez_ft kd (ez_v ad v) = true := by cases v <;> first | exact hv | (simp [ez_ft] at hv; done) | (unfold ez_ft at hv; split at hv <;> first | contradiction | (rename_i q1; cases q1))
  obtain ⟨f1, ty, f2, f3, f4⟩ := ez_ft_of h5 hvv
  refine va_put (D := D) (ci := cc) (C := q.1) (T := q.2.1) (N := q.2.2) hx hb hts hG ty0 hty hnm hown hK hP hD hS a (ez_z_at hw) h1 j h2 (hts _ h3) (fun x hx1 => ?_) f1 f2 f3 f4 (by rw [List.length_map]; exact Nat.le_of_ble_eq_true hj) hd (fun H1 locs1 g1 g2 g3 => kk H1 locs1 ?_ ?_ g3)
  · rcases h4 with h4 | h4
    · rw [h4] at hx1; exact hx1
    · exact u_same (hts _ h4) x hx1
  · rw [ez_z_set]
    show va_P D vwCl ((ez_z cI ad w).set a (ad a, .inr (cc, (fs.set j v).map (ez_v ad)))) H1
    rw [List.map_set]
    exact g1
  · rw [ez_z_set]
    show va_D A ((ez_z cI ad w).set a (ad a, .inr (cc, (fs.set j v).map (ez_v ad))))
    rw [List.map_set]
    exact g2
end EZ
end
section
section EZ
variable {p : Program} {l : Launch} {e : Env} {R : Room} {s : State} {m : MethodId} {args : Array Value} {below : List Frame} {meth : Method} {c : Code} {H H0 : Heap} {locs : List Loc} {cells slots : Nat} {Q : State → Prop}
variable {D : va_G} {cI : ClassId} {o pc pc' len nL : Nat} {bytes : ByteArray} {L L' : ez_L} {st st' : List Value} {w w' : ez_W} {ad : Nat → Nat} {A : Nat → Prop} {ls : Array Slot} {i : Instr}
theorem ez_simple (F : ez_F p s m args c D cI o bytes) (hi : ez_s o i pc L st w = some (pc', L', st', w')) (hok : ez_ok i len = true) (hd : decode bytes pc = .ok (i, len)) (hP : va_P D vwCl (ez_z cI ad w) H) (hD : va_D A (ez_z cI ad w)) (hS : va_S A H0 H locs) (hl : ez_l nL ad L ls)
    (k : ∀ (ls' : Array Slot) (H' : Heap) (locs' : List Loc), ez_l nL ad L' ls' → va_P D vwCl (ez_z cI ad w') H' → va_D A (ez_z cI ad w') → va_S A H0 H' locs' → W p l e R s m args below meth c H' locs' cells slots Q (F0 m pc' ls' (st'.map (ez_v ad)))) : W p l e R s m args below meth c H locs cells slots Q (F0 m pc ls (st.map (ez_v ad))) := by
  have F' := F
  obtain ⟨hx, hb, hown, hts, hK⟩ := F'
  cases i
  case iconst n =>
    obtain rfl : len = 1 := Nat.eq_of_beq_eq_true hok
    cases hi
    exact lv_iconst hx hb hd rfl (k _ _ _ hl hP hD hS)
  case bipush n =>
    obtain rfl : len = 2 := Nat.eq_of_beq_eq_true hok
    cases hi
    exact lv_bipush hx hb hd rfl (k _ _ _ hl hP hD hS)
  case sipush n =>
    obtain rfl : len = 3 := Nat.eq_of_beq_eq_true hok
    cases hi
    exact lv_sipush hx hb hd rfl (k _ _ _ hl hP hD hS)
  case lconst n =>
    obtain rfl : len = 1 := Nat.eq_of_beq_eq_true hok
    cases hi
    exact lv_lconst hx hb hd rfl (k _ _ _ hl hP hD hS)
  case ldc n =>
    obtain rfl : len = 2 := Nat.eq_of_beq_eq_true hok
    simp only [ez_s] at hi
    split at hi
    · rename_i v hv
      cases hi
      exact lv_ldc hx hb hown (hts _ (ez_kk_of hv)) hd (k _ _ _ hl hP hD hS)
    · cases hi
  case ldc2_w n =>
    obtain rfl : len = 3 := Nat.eq_of_beq_eq_true hok
    simp only [ez_s] at hi
    split at hi
    · rename_i v hv
      cases hi
      exact lv_ldc2 hx hb hown (hts _ (ez_kl_of hv)) hd (k _ _ _ hl hP hD hS)
    · cases hi
  case iload_n n =>
    obtain rfl : len = 1 := Nat.eq_of_beq_eq_true hok
    simp only [ez_s] at hi
    split at hi
    · rename_i v hv
      cases hi
      exact lv_iload_n hx hb hd rfl (hl.2.2.2 _ _ (ez_li_of hv)) (k _ _ _ hl hP hD hS)
    · cases hi
  case iload n =>
    obtain rfl : len = 2 := Nat.eq_of_beq_eq_true hok
    simp only [ez_s] at hi
    split at hi
    · rename_i v hv
      cases hi
      exact lv_iload hx hb hd (hl.2.2.2 _ _ (ez_li_of hv)) (k _ _ _ hl hP hD hS)
    · cases hi
  case lload_n n =>
    obtain rfl : len = 1 := Nat.eq_of_beq_eq_true hok
    simp only [ez_s] at hi
    split at hi
    · rename_i v hv
      cases hi
      exact lv_lload_n hx hb hd rfl (hl.2.2.2 _ _ (ez_ll_of hv)) (k _ _ _ hl hP hD hS)
    · cases hi
  case lload n =>
    obtain rfl : len = 2 := Nat.eq_of_beq_eq_true hok
    simp only [ez_s] at hi
    split at hi
    · rename_i v hv
      cases hi
      exact lv_lload hx hb hd (hl.2.2.2 _ _ (ez_ll_of hv)) (k _ _ _ hl hP hD hS)
    · cases hi
  case aload_n n =>
    obtain rfl : len = 1 := Nat.eq_of_beq_eq_true hok
    simp only [ez_s] at hi
    split at hi
    · rename_i v hv
      cases hi
      exact lv_aload_n hx hb hd rfl (hl.2.2.2 _ _ (ez_la_of hv)) (k _ _ _ hl hP hD hS)
    · cases hi
  case aload n =>
    obtain rfl : len = 2 := Nat.eq_of_beq_eq_true hok
    simp only [ez_s] at hi
    split at hi
    · rename_i v hv
      cases hi
      exact lv_aload hx hb hd (hl.2.2.2 _ _ (ez_la_of hv)) (k _ _ _ hl hP hD hS)
    · cases hi
  case istore_n n =>
    obtain rfl : len = 1 := Nat.eq_of_beq_eq_true hok
    simp only [ez_s] at hi
    split at hi
    · split at hi
      · rename_i x st1 L1 hL1
        cases hi
        exact lv_istore_n hx hb hd rfl (ez_has hl) (ez_s1_lt hl.1 hL1) rfl (fun ls' h' => k _ _ _ (ez_s1_ok hl.1 hL1 h') hP hD hS)
      · cases hi
    · cases hi
  case istore n =>
    obtain rfl : len = 2 := Nat.eq_of_beq_eq_true hok
    simp only [ez_s] at hi
    split at hi
    · split at hi
      · rename_i x st1 L1 hL1
        cases hi
        exact lv_istore hx hb hd (ez_has hl) (ez_s1_lt hl.1 hL1) rfl (fun ls' h' => k _ _ _ (ez_s1_ok hl.1 hL1 h') hP hD hS)
      · cases hi
    · cases hi
  case lstore_n n =>
    obtain rfl : len = 1 := Nat.eq_of_beq_eq_true hok
    simp only [ez_s] at hi
    split at hi
    · split at hi
      · rename_i x st1 L1 hL1
        cases hi
        exact lv_lstore_n hx hb hd rfl (ez_has hl) (ez_s2_lt hl.1 hL1) rfl (fun ls' h' => k _ _ _ (ez_s2_ok hl.1 hL1 h') hP hD hS)
      · cases hi
    · cases hi
  case lstore n =>
    obtain rfl : len = 2 := Nat.eq_of_beq_eq_true hok
    simp only [ez_s] at hi
    split at hi
    · split at hi
      · rename_i x st1 L1 hL1
        cases hi
        exact lv_lstore hx hb hd (ez_has hl) (ez_s2_lt hl.1 hL1) rfl (fun ls' h' => k _ _ _ (ez_s2_ok hl.1 hL1 h') hP hD hS)
      · cases hi
    · cases hi
  case iinc n v =>
    obtain rfl : len = 3 := Nat.eq_of_beq_eq_true hok
    simp only [ez_s] at hi
    split at hi
    · split at hi
      · rename_i x hx1 _ L1 hL1
        cases hi
        obtain ⟨j, hj⟩ := List.getElem?_of_mem (ez_p_mem (ad := ad) (ez_li_of hx1))
        exact lv_iinc hx hb hd (ez_has hl) hj rfl (ez_s1_lt hl.1 hL1) rfl (fun ls' h' => k _ _ _ (ez_s1_ok hl.1 hL1 h') hP hD hS)
      · cases hi
    · cases hi
  case iadd =>
    obtain rfl : len = 1 := Nat.eq_of_beq_eq_true hok
    simp only [ez_s] at hi
    split at hi
    · cases hi
      exact lv_iadd hx hb hd (k _ _ _ hl hP hD hS)
    · cases hi
  case isub =>
    obtain rfl : len = 1 := Nat.eq_of_beq_eq_true hok
    simp only [ez_s] at hi
    split at hi
    · cases hi
      exact lv_isub hx hb hd (k _ _ _ hl hP hD hS)
    · cases hi
  case imul =>
    obtain rfl : len = 1 := Nat.eq_of_beq_eq_true hok
    simp only [ez_s] at hi
    split at hi
    · cases hi
      exact lv_imul hx hb hd (k _ _ _ hl hP hD hS)
    · cases hi
  case iand =>
    obtain rfl : len = 1 := Nat.eq_of_beq_eq_true hok
    simp only [ez_s] at hi
    split at hi
    · cases hi
      exact lv_iand hx hb hd (k _ _ _ hl hP hD hS)
    · cases hi
  case ishr =>
    obtain rfl : len = 1 := Nat.eq_of_beq_eq_true hok
    simp only [ez_s] at hi
    split at hi
    · cases hi
      exact lv_ishr hx hb hd (k _ _ _ hl hP hD hS)
    · cases hi
  case idiv =>
    obtain rfl : len = 1 := Nat.eq_of_beq_eq_true hok
    simp only [ez_s] at hi
    split at hi
    · split at hi
      · cases hi
      · rename_i hy
        cases hi
        exact lv_idiv hx hb hd hy (k _ _ _ hl hP hD hS)
    · cases hi
  case ladd =>
    obtain rfl : len = 1 := Nat.eq_of_beq_eq_true hok
    simp only [ez_s] at hi
    split at hi
    · cases hi
      exact lv_ladd hx hb hd (k _ _ _ hl hP hD hS)
    · cases hi
  case lsub =>
    obtain rfl : len = 1 := Nat.eq_of_beq_eq_true hok
    simp only [ez_s] at hi
    split at hi
    · cases hi
      exact lv_lsub hx hb hd (k _ _ _ hl hP hD hS)
    · cases hi
  case lmul =>
    obtain rfl : len = 1 := Nat.eq_of_beq_eq_true hok
    simp only [ez_s] at hi
    split at hi
    · cases hi
      exact lv_lmul hx hb hd (k _ _ _ hl hP hD hS)
    · cases hi
  case land =>
    obtain rfl : len = 1 := Nat.eq_of_beq_eq_true hok
    simp only [ez_s] at hi
    split at hi
    · cases hi
      exact lv_land hx hb hd (k _ _ _ hl hP hD hS)
    · cases hi
  case lrem =>
    obtain rfl : len = 1 := Nat.eq_of_beq_eq_true hok
    simp only [ez_s] at hi
    split at hi
    · split at hi
      · cases hi
      · rename_i hy
        cases hi
        exact lv_lrem hx hb hd hy (k _ _ _ hl hP hD hS)
    · cases hi
  case lneg =>
    obtain rfl : len = 1 := Nat.eq_of_beq_eq_true hok
    simp only [ez_s] at hi
    split at hi
    · cases hi
      exact lv_lneg hx hb hd (k _ _ _ hl hP hD hS)
    · cases hi
  case lushr =>
    obtain rfl : len = 1 := Nat.eq_of_beq_eq_true hok
    simp only [ez_s] at hi
    split at hi
    · cases hi
      exact lv_lushr hx hb hd rfl (k _ _ _ hl hP hD hS)
    · cases hi
  case lcmp =>
    obtain rfl : len = 1 := Nat.eq_of_beq_eq_true hok
    simp only [ez_s] at hi
    split at hi
    · cases hi
      exact W.lcmp hx hb hd (k _ _ _ hl hP hD hS)
    · cases hi
  case i2l =>
    obtain rfl : len = 1 := Nat.eq_of_beq_eq_true hok
    simp only [ez_s] at hi
    split at hi
    · cases hi
      exact lv_i2l hx hb hd rfl (k _ _ _ hl hP hD hS)
    · cases hi
  case l2i =>
    obtain rfl : len = 1 := Nat.eq_of_beq_eq_true hok
    simp only [ez_s] at hi
    split at hi
    · cases hi
      exact lv_l2i hx hb hd rfl (k _ _ _ hl hP hD hS)
    · cases hi
  case dup =>
    obtain rfl : len = 1 := Nat.eq_of_beq_eq_true hok
    simp only [ez_s] at hi
    split at hi
    · cases hi
      exact lv_dup hx hb hd rfl (k _ _ _ hl hP hD hS)
    · cases hi
      exact lv_dup hx hb hd rfl (k _ _ _ hl hP hD hS)
    · cases hi
  case dup2 =>
    obtain rfl : len = 1 := Nat.eq_of_beq_eq_true hok
    simp only [ez_s] at hi
    split at hi
    · cases hi
      exact lv_dup2_11 hx hb hd rfl rfl (k _ _ _ hl hP hD hS)
    · cases hi
  case pop =>
    obtain rfl : len = 1 := Nat.eq_of_beq_eq_true hok
    simp only [ez_s] at hi
    split at hi
    · cases hi
      exact lv_pop hx hb hd rfl (k _ _ _ hl hP hD hS)
    · cases hi
  case goto off =>
    obtain rfl : len = 3 := Nat.eq_of_beq_eq_true hok
    simp only [ez_s] at hi
    split at hi
    · rename_i t ht
      cases hi
      exact lv_goto hx hb hd (ez_br_of ht) (k _ _ _ hl hP hD hS)
    · cases hi
  case ifCond cd off =>
    obtain rfl : len = 3 := Nat.eq_of_beq_eq_true hok
    simp only [ez_s] at hi
    split at hi
    · split at hi
      · rename_i x st1 _ t ht
        cases hi
        have kk := k _ _ _ hl hP hD hS
        cases cd
        · exact lv_if_eq hx hb hd (ez_br_of ht) (fun q => by simpa [ez_cd, q] using kk) (fun q => by simpa [ez_cd, q] using kk)
        · exact lv_if_ne hx hb hd (ez_br_of ht) (fun q => by simpa [ez_cd, q] using kk) (fun q => by simpa [ez_cd, q] using kk)
        · exact lv_if_lt hx hb hd (ez_br_of ht) (fun q => by simpa [ez_cd, q] using kk) (fun q => by simpa [ez_cd, q] using kk)
        · exact lv_if_ge hx hb hd (ez_br_of ht) (fun q => by simpa [ez_cd, q] using kk) (fun q => by simpa [ez_cd, q] using kk)
        · exact lv_if_gt hx hb hd (ez_br_of ht) (fun q => by simpa [ez_cd, q] using kk) (fun q => by simpa [ez_cd, q] using kk)
        · exact lv_if_le hx hb hd (ez_br_of ht) (fun q => by simpa [ez_cd, q] using kk) (fun q => by simpa [ez_cd, q] using kk)
      · cases hi
    · cases hi
  case if_icmp cd off =>
    obtain rfl : len = 3 := Nat.eq_of_beq_eq_true hok
    simp only [ez_s] at hi
    split at hi
    · split at hi
      · rename_i x y st1 _ t ht
        cases hi
        have kk := k _ _ _ hl hP hD hS
        cases cd
        · exact lv_icmp_eq hx hb hd (ez_br_of ht) (fun q => by simpa [ez_cd, q] using kk) (fun q => by simpa [ez_cd, q] using kk)
        · exact lv_icmp_ne hx hb hd (ez_br_of ht) (fun q => by simpa [ez_cd, q] using kk) (fun q => by simpa [ez_cd, q] using kk)
        · exact lv_icmp_lt hx hb hd (ez_br_of ht) (fun q => by simpa [ez_cd, q] using kk) (fun q => by simpa [ez_cd, q] using kk)
        · exact lv_icmp_ge hx hb hd (ez_br_of ht) (fun q => by simpa [ez_cd, q] using kk) (fun q => by simpa [ez_cd, q] using kk)
        · exact lv_icmp_gt hx hb hd (ez_br_of ht) (fun q => by simpa [ez_cd, q] using kk) (fun q => by simpa [ez_cd, q] using kk)
        · exact lv_icmp_le hx hb hd (ez_br_of ht) (fun q => by simpa [ez_cd, q] using kk) (fun q => by simpa [ez_cd, q] using kk)
      · cases hi
    · cases hi
  case tableswitch d lo hi1 offs =>
    simp only [ez_s] at hi
    split at hi
    · split at hi
      · rename_i x st1 _ off hoff
        split at hi
        · rename_i t ht
          cases hi
          by_cases hq : x.toInt < lo ∨ hi1 < x.toInt
          · rw [if_pos hq] at hoff
            cases hoff
            exact lv_tableOut hx hb hd hq (ez_br_of ht) (k _ _ _ hl hP hD hS)
          · rw [if_neg hq] at hoff
            exact lv_tableIn hx hb hd (fun z => hq (Or.inl z)) (fun z => hq (Or.inr z)) hoff (ez_br_of ht) (k _ _ _ hl hP hD hS)
        · cases hi
      · cases hi
    · cases hi
  case lookupswitch d ps =>
    simp only [ez_s] at hi
    split at hi
    · rename_i x st1
      cases hq : (ps.toList.zip (ps.toList.drop 1)).all (fun (a, next) => a.1 < next.1) with
      | false => rw [hq] at hi; cases hi
      | true =>
        rw [hq] at hi
        simp only [cond_true] at hi
        split at hi
        · rename_i t ht
          cases hi
          exact lv_lookup hx hb hd hq rfl (ez_br_of ht) (k _ _ _ hl hP hD hS)
        · cases hi
    · cases hi
  case getfield n =>
    obtain rfl : len = 3 := Nat.eq_of_beq_eq_true hok
    simp only [ez_s] at hi
    split at hi
    · split at hi
      · split at hi
        · rename_i a st1 _ j kd hf _ cc fs hw
          cases hc : Nat.beq cc o with
          | false => rw [hc] at hi; cases hi
          | true =>
            rw [hc] at hi
            simp only [cond_true] at hi
            split at hi
            · rename_i v hv
              cases hi
              exact ez_getf F hd hP hf hw hc hv (k _ _ _ hl hP hD hS)
            · cases hi
        · cases hi
      · cases hi
    · cases hi
  case putfield n =>
    obtain rfl : len = 3 := Nat.eq_of_beq_eq_true hok
    simp only [ez_s] at hi
    split at hi
    · split at hi
      · rename_i v a st1 _ j kd hf
        cases hv : ez_ft kd v with
        | false => rw [hv] at hi; cases hi
        | true =>
          rw [hv] at hi
          simp only [cond_true] at hi
          split at hi
          · rename_i _ cc fs hw
            cases hc : Nat.beq cc o && Nat.blt j fs.length with
            | false => rw [hc] at hi; cases hi
            | true =>
              rw [hc] at hi
              cases hi
              simp only [Bool.and_eq_true] at hc
              exact ez_putf F hd hP hD hS hf hw hc.1 hc.2 hv (fun H1 locs1 g1 g2 g3 => k _ _ _ hl g1 g2 g3)
          · cases hi
      · cases hi
    · cases hi
  case iaload =>
    obtain rfl : len = 1 := Nat.eq_of_beq_eq_true hok
    simp only [ez_s] at hi
    split at hi
    · split at hi
      · split at hi
        · cases hi
        · rename_i j a st1 _ n f hw hq
          cases hi
          exact va_iald hx hb hK hP a 0 (ez_z_at hw) rfl hq hd (k _ _ _ hl hP hD hS)
      · cases hi
    · cases hi
  case iastore =>
    obtain rfl : len = 1 := Nat.eq_of_beq_eq_true hok
    simp only [ez_s] at hi
    split at hi
    · split at hi
      · split at hi
        · cases hi
        · rename_i x j a st1 _ n f hw hq
          cases hi
          refine va_iast hx hb hK hP hD hS a 0 (ez_z_at hw) rfl hq hd (fun H1 locs1 g1 g2 g3 => k _ _ _ hl ?_ ?_ g3)
          · rw [ez_z_set]; exact g1
          · rw [ez_z_set]; exact g2
      · cases hi
    · cases hi
  case arraylength =>
    obtain rfl : len = 1 := Nat.eq_of_beq_eq_true hok
    simp only [ez_s] at hi
    split at hi
    · split at hi
      · rename_i a st1 _ n f hw
        cases hi
        exact va_alen hx hb hK hP a 0 (ez_z_at hw) rfl rfl hd (k _ _ _ hl hP hD hS)
      · cases hi
    · cases hi
  all_goals (simp only [ez_s] at hi; cases hi)
end EZ
end
section
/-! ===== a run of the interpreter is a run of the machine: calls and returns ===== -/
theorem ez_chunk {α : Type} {r : List α} {P : α → Prop} {a n i : Nat} {x : α} (h : ∀ p ∈ (r.drop a).take n, P p) (hx : r[i]? = some x) (h1 : a ≤ i) (h2 : i < a + n) : P x := by
  refine h x (List.mem_of_getElem? (i := i - a) ?_)
  rw [List.getElem?_take, if_pos (by omega), List.getElem?_drop]
  rw [show a + (i - a) = i by omega]
  exact hx
theorem ez_ms_length : ez_ms.length = 105 := by decide +kernel
theorem ez_tb_length : ez_tb.length = 105 := by decide +kernel
theorem ez_dec {mi pc len : Nat} {i : Instr} {M : ez_M} (hM : ez_ms[mi]? = some M) (h : ez_i mi pc = some (i, len)) : decode M.2.2.1 pc = .ok (i, len) := by
  obtain ⟨t, h1, h2⟩ := ez_at_mem h
  have hm : mi < 105 := by rw [← ez_ms_length]; exact (List.getElem?_eq_some_iff.mp hM).1
  have hz : (ez_ms.zip ez_tb)[mi]? = some (M, t) := by rw [List.getElem?_zip_eq_some]; exact ⟨hM, h1⟩
  have hd : ez_dok M.2.2.1 t = true := by
    by_cases c1 : mi < 20
    · exact ez_chunk (P := fun p => ez_dok p.1.2.2.1 p.2 = true) ez_d_ok0 hz (by omega) (by omega)
    · by_cases c2 : mi < 40
      · exact ez_chunk (P := fun p => ez_dok p.1.2.2.1 p.2 = true) ez_d_ok20 hz (by omega) (by omega)
      · by_cases c3 : mi < 60
        · exact ez_chunk (P := fun p => ez_dok p.1.2.2.1 p.2 = true) ez_d_ok40 hz (by omega) (by omega)
        · by_cases c4 : mi < 75
          · exact ez_chunk (P := fun p => ez_dok p.1.2.2.1 p.2 = true) ez_d_ok60 hz (by omega) (by omega)
          · by_cases c5 : mi < 90
            · exact ez_chunk (P := fun p => ez_dok p.1.2.2.1 p.2 = true) ez_d_ok75 hz (by omega) (by omega)
            · exact ez_chunk (P := fun p => ez_dok p.1.2.2.1 p.2 = true) ez_d_ok90 hz (by omega) (by omega)
  have h3 := List.all_eq_true.mp hd _ h2
  simpa using h3
theorem ez_mt {mi : Nat} {M : ez_M} (hM : ez_ms[mi]? = some M) : Jvm.Cond.code M.2.1 M.2.2.1 M.2.2.2.1 M.2.2.2.2.1 ∈ ez_G ∧ Jvm.Cond.initialized M.2.1.cls ∈ ez_G ∧ ez_R M.1 = M.2.1.cls ∧ plainName M.2.1.cls = true ∧ (M.2.1.cls ≠ "java/lang/invoke/MethodHandle" ∧ M.2.1.cls ≠ "java/lang/invoke/VarHandle") ∧ (parseMethodDescriptor M.2.1.desc).map (fun d => d.parameters.length) = some M.2.2.2.2.2.1 := by
  have hm : mi < 105 := by rw [← ez_ms_length]; exact (List.getElem?_eq_some_iff.mp hM).1
  have hm2 : mi < ez_msp.length := by rw [← ez_ms_len, ez_ms_length]; exact hm
  have hz : (ez_ms.zip ez_msp)[mi]? = some (M, ez_msp[mi]) := by rw [List.getElem?_zip_eq_some]; exact ⟨hM, List.getElem?_eq_getElem hm2⟩
  generalize ez_msp[mi] = q at hz
  have hd : ez_mok M q = true := by
    by_cases c1 : mi < 15
    · exact ez_chunk (P := fun p => ez_mok p.1 p.2 = true) ez_ms_ok0 hz (by omega) (by omega)
    · by_cases c2 : mi < 30
      · exact ez_chunk (P := fun p => ez_mok p.1 p.2 = true) ez_ms_ok15 hz (by omega) (by omega)
      · by_cases c3 : mi < 45
        · exact ez_chunk (P := fun p => ez_mok p.1 p.2 = true) ez_ms_ok30 hz (by omega) (by omega)
        · by_cases c4 : mi < 60
          · exact ez_chunk (P := fun p => ez_mok p.1 p.2 = true) ez_ms_ok45 hz (by omega) (by omega)
          · by_cases c5 : mi < 75
            · exact ez_chunk (P := fun p => ez_mok p.1 p.2 = true) ez_ms_ok60 hz (by omega) (by omega)
            · by_cases c6 : mi < 90
              · exact ez_chunk (P := fun p => ez_mok p.1 p.2 = true) ez_ms_ok75 hz (by omega) (by omega)
              · exact ez_chunk (P := fun p => ez_mok p.1 p.2 = true) ez_ms_ok90 hz (by omega) (by omega)
  simp only [ez_mok, Bool.and_eq_true, decide_eq_true_eq] at hd
  obtain ⟨a1, a2, a3, a4, a5, a6⟩ := hd
  exact ⟨ez_inp_G a1, ez_inp_G a2, a3, a4, a5, a6⟩
theorem ez_cc_of {o k j : Nat} (h : ez_at ez_cc o k = some j) : ∃ N, ez_ms[j]? = some N ∧ Jvm.Cond.methodLink (ez_R o) k N.2.1 ∈ ez_G ∧ Jvm.Cond.instanceMethod N.2.1 ∈ ez_G ∧ Jvm.Cond.selects N.2.1.cls N.2.1 N.2.1 ∈ ez_G := by
  obtain ⟨r, h1, h2⟩ := ez_at_mem h
  have ho : o < 8 := (List.getElem?_eq_some_iff.mp h1).1
  have hlen := ez_cc_len o (List.mem_range.mpr ho)
  rw [h1, Option.getD_some] at hlen
  obtain ⟨i, hi⟩ := List.getElem?_of_mem h2
  have hil : i < r.length := (List.getElem?_eq_some_iff.mp hi).1
  have hq : (((ez_ccp[o]?).getD []))[i]? = some (((ez_ccp[o]?).getD [])[i]'(by omega)) := List.getElem?_eq_getElem _
  generalize (((ez_ccp[o]?).getD [])[i]'(by omega)) = q at hq
  have hz : (r.zip ((ez_ccp[o]?).getD []))[i]? = some ((k, j), q) := by rw [List.getElem?_zip_eq_some]; exact ⟨hi, hq⟩
  have hall : (r.zip ((ez_ccp[o]?).getD [])).all (ez_cok o) = true := by
    have hr : r = (ez_cc[o]?).getD [] := by rw [h1]; rfl
    rw [hr]
    match o, ho with
    | 0, _ => exact ez_cc_ok0
    | 1, _ => exact ez_cc_ok1
    | 2, _ => exact ez_cc_ok2
    | 3, _ => exact ez_cc_ok3
    | 4, _ => exact ez_cc_ok4
    | 5, _ => exact ez_cc_ok5
    | 6, _ => exact ez_cc_ok6
    | 7, _ => exact ez_cc_ok7
  have h3 : ez_cok o ((k, j), q) = true := List.all_eq_true.mp hall _ (List.mem_of_getElem? hz)
  unfold ez_cok at h3
  split at h3
  · rename_i N hN
    simp only [Bool.and_eq_true] at h3
    exact ⟨N, hN, ez_inp_G h3.1, ez_inp_G h3.2.1, ez_inp_G h3.2.2⟩
  · cases h3
theorem ez_sc_of {o k j : Nat} (h : ez_at ez_sc o k = some j) : ∃ N, ez_ms[j]? = some N ∧ Jvm.Cond.methodLink (ez_R o) k N.2.1 ∈ ez_G ∧ Jvm.Cond.static N.2.1 ∈ ez_G := by
  obtain ⟨r, h1, h2⟩ := ez_at_mem h
  have ho : o < 8 := (List.getElem?_eq_some_iff.mp h1).1
  have h3 := ez_sc_ok o (List.mem_range.mpr ho)
  rw [h1, Option.getD_some] at h3
  have h4 : ez_sok o (k, j) = true := List.all_eq_true.mp h3 _ h2
  unfold ez_sok at h4
  split at h4
  · rename_i N hN
    simp only [Bool.and_eq_true] at h4
    exact ⟨N, hN, ez_in_G h4.1, ez_in_G h4.2⟩
  · cases h4
theorem ez_mm_of {o k f : Nat} (h : ez_at ez_mm o k = some f) : ez_mmok o (k, f) = true := by
  obtain ⟨r, h1, h2⟩ := ez_at_mem h
  have ho : o < 8 := (List.getElem?_eq_some_iff.mp h1).1
  have h3 := ez_mm_ok o (List.mem_range.mpr ho)
  rw [h1, Option.getD_some] at h3
  exact List.all_eq_true.mp h3 _ h2
def ez_rm (M : ez_M) : Room := { frames := M.2.2.2.2.2.2.1, cells := 0, slots := 0, locals := M.2.2.2.2.2.2.2 }
def ez_ws (M : ez_M) : List Jvm.Cond := Jvm.Cond.code M.2.1 M.2.2.1 M.2.2.2.1 M.2.2.2.2.1 :: ez_G
def ez_Pc (D : va_G) (cI : ClassId) (ad : Nat → Nat) (sz : Nat) (As : List Value) (w : ez_W) : Array Value → State → Prop :=
  va_Pc (As.map (ez_v ad)) (fun U => U.heap.size = sz ∧ va_P D vwCl (ez_z cI ad w) U.heap ∧ va_K D vwCl [(cI, .int)] U ∧ va_D (fun _ => True) (ez_z cI ad w))
def ez_Qc (D : va_G) (cI : ClassId) (ad : Nat → Nat) (sz : Nat) (w : ez_W) (r : Option Value) (w' : ez_W) : Array Value → State → Outcome → State → Prop :=
  fun _ st oc t => (oc = .returned (r.map (ez_v ad)) ∧ va_P D vwCl (ez_z cI ad w') t.heap ∧ va_K D vwCl [(cI, .int)] t ∧ va_D (va_A (ez_z cI ad w) sz) (ez_z cI ad w')) ∧ va_F (va_A (ez_z cI ad w) sz) st t
/-- the contract that a run gives -/
def ez_Met (l : Launch) (M : ez_M) (D : va_G) (cI : ClassId) (ad : Nat → Nat) (sz : Nat) (As : List Value) (w : ez_W) (r : Option Value) (w' : ez_W) : Prop :=
  Met l M.2.1 (ez_ws M) (ez_rm M) (ez_Pc D cI ad sz As w) (ez_Qc D cI ad sz w r w') 0 0 (va_A (ez_z cI ad w) sz)
theorem ez_blind {D : va_G} {cI : ClassId} {ad : Nat → Nat} {sz : Nat} {As : List Value} {w : ez_W} : FrameBlind (ez_Pc D cI ad sz As w) := fun a U g mk q => by
  obtain ⟨q0, q1, qP, qK, qD⟩ := q
  exact ⟨q0, q1, qP, va_K.moved (u := U) (U := U.calling g mk a) (Vm.Alike.refl U.vm) qK, qD⟩
section EZ
variable {p : Program} {l : Launch} {e : Env} {R : Room} {s : State} {m : MethodId} {args : Array Value} {below : List Frame} {meth : Method} {c : Code} {H H0 : Heap} {locs : List Loc} {cells slots : Nat} {Q : State → Prop}
variable {D : va_G} {cI : ClassId} {pc : Nat} {w w1 : ez_W} {ad : Nat → Nat} {A : Nat → Prop} {ls : Array Slot} {rest st0 : List Value} {a : Array Value} {r : Option Value}
theorem ez_call (hr : va_Run p l e R s m args below meth c H locs cells slots 0 0 (F0 m pc ls st0) rest (ez_Qc D cI ad H.size w r w1 a) (va_A (ez_z cI ad w) H.size)) (hS : va_S A H0 H locs) (hA : ∀ q, va_A (ez_z cI ad w) H.size q → A q)
    (kk : ∀ (H1 : Heap) (locs1 : List Loc), va_P D vwCl (ez_z cI ad w1) H1 → va_D A (ez_z cI ad w1) → va_S A H0 H1 locs1 → W p l e R s m args below meth c H1 locs1 cells slots Q (F0 m (pc + 3) ls ((r.map (ez_v ad)).toList ++ rest))) : W p l e R s m args below meth c H locs cells slots Q (F0 m pc ls st0) := by
  intro T hT X
  obtain ⟨v, st₀, t, T', L, h0, X', hL, e1, e2, ⟨⟨hv, hP1, hK1, hD1⟩, hz, hk⟩, st⟩ := hr T hT X
  have hv' : v = r.map (ez_v ad) := by injection hv
  subst hv'
  rw [h0] at hz hk
  obtain ⟨t2, a1, b1⟩ := kk T'.heap (locs ++ L) (by rw [e1]; exact hP1) (hD1.weaken (fun k q _ h => hA q.1 h))
    ⟨Nat.le_trans hS.1 (by rw [e1]; exact hz), fun q h1 h2 => by rw [e1, hk q (Nat.lt_of_lt_of_le h1 hS.1) (fun z => h2 (hA q z))]; exact hS.2.1 q h1 h2, fun q hq => by
      rcases List.mem_append.mp hq with h | h
      · exact hS.2.2 q h
      · exact hA _ (hL q h)⟩ T' rfl X'
  exact ⟨t2, st t2 a1, b1⟩
end EZ
theorem ez_sl (ad : Nat → Nat) (vs : List Value) : lg_sl (vs.map (ez_v ad)) = (vs.flatMap fun v => if v.category = 2 then [some v, none] else [some v]).map (fun x => match x with
    | some v => Slot.val (ez_v ad v)
    | none => Slot.second) := by
  unfold lg_sl
  induction vs with
  | nil => rfl
  | cons v vs ih =>
    simp only [List.map_cons, List.flatMap_cons, List.map_append, ih, ez_v_cat]
    congr 1
    split <;> rfl
theorem ez_entry {ad : Nat → Nat} {As : List Value} {n : Nat} (h : (ez_en As n).length = n) : ez_l n ad (ez_en As n) ((lg_sl (As.map (ez_v ad)) ++ List.replicate (n - (lg_sl (As.map (ez_v ad))).length) Slot.unset).toArray) := by
  have hlen : (lg_sl (As.map (ez_v ad))).length = (As.flatMap fun v => if v.category = 2 then [some v, none] else [some v]).length := by rw [ez_sl, List.length_map]
  have hle : (lg_sl (As.map (ez_v ad))).length ≤ n := by
    rw [hlen]
    unfold ez_en at h
    rw [List.length_append, List.length_replicate] at h
    omega
  have h0 := lv_entry (As.map (ez_v ad)) hle
  refine ⟨h, h0.1, h0.2.1, fun i v hi => ?_⟩
  unfold ez_en at hi
  rw [List.getElem?_toArray]
  by_cases hk : i < (As.flatMap fun v => if v.category = 2 then [some v, none] else [some v]).length
  · rw [List.getElem?_append_left hk] at hi
    rw [List.getElem?_append_left (by rw [hlen]; exact hk), ez_sl, List.getElem?_map, hi]
    rfl
  · rw [List.getElem?_append_right (by omega)] at hi
    rw [List.getElem?_replicate] at hi
    split at hi <;> cases hi
/-- the walk of a run's rest -/
def ez_B (n : Nat) : Prop := ∀ (mi pc : Nat) (L : ez_L) (st : List Value) (w : ez_W) (r : Option Value) (w' : ez_W), ez_ev n mi pc L st w = some (r, w') → ∀ (M : ez_M), ez_ms[mi]? = some M →
  ∀ (p : Program) (l : Launch) (e : Env) (s : State) (m : MethodId) (args : Array Value) (below : List Frame) (meth : Method) (c : Code) (H : Heap) (locs : List Loc) (D : va_G) (cI : ClassId) (ad : Nat → Nat) (A : Nat → Prop) (ls : Array Slot) (free : Addr → Prop) (Qc : Array Value → State → Outcome → State → Prop),
  ez_F p s m args c D cI M.1 M.2.2.1 → c.maxLocals = M.2.2.2.1 → meth.sig.returnType = M.2.2.2.2.1 → meth.locks = false → (∀ q : Nat, s.heap.size ≤ q → A q) → va_P D vwCl (ez_z cI ad w) H → va_D A (ez_z cI ad w) → va_S A s.heap H locs → ez_l M.2.2.2.1 ad L ls →
  (∀ (t : State) (H' : Heap) (locs' : List Loc), t.heap = H' → s.WarmedH t.vm → va_P D vwCl (ez_z cI ad w') H' → va_D A (ez_z cI ad w') → va_S A s.heap H' locs' → Qc args s (.returned (r.map (ez_v ad))) t) → (∀ q : Nat, A q → free q) →
  W p l e (ez_rm M) s m args below meth c H locs 0 0 (MQ below Qc args s 0 0 free) (F0 m pc ls (st.map (ez_v ad)))
theorem ez_met_of {n : Nat} (hB : ez_B n) {l : Launch} {j : Nat} {N : ez_M} (hN : ez_ms[j]? = some N) {As : List Value} {w w1 : ez_W} {r : Option Value} (h : ez_ev n j 0 (ez_en As N.2.2.2.1) [] w = some (r, w1)) (hlen : (ez_en As N.2.2.2.1).length = N.2.2.2.1) (D : va_G) (cI : ClassId) (ad : Nat → Nat) (sz : Nat) : ez_Met l N D cI ad sz As w r w1 := by
  obtain ⟨-, -, g3, g4, -, -⟩ := ez_mt hN
  refine Met.ofW (cc := N.2.2.1) (maxL := N.2.2.2.1) (ret := N.2.2.2.2.1) g4 rfl ?_
  intro p e s m args below meth c s₁ B hml hv
  obtain ⟨rfl, hsz, hP, hK, hD0⟩ := hv
  have hts := atoms_spec (ws := ez_ws N) B.pre
  have hown : s.vm.findClass N.2.1.cls = some m.cls := findClass_of_methodNamed B.named
  subst hsz
  have hD := hD0.self (sz := s.heap.size)
  rw [lg_entry_eq]
  refine hB j 0 _ [] w r w1 h N hN p l e s m _ below meth c s.heap [] D cI ad (va_A (ez_z cI ad w) s.heap.size) _ (va_A (ez_z cI ad w) s.heap.size) _ ⟨B.exec, B.bytes, by rw [g3]; exact hown, fun w hw => hts w (List.mem_cons_of_mem _ hw), hK⟩ hml B.returns B.notSynchronized (fun q h => Or.inr h) hP hD va_S.rf (ez_entry hlen) ?_ (fun q h => h)
  intro t H' locs' ht hW hP' hD' hS'
  exact ⟨⟨rfl, by rw [ht]; exact hP', va_K.moved hW.alike hK, hD'⟩, hS'.F ht⟩
end
section
theorem ez_fit_of {M N : ez_M} {rest : List Value} (h : ez_fit M N rest = true) : N.2.2.2.2.2.2.1 + 1 ≤ M.2.2.2.2.2.2.1 ∧ 8 + (N.2.2.2.1 + 11) + N.2.2.2.2.2.2.2 ≤ M.2.2.2.2.2.2.2 ∧ (rest.map fun v => v.category).sum ≤ 8 := by
  simp only [ez_fit, Bool.and_eq_true] at h
  exact ⟨Nat.le_of_ble_eq_true h.1, Nat.le_of_ble_eq_true h.2.1, Nat.le_of_ble_eq_true h.2.2⟩
theorem ez_cats (ad : Nat → Nat) (rest : List Value) : ((rest.map (ez_v ad)).map fun v => v.category).sum = (rest.map fun v => v.category).sum := by
  rw [List.map_map]
  congr 1
  exact List.map_congr_left (fun v _ => ez_v_cat ad v)
theorem ez_toL (ad : Nat → Nat) (r : Option Value) (rest : List Value) : (r.toList ++ rest).map (ez_v ad) = (r.map (ez_v ad)).toList ++ rest.map (ez_v ad) := by cases r <;> rfl
theorem ez_goodV {o k : Nat} {N : ez_M} (h0 : Jvm.Cond.code N.2.1 N.2.2.1 N.2.2.2.1 N.2.2.2.2.1 ∈ ez_G) (h1 : Jvm.Cond.methodLink (ez_R o) k N.2.1 ∈ ez_G) (h2 : Jvm.Cond.instanceMethod N.2.1 ∈ ez_G) (h3 : Jvm.Cond.selects N.2.1.cls N.2.1 N.2.1 ∈ ez_G) (h4 : Jvm.Cond.initialized N.2.1.cls ∈ ez_G) : GoodIn ez_G (wsV (ez_R o) k N.2.1.cls N.2.1 (ez_ws N)) := by
  refine ez_G_good (fun w hw => ?_)
  unfold wsV ez_ws at hw
  simp only [List.mem_append, List.mem_cons, List.not_mem_nil, or_false] at hw
  rcases hw with (rfl | rfl | rfl | rfl) | rfl | hw
  · exact h1
  · exact h2
  · exact h3
  · exact h4
  · exact h0
  · exact hw
theorem ez_goodS {o k : Nat} {N : ez_M} (h0 : Jvm.Cond.code N.2.1 N.2.2.1 N.2.2.2.1 N.2.2.2.2.1 ∈ ez_G) (h1 : Jvm.Cond.methodLink (ez_R o) k N.2.1 ∈ ez_G) (h2 : Jvm.Cond.static N.2.1 ∈ ez_G) (h4 : Jvm.Cond.initialized (ez_R o) ∈ ez_G) : GoodIn ez_G (wsS (ez_R o) k N.2.1 (ez_ws N)) := by
  refine ez_G_good (fun w hw => ?_)
  unfold wsS ez_ws at hw
  simp only [List.mem_append, List.mem_cons, List.not_mem_nil, or_false] at hw
  rcases hw with (rfl | rfl | rfl) | rfl | hw
  · exact h1
  · exact h2
  · exact h4
  · exact h0
  · exact hw
set_option maxHeartbeats 4000000 in
set_option maxRecDepth 100000 in
theorem ez_B_all : ∀ n : Nat, ez_B n := by
  intro n
  induction n with
  | zero =>
    intro mi pc L st w r w' h
    cases h
  | succ n ih =>
    intro mi pc L st w r w' h M hM p l e s m args below meth c H locs D cI ad A ls free Qc F hml hret hlocks hA hP hD hS hl hq hAf
    have hAw : ∀ q, va_A (ez_z cI ad w) H.size q → A q := by
      intro q hq1
      rcases hq1 with ⟨k, e1, h1⟩ | h1
      · exact hD.2 k (q, e1) h1
      · exact hA q (Nat.le_trans hS.1 h1)
    have hfree : ∀ q ∈ locs, free q.base := fun q h => hAf _ (hS.2.2 q h)
    have F' := F
    obtain ⟨hx, hb, hown, hts, hK⟩ := F'
    unfold ez_ev at h
    rw [hM] at h
    dsimp only at h
    cases hi : ez_i mi pc with
    | none => rw [hi] at h; cases h
    | some il =>
      obtain ⟨i, len⟩ := il
      rw [hi] at h
      dsimp only at h
      have hd := ez_dec hM hi
      cases hok : ez_ok i len with
      | false => rw [hok] at h; cases h
      | true =>
        rw [hok] at h
        simp only [cond_true] at h
        cases i
        case ireturn =>
          obtain rfl : len = 1 := Nat.eq_of_beq_eq_true hok
          dsimp only at h
          split at h
          · rename_i v
            cases hk : ez_rk M.2.2.2.2.1 v with
            | false => rw [hk] at h; cases h
            | true =>
              rw [hk] at h
              cases h
              unfold ez_rk at hk
              split at hk
              · rename_i hrt
                exact W.iret hx hb (by rw [hret, hrt]) (fun t ht hW => hq t H locs ht hW hP hD hS) hfree hd hlocks
              · rename_i hrt
                refine W.zret (ty := .boolean) hx hb (by rw [hret, hrt]) ?_ (fun t ht hW => hq t H locs ht hW hP hD hS) hfree hd hlocks
                simp only [Bool.or_eq_true, beq_iff_eq] at hk
                rcases hk with rfl | rfl <;> rfl
              · cases hk
          · cases h
        case lreturn =>
          obtain rfl : len = 1 := Nat.eq_of_beq_eq_true hok
          dsimp only at h
          split at h
          · rename_i v hrt
            cases h
            exact W.lret hx hb (by rw [hret, hrt]) (fun t ht hW => hq t H locs ht hW hP hD hS) hfree hd hlocks
          · cases h
        case return_ =>
          obtain rfl : len = 1 := Nat.eq_of_beq_eq_true hok
          dsimp only at h
          split at h
          · rename_i hrt
            cases h
            exact W.vret hx hb (by rw [hret, hrt]) (fun t ht hW => hq t H locs ht hW hP hD hS) hfree hd hlocks
          · cases h
        case invokevirtual k =>
          obtain rfl : len = 3 := Nat.eq_of_beq_eq_true hok
          dsimp only at h
          split at h
          · cases h
          · rename_i j hj
            split at h
            · cases h
            · rename_i N hN
              split at h
              · rename_i a rest hdrop
                split at h
                · rename_i cc fs hw
                  cases hc : (Nat.beq cc N.1 && (ez_fit M N rest && (Nat.beq (st.take N.2.2.2.2.2.1).length N.2.2.2.2.2.1 && Nat.beq (ez_en (.ref a :: (st.take N.2.2.2.2.2.1).reverse) N.2.2.2.1).length N.2.2.2.1))) with
                  | false => rw [hc] at h; cases h
                  | true =>
                    rw [hc] at h
                    simp only [cond_true] at h
                    simp only [Bool.and_eq_true] at hc
                    obtain ⟨c1, c2, c3, c4⟩ := hc
                    have hcc : cc = N.1 := Nat.eq_of_beq_eq_true c1
                    subst hcc
                    obtain ⟨f1, f2, f3⟩ := ez_fit_of c2
                    have hlen : (st.take N.2.2.2.2.2.1).length = N.2.2.2.2.2.1 := Nat.eq_of_beq_eq_true c3
                    have hent : (ez_en (.ref a :: (st.take N.2.2.2.2.2.1).reverse) N.2.2.2.1).length = N.2.2.2.1 := Nat.eq_of_beq_eq_true c4
                    obtain ⟨N', hN', l1, l2, l3⟩ := ez_cc_of hj
                    have hNN : N' = N := Option.some.inj (hN'.symm.trans hN)
                    subst hNN
                    obtain ⟨m1, m2, m3, m4, m5, m6⟩ := ez_mt hN
                    split at h
                    · rename_i r1 w1 hev
                      have hMet := ez_met_of ih (l := l) hN hev hent D cI ad H.size
                      obtain ⟨q, hq1, -⟩ := hP a _ (ez_z_at hw)
                      obtain ⟨-, hRq, -⟩ := ez_cls hq1
                      obtain ⟨cellB, b1, b2, b3⟩ := va_recv hK hP hq1 (ez_z_at hw)
                      have hst : st = st.take N'.2.2.2.2.2.1 ++ .ref a :: rest := by rw [← hdrop, List.take_append_drop]
                      refine ez_call (a := (Value.ref (ad a) :: ((st.take N'.2.2.2.2.2.1).reverse.map (ez_v ad))).toArray) (rest := rest.map (ez_v ad)) (va_runV (As := (st.take N'.2.2.2.2.2.1).reverse.map (ez_v ad)) (b := ad a) (C := N'.2.1.cls) (n := N'.2.2.2.2.2.1) (nL := M.2.2.2.1) (Ts := ez_G) (own := ez_R M.1) (index := k) ⟨hx, hb, hml, hown, hts⟩ hMet
                        (cwV N'.2.2.2.2.2.1 hts (ez_goodV m1 l1 l2 l3 m2) rfl rfl rfl ⟨rfl, m5.1, m5.2, m6⟩ ⟨f1, f2⟩)
                        ⟨ez_blind, ⟨cellB, b1, b2, by rw [← m3, hRq]; exact b3⟩, fun U hU hW => ⟨rfl, by rw [hU], by rw [hU]; exact hP, va_K.moved hW.alike hK, hD.weaken (fun _ _ _ _ => trivial)⟩⟩
                        rfl (by rw [List.length_map, List.length_reverse]; exact hlen) hl.2.1 ?_ (lv_room (by rw [ez_cats]; exact f3)) hd ⟨Nat.le_refl _, Nat.le_refl _⟩) hS hAw (fun H1 locs1 g1 g2 g3 => ?_)
                      · show st.map (ez_v ad) = _
                        conv => lhs; rw [hst]
                        simp [ez_v]
                      · rw [← ez_toL]
                        exact ih mi (pc + 3) L (r1.toList ++ rest) w1 r w' h M hM p l e s m args below meth c H1 locs1 D cI ad A ls free Qc F hml hret hlocks hA g1 g2 g3 hl hq hAf
                    · cases h
                · cases h
              · cases h
        case invokestatic k =>
          obtain rfl : len = 3 := Nat.eq_of_beq_eq_true hok
          dsimp only at h
          split at h
          · rename_i f hf
            have hmm := ez_mm_of hf
            split at h
            · rename_i y x rest
              cases hc : (Nat.ble 1 M.2.2.2.2.2.2.1 && (Nat.ble ((rest.map fun v => v.category).sum + 13) M.2.2.2.2.2.2.2)) with
              | false => rw [hc] at h; cases h
              | true =>
                rw [hc] at h
                simp only [cond_true] at h
                simp only [Bool.and_eq_true] at hc
                have k1 := Nat.le_of_ble_eq_true hc.1
                have k2 := Nat.le_of_ble_eq_true hc.2
                have kk := ih mi (pc + 3) L _ w r w' h M hM p l e s m args below meth c H locs D cI ad A ls free Qc F hml hret hlocks hA hP hD hS hl hq hAf
                cases hf0 : Nat.beq f 0 with
                | true =>
                  rw [hf0] at kk
                  simp only [ez_mmok, hf0, cond_true, Bool.and_eq_true] at hmm
                  exact va_mmin hx hb (hml.trans hl.2.1.symm) hown (hts _ (ez_in_G hmm.1)) (hts _ (ez_in_G hmm.2.1)) (hts _ (ez_in_G hmm.2.2.1)) (hts _ (ez_in_G hmm.2.2.2)) k1 (by rw [ez_cats]; exact k2) (Nat.le_refl _) (Nat.le_refl _) hd kk
                | false =>
                  rw [hf0] at kk
                  simp only [ez_mmok, hf0, cond_false, Bool.and_eq_true] at hmm
                  exact va_mmax hx hb (hml.trans hl.2.1.symm) hown (hts _ (ez_in_G hmm.1)) (hts _ (ez_in_G hmm.2.1)) (hts _ (ez_in_G hmm.2.2.1)) (hts _ (ez_in_G hmm.2.2.2)) k1 (by rw [ez_cats]; exact k2) (Nat.le_refl _) (Nat.le_refl _) hd kk
            · cases h
          · split at h
            · cases h
            · rename_i j hj
              split at h
              · cases h
              · rename_i N hN
                cases hc : (Nat.beq M.1 N.1 && (ez_fit M N (st.drop N.2.2.2.2.2.1) && (Nat.beq (st.take N.2.2.2.2.2.1).length N.2.2.2.2.2.1 && Nat.beq (ez_en ((st.take N.2.2.2.2.2.1).reverse) N.2.2.2.1).length N.2.2.2.1))) with
                | false => rw [hc] at h; cases h
                | true =>
                  rw [hc] at h
                  simp only [cond_true] at h
                  simp only [Bool.and_eq_true] at hc
                  obtain ⟨c1, c2, c3, c4⟩ := hc
                  have hcc : M.1 = N.1 := Nat.eq_of_beq_eq_true c1
                  obtain ⟨f1, f2, f3⟩ := ez_fit_of c2
                  have hlen : (st.take N.2.2.2.2.2.1).length = N.2.2.2.2.2.1 := Nat.eq_of_beq_eq_true c3
                  have hent : (ez_en ((st.take N.2.2.2.2.2.1).reverse) N.2.2.2.1).length = N.2.2.2.1 := Nat.eq_of_beq_eq_true c4
                  obtain ⟨N', hN', l1, l2⟩ := ez_sc_of hj
                  have hNN : N' = N := Option.some.inj (hN'.symm.trans hN)
                  subst hNN
                  obtain ⟨m1, m2, m3, m4, m5, m6⟩ := ez_mt hN
                  split at h
                  · rename_i r1 w1 hev
                    have hMet := ez_met_of ih (l := l) hN hev hent D cI ad H.size
                    refine ez_call (a := ((st.take N'.2.2.2.2.2.1).reverse.map (ez_v ad)).toArray) (rest := (st.drop N'.2.2.2.2.2.1).map (ez_v ad)) (va_runS (As := (st.take N'.2.2.2.2.2.1).reverse.map (ez_v ad)) (n := N'.2.2.2.2.2.1) (nL := M.2.2.2.1) (Ts := ez_G) (own := ez_R M.1) (index := k) ⟨hx, hb, hml, hown, hts⟩ hMet
                      (cwS N'.2.2.2.2.2.1 hts (ez_goodS m1 l1 l2 (by rw [hcc, m3]; exact m2)) rfl rfl rfl ⟨by rw [hcc, m3], m5.1, m5.2, m6⟩ ⟨f1, f2⟩)
                      ⟨ez_blind, fun U hU hW => ⟨rfl, by rw [hU], by rw [hU]; exact hP, va_K.moved hW.alike hK, hD.weaken (fun _ _ _ _ => trivial)⟩⟩
                      rfl (by rw [List.length_map, List.length_reverse]; exact hlen) hl.2.1 ?_ (lv_room (by rw [ez_cats]; exact f3)) hd ⟨Nat.le_refl _, Nat.le_refl _⟩) hS hAw (fun H1 locs1 g1 g2 g3 => ?_)
                    · show st.map (ez_v ad) = _
                      rw [← List.map_reverse, List.reverse_reverse, ← List.map_append, List.take_append_drop]
                    · rw [← ez_toL]
                      exact ih mi (pc + 3) L (r1.toList ++ st.drop N'.2.2.2.2.2.1) w1 r w' h M hM p l e s m args below meth c H1 locs1 D cI ad A ls free Qc F hml hret hlocks hA g1 g2 g3 hl hq hAf
                  · cases h
        all_goals (
          dsimp only at h
          split at h
          · rename_i pc' L' st' w1 hs
            exact ez_simple F hs hok hd hP hD hS hl (fun ls' H' locs' g1 g2 g3 g4 => ih mi pc' L' st' w1 r w' h M hM p l e s m args below meth c H' locs' D cI ad A ls' free Qc F hml hret hlocks hA g2 g3 g4 g1 hq hAf)
          · cases h)
/-- A RUN OF THE INTERPRETER GIVES THE METHOD'S CONTRACT -/
theorem ez_met {n : Nat} {l : Launch} {j : Nat} {N : ez_M} (hN : ez_ms[j]? = some N) {As : List Value} {w w1 : ez_W} {r : Option Value} (h : ez_ev n j 0 (ez_en As N.2.2.2.1) [] w = some (r, w1)) (hlen : (ez_en As N.2.2.2.1).length = N.2.2.2.1) (D : va_G) (cI : ClassId) (ad : Nat → Nat) (sz : Nat) : ez_Met l N D cI ad sz As w r w1 := ez_met_of (ez_B_all n) hN h hlen D cI ad sz
end
section
/-! ===== more fuel, more known locals: the same answer ===== -/
def ez_le (L L' : ez_L) : Prop := L.length = L'.length ∧ ∀ (k : Nat) (v : Value), L[k]? = some (some v) → L'[k]? = some (some v)
theorem ez_le_rf (L : ez_L) : ez_le L L := ⟨rfl, fun _ _ h => h⟩
theorem ez_li_le {L L' : ez_L} (h : ez_le L L') {k : Nat} {x : Int32} (hx : ez_li L k = some x) : ez_li L' k = some x := by
  have := h.2 _ _ (ez_li_of hx)
  unfold ez_li
  rw [this]
theorem ez_ll_le {L L' : ez_L} (h : ez_le L L') {k : Nat} {x : Int64} (hx : ez_ll L k = some x) : ez_ll L' k = some x := by
  have := h.2 _ _ (ez_ll_of hx)
  unfold ez_ll
  rw [this]
theorem ez_la_le {L L' : ez_L} (h : ez_le L L') {k : Nat} {x : Nat} (hx : ez_la L k = some x) : ez_la L' k = some x := by
  have := h.2 _ _ (ez_la_of hx)
  unfold ez_la
  rw [this]
theorem ez_clr_put {L : ez_L} {i j : Nat} {u : Value} (h : L[j]? = some (some u)) (h2 : j + 1 = i → u.category = 1) : (ez_clr L i)[j]? = some (some u) := by
  cases i with
  | zero => exact h
  | succ k =>
    unfold ez_clr
    dsimp only
    by_cases hj : k = j
    · subst hj
      have := h2 rfl
      rw [h]
      split
      · rename_i z hz
        cases hz
        cases this
      · rename_i z hz
        cases hz
        cases this
      · exact h
    · split
      · rw [List.getElem?_set_ne hj]; exact h
      · rw [List.getElem?_set_ne hj]; exact h
      · exact h
theorem ez_set_le {L L' : ez_L} (h : ez_le L L') (k : Nat) (v : Option Value) : ez_le (L.set k v) (L'.set k v) := by
  refine ⟨by rw [List.length_set, List.length_set]; exact h.1, fun j u hj => ?_⟩
  by_cases hk : k = j
  · subst hk
    rw [List.getElem?_set_self'] at hj ⊢
    have h1 := h.1
    cases hq : L[k]? with
    | none => rw [hq] at hj; cases hj
    | some z =>
      rw [hq] at hj
      have hlt : k < L'.length := by rw [← h.1]; exact (List.getElem?_eq_some_iff.mp hq).1
      rw [List.getElem?_eq_getElem hlt]
      exact hj
  · rw [List.getElem?_set_ne hk] at hj ⊢
    exact h.2 _ _ hj
theorem ez_clr_le {L L' : ez_L} (h : ez_le L L') (k : Nat) : ez_le (ez_clr L k) (ez_clr L' k) := by
  refine ⟨by rw [ez_clr_len, ez_clr_len]; exact h.1, fun j u hj => ?_⟩
  obtain ⟨h1, h2⟩ := ez_clr_get hj
  exact ez_clr_put (h.2 _ _ h1) h2
theorem ez_s1_le {L L' L1 : ez_L} (h : ez_le L L') {k : Nat} {v : Value} (hx : ez_s1 L k v = some L1) : ∃ L1', ez_s1 L' k v = some L1' ∧ ez_le L1 L1' := by
  unfold ez_s1 at hx ⊢
  rw [← h.1]
  cases hb : Nat.blt k L.length with
  | false => rw [hb] at hx; cases hx
  | true =>
    rw [hb] at hx
    cases hx
    exact ⟨_, rfl, ez_set_le (ez_clr_le h k) _ _⟩
theorem ez_s2_le {L L' L1 : ez_L} (h : ez_le L L') {k : Nat} {v : Value} (hx : ez_s2 L k v = some L1) : ∃ L1', ez_s2 L' k v = some L1' ∧ ez_le L1 L1' := by
  unfold ez_s2 at hx ⊢
  rw [← h.1]
  cases hb : Nat.blt (k + 1) L.length with
  | false => rw [hb] at hx; cases hx
  | true =>
    rw [hb] at hx
    cases hx
    exact ⟨_, rfl, ez_set_le (ez_set_le (ez_clr_le h k) _ _) _ _⟩
set_option maxHeartbeats 4000000 in
theorem ez_s_le {L L' : ez_L} (h : ez_le L L') {o pc pc1 : Nat} {i : Instr} {st st1 : List Value} {w w1 : ez_W} {L1 : ez_L} (hs : ez_s o i pc L st w = some (pc1, L1, st1, w1)) : ∃ L1', ez_s o i pc L' st w = some (pc1, L1', st1, w1) ∧ ez_le L1 L1' := by
  cases i
  case iload_n k =>
    simp only [ez_s] at hs ⊢
    split at hs
    · rename_i x hx
      cases hs
      rw [ez_li_le h hx]
      exact ⟨_, rfl, h⟩
    · cases hs
  case iload k =>
    simp only [ez_s] at hs ⊢
    split at hs
    · rename_i x hx
      cases hs
      rw [ez_li_le h hx]
      exact ⟨_, rfl, h⟩
    · cases hs
  case lload_n k =>
    simp only [ez_s] at hs ⊢
    split at hs
    · rename_i x hx
      cases hs
      rw [ez_ll_le h hx]
      exact ⟨_, rfl, h⟩
    · cases hs
  case lload k =>
    simp only [ez_s] at hs ⊢
    split at hs
    · rename_i x hx
      cases hs
      rw [ez_ll_le h hx]
      exact ⟨_, rfl, h⟩
    · cases hs
  case aload_n k =>
    simp only [ez_s] at hs ⊢
    split at hs
    · rename_i x hx
      cases hs
      rw [ez_la_le h hx]
      exact ⟨_, rfl, h⟩
    · cases hs
  case aload k =>
    simp only [ez_s] at hs ⊢
    split at hs
    · rename_i x hx
      cases hs
      rw [ez_la_le h hx]
      exact ⟨_, rfl, h⟩
    · cases hs
  case istore_n k =>
    simp only [ez_s] at hs ⊢
    split at hs
    · split at hs
      · rename_i x st2 _ L2 hL2
        cases hs
        obtain ⟨L3, e1, e2⟩ := ez_s1_le h hL2
        (try dsimp only)
        rw [e1]
        exact ⟨_, rfl, e2⟩
      · cases hs
    · cases hs
  case istore k =>
    simp only [ez_s] at hs ⊢
    split at hs
    · split at hs
      · rename_i x st2 _ L2 hL2
        cases hs
        obtain ⟨L3, e1, e2⟩ := ez_s1_le h hL2
        (try dsimp only)
        rw [e1]
        exact ⟨_, rfl, e2⟩
      · cases hs
    · cases hs
  case lstore_n k =>
    simp only [ez_s] at hs ⊢
    split at hs
    · split at hs
      · rename_i x st2 _ L2 hL2
        cases hs
        obtain ⟨L3, e1, e2⟩ := ez_s2_le h hL2
        (try dsimp only)
        rw [e1]
        exact ⟨_, rfl, e2⟩
      · cases hs
    · cases hs
  case lstore k =>
    simp only [ez_s] at hs ⊢
    split at hs
    · split at hs
      · rename_i x st2 _ L2 hL2
        cases hs
        obtain ⟨L3, e1, e2⟩ := ez_s2_le h hL2
        (try dsimp only)
        rw [e1]
        exact ⟨_, rfl, e2⟩
      · cases hs
    · cases hs
  case iinc k n =>
    simp only [ez_s] at hs ⊢
    split at hs
    · split at hs
      · rename_i x hx _ L2 hL2
        cases hs
        obtain ⟨L3, e1, e2⟩ := ez_s1_le h hL2
        rw [ez_li_le h hx]
        (try dsimp only)
        rw [e1]
        exact ⟨_, rfl, e2⟩
      · cases hs
    · cases hs
  case getfield k =>
    simp only [ez_s, cond_eq_ite] at hs ⊢
    repeat' split at hs
    all_goals first
      | (cases hs; done)
      | (cases hs; exact ⟨_, rfl, h⟩)
      | (cases hs; refine ⟨_, ?_, h⟩; simp_all; done)
  case putfield k =>
    simp only [ez_s, cond_eq_ite] at hs ⊢
    repeat' split at hs
    all_goals first
      | (cases hs; done)
      | (cases hs; exact ⟨_, rfl, h⟩)
      | (cases hs; refine ⟨_, ?_, h⟩; simp_all; done)
  case lookupswitch d ps =>
    simp only [ez_s] at hs ⊢
    split at hs
    · cases hq : (ps.toList.zip (ps.toList.drop 1)).all (fun (a, next) => a.1 < next.1) with
      | false => rw [hq] at hs; cases hs
      | true =>
        rw [hq] at hs
        simp only [cond_true] at hs ⊢
        split at hs
        · cases hs
          exact ⟨_, rfl, h⟩
        · cases hs
    · cases hs
  all_goals first
    | (simp only [ez_s] at hs; cases hs; done)
    | (simp only [ez_s] at hs ⊢
       repeat' split at hs
       all_goals first
         | (cases hs; done)
         | (cases hs; exact ⟨_, rfl, h⟩)
         | (cases hs; refine ⟨_, ?_, h⟩; simp_all; done))
theorem ez_up {n : Nat} (ih : ∀ (n' mi pc : Nat) (L L' : ez_L) (st : List Value) (w : ez_W) (x : Option Value × ez_W), n ≤ n' → ez_le L L' → ez_ev n mi pc L st w = some x → ez_ev n' mi pc L' st w = some x) {n' : Nat} (hn : n ≤ n') {j pc : Nat} {L L' : ez_L} {st : List Value} {w : ez_W} {x : Option Value × ez_W} (hL : ez_le L L') (h : ez_ev n j pc L st w = some x) : ez_ev n' j pc L' st w = some x := ih n' j pc L L' st w x hn hL h
set_option maxHeartbeats 4000000 in
theorem ez_mono : ∀ (n n' mi pc : Nat) (L L' : ez_L) (st : List Value) (w : ez_W) (x : Option Value × ez_W), n ≤ n' → ez_le L L' → ez_ev n mi pc L st w = some x → ez_ev n' mi pc L' st w = some x := by
  intro n
  induction n with
  | zero =>
    intro n' mi pc L L' st w x hn hL h
    cases h
  | succ n ih =>
    intro n' mi pc L L' st w x hn hL h
    obtain ⟨k, rfl⟩ : ∃ k, n' = k + 1 := ⟨n' - 1, by omega⟩
    have hk : n ≤ k := by omega
    unfold ez_ev at h ⊢
    split at h
    · cases h
    · rename_i M hM
      split at h
      · cases h
      · rename_i i len hi
        cases hok : ez_ok i len with
        | false => rw [hok] at h; cases h
        | true =>
          rw [hok] at h
          simp only [cond_true] at h ⊢
          cases i
          case ireturn => exact h
          case lreturn => exact h
          case return_ => exact h
          case invokevirtual q =>
            dsimp only at h ⊢
            split at h
            · cases h
            · split at h
              · cases h
              · rename_i N hN
                (try rw [hN])
                (try dsimp only)
                split at h
                · rename_i a rest hd
                  (try rw [hd])
                  (try dsimp only)
                  split at h
                  · rename_i cc fs hw
                    (try rw [hw])
                    (try dsimp only)
                    cases hc : (Nat.beq cc N.1 && (ez_fit M N rest && (Nat.beq (st.take N.2.2.2.2.2.1).length N.2.2.2.2.2.1 && Nat.beq (ez_en (.ref a :: (st.take N.2.2.2.2.2.1).reverse) N.2.2.2.1).length N.2.2.2.1))) with
                    | false => rw [hc] at h; cases h
                    | true =>
                      rw [hc] at h
                      simp only [cond_true] at h ⊢
                      split at h
                      · rename_i r1 w1 he
                        rw [ez_up ih hk (ez_le_rf _) he]
                        exact ez_up ih hk hL h
                      · cases h
                  · cases h
                · cases h
          case invokestatic q =>
            dsimp only at h ⊢
            split at h
            · split at h
              · rename_i y z rest
                cases hc : (Nat.ble 1 M.2.2.2.2.2.2.1 && (Nat.ble ((rest.map fun v => v.category).sum + 13) M.2.2.2.2.2.2.2)) with
                | false => rw [hc] at h; cases h
                | true =>
                  rw [hc] at h
                  simp only [hc, cond_true] at h ⊢
                  exact ez_up ih hk hL h
              · cases h
            · split at h
              · cases h
              · split at h
                · cases h
                · rename_i N hN
                  (try rw [hN])
                  (try dsimp only)
                  cases hc : (Nat.beq M.1 N.1 && (ez_fit M N (st.drop N.2.2.2.2.2.1) && (Nat.beq (st.take N.2.2.2.2.2.1).length N.2.2.2.2.2.1 && Nat.beq (ez_en ((st.take N.2.2.2.2.2.1).reverse) N.2.2.2.1).length N.2.2.2.1))) with
                  | false => rw [hc] at h; cases h
                  | true =>
                    rw [hc] at h
                    simp only [cond_true] at h ⊢
                    split at h
                    · rename_i r1 w1 he
                      rw [ez_up ih hk (ez_le_rf _) he]
                      exact ez_up ih hk hL h
                    · cases h
          all_goals (
            dsimp only at h ⊢
            split at h
            · rename_i pc1 L1 st1 w1 hs
              obtain ⟨L2, e1, e2⟩ := ez_s_le hL hs
              rw [e1]
              exact ez_up ih hk e2 h
            · cases h)
end
section
/-! ===== rules for runs: ez_E a run from the middle of a method, ez_m a method's run ===== -/
def ez_E (mi pc : Nat) (L : ez_L) (st : List Value) (w : ez_W) (post : Option Value → ez_W → Prop) : Prop := ∃ (n : Nat) (r : Option Value) (w' : ez_W), ez_ev n mi pc L st w = some (r, w') ∧ post r w'
def ez_m (j : Nat) (As : List Value) (w : ez_W) (post : Option Value → ez_W → Prop) : Prop := ∃ N : ez_M, ez_ms[j]? = some N ∧ (ez_en As N.2.2.2.1).length = N.2.2.2.1 ∧ ez_E j 0 (ez_en As N.2.2.2.1) [] w post
def ez_mh (mi o : Nat) (t : List (Nat × Instr × Nat)) : Prop := ∃ M : ez_M, ez_ms[mi]? = some M ∧ M.1 = o ∧ ez_tb[mi]? = some t
theorem ez_E.le {mi pc : Nat} {L L' : ez_L} {st : List Value} {w : ez_W} {post : Option Value → ez_W → Prop} (h : ez_le L L') (k : ez_E mi pc L st w post) : ez_E mi pc L' st w post := by
  obtain ⟨n, r, w', h1, h2⟩ := k
  exact ⟨n, r, w', ez_mono n n mi pc L L' st w _ (Nat.le_refl _) h h1, h2⟩
theorem ez_E.imp {mi pc : Nat} {L : ez_L} {st : List Value} {w : ez_W} {post post' : Option Value → ez_W → Prop} (k : ez_E mi pc L st w post) (h : ∀ r w', post r w' → post' r w') : ez_E mi pc L st w post' := by
  obtain ⟨n, r, w', h1, h2⟩ := k
  exact ⟨n, r, w', h1, h _ _ h2⟩
theorem ez_m.imp {j : Nat} {As : List Value} {w : ez_W} {post post' : Option Value → ez_W → Prop} (k : ez_m j As w post) (h : ∀ r w', post r w' → post' r w') : ez_m j As w post' := by
  obtain ⟨N, h1, h2, h3⟩ := k
  exact ⟨N, h1, h2, h3.imp h⟩
theorem ez_mh.i {mi o : Nat} {t : List (Nat × Instr × Nat)} (h : ez_mh mi o t) {pc : Nat} {q : Instr × Nat} (hq : ez_lk t pc = some q) : ez_i mi pc = some q := by
  obtain ⟨M, -, -, h3⟩ := h
  unfold ez_i ez_at
  rw [h3]
  exact hq
set_option maxHeartbeats 2000000 in
theorem ez_step {mi o pc pc' : Nat} {t : List (Nat × Instr × Nat)} {i : Instr} {len : Nat} {L L' : ez_L} {st st' : List Value} {w w' : ez_W} {post : Option Value → ez_W → Prop} (hm : ez_mh mi o t) (hi : ez_lk t pc = some (i, len)) (hok : ez_ok i len = true) (hs : ez_s o i pc L st w = some (pc', L', st', w')) (k : ez_E mi pc' L' st' w' post) : ez_E mi pc L st w post := by
  obtain ⟨n, r, w1, h1, h2⟩ := k
  refine ⟨n + 1, r, w1, ?_, h2⟩
  have hi' := hm.i hi
  obtain ⟨M, g1, g2, g3⟩ := hm
  subst g2
  unfold ez_ev
  rw [g1]
  dsimp only
  rw [hi']
  dsimp only
  rw [hok]
  simp only [cond_true]
  cases i
  case ireturn => cases hs
  case lreturn => cases hs
  case return_ => cases hs
  case invokevirtual q => cases hs
  case invokestatic q => cases hs
  all_goals (dsimp only; rw [hs]; exact h1)
/-- some steps at once -/
def ez_run : Nat → Nat → List (Nat × Instr × Nat) → Nat → ez_L → List Value → ez_W → Option ez_K
  | 0, _, _, pc, L, st, w => some (pc, L, st, w)
  | k + 1, o, t, pc, L, st, w => match ez_lk t pc with
    | some (i, len) => bif ez_ok i len then match ez_s o i pc L st w with
        | some (pc', L', st', w') => ez_run k o t pc' L' st' w'
        | none => none
      else none
    | none => none
theorem ez_go {mi o : Nat} {t : List (Nat × Instr × Nat)} (hm : ez_mh mi o t) {post : Option Value → ez_W → Prop} : ∀ (k : Nat) {pc pc' : Nat} {L L' : ez_L} {st st' : List Value} {w w' : ez_W}, ez_run k o t pc L st w = some (pc', L', st', w') → ez_E mi pc' L' st' w' post → ez_E mi pc L st w post := by
  intro k
  induction k with
  | zero =>
    intro pc pc' L L' st st' w w' h kk
    cases h
    exact kk
  | succ k ih =>
    intro pc pc' L L' st st' w w' h kk
    unfold ez_run at h
    split at h
    · rename_i i len hi
      cases hok : ez_ok i len with
      | false => rw [hok] at h; cases h
      | true =>
        rw [hok] at h
        simp only [cond_true] at h
        split at h
        · rename_i pc1 L1 st1 w1 hs
          exact ez_step hm hi hok hs (ih h kk)
        · cases h
    · cases h
theorem ez_if {mi a b : Nat} {L : ez_L} {st : List Value} {w : ez_W} {post : Option Value → ez_W → Prop} {c : Prop} {_ : Decidable c} (ht : c → ez_E mi a L st w post) (hf : ¬ c → ez_E mi b L st w post) : ez_E mi (bif decide c then a else b) L st w post := by
  by_cases h : c
  · rw [decide_eq_true h]; exact ht h
  · rw [decide_eq_false h]; exact hf h
theorem ez_ifT {mi a b : Nat} {L : ez_L} {st : List Value} {w : ez_W} {post : Option Value → ez_W → Prop} {c : Prop} {_ : Decidable c} (h : c) (ht : ez_E mi a L st w post) : ez_E mi (bif decide c then a else b) L st w post := by
  rw [decide_eq_true h]; exact ht
theorem ez_ifF {mi a b : Nat} {L : ez_L} {st : List Value} {w : ez_W} {post : Option Value → ez_W → Prop} {c : Prop} {_ : Decidable c} (h : ¬ c) (hf : ez_E mi b L st w post) : ez_E mi (bif decide c then a else b) L st w post := by
  rw [decide_eq_false h]; exact hf
theorem ez_ald {mi o pc : Nat} {t : List (Nat × Instr × Nat)} {L : ez_L} {st : List Value} {w : ez_W} {post : Option Value → ez_W → Prop} {x : Int32} {a n : Nat} {f : Nat → Int32} (hm : ez_mh mi o t) (hi : ez_lk t pc = some (.iaload, 1)) (hw : w[a]? = some (.inl (n, f))) (k : Nat) (hx : x = nI k) (hk : k < n) (hn : n < 2 ^ 31) (kk : ez_E mi (pc + 1) L (.int (f k) :: st) w post) : ez_E mi pc L (.int x :: .ref a :: st) w post := by
  subst hx
  have hc : (nI k).toNatClampNeg = k := nI_clamp (by omega)
  have h0 : ¬ (nI k < 0 ∨ n ≤ (nI k).toNatClampNeg) := nI_in hk hn
  refine ez_step hm hi rfl ?_ kk
  simp only [ez_s, hw]
  rw [if_neg h0, hc]
theorem ez_ast {mi o pc : Nat} {t : List (Nat × Instr × Nat)} {L : ez_L} {st : List Value} {w : ez_W} {post : Option Value → ez_W → Prop} {x v : Int32} {a n : Nat} {f : Nat → Int32} (hm : ez_mh mi o t) (hi : ez_lk t pc = some (.iastore, 1)) (hw : w[a]? = some (.inl (n, f))) (k : Nat) (hx : x = nI k) (hk : k < n) (hn : n < 2 ^ 31) (kk : ez_E mi (pc + 1) L st (w.set a (.inl (n, upd f k v))) post) : ez_E mi pc L (.int v :: .int x :: .ref a :: st) w post := by
  subst hx
  have hc : (nI k).toNatClampNeg = k := nI_clamp (by omega)
  have h0 : ¬ (nI k < 0 ∨ n ≤ (nI k).toNatClampNeg) := nI_in hk hn
  refine ez_step hm hi rfl ?_ kk
  simp only [ez_s, hw]
  rw [if_neg h0, hc]
theorem ez_div {mi o pc : Nat} {t : List (Nat × Instr × Nat)} {L : ez_L} {st : List Value} {w : ez_W} {post : Option Value → ez_W → Prop} {x y : Int32} (hm : ez_mh mi o t) (hi : ez_lk t pc = some (.idiv, 1)) (hy : ¬ y = 0) (kk : ez_E mi (pc + 1) L (.int (x / y) :: st) w post) : ez_E mi pc L (.int y :: .int x :: st) w post := by
  refine ez_step hm hi rfl ?_ kk
  simp only [ez_s]
  rw [if_neg hy]
theorem ez_lrem {mi o pc : Nat} {t : List (Nat × Instr × Nat)} {L : ez_L} {st : List Value} {w : ez_W} {post : Option Value → ez_W → Prop} {x y : Int64} (hm : ez_mh mi o t) (hi : ez_lk t pc = some (.lrem, 1)) (hy : ¬ y = 0) (kk : ez_E mi (pc + 1) L (.long (x - x / y * y) :: st) w post) : ez_E mi pc L (.long y :: .long x :: st) w post := by
  refine ez_step hm hi rfl ?_ kk
  simp only [ez_s]
  rw [if_neg hy]
theorem ez_iret {mi o pc : Nat} {t : List (Nat × Instr × Nat)} {L : ez_L} {w : ez_W} {post : Option Value → ez_W → Prop} {v : Int32} {M : ez_M} (hM : ez_ms[mi]? = some M) (hm : ez_mh mi o t) (hi : ez_lk t pc = some (.ireturn, 1)) (hr : M.2.2.2.2.1 = some .int) (k : post (some (.int v)) w) : ez_E mi pc L [.int v] w post := by
  refine ⟨1, _, _, ?_, k⟩
  unfold ez_ev
  rw [hM]
  dsimp only
  rw [hm.i hi]
  dsimp only
  rw [hr]
  rfl
theorem ez_zret {mi o pc : Nat} {t : List (Nat × Instr × Nat)} {L : ez_L} {w : ez_W} {post : Option Value → ez_W → Prop} {v : Int32} {M : ez_M} (hM : ez_ms[mi]? = some M) (hm : ez_mh mi o t) (hi : ez_lk t pc = some (.ireturn, 1)) (hr : M.2.2.2.2.1 = some .boolean) (hv : v = 0 ∨ v = 1) (k : post (some (.int v)) w) : ez_E mi pc L [.int v] w post := by
  refine ⟨1, _, _, ?_, k⟩
  unfold ez_ev
  rw [hM]
  dsimp only
  rw [hm.i hi]
  dsimp only
  rw [hr]
  rcases hv with rfl | rfl <;> rfl
theorem ez_lret {mi o pc : Nat} {t : List (Nat × Instr × Nat)} {L : ez_L} {w : ez_W} {post : Option Value → ez_W → Prop} {v : Int64} {M : ez_M} (hM : ez_ms[mi]? = some M) (hm : ez_mh mi o t) (hi : ez_lk t pc = some (.lreturn, 1)) (hr : M.2.2.2.2.1 = some .long) (k : post (some (.long v)) w) : ez_E mi pc L [.long v] w post := by
  refine ⟨1, _, _, ?_, k⟩
  unfold ez_ev
  rw [hM]
  dsimp only
  rw [hm.i hi]
  dsimp only
  rw [hr]
  rfl
theorem ez_vret {mi o pc : Nat} {t : List (Nat × Instr × Nat)} {L : ez_L} {w : ez_W} {post : Option Value → ez_W → Prop} {M : ez_M} (hM : ez_ms[mi]? = some M) (hm : ez_mh mi o t) (hi : ez_lk t pc = some (.return_, 1)) (hr : M.2.2.2.2.1 = none) (k : post none w) : ez_E mi pc L [] w post := by
  refine ⟨1, _, _, ?_, k⟩
  unfold ez_ev
  rw [hM]
  dsimp only
  rw [hm.i hi]
  dsimp only
  rw [hr]
  rfl
/-- may this call be made here? the callee, its arguments, what is left on the stack -/
def ez_cal (mi : Nat) (k : Nat) (st : List Value) (w : ez_W) : Option (Nat × List Value × List Value) := match ez_ms[mi]? with
  | none => none
  | some M => match ez_at ez_cc M.1 k with
    | none => none
    | some j => match ez_ms[j]? with
      | none => none
      | some N => match st.drop N.2.2.2.2.2.1 with
        | .ref a :: rest => match w[a]? with
          | some (.inr (c, _)) =>
            bif Nat.beq c N.1 && (ez_fit M N rest && (Nat.beq (st.take N.2.2.2.2.2.1).length N.2.2.2.2.2.1 && Nat.beq (ez_en (.ref a :: (st.take N.2.2.2.2.2.1).reverse) N.2.2.2.1).length N.2.2.2.1)) then
              some (j, .ref a :: (st.take N.2.2.2.2.2.1).reverse, rest)
            else none
          | _ => none
        | _ => none
theorem ez_cl {mi o pc k : Nat} {t : List (Nat × Instr × Nat)} {L : ez_L} {st : List Value} {w : ez_W} {post : Option Value → ez_W → Prop} {j : Nat} {As rest : List Value} (hm : ez_mh mi o t) (hi : ez_lk t pc = some (.invokevirtual k, 3)) (hc : ez_cal mi k st w = some (j, As, rest)) (kk : ez_m j As w (fun r w1 => ez_E mi (pc + 3) L (r.toList ++ rest) w1 post)) : ez_E mi pc L st w post := by
  have hi' := hm.i hi
  unfold ez_cal at hc
  split at hc
  · cases hc
  · rename_i M hM
    split at hc
    · cases hc
    · rename_i j1 hj
      split at hc
      · cases hc
      · rename_i N hN
        split at hc
        · rename_i a rest1 hd
          split at hc
          · rename_i cc fs hw
            cases hb : (Nat.beq cc N.1 && (ez_fit M N rest1 && (Nat.beq (st.take N.2.2.2.2.2.1).length N.2.2.2.2.2.1 && Nat.beq (ez_en (.ref a :: (st.take N.2.2.2.2.2.1).reverse) N.2.2.2.1).length N.2.2.2.1))) with
            | false => rw [hb] at hc; cases hc
            | true =>
              rw [hb] at hc
              cases hc
              obtain ⟨N', g1, g2, n1, r1, w1, e1, n2, r2, w2, e2, e3⟩ := kk
              have hNN : N' = N := Option.some.inj (g1.symm.trans hN)
              subst hNN
              refine ⟨max n1 n2 + 1, r2, w2, ?_, e3⟩
              unfold ez_ev
              rw [hM]
              dsimp only
              rw [hi']
              dsimp only
              rw [show ez_ok (.invokevirtual k) 3 = true from rfl]
              simp only [cond_true]
              rw [hj]
              dsimp only
              rw [hN]
              dsimp only
              rw [hd]
              dsimp only
              rw [hw]
              dsimp only
              rw [hb]
              simp only [cond_true]
              rw [ez_mono n1 (max n1 n2) _ _ _ _ _ _ _ (Nat.le_max_left _ _) (ez_le_rf _) e1]
              exact ez_mono n2 (max n1 n2) _ _ _ _ _ _ _ (Nat.le_max_right _ _) (ez_le_rf _) e2
          · cases hc
        · cases hc
/-- a method's run from a run of its body -/
theorem ez_m.of {j : Nat} {As : List Value} {w : ez_W} {post : Option Value → ez_W → Prop} {N : ez_M} {L : ez_L} (hN : ez_ms[j]? = some N) (hL : ez_en As N.2.2.2.1 = L) (hlen : L.length = N.2.2.2.1) (k : ez_E j 0 L [] w post) : ez_m j As w post := ⟨N, hN, by rw [hL]; exact hlen, by rw [hL]; exact k⟩
/-- .. and the machine's contract of it -/
theorem ez_m.met {j : Nat} {As : List Value} {w : ez_W} {post : Option Value → ez_W → Prop} (h : ez_m j As w post) {N : ez_M} (hN : ez_ms[j]? = some N) : ∃ (r : Option Value) (w' : ez_W), post r w' ∧ ∀ (l : Launch) (D : va_G) (cI : ClassId) (ad : Nat → Nat) (sz : Nat), ez_Met l N D cI ad sz As w r w' := by
  obtain ⟨N', g1, g2, n, r, w', h1, h2⟩ := h
  have hNN : N' = N := Option.some.inj (g1.symm.trans hN)
  subst hNN
  exact ⟨r, w', h2, fun l D cI ad sz => ez_met hN h1 g2 D cI ad sz⟩
/-! the class's world: groups of the row, of QUICK, of RUNS, of the bench -/
abbrev cz_Row : Type := Int32 × Int32 × Int64 × Int32 × Int32 × Int32 × (Nat → Int32) × (Nat → Int32)
abbrev cz_Qk : Type := Int32 × Int32 × Int32 × Int32 × Int32 × Int32 × Int32 × Int64 × Int64 × (Nat → Int32) × (Nat → Int32) × (Nat → Int32)
abbrev cz_Rn : Type := Int32 × Int64 × Int64 × (Nat → Int32) × (Nat → Int32) × (Nat → Int32)
abbrev cz_Bn : Type := Int64 × Int64 × Int64 × Int64
def cz_w (r : cz_Row) (q : cz_Qk) (u : cz_Rn) (b : cz_Bn) : ez_W := [
  .inr (6, [.ref 1, .ref 2, .ref 3, .ref 4, .ref 5, .ref 6, .long b.1, .long b.2.1, .long b.2.2.1, .long b.2.2.2]),
  .inr (3, [.ref 7, .ref 8, .int r.1, .int r.2.1, .long r.2.2.1, .int r.2.2.2.1, .int r.2.2.2.2.1, .int r.2.2.2.2.2.1]),
  .inr (1, [.ref 1]), .inr (0, [.ref 1]),
  .inr (2, [.ref 1, .ref 2, .ref 3, .ref 9, .ref 10, .ref 11, .int q.1, .int q.2.1, .int q.2.2.1, .int q.2.2.2.1, .int q.2.2.2.2.1, .int q.2.2.2.2.2.1, .int q.2.2.2.2.2.2.1, .long q.2.2.2.2.2.2.2.1, .long q.2.2.2.2.2.2.2.2.1]),
  .inr (4, [.ref 1, .ref 12, .ref 13, .ref 14, .int u.1, .long u.2.1, .long u.2.2.1]),
  .inr (5, [.ref 1]),
  .inl (600, r.2.2.2.2.2.2.1), .inl (600, r.2.2.2.2.2.2.2),
  .inl (64, q.2.2.2.2.2.2.2.2.2.1), .inl (64, q.2.2.2.2.2.2.2.2.2.2.1), .inl (64, q.2.2.2.2.2.2.2.2.2.2.2),
  .inl (40, u.2.2.2.1), .inl (40, u.2.2.2.2.1), .inl (600, u.2.2.2.2.2)]
theorem ez_h0 : ez_mh 0 0 ez_t0 := ⟨_, rfl, rfl, rfl⟩
theorem ez_h1 : ez_mh 1 0 ez_t1 := ⟨_, rfl, rfl, rfl⟩
theorem ez_h2 : ez_mh 2 0 ez_t2 := ⟨_, rfl, rfl, rfl⟩
theorem ez_h3 : ez_mh 3 1 ez_t3 := ⟨_, rfl, rfl, rfl⟩
theorem ez_h4 : ez_mh 4 1 ez_t4 := ⟨_, rfl, rfl, rfl⟩
theorem ez_h5 : ez_mh 5 1 ez_t5 := ⟨_, rfl, rfl, rfl⟩
theorem ez_h6 : ez_mh 6 1 ez_t6 := ⟨_, rfl, rfl, rfl⟩
theorem ez_h7 : ez_mh 7 1 ez_t7 := ⟨_, rfl, rfl, rfl⟩
theorem ez_h8 : ez_mh 8 2 ez_t8 := ⟨_, rfl, rfl, rfl⟩
theorem ez_h9 : ez_mh 9 2 ez_t9 := ⟨_, rfl, rfl, rfl⟩
theorem ez_h10 : ez_mh 10 2 ez_t10 := ⟨_, rfl, rfl, rfl⟩
theorem ez_h11 : ez_mh 11 2 ez_t11 := ⟨_, rfl, rfl, rfl⟩
theorem ez_h12 : ez_mh 12 2 ez_t12 := ⟨_, rfl, rfl, rfl⟩
theorem ez_h13 : ez_mh 13 2 ez_t13 := ⟨_, rfl, rfl, rfl⟩
theorem ez_h14 : ez_mh 14 2 ez_t14 := ⟨_, rfl, rfl, rfl⟩
theorem ez_h15 : ez_mh 15 2 ez_t15 := ⟨_, rfl, rfl, rfl⟩
theorem ez_h16 : ez_mh 16 2 ez_t16 := ⟨_, rfl, rfl, rfl⟩
theorem ez_h17 : ez_mh 17 2 ez_t17 := ⟨_, rfl, rfl, rfl⟩
theorem ez_h18 : ez_mh 18 2 ez_t18 := ⟨_, rfl, rfl, rfl⟩
theorem ez_h19 : ez_mh 19 2 ez_t19 := ⟨_, rfl, rfl, rfl⟩
theorem ez_h20 : ez_mh 20 2 ez_t20 := ⟨_, rfl, rfl, rfl⟩
theorem ez_h21 : ez_mh 21 2 ez_t21 := ⟨_, rfl, rfl, rfl⟩
theorem ez_h22 : ez_mh 22 2 ez_t22 := ⟨_, rfl, rfl, rfl⟩
theorem ez_h23 : ez_mh 23 2 ez_t23 := ⟨_, rfl, rfl, rfl⟩
theorem ez_h24 : ez_mh 24 2 ez_t24 := ⟨_, rfl, rfl, rfl⟩
theorem ez_h25 : ez_mh 25 2 ez_t25 := ⟨_, rfl, rfl, rfl⟩
theorem ez_h26 : ez_mh 26 3 ez_t26 := ⟨_, rfl, rfl, rfl⟩
theorem ez_h27 : ez_mh 27 3 ez_t27 := ⟨_, rfl, rfl, rfl⟩
theorem ez_h28 : ez_mh 28 3 ez_t28 := ⟨_, rfl, rfl, rfl⟩
theorem ez_h29 : ez_mh 29 3 ez_t29 := ⟨_, rfl, rfl, rfl⟩
theorem ez_h30 : ez_mh 30 3 ez_t30 := ⟨_, rfl, rfl, rfl⟩
theorem ez_h31 : ez_mh 31 3 ez_t31 := ⟨_, rfl, rfl, rfl⟩
theorem ez_h32 : ez_mh 32 3 ez_t32 := ⟨_, rfl, rfl, rfl⟩
theorem ez_h33 : ez_mh 33 3 ez_t33 := ⟨_, rfl, rfl, rfl⟩
theorem ez_h34 : ez_mh 34 3 ez_t34 := ⟨_, rfl, rfl, rfl⟩
theorem ez_h35 : ez_mh 35 3 ez_t35 := ⟨_, rfl, rfl, rfl⟩
theorem ez_h36 : ez_mh 36 3 ez_t36 := ⟨_, rfl, rfl, rfl⟩
theorem ez_h37 : ez_mh 37 3 ez_t37 := ⟨_, rfl, rfl, rfl⟩
theorem ez_h38 : ez_mh 38 3 ez_t38 := ⟨_, rfl, rfl, rfl⟩
theorem ez_h39 : ez_mh 39 3 ez_t39 := ⟨_, rfl, rfl, rfl⟩
theorem ez_h40 : ez_mh 40 3 ez_t40 := ⟨_, rfl, rfl, rfl⟩
theorem ez_h41 : ez_mh 41 3 ez_t41 := ⟨_, rfl, rfl, rfl⟩
theorem ez_h42 : ez_mh 42 4 ez_t42 := ⟨_, rfl, rfl, rfl⟩
theorem ez_h43 : ez_mh 43 4 ez_t43 := ⟨_, rfl, rfl, rfl⟩
theorem ez_h44 : ez_mh 44 4 ez_t44 := ⟨_, rfl, rfl, rfl⟩
theorem ez_h45 : ez_mh 45 4 ez_t45 := ⟨_, rfl, rfl, rfl⟩
theorem ez_h46 : ez_mh 46 4 ez_t46 := ⟨_, rfl, rfl, rfl⟩
theorem ez_h47 : ez_mh 47 4 ez_t47 := ⟨_, rfl, rfl, rfl⟩
theorem ez_h48 : ez_mh 48 4 ez_t48 := ⟨_, rfl, rfl, rfl⟩
theorem ez_h49 : ez_mh 49 4 ez_t49 := ⟨_, rfl, rfl, rfl⟩
theorem ez_h50 : ez_mh 50 4 ez_t50 := ⟨_, rfl, rfl, rfl⟩
theorem ez_h51 : ez_mh 51 4 ez_t51 := ⟨_, rfl, rfl, rfl⟩
theorem ez_h52 : ez_mh 52 4 ez_t52 := ⟨_, rfl, rfl, rfl⟩
theorem ez_h53 : ez_mh 53 4 ez_t53 := ⟨_, rfl, rfl, rfl⟩
theorem ez_h54 : ez_mh 54 4 ez_t54 := ⟨_, rfl, rfl, rfl⟩
theorem ez_h55 : ez_mh 55 4 ez_t55 := ⟨_, rfl, rfl, rfl⟩
theorem ez_h56 : ez_mh 56 4 ez_t56 := ⟨_, rfl, rfl, rfl⟩
theorem ez_h57 : ez_mh 57 5 ez_t57 := ⟨_, rfl, rfl, rfl⟩
theorem ez_h58 : ez_mh 58 6 ez_t58 := ⟨_, rfl, rfl, rfl⟩
theorem ez_h59 : ez_mh 59 6 ez_t59 := ⟨_, rfl, rfl, rfl⟩
theorem ez_h60 : ez_mh 60 6 ez_t60 := ⟨_, rfl, rfl, rfl⟩
theorem ez_h61 : ez_mh 61 6 ez_t61 := ⟨_, rfl, rfl, rfl⟩
theorem ez_h62 : ez_mh 62 7 ez_t62 := ⟨_, rfl, rfl, rfl⟩
theorem ez_h63 : ez_mh 63 7 ez_t63 := ⟨_, rfl, rfl, rfl⟩
theorem ez_h64 : ez_mh 64 7 ez_t64 := ⟨_, rfl, rfl, rfl⟩
theorem ez_h65 : ez_mh 65 7 ez_t65 := ⟨_, rfl, rfl, rfl⟩
theorem ez_h66 : ez_mh 66 7 ez_t66 := ⟨_, rfl, rfl, rfl⟩
theorem ez_h67 : ez_mh 67 7 ez_t67 := ⟨_, rfl, rfl, rfl⟩
theorem ez_h68 : ez_mh 68 7 ez_t68 := ⟨_, rfl, rfl, rfl⟩
theorem ez_h69 : ez_mh 69 7 ez_t69 := ⟨_, rfl, rfl, rfl⟩
theorem ez_h70 : ez_mh 70 7 ez_t70 := ⟨_, rfl, rfl, rfl⟩
theorem ez_h71 : ez_mh 71 7 ez_t71 := ⟨_, rfl, rfl, rfl⟩
theorem ez_h72 : ez_mh 72 7 ez_t72 := ⟨_, rfl, rfl, rfl⟩
theorem ez_h73 : ez_mh 73 7 ez_t73 := ⟨_, rfl, rfl, rfl⟩
theorem ez_h74 : ez_mh 74 7 ez_t74 := ⟨_, rfl, rfl, rfl⟩
theorem ez_h75 : ez_mh 75 7 ez_t75 := ⟨_, rfl, rfl, rfl⟩
theorem ez_h76 : ez_mh 76 7 ez_t76 := ⟨_, rfl, rfl, rfl⟩
theorem ez_h77 : ez_mh 77 7 ez_t77 := ⟨_, rfl, rfl, rfl⟩
theorem ez_h78 : ez_mh 78 7 ez_t78 := ⟨_, rfl, rfl, rfl⟩
theorem ez_h79 : ez_mh 79 7 ez_t79 := ⟨_, rfl, rfl, rfl⟩
theorem ez_h80 : ez_mh 80 7 ez_t80 := ⟨_, rfl, rfl, rfl⟩
theorem ez_h81 : ez_mh 81 7 ez_t81 := ⟨_, rfl, rfl, rfl⟩
theorem ez_h82 : ez_mh 82 7 ez_t82 := ⟨_, rfl, rfl, rfl⟩
theorem ez_h83 : ez_mh 83 7 ez_t83 := ⟨_, rfl, rfl, rfl⟩
theorem ez_h84 : ez_mh 84 7 ez_t84 := ⟨_, rfl, rfl, rfl⟩
theorem ez_h85 : ez_mh 85 7 ez_t85 := ⟨_, rfl, rfl, rfl⟩
theorem ez_h86 : ez_mh 86 7 ez_t86 := ⟨_, rfl, rfl, rfl⟩
theorem ez_h87 : ez_mh 87 7 ez_t87 := ⟨_, rfl, rfl, rfl⟩
theorem ez_h88 : ez_mh 88 7 ez_t88 := ⟨_, rfl, rfl, rfl⟩
theorem ez_h89 : ez_mh 89 7 ez_t89 := ⟨_, rfl, rfl, rfl⟩
theorem ez_h90 : ez_mh 90 7 ez_t90 := ⟨_, rfl, rfl, rfl⟩
theorem ez_h91 : ez_mh 91 7 ez_t91 := ⟨_, rfl, rfl, rfl⟩
theorem ez_h92 : ez_mh 92 7 ez_t92 := ⟨_, rfl, rfl, rfl⟩
theorem ez_h93 : ez_mh 93 7 ez_t93 := ⟨_, rfl, rfl, rfl⟩
theorem ez_h94 : ez_mh 94 7 ez_t94 := ⟨_, rfl, rfl, rfl⟩
theorem ez_h95 : ez_mh 95 7 ez_t95 := ⟨_, rfl, rfl, rfl⟩
theorem ez_h96 : ez_mh 96 7 ez_t96 := ⟨_, rfl, rfl, rfl⟩
theorem ez_h97 : ez_mh 97 7 ez_t97 := ⟨_, rfl, rfl, rfl⟩
theorem ez_h98 : ez_mh 98 7 ez_t98 := ⟨_, rfl, rfl, rfl⟩
theorem ez_h99 : ez_mh 99 7 ez_t99 := ⟨_, rfl, rfl, rfl⟩
theorem ez_h100 : ez_mh 100 7 ez_t100 := ⟨_, rfl, rfl, rfl⟩
theorem ez_h101 : ez_mh 101 7 ez_t101 := ⟨_, rfl, rfl, rfl⟩
theorem ez_h102 : ez_mh 102 7 ez_t102 := ⟨_, rfl, rfl, rfl⟩
theorem ez_h103 : ez_mh 103 7 ez_t103 := ⟨_, rfl, rfl, rfl⟩
theorem ez_h104 : ez_mh 104 7 ez_t104 := ⟨_, rfl, rfl, rfl⟩
end
section
/-! ===== the reference's world ===== -/
abbrev mz_A : Type := Int32 × Int32 × Int32 × Int32 × Int32 × Int64 × Int64 × (Nat → Int32) × (Nat → Int32) × (Nat → Int32)
abbrev mz_Q : Type := Int64 × Int64 × Int64 × Int32 × Int32 × (Nat → Int32) × (Nat → Int32) × (Nat → Int32)
abbrev mz_U : Type := Int64 × Int64 × Int32 × (Nat → Int32) × (Nat → Int32) × (Nat → Int32)
abbrev mz_T : Type := Int32 × (Nat → Int32)
def mz_w (A : mz_A) (Q : mz_Q) (U : mz_U) (T : mz_T) : ez_W := [
  .inr (7, [.int T.1, .int A.1, .ref 1, .ref 2, .ref 3, .int A.2.2.1, .int A.2.2.2.1, .int A.2.2.2.2.1, .int A.2.1, .ref 4, .ref 5, .long A.2.2.2.2.2.1, .long A.2.2.2.2.2.2.1, .long Q.1, .long Q.2.1, .long Q.2.2.1, .long U.1, .long U.2.1, .ref 6, .ref 7, .int U.2.2.1, .ref 8, .ref 9, .ref 10, .int Q.2.2.2.1, .int Q.2.2.2.2.1]),
  .inl (600, A.2.2.2.2.2.2.2.1),
  .inl (600, T.2),
  .inl (600, A.2.2.2.2.2.2.2.2.1),
  .inl (600, A.2.2.2.2.2.2.2.2.2),
  .inl (600, U.2.2.2.2.2),
  .inl (600, U.2.2.2.1),
  .inl (600, U.2.2.2.2.1),
  .inl (600, Q.2.2.2.2.2.1),
  .inl (600, Q.2.2.2.2.2.2.1),
  .inl (600, Q.2.2.2.2.2.2.2)]
/-! ===== the row: reads and writes ===== -/
set_option maxRecDepth 20000 in
theorem lf_at (k : Nat) (hk : k < 600) (sz : Int32) (ord : Int32) (asked : Int64) (adv : Int32) (cand : Int32) (stl : Int32) (num : Nat → Int32) (thg : Nat → Int32) (q : cz_Qk) (u : cz_Rn) (b : cz_Bn) {post : Option Value → ez_W → Prop} (h : post (some (.int (thg k))) (cz_w (sz, ord, asked, adv, cand, stl, num, thg) q u b)) : ez_m 32 [.ref 1, .int (nI (k))] (cz_w (sz, ord, asked, adv, cand, stl, num, thg) q u b) post := by
  refine ez_m.of (L := [some (.ref 1), some (.int (nI (k)))]) rfl rfl rfl ?_
  refine ez_go ez_h32 2 (pc' := bif decide ((nI (k)) < 0) then 22 else 4) (L' := [some (.ref 1), some (.int (nI (k)))]) (st' := []) (w' := cz_w (sz, ord, asked, adv, cand, stl, num, thg) q u b) rfl ?_
  refine ez_ifF (nI_pos (by omega)) ?_
  refine ez_go ez_h32 5 (pc' := bif decide ((nI (600)) ≤ (nI (k))) then 22 else 13) (L' := [some (.ref 1), some (.int (nI (k)))]) (st' := []) (w' := cz_w (sz, ord, asked, adv, cand, stl, num, thg) q u b) rfl ?_
  refine ez_ifF (nI_ge (by omega) (by omega)) ?_
  refine ez_go ez_h32 3 (pc' := 18) (L' := [some (.ref 1), some (.int (nI (k)))]) (st' := [.int (nI (k)), .ref 8]) (w' := cz_w (sz, ord, asked, adv, cand, stl, num, thg) q u b) rfl ?_
  refine ez_ald ez_h32 rfl rfl (k) rfl (by omega) (by omega) ?_
  refine ez_go ez_h32 1 (pc' := 23) (L' := [some (.ref 1), some (.int (nI (k)))]) (st' := [.int (thg (k))]) (w' := cz_w (sz, ord, asked, adv, cand, stl, num, thg) q u b) rfl ?_
  exact ez_iret rfl ez_h32 rfl rfl h
set_option maxRecDepth 20000 in
theorem lf_numberOf (k : Nat) (hk : k < 600) (sz : Int32) (ord : Int32) (asked : Int64) (adv : Int32) (cand : Int32) (stl : Int32) (num : Nat → Int32) (thg : Nat → Int32) (q : cz_Qk) (u : cz_Rn) (b : cz_Bn) {post : Option Value → ez_W → Prop} (h : post (some (.int (num k))) (cz_w (sz, ord, asked, adv, cand, stl, num, thg) q u b)) : ez_m 34 [.ref 1, .int (nI (k))] (cz_w (sz, ord, asked, adv, cand, stl, num, thg) q u b) post := by
  refine ez_m.of (L := [some (.ref 1), some (.int (nI (k)))]) rfl rfl rfl ?_
  refine ez_go ez_h34 2 (pc' := bif decide ((nI (k)) < 0) then 22 else 4) (L' := [some (.ref 1), some (.int (nI (k)))]) (st' := []) (w' := cz_w (sz, ord, asked, adv, cand, stl, num, thg) q u b) rfl ?_
  refine ez_ifF (nI_pos (by omega)) ?_
  refine ez_go ez_h34 5 (pc' := bif decide ((nI (600)) ≤ (nI (k))) then 22 else 13) (L' := [some (.ref 1), some (.int (nI (k)))]) (st' := []) (w' := cz_w (sz, ord, asked, adv, cand, stl, num, thg) q u b) rfl ?_
  refine ez_ifF (nI_ge (by omega) (by omega)) ?_
  refine ez_go ez_h34 3 (pc' := 18) (L' := [some (.ref 1), some (.int (nI (k)))]) (st' := [.int (nI (k)), .ref 7]) (w' := cz_w (sz, ord, asked, adv, cand, stl, num, thg) q u b) rfl ?_
  refine ez_ald ez_h34 rfl rfl (k) rfl (by omega) (by omega) ?_
  refine ez_go ez_h34 1 (pc' := 23) (L' := [some (.ref 1), some (.int (nI (k)))]) (st' := [.int (num (k))]) (w' := cz_w (sz, ord, asked, adv, cand, stl, num, thg) q u b) rfl ?_
  exact ez_iret rfl ez_h34 rfl rfl h
set_option maxRecDepth 20000 in
theorem lf_size   (sz : Int32) (ord : Int32) (asked : Int64) (adv : Int32) (cand : Int32) (stl : Int32) (num : Nat → Int32) (thg : Nat → Int32) (q : cz_Qk) (u : cz_Rn) (b : cz_Bn) {post : Option Value → ez_W → Prop} (h : post (some (.int sz)) (cz_w (sz, ord, asked, adv, cand, stl, num, thg) q u b)) : ez_m 26 [.ref 1] (cz_w (sz, ord, asked, adv, cand, stl, num, thg) q u b) post := by
  refine ez_m.of (L := [some (.ref 1)]) rfl rfl rfl ?_
  refine ez_go ez_h26 2 (pc' := 4) (L' := [some (.ref 1)]) (st' := [.int (sz)]) (w' := cz_w (sz, ord, asked, adv, cand, stl, num, thg) q u b) rfl ?_
  exact ez_iret rfl ez_h26 rfl rfl h
set_option maxRecDepth 20000 in
theorem lf_ordering   (sz : Int32) (ord : Int32) (asked : Int64) (adv : Int32) (cand : Int32) (stl : Int32) (num : Nat → Int32) (thg : Nat → Int32) (q : cz_Qk) (u : cz_Rn) (b : cz_Bn) {post : Option Value → ez_W → Prop} (h : post (some (.int ord)) (cz_w (sz, ord, asked, adv, cand, stl, num, thg) q u b)) : ez_m 27 [.ref 1] (cz_w (sz, ord, asked, adv, cand, stl, num, thg) q u b) post := by
  refine ez_m.of (L := [some (.ref 1)]) rfl rfl rfl ?_
  refine ez_go ez_h27 2 (pc' := 4) (L' := [some (.ref 1)]) (st' := [.int (ord)]) (w' := cz_w (sz, ord, asked, adv, cand, stl, num, thg) q u b) rfl ?_
  exact ez_iret rfl ez_h27 rfl rfl h
set_option maxRecDepth 20000 in
theorem lf_asked   (sz : Int32) (ord : Int32) (asked : Int64) (adv : Int32) (cand : Int32) (stl : Int32) (num : Nat → Int32) (thg : Nat → Int32) (q : cz_Qk) (u : cz_Rn) (b : cz_Bn) {post : Option Value → ez_W → Prop} (h : post (some (.long asked)) (cz_w (sz, ord, asked, adv, cand, stl, num, thg) q u b)) : ez_m 29 [.ref 1] (cz_w (sz, ord, asked, adv, cand, stl, num, thg) q u b) post := by
  refine ez_m.of (L := [some (.ref 1)]) rfl rfl rfl ?_
  refine ez_go ez_h29 2 (pc' := 4) (L' := [some (.ref 1)]) (st' := [.long (asked)]) (w' := cz_w (sz, ord, asked, adv, cand, stl, num, thg) q u b) rfl ?_
  exact ez_lret rfl ez_h29 rfl rfl h
def pf_setOrdering (o : Int32) (sz : Int32) (ord : Int32) (asked : Int64) (adv : Int32) (cand : Int32) (stl : Int32) (num : Nat → Int32) (thg : Nat → Int32) : cz_Row := ((sz, o, asked, adv, cand, stl, num, thg))
set_option maxRecDepth 20000 in
theorem lf_setOrdering (o : Int32)  (sz : Int32) (ord : Int32) (asked : Int64) (adv : Int32) (cand : Int32) (stl : Int32) (num : Nat → Int32) (thg : Nat → Int32) (q : cz_Qk) (u : cz_Rn) (b : cz_Bn) {post : Option Value → ez_W → Prop} (h : post none (cz_w (pf_setOrdering o sz ord asked adv cand stl num thg) q u b)) : ez_m 28 [.ref 1, .int (o)] (cz_w (sz, ord, asked, adv, cand, stl, num, thg) q u b) post := by
  refine ez_m.of (L := [some (.ref 1), some (.int (o))]) rfl rfl rfl ?_
  unfold pf_setOrdering at h
  refine ez_go ez_h28 3 (pc' := 5) (L' := [some (.ref 1), some (.int (o))]) (st' := []) (w' := cz_w (sz, o, asked, adv, cand, stl, num, thg) q u b) rfl ?_
  exact ez_vret rfl ez_h28 rfl rfl h
def pf_empty  (sz : Int32) (ord : Int32) (asked : Int64) (adv : Int32) (cand : Int32) (stl : Int32) (num : Nat → Int32) (thg : Nat → Int32) : cz_Row := (((nI (0)), ord, asked, adv, cand, stl, num, thg))
set_option maxRecDepth 20000 in
theorem lf_empty   (sz : Int32) (ord : Int32) (asked : Int64) (adv : Int32) (cand : Int32) (stl : Int32) (num : Nat → Int32) (thg : Nat → Int32) (q : cz_Qk) (u : cz_Rn) (b : cz_Bn) {post : Option Value → ez_W → Prop} (h : post none (cz_w (pf_empty  sz ord asked adv cand stl num thg) q u b)) : ez_m 30 [.ref 1] (cz_w (sz, ord, asked, adv, cand, stl, num, thg) q u b) post := by
  refine ez_m.of (L := [some (.ref 1)]) rfl rfl rfl ?_
  unfold pf_empty at h
  refine ez_go ez_h30 3 (pc' := 5) (L' := [some (.ref 1)]) (st' := []) (w' := cz_w ((nI (0)), ord, asked, adv, cand, stl, num, thg) q u b) rfl ?_
  exact ez_vret rfl ez_h30 rfl rfl h
def pf_set (k : Nat) (v : Int32) (sz : Int32) (ord : Int32) (asked : Int64) (adv : Int32) (cand : Int32) (stl : Int32) (num : Nat → Int32) (thg : Nat → Int32) : cz_Row := ((sz, ord, asked, adv, cand, stl, num, (upd thg (k) v)))
set_option maxRecDepth 20000 in
theorem lf_set (k : Nat) (v : Int32) (hk : k < 600) (sz : Int32) (ord : Int32) (asked : Int64) (adv : Int32) (cand : Int32) (stl : Int32) (num : Nat → Int32) (thg : Nat → Int32) (q : cz_Qk) (u : cz_Rn) (b : cz_Bn) {post : Option Value → ez_W → Prop} (h : post none (cz_w (pf_set k v sz ord asked adv cand stl num thg) q u b)) : ez_m 33 [.ref 1, .int (nI (k)), .int (v)] (cz_w (sz, ord, asked, adv, cand, stl, num, thg) q u b) post := by
  refine ez_m.of (L := [some (.ref 1), some (.int (nI (k))), some (.int (v))]) rfl rfl rfl ?_
  unfold pf_set at h
  refine ez_go ez_h33 2 (pc' := bif decide ((nI (k)) < 0) then 20 else 4) (L' := [some (.ref 1), some (.int (nI (k))), some (.int (v))]) (st' := []) (w' := cz_w (sz, ord, asked, adv, cand, stl, num, thg) q u b) rfl ?_
  refine ez_ifF (nI_pos (by omega)) ?_
  refine ez_go ez_h33 5 (pc' := bif decide ((nI (600)) ≤ (nI (k))) then 20 else 13) (L' := [some (.ref 1), some (.int (nI (k))), some (.int (v))]) (st' := []) (w' := cz_w (sz, ord, asked, adv, cand, stl, num, thg) q u b) rfl ?_
  refine ez_ifF (nI_ge (by omega) (by omega)) ?_
  refine ez_go ez_h33 4 (pc' := 19) (L' := [some (.ref 1), some (.int (nI (k))), some (.int (v))]) (st' := [.int (v), .int (nI (k)), .ref 8]) (w' := cz_w (sz, ord, asked, adv, cand, stl, num, thg) q u b) rfl ?_
  refine ez_ast ez_h33 rfl rfl (k) rfl (by omega) (by omega) ?_
  exact ez_vret rfl ez_h33 rfl rfl h
def pf_settle (x : Nat) (y : Nat) (sz : Int32) (ord : Int32) (asked : Int64) (adv : Int32) (cand : Int32) (stl : Int32) (num : Nat → Int32) (thg : Nat → Int32) : cz_Row := if (num (x)) = sz then (if (num (y)) = sz then (if cand = (nI (x)) then (if ((upd num (x) stl) (x)) = sz then ((sz, ord, asked, adv, (nI (x)), (stl + (nI (1))), (upd num (x) stl), thg)) else (if ((upd num (x) stl) (y)) = sz then ((sz, ord, asked, adv, (nI (y)), (stl + (nI (1))), (upd num (x) stl), thg)) else ((sz, ord, asked, adv, cand, (stl + (nI (1))), (upd num (x) stl), thg)))) else (if ((upd num (y) stl) (x)) = sz then ((sz, ord, asked, adv, (nI (x)), (stl + (nI (1))), (upd num (y) stl), thg)) else (if ((upd num (y) stl) (y)) = sz then ((sz, ord, asked, adv, (nI (y)), (stl + (nI (1))), (upd num (y) stl), thg)) else ((sz, ord, asked, adv, cand, (stl + (nI (1))), (upd num (y) stl), thg))))) else (if (num (x)) = sz then ((sz, ord, asked, adv, (nI (x)), stl, num, thg)) else (if (num (y)) = sz then ((sz, ord, asked, adv, (nI (y)), stl, num, thg)) else ((sz, ord, asked, adv, cand, stl, num, thg))))) else (if (num (x)) = sz then ((sz, ord, asked, adv, (nI (x)), stl, num, thg)) else (if (num (y)) = sz then ((sz, ord, asked, adv, (nI (y)), stl, num, thg)) else ((sz, ord, asked, adv, cand, stl, num, thg))))
set_option maxRecDepth 20000 in
theorem lf_settle (x : Nat) (y : Nat) (hx : x < 600) (hy : y < 600) (sz : Int32) (ord : Int32) (asked : Int64) (adv : Int32) (cand : Int32) (stl : Int32) (num : Nat → Int32) (thg : Nat → Int32) (q : cz_Qk) (u : cz_Rn) (b : cz_Bn) {post : Option Value → ez_W → Prop} (h : post none (cz_w (pf_settle x y sz ord asked adv cand stl num thg) q u b)) : ez_m 41 [.ref 1, .int (nI (x)), .int (nI (y))] (cz_w (sz, ord, asked, adv, cand, stl, num, thg) q u b) post := by
  refine ez_m.of (L := [some (.ref 1), some (.int (nI (x))), some (.int (nI (y))), none]) rfl rfl rfl ?_
  unfold pf_settle at h
  refine ez_go ez_h41 2 (pc' := bif decide ((nI (x)) < 0) then 26 else 4) (L' := [some (.ref 1), some (.int (nI (x))), some (.int (nI (y))), none]) (st' := []) (w' := cz_w (sz, ord, asked, adv, cand, stl, num, thg) q u b) rfl ?_
  refine ez_ifF (nI_pos (by omega)) ?_
  refine ez_go ez_h41 5 (pc' := bif decide ((nI (600)) ≤ (nI (x))) then 26 else 13) (L' := [some (.ref 1), some (.int (nI (x))), some (.int (nI (y))), none]) (st' := []) (w' := cz_w (sz, ord, asked, adv, cand, stl, num, thg) q u b) rfl ?_
  refine ez_ifF (nI_ge (by omega) (by omega)) ?_
  refine ez_go ez_h41 2 (pc' := bif decide ((nI (y)) < 0) then 26 else 17) (L' := [some (.ref 1), some (.int (nI (x))), some (.int (nI (y))), none]) (st' := []) (w' := cz_w (sz, ord, asked, adv, cand, stl, num, thg) q u b) rfl ?_
  refine ez_ifF (nI_pos (by omega)) ?_
  refine ez_go ez_h41 5 (pc' := bif decide ((nI (y)) < (nI (600))) then 27 else 26) (L' := [some (.ref 1), some (.int (nI (x))), some (.int (nI (y))), none]) (st' := []) (w' := cz_w (sz, ord, asked, adv, cand, stl, num, thg) q u b) rfl ?_
  refine ez_ifT (nI_lt (by omega) (by omega)) ?_
  refine ez_go ez_h41 6 (pc' := 37) (L' := [some (.ref 1), some (.int (nI (x))), some (.int (nI (y))), some (.int (sz))]) (st' := [.int (nI (x)), .ref 7]) (w' := cz_w (sz, ord, asked, adv, cand, stl, num, thg) q u b) rfl ?_
  refine ez_ald ez_h41 rfl rfl (x) rfl (by omega) (by omega) ?_
  refine ez_go ez_h41 2 (pc' := bif decide (¬ (num (x)) = sz) then 84 else 42) (L' := [some (.ref 1), some (.int (nI (x))), some (.int (nI (y))), some (.int (sz))]) (st' := []) (w' := cz_w (sz, ord, asked, adv, cand, stl, num, thg) q u b) rfl ?_
  refine ez_if (fun c1 => ?_) (fun c1 => ?_)
  · rw [if_neg c1] at h
    refine ez_go ez_h41 3 (pc' := 89) (L' := [some (.ref 1), some (.int (nI (x))), some (.int (nI (y))), some (.int (sz))]) (st' := [.int (nI (x)), .ref 7]) (w' := cz_w (sz, ord, asked, adv, cand, stl, num, thg) q u b) rfl ?_
    refine ez_ald ez_h41 rfl rfl (x) rfl (by omega) (by omega) ?_
    refine ez_go ez_h41 2 (pc' := bif decide (¬ (num (x)) = sz) then 102 else 94) (L' := [some (.ref 1), some (.int (nI (x))), some (.int (nI (y))), some (.int (sz))]) (st' := []) (w' := cz_w (sz, ord, asked, adv, cand, stl, num, thg) q u b) rfl ?_
    refine ez_if (fun c2 => ?_) (fun c2 => ?_)
    · rw [if_neg c2] at h
      refine ez_go ez_h41 3 (pc' := 107) (L' := [some (.ref 1), some (.int (nI (x))), some (.int (nI (y))), some (.int (sz))]) (st' := [.int (nI (y)), .ref 7]) (w' := cz_w (sz, ord, asked, adv, cand, stl, num, thg) q u b) rfl ?_
      refine ez_ald ez_h41 rfl rfl (y) rfl (by omega) (by omega) ?_
      refine ez_go ez_h41 2 (pc' := bif decide (¬ (num (y)) = sz) then 117 else 112) (L' := [some (.ref 1), some (.int (nI (x))), some (.int (nI (y))), some (.int (sz))]) (st' := []) (w' := cz_w (sz, ord, asked, adv, cand, stl, num, thg) q u b) rfl ?_
      refine ez_if (fun c3 => ?_) (fun c3 => ?_)
      · rw [if_neg c3] at h
        exact ez_vret rfl ez_h41 rfl rfl h
      · rw [if_pos (Decidable.not_not.mp c3)] at h
        refine ez_go ez_h41 3 (pc' := 117) (L' := [some (.ref 1), some (.int (nI (x))), some (.int (nI (y))), some (.int (sz))]) (st' := []) (w' := cz_w (sz, ord, asked, adv, (nI (y)), stl, num, thg) q u b) rfl ?_
        exact ez_vret rfl ez_h41 rfl rfl h
    · rw [if_pos (Decidable.not_not.mp c2)] at h
      refine ez_go ez_h41 4 (pc' := 117) (L' := [some (.ref 1), some (.int (nI (x))), some (.int (nI (y))), some (.int (sz))]) (st' := []) (w' := cz_w (sz, ord, asked, adv, (nI (x)), stl, num, thg) q u b) rfl ?_
      exact ez_vret rfl ez_h41 rfl rfl h
  · rw [if_pos (Decidable.not_not.mp c1)] at h
    refine ez_go ez_h41 3 (pc' := 47) (L' := [some (.ref 1), some (.int (nI (x))), some (.int (nI (y))), some (.int (sz))]) (st' := [.int (nI (y)), .ref 7]) (w' := cz_w (sz, ord, asked, adv, cand, stl, num, thg) q u b) rfl ?_
    refine ez_ald ez_h41 rfl rfl (y) rfl (by omega) (by omega) ?_
    refine ez_go ez_h41 2 (pc' := bif decide (¬ (num (y)) = sz) then 84 else 52) (L' := [some (.ref 1), some (.int (nI (x))), some (.int (nI (y))), some (.int (sz))]) (st' := []) (w' := cz_w (sz, ord, asked, adv, cand, stl, num, thg) q u b) rfl ?_
    refine ez_if (fun c4 => ?_) (fun c4 => ?_)
    · rw [if_neg c4] at h
      refine ez_go ez_h41 3 (pc' := 89) (L' := [some (.ref 1), some (.int (nI (x))), some (.int (nI (y))), some (.int (sz))]) (st' := [.int (nI (x)), .ref 7]) (w' := cz_w (sz, ord, asked, adv, cand, stl, num, thg) q u b) rfl ?_
      refine ez_ald ez_h41 rfl rfl (x) rfl (by omega) (by omega) ?_
      refine ez_go ez_h41 2 (pc' := bif decide (¬ (num (x)) = sz) then 102 else 94) (L' := [some (.ref 1), some (.int (nI (x))), some (.int (nI (y))), some (.int (sz))]) (st' := []) (w' := cz_w (sz, ord, asked, adv, cand, stl, num, thg) q u b) rfl ?_
      refine ez_if (fun c5 => ?_) (fun c5 => ?_)
      · rw [if_neg c5] at h
        refine ez_go ez_h41 3 (pc' := 107) (L' := [some (.ref 1), some (.int (nI (x))), some (.int (nI (y))), some (.int (sz))]) (st' := [.int (nI (y)), .ref 7]) (w' := cz_w (sz, ord, asked, adv, cand, stl, num, thg) q u b) rfl ?_
        refine ez_ald ez_h41 rfl rfl (y) rfl (by omega) (by omega) ?_
        refine ez_go ez_h41 2 (pc' := bif decide (¬ (num (y)) = sz) then 117 else 112) (L' := [some (.ref 1), some (.int (nI (x))), some (.int (nI (y))), some (.int (sz))]) (st' := []) (w' := cz_w (sz, ord, asked, adv, cand, stl, num, thg) q u b) rfl ?_
        refine ez_if (fun c6 => ?_) (fun c6 => ?_)
        · rw [if_neg c6] at h
          exact ez_vret rfl ez_h41 rfl rfl h
        · rw [if_pos (Decidable.not_not.mp c6)] at h
          refine ez_go ez_h41 3 (pc' := 117) (L' := [some (.ref 1), some (.int (nI (x))), some (.int (nI (y))), some (.int (sz))]) (st' := []) (w' := cz_w (sz, ord, asked, adv, (nI (y)), stl, num, thg) q u b) rfl ?_
          exact ez_vret rfl ez_h41 rfl rfl h
      · rw [if_pos (Decidable.not_not.mp c5)] at h
        refine ez_go ez_h41 4 (pc' := 117) (L' := [some (.ref 1), some (.int (nI (x))), some (.int (nI (y))), some (.int (sz))]) (st' := []) (w' := cz_w (sz, ord, asked, adv, (nI (x)), stl, num, thg) q u b) rfl ?_
        exact ez_vret rfl ez_h41 rfl rfl h
    · rw [if_pos (Decidable.not_not.mp c4)] at h
      refine ez_go ez_h41 6 (pc' := bif decide (¬ cand = (nI (x))) then 68 else 64) (L' := [some (.ref 1), some (.int (nI (x))), some (.int (nI (y))), some (.int (sz))]) (st' := [.ref 7]) (w' := cz_w (sz, ord, asked, adv, cand, stl, num, thg) q u b) rfl ?_
      refine ez_if (fun c7 => ?_) (fun c7 => ?_)
      · rw [if_neg c7] at h
        refine ez_go ez_h41 3 (pc' := 73) (L' := [some (.ref 1), some (.int (nI (x))), some (.int (nI (y))), some (.int (sz))]) (st' := [.int (stl), .int (nI (y)), .ref 7]) (w' := cz_w (sz, ord, asked, adv, cand, stl, num, thg) q u b) rfl ?_
        refine ez_ast ez_h41 rfl rfl (y) rfl (by omega) (by omega) ?_
        refine ez_go ez_h41 9 (pc' := 89) (L' := [some (.ref 1), some (.int (nI (x))), some (.int (nI (y))), some (.int (sz))]) (st' := [.int (nI (x)), .ref 7]) (w' := cz_w (sz, ord, asked, adv, cand, (stl + (nI (1))), (upd num (y) stl), thg) q u b) rfl ?_
        refine ez_ald ez_h41 rfl rfl (x) rfl (by omega) (by omega) ?_
        refine ez_go ez_h41 2 (pc' := bif decide (¬ ((upd num (y) stl) (x)) = sz) then 102 else 94) (L' := [some (.ref 1), some (.int (nI (x))), some (.int (nI (y))), some (.int (sz))]) (st' := []) (w' := cz_w (sz, ord, asked, adv, cand, (stl + (nI (1))), (upd num (y) stl), thg) q u b) rfl ?_
        refine ez_if (fun c8 => ?_) (fun c8 => ?_)
        · rw [if_neg c8] at h
          refine ez_go ez_h41 3 (pc' := 107) (L' := [some (.ref 1), some (.int (nI (x))), some (.int (nI (y))), some (.int (sz))]) (st' := [.int (nI (y)), .ref 7]) (w' := cz_w (sz, ord, asked, adv, cand, (stl + (nI (1))), (upd num (y) stl), thg) q u b) rfl ?_
          refine ez_ald ez_h41 rfl rfl (y) rfl (by omega) (by omega) ?_
          refine ez_go ez_h41 2 (pc' := bif decide (¬ ((upd num (y) stl) (y)) = sz) then 117 else 112) (L' := [some (.ref 1), some (.int (nI (x))), some (.int (nI (y))), some (.int (sz))]) (st' := []) (w' := cz_w (sz, ord, asked, adv, cand, (stl + (nI (1))), (upd num (y) stl), thg) q u b) rfl ?_
          refine ez_if (fun c9 => ?_) (fun c9 => ?_)
          · rw [if_neg c9] at h
            exact ez_vret rfl ez_h41 rfl rfl h
          · rw [if_pos (Decidable.not_not.mp c9)] at h
            refine ez_go ez_h41 3 (pc' := 117) (L' := [some (.ref 1), some (.int (nI (x))), some (.int (nI (y))), some (.int (sz))]) (st' := []) (w' := cz_w (sz, ord, asked, adv, (nI (y)), (stl + (nI (1))), (upd num (y) stl), thg) q u b) rfl ?_
            exact ez_vret rfl ez_h41 rfl rfl h
        · rw [if_pos (Decidable.not_not.mp c8)] at h
          refine ez_go ez_h41 4 (pc' := 117) (L' := [some (.ref 1), some (.int (nI (x))), some (.int (nI (y))), some (.int (sz))]) (st' := []) (w' := cz_w (sz, ord, asked, adv, (nI (x)), (stl + (nI (1))), (upd num (y) stl), thg) q u b) rfl ?_
          exact ez_vret rfl ez_h41 rfl rfl h
      · rw [if_pos (Decidable.not_not.mp c7)] at h
        refine ez_go ez_h41 4 (pc' := 73) (L' := [some (.ref 1), some (.int (nI (x))), some (.int (nI (y))), some (.int (sz))]) (st' := [.int (stl), .int (nI (x)), .ref 7]) (w' := cz_w (sz, ord, asked, adv, cand, stl, num, thg) q u b) rfl ?_
        refine ez_ast ez_h41 rfl rfl (x) rfl (by omega) (by omega) ?_
        refine ez_go ez_h41 9 (pc' := 89) (L' := [some (.ref 1), some (.int (nI (x))), some (.int (nI (y))), some (.int (sz))]) (st' := [.int (nI (x)), .ref 7]) (w' := cz_w (sz, ord, asked, adv, cand, (stl + (nI (1))), (upd num (x) stl), thg) q u b) rfl ?_
        refine ez_ald ez_h41 rfl rfl (x) rfl (by omega) (by omega) ?_
        refine ez_go ez_h41 2 (pc' := bif decide (¬ ((upd num (x) stl) (x)) = sz) then 102 else 94) (L' := [some (.ref 1), some (.int (nI (x))), some (.int (nI (y))), some (.int (sz))]) (st' := []) (w' := cz_w (sz, ord, asked, adv, cand, (stl + (nI (1))), (upd num (x) stl), thg) q u b) rfl ?_
        refine ez_if (fun c10 => ?_) (fun c10 => ?_)
        · rw [if_neg c10] at h
          refine ez_go ez_h41 3 (pc' := 107) (L' := [some (.ref 1), some (.int (nI (x))), some (.int (nI (y))), some (.int (sz))]) (st' := [.int (nI (y)), .ref 7]) (w' := cz_w (sz, ord, asked, adv, cand, (stl + (nI (1))), (upd num (x) stl), thg) q u b) rfl ?_
          refine ez_ald ez_h41 rfl rfl (y) rfl (by omega) (by omega) ?_
          refine ez_go ez_h41 2 (pc' := bif decide (¬ ((upd num (x) stl) (y)) = sz) then 117 else 112) (L' := [some (.ref 1), some (.int (nI (x))), some (.int (nI (y))), some (.int (sz))]) (st' := []) (w' := cz_w (sz, ord, asked, adv, cand, (stl + (nI (1))), (upd num (x) stl), thg) q u b) rfl ?_
          refine ez_if (fun c11 => ?_) (fun c11 => ?_)
          · rw [if_neg c11] at h
            exact ez_vret rfl ez_h41 rfl rfl h
          · rw [if_pos (Decidable.not_not.mp c11)] at h
            refine ez_go ez_h41 3 (pc' := 117) (L' := [some (.ref 1), some (.int (nI (x))), some (.int (nI (y))), some (.int (sz))]) (st' := []) (w' := cz_w (sz, ord, asked, adv, (nI (y)), (stl + (nI (1))), (upd num (x) stl), thg) q u b) rfl ?_
            exact ez_vret rfl ez_h41 rfl rfl h
        · rw [if_pos (Decidable.not_not.mp c10)] at h
          refine ez_go ez_h41 4 (pc' := 117) (L' := [some (.ref 1), some (.int (nI (x))), some (.int (nI (y))), some (.int (sz))]) (st' := []) (w' := cz_w (sz, ord, asked, adv, (nI (x)), (stl + (nI (1))), (upd num (x) stl), thg) q u b) rfl ?_
          exact ez_vret rfl ez_h41 rfl rfl h
/-- the KEY of a number in an order -/
def zk_key (o : Int32) (x : Int64) : Int64 := if o = 1 then -x else if o = 2 then x &&& 255 else if o = 3 then (if 0 ≤ lg_cmp x 0 then x else -x) else x
set_option maxRecDepth 20000 in
theorem lf_keyFor (v : Int64) (sz : Int32) (ord : Int32) (asked : Int64) (adv : Int32) (cand : Int32) (stl : Int32) (num : Nat → Int32) (thg : Nat → Int32) (q : cz_Qk) (u : cz_Rn) (b : cz_Bn) {post : Option Value → ez_W → Prop} (ho : ord = 0 ∨ ord = 1 ∨ ord = 2 ∨ ord = 3) (h : post (some (.long (zk_key ord v))) (cz_w (sz, ord, asked, adv, cand, stl, num, thg) q u b)) : ez_m 37 [.ref 1, .long v] (cz_w (sz, ord, asked, adv, cand, stl, num, thg) q u b) post := by
  refine ez_m.of (L := [some (.ref 1), some (.long v), none]) rfl rfl rfl ?_
  rcases ho with rfl | rfl | rfl | rfl
  · refine ez_go ez_h37 3 (pc' := 54) (L' := [some (.ref 1), some (.long v), none]) (st' := []) (w' := cz_w (sz, 0, asked, adv, cand, stl, num, thg) q u b) rfl ?_
    refine ez_go ez_h37 1 (pc' := 55) (L' := [some (.ref 1), some (.long v), none]) (st' := [.long v]) (w' := cz_w (sz, 0, asked, adv, cand, stl, num, thg) q u b) rfl ?_
    exact ez_lret rfl ez_h37 rfl rfl h
  · refine ez_go ez_h37 3 (pc' := 32) (L' := [some (.ref 1), some (.long v), none]) (st' := []) (w' := cz_w (sz, 1, asked, adv, cand, stl, num, thg) q u b) rfl ?_
    refine ez_go ez_h37 2 (pc' := 34) (L' := [some (.ref 1), some (.long v), none]) (st' := [.long (-v)]) (w' := cz_w (sz, 1, asked, adv, cand, stl, num, thg) q u b) rfl ?_
    exact ez_lret rfl ez_h37 rfl rfl h
  · refine ez_go ez_h37 3 (pc' := 35) (L' := [some (.ref 1), some (.long v), none]) (st' := []) (w' := cz_w (sz, 2, asked, adv, cand, stl, num, thg) q u b) rfl ?_
    refine ez_go ez_h37 3 (pc' := 40) (L' := [some (.ref 1), some (.long v), none]) (st' := [.long (v &&& 255)]) (w' := cz_w (sz, 2, asked, adv, cand, stl, num, thg) q u b) rfl ?_
    exact ez_lret rfl ez_h37 rfl rfl h
  · refine ez_go ez_h37 3 (pc' := 41) (L' := [some (.ref 1), some (.long v), none]) (st' := []) (w' := cz_w (sz, 3, asked, adv, cand, stl, num, thg) q u b) rfl ?_
    refine ez_go ez_h37 4 (pc' := bif decide (0 ≤ lg_cmp v 0) then 52 else 47) (L' := [some (.ref 1), some (.long v), none]) (st' := []) (w' := cz_w (sz, 3, asked, adv, cand, stl, num, thg) q u b) rfl ?_
    refine ez_if (fun c1 => ?_) (fun c1 => ?_)
    · refine ez_go ez_h37 1 (pc' := 53) (L' := [some (.ref 1), some (.long v), none]) (st' := [.long v]) (w' := cz_w (sz, 3, asked, adv, cand, stl, num, thg) q u b) rfl ?_
      refine ez_lret rfl ez_h37 rfl rfl ?_
      have e : zk_key 3 v = v := by show (if 0 ≤ lg_cmp v 0 then v else -v) = v; rw [if_pos c1]
      rw [e] at h; exact h
    · refine ez_go ez_h37 3 (pc' := 53) (L' := [some (.ref 1), some (.long v), none]) (st' := [.long (-v)]) (w' := cz_w (sz, 3, asked, adv, cand, stl, num, thg) q u b) rfl ?_
      refine ez_lret rfl ez_h37 rfl rfl ?_
      have e : zk_key 3 v = -v := by show (if 0 ≤ lg_cmp v 0 then v else -v) = -v; rw [if_neg c1]
      rw [e] at h; exact h
def pf_lessN (x y : Nat) (sz : Int32) (ord : Int32) (asked : Int64) (cand : Int32) (stl : Int32) (num : Nat → Int32) (thg : Nat → Int32) : Option Value × cz_Row := if 0 ≤ (lg_cmp (zk_key ord ((num (x)).toInt64)) (zk_key ord ((num (y)).toInt64))) then (some (.int (nI (0))), (sz, ord, (asked + 1), 0, cand, stl, num, thg)) else (some (.int (nI (1))), (sz, ord, (asked + 1), 0, cand, stl, num, thg))
set_option maxRecDepth 20000 in
theorem lf_lessN (x y : Nat) (hx : x < 600) (hy : y < 600) (sz : Int32) (ord : Int32) (asked : Int64) (cand : Int32) (stl : Int32) (num : Nat → Int32) (thg : Nat → Int32) (q : cz_Qk) (u : cz_Rn) (b : cz_Bn) (ho : ord = 0 ∨ ord = 1 ∨ ord = 2 ∨ ord = 3) {post : Option Value → ez_W → Prop} (h : post (pf_lessN x y sz ord asked cand stl num thg).1 (cz_w (pf_lessN x y sz ord asked cand stl num thg).2 q u b)) : ez_m 38 [.ref 1, .int (nI x), .int (nI y)] (cz_w (sz, ord, asked, 0, cand, stl, num, thg) q u b) post := by
  refine ez_m.of (L := [some (.ref 1), some (.int (nI x)), some (.int (nI y))]) rfl rfl rfl ?_
  unfold pf_lessN at h
  refine ez_go ez_h38 9 (pc' := bif decide (0 = 0) then 42 else 17) (L' := [some (.ref 1), some (.int (nI (x))), some (.int (nI (y)))]) (st' := []) (w' := cz_w (sz, ord, (asked + 1), 0, cand, stl, num, thg) q u b) rfl ?_
  refine ez_ifT (by decide) ?_
  refine ez_go ez_h38 3 (pc' := 45) (L' := [some (.ref 1), some (.int (nI (x))), some (.int (nI (y)))]) (st' := [.int (nI (x)), .ref 1, .ref 1]) (w' := cz_w (sz, ord, (asked + 1), 0, cand, stl, num, thg) q u b) rfl ?_
  refine ez_cl ez_h38 rfl rfl ?_
  refine lf_numberOf x (by omega) sz ord (asked + 1) 0 cand stl num thg q u b ?_
  refine ez_go ez_h38 1 (pc' := 49) (L' := [some (.ref 1), some (.int (nI (x))), some (.int (nI (y)))]) (st' := [.long ((num (x)).toInt64), .ref 1]) (w' := cz_w (sz, ord, (asked + 1), 0, cand, stl, num, thg) q u b) rfl ?_
  refine ez_cl ez_h38 rfl rfl ?_
  refine lf_keyFor ((num (x)).toInt64) sz ord (asked + 1) 0 cand stl num thg q u b (by assumption) ?_
  refine ez_go ez_h38 3 (pc' := 55) (L' := [some (.ref 1), some (.int (nI (x))), some (.int (nI (y)))]) (st' := [.int (nI (y)), .ref 1, .ref 1, .long (zk_key ord ((num (x)).toInt64))]) (w' := cz_w (sz, ord, (asked + 1), 0, cand, stl, num, thg) q u b) rfl ?_
  refine ez_cl ez_h38 rfl rfl ?_
  refine lf_numberOf y (by omega) sz ord (asked + 1) 0 cand stl num thg q u b ?_
  refine ez_go ez_h38 1 (pc' := 59) (L' := [some (.ref 1), some (.int (nI (x))), some (.int (nI (y)))]) (st' := [.long ((num (y)).toInt64), .ref 1, .long (zk_key ord ((num (x)).toInt64))]) (w' := cz_w (sz, ord, (asked + 1), 0, cand, stl, num, thg) q u b) rfl ?_
  refine ez_cl ez_h38 rfl rfl ?_
  refine lf_keyFor ((num (y)).toInt64) sz ord (asked + 1) 0 cand stl num thg q u b (by assumption) ?_
  refine ez_go ez_h38 2 (pc' := bif decide (0 ≤ (lg_cmp (zk_key ord ((num (x)).toInt64)) (zk_key ord ((num (y)).toInt64)))) then 70 else 66) (L' := [some (.ref 1), some (.int (nI (x))), some (.int (nI (y)))]) (st' := []) (w' := cz_w (sz, ord, (asked + 1), 0, cand, stl, num, thg) q u b) rfl ?_
  refine ez_if (fun c1 => ?_) (fun c1 => ?_)
  · rw [if_pos c1] at h
    refine ez_go ez_h38 1 (pc' := 71) (L' := [some (.ref 1), some (.int (nI (x))), some (.int (nI (y)))]) (st' := [.int (nI (0))]) (w' := cz_w (sz, ord, (asked + 1), 0, cand, stl, num, thg) q u b) rfl ?_
    exact ez_zret rfl ez_h38 rfl rfl (by first | exact Or.inl rfl | exact Or.inr rfl) h
  · rw [if_neg c1] at h
    refine ez_go ez_h38 2 (pc' := 71) (L' := [some (.ref 1), some (.int (nI (x))), some (.int (nI (y)))]) (st' := [.int (nI (1))]) (w' := cz_w (sz, ord, (asked + 1), 0, cand, stl, num, thg) q u b) rfl ?_
    exact ez_zret rfl ez_h38 rfl rfl (by first | exact Or.inl rfl | exact Or.inr rfl) h
def pf_lessA (x y : Nat) (sz : Int32) (ord : Int32) (asked : Int64) (cand : Int32) (stl : Int32) (num : Nat → Int32) (thg : Nat → Int32) : Option Value × cz_Row := if (((pf_settle x y sz ord (asked + 1) 1 cand stl num thg).2.2.2.2.2.2.1) (y)) ≤ (((pf_settle x y sz ord (asked + 1) 1 cand stl num thg).2.2.2.2.2.2.1) (x)) then (some (.int (nI (0))), ((pf_settle x y sz ord (asked + 1) 1 cand stl num thg).1, (pf_settle x y sz ord (asked + 1) 1 cand stl num thg).2.1, (pf_settle x y sz ord (asked + 1) 1 cand stl num thg).2.2.1, (pf_settle x y sz ord (asked + 1) 1 cand stl num thg).2.2.2.1, (pf_settle x y sz ord (asked + 1) 1 cand stl num thg).2.2.2.2.1, (pf_settle x y sz ord (asked + 1) 1 cand stl num thg).2.2.2.2.2.1, (pf_settle x y sz ord (asked + 1) 1 cand stl num thg).2.2.2.2.2.2.1, (pf_settle x y sz ord (asked + 1) 1 cand stl num thg).2.2.2.2.2.2.2)) else (some (.int (nI (1))), ((pf_settle x y sz ord (asked + 1) 1 cand stl num thg).1, (pf_settle x y sz ord (asked + 1) 1 cand stl num thg).2.1, (pf_settle x y sz ord (asked + 1) 1 cand stl num thg).2.2.1, (pf_settle x y sz ord (asked + 1) 1 cand stl num thg).2.2.2.1, (pf_settle x y sz ord (asked + 1) 1 cand stl num thg).2.2.2.2.1, (pf_settle x y sz ord (asked + 1) 1 cand stl num thg).2.2.2.2.2.1, (pf_settle x y sz ord (asked + 1) 1 cand stl num thg).2.2.2.2.2.2.1, (pf_settle x y sz ord (asked + 1) 1 cand stl num thg).2.2.2.2.2.2.2))
set_option maxRecDepth 20000 in
theorem lf_lessA (x y : Nat) (hx : x < 600) (hy : y < 600) (sz : Int32) (ord : Int32) (asked : Int64) (cand : Int32) (stl : Int32) (num : Nat → Int32) (thg : Nat → Int32) (q : cz_Qk) (u : cz_Rn) (b : cz_Bn) {post : Option Value → ez_W → Prop} (h : post (pf_lessA x y sz ord asked cand stl num thg).1 (cz_w (pf_lessA x y sz ord asked cand stl num thg).2 q u b)) : ez_m 38 [.ref 1, .int (nI x), .int (nI y)] (cz_w (sz, ord, asked, 1, cand, stl, num, thg) q u b) post := by
  refine ez_m.of (L := [some (.ref 1), some (.int (nI x)), some (.int (nI y))]) rfl rfl rfl ?_
  unfold pf_lessA at h
  refine ez_go ez_h38 9 (pc' := bif decide (1 = 0) then 42 else 17) (L' := [some (.ref 1), some (.int (nI (x))), some (.int (nI (y)))]) (st' := []) (w' := cz_w (sz, ord, (asked + 1), 1, cand, stl, num, thg) q u b) rfl ?_
  refine ez_ifF (by decide) ?_
  refine ez_go ez_h38 3 (pc' := 20) (L' := [some (.ref 1), some (.int (nI (x))), some (.int (nI (y)))]) (st' := [.int (nI (y)), .int (nI (x)), .ref 1]) (w' := cz_w (sz, ord, (asked + 1), 1, cand, stl, num, thg) q u b) rfl ?_
  refine ez_cl ez_h38 rfl rfl ?_
  refine lf_settle x y (by omega) (by omega) sz ord (asked + 1) 1 cand stl num thg q u b ?_
  refine ez_go ez_h38 2 (pc' := 25) (L' := [some (.ref 1), some (.int (nI (x))), some (.int (nI (y)))]) (st' := [.int (nI (x)), .ref 1]) (w' := cz_w ((pf_settle x y sz ord (asked + 1) 1 cand stl num thg).1, (pf_settle x y sz ord (asked + 1) 1 cand stl num thg).2.1, (pf_settle x y sz ord (asked + 1) 1 cand stl num thg).2.2.1, (pf_settle x y sz ord (asked + 1) 1 cand stl num thg).2.2.2.1, (pf_settle x y sz ord (asked + 1) 1 cand stl num thg).2.2.2.2.1, (pf_settle x y sz ord (asked + 1) 1 cand stl num thg).2.2.2.2.2.1, (pf_settle x y sz ord (asked + 1) 1 cand stl num thg).2.2.2.2.2.2.1, (pf_settle x y sz ord (asked + 1) 1 cand stl num thg).2.2.2.2.2.2.2) q u b) rfl ?_
  refine ez_cl ez_h38 rfl rfl ?_
  refine lf_numberOf x (by omega) (pf_settle x y sz ord (asked + 1) 1 cand stl num thg).1 (pf_settle x y sz ord (asked + 1) 1 cand stl num thg).2.1 (pf_settle x y sz ord (asked + 1) 1 cand stl num thg).2.2.1 (pf_settle x y sz ord (asked + 1) 1 cand stl num thg).2.2.2.1 (pf_settle x y sz ord (asked + 1) 1 cand stl num thg).2.2.2.2.1 (pf_settle x y sz ord (asked + 1) 1 cand stl num thg).2.2.2.2.2.1 (pf_settle x y sz ord (asked + 1) 1 cand stl num thg).2.2.2.2.2.2.1 (pf_settle x y sz ord (asked + 1) 1 cand stl num thg).2.2.2.2.2.2.2 q u b ?_
  refine ez_go ez_h38 2 (pc' := 30) (L' := [some (.ref 1), some (.int (nI (x))), some (.int (nI (y)))]) (st' := [.int (nI (y)), .ref 1, .int (((pf_settle x y sz ord (asked + 1) 1 cand stl num thg).2.2.2.2.2.2.1) (x))]) (w' := cz_w ((pf_settle x y sz ord (asked + 1) 1 cand stl num thg).1, (pf_settle x y sz ord (asked + 1) 1 cand stl num thg).2.1, (pf_settle x y sz ord (asked + 1) 1 cand stl num thg).2.2.1, (pf_settle x y sz ord (asked + 1) 1 cand stl num thg).2.2.2.1, (pf_settle x y sz ord (asked + 1) 1 cand stl num thg).2.2.2.2.1, (pf_settle x y sz ord (asked + 1) 1 cand stl num thg).2.2.2.2.2.1, (pf_settle x y sz ord (asked + 1) 1 cand stl num thg).2.2.2.2.2.2.1, (pf_settle x y sz ord (asked + 1) 1 cand stl num thg).2.2.2.2.2.2.2) q u b) rfl ?_
  refine ez_cl ez_h38 rfl rfl ?_
  refine lf_numberOf y (by omega) (pf_settle x y sz ord (asked + 1) 1 cand stl num thg).1 (pf_settle x y sz ord (asked + 1) 1 cand stl num thg).2.1 (pf_settle x y sz ord (asked + 1) 1 cand stl num thg).2.2.1 (pf_settle x y sz ord (asked + 1) 1 cand stl num thg).2.2.2.1 (pf_settle x y sz ord (asked + 1) 1 cand stl num thg).2.2.2.2.1 (pf_settle x y sz ord (asked + 1) 1 cand stl num thg).2.2.2.2.2.1 (pf_settle x y sz ord (asked + 1) 1 cand stl num thg).2.2.2.2.2.2.1 (pf_settle x y sz ord (asked + 1) 1 cand stl num thg).2.2.2.2.2.2.2 q u b ?_
  refine ez_go ez_h38 1 (pc' := bif decide ((((pf_settle x y sz ord (asked + 1) 1 cand stl num thg).2.2.2.2.2.2.1) (y)) ≤ (((pf_settle x y sz ord (asked + 1) 1 cand stl num thg).2.2.2.2.2.2.1) (x))) then 40 else 36) (L' := [some (.ref 1), some (.int (nI (x))), some (.int (nI (y)))]) (st' := []) (w' := cz_w ((pf_settle x y sz ord (asked + 1) 1 cand stl num thg).1, (pf_settle x y sz ord (asked + 1) 1 cand stl num thg).2.1, (pf_settle x y sz ord (asked + 1) 1 cand stl num thg).2.2.1, (pf_settle x y sz ord (asked + 1) 1 cand stl num thg).2.2.2.1, (pf_settle x y sz ord (asked + 1) 1 cand stl num thg).2.2.2.2.1, (pf_settle x y sz ord (asked + 1) 1 cand stl num thg).2.2.2.2.2.1, (pf_settle x y sz ord (asked + 1) 1 cand stl num thg).2.2.2.2.2.2.1, (pf_settle x y sz ord (asked + 1) 1 cand stl num thg).2.2.2.2.2.2.2) q u b) rfl ?_
  refine ez_if (fun c1 => ?_) (fun c1 => ?_)
  · rw [if_pos c1] at h
    refine ez_go ez_h38 1 (pc' := 41) (L' := [some (.ref 1), some (.int (nI (x))), some (.int (nI (y)))]) (st' := [.int (nI (0))]) (w' := cz_w ((pf_settle x y sz ord (asked + 1) 1 cand stl num thg).1, (pf_settle x y sz ord (asked + 1) 1 cand stl num thg).2.1, (pf_settle x y sz ord (asked + 1) 1 cand stl num thg).2.2.1, (pf_settle x y sz ord (asked + 1) 1 cand stl num thg).2.2.2.1, (pf_settle x y sz ord (asked + 1) 1 cand stl num thg).2.2.2.2.1, (pf_settle x y sz ord (asked + 1) 1 cand stl num thg).2.2.2.2.2.1, (pf_settle x y sz ord (asked + 1) 1 cand stl num thg).2.2.2.2.2.2.1, (pf_settle x y sz ord (asked + 1) 1 cand stl num thg).2.2.2.2.2.2.2) q u b) rfl ?_
    exact ez_zret rfl ez_h38 rfl rfl (by first | exact Or.inl rfl | exact Or.inr rfl) h
  · rw [if_neg c1] at h
    refine ez_go ez_h38 2 (pc' := 41) (L' := [some (.ref 1), some (.int (nI (x))), some (.int (nI (y)))]) (st' := [.int (nI (1))]) (w' := cz_w ((pf_settle x y sz ord (asked + 1) 1 cand stl num thg).1, (pf_settle x y sz ord (asked + 1) 1 cand stl num thg).2.1, (pf_settle x y sz ord (asked + 1) 1 cand stl num thg).2.2.1, (pf_settle x y sz ord (asked + 1) 1 cand stl num thg).2.2.2.1, (pf_settle x y sz ord (asked + 1) 1 cand stl num thg).2.2.2.2.1, (pf_settle x y sz ord (asked + 1) 1 cand stl num thg).2.2.2.2.2.1, (pf_settle x y sz ord (asked + 1) 1 cand stl num thg).2.2.2.2.2.2.1, (pf_settle x y sz ord (asked + 1) 1 cand stl num thg).2.2.2.2.2.2.2) q u b) rfl ?_
    exact ez_zret rfl ez_h38 rfl rfl (by first | exact Or.inl rfl | exact Or.inr rfl) h
/-! ===== the reference: key and less ===== -/
set_option maxRecDepth 20000 in
theorem lf_mkey (x : Nat) (hx : x < 600) (msz : Int32) (mord : Int32) (madv : Int32) (mcand : Int32) (mnx : Int32) (mcmp : Int64) (mlat : Int64) (mnum : Nat → Int32) (mset : Nat → Int32) (mrow : Nat → Int32) (Q : mz_Q) (U : mz_U) (T : mz_T) {post : Option Value → ez_W → Prop} (ho : mord = 0 ∨ mord = 1 ∨ mord = 2 ∨ mord = 3) (h : post (some (.long (zk_key mord (mnum x).toInt64))) (mz_w (msz, mord, madv, mcand, mnx, mcmp, mlat, mnum, mset, mrow) Q U T)) : ez_m 72 [.ref 0, .int (nI x)] (mz_w (msz, mord, madv, mcand, mnx, mcmp, mlat, mnum, mset, mrow) Q U T) post := by
  refine ez_m.of (L := [some (.ref 0), some (.int (nI x)), none, none]) rfl rfl rfl ?_
  rcases ho with rfl | rfl | rfl | rfl
  · refine ez_go ez_h72 3 (pc' := 5) (L' := [some (.ref 0), some (.int (nI (x))), none, none]) (st' := [.int (nI (x)), .ref 1]) (w' := mz_w (msz, 0, madv, mcand, mnx, mcmp, mlat, mnum, mset, mrow) Q U T) rfl ?_
    refine ez_ald ez_h72 rfl rfl (x) rfl (by omega) (by omega) ?_
    refine ez_go ez_h72 5 (pc' := bif decide (¬ 0 = 0) then 19 else 15) (L' := [some (.ref 0), some (.int (nI (x))), some (.long ((mnum (x)).toInt64)), none]) (st' := []) (w' := mz_w (msz, 0, madv, mcand, mnx, mcmp, mlat, mnum, mset, mrow) Q U T) rfl ?_
    refine ez_ifF (by decide) ?_
    refine ez_go ez_h72 2 (pc' := 60) (L' := [some (.ref 0), some (.int (nI (x))), some (.long ((mnum (x)).toInt64)), none]) (st' := [.long ((mnum (x)).toInt64)]) (w' := mz_w (msz, 0, madv, mcand, mnx, mcmp, mlat, mnum, mset, mrow) Q U T) rfl ?_
    exact ez_lret rfl ez_h72 rfl rfl h
  · refine ez_go ez_h72 3 (pc' := 5) (L' := [some (.ref 0), some (.int (nI (x))), none, none]) (st' := [.int (nI (x)), .ref 1]) (w' := mz_w (msz, 1, madv, mcand, mnx, mcmp, mlat, mnum, mset, mrow) Q U T) rfl ?_
    refine ez_ald ez_h72 rfl rfl (x) rfl (by omega) (by omega) ?_
    refine ez_go ez_h72 5 (pc' := bif decide (¬ 1 = 0) then 19 else 15) (L' := [some (.ref 0), some (.int (nI (x))), some (.long ((mnum (x)).toInt64)), none]) (st' := []) (w' := mz_w (msz, 1, madv, mcand, mnx, mcmp, mlat, mnum, mset, mrow) Q U T) rfl ?_
    refine ez_ifT (by decide) ?_
    refine ez_go ez_h72 4 (pc' := bif decide (¬ 1 = (nI (1))) then 32 else 27) (L' := [some (.ref 0), some (.int (nI (x))), some (.long ((mnum (x)).toInt64)), none]) (st' := []) (w' := mz_w (msz, 1, madv, mcand, mnx, mcmp, mlat, mnum, mset, mrow) Q U T) rfl ?_
    refine ez_ifF (by decide) ?_
    refine ez_go ez_h72 3 (pc' := 60) (L' := [some (.ref 0), some (.int (nI (x))), some (.long ((mnum (x)).toInt64)), none]) (st' := [.long (-((mnum (x)).toInt64))]) (w' := mz_w (msz, 1, madv, mcand, mnx, mcmp, mlat, mnum, mset, mrow) Q U T) rfl ?_
    exact ez_lret rfl ez_h72 rfl rfl h
  · refine ez_go ez_h72 3 (pc' := 5) (L' := [some (.ref 0), some (.int (nI (x))), none, none]) (st' := [.int (nI (x)), .ref 1]) (w' := mz_w (msz, 2, madv, mcand, mnx, mcmp, mlat, mnum, mset, mrow) Q U T) rfl ?_
    refine ez_ald ez_h72 rfl rfl (x) rfl (by omega) (by omega) ?_
    refine ez_go ez_h72 5 (pc' := bif decide (¬ 2 = 0) then 19 else 15) (L' := [some (.ref 0), some (.int (nI (x))), some (.long ((mnum (x)).toInt64)), none]) (st' := []) (w' := mz_w (msz, 2, madv, mcand, mnx, mcmp, mlat, mnum, mset, mrow) Q U T) rfl ?_
    refine ez_ifT (by decide) ?_
    refine ez_go ez_h72 4 (pc' := bif decide (¬ 2 = (nI (1))) then 32 else 27) (L' := [some (.ref 0), some (.int (nI (x))), some (.long ((mnum (x)).toInt64)), none]) (st' := []) (w' := mz_w (msz, 2, madv, mcand, mnx, mcmp, mlat, mnum, mset, mrow) Q U T) rfl ?_
    refine ez_ifT (by decide) ?_
    refine ez_go ez_h72 4 (pc' := bif decide (¬ 2 = (nI (2))) then 48 else 40) (L' := [some (.ref 0), some (.int (nI (x))), some (.long ((mnum (x)).toInt64)), none]) (st' := []) (w' := mz_w (msz, 2, madv, mcand, mnx, mcmp, mlat, mnum, mset, mrow) Q U T) rfl ?_
    refine ez_ifF (by decide) ?_
    refine ez_go ez_h72 4 (pc' := 60) (L' := [some (.ref 0), some (.int (nI (x))), some (.long ((mnum (x)).toInt64)), none]) (st' := [.long (((mnum (x)).toInt64) &&& 255)]) (w' := mz_w (msz, 2, madv, mcand, mnx, mcmp, mlat, mnum, mset, mrow) Q U T) rfl ?_
    exact ez_lret rfl ez_h72 rfl rfl h
  · refine ez_go ez_h72 3 (pc' := 5) (L' := [some (.ref 0), some (.int (nI (x))), none, none]) (st' := [.int (nI (x)), .ref 1]) (w' := mz_w (msz, 3, madv, mcand, mnx, mcmp, mlat, mnum, mset, mrow) Q U T) rfl ?_
    refine ez_ald ez_h72 rfl rfl (x) rfl (by omega) (by omega) ?_
    refine ez_go ez_h72 5 (pc' := bif decide (¬ 3 = 0) then 19 else 15) (L' := [some (.ref 0), some (.int (nI (x))), some (.long ((mnum (x)).toInt64)), none]) (st' := []) (w' := mz_w (msz, 3, madv, mcand, mnx, mcmp, mlat, mnum, mset, mrow) Q U T) rfl ?_
    refine ez_ifT (by decide) ?_
    refine ez_go ez_h72 4 (pc' := bif decide (¬ 3 = (nI (1))) then 32 else 27) (L' := [some (.ref 0), some (.int (nI (x))), some (.long ((mnum (x)).toInt64)), none]) (st' := []) (w' := mz_w (msz, 3, madv, mcand, mnx, mcmp, mlat, mnum, mset, mrow) Q U T) rfl ?_
    refine ez_ifT (by decide) ?_
    refine ez_go ez_h72 4 (pc' := bif decide (¬ 3 = (nI (2))) then 48 else 40) (L' := [some (.ref 0), some (.int (nI (x))), some (.long ((mnum (x)).toInt64)), none]) (st' := []) (w' := mz_w (msz, 3, madv, mcand, mnx, mcmp, mlat, mnum, mset, mrow) Q U T) rfl ?_
    refine ez_ifT (by decide) ?_
    refine ez_go ez_h72 4 (pc' := bif decide (0 ≤ (lg_cmp ((mnum (x)).toInt64) 0)) then 59 else 54) (L' := [some (.ref 0), some (.int (nI (x))), some (.long ((mnum (x)).toInt64)), none]) (st' := []) (w' := mz_w (msz, 3, madv, mcand, mnx, mcmp, mlat, mnum, mset, mrow) Q U T) rfl ?_
    refine ez_if (fun c1 => ?_) (fun c1 => ?_)
    · rw [show zk_key 3 (mnum x).toInt64 = (mnum x).toInt64 by show (if 0 ≤ lg_cmp (mnum x).toInt64 0 then _ else _) = _; rw [if_pos c1]] at h
      refine ez_go ez_h72 1 (pc' := 60) (L' := [some (.ref 0), some (.int (nI (x))), some (.long ((mnum (x)).toInt64)), none]) (st' := [.long ((mnum (x)).toInt64)]) (w' := mz_w (msz, 3, madv, mcand, mnx, mcmp, mlat, mnum, mset, mrow) Q U T) rfl ?_
      exact ez_lret rfl ez_h72 rfl rfl h
    · rw [show zk_key 3 (mnum x).toInt64 = -(mnum x).toInt64 by show (if 0 ≤ lg_cmp (mnum x).toInt64 0 then _ else _) = _; rw [if_neg c1]] at h
      refine ez_go ez_h72 3 (pc' := 60) (L' := [some (.ref 0), some (.int (nI (x))), some (.long ((mnum (x)).toInt64)), none]) (st' := [.long (-((mnum (x)).toInt64))]) (w' := mz_w (msz, 3, madv, mcand, mnx, mcmp, mlat, mnum, mset, mrow) Q U T) rfl ?_
      exact ez_lret rfl ez_h72 rfl rfl h
def pf_mlessN (x y : Nat) (msz : Int32) (mord : Int32) (mcand : Int32) (mnx : Int32) (mcmp : Int64) (mlat : Int64) (mnum : Nat → Int32) (mset : Nat → Int32) (mrow : Nat → Int32) : Option Value × mz_A := if 0 ≤ (lg_cmp (zk_key mord (mnum (x)).toInt64) (zk_key mord (mnum (y)).toInt64)) then (some (.int (nI (0))), (msz, mord, 0, mcand, mnx, (mcmp + 1), (mlat + 1), mnum, mset, mrow)) else (some (.int (nI (1))), (msz, mord, 0, mcand, mnx, (mcmp + 1), (mlat + 1), mnum, mset, mrow))
set_option maxRecDepth 20000 in
theorem lf_mlessN (x y : Nat) (hx : x < 600) (hy : y < 600) (msz : Int32) (mord : Int32) (mcand : Int32) (mnx : Int32) (mcmp : Int64) (mlat : Int64) (mnum : Nat → Int32) (mset : Nat → Int32) (mrow : Nat → Int32) (Q : mz_Q) (U : mz_U) (T : mz_T) (ho : mord = 0 ∨ mord = 1 ∨ mord = 2 ∨ mord = 3) {post : Option Value → ez_W → Prop} (h : post (pf_mlessN x y msz mord mcand mnx mcmp mlat mnum mset mrow).1 (mz_w (pf_mlessN x y msz mord mcand mnx mcmp mlat mnum mset mrow).2 Q U T)) : ez_m 73 [.ref 0, .int (nI x), .int (nI y)] (mz_w (msz, mord, 0, mcand, mnx, mcmp, mlat, mnum, mset, mrow) Q U T) post := by
  refine ez_m.of (L := [some (.ref 0), some (.int (nI x)), some (.int (nI y))]) rfl rfl rfl ?_
  unfold pf_mlessN at h
  refine ez_go ez_h73 15 (pc' := bif decide (¬ 0 = 0) then 47 else 27) (L' := [some (.ref 0), some (.int (nI (x))), some (.int (nI (y)))]) (st' := []) (w' := mz_w (msz, mord, 0, mcand, mnx, (mcmp + 1), (mlat + 1), mnum, mset, mrow) Q U T) rfl ?_
  refine ez_ifF (by decide) ?_
  refine ez_go ez_h73 2 (pc' := 29) (L' := [some (.ref 0), some (.int (nI (x))), some (.int (nI (y)))]) (st' := [.int (nI (x)), .ref 0]) (w' := mz_w (msz, mord, 0, mcand, mnx, (mcmp + 1), (mlat + 1), mnum, mset, mrow) Q U T) rfl ?_
  refine ez_cl ez_h73 rfl rfl ?_
  refine lf_mkey x (by omega) msz mord 0 mcand mnx (mcmp + 1) (mlat + 1) mnum mset mrow Q U T (by assumption) ?_
  refine ez_go ez_h73 2 (pc' := 34) (L' := [some (.ref 0), some (.int (nI (x))), some (.int (nI (y)))]) (st' := [.int (nI (y)), .ref 0, .long (zk_key mord (mnum (x)).toInt64)]) (w' := mz_w (msz, mord, 0, mcand, mnx, (mcmp + 1), (mlat + 1), mnum, mset, mrow) Q U T) rfl ?_
  refine ez_cl ez_h73 rfl rfl ?_
  refine lf_mkey y (by omega) msz mord 0 mcand mnx (mcmp + 1) (mlat + 1) mnum mset mrow Q U T (by assumption) ?_
  refine ez_go ez_h73 2 (pc' := bif decide (0 ≤ (lg_cmp (zk_key mord (mnum (x)).toInt64) (zk_key mord (mnum (y)).toInt64))) then 45 else 41) (L' := [some (.ref 0), some (.int (nI (x))), some (.int (nI (y)))]) (st' := []) (w' := mz_w (msz, mord, 0, mcand, mnx, (mcmp + 1), (mlat + 1), mnum, mset, mrow) Q U T) rfl ?_
  refine ez_if (fun c1 => ?_) (fun c1 => ?_)
  · rw [if_pos c1] at h
    refine ez_go ez_h73 1 (pc' := 46) (L' := [some (.ref 0), some (.int (nI (x))), some (.int (nI (y)))]) (st' := [.int (nI (0))]) (w' := mz_w (msz, mord, 0, mcand, mnx, (mcmp + 1), (mlat + 1), mnum, mset, mrow) Q U T) rfl ?_
    exact ez_zret rfl ez_h73 rfl rfl (by first | exact Or.inl rfl | exact Or.inr rfl) h
  · rw [if_neg c1] at h
    refine ez_go ez_h73 2 (pc' := 46) (L' := [some (.ref 0), some (.int (nI (x))), some (.int (nI (y)))]) (st' := [.int (nI (1))]) (w' := mz_w (msz, mord, 0, mcand, mnx, (mcmp + 1), (mlat + 1), mnum, mset, mrow) Q U T) rfl ?_
    exact ez_zret rfl ez_h73 rfl rfl (by first | exact Or.inl rfl | exact Or.inr rfl) h
def pf_mlessA (x y : Nat) (msz : Int32) (mord : Int32) (mcand : Int32) (mnx : Int32) (mcmp : Int64) (mlat : Int64) (mnum : Nat → Int32) (mset : Nat → Int32) (mrow : Nat → Int32) : Option Value × mz_A := if 0 ≤ (mset (x)) then (if 0 ≤ (mset (x)) then (if 0 ≤ (mset (y)) then (if (mset (x)) < 0 then (some (.int (nI (0))), (msz, mord, 1, mcand, mnx, (mcmp + 1), (mlat + 1), mnum, mset, mrow)) else (if (mset (y)) < 0 then (some (.int (nI (1))), (msz, mord, 1, mcand, mnx, (mcmp + 1), (mlat + 1), mnum, mset, mrow)) else (if (mset (y)) ≤ (mset (x)) then (some (.int (nI (0))), (msz, mord, 1, mcand, mnx, (mcmp + 1), (mlat + 1), mnum, mset, mrow)) else (some (.int (nI (1))), (msz, mord, 1, mcand, mnx, (mcmp + 1), (mlat + 1), mnum, mset, mrow))))) else (if (mset (x)) < 0 then (some (.int (nI (0))), (msz, mord, 1, (nI (y)), mnx, (mcmp + 1), (mlat + 1), mnum, mset, mrow)) else (if (mset (y)) < 0 then (some (.int (nI (1))), (msz, mord, 1, (nI (y)), mnx, (mcmp + 1), (mlat + 1), mnum, mset, mrow)) else (if (mset (y)) ≤ (mset (x)) then (some (.int (nI (0))), (msz, mord, 1, (nI (y)), mnx, (mcmp + 1), (mlat + 1), mnum, mset, mrow)) else (some (.int (nI (1))), (msz, mord, 1, (nI (y)), mnx, (mcmp + 1), (mlat + 1), mnum, mset, mrow)))))) else (if (mset (x)) < 0 then (some (.int (nI (0))), (msz, mord, 1, (nI (x)), mnx, (mcmp + 1), (mlat + 1), mnum, mset, mrow)) else (if (mset (y)) < 0 then (some (.int (nI (1))), (msz, mord, 1, (nI (x)), mnx, (mcmp + 1), (mlat + 1), mnum, mset, mrow)) else (if (mset (y)) ≤ (mset (x)) then (some (.int (nI (0))), (msz, mord, 1, (nI (x)), mnx, (mcmp + 1), (mlat + 1), mnum, mset, mrow)) else (some (.int (nI (1))), (msz, mord, 1, (nI (x)), mnx, (mcmp + 1), (mlat + 1), mnum, mset, mrow)))))) else (if 0 ≤ (mset (y)) then (if 0 ≤ (mset (x)) then (if 0 ≤ (mset (y)) then (if (mset (x)) < 0 then (some (.int (nI (0))), (msz, mord, 1, mcand, mnx, (mcmp + 1), (mlat + 1), mnum, mset, mrow)) else (if (mset (y)) < 0 then (some (.int (nI (1))), (msz, mord, 1, mcand, mnx, (mcmp + 1), (mlat + 1), mnum, mset, mrow)) else (if (mset (y)) ≤ (mset (x)) then (some (.int (nI (0))), (msz, mord, 1, mcand, mnx, (mcmp + 1), (mlat + 1), mnum, mset, mrow)) else (some (.int (nI (1))), (msz, mord, 1, mcand, mnx, (mcmp + 1), (mlat + 1), mnum, mset, mrow))))) else (if (mset (x)) < 0 then (some (.int (nI (0))), (msz, mord, 1, (nI (y)), mnx, (mcmp + 1), (mlat + 1), mnum, mset, mrow)) else (if (mset (y)) < 0 then (some (.int (nI (1))), (msz, mord, 1, (nI (y)), mnx, (mcmp + 1), (mlat + 1), mnum, mset, mrow)) else (if (mset (y)) ≤ (mset (x)) then (some (.int (nI (0))), (msz, mord, 1, (nI (y)), mnx, (mcmp + 1), (mlat + 1), mnum, mset, mrow)) else (some (.int (nI (1))), (msz, mord, 1, (nI (y)), mnx, (mcmp + 1), (mlat + 1), mnum, mset, mrow)))))) else (if (mset (x)) < 0 then (some (.int (nI (0))), (msz, mord, 1, (nI (x)), mnx, (mcmp + 1), (mlat + 1), mnum, mset, mrow)) else (if (mset (y)) < 0 then (some (.int (nI (1))), (msz, mord, 1, (nI (x)), mnx, (mcmp + 1), (mlat + 1), mnum, mset, mrow)) else (if (mset (y)) ≤ (mset (x)) then (some (.int (nI (0))), (msz, mord, 1, (nI (x)), mnx, (mcmp + 1), (mlat + 1), mnum, mset, mrow)) else (some (.int (nI (1))), (msz, mord, 1, (nI (x)), mnx, (mcmp + 1), (mlat + 1), mnum, mset, mrow)))))) else (if mcand = (nI (x)) then (if 0 ≤ ((upd mset (x) mnx) (x)) then (if 0 ≤ ((upd mset (x) mnx) (y)) then (if ((upd mset (x) mnx) (x)) < 0 then (some (.int (nI (0))), (msz, mord, 1, mcand, (mnx + (nI (1))), (mcmp + 1), (mlat + 1), mnum, (upd mset (x) mnx), mrow)) else (if ((upd mset (x) mnx) (y)) < 0 then (some (.int (nI (1))), (msz, mord, 1, mcand, (mnx + (nI (1))), (mcmp + 1), (mlat + 1), mnum, (upd mset (x) mnx), mrow)) else (if ((upd mset (x) mnx) (y)) ≤ ((upd mset (x) mnx) (x)) then (some (.int (nI (0))), (msz, mord, 1, mcand, (mnx + (nI (1))), (mcmp + 1), (mlat + 1), mnum, (upd mset (x) mnx), mrow)) else (some (.int (nI (1))), (msz, mord, 1, mcand, (mnx + (nI (1))), (mcmp + 1), (mlat + 1), mnum, (upd mset (x) mnx), mrow))))) else (if ((upd mset (x) mnx) (x)) < 0 then (some (.int (nI (0))), (msz, mord, 1, (nI (y)), (mnx + (nI (1))), (mcmp + 1), (mlat + 1), mnum, (upd mset (x) mnx), mrow)) else (if ((upd mset (x) mnx) (y)) < 0 then (some (.int (nI (1))), (msz, mord, 1, (nI (y)), (mnx + (nI (1))), (mcmp + 1), (mlat + 1), mnum, (upd mset (x) mnx), mrow)) else (if ((upd mset (x) mnx) (y)) ≤ ((upd mset (x) mnx) (x)) then (some (.int (nI (0))), (msz, mord, 1, (nI (y)), (mnx + (nI (1))), (mcmp + 1), (mlat + 1), mnum, (upd mset (x) mnx), mrow)) else (some (.int (nI (1))), (msz, mord, 1, (nI (y)), (mnx + (nI (1))), (mcmp + 1), (mlat + 1), mnum, (upd mset (x) mnx), mrow)))))) else (if ((upd mset (x) mnx) (x)) < 0 then (some (.int (nI (0))), (msz, mord, 1, (nI (x)), (mnx + (nI (1))), (mcmp + 1), (mlat + 1), mnum, (upd mset (x) mnx), mrow)) else (if ((upd mset (x) mnx) (y)) < 0 then (some (.int (nI (1))), (msz, mord, 1, (nI (x)), (mnx + (nI (1))), (mcmp + 1), (mlat + 1), mnum, (upd mset (x) mnx), mrow)) else (if ((upd mset (x) mnx) (y)) ≤ ((upd mset (x) mnx) (x)) then (some (.int (nI (0))), (msz, mord, 1, (nI (x)), (mnx + (nI (1))), (mcmp + 1), (mlat + 1), mnum, (upd mset (x) mnx), mrow)) else (some (.int (nI (1))), (msz, mord, 1, (nI (x)), (mnx + (nI (1))), (mcmp + 1), (mlat + 1), mnum, (upd mset (x) mnx), mrow)))))) else (if 0 ≤ ((upd mset (y) mnx) (x)) then (if 0 ≤ ((upd mset (y) mnx) (y)) then (if ((upd mset (y) mnx) (x)) < 0 then (some (.int (nI (0))), (msz, mord, 1, mcand, (mnx + (nI (1))), (mcmp + 1), (mlat + 1), mnum, (upd mset (y) mnx), mrow)) else (if ((upd mset (y) mnx) (y)) < 0 then (some (.int (nI (1))), (msz, mord, 1, mcand, (mnx + (nI (1))), (mcmp + 1), (mlat + 1), mnum, (upd mset (y) mnx), mrow)) else (if ((upd mset (y) mnx) (y)) ≤ ((upd mset (y) mnx) (x)) then (some (.int (nI (0))), (msz, mord, 1, mcand, (mnx + (nI (1))), (mcmp + 1), (mlat + 1), mnum, (upd mset (y) mnx), mrow)) else (some (.int (nI (1))), (msz, mord, 1, mcand, (mnx + (nI (1))), (mcmp + 1), (mlat + 1), mnum, (upd mset (y) mnx), mrow))))) else (if ((upd mset (y) mnx) (x)) < 0 then (some (.int (nI (0))), (msz, mord, 1, (nI (y)), (mnx + (nI (1))), (mcmp + 1), (mlat + 1), mnum, (upd mset (y) mnx), mrow)) else (if ((upd mset (y) mnx) (y)) < 0 then (some (.int (nI (1))), (msz, mord, 1, (nI (y)), (mnx + (nI (1))), (mcmp + 1), (mlat + 1), mnum, (upd mset (y) mnx), mrow)) else (if ((upd mset (y) mnx) (y)) ≤ ((upd mset (y) mnx) (x)) then (some (.int (nI (0))), (msz, mord, 1, (nI (y)), (mnx + (nI (1))), (mcmp + 1), (mlat + 1), mnum, (upd mset (y) mnx), mrow)) else (some (.int (nI (1))), (msz, mord, 1, (nI (y)), (mnx + (nI (1))), (mcmp + 1), (mlat + 1), mnum, (upd mset (y) mnx), mrow)))))) else (if ((upd mset (y) mnx) (x)) < 0 then (some (.int (nI (0))), (msz, mord, 1, (nI (x)), (mnx + (nI (1))), (mcmp + 1), (mlat + 1), mnum, (upd mset (y) mnx), mrow)) else (if ((upd mset (y) mnx) (y)) < 0 then (some (.int (nI (1))), (msz, mord, 1, (nI (x)), (mnx + (nI (1))), (mcmp + 1), (mlat + 1), mnum, (upd mset (y) mnx), mrow)) else (if ((upd mset (y) mnx) (y)) ≤ ((upd mset (y) mnx) (x)) then (some (.int (nI (0))), (msz, mord, 1, (nI (x)), (mnx + (nI (1))), (mcmp + 1), (mlat + 1), mnum, (upd mset (y) mnx), mrow)) else (some (.int (nI (1))), (msz, mord, 1, (nI (x)), (mnx + (nI (1))), (mcmp + 1), (mlat + 1), mnum, (upd mset (y) mnx), mrow))))))))
set_option maxRecDepth 20000 in
theorem lf_mlessA (x y : Nat) (hx : x < 600) (hy : y < 600) (msz : Int32) (mord : Int32) (mcand : Int32) (mnx : Int32) (mcmp : Int64) (mlat : Int64) (mnum : Nat → Int32) (mset : Nat → Int32) (mrow : Nat → Int32) (Q : mz_Q) (U : mz_U) (T : mz_T) {post : Option Value → ez_W → Prop} (h : post (pf_mlessA x y msz mord mcand mnx mcmp mlat mnum mset mrow).1 (mz_w (pf_mlessA x y msz mord mcand mnx mcmp mlat mnum mset mrow).2 Q U T)) : ez_m 73 [.ref 0, .int (nI x), .int (nI y)] (mz_w (msz, mord, 1, mcand, mnx, mcmp, mlat, mnum, mset, mrow) Q U T) post := by
  refine ez_m.of (L := [some (.ref 0), some (.int (nI x)), some (.int (nI y))]) rfl rfl rfl ?_
  unfold pf_mlessA at h
  refine ez_go ez_h73 15 (pc' := bif decide (¬ 1 = 0) then 47 else 27) (L' := [some (.ref 0), some (.int (nI (x))), some (.int (nI (y)))]) (st' := []) (w' := mz_w (msz, mord, 1, mcand, mnx, (mcmp + 1), (mlat + 1), mnum, mset, mrow) Q U T) rfl ?_
  refine ez_ifT (by decide) ?_
  refine ez_go ez_h73 3 (pc' := 52) (L' := [some (.ref 0), some (.int (nI (x))), some (.int (nI (y)))]) (st' := [.int (nI (x)), .ref 3]) (w' := mz_w (msz, mord, 1, mcand, mnx, (mcmp + 1), (mlat + 1), mnum, mset, mrow) Q U T) rfl ?_
  refine ez_ald ez_h73 rfl rfl (x) rfl (by omega) (by omega) ?_
  refine ez_go ez_h73 1 (pc' := bif decide (0 ≤ (mset (x))) then 97 else 56) (L' := [some (.ref 0), some (.int (nI (x))), some (.int (nI (y)))]) (st' := []) (w' := mz_w (msz, mord, 1, mcand, mnx, (mcmp + 1), (mlat + 1), mnum, mset, mrow) Q U T) rfl ?_
  refine ez_if (fun c1 => ?_) (fun c1 => ?_)
  · rw [if_pos c1] at h
    refine ez_go ez_h73 3 (pc' := 102) (L' := [some (.ref 0), some (.int (nI (x))), some (.int (nI (y)))]) (st' := [.int (nI (x)), .ref 3]) (w' := mz_w (msz, mord, 1, mcand, mnx, (mcmp + 1), (mlat + 1), mnum, mset, mrow) Q U T) rfl ?_
    refine ez_ald ez_h73 rfl rfl (x) rfl (by omega) (by omega) ?_
    refine ez_go ez_h73 1 (pc' := bif decide (0 ≤ (mset (x))) then 114 else 106) (L' := [some (.ref 0), some (.int (nI (x))), some (.int (nI (y)))]) (st' := []) (w' := mz_w (msz, mord, 1, mcand, mnx, (mcmp + 1), (mlat + 1), mnum, mset, mrow) Q U T) rfl ?_
    refine ez_if (fun c2 => ?_) (fun c2 => ?_)
    · rw [if_pos c2] at h
      refine ez_go ez_h73 3 (pc' := 119) (L' := [some (.ref 0), some (.int (nI (x))), some (.int (nI (y)))]) (st' := [.int (nI (y)), .ref 3]) (w' := mz_w (msz, mord, 1, mcand, mnx, (mcmp + 1), (mlat + 1), mnum, mset, mrow) Q U T) rfl ?_
      refine ez_ald ez_h73 rfl rfl (y) rfl (by omega) (by omega) ?_
      refine ez_go ez_h73 1 (pc' := bif decide (0 ≤ (mset (y))) then 128 else 123) (L' := [some (.ref 0), some (.int (nI (x))), some (.int (nI (y)))]) (st' := []) (w' := mz_w (msz, mord, 1, mcand, mnx, (mcmp + 1), (mlat + 1), mnum, mset, mrow) Q U T) rfl ?_
      refine ez_if (fun c3 => ?_) (fun c3 => ?_)
      · rw [if_pos c3] at h
        refine ez_go ez_h73 3 (pc' := 133) (L' := [some (.ref 0), some (.int (nI (x))), some (.int (nI (y)))]) (st' := [.int (nI (x)), .ref 3]) (w' := mz_w (msz, mord, 1, mcand, mnx, (mcmp + 1), (mlat + 1), mnum, mset, mrow) Q U T) rfl ?_
        refine ez_ald ez_h73 rfl rfl (x) rfl (by omega) (by omega) ?_
        refine ez_go ez_h73 1 (pc' := bif decide ((mset (x)) < 0) then 165 else 137) (L' := [some (.ref 0), some (.int (nI (x))), some (.int (nI (y)))]) (st' := []) (w' := mz_w (msz, mord, 1, mcand, mnx, (mcmp + 1), (mlat + 1), mnum, mset, mrow) Q U T) rfl ?_
        refine ez_if (fun c4 => ?_) (fun c4 => ?_)
        · rw [if_pos c4] at h
          refine ez_go ez_h73 1 (pc' := 166) (L' := [some (.ref 0), some (.int (nI (x))), some (.int (nI (y)))]) (st' := [.int (nI (0))]) (w' := mz_w (msz, mord, 1, mcand, mnx, (mcmp + 1), (mlat + 1), mnum, mset, mrow) Q U T) rfl ?_
          exact ez_zret rfl ez_h73 rfl rfl (by first | exact Or.inl rfl | exact Or.inr rfl) h
        · rw [if_neg c4] at h
          refine ez_go ez_h73 3 (pc' := 142) (L' := [some (.ref 0), some (.int (nI (x))), some (.int (nI (y)))]) (st' := [.int (nI (y)), .ref 3]) (w' := mz_w (msz, mord, 1, mcand, mnx, (mcmp + 1), (mlat + 1), mnum, mset, mrow) Q U T) rfl ?_
          refine ez_ald ez_h73 rfl rfl (y) rfl (by omega) (by omega) ?_
          refine ez_go ez_h73 1 (pc' := bif decide ((mset (y)) < 0) then 161 else 146) (L' := [some (.ref 0), some (.int (nI (x))), some (.int (nI (y)))]) (st' := []) (w' := mz_w (msz, mord, 1, mcand, mnx, (mcmp + 1), (mlat + 1), mnum, mset, mrow) Q U T) rfl ?_
          refine ez_if (fun c5 => ?_) (fun c5 => ?_)
          · rw [if_pos c5] at h
            refine ez_go ez_h73 2 (pc' := 166) (L' := [some (.ref 0), some (.int (nI (x))), some (.int (nI (y)))]) (st' := [.int (nI (1))]) (w' := mz_w (msz, mord, 1, mcand, mnx, (mcmp + 1), (mlat + 1), mnum, mset, mrow) Q U T) rfl ?_
            exact ez_zret rfl ez_h73 rfl rfl (by first | exact Or.inl rfl | exact Or.inr rfl) h
          · rw [if_neg c5] at h
            refine ez_go ez_h73 3 (pc' := 151) (L' := [some (.ref 0), some (.int (nI (x))), some (.int (nI (y)))]) (st' := [.int (nI (x)), .ref 3]) (w' := mz_w (msz, mord, 1, mcand, mnx, (mcmp + 1), (mlat + 1), mnum, mset, mrow) Q U T) rfl ?_
            refine ez_ald ez_h73 rfl rfl (x) rfl (by omega) (by omega) ?_
            refine ez_go ez_h73 3 (pc' := 157) (L' := [some (.ref 0), some (.int (nI (x))), some (.int (nI (y)))]) (st' := [.int (nI (y)), .ref 3, .int (mset (x))]) (w' := mz_w (msz, mord, 1, mcand, mnx, (mcmp + 1), (mlat + 1), mnum, mset, mrow) Q U T) rfl ?_
            refine ez_ald ez_h73 rfl rfl (y) rfl (by omega) (by omega) ?_
            refine ez_go ez_h73 1 (pc' := bif decide ((mset (y)) ≤ (mset (x))) then 165 else 161) (L' := [some (.ref 0), some (.int (nI (x))), some (.int (nI (y)))]) (st' := []) (w' := mz_w (msz, mord, 1, mcand, mnx, (mcmp + 1), (mlat + 1), mnum, mset, mrow) Q U T) rfl ?_
            refine ez_if (fun c6 => ?_) (fun c6 => ?_)
            · rw [if_pos c6] at h
              refine ez_go ez_h73 1 (pc' := 166) (L' := [some (.ref 0), some (.int (nI (x))), some (.int (nI (y)))]) (st' := [.int (nI (0))]) (w' := mz_w (msz, mord, 1, mcand, mnx, (mcmp + 1), (mlat + 1), mnum, mset, mrow) Q U T) rfl ?_
              exact ez_zret rfl ez_h73 rfl rfl (by first | exact Or.inl rfl | exact Or.inr rfl) h
            · rw [if_neg c6] at h
              refine ez_go ez_h73 2 (pc' := 166) (L' := [some (.ref 0), some (.int (nI (x))), some (.int (nI (y)))]) (st' := [.int (nI (1))]) (w' := mz_w (msz, mord, 1, mcand, mnx, (mcmp + 1), (mlat + 1), mnum, mset, mrow) Q U T) rfl ?_
              exact ez_zret rfl ez_h73 rfl rfl (by first | exact Or.inl rfl | exact Or.inr rfl) h
      · rw [if_neg c3] at h
        refine ez_go ez_h73 6 (pc' := 133) (L' := [some (.ref 0), some (.int (nI (x))), some (.int (nI (y)))]) (st' := [.int (nI (x)), .ref 3]) (w' := mz_w (msz, mord, 1, (nI (y)), mnx, (mcmp + 1), (mlat + 1), mnum, mset, mrow) Q U T) rfl ?_
        refine ez_ald ez_h73 rfl rfl (x) rfl (by omega) (by omega) ?_
        refine ez_go ez_h73 1 (pc' := bif decide ((mset (x)) < 0) then 165 else 137) (L' := [some (.ref 0), some (.int (nI (x))), some (.int (nI (y)))]) (st' := []) (w' := mz_w (msz, mord, 1, (nI (y)), mnx, (mcmp + 1), (mlat + 1), mnum, mset, mrow) Q U T) rfl ?_
        refine ez_if (fun c7 => ?_) (fun c7 => ?_)
        · rw [if_pos c7] at h
          refine ez_go ez_h73 1 (pc' := 166) (L' := [some (.ref 0), some (.int (nI (x))), some (.int (nI (y)))]) (st' := [.int (nI (0))]) (w' := mz_w (msz, mord, 1, (nI (y)), mnx, (mcmp + 1), (mlat + 1), mnum, mset, mrow) Q U T) rfl ?_
          exact ez_zret rfl ez_h73 rfl rfl (by first | exact Or.inl rfl | exact Or.inr rfl) h
        · rw [if_neg c7] at h
          refine ez_go ez_h73 3 (pc' := 142) (L' := [some (.ref 0), some (.int (nI (x))), some (.int (nI (y)))]) (st' := [.int (nI (y)), .ref 3]) (w' := mz_w (msz, mord, 1, (nI (y)), mnx, (mcmp + 1), (mlat + 1), mnum, mset, mrow) Q U T) rfl ?_
          refine ez_ald ez_h73 rfl rfl (y) rfl (by omega) (by omega) ?_
          refine ez_go ez_h73 1 (pc' := bif decide ((mset (y)) < 0) then 161 else 146) (L' := [some (.ref 0), some (.int (nI (x))), some (.int (nI (y)))]) (st' := []) (w' := mz_w (msz, mord, 1, (nI (y)), mnx, (mcmp + 1), (mlat + 1), mnum, mset, mrow) Q U T) rfl ?_
          refine ez_if (fun c8 => ?_) (fun c8 => ?_)
          · rw [if_pos c8] at h
            refine ez_go ez_h73 2 (pc' := 166) (L' := [some (.ref 0), some (.int (nI (x))), some (.int (nI (y)))]) (st' := [.int (nI (1))]) (w' := mz_w (msz, mord, 1, (nI (y)), mnx, (mcmp + 1), (mlat + 1), mnum, mset, mrow) Q U T) rfl ?_
            exact ez_zret rfl ez_h73 rfl rfl (by first | exact Or.inl rfl | exact Or.inr rfl) h
          · rw [if_neg c8] at h
            refine ez_go ez_h73 3 (pc' := 151) (L' := [some (.ref 0), some (.int (nI (x))), some (.int (nI (y)))]) (st' := [.int (nI (x)), .ref 3]) (w' := mz_w (msz, mord, 1, (nI (y)), mnx, (mcmp + 1), (mlat + 1), mnum, mset, mrow) Q U T) rfl ?_
            refine ez_ald ez_h73 rfl rfl (x) rfl (by omega) (by omega) ?_
            refine ez_go ez_h73 3 (pc' := 157) (L' := [some (.ref 0), some (.int (nI (x))), some (.int (nI (y)))]) (st' := [.int (nI (y)), .ref 3, .int (mset (x))]) (w' := mz_w (msz, mord, 1, (nI (y)), mnx, (mcmp + 1), (mlat + 1), mnum, mset, mrow) Q U T) rfl ?_
            refine ez_ald ez_h73 rfl rfl (y) rfl (by omega) (by omega) ?_
            refine ez_go ez_h73 1 (pc' := bif decide ((mset (y)) ≤ (mset (x))) then 165 else 161) (L' := [some (.ref 0), some (.int (nI (x))), some (.int (nI (y)))]) (st' := []) (w' := mz_w (msz, mord, 1, (nI (y)), mnx, (mcmp + 1), (mlat + 1), mnum, mset, mrow) Q U T) rfl ?_
            refine ez_if (fun c9 => ?_) (fun c9 => ?_)
            · rw [if_pos c9] at h
              refine ez_go ez_h73 1 (pc' := 166) (L' := [some (.ref 0), some (.int (nI (x))), some (.int (nI (y)))]) (st' := [.int (nI (0))]) (w' := mz_w (msz, mord, 1, (nI (y)), mnx, (mcmp + 1), (mlat + 1), mnum, mset, mrow) Q U T) rfl ?_
              exact ez_zret rfl ez_h73 rfl rfl (by first | exact Or.inl rfl | exact Or.inr rfl) h
            · rw [if_neg c9] at h
              refine ez_go ez_h73 2 (pc' := 166) (L' := [some (.ref 0), some (.int (nI (x))), some (.int (nI (y)))]) (st' := [.int (nI (1))]) (w' := mz_w (msz, mord, 1, (nI (y)), mnx, (mcmp + 1), (mlat + 1), mnum, mset, mrow) Q U T) rfl ?_
              exact ez_zret rfl ez_h73 rfl rfl (by first | exact Or.inl rfl | exact Or.inr rfl) h
    · rw [if_neg c2] at h
      refine ez_go ez_h73 7 (pc' := 133) (L' := [some (.ref 0), some (.int (nI (x))), some (.int (nI (y)))]) (st' := [.int (nI (x)), .ref 3]) (w' := mz_w (msz, mord, 1, (nI (x)), mnx, (mcmp + 1), (mlat + 1), mnum, mset, mrow) Q U T) rfl ?_
      refine ez_ald ez_h73 rfl rfl (x) rfl (by omega) (by omega) ?_
      refine ez_go ez_h73 1 (pc' := bif decide ((mset (x)) < 0) then 165 else 137) (L' := [some (.ref 0), some (.int (nI (x))), some (.int (nI (y)))]) (st' := []) (w' := mz_w (msz, mord, 1, (nI (x)), mnx, (mcmp + 1), (mlat + 1), mnum, mset, mrow) Q U T) rfl ?_
      refine ez_if (fun c10 => ?_) (fun c10 => ?_)
      · rw [if_pos c10] at h
        refine ez_go ez_h73 1 (pc' := 166) (L' := [some (.ref 0), some (.int (nI (x))), some (.int (nI (y)))]) (st' := [.int (nI (0))]) (w' := mz_w (msz, mord, 1, (nI (x)), mnx, (mcmp + 1), (mlat + 1), mnum, mset, mrow) Q U T) rfl ?_
        exact ez_zret rfl ez_h73 rfl rfl (by first | exact Or.inl rfl | exact Or.inr rfl) h
      · rw [if_neg c10] at h
        refine ez_go ez_h73 3 (pc' := 142) (L' := [some (.ref 0), some (.int (nI (x))), some (.int (nI (y)))]) (st' := [.int (nI (y)), .ref 3]) (w' := mz_w (msz, mord, 1, (nI (x)), mnx, (mcmp + 1), (mlat + 1), mnum, mset, mrow) Q U T) rfl ?_
        refine ez_ald ez_h73 rfl rfl (y) rfl (by omega) (by omega) ?_
        refine ez_go ez_h73 1 (pc' := bif decide ((mset (y)) < 0) then 161 else 146) (L' := [some (.ref 0), some (.int (nI (x))), some (.int (nI (y)))]) (st' := []) (w' := mz_w (msz, mord, 1, (nI (x)), mnx, (mcmp + 1), (mlat + 1), mnum, mset, mrow) Q U T) rfl ?_
        refine ez_if (fun c11 => ?_) (fun c11 => ?_)
        · rw [if_pos c11] at h
          refine ez_go ez_h73 2 (pc' := 166) (L' := [some (.ref 0), some (.int (nI (x))), some (.int (nI (y)))]) (st' := [.int (nI (1))]) (w' := mz_w (msz, mord, 1, (nI (x)), mnx, (mcmp + 1), (mlat + 1), mnum, mset, mrow) Q U T) rfl ?_
          exact ez_zret rfl ez_h73 rfl rfl (by first | exact Or.inl rfl | exact Or.inr rfl) h
        · rw [if_neg c11] at h
          refine ez_go ez_h73 3 (pc' := 151) (L' := [some (.ref 0), some (.int (nI (x))), some (.int (nI (y)))]) (st' := [.int (nI (x)), .ref 3]) (w' := mz_w (msz, mord, 1, (nI (x)), mnx, (mcmp + 1), (mlat + 1), mnum, mset, mrow) Q U T) rfl ?_
          refine ez_ald ez_h73 rfl rfl (x) rfl (by omega) (by omega) ?_
          refine ez_go ez_h73 3 (pc' := 157) (L' := [some (.ref 0), some (.int (nI (x))), some (.int (nI (y)))]) (st' := [.int (nI (y)), .ref 3, .int (mset (x))]) (w' := mz_w (msz, mord, 1, (nI (x)), mnx, (mcmp + 1), (mlat + 1), mnum, mset, mrow) Q U T) rfl ?_
          refine ez_ald ez_h73 rfl rfl (y) rfl (by omega) (by omega) ?_
          refine ez_go ez_h73 1 (pc' := bif decide ((mset (y)) ≤ (mset (x))) then 165 else 161) (L' := [some (.ref 0), some (.int (nI (x))), some (.int (nI (y)))]) (st' := []) (w' := mz_w (msz, mord, 1, (nI (x)), mnx, (mcmp + 1), (mlat + 1), mnum, mset, mrow) Q U T) rfl ?_
          refine ez_if (fun c12 => ?_) (fun c12 => ?_)
          · rw [if_pos c12] at h
            refine ez_go ez_h73 1 (pc' := 166) (L' := [some (.ref 0), some (.int (nI (x))), some (.int (nI (y)))]) (st' := [.int (nI (0))]) (w' := mz_w (msz, mord, 1, (nI (x)), mnx, (mcmp + 1), (mlat + 1), mnum, mset, mrow) Q U T) rfl ?_
            exact ez_zret rfl ez_h73 rfl rfl (by first | exact Or.inl rfl | exact Or.inr rfl) h
          · rw [if_neg c12] at h
            refine ez_go ez_h73 2 (pc' := 166) (L' := [some (.ref 0), some (.int (nI (x))), some (.int (nI (y)))]) (st' := [.int (nI (1))]) (w' := mz_w (msz, mord, 1, (nI (x)), mnx, (mcmp + 1), (mlat + 1), mnum, mset, mrow) Q U T) rfl ?_
            exact ez_zret rfl ez_h73 rfl rfl (by first | exact Or.inl rfl | exact Or.inr rfl) h
  · rw [if_neg c1] at h
    refine ez_go ez_h73 3 (pc' := 61) (L' := [some (.ref 0), some (.int (nI (x))), some (.int (nI (y)))]) (st' := [.int (nI (y)), .ref 3]) (w' := mz_w (msz, mord, 1, mcand, mnx, (mcmp + 1), (mlat + 1), mnum, mset, mrow) Q U T) rfl ?_
    refine ez_ald ez_h73 rfl rfl (y) rfl (by omega) (by omega) ?_
    refine ez_go ez_h73 1 (pc' := bif decide (0 ≤ (mset (y))) then 97 else 65) (L' := [some (.ref 0), some (.int (nI (x))), some (.int (nI (y)))]) (st' := []) (w' := mz_w (msz, mord, 1, mcand, mnx, (mcmp + 1), (mlat + 1), mnum, mset, mrow) Q U T) rfl ?_
    refine ez_if (fun c13 => ?_) (fun c13 => ?_)
    · rw [if_pos c13] at h
      refine ez_go ez_h73 3 (pc' := 102) (L' := [some (.ref 0), some (.int (nI (x))), some (.int (nI (y)))]) (st' := [.int (nI (x)), .ref 3]) (w' := mz_w (msz, mord, 1, mcand, mnx, (mcmp + 1), (mlat + 1), mnum, mset, mrow) Q U T) rfl ?_
      refine ez_ald ez_h73 rfl rfl (x) rfl (by omega) (by omega) ?_
      refine ez_go ez_h73 1 (pc' := bif decide (0 ≤ (mset (x))) then 114 else 106) (L' := [some (.ref 0), some (.int (nI (x))), some (.int (nI (y)))]) (st' := []) (w' := mz_w (msz, mord, 1, mcand, mnx, (mcmp + 1), (mlat + 1), mnum, mset, mrow) Q U T) rfl ?_
      refine ez_if (fun c14 => ?_) (fun c14 => ?_)
      · rw [if_pos c14] at h
        refine ez_go ez_h73 3 (pc' := 119) (L' := [some (.ref 0), some (.int (nI (x))), some (.int (nI (y)))]) (st' := [.int (nI (y)), .ref 3]) (w' := mz_w (msz, mord, 1, mcand, mnx, (mcmp + 1), (mlat + 1), mnum, mset, mrow) Q U T) rfl ?_
        refine ez_ald ez_h73 rfl rfl (y) rfl (by omega) (by omega) ?_
        refine ez_go ez_h73 1 (pc' := bif decide (0 ≤ (mset (y))) then 128 else 123) (L' := [some (.ref 0), some (.int (nI (x))), some (.int (nI (y)))]) (st' := []) (w' := mz_w (msz, mord, 1, mcand, mnx, (mcmp + 1), (mlat + 1), mnum, mset, mrow) Q U T) rfl ?_
        refine ez_if (fun c15 => ?_) (fun c15 => ?_)
        · rw [if_pos c15] at h
          refine ez_go ez_h73 3 (pc' := 133) (L' := [some (.ref 0), some (.int (nI (x))), some (.int (nI (y)))]) (st' := [.int (nI (x)), .ref 3]) (w' := mz_w (msz, mord, 1, mcand, mnx, (mcmp + 1), (mlat + 1), mnum, mset, mrow) Q U T) rfl ?_
          refine ez_ald ez_h73 rfl rfl (x) rfl (by omega) (by omega) ?_
          refine ez_go ez_h73 1 (pc' := bif decide ((mset (x)) < 0) then 165 else 137) (L' := [some (.ref 0), some (.int (nI (x))), some (.int (nI (y)))]) (st' := []) (w' := mz_w (msz, mord, 1, mcand, mnx, (mcmp + 1), (mlat + 1), mnum, mset, mrow) Q U T) rfl ?_
          refine ez_if (fun c16 => ?_) (fun c16 => ?_)
          · rw [if_pos c16] at h
            refine ez_go ez_h73 1 (pc' := 166) (L' := [some (.ref 0), some (.int (nI (x))), some (.int (nI (y)))]) (st' := [.int (nI (0))]) (w' := mz_w (msz, mord, 1, mcand, mnx, (mcmp + 1), (mlat + 1), mnum, mset, mrow) Q U T) rfl ?_
            exact ez_zret rfl ez_h73 rfl rfl (by first | exact Or.inl rfl | exact Or.inr rfl) h
          · rw [if_neg c16] at h
            refine ez_go ez_h73 3 (pc' := 142) (L' := [some (.ref 0), some (.int (nI (x))), some (.int (nI (y)))]) (st' := [.int (nI (y)), .ref 3]) (w' := mz_w (msz, mord, 1, mcand, mnx, (mcmp + 1), (mlat + 1), mnum, mset, mrow) Q U T) rfl ?_
            refine ez_ald ez_h73 rfl rfl (y) rfl (by omega) (by omega) ?_
            refine ez_go ez_h73 1 (pc' := bif decide ((mset (y)) < 0) then 161 else 146) (L' := [some (.ref 0), some (.int (nI (x))), some (.int (nI (y)))]) (st' := []) (w' := mz_w (msz, mord, 1, mcand, mnx, (mcmp + 1), (mlat + 1), mnum, mset, mrow) Q U T) rfl ?_
            refine ez_if (fun c17 => ?_) (fun c17 => ?_)
            · rw [if_pos c17] at h
              refine ez_go ez_h73 2 (pc' := 166) (L' := [some (.ref 0), some (.int (nI (x))), some (.int (nI (y)))]) (st' := [.int (nI (1))]) (w' := mz_w (msz, mord, 1, mcand, mnx, (mcmp + 1), (mlat + 1), mnum, mset, mrow) Q U T) rfl ?_
              exact ez_zret rfl ez_h73 rfl rfl (by first | exact Or.inl rfl | exact Or.inr rfl) h
            · rw [if_neg c17] at h
              refine ez_go ez_h73 3 (pc' := 151) (L' := [some (.ref 0), some (.int (nI (x))), some (.int (nI (y)))]) (st' := [.int (nI (x)), .ref 3]) (w' := mz_w (msz, mord, 1, mcand, mnx, (mcmp + 1), (mlat + 1), mnum, mset, mrow) Q U T) rfl ?_
              refine ez_ald ez_h73 rfl rfl (x) rfl (by omega) (by omega) ?_
              refine ez_go ez_h73 3 (pc' := 157) (L' := [some (.ref 0), some (.int (nI (x))), some (.int (nI (y)))]) (st' := [.int (nI (y)), .ref 3, .int (mset (x))]) (w' := mz_w (msz, mord, 1, mcand, mnx, (mcmp + 1), (mlat + 1), mnum, mset, mrow) Q U T) rfl ?_
              refine ez_ald ez_h73 rfl rfl (y) rfl (by omega) (by omega) ?_
              refine ez_go ez_h73 1 (pc' := bif decide ((mset (y)) ≤ (mset (x))) then 165 else 161) (L' := [some (.ref 0), some (.int (nI (x))), some (.int (nI (y)))]) (st' := []) (w' := mz_w (msz, mord, 1, mcand, mnx, (mcmp + 1), (mlat + 1), mnum, mset, mrow) Q U T) rfl ?_
              refine ez_if (fun c18 => ?_) (fun c18 => ?_)
              · rw [if_pos c18] at h
                refine ez_go ez_h73 1 (pc' := 166) (L' := [some (.ref 0), some (.int (nI (x))), some (.int (nI (y)))]) (st' := [.int (nI (0))]) (w' := mz_w (msz, mord, 1, mcand, mnx, (mcmp + 1), (mlat + 1), mnum, mset, mrow) Q U T) rfl ?_
                exact ez_zret rfl ez_h73 rfl rfl (by first | exact Or.inl rfl | exact Or.inr rfl) h
              · rw [if_neg c18] at h
                refine ez_go ez_h73 2 (pc' := 166) (L' := [some (.ref 0), some (.int (nI (x))), some (.int (nI (y)))]) (st' := [.int (nI (1))]) (w' := mz_w (msz, mord, 1, mcand, mnx, (mcmp + 1), (mlat + 1), mnum, mset, mrow) Q U T) rfl ?_
                exact ez_zret rfl ez_h73 rfl rfl (by first | exact Or.inl rfl | exact Or.inr rfl) h
        · rw [if_neg c15] at h
          refine ez_go ez_h73 6 (pc' := 133) (L' := [some (.ref 0), some (.int (nI (x))), some (.int (nI (y)))]) (st' := [.int (nI (x)), .ref 3]) (w' := mz_w (msz, mord, 1, (nI (y)), mnx, (mcmp + 1), (mlat + 1), mnum, mset, mrow) Q U T) rfl ?_
          refine ez_ald ez_h73 rfl rfl (x) rfl (by omega) (by omega) ?_
          refine ez_go ez_h73 1 (pc' := bif decide ((mset (x)) < 0) then 165 else 137) (L' := [some (.ref 0), some (.int (nI (x))), some (.int (nI (y)))]) (st' := []) (w' := mz_w (msz, mord, 1, (nI (y)), mnx, (mcmp + 1), (mlat + 1), mnum, mset, mrow) Q U T) rfl ?_
          refine ez_if (fun c19 => ?_) (fun c19 => ?_)
          · rw [if_pos c19] at h
            refine ez_go ez_h73 1 (pc' := 166) (L' := [some (.ref 0), some (.int (nI (x))), some (.int (nI (y)))]) (st' := [.int (nI (0))]) (w' := mz_w (msz, mord, 1, (nI (y)), mnx, (mcmp + 1), (mlat + 1), mnum, mset, mrow) Q U T) rfl ?_
            exact ez_zret rfl ez_h73 rfl rfl (by first | exact Or.inl rfl | exact Or.inr rfl) h
          · rw [if_neg c19] at h
            refine ez_go ez_h73 3 (pc' := 142) (L' := [some (.ref 0), some (.int (nI (x))), some (.int (nI (y)))]) (st' := [.int (nI (y)), .ref 3]) (w' := mz_w (msz, mord, 1, (nI (y)), mnx, (mcmp + 1), (mlat + 1), mnum, mset, mrow) Q U T) rfl ?_
            refine ez_ald ez_h73 rfl rfl (y) rfl (by omega) (by omega) ?_
            refine ez_go ez_h73 1 (pc' := bif decide ((mset (y)) < 0) then 161 else 146) (L' := [some (.ref 0), some (.int (nI (x))), some (.int (nI (y)))]) (st' := []) (w' := mz_w (msz, mord, 1, (nI (y)), mnx, (mcmp + 1), (mlat + 1), mnum, mset, mrow) Q U T) rfl ?_
            refine ez_if (fun c20 => ?_) (fun c20 => ?_)
            · rw [if_pos c20] at h
              refine ez_go ez_h73 2 (pc' := 166) (L' := [some (.ref 0), some (.int (nI (x))), some (.int (nI (y)))]) (st' := [.int (nI (1))]) (w' := mz_w (msz, mord, 1, (nI (y)), mnx, (mcmp + 1), (mlat + 1), mnum, mset, mrow) Q U T) rfl ?_
              exact ez_zret rfl ez_h73 rfl rfl (by first | exact Or.inl rfl | exact Or.inr rfl) h
            · rw [if_neg c20] at h
              refine ez_go ez_h73 3 (pc' := 151) (L' := [some (.ref 0), some (.int (nI (x))), some (.int (nI (y)))]) (st' := [.int (nI (x)), .ref 3]) (w' := mz_w (msz, mord, 1, (nI (y)), mnx, (mcmp + 1), (mlat + 1), mnum, mset, mrow) Q U T) rfl ?_
              refine ez_ald ez_h73 rfl rfl (x) rfl (by omega) (by omega) ?_
              refine ez_go ez_h73 3 (pc' := 157) (L' := [some (.ref 0), some (.int (nI (x))), some (.int (nI (y)))]) (st' := [.int (nI (y)), .ref 3, .int (mset (x))]) (w' := mz_w (msz, mord, 1, (nI (y)), mnx, (mcmp + 1), (mlat + 1), mnum, mset, mrow) Q U T) rfl ?_
              refine ez_ald ez_h73 rfl rfl (y) rfl (by omega) (by omega) ?_
              refine ez_go ez_h73 1 (pc' := bif decide ((mset (y)) ≤ (mset (x))) then 165 else 161) (L' := [some (.ref 0), some (.int (nI (x))), some (.int (nI (y)))]) (st' := []) (w' := mz_w (msz, mord, 1, (nI (y)), mnx, (mcmp + 1), (mlat + 1), mnum, mset, mrow) Q U T) rfl ?_
              refine ez_if (fun c21 => ?_) (fun c21 => ?_)
              · rw [if_pos c21] at h
                refine ez_go ez_h73 1 (pc' := 166) (L' := [some (.ref 0), some (.int (nI (x))), some (.int (nI (y)))]) (st' := [.int (nI (0))]) (w' := mz_w (msz, mord, 1, (nI (y)), mnx, (mcmp + 1), (mlat + 1), mnum, mset, mrow) Q U T) rfl ?_
                exact ez_zret rfl ez_h73 rfl rfl (by first | exact Or.inl rfl | exact Or.inr rfl) h
              · rw [if_neg c21] at h
                refine ez_go ez_h73 2 (pc' := 166) (L' := [some (.ref 0), some (.int (nI (x))), some (.int (nI (y)))]) (st' := [.int (nI (1))]) (w' := mz_w (msz, mord, 1, (nI (y)), mnx, (mcmp + 1), (mlat + 1), mnum, mset, mrow) Q U T) rfl ?_
                exact ez_zret rfl ez_h73 rfl rfl (by first | exact Or.inl rfl | exact Or.inr rfl) h
      · rw [if_neg c14] at h
        refine ez_go ez_h73 7 (pc' := 133) (L' := [some (.ref 0), some (.int (nI (x))), some (.int (nI (y)))]) (st' := [.int (nI (x)), .ref 3]) (w' := mz_w (msz, mord, 1, (nI (x)), mnx, (mcmp + 1), (mlat + 1), mnum, mset, mrow) Q U T) rfl ?_
        refine ez_ald ez_h73 rfl rfl (x) rfl (by omega) (by omega) ?_
        refine ez_go ez_h73 1 (pc' := bif decide ((mset (x)) < 0) then 165 else 137) (L' := [some (.ref 0), some (.int (nI (x))), some (.int (nI (y)))]) (st' := []) (w' := mz_w (msz, mord, 1, (nI (x)), mnx, (mcmp + 1), (mlat + 1), mnum, mset, mrow) Q U T) rfl ?_
        refine ez_if (fun c22 => ?_) (fun c22 => ?_)
        · rw [if_pos c22] at h
          refine ez_go ez_h73 1 (pc' := 166) (L' := [some (.ref 0), some (.int (nI (x))), some (.int (nI (y)))]) (st' := [.int (nI (0))]) (w' := mz_w (msz, mord, 1, (nI (x)), mnx, (mcmp + 1), (mlat + 1), mnum, mset, mrow) Q U T) rfl ?_
          exact ez_zret rfl ez_h73 rfl rfl (by first | exact Or.inl rfl | exact Or.inr rfl) h
        · rw [if_neg c22] at h
          refine ez_go ez_h73 3 (pc' := 142) (L' := [some (.ref 0), some (.int (nI (x))), some (.int (nI (y)))]) (st' := [.int (nI (y)), .ref 3]) (w' := mz_w (msz, mord, 1, (nI (x)), mnx, (mcmp + 1), (mlat + 1), mnum, mset, mrow) Q U T) rfl ?_
          refine ez_ald ez_h73 rfl rfl (y) rfl (by omega) (by omega) ?_
          refine ez_go ez_h73 1 (pc' := bif decide ((mset (y)) < 0) then 161 else 146) (L' := [some (.ref 0), some (.int (nI (x))), some (.int (nI (y)))]) (st' := []) (w' := mz_w (msz, mord, 1, (nI (x)), mnx, (mcmp + 1), (mlat + 1), mnum, mset, mrow) Q U T) rfl ?_
          refine ez_if (fun c23 => ?_) (fun c23 => ?_)
          · rw [if_pos c23] at h
            refine ez_go ez_h73 2 (pc' := 166) (L' := [some (.ref 0), some (.int (nI (x))), some (.int (nI (y)))]) (st' := [.int (nI (1))]) (w' := mz_w (msz, mord, 1, (nI (x)), mnx, (mcmp + 1), (mlat + 1), mnum, mset, mrow) Q U T) rfl ?_
            exact ez_zret rfl ez_h73 rfl rfl (by first | exact Or.inl rfl | exact Or.inr rfl) h
          · rw [if_neg c23] at h
            refine ez_go ez_h73 3 (pc' := 151) (L' := [some (.ref 0), some (.int (nI (x))), some (.int (nI (y)))]) (st' := [.int (nI (x)), .ref 3]) (w' := mz_w (msz, mord, 1, (nI (x)), mnx, (mcmp + 1), (mlat + 1), mnum, mset, mrow) Q U T) rfl ?_
            refine ez_ald ez_h73 rfl rfl (x) rfl (by omega) (by omega) ?_
            refine ez_go ez_h73 3 (pc' := 157) (L' := [some (.ref 0), some (.int (nI (x))), some (.int (nI (y)))]) (st' := [.int (nI (y)), .ref 3, .int (mset (x))]) (w' := mz_w (msz, mord, 1, (nI (x)), mnx, (mcmp + 1), (mlat + 1), mnum, mset, mrow) Q U T) rfl ?_
            refine ez_ald ez_h73 rfl rfl (y) rfl (by omega) (by omega) ?_
            refine ez_go ez_h73 1 (pc' := bif decide ((mset (y)) ≤ (mset (x))) then 165 else 161) (L' := [some (.ref 0), some (.int (nI (x))), some (.int (nI (y)))]) (st' := []) (w' := mz_w (msz, mord, 1, (nI (x)), mnx, (mcmp + 1), (mlat + 1), mnum, mset, mrow) Q U T) rfl ?_
            refine ez_if (fun c24 => ?_) (fun c24 => ?_)
            · rw [if_pos c24] at h
              refine ez_go ez_h73 1 (pc' := 166) (L' := [some (.ref 0), some (.int (nI (x))), some (.int (nI (y)))]) (st' := [.int (nI (0))]) (w' := mz_w (msz, mord, 1, (nI (x)), mnx, (mcmp + 1), (mlat + 1), mnum, mset, mrow) Q U T) rfl ?_
              exact ez_zret rfl ez_h73 rfl rfl (by first | exact Or.inl rfl | exact Or.inr rfl) h
            · rw [if_neg c24] at h
              refine ez_go ez_h73 2 (pc' := 166) (L' := [some (.ref 0), some (.int (nI (x))), some (.int (nI (y)))]) (st' := [.int (nI (1))]) (w' := mz_w (msz, mord, 1, (nI (x)), mnx, (mcmp + 1), (mlat + 1), mnum, mset, mrow) Q U T) rfl ?_
              exact ez_zret rfl ez_h73 rfl rfl (by first | exact Or.inl rfl | exact Or.inr rfl) h
    · rw [if_neg c13] at h
      refine ez_go ez_h73 6 (pc' := bif decide (¬ mcand = (nI (x))) then 81 else 77) (L' := [some (.ref 0), some (.int (nI (x))), some (.int (nI (y)))]) (st' := [.ref 3]) (w' := mz_w (msz, mord, 1, mcand, mnx, (mcmp + 1), (mlat + 1), mnum, mset, mrow) Q U T) rfl ?_
      refine ez_if (fun c25 => ?_) (fun c25 => ?_)
      · rw [if_neg c25] at h
        refine ez_go ez_h73 3 (pc' := 86) (L' := [some (.ref 0), some (.int (nI (x))), some (.int (nI (y)))]) (st' := [.int (mnx), .int (nI (y)), .ref 3]) (w' := mz_w (msz, mord, 1, mcand, mnx, (mcmp + 1), (mlat + 1), mnum, mset, mrow) Q U T) rfl ?_
        refine ez_ast ez_h73 rfl rfl (y) rfl (by omega) (by omega) ?_
        refine ez_go ez_h73 9 (pc' := 102) (L' := [some (.ref 0), some (.int (nI (x))), some (.int (nI (y)))]) (st' := [.int (nI (x)), .ref 3]) (w' := mz_w (msz, mord, 1, mcand, (mnx + (nI (1))), (mcmp + 1), (mlat + 1), mnum, (upd mset (y) mnx), mrow) Q U T) rfl ?_
        refine ez_ald ez_h73 rfl rfl (x) rfl (by omega) (by omega) ?_
        refine ez_go ez_h73 1 (pc' := bif decide (0 ≤ ((upd mset (y) mnx) (x))) then 114 else 106) (L' := [some (.ref 0), some (.int (nI (x))), some (.int (nI (y)))]) (st' := []) (w' := mz_w (msz, mord, 1, mcand, (mnx + (nI (1))), (mcmp + 1), (mlat + 1), mnum, (upd mset (y) mnx), mrow) Q U T) rfl ?_
        refine ez_if (fun c26 => ?_) (fun c26 => ?_)
        · rw [if_pos c26] at h
          refine ez_go ez_h73 3 (pc' := 119) (L' := [some (.ref 0), some (.int (nI (x))), some (.int (nI (y)))]) (st' := [.int (nI (y)), .ref 3]) (w' := mz_w (msz, mord, 1, mcand, (mnx + (nI (1))), (mcmp + 1), (mlat + 1), mnum, (upd mset (y) mnx), mrow) Q U T) rfl ?_
          refine ez_ald ez_h73 rfl rfl (y) rfl (by omega) (by omega) ?_
          refine ez_go ez_h73 1 (pc' := bif decide (0 ≤ ((upd mset (y) mnx) (y))) then 128 else 123) (L' := [some (.ref 0), some (.int (nI (x))), some (.int (nI (y)))]) (st' := []) (w' := mz_w (msz, mord, 1, mcand, (mnx + (nI (1))), (mcmp + 1), (mlat + 1), mnum, (upd mset (y) mnx), mrow) Q U T) rfl ?_
          refine ez_if (fun c27 => ?_) (fun c27 => ?_)
          · rw [if_pos c27] at h
            refine ez_go ez_h73 3 (pc' := 133) (L' := [some (.ref 0), some (.int (nI (x))), some (.int (nI (y)))]) (st' := [.int (nI (x)), .ref 3]) (w' := mz_w (msz, mord, 1, mcand, (mnx + (nI (1))), (mcmp + 1), (mlat + 1), mnum, (upd mset (y) mnx), mrow) Q U T) rfl ?_
            refine ez_ald ez_h73 rfl rfl (x) rfl (by omega) (by omega) ?_
            refine ez_go ez_h73 1 (pc' := bif decide (((upd mset (y) mnx) (x)) < 0) then 165 else 137) (L' := [some (.ref 0), some (.int (nI (x))), some (.int (nI (y)))]) (st' := []) (w' := mz_w (msz, mord, 1, mcand, (mnx + (nI (1))), (mcmp + 1), (mlat + 1), mnum, (upd mset (y) mnx), mrow) Q U T) rfl ?_
            refine ez_if (fun c28 => ?_) (fun c28 => ?_)
            · rw [if_pos c28] at h
              refine ez_go ez_h73 1 (pc' := 166) (L' := [some (.ref 0), some (.int (nI (x))), some (.int (nI (y)))]) (st' := [.int (nI (0))]) (w' := mz_w (msz, mord, 1, mcand, (mnx + (nI (1))), (mcmp + 1), (mlat + 1), mnum, (upd mset (y) mnx), mrow) Q U T) rfl ?_
              exact ez_zret rfl ez_h73 rfl rfl (by first | exact Or.inl rfl | exact Or.inr rfl) h
            · rw [if_neg c28] at h
              refine ez_go ez_h73 3 (pc' := 142) (L' := [some (.ref 0), some (.int (nI (x))), some (.int (nI (y)))]) (st' := [.int (nI (y)), .ref 3]) (w' := mz_w (msz, mord, 1, mcand, (mnx + (nI (1))), (mcmp + 1), (mlat + 1), mnum, (upd mset (y) mnx), mrow) Q U T) rfl ?_
              refine ez_ald ez_h73 rfl rfl (y) rfl (by omega) (by omega) ?_
              refine ez_go ez_h73 1 (pc' := bif decide (((upd mset (y) mnx) (y)) < 0) then 161 else 146) (L' := [some (.ref 0), some (.int (nI (x))), some (.int (nI (y)))]) (st' := []) (w' := mz_w (msz, mord, 1, mcand, (mnx + (nI (1))), (mcmp + 1), (mlat + 1), mnum, (upd mset (y) mnx), mrow) Q U T) rfl ?_
              refine ez_if (fun c29 => ?_) (fun c29 => ?_)
              · rw [if_pos c29] at h
                refine ez_go ez_h73 2 (pc' := 166) (L' := [some (.ref 0), some (.int (nI (x))), some (.int (nI (y)))]) (st' := [.int (nI (1))]) (w' := mz_w (msz, mord, 1, mcand, (mnx + (nI (1))), (mcmp + 1), (mlat + 1), mnum, (upd mset (y) mnx), mrow) Q U T) rfl ?_
                exact ez_zret rfl ez_h73 rfl rfl (by first | exact Or.inl rfl | exact Or.inr rfl) h
              · rw [if_neg c29] at h
                refine ez_go ez_h73 3 (pc' := 151) (L' := [some (.ref 0), some (.int (nI (x))), some (.int (nI (y)))]) (st' := [.int (nI (x)), .ref 3]) (w' := mz_w (msz, mord, 1, mcand, (mnx + (nI (1))), (mcmp + 1), (mlat + 1), mnum, (upd mset (y) mnx), mrow) Q U T) rfl ?_
                refine ez_ald ez_h73 rfl rfl (x) rfl (by omega) (by omega) ?_
                refine ez_go ez_h73 3 (pc' := 157) (L' := [some (.ref 0), some (.int (nI (x))), some (.int (nI (y)))]) (st' := [.int (nI (y)), .ref 3, .int ((upd mset (y) mnx) (x))]) (w' := mz_w (msz, mord, 1, mcand, (mnx + (nI (1))), (mcmp + 1), (mlat + 1), mnum, (upd mset (y) mnx), mrow) Q U T) rfl ?_
                refine ez_ald ez_h73 rfl rfl (y) rfl (by omega) (by omega) ?_
                refine ez_go ez_h73 1 (pc' := bif decide (((upd mset (y) mnx) (y)) ≤ ((upd mset (y) mnx) (x))) then 165 else 161) (L' := [some (.ref 0), some (.int (nI (x))), some (.int (nI (y)))]) (st' := []) (w' := mz_w (msz, mord, 1, mcand, (mnx + (nI (1))), (mcmp + 1), (mlat + 1), mnum, (upd mset (y) mnx), mrow) Q U T) rfl ?_
                refine ez_if (fun c30 => ?_) (fun c30 => ?_)
                · rw [if_pos c30] at h
                  refine ez_go ez_h73 1 (pc' := 166) (L' := [some (.ref 0), some (.int (nI (x))), some (.int (nI (y)))]) (st' := [.int (nI (0))]) (w' := mz_w (msz, mord, 1, mcand, (mnx + (nI (1))), (mcmp + 1), (mlat + 1), mnum, (upd mset (y) mnx), mrow) Q U T) rfl ?_
                  exact ez_zret rfl ez_h73 rfl rfl (by first | exact Or.inl rfl | exact Or.inr rfl) h
                · rw [if_neg c30] at h
                  refine ez_go ez_h73 2 (pc' := 166) (L' := [some (.ref 0), some (.int (nI (x))), some (.int (nI (y)))]) (st' := [.int (nI (1))]) (w' := mz_w (msz, mord, 1, mcand, (mnx + (nI (1))), (mcmp + 1), (mlat + 1), mnum, (upd mset (y) mnx), mrow) Q U T) rfl ?_
                  exact ez_zret rfl ez_h73 rfl rfl (by first | exact Or.inl rfl | exact Or.inr rfl) h
          · rw [if_neg c27] at h
            refine ez_go ez_h73 6 (pc' := 133) (L' := [some (.ref 0), some (.int (nI (x))), some (.int (nI (y)))]) (st' := [.int (nI (x)), .ref 3]) (w' := mz_w (msz, mord, 1, (nI (y)), (mnx + (nI (1))), (mcmp + 1), (mlat + 1), mnum, (upd mset (y) mnx), mrow) Q U T) rfl ?_
            refine ez_ald ez_h73 rfl rfl (x) rfl (by omega) (by omega) ?_
            refine ez_go ez_h73 1 (pc' := bif decide (((upd mset (y) mnx) (x)) < 0) then 165 else 137) (L' := [some (.ref 0), some (.int (nI (x))), some (.int (nI (y)))]) (st' := []) (w' := mz_w (msz, mord, 1, (nI (y)), (mnx + (nI (1))), (mcmp + 1), (mlat + 1), mnum, (upd mset (y) mnx), mrow) Q U T) rfl ?_
            refine ez_if (fun c31 => ?_) (fun c31 => ?_)
            · rw [if_pos c31] at h
              refine ez_go ez_h73 1 (pc' := 166) (L' := [some (.ref 0), some (.int (nI (x))), some (.int (nI (y)))]) (st' := [.int (nI (0))]) (w' := mz_w (msz, mord, 1, (nI (y)), (mnx + (nI (1))), (mcmp + 1), (mlat + 1), mnum, (upd mset (y) mnx), mrow) Q U T) rfl ?_
              exact ez_zret rfl ez_h73 rfl rfl (by first | exact Or.inl rfl | exact Or.inr rfl) h
            · rw [if_neg c31] at h
              refine ez_go ez_h73 3 (pc' := 142) (L' := [some (.ref 0), some (.int (nI (x))), some (.int (nI (y)))]) (st' := [.int (nI (y)), .ref 3]) (w' := mz_w (msz, mord, 1, (nI (y)), (mnx + (nI (1))), (mcmp + 1), (mlat + 1), mnum, (upd mset (y) mnx), mrow) Q U T) rfl ?_
              refine ez_ald ez_h73 rfl rfl (y) rfl (by omega) (by omega) ?_
              refine ez_go ez_h73 1 (pc' := bif decide (((upd mset (y) mnx) (y)) < 0) then 161 else 146) (L' := [some (.ref 0), some (.int (nI (x))), some (.int (nI (y)))]) (st' := []) (w' := mz_w (msz, mord, 1, (nI (y)), (mnx + (nI (1))), (mcmp + 1), (mlat + 1), mnum, (upd mset (y) mnx), mrow) Q U T) rfl ?_
              refine ez_if (fun c32 => ?_) (fun c32 => ?_)
              · rw [if_pos c32] at h
                refine ez_go ez_h73 2 (pc' := 166) (L' := [some (.ref 0), some (.int (nI (x))), some (.int (nI (y)))]) (st' := [.int (nI (1))]) (w' := mz_w (msz, mord, 1, (nI (y)), (mnx + (nI (1))), (mcmp + 1), (mlat + 1), mnum, (upd mset (y) mnx), mrow) Q U T) rfl ?_
                exact ez_zret rfl ez_h73 rfl rfl (by first | exact Or.inl rfl | exact Or.inr rfl) h
              · rw [if_neg c32] at h
                refine ez_go ez_h73 3 (pc' := 151) (L' := [some (.ref 0), some (.int (nI (x))), some (.int (nI (y)))]) (st' := [.int (nI (x)), .ref 3]) (w' := mz_w (msz, mord, 1, (nI (y)), (mnx + (nI (1))), (mcmp + 1), (mlat + 1), mnum, (upd mset (y) mnx), mrow) Q U T) rfl ?_
                refine ez_ald ez_h73 rfl rfl (x) rfl (by omega) (by omega) ?_
                refine ez_go ez_h73 3 (pc' := 157) (L' := [some (.ref 0), some (.int (nI (x))), some (.int (nI (y)))]) (st' := [.int (nI (y)), .ref 3, .int ((upd mset (y) mnx) (x))]) (w' := mz_w (msz, mord, 1, (nI (y)), (mnx + (nI (1))), (mcmp + 1), (mlat + 1), mnum, (upd mset (y) mnx), mrow) Q U T) rfl ?_
                refine ez_ald ez_h73 rfl rfl (y) rfl (by omega) (by omega) ?_
                refine ez_go ez_h73 1 (pc' := bif decide (((upd mset (y) mnx) (y)) ≤ ((upd mset (y) mnx) (x))) then 165 else 161) (L' := [some (.ref 0), some (.int (nI (x))), some (.int (nI (y)))]) (st' := []) (w' := mz_w (msz, mord, 1, (nI (y)), (mnx + (nI (1))), (mcmp + 1), (mlat + 1), mnum, (upd mset (y) mnx), mrow) Q U T) rfl ?_
                refine ez_if (fun c33 => ?_) (fun c33 => ?_)
                · rw [if_pos c33] at h
                  refine ez_go ez_h73 1 (pc' := 166) (L' := [some (.ref 0), some (.int (nI (x))), some (.int (nI (y)))]) (st' := [.int (nI (0))]) (w' := mz_w (msz, mord, 1, (nI (y)), (mnx + (nI (1))), (mcmp + 1), (mlat + 1), mnum, (upd mset (y) mnx), mrow) Q U T) rfl ?_
                  exact ez_zret rfl ez_h73 rfl rfl (by first | exact Or.inl rfl | exact Or.inr rfl) h
                · rw [if_neg c33] at h
                  refine ez_go ez_h73 2 (pc' := 166) (L' := [some (.ref 0), some (.int (nI (x))), some (.int (nI (y)))]) (st' := [.int (nI (1))]) (w' := mz_w (msz, mord, 1, (nI (y)), (mnx + (nI (1))), (mcmp + 1), (mlat + 1), mnum, (upd mset (y) mnx), mrow) Q U T) rfl ?_
                  exact ez_zret rfl ez_h73 rfl rfl (by first | exact Or.inl rfl | exact Or.inr rfl) h
        · rw [if_neg c26] at h
          refine ez_go ez_h73 7 (pc' := 133) (L' := [some (.ref 0), some (.int (nI (x))), some (.int (nI (y)))]) (st' := [.int (nI (x)), .ref 3]) (w' := mz_w (msz, mord, 1, (nI (x)), (mnx + (nI (1))), (mcmp + 1), (mlat + 1), mnum, (upd mset (y) mnx), mrow) Q U T) rfl ?_
          refine ez_ald ez_h73 rfl rfl (x) rfl (by omega) (by omega) ?_
          refine ez_go ez_h73 1 (pc' := bif decide (((upd mset (y) mnx) (x)) < 0) then 165 else 137) (L' := [some (.ref 0), some (.int (nI (x))), some (.int (nI (y)))]) (st' := []) (w' := mz_w (msz, mord, 1, (nI (x)), (mnx + (nI (1))), (mcmp + 1), (mlat + 1), mnum, (upd mset (y) mnx), mrow) Q U T) rfl ?_
          refine ez_if (fun c34 => ?_) (fun c34 => ?_)
          · rw [if_pos c34] at h
            refine ez_go ez_h73 1 (pc' := 166) (L' := [some (.ref 0), some (.int (nI (x))), some (.int (nI (y)))]) (st' := [.int (nI (0))]) (w' := mz_w (msz, mord, 1, (nI (x)), (mnx + (nI (1))), (mcmp + 1), (mlat + 1), mnum, (upd mset (y) mnx), mrow) Q U T) rfl ?_
            exact ez_zret rfl ez_h73 rfl rfl (by first | exact Or.inl rfl | exact Or.inr rfl) h
          · rw [if_neg c34] at h
            refine ez_go ez_h73 3 (pc' := 142) (L' := [some (.ref 0), some (.int (nI (x))), some (.int (nI (y)))]) (st' := [.int (nI (y)), .ref 3]) (w' := mz_w (msz, mord, 1, (nI (x)), (mnx + (nI (1))), (mcmp + 1), (mlat + 1), mnum, (upd mset (y) mnx), mrow) Q U T) rfl ?_
            refine ez_ald ez_h73 rfl rfl (y) rfl (by omega) (by omega) ?_
            refine ez_go ez_h73 1 (pc' := bif decide (((upd mset (y) mnx) (y)) < 0) then 161 else 146) (L' := [some (.ref 0), some (.int (nI (x))), some (.int (nI (y)))]) (st' := []) (w' := mz_w (msz, mord, 1, (nI (x)), (mnx + (nI (1))), (mcmp + 1), (mlat + 1), mnum, (upd mset (y) mnx), mrow) Q U T) rfl ?_
            refine ez_if (fun c35 => ?_) (fun c35 => ?_)
            · rw [if_pos c35] at h
              refine ez_go ez_h73 2 (pc' := 166) (L' := [some (.ref 0), some (.int (nI (x))), some (.int (nI (y)))]) (st' := [.int (nI (1))]) (w' := mz_w (msz, mord, 1, (nI (x)), (mnx + (nI (1))), (mcmp + 1), (mlat + 1), mnum, (upd mset (y) mnx), mrow) Q U T) rfl ?_
              exact ez_zret rfl ez_h73 rfl rfl (by first | exact Or.inl rfl | exact Or.inr rfl) h
            · rw [if_neg c35] at h
              refine ez_go ez_h73 3 (pc' := 151) (L' := [some (.ref 0), some (.int (nI (x))), some (.int (nI (y)))]) (st' := [.int (nI (x)), .ref 3]) (w' := mz_w (msz, mord, 1, (nI (x)), (mnx + (nI (1))), (mcmp + 1), (mlat + 1), mnum, (upd mset (y) mnx), mrow) Q U T) rfl ?_
              refine ez_ald ez_h73 rfl rfl (x) rfl (by omega) (by omega) ?_
              refine ez_go ez_h73 3 (pc' := 157) (L' := [some (.ref 0), some (.int (nI (x))), some (.int (nI (y)))]) (st' := [.int (nI (y)), .ref 3, .int ((upd mset (y) mnx) (x))]) (w' := mz_w (msz, mord, 1, (nI (x)), (mnx + (nI (1))), (mcmp + 1), (mlat + 1), mnum, (upd mset (y) mnx), mrow) Q U T) rfl ?_
              refine ez_ald ez_h73 rfl rfl (y) rfl (by omega) (by omega) ?_
              refine ez_go ez_h73 1 (pc' := bif decide (((upd mset (y) mnx) (y)) ≤ ((upd mset (y) mnx) (x))) then 165 else 161) (L' := [some (.ref 0), some (.int (nI (x))), some (.int (nI (y)))]) (st' := []) (w' := mz_w (msz, mord, 1, (nI (x)), (mnx + (nI (1))), (mcmp + 1), (mlat + 1), mnum, (upd mset (y) mnx), mrow) Q U T) rfl ?_
              refine ez_if (fun c36 => ?_) (fun c36 => ?_)
              · rw [if_pos c36] at h
                refine ez_go ez_h73 1 (pc' := 166) (L' := [some (.ref 0), some (.int (nI (x))), some (.int (nI (y)))]) (st' := [.int (nI (0))]) (w' := mz_w (msz, mord, 1, (nI (x)), (mnx + (nI (1))), (mcmp + 1), (mlat + 1), mnum, (upd mset (y) mnx), mrow) Q U T) rfl ?_
                exact ez_zret rfl ez_h73 rfl rfl (by first | exact Or.inl rfl | exact Or.inr rfl) h
              · rw [if_neg c36] at h
                refine ez_go ez_h73 2 (pc' := 166) (L' := [some (.ref 0), some (.int (nI (x))), some (.int (nI (y)))]) (st' := [.int (nI (1))]) (w' := mz_w (msz, mord, 1, (nI (x)), (mnx + (nI (1))), (mcmp + 1), (mlat + 1), mnum, (upd mset (y) mnx), mrow) Q U T) rfl ?_
                exact ez_zret rfl ez_h73 rfl rfl (by first | exact Or.inl rfl | exact Or.inr rfl) h
      · rw [if_pos (Decidable.not_not.mp c25)] at h
        refine ez_go ez_h73 4 (pc' := 86) (L' := [some (.ref 0), some (.int (nI (x))), some (.int (nI (y)))]) (st' := [.int (mnx), .int (nI (x)), .ref 3]) (w' := mz_w (msz, mord, 1, mcand, mnx, (mcmp + 1), (mlat + 1), mnum, mset, mrow) Q U T) rfl ?_
        refine ez_ast ez_h73 rfl rfl (x) rfl (by omega) (by omega) ?_
        refine ez_go ez_h73 9 (pc' := 102) (L' := [some (.ref 0), some (.int (nI (x))), some (.int (nI (y)))]) (st' := [.int (nI (x)), .ref 3]) (w' := mz_w (msz, mord, 1, mcand, (mnx + (nI (1))), (mcmp + 1), (mlat + 1), mnum, (upd mset (x) mnx), mrow) Q U T) rfl ?_
        refine ez_ald ez_h73 rfl rfl (x) rfl (by omega) (by omega) ?_
        refine ez_go ez_h73 1 (pc' := bif decide (0 ≤ ((upd mset (x) mnx) (x))) then 114 else 106) (L' := [some (.ref 0), some (.int (nI (x))), some (.int (nI (y)))]) (st' := []) (w' := mz_w (msz, mord, 1, mcand, (mnx + (nI (1))), (mcmp + 1), (mlat + 1), mnum, (upd mset (x) mnx), mrow) Q U T) rfl ?_
        refine ez_if (fun c37 => ?_) (fun c37 => ?_)
        · rw [if_pos c37] at h
          refine ez_go ez_h73 3 (pc' := 119) (L' := [some (.ref 0), some (.int (nI (x))), some (.int (nI (y)))]) (st' := [.int (nI (y)), .ref 3]) (w' := mz_w (msz, mord, 1, mcand, (mnx + (nI (1))), (mcmp + 1), (mlat + 1), mnum, (upd mset (x) mnx), mrow) Q U T) rfl ?_
          refine ez_ald ez_h73 rfl rfl (y) rfl (by omega) (by omega) ?_
          refine ez_go ez_h73 1 (pc' := bif decide (0 ≤ ((upd mset (x) mnx) (y))) then 128 else 123) (L' := [some (.ref 0), some (.int (nI (x))), some (.int (nI (y)))]) (st' := []) (w' := mz_w (msz, mord, 1, mcand, (mnx + (nI (1))), (mcmp + 1), (mlat + 1), mnum, (upd mset (x) mnx), mrow) Q U T) rfl ?_
          refine ez_if (fun c38 => ?_) (fun c38 => ?_)
          · rw [if_pos c38] at h
            refine ez_go ez_h73 3 (pc' := 133) (L' := [some (.ref 0), some (.int (nI (x))), some (.int (nI (y)))]) (st' := [.int (nI (x)), .ref 3]) (w' := mz_w (msz, mord, 1, mcand, (mnx + (nI (1))), (mcmp + 1), (mlat + 1), mnum, (upd mset (x) mnx), mrow) Q U T) rfl ?_
            refine ez_ald ez_h73 rfl rfl (x) rfl (by omega) (by omega) ?_
            refine ez_go ez_h73 1 (pc' := bif decide (((upd mset (x) mnx) (x)) < 0) then 165 else 137) (L' := [some (.ref 0), some (.int (nI (x))), some (.int (nI (y)))]) (st' := []) (w' := mz_w (msz, mord, 1, mcand, (mnx + (nI (1))), (mcmp + 1), (mlat + 1), mnum, (upd mset (x) mnx), mrow) Q U T) rfl ?_
            refine ez_if (fun c39 => ?_) (fun c39 => ?_)
            · rw [if_pos c39] at h
              refine ez_go ez_h73 1 (pc' := 166) (L' := [some (.ref 0), some (.int (nI (x))), some (.int (nI (y)))]) (st' := [.int (nI (0))]) (w' := mz_w (msz, mord, 1, mcand, (mnx + (nI (1))), (mcmp + 1), (mlat + 1), mnum, (upd mset (x) mnx), mrow) Q U T) rfl ?_
              exact ez_zret rfl ez_h73 rfl rfl (by first | exact Or.inl rfl | exact Or.inr rfl) h
            · rw [if_neg c39] at h
              refine ez_go ez_h73 3 (pc' := 142) (L' := [some (.ref 0), some (.int (nI (x))), some (.int (nI (y)))]) (st' := [.int (nI (y)), .ref 3]) (w' := mz_w (msz, mord, 1, mcand, (mnx + (nI (1))), (mcmp + 1), (mlat + 1), mnum, (upd mset (x) mnx), mrow) Q U T) rfl ?_
              refine ez_ald ez_h73 rfl rfl (y) rfl (by omega) (by omega) ?_
              refine ez_go ez_h73 1 (pc' := bif decide (((upd mset (x) mnx) (y)) < 0) then 161 else 146) (L' := [some (.ref 0), some (.int (nI (x))), some (.int (nI (y)))]) (st' := []) (w' := mz_w (msz, mord, 1, mcand, (mnx + (nI (1))), (mcmp + 1), (mlat + 1), mnum, (upd mset (x) mnx), mrow) Q U T) rfl ?_
              refine ez_if (fun c40 => ?_) (fun c40 => ?_)
              · rw [if_pos c40] at h
                refine ez_go ez_h73 2 (pc' := 166) (L' := [some (.ref 0), some (.int (nI (x))), some (.int (nI (y)))]) (st' := [.int (nI (1))]) (w' := mz_w (msz, mord, 1, mcand, (mnx + (nI (1))), (mcmp + 1), (mlat + 1), mnum, (upd mset (x) mnx), mrow) Q U T) rfl ?_
                exact ez_zret rfl ez_h73 rfl rfl (by first | exact Or.inl rfl | exact Or.inr rfl) h
              · rw [if_neg c40] at h
                refine ez_go ez_h73 3 (pc' := 151) (L' := [some (.ref 0), some (.int (nI (x))), some (.int (nI (y)))]) (st' := [.int (nI (x)), .ref 3]) (w' := mz_w (msz, mord, 1, mcand, (mnx + (nI (1))), (mcmp + 1), (mlat + 1), mnum, (upd mset (x) mnx), mrow) Q U T) rfl ?_
                refine ez_ald ez_h73 rfl rfl (x) rfl (by omega) (by omega) ?_
                refine ez_go ez_h73 3 (pc' := 157) (L' := [some (.ref 0), some (.int (nI (x))), some (.int (nI (y)))]) (st' := [.int (nI (y)), .ref 3, .int ((upd mset (x) mnx) (x))]) (w' := mz_w (msz, mord, 1, mcand, (mnx + (nI (1))), (mcmp + 1), (mlat + 1), mnum, (upd mset (x) mnx), mrow) Q U T) rfl ?_
                refine ez_ald ez_h73 rfl rfl (y) rfl (by omega) (by omega) ?_
                refine ez_go ez_h73 1 (pc' := bif decide (((upd mset (x) mnx) (y)) ≤ ((upd mset (x) mnx) (x))) then 165 else 161) (L' := [some (.ref 0), some (.int (nI (x))), some (.int (nI (y)))]) (st' := []) (w' := mz_w (msz, mord, 1, mcand, (mnx + (nI (1))), (mcmp + 1), (mlat + 1), mnum, (upd mset (x) mnx), mrow) Q U T) rfl ?_
                refine ez_if (fun c41 => ?_) (fun c41 => ?_)
                · rw [if_pos c41] at h
                  refine ez_go ez_h73 1 (pc' := 166) (L' := [some (.ref 0), some (.int (nI (x))), some (.int (nI (y)))]) (st' := [.int (nI (0))]) (w' := mz_w (msz, mord, 1, mcand, (mnx + (nI (1))), (mcmp + 1), (mlat + 1), mnum, (upd mset (x) mnx), mrow) Q U T) rfl ?_
                  exact ez_zret rfl ez_h73 rfl rfl (by first | exact Or.inl rfl | exact Or.inr rfl) h
                · rw [if_neg c41] at h
                  refine ez_go ez_h73 2 (pc' := 166) (L' := [some (.ref 0), some (.int (nI (x))), some (.int (nI (y)))]) (st' := [.int (nI (1))]) (w' := mz_w (msz, mord, 1, mcand, (mnx + (nI (1))), (mcmp + 1), (mlat + 1), mnum, (upd mset (x) mnx), mrow) Q U T) rfl ?_
                  exact ez_zret rfl ez_h73 rfl rfl (by first | exact Or.inl rfl | exact Or.inr rfl) h
          · rw [if_neg c38] at h
            refine ez_go ez_h73 6 (pc' := 133) (L' := [some (.ref 0), some (.int (nI (x))), some (.int (nI (y)))]) (st' := [.int (nI (x)), .ref 3]) (w' := mz_w (msz, mord, 1, (nI (y)), (mnx + (nI (1))), (mcmp + 1), (mlat + 1), mnum, (upd mset (x) mnx), mrow) Q U T) rfl ?_
            refine ez_ald ez_h73 rfl rfl (x) rfl (by omega) (by omega) ?_
            refine ez_go ez_h73 1 (pc' := bif decide (((upd mset (x) mnx) (x)) < 0) then 165 else 137) (L' := [some (.ref 0), some (.int (nI (x))), some (.int (nI (y)))]) (st' := []) (w' := mz_w (msz, mord, 1, (nI (y)), (mnx + (nI (1))), (mcmp + 1), (mlat + 1), mnum, (upd mset (x) mnx), mrow) Q U T) rfl ?_
            refine ez_if (fun c42 => ?_) (fun c42 => ?_)
            · rw [if_pos c42] at h
              refine ez_go ez_h73 1 (pc' := 166) (L' := [some (.ref 0), some (.int (nI (x))), some (.int (nI (y)))]) (st' := [.int (nI (0))]) (w' := mz_w (msz, mord, 1, (nI (y)), (mnx + (nI (1))), (mcmp + 1), (mlat + 1), mnum, (upd mset (x) mnx), mrow) Q U T) rfl ?_
              exact ez_zret rfl ez_h73 rfl rfl (by first | exact Or.inl rfl | exact Or.inr rfl) h
            · rw [if_neg c42] at h
              refine ez_go ez_h73 3 (pc' := 142) (L' := [some (.ref 0), some (.int (nI (x))), some (.int (nI (y)))]) (st' := [.int (nI (y)), .ref 3]) (w' := mz_w (msz, mord, 1, (nI (y)), (mnx + (nI (1))), (mcmp + 1), (mlat + 1), mnum, (upd mset (x) mnx), mrow) Q U T) rfl ?_
              refine ez_ald ez_h73 rfl rfl (y) rfl (by omega) (by omega) ?_
              refine ez_go ez_h73 1 (pc' := bif decide (((upd mset (x) mnx) (y)) < 0) then 161 else 146) (L' := [some (.ref 0), some (.int (nI (x))), some (.int (nI (y)))]) (st' := []) (w' := mz_w (msz, mord, 1, (nI (y)), (mnx + (nI (1))), (mcmp + 1), (mlat + 1), mnum, (upd mset (x) mnx), mrow) Q U T) rfl ?_
              refine ez_if (fun c43 => ?_) (fun c43 => ?_)
              · rw [if_pos c43] at h
                refine ez_go ez_h73 2 (pc' := 166) (L' := [some (.ref 0), some (.int (nI (x))), some (.int (nI (y)))]) (st' := [.int (nI (1))]) (w' := mz_w (msz, mord, 1, (nI (y)), (mnx + (nI (1))), (mcmp + 1), (mlat + 1), mnum, (upd mset (x) mnx), mrow) Q U T) rfl ?_
                exact ez_zret rfl ez_h73 rfl rfl (by first | exact Or.inl rfl | exact Or.inr rfl) h
              · rw [if_neg c43] at h
                refine ez_go ez_h73 3 (pc' := 151) (L' := [some (.ref 0), some (.int (nI (x))), some (.int (nI (y)))]) (st' := [.int (nI (x)), .ref 3]) (w' := mz_w (msz, mord, 1, (nI (y)), (mnx + (nI (1))), (mcmp + 1), (mlat + 1), mnum, (upd mset (x) mnx), mrow) Q U T) rfl ?_
                refine ez_ald ez_h73 rfl rfl (x) rfl (by omega) (by omega) ?_
                refine ez_go ez_h73 3 (pc' := 157) (L' := [some (.ref 0), some (.int (nI (x))), some (.int (nI (y)))]) (st' := [.int (nI (y)), .ref 3, .int ((upd mset (x) mnx) (x))]) (w' := mz_w (msz, mord, 1, (nI (y)), (mnx + (nI (1))), (mcmp + 1), (mlat + 1), mnum, (upd mset (x) mnx), mrow) Q U T) rfl ?_
                refine ez_ald ez_h73 rfl rfl (y) rfl (by omega) (by omega) ?_
                refine ez_go ez_h73 1 (pc' := bif decide (((upd mset (x) mnx) (y)) ≤ ((upd mset (x) mnx) (x))) then 165 else 161) (L' := [some (.ref 0), some (.int (nI (x))), some (.int (nI (y)))]) (st' := []) (w' := mz_w (msz, mord, 1, (nI (y)), (mnx + (nI (1))), (mcmp + 1), (mlat + 1), mnum, (upd mset (x) mnx), mrow) Q U T) rfl ?_
                refine ez_if (fun c44 => ?_) (fun c44 => ?_)
                · rw [if_pos c44] at h
                  refine ez_go ez_h73 1 (pc' := 166) (L' := [some (.ref 0), some (.int (nI (x))), some (.int (nI (y)))]) (st' := [.int (nI (0))]) (w' := mz_w (msz, mord, 1, (nI (y)), (mnx + (nI (1))), (mcmp + 1), (mlat + 1), mnum, (upd mset (x) mnx), mrow) Q U T) rfl ?_
                  exact ez_zret rfl ez_h73 rfl rfl (by first | exact Or.inl rfl | exact Or.inr rfl) h
                · rw [if_neg c44] at h
                  refine ez_go ez_h73 2 (pc' := 166) (L' := [some (.ref 0), some (.int (nI (x))), some (.int (nI (y)))]) (st' := [.int (nI (1))]) (w' := mz_w (msz, mord, 1, (nI (y)), (mnx + (nI (1))), (mcmp + 1), (mlat + 1), mnum, (upd mset (x) mnx), mrow) Q U T) rfl ?_
                  exact ez_zret rfl ez_h73 rfl rfl (by first | exact Or.inl rfl | exact Or.inr rfl) h
        · rw [if_neg c37] at h
          refine ez_go ez_h73 7 (pc' := 133) (L' := [some (.ref 0), some (.int (nI (x))), some (.int (nI (y)))]) (st' := [.int (nI (x)), .ref 3]) (w' := mz_w (msz, mord, 1, (nI (x)), (mnx + (nI (1))), (mcmp + 1), (mlat + 1), mnum, (upd mset (x) mnx), mrow) Q U T) rfl ?_
          refine ez_ald ez_h73 rfl rfl (x) rfl (by omega) (by omega) ?_
          refine ez_go ez_h73 1 (pc' := bif decide (((upd mset (x) mnx) (x)) < 0) then 165 else 137) (L' := [some (.ref 0), some (.int (nI (x))), some (.int (nI (y)))]) (st' := []) (w' := mz_w (msz, mord, 1, (nI (x)), (mnx + (nI (1))), (mcmp + 1), (mlat + 1), mnum, (upd mset (x) mnx), mrow) Q U T) rfl ?_
          refine ez_if (fun c45 => ?_) (fun c45 => ?_)
          · rw [if_pos c45] at h
            refine ez_go ez_h73 1 (pc' := 166) (L' := [some (.ref 0), some (.int (nI (x))), some (.int (nI (y)))]) (st' := [.int (nI (0))]) (w' := mz_w (msz, mord, 1, (nI (x)), (mnx + (nI (1))), (mcmp + 1), (mlat + 1), mnum, (upd mset (x) mnx), mrow) Q U T) rfl ?_
            exact ez_zret rfl ez_h73 rfl rfl (by first | exact Or.inl rfl | exact Or.inr rfl) h
          · rw [if_neg c45] at h
            refine ez_go ez_h73 3 (pc' := 142) (L' := [some (.ref 0), some (.int (nI (x))), some (.int (nI (y)))]) (st' := [.int (nI (y)), .ref 3]) (w' := mz_w (msz, mord, 1, (nI (x)), (mnx + (nI (1))), (mcmp + 1), (mlat + 1), mnum, (upd mset (x) mnx), mrow) Q U T) rfl ?_
            refine ez_ald ez_h73 rfl rfl (y) rfl (by omega) (by omega) ?_
            refine ez_go ez_h73 1 (pc' := bif decide (((upd mset (x) mnx) (y)) < 0) then 161 else 146) (L' := [some (.ref 0), some (.int (nI (x))), some (.int (nI (y)))]) (st' := []) (w' := mz_w (msz, mord, 1, (nI (x)), (mnx + (nI (1))), (mcmp + 1), (mlat + 1), mnum, (upd mset (x) mnx), mrow) Q U T) rfl ?_
            refine ez_if (fun c46 => ?_) (fun c46 => ?_)
            · rw [if_pos c46] at h
              refine ez_go ez_h73 2 (pc' := 166) (L' := [some (.ref 0), some (.int (nI (x))), some (.int (nI (y)))]) (st' := [.int (nI (1))]) (w' := mz_w (msz, mord, 1, (nI (x)), (mnx + (nI (1))), (mcmp + 1), (mlat + 1), mnum, (upd mset (x) mnx), mrow) Q U T) rfl ?_
              exact ez_zret rfl ez_h73 rfl rfl (by first | exact Or.inl rfl | exact Or.inr rfl) h
            · rw [if_neg c46] at h
              refine ez_go ez_h73 3 (pc' := 151) (L' := [some (.ref 0), some (.int (nI (x))), some (.int (nI (y)))]) (st' := [.int (nI (x)), .ref 3]) (w' := mz_w (msz, mord, 1, (nI (x)), (mnx + (nI (1))), (mcmp + 1), (mlat + 1), mnum, (upd mset (x) mnx), mrow) Q U T) rfl ?_
              refine ez_ald ez_h73 rfl rfl (x) rfl (by omega) (by omega) ?_
              refine ez_go ez_h73 3 (pc' := 157) (L' := [some (.ref 0), some (.int (nI (x))), some (.int (nI (y)))]) (st' := [.int (nI (y)), .ref 3, .int ((upd mset (x) mnx) (x))]) (w' := mz_w (msz, mord, 1, (nI (x)), (mnx + (nI (1))), (mcmp + 1), (mlat + 1), mnum, (upd mset (x) mnx), mrow) Q U T) rfl ?_
              refine ez_ald ez_h73 rfl rfl (y) rfl (by omega) (by omega) ?_
              refine ez_go ez_h73 1 (pc' := bif decide (((upd mset (x) mnx) (y)) ≤ ((upd mset (x) mnx) (x))) then 165 else 161) (L' := [some (.ref 0), some (.int (nI (x))), some (.int (nI (y)))]) (st' := []) (w' := mz_w (msz, mord, 1, (nI (x)), (mnx + (nI (1))), (mcmp + 1), (mlat + 1), mnum, (upd mset (x) mnx), mrow) Q U T) rfl ?_
              refine ez_if (fun c47 => ?_) (fun c47 => ?_)
              · rw [if_pos c47] at h
                refine ez_go ez_h73 1 (pc' := 166) (L' := [some (.ref 0), some (.int (nI (x))), some (.int (nI (y)))]) (st' := [.int (nI (0))]) (w' := mz_w (msz, mord, 1, (nI (x)), (mnx + (nI (1))), (mcmp + 1), (mlat + 1), mnum, (upd mset (x) mnx), mrow) Q U T) rfl ?_
                exact ez_zret rfl ez_h73 rfl rfl (by first | exact Or.inl rfl | exact Or.inr rfl) h
              · rw [if_neg c47] at h
                refine ez_go ez_h73 2 (pc' := 166) (L' := [some (.ref 0), some (.int (nI (x))), some (.int (nI (y)))]) (st' := [.int (nI (1))]) (w' := mz_w (msz, mord, 1, (nI (x)), (mnx + (nI (1))), (mcmp + 1), (mlat + 1), mnum, (upd mset (x) mnx), mrow) Q U T) rfl ?_
                exact ez_zret rfl ez_h73 rfl rfl (by first | exact Or.inl rfl | exact Or.inr rfl) h
def pf_mswap (x : Nat) (y : Nat) (msz : Int32) (mord : Int32) (madv : Int32) (mcand : Int32) (mnx : Int32) (mcmp : Int64) (mlat : Int64) (mnum : Nat → Int32) (mset : Nat → Int32) (mrow : Nat → Int32) : mz_A := ((msz, mord, madv, mcand, mnx, mcmp, mlat, mnum, mset, (upd (upd mrow (x) (mrow (y))) (y) (mrow (x)))))
set_option maxRecDepth 20000 in
theorem lf_mswap (x : Nat) (y : Nat) (hx : x < 600) (hy : y < 600) (msz : Int32) (mord : Int32) (madv : Int32) (mcand : Int32) (mnx : Int32) (mcmp : Int64) (mlat : Int64) (mnum : Nat → Int32) (mset : Nat → Int32) (mrow : Nat → Int32) (Q : mz_Q) (U : mz_U) (T : mz_T) {post : Option Value → ez_W → Prop} (h : post none (mz_w (pf_mswap x y msz mord madv mcand mnx mcmp mlat mnum mset mrow) Q U T)) : ez_m 75 [.ref 0, .int (nI (x)), .int (nI (y))] (mz_w (msz, mord, madv, mcand, mnx, mcmp, mlat, mnum, mset, mrow) Q U T) post := by
  refine ez_m.of (L := [some (.ref 0), some (.int (nI (x))), some (.int (nI (y))), none]) rfl rfl rfl ?_
  unfold pf_mswap at h
  refine ez_go ez_h75 3 (pc' := 5) (L' := [some (.ref 0), some (.int (nI (x))), some (.int (nI (y))), none]) (st' := [.int (nI (x)), .ref 4]) (w' := mz_w (msz, mord, madv, mcand, mnx, mcmp, mlat, mnum, mset, mrow) Q U T) rfl ?_
  refine ez_ald ez_h75 rfl rfl (x) rfl (by omega) (by omega) ?_
  refine ez_go ez_h75 7 (pc' := 17) (L' := [some (.ref 0), some (.int (nI (x))), some (.int (nI (y))), some (.int (mrow (x)))]) (st' := [.int (nI (y)), .ref 4, .int (nI (x)), .ref 4]) (w' := mz_w (msz, mord, madv, mcand, mnx, mcmp, mlat, mnum, mset, mrow) Q U T) rfl ?_
  refine ez_ald ez_h75 rfl rfl (y) rfl (by omega) (by omega) ?_
  refine ez_ast ez_h75 rfl rfl (x) rfl (by omega) (by omega) ?_
  refine ez_go ez_h75 4 (pc' := 25) (L' := [some (.ref 0), some (.int (nI (x))), some (.int (nI (y))), some (.int (mrow (x)))]) (st' := [.int (mrow (x)), .int (nI (y)), .ref 4]) (w' := mz_w (msz, mord, madv, mcand, mnx, mcmp, mlat, mnum, mset, (upd mrow (x) (mrow (y)))) Q U T) rfl ?_
  refine ez_ast ez_h75 rfl rfl (y) rfl (by omega) (by omega) ?_
  exact ez_vret rfl ez_h75 rfl rfl h
def pf_mswapThings (x : Nat) (y : Nat) (msz : Int32) (mord : Int32) (madv : Int32) (mcand : Int32) (mnx : Int32) (mcmp : Int64) (mlat : Int64) (mnum : Nat → Int32) (mset : Nat → Int32) (mrow : Nat → Int32) (mthr : Int32) (mtag : Nat → Int32) : mz_A × mz_T := ((msz, mord, madv, mcand, mnx, mcmp, mlat, (upd (upd mnum (x) (mnum (y))) (y) (mnum (x))), mset, mrow), (mthr, (upd (upd mtag (x) (mtag (y))) (y) (mtag (x)))))
set_option maxRecDepth 20000 in
theorem lf_mswapThings (x : Nat) (y : Nat) (hx : x < 600) (hy : y < 600) (msz : Int32) (mord : Int32) (madv : Int32) (mcand : Int32) (mnx : Int32) (mcmp : Int64) (mlat : Int64) (mnum : Nat → Int32) (mset : Nat → Int32) (mrow : Nat → Int32) (mthr : Int32) (mtag : Nat → Int32) (Q : mz_Q) (U : mz_U) {post : Option Value → ez_W → Prop} (h : post none (mz_w (pf_mswapThings x y msz mord madv mcand mnx mcmp mlat mnum mset mrow mthr mtag).1 Q U (pf_mswapThings x y msz mord madv mcand mnx mcmp mlat mnum mset mrow mthr mtag).2)) : ez_m 68 [.ref 0, .int (nI (x)), .int (nI (y))] (mz_w (msz, mord, madv, mcand, mnx, mcmp, mlat, mnum, mset, mrow) Q U (mthr, mtag)) post := by
  refine ez_m.of (L := [some (.ref 0), some (.int (nI (x))), some (.int (nI (y))), none, none]) rfl rfl rfl ?_
  unfold pf_mswapThings at h
  refine ez_go ez_h68 3 (pc' := 5) (L' := [some (.ref 0), some (.int (nI (x))), some (.int (nI (y))), none, none]) (st' := [.int (nI (x)), .ref 1]) (w' := mz_w (msz, mord, madv, mcand, mnx, mcmp, mlat, mnum, mset, mrow) Q U (mthr, mtag)) rfl ?_
  refine ez_ald ez_h68 rfl rfl (x) rfl (by omega) (by omega) ?_
  refine ez_go ez_h68 7 (pc' := 17) (L' := [some (.ref 0), some (.int (nI (x))), some (.int (nI (y))), some (.int (mnum (x))), none]) (st' := [.int (nI (y)), .ref 1, .int (nI (x)), .ref 1]) (w' := mz_w (msz, mord, madv, mcand, mnx, mcmp, mlat, mnum, mset, mrow) Q U (mthr, mtag)) rfl ?_
  refine ez_ald ez_h68 rfl rfl (y) rfl (by omega) (by omega) ?_
  refine ez_ast ez_h68 rfl rfl (x) rfl (by omega) (by omega) ?_
  refine ez_go ez_h68 4 (pc' := 25) (L' := [some (.ref 0), some (.int (nI (x))), some (.int (nI (y))), some (.int (mnum (x))), none]) (st' := [.int (mnum (x)), .int (nI (y)), .ref 1]) (w' := mz_w (msz, mord, madv, mcand, mnx, mcmp, mlat, (upd mnum (x) (mnum (y))), mset, mrow) Q U (mthr, mtag)) rfl ?_
  refine ez_ast ez_h68 rfl rfl (y) rfl (by omega) (by omega) ?_
  refine ez_go ez_h68 3 (pc' := 31) (L' := [some (.ref 0), some (.int (nI (x))), some (.int (nI (y))), some (.int (mnum (x))), none]) (st' := [.int (nI (x)), .ref 2]) (w' := mz_w (msz, mord, madv, mcand, mnx, mcmp, mlat, (upd (upd mnum (x) (mnum (y))) (y) (mnum (x))), mset, mrow) Q U (mthr, mtag)) rfl ?_
  refine ez_ald ez_h68 rfl rfl (x) rfl (by omega) (by omega) ?_
  refine ez_go ez_h68 7 (pc' := 44) (L' := [some (.ref 0), some (.int (nI (x))), some (.int (nI (y))), some (.int (mnum (x))), some (.int (mtag (x)))]) (st' := [.int (nI (y)), .ref 2, .int (nI (x)), .ref 2]) (w' := mz_w (msz, mord, madv, mcand, mnx, mcmp, mlat, (upd (upd mnum (x) (mnum (y))) (y) (mnum (x))), mset, mrow) Q U (mthr, mtag)) rfl ?_
  refine ez_ald ez_h68 rfl rfl (y) rfl (by omega) (by omega) ?_
  refine ez_ast ez_h68 rfl rfl (x) rfl (by omega) (by omega) ?_
  refine ez_go ez_h68 4 (pc' := 53) (L' := [some (.ref 0), some (.int (nI (x))), some (.int (nI (y))), some (.int (mnum (x))), some (.int (mtag (x)))]) (st' := [.int (mtag (x)), .int (nI (y)), .ref 2]) (w' := mz_w (msz, mord, madv, mcand, mnx, mcmp, mlat, (upd (upd mnum (x) (mnum (y))) (y) (mnum (x))), mset, mrow) Q U (mthr, (upd mtag (x) (mtag (y))))) rfl ?_
  refine ez_ast ez_h68 rfl rfl (y) rfl (by omega) (by omega) ?_
  exact ez_vret rfl ez_h68 rfl rfl h
end
section
/-! ===== the comparator, abstractly: how many questions, who is settled at what, the candidate, the next number ===== -/
abbrev zs_G : Type := Nat × (Nat → Option Nat) × Option Nat × Nat
def zs_sel (x y : Nat) (g : zs_G) : Nat := if g.2.2.1 = some x then x else y
def zs_st (x y : Nat) (g : zs_G) : Nat → Option Nat := if g.2.1 x = none ∧ g.2.1 y = none then va_up g.2.1 (zs_sel x y g) (some g.2.2.2) else g.2.1
def zs_nx (x y : Nat) (g : zs_G) : Nat := if g.2.1 x = none ∧ g.2.1 y = none then g.2.2.2 + 1 else g.2.2.2
def zs_cd (x y : Nat) (g : zs_G) : Option Nat := if zs_st x y g x = none then some x else if zs_st x y g y = none then some y else g.2.2.1
def zs_g (md : Bool) (x y : Nat) (g : zs_G) : zs_G := bif md then (g.1 + 1, zs_st x y g, zs_cd x y g, zs_nx x y g) else (g.1 + 1, g.2.1, g.2.2.1, g.2.2.2)
def zs_lt (s : Nat → Option Nat) (x y : Nat) : Bool := match s x, s y with
  | some _, none => true
  | some a, some b => decide (a < b)
  | none, _ => false
def zs_b (md : Bool) (ka : Nat → Int64) (x y : Nat) (g : zs_G) : Bool := bif md then zs_lt (zs_st x y g) x y else decide (ka x < ka y)
def zs_cn (s : Nat → Option Nat) : Nat → Nat
  | 0 => 0
  | k + 1 => zs_cn s k + (if s k = none then 0 else 1)
theorem zs_cn_le (s : Nat → Option Nat) : ∀ n, zs_cn s n ≤ n
  | 0 => Nat.le_refl _
  | n + 1 => by
    have := zs_cn_le s n
    unfold zs_cn
    split <;> omega
theorem zs_cn_lt {s : Nat → Option Nat} {k : Nat} (h : s k = none) : ∀ n, k < n → zs_cn s n < n
  | 0, hk => by omega
  | n + 1, hk => by
    unfold zs_cn
    by_cases e : k = n
    · subst e
      have := zs_cn_le s k
      rw [if_pos h]; omega
    · have := zs_cn_lt h n (by omega)
      split <;> omega
theorem zs_cn_same {s t : Nat → Option Nat} : ∀ n, (∀ k, k < n → s k = t k) → zs_cn s n = zs_cn t n
  | 0, _ => rfl
  | n + 1, h => by
    unfold zs_cn
    rw [zs_cn_same n (fun k hk => h k (by omega)), h n (by omega)]
theorem zs_cn_up {s : Nat → Option Nat} {k v : Nat} (h : s k = none) : ∀ n, k < n → zs_cn (va_up s k (some v)) n = zs_cn s n + 1
  | 0, hk => by omega
  | n + 1, hk => by
    unfold zs_cn
    by_cases e : k = n
    · subst e
      rw [va_up_self, h, zs_cn_same k (t := s) (fun j hj => va_up_ne _ _ (by omega))]
      simp
    · rw [zs_cn_up h n (by omega), va_up_ne _ _ (fun q => e q.symm)]
      omega
/-- what holds of the comparator against n things -/
def zs_I (n : Nat) (g : zs_G) : Prop := zs_cn g.2.1 n = g.2.2.2 ∧ (∀ k v, k < n → g.2.1 k = some v → v < g.2.2.2) ∧ (∀ j k v, j < n → k < n → g.2.1 j = some v → g.2.1 k = some v → j = k) ∧ ∀ c, g.2.2.1 = some c → c < n
theorem zs_I.nx {n : Nat} {g : zs_G} (h : zs_I n g) : g.2.2.2 ≤ n := by rw [← h.1]; exact zs_cn_le _ _
theorem zs_I.lt {n : Nat} {g : zs_G} (h : zs_I n g) {x : Nat} (hx : x < n) (e : g.2.1 x = none) : g.2.2.2 < n := by rw [← h.1]; exact zs_cn_lt e n hx
theorem zs_sel_or (x y : Nat) (g : zs_G) : zs_sel x y g = x ∨ zs_sel x y g = y := by unfold zs_sel; split <;> simp
theorem zs_I.go {n : Nat} {g : zs_G} (h : zs_I n g) {x y : Nat} (hx : x < n) (hy : y < n) : zs_I n (zs_g true x y g) := by
  obtain ⟨h1, h2, h3, h4⟩ := h
  unfold zs_g zs_st zs_nx
  simp only [cond_true]
  by_cases hq : g.2.1 x = none ∧ g.2.1 y = none
  · rw [if_pos hq, if_pos hq]
    have hs : zs_sel x y g < n ∧ g.2.1 (zs_sel x y g) = none := by
      rcases zs_sel_or x y g with e | e <;> rw [e]
      · exact ⟨hx, hq.1⟩
      · exact ⟨hy, hq.2⟩
    refine ⟨by dsimp only; rw [zs_cn_up hs.2 n hs.1, h1], fun k v hk hv => ?_, fun j k v hj hk hv hw => ?_, fun c hc => ?_⟩
    · dsimp only at hv ⊢
      by_cases e : k = zs_sel x y g
      · subst e
        rw [va_up_self] at hv
        cases hv
        exact Nat.lt_succ_self _
      · rw [va_up_ne _ _ e] at hv
        have := h2 k v hk hv
        omega
    · dsimp only at hv hw
      by_cases e : j = zs_sel x y g
      · by_cases e2 : k = zs_sel x y g
        · rw [e, e2]
        · subst e
          rw [va_up_self] at hv
          rw [va_up_ne _ _ e2] at hw
          cases hv
          have := h2 k _ hk hw
          omega
      · rw [va_up_ne _ _ e] at hv
        by_cases e2 : k = zs_sel x y g
        · subst e2
          rw [va_up_self] at hw
          cases hw
          have := h2 j _ hj hv
          omega
        · rw [va_up_ne _ _ e2] at hw
          exact h3 j k v hj hk hv hw
    · dsimp only at hc
      unfold zs_cd at hc
      split at hc
      · cases hc; exact hx
      · split at hc
        · cases hc; exact hy
        · exact h4 c hc
  · rw [if_neg hq, if_neg hq]
    refine ⟨h1, h2, h3, fun c hc => ?_⟩
    dsimp only at hc
    unfold zs_cd at hc
    split at hc
    · cases hc; exact hx
    · split at hc
      · cases hc; exact hy
      · exact h4 c hc
/-- known: x is not greater than y -/
def zs_K (md : Bool) (ka : Nat → Int64) (g : zs_G) (x y : Nat) : Prop := bif md then (x = y ∨ ∃ a, g.2.1 x = some a ∧ ∀ b, g.2.1 y = some b → a < b) else ka x ≤ ka y
theorem zs_K.rf {md : Bool} {ka : Nat → Int64} {g : zs_G} (x : Nat) : zs_K md ka g x x := by
  cases md
  · exact Int64.le_refl _
  · exact Or.inl rfl
theorem zs_K.tr {md : Bool} {ka : Nat → Int64} {g : zs_G} {x y z : Nat} (h : zs_K md ka g x y) (k : zs_K md ka g y z) : zs_K md ka g x z := by
  cases md
  · exact Int64.le_trans h k
  · rcases h with rfl | ⟨a, h1, h2⟩
    · exact k
    · rcases k with rfl | ⟨b, k1, k2⟩
      · exact Or.inr ⟨a, h1, h2⟩
      · exact Or.inr ⟨a, h1, fun c hc => Nat.lt_trans (h2 b k1) (k2 c hc)⟩
theorem zs_st_some {x y k v : Nat} {g : zs_G} (h : g.2.1 k = some v) : zs_st x y g k = some v := by
  unfold zs_st
  split
  · rename_i hq
    by_cases e : k = zs_sel x y g
    · exfalso
      rcases zs_sel_or x y g with e2 | e2 <;> rw [e, e2] at h
      · rw [hq.1] at h; cases h
      · rw [hq.2] at h; cases h
    · rw [va_up_ne _ _ e]; exact h
  · exact h
theorem zs_st_new {x y k v n : Nat} {g : zs_G} (hI : zs_I n g) (h : zs_st x y g k = some v) (hn : g.2.1 k = none) : v = g.2.2.2 ∧ k = zs_sel x y g := by
  unfold zs_st at h
  split at h
  · by_cases e : k = zs_sel x y g
    · subst e
      rw [va_up_self] at h
      cases h
      exact ⟨rfl, rfl⟩
    · rw [va_up_ne _ _ e, hn] at h; cases h
  · rw [hn] at h; cases h
/-- what is known stays known -/
theorem zs_K.mono {md : Bool} {ka : Nat → Int64} {n : Nat} {g : zs_G} {u v : Nat} (hI : md = true → zs_I n g) (hu : u < n) (h : zs_K md ka g u v) (x y : Nat) : zs_K md ka (zs_g md x y g) u v := by
  cases md
  · exact h
  · have hI := hI rfl
    rcases h with rfl | ⟨a, h1, h2⟩
    · exact Or.inl rfl
    · refine Or.inr ⟨a, zs_st_some h1, fun b hb => ?_⟩
      have hb : zs_st x y g v = some b := hb
      cases hv : g.2.1 v with
      | some b' =>
        rw [zs_st_some hv] at hb
        cases hb
        exact h2 _ hv
      | none =>
        rw [(zs_st_new hI hb hv).1]
        exact hI.2.1 u a hu h1
/-- the answer 'less' -/
theorem zs_b_t {md : Bool} {ka : Nat → Int64} {n : Nat} {g : zs_G} {x y : Nat} (hI : md = true → zs_I n g) (hx : x < n) (hy : y < n) (h : zs_b md ka x y g = true) : zs_K md ka (zs_g md x y g) x y ∧ ¬ zs_K md ka (zs_g md x y g) y x := by
  cases md
  · have h : ka x < ka y := of_decide_eq_true h
    exact ⟨Int64.le_of_lt h, Int64.not_le.mpr h⟩
  · have h : zs_lt (zs_st x y g) x y = true := h
    have hne : x ≠ y := by
      rintro rfl
      unfold zs_lt at h
      cases hs : zs_st x x g x with
      | none => rw [hs] at h; cases h
      | some a => rw [hs] at h; simp at h
    unfold zs_lt at h
    show (x = y ∨ ∃ a, zs_st x y g x = some a ∧ ∀ b, zs_st x y g y = some b → a < b) ∧ ¬ (y = x ∨ ∃ a, zs_st x y g y = some a ∧ ∀ b, zs_st x y g x = some b → a < b)
    split at h
    · rename_i a e1 e2
      refine ⟨Or.inr ⟨a, e1, fun b hb => by rw [e2] at hb; cases hb⟩, fun q => ?_⟩
      rcases q with q | ⟨c, q, -⟩
      · exact hne q.symm
      · rw [e2] at q; cases q
    · rename_i a b e1 e2
      have hab : a < b := of_decide_eq_true h
      refine ⟨Or.inr ⟨a, e1, fun c hc => by rw [e2] at hc; cases hc; exact hab⟩, fun q => ?_⟩
      rcases q with q | ⟨c, q, q2⟩
      · exact hne q.symm
      · rw [e2] at q; cases q
        have := q2 a e1
        omega
    · cases h
/-- the answer 'not less' -/
theorem zs_b_f {md : Bool} {ka : Nat → Int64} {n : Nat} {g : zs_G} {x y : Nat} (hI : md = true → zs_I n g) (hx : x < n) (hy : y < n) (h : zs_b md ka x y g = false) : zs_K md ka (zs_g md x y g) y x := by
  cases md
  · have h : ¬ ka x < ka y := of_decide_eq_false h
    exact Int64.not_lt.mp h
  · have h : zs_lt (zs_st x y g) x y = false := h
    have hI' := (hI rfl).go hx hy
    unfold zs_lt at h
    show y = x ∨ ∃ a, zs_st x y g y = some a ∧ ∀ b, zs_st x y g x = some b → a < b
    split at h
    · cases h
    · rename_i a b e1 e2
      have hab : ¬ a < b := of_decide_eq_false h
      by_cases e : y = x
      · exact Or.inl e
      · refine Or.inr ⟨b, e2, fun c hc => ?_⟩
        rw [e1] at hc; cases hc
        by_cases e3 : a = b
        · subst e3
          exact absurd (hI'.2.2.1 y x a hy hx e2 e1) e
        · omega
    · rename_i e1
      by_cases e : y = x
      · exact Or.inl e
      · cases hs : zs_st x y g y with
        | some b => exact Or.inr ⟨b, rfl, fun c hc => by rw [e1] at hc; cases hc⟩
        | none =>
          exfalso
          unfold zs_st at e1 hs
          by_cases hq : g.2.1 x = none ∧ g.2.1 y = none
          · rw [if_pos hq] at e1 hs
            rcases zs_sel_or x y g with e2 | e2 <;> rw [e2] at e1 hs
            · rw [va_up_self] at e1; cases e1
            · rw [va_up_self] at hs; cases hs
          · rw [if_neg hq] at e1 hs
            exact hq ⟨e1, hs⟩
/-- what is known is answered so -/
theorem zs_b_K {md : Bool} {ka : Nat → Int64} {n : Nat} {g : zs_G} {x y : Nat} (hI : md = true → zs_I n g) (hx : x < n) (hy : y < n) (h : zs_K md ka g y x) : zs_b md ka x y g = false := by
  cases hb : zs_b md ka x y g with
  | false => rfl
  | true => exact absurd (h.mono hI hy x y) (zs_b_t hI hx hy hb).2
end
section
/-! ===== what ties the class's row, and the reference's, to the abstract row and comparator ===== -/
def zs_z (b : Bool) : Int32 := bif b then 1 else 0
def zs_c : Option Nat → Int32
  | none => -1
  | some c => nI c
/-- a run's fixed things: adversary?, how many, class's thing of a place, keys, order, numbers by TAG, numbers by place, both counts at its start -/
abbrev ze_T : Type := Bool × Nat × (Nat → Nat) × (Nat → Int64) × Int32 × (Nat → Int32) × (Nat → Int32) × Int64 × Int64
abbrev ze_md (E : ze_T) : Bool := E.1
abbrev ze_n (E : ze_T) : Nat := E.2.1
abbrev ze_pi (E : ze_T) : Nat → Nat := E.2.2.1
abbrev ze_ka (E : ze_T) : Nat → Int64 := E.2.2.2.1
abbrev ze_od (E : ze_T) : Int32 := E.2.2.2.2.1
abbrev ze_nu (E : ze_T) : Nat → Int32 := E.2.2.2.2.2.1
abbrev ze_mu (E : ze_T) : Nat → Int32 := E.2.2.2.2.2.2.1
abbrev ze_c0 (E : ze_T) : Int64 := E.2.2.2.2.2.2.2.1
abbrev ze_d0 (E : ze_T) : Int64 := E.2.2.2.2.2.2.2.2
def ze_or (o : Int32) : Prop := o = 0 ∨ o = 1 ∨ o = 2 ∨ o = 3
def ze_ok (E : ze_T) : Prop := ze_n E ≤ 600 ∧ (∀ k, k < ze_n E → ze_pi E k < ze_n E) ∧ (ze_md E = true → ∀ k, k < ze_n E → ze_pi E k = k) ∧ (ze_md E = false → ze_or (ze_od E) ∧ (∀ k, k < ze_n E → zk_key (ze_od E) (ze_nu E (ze_pi E k)).toInt64 = ze_ka E k) ∧ ∀ k, k < ze_n E → zk_key (ze_od E) (ze_mu E k).toInt64 = ze_ka E k)
/-- the class's row -/
def cr_R (E : ze_T) (row : Nat → Nat) (g : zs_G) (r : cz_Row) : Prop := r.1 = nI (ze_n E) ∧ r.2.1 = ze_od E ∧ r.2.2.1 = ze_c0 E + lN g.1 ∧ (∀ k, k < ze_n E → r.2.2.2.2.2.2.2 k = nI (ze_pi E (row k))) ∧
  (bif ze_md E then r.2.2.2.1 = 1 ∧ r.2.2.2.2.1 = zs_c g.2.2.1 ∧ r.2.2.2.2.2.1 = nI g.2.2.2 ∧ ∀ k, k < ze_n E → r.2.2.2.2.2.2.1 k = nI ((g.2.1 k).getD (ze_n E)) else r.2.2.2.1 = 0 ∧ r.2.2.2.2.2.2.1 = ze_nu E)
/-- the reference's row -/
def mr_R (E : ze_T) (row : Nat → Nat) (g : zs_G) (A : mz_A) : Prop := A.1 = nI (ze_n E) ∧ A.2.1 = ze_od E ∧ A.2.2.2.2.2.1 = ze_d0 E + lN g.1 ∧ A.2.2.2.2.2.2.1 = lN g.1 ∧ (∀ k, k < ze_n E → A.2.2.2.2.2.2.2.2.2 k = nI (row k)) ∧
  (bif ze_md E then A.2.2.1 = 1 ∧ A.2.2.2.1 = zs_c g.2.2.1 ∧ A.2.2.2.2.1 = nI g.2.2.2 ∧ ∀ k, k < ze_n E → A.2.2.2.2.2.2.2.2.1 k = zs_c (g.2.1 k) else A.2.2.1 = 0 ∧ A.2.2.2.2.2.2.2.1 = ze_mu E)
/-- the abstract row's places, the comparator's own -/
def zr_ok (E : ze_T) (row : Nat → Nat) (g : zs_G) : Prop := (∀ k, k < ze_n E → row k < ze_n E) ∧ (ze_md E = true → zs_I (ze_n E) g)
theorem zr_ok.go {E : ze_T} {row : Nat → Nat} {g : zs_G} (h : zr_ok E row g) {x y : Nat} (hx : x < ze_n E) (hy : y < ze_n E) : zr_ok E row (zs_g (ze_md E) x y g) := ⟨h.1, fun q => by rw [q]; exact (h.2 q).go hx hy⟩
theorem zr_ok.set {E : ze_T} {row : Nat → Nat} {g : zs_G} (h : zr_ok E row g) {k x : Nat} (hx : x < ze_n E) : zr_ok E (va_up row k x) g := ⟨fun j hj => by
  by_cases e : j = k
  · rw [e, va_up_self]; exact hx
  · rw [va_up_ne _ _ e]; exact h.1 j hj, h.2⟩
theorem zs_c_eq {c : Option Nat} {x n : Nat} (hc : ∀ z, c = some z → z < n) (hx : x < n) (hn : n ≤ 600) : zs_c c = nI x ↔ c = some x := by
  cases c with
  | none =>
    constructor
    · intro q
      have h1 : (zs_c none).toInt = (nI x).toInt := by rw [q]
      rw [nI_toInt (by omega)] at h1
      have h2 : (zs_c none).toInt = -1 := by decide
      omega
    · intro q; cases q
  | some z =>
    have := hc z rfl
    show nI z = nI x ↔ _
    rw [nI_eq (by omega) (by omega)]
    constructor
    · rintro rfl; rfl
    · intro q; cases q; rfl
theorem cr_settle {n : Nat} {g : zs_G} (hI : zs_I n g) (hn : n ≤ 600) {x y : Nat} (hx : x < n) (hy : y < n) {ord adv : Int32} {asked : Int64} {num thg : Nat → Int32} (hnum : ∀ k, k < n → num k = nI ((g.2.1 k).getD n)) :
    ∃ num' : Nat → Int32, pf_settle x y (nI n) ord asked adv (zs_c g.2.2.1) (nI g.2.2.2) num thg = (nI n, ord, asked, adv, zs_c (zs_cd x y g), nI (zs_nx x y g), num', thg) ∧ ∀ k, k < n → num' k = nI ((zs_st x y g k).getD n) := by
  have hnx := hI.nx
  have hop : ∀ k, k < n → (num k = nI n ↔ g.2.1 k = none) := fun k hk => by
    rw [hnum k hk]
    cases hs : g.2.1 k with
    | none => simp
    | some v =>
      have := hI.2.1 k v hk hs
      show nI v = nI n ↔ _
      rw [nI_eq (by omega) (by omega)]
      constructor
      · intro q; omega
      · intro q; cases q
  have hcd := zs_c_eq hI.2.2.2 hx hn
  by_cases hq : g.2.1 x = none ∧ g.2.1 y = none
  · have hlt := hI.lt hx hq.1
    have hne : ¬ nI g.2.2.2 = nI n := by rw [nI_eq (by omega) (by omega)]; omega
    have hsel : ∀ s, s < n → g.2.1 s = none → ∀ k, k < n → (upd num s (nI g.2.2.2)) k = nI ((va_up g.2.1 s (some g.2.2.2) k).getD n) := fun s hs hs0 k hk => by
      by_cases e : k = s
      · subst e; rw [pk_us, va_up_self]; rfl
      · rw [pk_un e, va_up_ne _ _ e]; exact hnum k hk
    unfold pf_settle zs_cd zs_nx zs_st zs_sel
    rw [if_pos ((hop x hx).mpr hq.1), if_pos ((hop y hy).mpr hq.2), if_pos hq, if_pos hq]
    have hup : ∀ s : Nat, ¬ va_up g.2.1 s (some g.2.2.2) s = none := fun s z => by rw [va_up_self] at z; cases z
    have hus : ∀ s : Nat, ¬ upd num s (nI g.2.2.2) s = nI n := fun s => by rw [pk_us]; exact hne
    by_cases hc : g.2.2.1 = some x
    · rw [if_pos (hcd.mpr hc), if_pos hc, if_neg (hus x), if_neg (hup x)]
      refine ⟨upd num x (nI g.2.2.2), ?_, hsel x hx hq.1⟩
      by_cases e : y = x
      · subst e
        rw [if_neg (hus y), if_neg (hup y), nI_add]
      · have k1 : upd num x (nI g.2.2.2) y = nI n := by rw [pk_un e]; exact (hop y hy).mpr hq.2
        have k2 : va_up g.2.1 x (some g.2.2.2) y = none := by rw [va_up_ne _ _ e]; exact hq.2
        rw [if_pos k1, if_pos k2, nI_add]
        rfl
    · rw [if_neg (fun z => hc (hcd.mp z)), if_neg hc]
      refine ⟨upd num y (nI g.2.2.2), ?_, hsel y hy hq.2⟩
      by_cases e : x = y
      · subst e
        rw [if_neg (hus x), if_neg (hus x), if_neg (hup x), if_neg (hup x), nI_add]
      · have k1 : upd num y (nI g.2.2.2) x = nI n := by rw [pk_un e]; exact (hop x hx).mpr hq.1
        have k2 : va_up g.2.1 y (some g.2.2.2) x = none := by rw [va_up_ne _ _ e]; exact hq.1
        rw [if_pos k1, if_pos k2, nI_add]
        rfl
  · unfold pf_settle zs_cd zs_nx zs_st
    rw [if_neg hq, if_neg hq]
    refine ⟨num, ?_, hnum⟩
    by_cases h1 : g.2.1 x = none
    · have h2 : ¬ g.2.1 y = none := fun z => hq ⟨h1, z⟩
      rw [if_pos ((hop x hx).mpr h1), if_neg (fun z => h2 ((hop y hy).mp z)), if_pos ((hop x hx).mpr h1), if_pos h1]
      rfl
    · rw [if_neg (fun z => h1 ((hop x hx).mp z)), if_neg (fun z => h1 ((hop x hx).mp z)), if_neg h1]
      by_cases h2 : g.2.1 y = none
      · rw [if_pos ((hop y hy).mpr h2), if_pos h2]
        rfl
      · rw [if_neg (fun z => h2 ((hop y hy).mp z)), if_neg h2]
end
section
theorem zs_c_ge {c : Option Nat} (h : ∀ v, c = some v → v < 2 ^ 31) : 0 ≤ zs_c c ↔ ¬ c = none := by
  cases c with
  | none =>
    constructor
    · intro q; exact absurd q (by decide)
    · intro q; exact absurd rfl q
  | some v =>
    constructor
    · intro _ q; cases q
    · intro _; exact nI_pos' (h v rfl)
theorem zs_c_lt {c : Option Nat} (h : ∀ v, c = some v → v < 2 ^ 31) : zs_c c < 0 ↔ c = none := by
  cases c with
  | none =>
    constructor
    · intro _; rfl
    · intro _; decide
  | some v =>
    constructor
    · intro q; exact absurd q (nI_pos (h v rfl))
    · intro q; cases q
theorem zs_c_up {s : Nat → Option Nat} {f : Nat → Int32} {n k v : Nat} (h : ∀ j, j < n → f j = zs_c (s j)) : ∀ j, j < n → upd f k (nI v) j = zs_c (va_up s k (some v) j) := fun j hj => by
  by_cases e : j = k
  · subst e; rw [pk_us, va_up_self]; rfl
  · rw [pk_un e, va_up_ne _ _ e]; exact h j hj
set_option maxHeartbeats 1000000 in
theorem mr_lessA {n : Nat} {g : zs_G} (hI : zs_I n g) (hn : n ≤ 600) {x y : Nat} (hx : x < n) (hy : y < n) {ord : Int32} {cm la : Int64} {num st row : Nat → Int32} (hst : ∀ k, k < n → st k = zs_c (g.2.1 k)) :
    ∃ st' : Nat → Int32, pf_mlessA x y (nI n) ord (zs_c g.2.2.1) (nI g.2.2.2) cm la num st row = (some (.int (zs_z (zs_lt (zs_st x y g) x y))), (nI n, ord, 1, zs_c (zs_cd x y g), nI (zs_nx x y g), cm + 1, la + 1, num, st', row)) ∧ ∀ k, k < n → st' k = zs_c (zs_st x y g k) := by
  have hnx := hI.nx
  have hb : ∀ k, k < n → ∀ v, g.2.1 k = some v → v < 2 ^ 31 := fun k hk v hv => by have := hI.2.1 k v hk hv; omega
  have hge : ∀ k, k < n → (0 ≤ st k ↔ ¬ g.2.1 k = none) := fun k hk => by rw [hst k hk]; exact zs_c_ge (hb k hk)
  have hlt : ∀ k, k < n → (st k < 0 ↔ g.2.1 k = none) := fun k hk => by rw [hst k hk]; exact zs_c_lt (hb k hk)
  have hcd := zs_c_eq hI.2.2.2 hx hn
  by_cases hq : g.2.1 x = none ∧ g.2.1 y = none
  · have hnl := hI.lt hx hq.1
    have p1 : ¬ 0 ≤ st x := fun z => (hge x hx).mp z hq.1
    have p2 : ¬ 0 ≤ st y := fun z => (hge y hy).mp z hq.2
    have hup : ∀ s : Nat, ¬ va_up g.2.1 s (some g.2.2.2) s = none := fun s z => by rw [va_up_self] at z; cases z
    have u1 : ∀ s : Nat, 0 ≤ upd st s (nI g.2.2.2) s := fun s => by rw [pk_us]; exact nI_pos' (by omega)
    have u2 : ∀ s : Nat, ¬ upd st s (nI g.2.2.2) s < 0 := fun s => by rw [pk_us]; exact nI_pos (by omega)
    unfold pf_mlessA zs_cd zs_nx zs_st zs_sel
    simp only [if_neg p1, if_neg p2, if_pos hq]
    by_cases hc : g.2.2.1 = some x
    · have hc' := hcd.mpr hc
      refine ⟨upd st x (nI g.2.2.2), ?_, ?_⟩
      · simp only [if_pos hc', if_pos hc, if_pos (u1 x), if_neg (u2 x), if_neg (hup x)]
        by_cases e : y = x
        · subst e
          have k3 : zs_lt (va_up g.2.1 y (some g.2.2.2)) y y = false := by unfold zs_lt; rw [va_up_self]; simp
          simp only [if_pos (u1 y), if_neg (u2 y), if_neg (hup y), if_pos (Int32.le_refl _), k3, nI_add]
          rfl
        · have k1 : ¬ 0 ≤ upd st x (nI g.2.2.2) y := by rw [pk_un e]; exact p2
          have k2 : va_up g.2.1 x (some g.2.2.2) y = none := by rw [va_up_ne _ _ e]; exact hq.2
          have k4 : upd st x (nI g.2.2.2) y < 0 := by rw [pk_un e]; exact (hlt y hy).mpr hq.2
          have k3 : zs_lt (va_up g.2.1 x (some g.2.2.2)) x y = true := by unfold zs_lt; rw [va_up_self, k2]
          simp only [if_neg k1, if_pos k2, if_pos k4, k3, nI_add]
          rfl
      · simp only [if_pos hc]
        exact zs_c_up hst
    · have hc' : ¬ zs_c g.2.2.1 = nI x := fun z => hc (hcd.mp z)
      refine ⟨upd st y (nI g.2.2.2), ?_, ?_⟩
      · simp only [if_neg hc', if_neg hc]
        by_cases e : x = y
        · subst e
          have k3 : zs_lt (va_up g.2.1 x (some g.2.2.2)) x x = false := by unfold zs_lt; rw [va_up_self]; simp
          simp only [if_pos (u1 x), if_neg (u2 x), if_neg (hup x), if_pos (Int32.le_refl _), k3, nI_add]
          rfl
        · have k1 : ¬ 0 ≤ upd st y (nI g.2.2.2) x := by rw [pk_un e]; exact p1
          have k2 : va_up g.2.1 y (some g.2.2.2) x = none := by rw [va_up_ne _ _ e]; exact hq.1
          have k4 : upd st y (nI g.2.2.2) x < 0 := by rw [pk_un e]; exact (hlt x hx).mpr hq.1
          have k3 : zs_lt (va_up g.2.1 y (some g.2.2.2)) x y = false := by unfold zs_lt; rw [k2]
          simp only [if_neg k1, if_pos k2, if_pos k4, k3, nI_add]
          rfl
      · simp only [if_neg hc]
        exact zs_c_up hst
  · unfold pf_mlessA zs_cd zs_nx zs_st
    simp only [if_neg hq]
    refine ⟨st, ?_, hst⟩
    by_cases h1 : g.2.1 x = none
    · have h2 : ¬ g.2.1 y = none := fun z => hq ⟨h1, z⟩
      have p1 : ¬ 0 ≤ st x := fun z => (hge x hx).mp z h1
      have p2 : 0 ≤ st y := (hge y hy).mpr h2
      have p3 : st x < 0 := (hlt x hx).mpr h1
      have k3 : zs_lt g.2.1 x y = false := by unfold zs_lt; rw [h1]
      simp only [if_neg p1, if_pos p2, if_pos p3, if_pos h1, k3]
      rfl
    · have p1 : 0 ≤ st x := (hge x hx).mpr h1
      have p3 : ¬ st x < 0 := fun z => h1 ((hlt x hx).mp z)
      by_cases h2 : g.2.1 y = none
      · have p2 : ¬ 0 ≤ st y := fun z => (hge y hy).mp z h2
        have p4 : st y < 0 := (hlt y hy).mpr h2
        obtain ⟨a, ha⟩ := Option.ne_none_iff_exists'.mp h1
        have k3 : zs_lt g.2.1 x y = true := by unfold zs_lt; rw [ha, h2]
        simp only [if_pos p1, if_neg p2, if_neg p3, if_pos p4, if_neg h1, if_pos h2, k3]
        rfl
      · have p2 : 0 ≤ st y := (hge y hy).mpr h2
        have p4 : ¬ st y < 0 := fun z => h2 ((hlt y hy).mp z)
        obtain ⟨a, ha⟩ := Option.ne_none_iff_exists'.mp h1
        obtain ⟨b, hb2⟩ := Option.ne_none_iff_exists'.mp h2
        have e1 : st x = nI a := by rw [hst x hx, ha]; rfl
        have e2 : st y = nI b := by rw [hst y hy, hb2]; rfl
        have ba := hb x hx a ha
        have bb := hb y hy b hb2
        simp only [if_pos p1, if_pos p2, if_neg p3, if_neg p4, if_neg h1, if_neg h2]
        by_cases hab : b ≤ a
        · have p5 : st y ≤ st x := by rw [e1, e2]; exact nI_le hab ba
          have k3 : zs_lt g.2.1 x y = false := by unfold zs_lt; rw [ha, hb2]; simp; omega
          simp only [if_pos p5, k3]
          rfl
        · have p5 : ¬ st y ≤ st x := by rw [e1, e2]; exact nI_ge (by omega) bb
          have k3 : zs_lt g.2.1 x y = true := by unfold zs_lt; rw [ha, hb2]; simp; omega
          simp only [if_neg p5, k3]
          rfl
theorem cr_lessA {n : Nat} {g : zs_G} (hI : zs_I n g) (hn : n ≤ 600) {x y : Nat} (hx : x < n) (hy : y < n) {ord : Int32} {asked : Int64} {num thg : Nat → Int32} (hnum : ∀ k, k < n → num k = nI ((g.2.1 k).getD n)) :
    ∃ num' : Nat → Int32, pf_lessA x y (nI n) ord asked (zs_c g.2.2.1) (nI g.2.2.2) num thg = (some (.int (zs_z (zs_lt (zs_st x y g) x y))), (nI n, ord, asked + 1, 1, zs_c (zs_cd x y g), nI (zs_nx x y g), num', thg)) ∧ ∀ k, k < n → num' k = nI ((zs_st x y g k).getD n) := by
  obtain ⟨num', e, h⟩ := cr_settle hI hn hx hy (ord := ord) (adv := 1) (asked := asked + 1) (thg := thg) hnum
  refine ⟨num', ?_, h⟩
  unfold pf_lessA
  rw [e]
  dsimp only
  have hI' := hI.go hx hy
  have hnx := hI'.nx
  have hval : ∀ k, k < n → ∀ v, zs_st x y g k = some v → v < n := fun k hk v hv => by
    have := hI'.2.1 k v hk hv
    omega
  have ex := h x hx
  have ey := h y hy
  unfold zs_lt
  cases h1 : zs_st x y g x with
  | none =>
    rw [h1] at ex
    replace ex : num' x = nI n := ex
    have p : num' y ≤ num' x := by
      rw [ex, ey]
      cases h2 : zs_st x y g y with
      | none => exact Int32.le_refl _
      | some b => exact nI_le (Nat.le_of_lt (hval y hy b h2)) (by omega)
    rw [if_pos p]
    rfl
  | some a =>
    have ha := hval x hx a h1
    rw [h1] at ex
    replace ex : num' x = nI a := ex
    cases h2 : zs_st x y g y with
    | none =>
      rw [h2] at ey
      replace ey : num' y = nI n := ey
      have p : ¬ num' y ≤ num' x := by rw [ex, ey]; exact nI_ge ha (by omega)
      rw [if_neg p]
      rfl
    | some b =>
      have hb := hval y hy b h2
      rw [h2] at ey
      replace ey : num' y = nI b := ey
      by_cases hab : b ≤ a
      · have p : num' y ≤ num' x := by rw [ex, ey]; exact nI_le hab (by omega)
        have hd : decide (a < b) = false := by simp; omega
        rw [if_pos p]
        show _ = (some (Value.int (zs_z (decide (a < b)))), _)
        rw [hd]
        rfl
      · have p : ¬ num' y ≤ num' x := by rw [ex, ey]; exact nI_ge (a := a) (b := b) (by omega) (by omega)
        have hd : decide (a < b) = true := by simp; omega
        rw [if_neg p]
        show _ = (some (Value.int (zs_z (decide (a < b)))), _)
        rw [hd]
        rfl
theorem zs_cnt (c : Int64) (k : Nat) : c + lN k + 1 = c + lN (k + 1) := by rw [Int64.add_assoc, lN_1]
set_option maxHeartbeats 1000000 in
/-- a COMPARISON in the class -/
theorem cr_less {E : ze_T} {row : Nat → Nat} {g : zs_G} {r : cz_Row} (hE : ze_ok E) (hr : cr_R E row g r) (hI : ze_md E = true → zs_I (ze_n E) g) {x y : Nat} (hx : x < ze_n E) (hy : y < ze_n E) (q : cz_Qk) (u : cz_Rn) (b : cz_Bn) {post : Option Value → ez_W → Prop}
    (k : ∀ r' : cz_Row, cr_R E row (zs_g (ze_md E) x y g) r' → post (some (.int (zs_z (zs_b (ze_md E) (ze_ka E) x y g)))) (cz_w r' q u b)) : ez_m 38 [.ref 1, .int (nI (ze_pi E x)), .int (nI (ze_pi E y))] (cz_w r q u b) post := by
  obtain ⟨md, n, pi, ka, od, nu, mu, c0, d0⟩ := E
  obtain ⟨sz, ord, asked, adv, cand, stl, num, thg⟩ := r
  obtain ⟨e1, e2, e3, e4⟩ := hE
  obtain ⟨h1, h2, h3, h4, h5⟩ := hr
  replace hx : x < n := hx
  replace hy : y < n := hy
  replace e1 : n ≤ 600 := e1
  have px : pi x < n := e2 x hx
  have py : pi y < n := e2 y hy
  replace h1 : sz = nI n := h1
  replace h2 : ord = od := h2
  replace h3 : asked = c0 + lN g.1 := h3
  replace h4 : ∀ k, k < n → thg k = nI (pi (row k)) := h4
  cases md with
  | false =>
    obtain ⟨o1, o2, -⟩ := e4 rfl
    obtain ⟨h5, h6⟩ : adv = 0 ∧ num = nu := h5
    subst h1 h2 h3 h5 h6
    refine lf_lessN (pi x) (pi y) (by omega) (by omega) _ _ _ _ _ _ _ q u b o1 ?_
    unfold pf_lessN
    have o3 : zk_key ord (num (pi x)).toInt64 = ka x := o2 x hx
    have o4 : zk_key ord (num (pi y)).toInt64 = ka y := o2 y hy
    rw [o3, o4]
    have k : ∀ r' : cz_Row, cr_R (false, n, pi, ka, ord, num, mu, c0, d0) row (g.1 + 1, g.2.1, g.2.2.1, g.2.2.2) r' → post (some (.int (zs_z (decide (ka x < ka y))))) (cz_w r' q u b) := k
    by_cases hc : ka y ≤ ka x
    · rw [if_pos ((lg_cmp_ge _ _).mpr hc)]
      have hd : decide (ka x < ka y) = false := decide_eq_false (Int64.not_lt.mpr hc)
      rw [hd] at k
      exact k _ ⟨rfl, rfl, zs_cnt _ _, h4, rfl, rfl⟩
    · rw [if_neg (fun z => hc ((lg_cmp_ge _ _).mp z))]
      have hd : decide (ka x < ka y) = true := decide_eq_true (Int64.not_le.mp hc)
      rw [hd] at k
      exact k _ ⟨rfl, rfl, zs_cnt _ _, h4, rfl, rfl⟩
  | true =>
    obtain ⟨h5, h6, h7, h8⟩ : adv = 1 ∧ cand = zs_c g.2.2.1 ∧ stl = nI g.2.2.2 ∧ ∀ k, k < n → num k = nI ((g.2.1 k).getD n) := h5
    subst h1 h2 h3 h5 h6 h7
    have hI := hI rfl
    obtain ⟨num', p1, p2⟩ := cr_lessA hI e1 hx hy (ord := ord) (asked := c0 + lN g.1) (thg := thg) h8
    have q1 : pi x = x := e3 rfl x hx
    have q2 : pi y = y := e3 rfl y hy
    show ez_m 38 [.ref 1, .int (nI (pi x)), .int (nI (pi y))] _ _
    rw [q1, q2]
    refine lf_lessA x y (by omega) (by omega) _ _ _ _ _ _ _ q u b ?_
    rw [p1]
    exact k _ ⟨rfl, rfl, zs_cnt _ _, h4, rfl, rfl, rfl, p2⟩
set_option maxHeartbeats 1000000 in
/-- a COMPARISON in the reference -/
theorem mr_less {E : ze_T} {row : Nat → Nat} {g : zs_G} {A : mz_A} (hE : ze_ok E) (hr : mr_R E row g A) (hI : ze_md E = true → zs_I (ze_n E) g) {x y : Nat} (hx : x < ze_n E) (hy : y < ze_n E) (Q : mz_Q) (U : mz_U) (T : mz_T) {post : Option Value → ez_W → Prop}
    (k : ∀ A' : mz_A, mr_R E row (zs_g (ze_md E) x y g) A' → post (some (.int (zs_z (zs_b (ze_md E) (ze_ka E) x y g)))) (mz_w A' Q U T)) : ez_m 73 [.ref 0, .int (nI x), .int (nI y)] (mz_w A Q U T) post := by
  obtain ⟨md, n, pi, ka, od, nu, mu, c0, d0⟩ := E
  obtain ⟨msz, mord, madv, mcand, mnx, mcmp, mlat, mnum, mset, mrow⟩ := A
  obtain ⟨e1, e2, e3, e4⟩ := hE
  obtain ⟨h1, h2, h3, h3b, h4, h5⟩ := hr
  replace hx : x < n := hx
  replace hy : y < n := hy
  replace e1 : n ≤ 600 := e1
  replace h1 : msz = nI n := h1
  replace h2 : mord = od := h2
  replace h3 : mcmp = d0 + lN g.1 := h3
  replace h3b : mlat = lN g.1 := h3b
  replace h4 : ∀ k, k < n → mrow k = nI (row k) := h4
  cases md with
  | false =>
    obtain ⟨o1, -, o2⟩ := e4 rfl
    obtain ⟨h5, h6⟩ : madv = 0 ∧ mnum = mu := h5
    subst h1 h2 h3 h3b h5 h6
    refine lf_mlessN x y (by omega) (by omega) _ _ _ _ _ _ _ _ _ Q U T o1 ?_
    unfold pf_mlessN
    have o3 : zk_key mord (mnum x).toInt64 = ka x := o2 x hx
    have o4 : zk_key mord (mnum y).toInt64 = ka y := o2 y hy
    rw [o3, o4]
    have k : ∀ A' : mz_A, mr_R (false, n, pi, ka, mord, nu, mnum, c0, d0) row (g.1 + 1, g.2.1, g.2.2.1, g.2.2.2) A' → post (some (.int (zs_z (decide (ka x < ka y))))) (mz_w A' Q U T) := k
    by_cases hc : ka y ≤ ka x
    · rw [if_pos ((lg_cmp_ge _ _).mpr hc)]
      have hd : decide (ka x < ka y) = false := decide_eq_false (Int64.not_lt.mpr hc)
      rw [hd] at k
      exact k _ ⟨rfl, rfl, zs_cnt _ _, lN_1 _, h4, rfl, rfl⟩
    · rw [if_neg (fun z => hc ((lg_cmp_ge _ _).mp z))]
      have hd : decide (ka x < ka y) = true := decide_eq_true (Int64.not_le.mp hc)
      rw [hd] at k
      exact k _ ⟨rfl, rfl, zs_cnt _ _, lN_1 _, h4, rfl, rfl⟩
  | true =>
    obtain ⟨h5, h6, h7, h8⟩ : madv = 1 ∧ mcand = zs_c g.2.2.1 ∧ mnx = nI g.2.2.2 ∧ ∀ k, k < n → mset k = zs_c (g.2.1 k) := h5
    subst h1 h2 h3 h3b h5 h6 h7
    have hI := hI rfl
    obtain ⟨st', p1, p2⟩ := mr_lessA hI e1 hx hy (ord := mord) (cm := d0 + lN g.1) (la := lN g.1) (num := mnum) (row := mrow) h8
    refine lf_mlessA x y (by omega) (by omega) _ _ _ _ _ _ _ _ _ Q U T ?_
    rw [p1]
    exact k _ ⟨rfl, rfl, zs_cnt _ _, lN_1 _, h4, rfl, rfl, rfl, p2⟩
end
section
/-! ===== small rules, and the row's reads and writes over the relations ===== -/
theorem ez_top {mi pc : Nat} {L : ez_L} {st : List Value} {w : ez_W} {post : Option Value → ez_W → Prop} {x y : Int32} (h : x = y) (k : ez_E mi pc L (.int y :: st) w post) : ez_E mi pc L (.int x :: st) w post := h ▸ k
theorem ez_topl {mi pc : Nat} {L : ez_L} {st : List Value} {w : ez_W} {post : Option Value → ez_W → Prop} {x y : Int64} (h : x = y) (k : ez_E mi pc L (.long y :: st) w post) : ez_E mi pc L (.long x :: st) w post := h ▸ k
theorem ez_inc {mi o pc k : Nat} {c : Int} {t : List (Nat × Instr × Nat)} {L L' : ez_L} {st : List Value} {w : ez_W} {post : Option Value → ez_W → Prop} {x v : Int32} (hm : ez_mh mi o t) (hi : ez_lk t pc = some (.iinc k c, 3)) (hx : ez_li L k = some x) (hv : x + Int32.ofInt c = v) (hs : ez_s1 L k (.int v) = some L') (kk : ez_E mi (pc + 3) L' st w post) : ez_E mi pc L st w post := by
  refine ez_step hm hi rfl ?_ kk
  simp only [ez_s, hx]
  rw [hv, hs]
theorem zi_1 (a : Nat) : nI a + Int32.ofInt 1 = nI (a + 1) := nI_1 a
theorem zi_m {a : Nat} (h : 0 < a) : nI a + Int32.ofInt (-1) = nI (a - 1) := sb_m1 h
theorem ez_l0 : ez_le [] [] := ez_le_rf _
theorem ez_lc {L L' : ez_L} {v : Option Value} (h : ez_le L L') : ez_le (v :: L) (v :: L') := ⟨by simp [h.1], fun k u hk => by
  cases k with
  | zero => exact hk
  | succ k => exact h.2 k u (by simpa using hk)⟩
theorem ez_ln {L L' : ez_L} {v : Option Value} (h : ez_le L L') : ez_le (none :: L) (v :: L') := ⟨by simp [h.1], fun k u hk => by
  cases k with
  | zero => simp at hk
  | succ k => exact h.2 k u (by simpa using hk)⟩
theorem zt_lt {a b : Nat} (h : a < b) (hb : b < 2 ^ 31) : nI a < nI b := nI_lt h hb
theorem zt_nlt {a b : Nat} (h : ¬ a < b) (ha : a < 2 ^ 31) : ¬ nI a < nI b := nI_nlt (by omega) ha
theorem zt_le {a b : Nat} (h : a ≤ b) (hb : b < 2 ^ 31) : nI a ≤ nI b := nI_le h hb
theorem zt_nle {a b : Nat} (h : ¬ a ≤ b) (ha : a < 2 ^ 31) : ¬ nI a ≤ nI b := nI_ge (by omega) ha
theorem zt_eq {a b : Nat} (h : a = b) : nI a = nI b := by rw [h]
theorem zt_ne {a b : Nat} (h : ¬ a = b) (ha : a < 2 ^ 31) (hb : b < 2 ^ 31) : ¬ nI a = nI b := fun q => h ((nI_eq ha hb).mp q)
theorem zz_t {b : Bool} (h : b = true) : ¬ zs_z b = 0 := by rw [h]; decide
theorem zz_f {b : Bool} (h : b = false) : zs_z b = 0 := by rw [h]; rfl
def zs_sw (row : Nat → Nat) (i j : Nat) : Nat → Nat := va_up (va_up row i (row j)) j (row i)
theorem cr_up {E : ze_T} {row : Nat → Nat} {g : zs_G} {sz ord adv cand stl : Int32} {asked : Int64} {num thg : Nat → Int32} {k x : Nat} (h : cr_R E row g (sz, ord, asked, adv, cand, stl, num, thg)) : cr_R E (va_up row k x) g (sz, ord, asked, adv, cand, stl, num, upd thg k (nI (ze_pi E x))) := by
  obtain ⟨h1, h2, h3, h4, h5⟩ := h
  refine ⟨h1, h2, h3, fun j hj => ?_, h5⟩
  show upd thg k (nI (ze_pi E x)) j = nI (ze_pi E (va_up row k x j))
  by_cases e : j = k
  · subst e; rw [pk_us, va_up_self]
  · rw [pk_un e, va_up_ne _ _ e]; exact h4 j hj
theorem cr_at {E : ze_T} {row : Nat → Nat} {g : zs_G} {r : cz_Row} (hE : ze_ok E) (hr : cr_R E row g r) {k : Nat} (hk : k < ze_n E) (q : cz_Qk) (u : cz_Rn) (b : cz_Bn) {post : Option Value → ez_W → Prop} (h : post (some (.int (nI (ze_pi E (row k))))) (cz_w r q u b)) : ez_m 32 [.ref 1, .int (nI k)] (cz_w r q u b) post := by
  have hn := hE.1
  obtain ⟨sz, ord, asked, adv, cand, stl, num, thg⟩ := r
  refine lf_at k (by omega) sz ord asked adv cand stl num thg q u b ?_
  have e : thg k = nI (ze_pi E (row k)) := hr.2.2.2.1 k hk
  rw [e]
  exact h
theorem cr_set {E : ze_T} {row : Nat → Nat} {g : zs_G} {r : cz_Row} (hE : ze_ok E) (hr : cr_R E row g r) {k x : Nat} (hk : k < ze_n E) (q : cz_Qk) (u : cz_Rn) (b : cz_Bn) {post : Option Value → ez_W → Prop} (h : ∀ r' : cz_Row, cr_R E (va_up row k x) g r' → post none (cz_w r' q u b)) : ez_m 33 [.ref 1, .int (nI k), .int (nI (ze_pi E x))] (cz_w r q u b) post := by
  have hn := hE.1
  obtain ⟨sz, ord, asked, adv, cand, stl, num, thg⟩ := r
  exact lf_set k (nI (ze_pi E x)) (by omega) sz ord asked adv cand stl num thg q u b (h _ (cr_up hr))
theorem cr_size {E : ze_T} {row : Nat → Nat} {g : zs_G} {r : cz_Row} (hr : cr_R E row g r) (q : cz_Qk) (u : cz_Rn) (b : cz_Bn) {post : Option Value → ez_W → Prop} (h : post (some (.int (nI (ze_n E)))) (cz_w r q u b)) : ez_m 26 [.ref 1] (cz_w r q u b) post := by
  obtain ⟨sz, ord, asked, adv, cand, stl, num, thg⟩ := r
  refine lf_size sz ord asked adv cand stl num thg q u b ?_
  have e : sz = nI (ze_n E) := hr.1
  rw [← e] at h
  exact h
/-- the reference reads its row -/
theorem mr_ld {E : ze_T} {row : Nat → Nat} {g : zs_G} {A : mz_A} {mi o pc : Nat} {t : List (Nat × Instr × Nat)} {L : ez_L} {st : List Value} {Q : mz_Q} {U : mz_U} {T : mz_T} {post : Option Value → ez_W → Prop} (hm : ez_mh mi o t) (hi : ez_lk t pc = some (.iaload, 1)) (hE : ze_ok E) (hr : mr_R E row g A) {k : Nat} (hk : k < ze_n E) (h : ez_E mi (pc + 1) L (.int (nI (row k)) :: st) (mz_w A Q U T) post) : ez_E mi pc L (.int (nI k) :: .ref 4 :: st) (mz_w A Q U T) post := by
  have hn := hE.1
  refine ez_ald hm hi rfl k rfl (by omega) (by omega) ?_
  rw [hr.2.2.2.2.1 k hk]
  exact h
theorem mr_up {E : ze_T} {row : Nat → Nat} {g : zs_G} {msz mord madv mcand mnx : Int32} {mcmp mlat : Int64} {mnum mset mrow : Nat → Int32} {k x : Nat} (h : mr_R E row g (msz, mord, madv, mcand, mnx, mcmp, mlat, mnum, mset, mrow)) : mr_R E (va_up row k x) g (msz, mord, madv, mcand, mnx, mcmp, mlat, mnum, mset, upd mrow k (nI x)) := by
  obtain ⟨h1, h2, h3, h3b, h4, h5⟩ := h
  refine ⟨h1, h2, h3, h3b, fun j hj => ?_, h5⟩
  show upd mrow k (nI x) j = nI (va_up row k x j)
  by_cases e : j = k
  · subst e; rw [pk_us, va_up_self]
  · rw [pk_un e, va_up_ne _ _ e]; exact h4 j hj
/-- the reference writes its row -/
theorem mr_st {E : ze_T} {row : Nat → Nat} {g : zs_G} {A : mz_A} {mi o pc : Nat} {t : List (Nat × Instr × Nat)} {L : ez_L} {st : List Value} {Q : mz_Q} {U : mz_U} {T : mz_T} {post : Option Value → ez_W → Prop} (hm : ez_mh mi o t) (hi : ez_lk t pc = some (.iastore, 1)) (hE : ze_ok E) (hr : mr_R E row g A) {k x : Nat} (hk : k < ze_n E) (h : ∀ A' : mz_A, mr_R E (va_up row k x) g A' → ez_E mi (pc + 1) L st (mz_w A' Q U T) post) : ez_E mi pc L (.int (nI x) :: .int (nI k) :: .ref 4 :: st) (mz_w A Q U T) post := by
  have hn := hE.1
  obtain ⟨msz, mord, madv, mcand, mnx, mcmp, mlat, mnum, mset, mrow⟩ := A
  exact ez_ast hm hi rfl k rfl (by omega) (by omega) (h _ (mr_up hr))
theorem mr_swap {E : ze_T} {row : Nat → Nat} {g : zs_G} {A : mz_A} (hE : ze_ok E) (hr : mr_R E row g A) {i j : Nat} (hi : i < ze_n E) (hj : j < ze_n E) (Q : mz_Q) (U : mz_U) (T : mz_T) {post : Option Value → ez_W → Prop} (h : ∀ A' : mz_A, mr_R E (zs_sw row i j) g A' → post none (mz_w A' Q U T)) : ez_m 75 [.ref 0, .int (nI i), .int (nI j)] (mz_w A Q U T) post := by
  have hn := hE.1
  obtain ⟨msz, mord, madv, mcand, mnx, mcmp, mlat, mnum, mset, mrow⟩ := A
  have e1 : mrow i = nI (row i) := hr.2.2.2.2.1 i hi
  have e2 : mrow j = nI (row j) := hr.2.2.2.2.1 j hj
  refine lf_mswap i j (by omega) (by omega) msz mord madv mcand mnx mcmp mlat mnum mset mrow Q U T ?_
  unfold pf_mswap
  rw [e1, e2]
  exact h _ (mr_up (mr_up hr))
/-- reach: from a place of a method to another one of it -/
def cr_G (E : ze_T) (mi pc : Nat) (L : ez_L) (row : Nat → Nat) (g : zs_G) (pc' : Nat) (L' : ez_L) (row' : Nat → Nat) (g' : zs_G) : Prop := ∀ (r : cz_Row) (q : cz_Qk) (u : cz_Rn) (b : cz_Bn) (post : Option Value → ez_W → Prop), cr_R E row g r → (∀ r' : cz_Row, cr_R E row' g' r' → ez_E mi pc' L' [] (cz_w r' q u b) post) → ez_E mi pc L [] (cz_w r q u b) post
/-- a method that touches the row alone -/
def cr_M (E : ze_T) (j : Nat) (As : List Value) (row : Nat → Nat) (g : zs_G) (a : Option Value) (row' : Nat → Nat) (g' : zs_G) : Prop := ∀ (r : cz_Row) (q : cz_Qk) (u : cz_Rn) (b : cz_Bn) (post : Option Value → ez_W → Prop), cr_R E row g r → (∀ r' : cz_Row, cr_R E row' g' r' → post a (cz_w r' q u b)) → ez_m j As (cz_w r q u b) post
def mr_G (E : ze_T) (mi pc : Nat) (L : ez_L) (row : Nat → Nat) (g : zs_G) (pc' : Nat) (L' : ez_L) (row' : Nat → Nat) (g' : zs_G) : Prop := ∀ (A : mz_A) (Q : mz_Q) (U : mz_U) (T : mz_T) (post : Option Value → ez_W → Prop), mr_R E row g A → (∀ A' : mz_A, mr_R E row' g' A' → ez_E mi pc' L' [] (mz_w A' Q U T) post) → ez_E mi pc L [] (mz_w A Q U T) post
def mr_M (E : ze_T) (j : Nat) (As : List Value) (row : Nat → Nat) (g : zs_G) (a : Option Value) (row' : Nat → Nat) (g' : zs_G) : Prop := ∀ (A : mz_A) (Q : mz_Q) (U : mz_U) (T : mz_T) (post : Option Value → ez_W → Prop), mr_R E row g A → (∀ A' : mz_A, mr_R E row' g' A' → post a (mz_w A' Q U T)) → ez_m j As (mz_w A Q U T) post
theorem cr_G.tr {E : ze_T} {mi p1 p2 p3 : Nat} {L1 L2 L3 : ez_L} {r1 r2 r3 : Nat → Nat} {g1 g2 g3 : zs_G} (h : cr_G E mi p1 L1 r1 g1 p2 L2 r2 g2) (k : cr_G E mi p2 L2 r2 g2 p3 L3 r3 g3) : cr_G E mi p1 L1 r1 g1 p3 L3 r3 g3 := fun r q u b post hr kk => h r q u b post hr (fun r' hr' => k r' q u b post hr' kk)
theorem mr_G.tr {E : ze_T} {mi p1 p2 p3 : Nat} {L1 L2 L3 : ez_L} {r1 r2 r3 : Nat → Nat} {g1 g2 g3 : zs_G} (h : mr_G E mi p1 L1 r1 g1 p2 L2 r2 g2) (k : mr_G E mi p2 L2 r2 g2 p3 L3 r3 g3) : mr_G E mi p1 L1 r1 g1 p3 L3 r3 g3 := fun A Q U T post hr kk => h A Q U T post hr (fun r' hr' => k r' Q U T post hr' kk)
theorem zz_01 (b : Bool) : zs_z b = 0 ∨ zs_z b = 1 := by cases b <;> simp [zs_z]
theorem zr_ok.sw {E : ze_T} {row : Nat → Nat} {g : zs_G} (h : zr_ok E row g) {i j : Nat} (hi : i < ze_n E) (hj : j < ze_n E) : zr_ok E (zs_sw row i j) g := (h.set (h.1 j hj)).set (h.1 i hi)
/-- what was known stays known -/
def zg_le (E : ze_T) (g g' : zs_G) : Prop := ∀ u v, u < ze_n E → zs_K (ze_md E) (ze_ka E) g u v → zs_K (ze_md E) (ze_ka E) g' u v
theorem zg_le.rf {E : ze_T} (g : zs_G) : zg_le E g g := fun _ _ _ h => h
theorem zg_le.tr {E : ze_T} {g1 g2 g3 : zs_G} (h : zg_le E g1 g2) (k : zg_le E g2 g3) : zg_le E g1 g3 := fun u v hu q => k u v hu (h u v hu q)
theorem zg_le.go {E : ze_T} {row : Nat → Nat} {g : zs_G} (h : zr_ok E row g) (x y : Nat) : zg_le E g (zs_g (ze_md E) x y g) := fun _ _ hu q => q.mono h.2 hu x y
/-- within b .. e only what was there, outside nothing changed -/
def zp_in (row row' : Nat → Nat) (b e : Nat) : Prop := (∀ k, b ≤ k → k < e → ∃ j, b ≤ j ∧ j < e ∧ row' k = row j) ∧ ∀ k, k < b ∨ e ≤ k → row' k = row k
theorem zp_in.rf (row : Nat → Nat) (b e : Nat) : zp_in row row b e := ⟨fun k h1 h2 => ⟨k, h1, h2, rfl⟩, fun _ _ => rfl⟩
theorem zp_in.tr {r1 r2 r3 : Nat → Nat} {b e : Nat} (h : zp_in r1 r2 b e) (k : zp_in r2 r3 b e) : zp_in r1 r3 b e := ⟨fun j h1 h2 => by
  obtain ⟨i, a1, a2, a3⟩ := k.1 j h1 h2
  obtain ⟨i', b1, b2, b3⟩ := h.1 i a1 a2
  exact ⟨i', b1, b2, a3.trans b3⟩, fun j hj => (k.2 j hj).trans (h.2 j hj)⟩
theorem zp_in.wide {r1 r2 : Nat → Nat} {b e b' e' : Nat} (h : zp_in r1 r2 b e) (h1 : b' ≤ b) (h2 : e ≤ e') : zp_in r1 r2 b' e' := ⟨fun k a1 a2 => by
  by_cases c : b ≤ k ∧ k < e
  · obtain ⟨j, c1, c2, c3⟩ := h.1 k c.1 c.2
    exact ⟨j, by omega, by omega, c3⟩
  · exact ⟨k, a1, a2, h.2 k (by omega)⟩, fun k hk => h.2 k (by omega)⟩
theorem zp_in.sw (row : Nat → Nat) {i j b e : Nat} (hi : b ≤ i ∧ i < e) (hj : b ≤ j ∧ j < e) : zp_in row (zs_sw row i j) b e := ⟨fun k h1 h2 => by
  unfold zs_sw
  by_cases c : k = j
  · exact ⟨i, hi.1, hi.2, by rw [c, va_up_self]⟩
  · rw [va_up_ne _ _ c]
    by_cases c2 : k = i
    · exact ⟨j, hj.1, hj.2, by rw [c2, va_up_self]⟩
    · exact ⟨k, h1, h2, by rw [va_up_ne _ _ c2]⟩, fun k hk => by
  unfold zs_sw
  rw [va_up_ne _ _ (by omega), va_up_ne _ _ (by omega)]⟩
end
section
theorem cr_swap {E : ze_T} {row : Nat → Nat} {g : zs_G} {r : cz_Row} (hE : ze_ok E) (hr : cr_R E row g r) {i j : Nat} (hi : i < ze_n E) (hj : j < ze_n E) (q : cz_Qk) (u : cz_Rn) (b : cz_Bn) {post : Option Value → ez_W → Prop} (h : ∀ r' : cz_Row, cr_R E (zs_sw row i j) g r' → post none (cz_w r' q u b)) : ez_m 35 [.ref 1, .int (nI i), .int (nI j)] (cz_w r q u b) post := by
  have hn := hE.1
  refine ez_m.of (L := [some (.ref 1), some (.int (nI (i))), some (.int (nI (j))), none]) rfl rfl rfl ?_
  refine ez_go ez_h35 2 (pc' := 2) (L' := [some (.ref 1), some (.int (nI (i))), some (.int (nI (j))), none]) (st' := [.int (nI (i)), .ref 1]) (w' := cz_w r q u b) rfl ?_
  refine ez_cl ez_h35 rfl rfl ?_
  refine cr_at hE hr (k := i) (by omega) q u b ?_
  refine ez_go ez_h35 5 (pc' := 10) (L' := [some (.ref 1), some (.int (nI (i))), some (.int (nI (j))), some (.int (nI (ze_pi E (row i))))]) (st' := [.int (nI (j)), .ref 1, .int (nI (i)), .ref 1]) (w' := cz_w r q u b) rfl ?_
  refine ez_cl ez_h35 rfl rfl ?_
  refine cr_at hE hr (k := j) (by omega) q u b ?_
  refine ez_cl ez_h35 rfl rfl ?_
  refine cr_set hE hr (k := i) (x := row j) (by omega) q u b (fun r1 hr1 => ?_)
  refine ez_go ez_h35 3 (pc' := 19) (L' := [some (.ref 1), some (.int (nI (i))), some (.int (nI (j))), some (.int (nI (ze_pi E (row i))))]) (st' := [.int (nI (ze_pi E (row i))), .int (nI (j)), .ref 1]) (w' := cz_w r1 q u b) rfl ?_
  refine ez_cl ez_h35 rfl rfl ?_
  refine cr_set hE hr1 (k := j) (x := row i) (by omega) q u b (fun r2 hr2 => ?_)
  exact ez_vret rfl ez_h35 rfl rfl (h _ hr2)
theorem mr_lessAt {E : ze_T} {row : Nat → Nat} {g : zs_G} {A : mz_A} (hE : ze_ok E) (hA : mr_R E row g A) (hw : zr_ok E row g) {i j : Nat} (hi : i < ze_n E) (hj : j < ze_n E) (Q : mz_Q) (U : mz_U) (T : mz_T) {post : Option Value → ez_W → Prop} (h : ∀ A' : mz_A, mr_R E row (zs_g (ze_md E) (row i) (row j) g) A' → post (some (.int (zs_z (zs_b (ze_md E) (ze_ka E) (row i) (row j) g)))) (mz_w A' Q U T)) : ez_m 74 [.ref 0, .int (nI i), .int (nI j)] (mz_w A Q U T) post := by
  have hn := hE.1
  refine ez_m.of (L := [some (.ref 0), some (.int (nI (i))), some (.int (nI (j)))]) rfl rfl rfl ?_
  refine ez_go ez_h74 4 (pc' := 6) (L' := [some (.ref 0), some (.int (nI (i))), some (.int (nI (j)))]) (st' := [.int (nI (i)), .ref 4, .ref 0]) (w' := mz_w A Q U T) rfl ?_
  refine mr_ld ez_h74 rfl hE hA (k := i) (by omega) ?_
  refine ez_go ez_h74 3 (pc' := 12) (L' := [some (.ref 0), some (.int (nI (i))), some (.int (nI (j)))]) (st' := [.int (nI (j)), .ref 4, .int (nI (row i)), .ref 0]) (w' := mz_w A Q U T) rfl ?_
  refine mr_ld ez_h74 rfl hE hA (k := j) (by omega) ?_
  refine ez_cl ez_h74 rfl rfl ?_
  refine mr_less hE hA hw.2 (x := row i) (y := row j) (hw.1 i (by omega)) (hw.1 j (by omega)) Q U T (fun A3 hA3 => ?_)
  exact ez_zret rfl ez_h74 rfl rfl (zz_01 _) (h _ hA3)
end
section
/-- the way down of one that is inserted: gd: GUARDED, down to lo; else what stands before lo is known not to be greater -/
theorem zi_down {E : ze_T} (hE : ze_ok E) (gd : Bool) (lo x : Nat) (hx : x < ze_n E) : ∀ (j : Nat) (row : Nat → Nat) (g : zs_G), lo < j → j < ze_n E → zr_ok E row g → (gd = false → 1 ≤ lo ∧ zs_K (ze_md E) (ze_ka E) g (row (lo - 1)) x) →
    ∃ (row' : Nat → Nat) (g' : zs_G) (j' : Nat), lo ≤ j' ∧ j' < j ∧ zr_ok E row' g' ∧ zg_le E g g' ∧ (∀ k, row' k = if j' < k ∧ k ≤ j then row (k - 1) else row k) ∧
      (∀ i lw : Nat, lw ≤ lo → (gd = true → lw = lo) → (gd = false → lw < lo) → cr_G E 7 35 [some (.ref 2), some (.int (nI (i))), some (.int (nI (lw))), some (.int (nI (ze_pi E (x)))), some (.int (nI (j)))] row g 86 [some (.ref 2), some (.int (nI (i))), some (.int (nI (lw))), some (.int (nI (ze_pi E (x)))), some (.int (nI (j')))] row' g') ∧
      (∀ (b e i : Nat) (pp sm : Int32), (gd = true → b = lo) → mr_G E 76 62 [some (.ref 0), some (.int (nI (b))), some (.int (nI (e))), some (.int (nI (bif gd then 1 else 0))), some (.int (pp)), some (.int (sm)), some (.int (nI (i))), some (.int (nI (x))), some (.int (nI (j))), none] row g 119 [some (.ref 0), some (.int (nI (b))), some (.int (nI (e))), some (.int (nI (bif gd then 1 else 0))), some (.int (pp)), some (.int (sm)), some (.int (nI (i))), some (.int (nI (x))), some (.int (nI (j'))), none] row' g') := by
  intro j
  induction j using Nat.strongRecOn with
  | _ j ih =>
    intro row g h1 h2 hw hs
    have hn := hE.1
    have hw1 : zr_ok E (va_up row j (row (j - 1))) g := hw.set (hw.1 _ (by omega))
    have hshape : ∀ k, va_up row j (row (j - 1)) k = if j - 1 < k ∧ k ≤ j then row (k - 1) else row k := fun k => by
      by_cases e : k = j
      · rw [e, va_up_self, if_pos (by omega)]
      · rw [va_up_ne _ _ e, if_neg (by omega)]
    by_cases hstop : gd = true ∧ j - 1 = lo
    · obtain ⟨rfl, hj⟩ := hstop
      refine ⟨va_up row j (row (j - 1)), g, j - 1, by omega, by omega, hw1, zg_le.rf g, hshape, fun i lw q1 q2 q3 => ?_, fun b e i pp sm q1 => ?_⟩
      · have q2 := q2 rfl
        intro r q u b post hr kk
        refine ez_go ez_h7 8 (pc' := 49) (L' := [some (.ref 2), some (.int (nI (i))), some (.int (nI (lw))), some (.int (nI (ze_pi E (x)))), some (.int (nI (j)))]) (st' := [.int ((nI (j)) - (nI (1))), .ref 1, .int (nI (j)), .ref 1]) (w' := cz_w r q u b) rfl ?_
        refine ez_top (y := nI (j - 1)) (pk_sub (by omega)) ?_
        refine ez_cl ez_h7 rfl rfl ?_
        refine cr_at hE hr (k := j - 1) (by omega) q u b ?_
        refine ez_cl ez_h7 rfl rfl ?_
        refine cr_set hE hr (k := j) (x := row (j - 1)) (by omega) q u b (fun r4 hr4 => ?_)
        refine ez_inc ez_h7 rfl rfl (v := nI (j - 1)) (zi_m (by omega)) rfl ?_
        refine ez_go ez_h7 3 (pc' := bif decide ((nI (j - 1)) ≤ (nI (lw))) then 86 else 64) (L' := [some (.ref 2), some (.int (nI (i))), some (.int (nI (lw))), some (.int (nI (ze_pi E (x)))), some (.int (nI (j - 1)))]) (st' := []) (w' := cz_w r4 q u b) rfl ?_
        refine ez_ifT (zt_le (a := j - 1) (b := lw) (by omega) (by omega)) ?_
        exact kk _ hr4
      · have q1 := q1 rfl
        intro A Q U T post hA kk
        refine ez_go ez_h76 8 (pc' := 76) (L' := [some (.ref 0), some (.int (nI (b))), some (.int (nI (e))), some (.int (nI (1))), some (.int (pp)), some (.int (sm)), some (.int (nI (i))), some (.int (nI (x))), some (.int (nI (j))), none]) (st' := [.int ((nI (j)) - (nI (1))), .ref 4, .int (nI (j)), .ref 4]) (w' := mz_w A Q U T) rfl ?_
        refine ez_top (y := nI (j - 1)) (pk_sub (by omega)) ?_
        refine mr_ld ez_h76 rfl hE hA (k := j - 1) (by omega) ?_
        refine mr_st ez_h76 rfl hE hA (k := j) (x := row (j - 1)) (by omega) (fun A5 hA5 => ?_)
        refine ez_inc ez_h76 rfl rfl (v := nI (j - 1)) (zi_m (by omega)) rfl ?_
        refine ez_go ez_h76 2 (pc' := bif decide ((nI (1)) = (nI 0)) then 91 else 85) (L' := [some (.ref 0), some (.int (nI (b))), some (.int (nI (e))), some (.int (nI (1))), some (.int (pp)), some (.int (sm)), some (.int (nI (i))), some (.int (nI (x))), some (.int (nI (j - 1))), none]) (st' := []) (w' := mz_w A5 Q U T) rfl ?_
        refine ez_ifF (zt_ne (by omega) (by omega) (by omega)) ?_
        refine ez_go ez_h76 3 (pc' := bif decide ((nI (j - 1)) ≤ (nI (b))) then 113 else 91) (L' := [some (.ref 0), some (.int (nI (b))), some (.int (nI (e))), some (.int (nI (1))), some (.int (pp)), some (.int (sm)), some (.int (nI (i))), some (.int (nI (x))), some (.int (nI (j - 1))), none]) (st' := []) (w' := mz_w A5 Q U T) rfl ?_
        refine ez_ifT (zt_le (a := j - 1) (b := b) (by omega) (by omega)) ?_
        refine ez_go ez_h76 5 (pc' := bif decide ((nI (0)) = (nI 0)) then 119 else 62) (L' := [some (.ref 0), some (.int (nI (b))), some (.int (nI (e))), some (.int (nI (1))), some (.int (pp)), some (.int (sm)), some (.int (nI (i))), some (.int (nI (x))), some (.int (nI (j - 1))), some (.int (nI (0)))]) (st' := []) (w' := mz_w A5 Q U T) rfl ?_
        refine ez_ifT (zt_eq (by omega)) ?_
        exact ez_E.le (ez_lc (ez_lc (ez_lc (ez_lc (ez_lc (ez_lc (ez_lc (ez_lc (ez_lc (ez_ln ez_l0)))))))))) (kk _ hA5)
    · cases hb : zs_b (ze_md E) (ze_ka E) x (va_up row j (row (j - 1)) (j - 1 - 1)) g with
      | false =>
        have hlo : lo ≤ j - 1 := by omega
        refine ⟨va_up row j (row (j - 1)), zs_g (ze_md E) x (va_up row j (row (j - 1)) (j - 1 - 1)) g, j - 1, hlo, by omega, hw1.go hx (hw1.1 (j - 1 - 1) (by omega)), zg_le.go hw1 x _, hshape, fun i lw q1 q2 q3 => ?_, fun b e i pp sm q1 => ?_⟩
        · have hlw : lw < j - 1 := by
            cases gd with
            | true =>
              have := q2 rfl
              have : ¬ j - 1 = lo := fun z => hstop ⟨rfl, z⟩
              omega
            | false => have := q3 rfl; omega
          intro r q u b post hr kk
          refine ez_go ez_h7 8 (pc' := 49) (L' := [some (.ref 2), some (.int (nI (i))), some (.int (nI (lw))), some (.int (nI (ze_pi E (x)))), some (.int (nI (j)))]) (st' := [.int ((nI (j)) - (nI (1))), .ref 1, .int (nI (j)), .ref 1]) (w' := cz_w r q u b) rfl ?_
          refine ez_top (y := nI (j - 1)) (pk_sub (by omega)) ?_
          refine ez_cl ez_h7 rfl rfl ?_
          refine cr_at hE hr (k := j - 1) (by omega) q u b ?_
          refine ez_cl ez_h7 rfl rfl ?_
          refine cr_set hE hr (k := j) (x := row (j - 1)) (by omega) q u b (fun r6 hr6 => ?_)
          refine ez_inc ez_h7 rfl rfl (v := nI (j - 1)) (zi_m (by omega)) rfl ?_
          refine ez_go ez_h7 3 (pc' := bif decide ((nI (j - 1)) ≤ (nI (lw))) then 86 else 64) (L' := [some (.ref 2), some (.int (nI (i))), some (.int (nI (lw))), some (.int (nI (ze_pi E (x)))), some (.int (nI (j - 1)))]) (st' := []) (w' := cz_w r6 q u b) rfl ?_
          refine ez_ifF (zt_nle (a := j - 1) (b := lw) (by omega) (by omega)) ?_
          refine ez_go ez_h7 8 (pc' := 77) (L' := [some (.ref 2), some (.int (nI (i))), some (.int (nI (lw))), some (.int (nI (ze_pi E (x)))), some (.int (nI (j - 1)))]) (st' := [.int ((nI (j - 1)) - (nI (1))), .ref 1, .int (nI (ze_pi E (x))), .ref 1]) (w' := cz_w r6 q u b) rfl ?_
          refine ez_top (y := nI ((j - 1) - 1)) (pk_sub (by omega)) ?_
          refine ez_cl ez_h7 rfl rfl ?_
          refine cr_at hE hr6 (k := (j - 1) - 1) (by omega) q u b ?_
          refine ez_cl ez_h7 rfl rfl ?_
          refine cr_less hE hr6 (zr_ok.set hw (k := j) (x := row (j - 1)) (hw.1 (j - 1) (by omega))).2 (x := x) (y := (va_up row j (row (j - 1))) ((j - 1) - 1)) hx ((zr_ok.set hw (k := j) (x := row (j - 1)) (hw.1 (j - 1) (by omega))).1 ((j - 1) - 1) (by omega)) q u b (fun r7 hr7 => ?_)
          refine ez_go ez_h7 1 (pc' := bif decide (¬ (zs_z (zs_b (ze_md E) (ze_ka E) x ((va_up row j (row (j - 1))) ((j - 1) - 1)) g)) = 0) then 35 else 86) (L' := [some (.ref 2), some (.int (nI (i))), some (.int (nI (lw))), some (.int (nI (ze_pi E (x)))), some (.int (nI (j - 1)))]) (st' := []) (w' := cz_w r7 q u b) rfl ?_
          refine ez_ifF (fun z => z (zz_f hb)) ?_
          exact kk _ hr7
        · intro A Q U T post hA kk
          cases gd with
          | true =>
            have q1 := q1 rfl
            have hne : ¬ j - 1 = lo := fun z => hstop ⟨rfl, z⟩
            refine ez_go ez_h76 8 (pc' := 76) (L' := [some (.ref 0), some (.int (nI (b))), some (.int (nI (e))), some (.int (nI (1))), some (.int (pp)), some (.int (sm)), some (.int (nI (i))), some (.int (nI (x))), some (.int (nI (j))), none]) (st' := [.int ((nI (j)) - (nI (1))), .ref 4, .int (nI (j)), .ref 4]) (w' := mz_w A Q U T) rfl ?_
            refine ez_top (y := nI (j - 1)) (pk_sub (by omega)) ?_
            refine mr_ld ez_h76 rfl hE hA (k := j - 1) (by omega) ?_
            refine mr_st ez_h76 rfl hE hA (k := j) (x := row (j - 1)) (by omega) (fun A8 hA8 => ?_)
            refine ez_inc ez_h76 rfl rfl (v := nI (j - 1)) (zi_m (by omega)) rfl ?_
            refine ez_go ez_h76 2 (pc' := bif decide ((nI (1)) = (nI 0)) then 91 else 85) (L' := [some (.ref 0), some (.int (nI (b))), some (.int (nI (e))), some (.int (nI (1))), some (.int (pp)), some (.int (sm)), some (.int (nI (i))), some (.int (nI (x))), some (.int (nI (j - 1))), none]) (st' := []) (w' := mz_w A8 Q U T) rfl ?_
            refine ez_ifF (zt_ne (by omega) (by omega) (by omega)) ?_
            refine ez_go ez_h76 3 (pc' := bif decide ((nI (j - 1)) ≤ (nI (b))) then 113 else 91) (L' := [some (.ref 0), some (.int (nI (b))), some (.int (nI (e))), some (.int (nI (1))), some (.int (pp)), some (.int (sm)), some (.int (nI (i))), some (.int (nI (x))), some (.int (nI (j - 1))), none]) (st' := []) (w' := mz_w A8 Q U T) rfl ?_
            refine ez_ifF (zt_nle (a := j - 1) (b := b) (by omega) (by omega)) ?_
            refine ez_go ez_h76 7 (pc' := 102) (L' := [some (.ref 0), some (.int (nI (b))), some (.int (nI (e))), some (.int (nI (1))), some (.int (pp)), some (.int (sm)), some (.int (nI (i))), some (.int (nI (x))), some (.int (nI (j - 1))), none]) (st' := [.int ((nI (j - 1)) - (nI (1))), .ref 4, .int (nI (x)), .ref 0]) (w' := mz_w A8 Q U T) rfl ?_
            refine ez_top (y := nI ((j - 1) - 1)) (pk_sub (by omega)) ?_
            refine mr_ld ez_h76 rfl hE hA8 (k := (j - 1) - 1) (by omega) ?_
            refine ez_cl ez_h76 rfl rfl ?_
            refine mr_less hE hA8 (zr_ok.set hw (k := j) (x := row (j - 1)) (hw.1 (j - 1) (by omega))).2 (x := x) (y := (va_up row j (row (j - 1))) ((j - 1) - 1)) hx ((zr_ok.set hw (k := j) (x := row (j - 1)) (hw.1 (j - 1) (by omega))).1 ((j - 1) - 1) (by omega)) Q U T (fun A9 hA9 => ?_)
            refine ez_go ez_h76 1 (pc' := bif decide ((zs_z (zs_b (ze_md E) (ze_ka E) x ((va_up row j (row (j - 1))) ((j - 1) - 1)) g)) = 0) then 113 else 109) (L' := [some (.ref 0), some (.int (nI (b))), some (.int (nI (e))), some (.int (nI (1))), some (.int (pp)), some (.int (sm)), some (.int (nI (i))), some (.int (nI (x))), some (.int (nI (j - 1))), none]) (st' := []) (w' := mz_w A9 Q U T) rfl ?_
            refine ez_ifT (zz_f hb) ?_
            refine ez_go ez_h76 5 (pc' := bif decide ((nI (0)) = (nI 0)) then 119 else 62) (L' := [some (.ref 0), some (.int (nI (b))), some (.int (nI (e))), some (.int (nI (1))), some (.int (pp)), some (.int (sm)), some (.int (nI (i))), some (.int (nI (x))), some (.int (nI (j - 1))), some (.int (nI (0)))]) (st' := []) (w' := mz_w A9 Q U T) rfl ?_
            refine ez_ifT (zt_eq (by omega)) ?_
            exact ez_E.le (ez_lc (ez_lc (ez_lc (ez_lc (ez_lc (ez_lc (ez_lc (ez_lc (ez_lc (ez_ln ez_l0)))))))))) (kk _ hA9)
          | false =>
            have hs := hs rfl
            refine ez_go ez_h76 8 (pc' := 76) (L' := [some (.ref 0), some (.int (nI (b))), some (.int (nI (e))), some (.int (nI (0))), some (.int (pp)), some (.int (sm)), some (.int (nI (i))), some (.int (nI (x))), some (.int (nI (j))), none]) (st' := [.int ((nI (j)) - (nI (1))), .ref 4, .int (nI (j)), .ref 4]) (w' := mz_w A Q U T) rfl ?_
            refine ez_top (y := nI (j - 1)) (pk_sub (by omega)) ?_
            refine mr_ld ez_h76 rfl hE hA (k := j - 1) (by omega) ?_
            refine mr_st ez_h76 rfl hE hA (k := j) (x := row (j - 1)) (by omega) (fun A10 hA10 => ?_)
            refine ez_inc ez_h76 rfl rfl (v := nI (j - 1)) (zi_m (by omega)) rfl ?_
            refine ez_go ez_h76 2 (pc' := bif decide ((nI (0)) = (nI 0)) then 91 else 85) (L' := [some (.ref 0), some (.int (nI (b))), some (.int (nI (e))), some (.int (nI (0))), some (.int (pp)), some (.int (sm)), some (.int (nI (i))), some (.int (nI (x))), some (.int (nI (j - 1))), none]) (st' := []) (w' := mz_w A10 Q U T) rfl ?_
            refine ez_ifT (zt_eq (by omega)) ?_
            refine ez_go ez_h76 7 (pc' := 102) (L' := [some (.ref 0), some (.int (nI (b))), some (.int (nI (e))), some (.int (nI (0))), some (.int (pp)), some (.int (sm)), some (.int (nI (i))), some (.int (nI (x))), some (.int (nI (j - 1))), none]) (st' := [.int ((nI (j - 1)) - (nI (1))), .ref 4, .int (nI (x)), .ref 0]) (w' := mz_w A10 Q U T) rfl ?_
            refine ez_top (y := nI ((j - 1) - 1)) (pk_sub (by omega)) ?_
            refine mr_ld ez_h76 rfl hE hA10 (k := (j - 1) - 1) (by omega) ?_
            refine ez_cl ez_h76 rfl rfl ?_
            refine mr_less hE hA10 (zr_ok.set hw (k := j) (x := row (j - 1)) (hw.1 (j - 1) (by omega))).2 (x := x) (y := (va_up row j (row (j - 1))) ((j - 1) - 1)) hx ((zr_ok.set hw (k := j) (x := row (j - 1)) (hw.1 (j - 1) (by omega))).1 ((j - 1) - 1) (by omega)) Q U T (fun A11 hA11 => ?_)
            refine ez_go ez_h76 1 (pc' := bif decide ((zs_z (zs_b (ze_md E) (ze_ka E) x ((va_up row j (row (j - 1))) ((j - 1) - 1)) g)) = 0) then 113 else 109) (L' := [some (.ref 0), some (.int (nI (b))), some (.int (nI (e))), some (.int (nI (0))), some (.int (pp)), some (.int (sm)), some (.int (nI (i))), some (.int (nI (x))), some (.int (nI (j - 1))), none]) (st' := []) (w' := mz_w A11 Q U T) rfl ?_
            refine ez_ifT (zz_f hb) ?_
            refine ez_go ez_h76 5 (pc' := bif decide ((nI (0)) = (nI 0)) then 119 else 62) (L' := [some (.ref 0), some (.int (nI (b))), some (.int (nI (e))), some (.int (nI (0))), some (.int (pp)), some (.int (sm)), some (.int (nI (i))), some (.int (nI (x))), some (.int (nI (j - 1))), some (.int (nI (0)))]) (st' := []) (w' := mz_w A11 Q U T) rfl ?_
            refine ez_ifT (zt_eq (by omega)) ?_
            exact ez_E.le (ez_lc (ez_lc (ez_lc (ez_lc (ez_lc (ez_lc (ez_lc (ez_lc (ez_lc (ez_ln ez_l0)))))))))) (kk _ hA11)
      | true =>
        have hlt : lo < j - 1 := by
          cases gd with
          | true =>
            have : ¬ j - 1 = lo := fun z => hstop ⟨rfl, z⟩
            omega
          | false =>
            obtain ⟨s1, s2⟩ := hs rfl
            by_cases e : j - 1 = lo
            · exfalso
              have e2 : va_up row j (row (j - 1)) (j - 1 - 1) = row (lo - 1) := by rw [va_up_ne _ _ (by omega), e]
              rw [e2, zs_b_K hw.2 hx (hw.1 _ (by omega)) s2] at hb
              cases hb
            · omega
        have hw2 := hw1.go hx (hw1.1 (j - 1 - 1) (by omega))
        have hs2 : gd = false → 1 ≤ lo ∧ zs_K (ze_md E) (ze_ka E) (zs_g (ze_md E) x (va_up row j (row (j - 1)) (j - 1 - 1)) g) (va_up row j (row (j - 1)) (lo - 1)) x := fun z => by
          obtain ⟨s1, s2⟩ := hs z
          refine ⟨s1, ?_⟩
          have e2 : va_up row j (row (j - 1)) (lo - 1) = row (lo - 1) := va_up_ne _ _ (by omega)
          rw [e2]
          exact zg_le.go hw1 x _ _ _ (hw.1 (lo - 1) (by omega)) s2
        obtain ⟨row', g', j', a1, a2, a3, a4, a5, a6, a7⟩ := ih (j - 1) (by omega) _ _ hlt (by omega) hw2 hs2
        refine ⟨row', g', j', a1, by omega, a3, (zg_le.go hw1 x _).tr a4, fun k => ?_, fun i lw q1 q2 q3 => ?_, fun b e i pp sm q1 => ?_⟩
        · rw [a5 k]
          by_cases c1 : j' < k ∧ k ≤ j - 1
          · rw [if_pos c1, if_pos (by omega), va_up_ne _ _ (by omega)]
          · rw [if_neg c1, hshape k]
            by_cases c2 : k = j
            · rw [if_pos (by omega), if_pos (by omega)]
            · rw [if_neg (by omega), if_neg (by omega)]
        · have hlw : lw < j - 1 := by omega
          intro r q u b post hr kk
          refine ez_go ez_h7 8 (pc' := 49) (L' := [some (.ref 2), some (.int (nI (i))), some (.int (nI (lw))), some (.int (nI (ze_pi E (x)))), some (.int (nI (j)))]) (st' := [.int ((nI (j)) - (nI (1))), .ref 1, .int (nI (j)), .ref 1]) (w' := cz_w r q u b) rfl ?_
          refine ez_top (y := nI (j - 1)) (pk_sub (by omega)) ?_
          refine ez_cl ez_h7 rfl rfl ?_
          refine cr_at hE hr (k := j - 1) (by omega) q u b ?_
          refine ez_cl ez_h7 rfl rfl ?_
          refine cr_set hE hr (k := j) (x := row (j - 1)) (by omega) q u b (fun r12 hr12 => ?_)
          refine ez_inc ez_h7 rfl rfl (v := nI (j - 1)) (zi_m (by omega)) rfl ?_
          refine ez_go ez_h7 3 (pc' := bif decide ((nI (j - 1)) ≤ (nI (lw))) then 86 else 64) (L' := [some (.ref 2), some (.int (nI (i))), some (.int (nI (lw))), some (.int (nI (ze_pi E (x)))), some (.int (nI (j - 1)))]) (st' := []) (w' := cz_w r12 q u b) rfl ?_
          refine ez_ifF (zt_nle (a := j - 1) (b := lw) (by omega) (by omega)) ?_
          refine ez_go ez_h7 8 (pc' := 77) (L' := [some (.ref 2), some (.int (nI (i))), some (.int (nI (lw))), some (.int (nI (ze_pi E (x)))), some (.int (nI (j - 1)))]) (st' := [.int ((nI (j - 1)) - (nI (1))), .ref 1, .int (nI (ze_pi E (x))), .ref 1]) (w' := cz_w r12 q u b) rfl ?_
          refine ez_top (y := nI ((j - 1) - 1)) (pk_sub (by omega)) ?_
          refine ez_cl ez_h7 rfl rfl ?_
          refine cr_at hE hr12 (k := (j - 1) - 1) (by omega) q u b ?_
          refine ez_cl ez_h7 rfl rfl ?_
          refine cr_less hE hr12 (zr_ok.set hw (k := j) (x := row (j - 1)) (hw.1 (j - 1) (by omega))).2 (x := x) (y := (va_up row j (row (j - 1))) ((j - 1) - 1)) hx ((zr_ok.set hw (k := j) (x := row (j - 1)) (hw.1 (j - 1) (by omega))).1 ((j - 1) - 1) (by omega)) q u b (fun r13 hr13 => ?_)
          refine ez_go ez_h7 1 (pc' := bif decide (¬ (zs_z (zs_b (ze_md E) (ze_ka E) x ((va_up row j (row (j - 1))) ((j - 1) - 1)) g)) = 0) then 35 else 86) (L' := [some (.ref 2), some (.int (nI (i))), some (.int (nI (lw))), some (.int (nI (ze_pi E (x)))), some (.int (nI (j - 1)))]) (st' := []) (w' := cz_w r13 q u b) rfl ?_
          refine ez_ifT (zz_t hb) ?_
          exact a6 i lw q1 q2 q3 _ q u b post hr13 kk
        · intro A Q U T post hA kk
          cases gd with
          | true =>
            have q1' := q1 rfl
            refine ez_go ez_h76 8 (pc' := 76) (L' := [some (.ref 0), some (.int (nI (b))), some (.int (nI (e))), some (.int (nI (1))), some (.int (pp)), some (.int (sm)), some (.int (nI (i))), some (.int (nI (x))), some (.int (nI (j))), none]) (st' := [.int ((nI (j)) - (nI (1))), .ref 4, .int (nI (j)), .ref 4]) (w' := mz_w A Q U T) rfl ?_
            refine ez_top (y := nI (j - 1)) (pk_sub (by omega)) ?_
            refine mr_ld ez_h76 rfl hE hA (k := j - 1) (by omega) ?_
            refine mr_st ez_h76 rfl hE hA (k := j) (x := row (j - 1)) (by omega) (fun A14 hA14 => ?_)
            refine ez_inc ez_h76 rfl rfl (v := nI (j - 1)) (zi_m (by omega)) rfl ?_
            refine ez_go ez_h76 2 (pc' := bif decide ((nI (1)) = (nI 0)) then 91 else 85) (L' := [some (.ref 0), some (.int (nI (b))), some (.int (nI (e))), some (.int (nI (1))), some (.int (pp)), some (.int (sm)), some (.int (nI (i))), some (.int (nI (x))), some (.int (nI (j - 1))), none]) (st' := []) (w' := mz_w A14 Q U T) rfl ?_
            refine ez_ifF (zt_ne (by omega) (by omega) (by omega)) ?_
            refine ez_go ez_h76 3 (pc' := bif decide ((nI (j - 1)) ≤ (nI (b))) then 113 else 91) (L' := [some (.ref 0), some (.int (nI (b))), some (.int (nI (e))), some (.int (nI (1))), some (.int (pp)), some (.int (sm)), some (.int (nI (i))), some (.int (nI (x))), some (.int (nI (j - 1))), none]) (st' := []) (w' := mz_w A14 Q U T) rfl ?_
            refine ez_ifF (zt_nle (a := j - 1) (b := b) (by omega) (by omega)) ?_
            refine ez_go ez_h76 7 (pc' := 102) (L' := [some (.ref 0), some (.int (nI (b))), some (.int (nI (e))), some (.int (nI (1))), some (.int (pp)), some (.int (sm)), some (.int (nI (i))), some (.int (nI (x))), some (.int (nI (j - 1))), none]) (st' := [.int ((nI (j - 1)) - (nI (1))), .ref 4, .int (nI (x)), .ref 0]) (w' := mz_w A14 Q U T) rfl ?_
            refine ez_top (y := nI ((j - 1) - 1)) (pk_sub (by omega)) ?_
            refine mr_ld ez_h76 rfl hE hA14 (k := (j - 1) - 1) (by omega) ?_
            refine ez_cl ez_h76 rfl rfl ?_
            refine mr_less hE hA14 (zr_ok.set hw (k := j) (x := row (j - 1)) (hw.1 (j - 1) (by omega))).2 (x := x) (y := (va_up row j (row (j - 1))) ((j - 1) - 1)) hx ((zr_ok.set hw (k := j) (x := row (j - 1)) (hw.1 (j - 1) (by omega))).1 ((j - 1) - 1) (by omega)) Q U T (fun A15 hA15 => ?_)
            refine ez_go ez_h76 1 (pc' := bif decide ((zs_z (zs_b (ze_md E) (ze_ka E) x ((va_up row j (row (j - 1))) ((j - 1) - 1)) g)) = 0) then 113 else 109) (L' := [some (.ref 0), some (.int (nI (b))), some (.int (nI (e))), some (.int (nI (1))), some (.int (pp)), some (.int (sm)), some (.int (nI (i))), some (.int (nI (x))), some (.int (nI (j - 1))), none]) (st' := []) (w' := mz_w A15 Q U T) rfl ?_
            refine ez_ifF (zz_t hb) ?_
            refine ez_go ez_h76 6 (pc' := bif decide ((nI (1)) = (nI 0)) then 119 else 62) (L' := [some (.ref 0), some (.int (nI (b))), some (.int (nI (e))), some (.int (nI (1))), some (.int (pp)), some (.int (sm)), some (.int (nI (i))), some (.int (nI (x))), some (.int (nI (j - 1))), some (.int (nI (1)))]) (st' := []) (w' := mz_w A15 Q U T) rfl ?_
            refine ez_ifF (zt_ne (by omega) (by omega) (by omega)) ?_
            exact ez_E.le (ez_lc (ez_lc (ez_lc (ez_lc (ez_lc (ez_lc (ez_lc (ez_lc (ez_lc (ez_ln ez_l0)))))))))) (a7 b e i pp sm q1 _ Q U T post hA15 kk)
          | false =>
            have hs := hs rfl
            refine ez_go ez_h76 8 (pc' := 76) (L' := [some (.ref 0), some (.int (nI (b))), some (.int (nI (e))), some (.int (nI (0))), some (.int (pp)), some (.int (sm)), some (.int (nI (i))), some (.int (nI (x))), some (.int (nI (j))), none]) (st' := [.int ((nI (j)) - (nI (1))), .ref 4, .int (nI (j)), .ref 4]) (w' := mz_w A Q U T) rfl ?_
            refine ez_top (y := nI (j - 1)) (pk_sub (by omega)) ?_
            refine mr_ld ez_h76 rfl hE hA (k := j - 1) (by omega) ?_
            refine mr_st ez_h76 rfl hE hA (k := j) (x := row (j - 1)) (by omega) (fun A16 hA16 => ?_)
            refine ez_inc ez_h76 rfl rfl (v := nI (j - 1)) (zi_m (by omega)) rfl ?_
            refine ez_go ez_h76 2 (pc' := bif decide ((nI (0)) = (nI 0)) then 91 else 85) (L' := [some (.ref 0), some (.int (nI (b))), some (.int (nI (e))), some (.int (nI (0))), some (.int (pp)), some (.int (sm)), some (.int (nI (i))), some (.int (nI (x))), some (.int (nI (j - 1))), none]) (st' := []) (w' := mz_w A16 Q U T) rfl ?_
            refine ez_ifT (zt_eq (by omega)) ?_
            refine ez_go ez_h76 7 (pc' := 102) (L' := [some (.ref 0), some (.int (nI (b))), some (.int (nI (e))), some (.int (nI (0))), some (.int (pp)), some (.int (sm)), some (.int (nI (i))), some (.int (nI (x))), some (.int (nI (j - 1))), none]) (st' := [.int ((nI (j - 1)) - (nI (1))), .ref 4, .int (nI (x)), .ref 0]) (w' := mz_w A16 Q U T) rfl ?_
            refine ez_top (y := nI ((j - 1) - 1)) (pk_sub (by omega)) ?_
            refine mr_ld ez_h76 rfl hE hA16 (k := (j - 1) - 1) (by omega) ?_
            refine ez_cl ez_h76 rfl rfl ?_
            refine mr_less hE hA16 (zr_ok.set hw (k := j) (x := row (j - 1)) (hw.1 (j - 1) (by omega))).2 (x := x) (y := (va_up row j (row (j - 1))) ((j - 1) - 1)) hx ((zr_ok.set hw (k := j) (x := row (j - 1)) (hw.1 (j - 1) (by omega))).1 ((j - 1) - 1) (by omega)) Q U T (fun A17 hA17 => ?_)
            refine ez_go ez_h76 1 (pc' := bif decide ((zs_z (zs_b (ze_md E) (ze_ka E) x ((va_up row j (row (j - 1))) ((j - 1) - 1)) g)) = 0) then 113 else 109) (L' := [some (.ref 0), some (.int (nI (b))), some (.int (nI (e))), some (.int (nI (0))), some (.int (pp)), some (.int (sm)), some (.int (nI (i))), some (.int (nI (x))), some (.int (nI (j - 1))), none]) (st' := []) (w' := mz_w A17 Q U T) rfl ?_
            refine ez_ifF (zz_t hb) ?_
            refine ez_go ez_h76 6 (pc' := bif decide ((nI (1)) = (nI 0)) then 119 else 62) (L' := [some (.ref 0), some (.int (nI (b))), some (.int (nI (e))), some (.int (nI (0))), some (.int (pp)), some (.int (sm)), some (.int (nI (i))), some (.int (nI (x))), some (.int (nI (j - 1))), some (.int (nI (1)))]) (st' := []) (w' := mz_w A17 Q U T) rfl ?_
            refine ez_ifF (zt_ne (by omega) (by omega) (by omega)) ?_
            exact ez_E.le (ez_lc (ez_lc (ez_lc (ez_lc (ez_lc (ez_lc (ez_lc (ez_lc (ez_lc (ez_ln ez_l0)))))))))) (a7 b e i pp sm q1 _ Q U T post hA17 kk)
end
section
/-- one is inserted -/
theorem zi_one {E : ze_T} (hE : ze_ok E) (gd : Bool) {lo i : Nat} (h1 : lo < i) (h2 : i < ze_n E) {row : Nat → Nat} {g : zs_G} (hw : zr_ok E row g) (hs : gd = false → 1 ≤ lo ∧ zs_K (ze_md E) (ze_ka E) g (row (lo - 1)) (row i)) :
    ∃ (row' : Nat → Nat) (g' : zs_G) (d : Nat), d ≤ i ∧ zr_ok E row' g' ∧ zg_le E g g' ∧ zp_in row row' lo (i + 1) ∧
      (∀ lw : Nat, lw ≤ lo → (gd = true → lw = lo) → (gd = false → lw < lo) → cr_M E 7 [.ref 2, .int (nI i), .int (nI lw)] row g (some (.int (nI d))) row' g') ∧
      (∀ (b e S : Nat) (pp : Int32), (gd = true → b = lo) → mr_G E 76 28 [some (.ref 0), some (.int (nI (b))), some (.int (nI (e))), some (.int (nI (bif gd then 1 else 0))), some (.int (pp)), some (.int (nI (S))), some (.int (nI (i))), none, none, none] row g 138 [some (.ref 0), some (.int (nI (b))), some (.int (nI (e))), some (.int (nI (bif gd then 1 else 0))), some (.int (pp)), some (.int (nI (S + d))), some (.int (nI (i))), none, none, none] row' g') := by
  have hn := hE.1
  have hxi : row i < ze_n E := hw.1 i h2
  have hw1 := hw.go hxi (hw.1 (i - 1) (by omega))
  have hg1 : zg_le E g _ := zg_le.go hw (row i) (row (i - 1))
  cases hb : zs_b (ze_md E) (ze_ka E) (row i) (row (i - 1)) g with
  | false =>
    refine ⟨row, zs_g (ze_md E) (row i) (row (i - 1)) g, 0, Nat.zero_le _, hw1, hg1, zp_in.rf _ _ _, fun lw q1 q2 q3 => ?_, fun b e S pp q1 => ?_⟩
    · intro r q u b post hr kk
      refine ez_m.of (L := [some (.ref 2), some (.int (nI (i))), some (.int (nI (lw))), none, none]) rfl rfl rfl ?_
      refine ez_go ez_h7 3 (pc' := 5) (L' := [some (.ref 2), some (.int (nI (i))), some (.int (nI (lw))), none, none]) (st' := [.int (nI (i)), .ref 1]) (w' := cz_w r q u b) rfl ?_
      refine ez_cl ez_h7 rfl rfl ?_
      refine cr_at hE hr (k := i) (by omega) q u b ?_
      refine ez_go ez_h7 9 (pc' := 21) (L' := [some (.ref 2), some (.int (nI (i))), some (.int (nI (lw))), some (.int (nI (ze_pi E (row i)))), none]) (st' := [.int ((nI (i)) - (nI (1))), .ref 1, .int (nI (ze_pi E (row i))), .ref 1]) (w' := cz_w r q u b) rfl ?_
      refine ez_top (y := nI (i - 1)) (pk_sub (by omega)) ?_
      refine ez_cl ez_h7 rfl rfl ?_
      refine cr_at hE hr (k := i - 1) (by omega) q u b ?_
      refine ez_cl ez_h7 rfl rfl ?_
      refine cr_less hE hr hw.2 (x := row i) (y := row (i - 1)) (hw.1 i (by omega)) (hw.1 (i - 1) (by omega)) q u b (fun r4 hr4 => ?_)
      refine ez_go ez_h7 1 (pc' := bif decide (¬ (zs_z (zs_b (ze_md E) (ze_ka E) (row i) (row (i - 1)) g)) = 0) then 32 else 30) (L' := [some (.ref 2), some (.int (nI (i))), some (.int (nI (lw))), some (.int (nI (ze_pi E (row i)))), none]) (st' := []) (w' := cz_w r4 q u b) rfl ?_
      refine ez_ifF (fun z => z (zz_f hb)) ?_
      refine ez_go ez_h7 1 (pc' := 31) (L' := [some (.ref 2), some (.int (nI (i))), some (.int (nI (lw))), some (.int (nI (ze_pi E (row i)))), none]) (st' := [.int (nI (0))]) (w' := cz_w r4 q u b) rfl ?_
      exact ez_iret rfl ez_h7 rfl rfl (kk _ hr4)
    · intro A Q U T post hA kk
      refine ez_go ez_h76 5 (pc' := 35) (L' := [some (.ref 0), some (.int (nI (b))), some (.int (nI (e))), some (.int (nI (bif gd then 1 else 0))), some (.int (pp)), some (.int (nI (S))), some (.int (nI (i))), none, none, none]) (st' := [.int ((nI (i)) - (nI (1))), .int (nI (i)), .ref 0]) (w' := mz_w A Q U T) rfl ?_
      refine ez_top (y := nI (i - 1)) (pk_sub (by omega)) ?_
      refine ez_cl ez_h76 rfl rfl ?_
      refine mr_lessAt hE hA hw (i := i) (j := i - 1) (by omega) (by omega) Q U T (fun A5 hA5 => ?_)
      refine ez_go ez_h76 1 (pc' := bif decide ((zs_z (zs_b (ze_md E) (ze_ka E) (row i) (row (i - 1)) g)) = 0) then 138 else 41) (L' := [some (.ref 0), some (.int (nI (b))), some (.int (nI (e))), some (.int (nI (bif gd then 1 else 0))), some (.int (pp)), some (.int (nI (S))), some (.int (nI (i))), none, none, none]) (st' := []) (w' := mz_w A5 Q U T) rfl ?_
      refine ez_ifT (zz_f hb) ?_
      exact kk _ hA5
  | true =>
    have hs' : gd = false → 1 ≤ lo ∧ zs_K (ze_md E) (ze_ka E) (zs_g (ze_md E) (row i) (row (i - 1)) g) (row (lo - 1)) (row i) := fun z => ⟨(hs z).1, hg1 _ _ (hw.1 (lo - 1) (by omega)) (hs z).2⟩
    obtain ⟨row', g', j', a1, a2, a3, a4, a5, a6, a7⟩ := zi_down hE gd lo (row i) hxi i row _ h1 h2 hw1 hs'
    refine ⟨va_up row' j' (row i), g', i - j', by omega, a3.set hxi, hg1.tr a4, ⟨fun k k1 k2 => ?_, fun k hk => ?_⟩, fun lw q1 q2 q3 => ?_, fun b e S pp q1 => ?_⟩
    · by_cases c1 : k = j'
      · exact ⟨i, by omega, by omega, by rw [c1, va_up_self]⟩
      · rw [va_up_ne _ _ c1, a5 k]
        by_cases c2 : j' < k ∧ k ≤ i
        · exact ⟨k - 1, by omega, by omega, by rw [if_pos c2]⟩
        · exact ⟨k, k1, k2, by rw [if_neg c2]⟩
    · rw [va_up_ne _ _ (by omega), a5 k, if_neg (by omega)]
    · intro r q u b post hr kk
      refine ez_m.of (L := [some (.ref 2), some (.int (nI (i))), some (.int (nI (lw))), none, none]) rfl rfl rfl ?_
      refine ez_go ez_h7 3 (pc' := 5) (L' := [some (.ref 2), some (.int (nI (i))), some (.int (nI (lw))), none, none]) (st' := [.int (nI (i)), .ref 1]) (w' := cz_w r q u b) rfl ?_
      refine ez_cl ez_h7 rfl rfl ?_
      refine cr_at hE hr (k := i) (by omega) q u b ?_
      refine ez_go ez_h7 9 (pc' := 21) (L' := [some (.ref 2), some (.int (nI (i))), some (.int (nI (lw))), some (.int (nI (ze_pi E (row i)))), none]) (st' := [.int ((nI (i)) - (nI (1))), .ref 1, .int (nI (ze_pi E (row i))), .ref 1]) (w' := cz_w r q u b) rfl ?_
      refine ez_top (y := nI (i - 1)) (pk_sub (by omega)) ?_
      refine ez_cl ez_h7 rfl rfl ?_
      refine cr_at hE hr (k := i - 1) (by omega) q u b ?_
      refine ez_cl ez_h7 rfl rfl ?_
      refine cr_less hE hr hw.2 (x := row i) (y := row (i - 1)) (hw.1 i (by omega)) (hw.1 (i - 1) (by omega)) q u b (fun r6 hr6 => ?_)
      refine ez_go ez_h7 1 (pc' := bif decide (¬ (zs_z (zs_b (ze_md E) (ze_ka E) (row i) (row (i - 1)) g)) = 0) then 32 else 30) (L' := [some (.ref 2), some (.int (nI (i))), some (.int (nI (lw))), some (.int (nI (ze_pi E (row i)))), none]) (st' := []) (w' := cz_w r6 q u b) rfl ?_
      refine ez_ifT (zz_t hb) ?_
      refine ez_go ez_h7 2 (pc' := 35) (L' := [some (.ref 2), some (.int (nI (i))), some (.int (nI (lw))), some (.int (nI (ze_pi E (row i)))), some (.int (nI (i)))]) (st' := []) (w' := cz_w r6 q u b) rfl ?_
      refine a6 i lw q1 q2 q3 _ q u b post hr6 (fun r9 hr9 => ?_)
      refine ez_go ez_h7 4 (pc' := 93) (L' := [some (.ref 2), some (.int (nI (i))), some (.int (nI (lw))), some (.int (nI (ze_pi E (row i)))), some (.int (nI (j')))]) (st' := [.int (nI (ze_pi E (row i))), .int (nI (j')), .ref 1]) (w' := cz_w r9 q u b) rfl ?_
      refine ez_cl ez_h7 rfl rfl ?_
      refine cr_set hE hr9 (k := j') (x := row i) (by omega) q u b (fun r7 hr7 => ?_)
      refine ez_go ez_h7 3 (pc' := 100) (L' := [some (.ref 2), some (.int (nI (i))), some (.int (nI (lw))), some (.int (nI (ze_pi E (row i)))), some (.int (nI (j')))]) (st' := [.int ((nI (i)) - (nI (j')))]) (w' := cz_w r7 q u b) rfl ?_
      refine ez_top (y := nI (i - j')) (pk_sub (by omega)) ?_
      exact ez_iret rfl ez_h7 rfl rfl (kk _ hr7)
    · intro A Q U T post hA kk
      refine ez_go ez_h76 5 (pc' := 35) (L' := [some (.ref 0), some (.int (nI (b))), some (.int (nI (e))), some (.int (nI (bif gd then 1 else 0))), some (.int (pp)), some (.int (nI (S))), some (.int (nI (i))), none, none, none]) (st' := [.int ((nI (i)) - (nI (1))), .int (nI (i)), .ref 0]) (w' := mz_w A Q U T) rfl ?_
      refine ez_top (y := nI (i - 1)) (pk_sub (by omega)) ?_
      refine ez_cl ez_h76 rfl rfl ?_
      refine mr_lessAt hE hA hw (i := i) (j := i - 1) (by omega) (by omega) Q U T (fun A8 hA8 => ?_)
      refine ez_go ez_h76 1 (pc' := bif decide ((zs_z (zs_b (ze_md E) (ze_ka E) (row i) (row (i - 1)) g)) = 0) then 138 else 41) (L' := [some (.ref 0), some (.int (nI (b))), some (.int (nI (e))), some (.int (nI (bif gd then 1 else 0))), some (.int (pp)), some (.int (nI (S))), some (.int (nI (i))), none, none, none]) (st' := []) (w' := mz_w A8 Q U T) rfl ?_
      refine ez_ifF (zz_t hb) ?_
      refine ez_go ez_h76 3 (pc' := 47) (L' := [some (.ref 0), some (.int (nI (b))), some (.int (nI (e))), some (.int (nI (bif gd then 1 else 0))), some (.int (pp)), some (.int (nI (S))), some (.int (nI (i))), none, none, none]) (st' := [.int (nI (i)), .ref 4]) (w' := mz_w A8 Q U T) rfl ?_
      refine mr_ld ez_h76 rfl hE hA8 (k := i) (by omega) ?_
      refine ez_go ez_h76 7 (pc' := bif decide ((nI (1)) = (nI 0)) then 119 else 62) (L' := [some (.ref 0), some (.int (nI (b))), some (.int (nI (e))), some (.int (nI (bif gd then 1 else 0))), some (.int (pp)), some (.int (nI (S))), some (.int (nI (i))), some (.int (nI (row i))), some (.int (nI (i))), some (.int (nI (1)))]) (st' := []) (w' := mz_w A8 Q U T) rfl ?_
      refine ez_ifF (zt_ne (by omega) (by omega) (by omega)) ?_
      refine ez_E.le (ez_lc (ez_lc (ez_lc (ez_lc (ez_lc (ez_lc (ez_lc (ez_lc (ez_lc (ez_ln ez_l0)))))))))) (a7 b e i pp (nI S) q1 _ Q U T post hA8 (fun A9 hA9 => ?_))
      refine ez_go ez_h76 4 (pc' := 127) (L' := [some (.ref 0), some (.int (nI (b))), some (.int (nI (e))), some (.int (nI (bif gd then 1 else 0))), some (.int (pp)), some (.int (nI (S))), some (.int (nI (i))), some (.int (nI (row i))), some (.int (nI (j'))), none]) (st' := [.int (nI (row i)), .int (nI (j')), .ref 4]) (w' := mz_w A9 Q U T) rfl ?_
      refine mr_st ez_h76 rfl hE hA9 (k := j') (x := row i) (by omega) (fun A9 hA9 => ?_)
      refine ez_go ez_h76 3 (pc' := 133) (L' := [some (.ref 0), some (.int (nI (b))), some (.int (nI (e))), some (.int (nI (bif gd then 1 else 0))), some (.int (pp)), some (.int (nI (S))), some (.int (nI (i))), some (.int (nI (row i))), some (.int (nI (j'))), none]) (st' := [.int ((nI (S)) + (nI (i)))]) (w' := mz_w A9 Q U T) rfl ?_
      refine ez_top (y := nI (S + i)) (nI_add _ _) ?_
      refine ez_go ez_h76 2 (pc' := 136) (L' := [some (.ref 0), some (.int (nI (b))), some (.int (nI (e))), some (.int (nI (bif gd then 1 else 0))), some (.int (pp)), some (.int (nI (S))), some (.int (nI (i))), some (.int (nI (row i))), some (.int (nI (j'))), none]) (st' := [.int ((nI (S + i)) - (nI (j')))]) (w' := mz_w A9 Q U T) rfl ?_
      refine ez_top (y := nI ((S + i) - j')) (pk_sub (by omega)) ?_
      refine ez_go ez_h76 1 (pc' := 138) (L' := [some (.ref 0), some (.int (nI (b))), some (.int (nI (e))), some (.int (nI (bif gd then 1 else 0))), some (.int (pp)), some (.int (nI ((S + i) - j'))), some (.int (nI (i))), some (.int (nI (row i))), some (.int (nI (j'))), none]) (st' := []) (w' := mz_w A9 Q U T) rfl ?_
      rw [show S + i - j' = S + (i - j') by omega]
      exact ez_E.le (ez_lc (ez_lc (ez_lc (ez_lc (ez_lc (ez_lc (ez_lc (ez_ln (ez_ln (ez_lc ez_l0)))))))))) (kk _ hA9)
end
section
/-- to the return -/
def cr_H (E : ze_T) (mi pc : Nat) (L : ez_L) (row : Nat → Nat) (g : zs_G) (a : Option Value) (row' : Nat → Nat) (g' : zs_G) : Prop := ∀ (r : cz_Row) (q : cz_Qk) (u : cz_Rn) (b : cz_Bn) (post : Option Value → ez_W → Prop), cr_R E row g r → (∀ r' : cz_Row, cr_R E row' g' r' → post a (cz_w r' q u b)) → ez_E mi pc L [] (cz_w r q u b) post
def mr_H (E : ze_T) (mi pc : Nat) (L : ez_L) (row : Nat → Nat) (g : zs_G) (a : Option Value) (row' : Nat → Nat) (g' : zs_G) : Prop := ∀ (A : mz_A) (Q : mz_Q) (U : mz_U) (T : mz_T) (post : Option Value → ez_W → Prop), mr_R E row g A → (∀ A' : mz_A, mr_R E row' g' A' → post a (mz_w A' Q U T)) → ez_E mi pc L [] (mz_w A Q U T) post
theorem cr_H.m {E : ze_T} {j : Nat} {L : ez_L} {As : List Value} {row row' : Nat → Nat} {g g' : zs_G} {a : Option Value} {N : ez_M} (h : cr_H E j 0 L row g a row' g') (hN : ez_ms[j]? = some N) (hL : ez_en As N.2.2.2.1 = L) (hlen : L.length = N.2.2.2.1) : cr_M E j As row g a row' g' := fun r q u b post hr kk => ez_m.of hN hL hlen (h r q u b post hr kk)
theorem mr_H.m {E : ze_T} {j : Nat} {L : ez_L} {As : List Value} {row row' : Nat → Nat} {g g' : zs_G} {a : Option Value} {N : ez_M} (h : mr_H E j 0 L row g a row' g') (hN : ez_ms[j]? = some N) (hL : ez_en As N.2.2.2.1 = L) (hlen : L.length = N.2.2.2.1) : mr_M E j As row g a row' g' := fun A Q U T post hA kk => ez_m.of hN hL hlen (h A Q U T post hA kk)
/-- known: what stands before b isn't greater than any in b .. e -/
def zs_S (E : ze_T) (row : Nat → Nat) (g : zs_G) (b e : Nat) : Prop := 1 ≤ b ∧ ∀ k, b ≤ k → k < e → zs_K (ze_md E) (ze_ka E) g (row (b - 1)) (row k)
theorem zs_S.go {E : ze_T} {row row' : Nat → Nat} {g g' : zs_G} {b e : Nat} (h : zs_S E row g b e) (he : e ≤ ze_n E) (hw : zr_ok E row g) (hg : zg_le E g g') (hp : zp_in row row' b e) : zs_S E row' g' b e := ⟨h.1, fun k k1 k2 => by
  obtain ⟨j, j1, j2, j3⟩ := hp.1 k k1 k2
  have h1 := h.1
  rw [j3, hp.2 (b - 1) (by omega)]
  exact hg _ _ (hw.1 _ (by omega)) (h.2 j j1 j2)⟩
theorem zi_loop {E : ze_T} (hE : ze_ok E) (gd : Bool) {b e : Nat} (he : e ≤ ze_n E) : ∀ (m i S : Nat) (row : Nat → Nat) (g : zs_G), e ≤ i + m → b < i → i ≤ 601 → zr_ok E row g → (gd = false → zs_S E row g b e) →
    ∃ (row' : Nat → Nat) (g' : zs_G), zr_ok E row' g' ∧ zg_le E g g' ∧ zp_in row row' b e ∧
      (gd = true → cr_H E 4 4 [some (.ref 2), some (.int (nI (b))), some (.int (nI (e))), some (.int (nI (i)))] row g none row' g') ∧ (gd = false → cr_H E 5 4 [some (.ref 2), some (.int (nI (b))), some (.int (nI (e))), some (.int (nI (i)))] row g none row' g') ∧ mr_H E 76 8 [some (.ref 0), some (.int (nI (b))), some (.int (nI (e))), some (.int (nI (bif gd then 1 else 0))), some (.int (nI (0))), some (.int (nI (S))), some (.int (nI (i))), none, none, none] row g (some (.int (zs_z true))) row' g' := by
  have hn := hE.1
  intro m
  induction m with
  | zero =>
    intro i S row g h1 h2 h3 hw hs
    refine ⟨row, g, hw, zg_le.rf g, zp_in.rf _ _ _, fun _ => ?_, fun _ => ?_, ?_⟩
    · intro r q u bb post hr kk
      refine ez_go ez_h4 3 (pc' := bif decide ((nI (e)) ≤ (nI (i))) then 22 else 9) (L' := [some (.ref 2), some (.int (nI (b))), some (.int (nI (e))), some (.int (nI (i)))]) (st' := []) (w' := cz_w r q u bb) rfl ?_
      refine ez_ifT (zt_le (a := e) (b := i) (by omega) (by omega)) ?_
      exact ez_vret rfl ez_h4 rfl rfl (kk _ hr)
    · intro r q u bb post hr kk
      refine ez_go ez_h5 3 (pc' := bif decide ((nI (e)) ≤ (nI (i))) then 22 else 9) (L' := [some (.ref 2), some (.int (nI (b))), some (.int (nI (e))), some (.int (nI (i)))]) (st' := []) (w' := cz_w r q u bb) rfl ?_
      refine ez_ifT (zt_le (a := e) (b := i) (by omega) (by omega)) ?_
      exact ez_vret rfl ez_h5 rfl rfl (kk _ hr)
    · intro A Q U T post hA kk
      refine ez_go ez_h76 3 (pc' := bif decide ((nI (e)) ≤ (nI (i))) then 144 else 14) (L' := [some (.ref 0), some (.int (nI (b))), some (.int (nI (e))), some (.int (nI (bif gd then 1 else 0))), some (.int (nI (0))), some (.int (nI (S))), some (.int (nI (i))), none, none, none]) (st' := []) (w' := mz_w A Q U T) rfl ?_
      refine ez_ifT (zt_le (a := e) (b := i) (by omega) (by omega)) ?_
      refine ez_go ez_h76 1 (pc' := 145) (L' := [some (.ref 0), some (.int (nI (b))), some (.int (nI (e))), some (.int (nI (bif gd then 1 else 0))), some (.int (nI (0))), some (.int (nI (S))), some (.int (nI (i))), none, none, none]) (st' := [.int (nI (1))]) (w' := mz_w A Q U T) rfl ?_
      exact ez_zret rfl ez_h76 rfl rfl (zz_01 true) (kk _ hA)
  | succ m ih =>
    intro i S row g h1 h2 h3 hw hs
    by_cases hie : e ≤ i
    · refine ⟨row, g, hw, zg_le.rf g, zp_in.rf _ _ _, fun _ => ?_, fun _ => ?_, ?_⟩
      · intro r q u bb post hr kk
        refine ez_go ez_h4 3 (pc' := bif decide ((nI (e)) ≤ (nI (i))) then 22 else 9) (L' := [some (.ref 2), some (.int (nI (b))), some (.int (nI (e))), some (.int (nI (i)))]) (st' := []) (w' := cz_w r q u bb) rfl ?_
        refine ez_ifT (zt_le (a := e) (b := i) (by omega) (by omega)) ?_
        exact ez_vret rfl ez_h4 rfl rfl (kk _ hr)
      · intro r q u bb post hr kk
        refine ez_go ez_h5 3 (pc' := bif decide ((nI (e)) ≤ (nI (i))) then 22 else 9) (L' := [some (.ref 2), some (.int (nI (b))), some (.int (nI (e))), some (.int (nI (i)))]) (st' := []) (w' := cz_w r q u bb) rfl ?_
        refine ez_ifT (zt_le (a := e) (b := i) (by omega) (by omega)) ?_
        exact ez_vret rfl ez_h5 rfl rfl (kk _ hr)
      · intro A Q U T post hA kk
        refine ez_go ez_h76 3 (pc' := bif decide ((nI (e)) ≤ (nI (i))) then 144 else 14) (L' := [some (.ref 0), some (.int (nI (b))), some (.int (nI (e))), some (.int (nI (bif gd then 1 else 0))), some (.int (nI (0))), some (.int (nI (S))), some (.int (nI (i))), none, none, none]) (st' := []) (w' := mz_w A Q U T) rfl ?_
        refine ez_ifT (zt_le (a := e) (b := i) (by omega) (by omega)) ?_
        refine ez_go ez_h76 1 (pc' := 145) (L' := [some (.ref 0), some (.int (nI (b))), some (.int (nI (e))), some (.int (nI (bif gd then 1 else 0))), some (.int (nI (0))), some (.int (nI (S))), some (.int (nI (i))), none, none, none]) (st' := [.int (nI (1))]) (w' := mz_w A Q U T) rfl ?_
        exact ez_zret rfl ez_h76 rfl rfl (zz_01 true) (kk _ hA)
    · obtain ⟨row1, g1, d, a1, a2, a3, a4, a5, a6⟩ := zi_one hE gd (lo := b) (i := i) h2 (by omega) hw (fun z => ⟨(hs z).1, (hs z).2 i (by omega) (by omega)⟩)
      have hp1 : zp_in row row1 b e := a4.wide (Nat.le_refl _) (by omega)
      obtain ⟨row', g', b1, b2, b3, b4, b5, b6⟩ := ih (i + 1) (S + d) row1 g1 (by omega) (by omega) (by omega) a2 (fun z => (hs z).go he hw a3 hp1)
      refine ⟨row', g', b1, a3.tr b2, hp1.tr b3, fun z => ?_, fun z => ?_, ?_⟩
      · intro r q u bb post hr kk
        refine ez_go ez_h4 3 (pc' := bif decide ((nI (e)) ≤ (nI (i))) then 22 else 9) (L' := [some (.ref 2), some (.int (nI (b))), some (.int (nI (e))), some (.int (nI (i)))]) (st' := []) (w' := cz_w r q u bb) rfl ?_
        refine ez_ifF (zt_nle (a := e) (b := i) (by omega) (by omega)) ?_
        refine ez_go ez_h4 3 (pc' := 12) (L' := [some (.ref 2), some (.int (nI (b))), some (.int (nI (e))), some (.int (nI (i)))]) (st' := [.int (nI (b)), .int (nI (i)), .ref 2]) (w' := cz_w r q u bb) rfl ?_
        refine ez_cl ez_h4 rfl rfl ?_
        refine a5 b (by omega) (fun _ => rfl) (fun y => by rw [z] at y; cases y) _ q u bb _ hr (fun r9 hr9 => ?_)
        refine ez_go ez_h4 1 (pc' := 16) (L' := [some (.ref 2), some (.int (nI (b))), some (.int (nI (e))), some (.int (nI (i)))]) (st' := []) (w' := cz_w r9 q u bb) rfl ?_
        refine ez_inc ez_h4 rfl rfl (v := nI (i + 1)) (zi_1 _) rfl ?_
        refine ez_go ez_h4 1 (pc' := 4) (L' := [some (.ref 2), some (.int (nI (b))), some (.int (nI (e))), some (.int (nI (i + 1)))]) (st' := []) (w' := cz_w r9 q u bb) rfl ?_
        exact b4 z _ q u bb post hr9 kk
      · intro r q u bb post hr kk
        have hs1 := (hs z).1
        refine ez_go ez_h5 3 (pc' := bif decide ((nI (e)) ≤ (nI (i))) then 22 else 9) (L' := [some (.ref 2), some (.int (nI (b))), some (.int (nI (e))), some (.int (nI (i)))]) (st' := []) (w' := cz_w r q u bb) rfl ?_
        refine ez_ifF (zt_nle (a := e) (b := i) (by omega) (by omega)) ?_
        refine ez_go ez_h5 3 (pc' := 12) (L' := [some (.ref 2), some (.int (nI (b))), some (.int (nI (e))), some (.int (nI (i)))]) (st' := [.int (nI (0)), .int (nI (i)), .ref 2]) (w' := cz_w r q u bb) rfl ?_
        refine ez_cl ez_h5 rfl rfl ?_
        refine a5 0 (by omega) (fun y => by rw [z] at y; cases y) (fun _ => by omega) _ q u bb _ hr (fun r9 hr9 => ?_)
        refine ez_go ez_h5 1 (pc' := 16) (L' := [some (.ref 2), some (.int (nI (b))), some (.int (nI (e))), some (.int (nI (i)))]) (st' := []) (w' := cz_w r9 q u bb) rfl ?_
        refine ez_inc ez_h5 rfl rfl (v := nI (i + 1)) (zi_1 _) rfl ?_
        refine ez_go ez_h5 1 (pc' := 4) (L' := [some (.ref 2), some (.int (nI (b))), some (.int (nI (e))), some (.int (nI (i + 1)))]) (st' := []) (w' := cz_w r9 q u bb) rfl ?_
        exact b5 z _ q u bb post hr9 kk
      · intro A Q U T post hA kk
        refine ez_go ez_h76 3 (pc' := bif decide ((nI (e)) ≤ (nI (i))) then 144 else 14) (L' := [some (.ref 0), some (.int (nI (b))), some (.int (nI (e))), some (.int (nI (bif gd then 1 else 0))), some (.int (nI (0))), some (.int (nI (S))), some (.int (nI (i))), none, none, none]) (st' := []) (w' := mz_w A Q U T) rfl ?_
        refine ez_ifF (zt_nle (a := e) (b := i) (by omega) (by omega)) ?_
        refine ez_go ez_h76 2 (pc' := bif decide ((nI (0)) = (nI 0)) then 28 else 19) (L' := [some (.ref 0), some (.int (nI (b))), some (.int (nI (e))), some (.int (nI (bif gd then 1 else 0))), some (.int (nI (0))), some (.int (nI (S))), some (.int (nI (i))), none, none, none]) (st' := []) (w' := mz_w A Q U T) rfl ?_
        refine ez_ifT (zt_eq (by omega)) ?_
        refine a6 b e S (nI 0) (fun _ => rfl) _ Q U T post hA (fun A9 hA9 => ?_)
        refine ez_inc ez_h76 rfl rfl (v := nI (i + 1)) (zi_1 _) rfl ?_
        refine ez_go ez_h76 1 (pc' := 8) (L' := [some (.ref 0), some (.int (nI (b))), some (.int (nI (e))), some (.int (nI (bif gd then 1 else 0))), some (.int (nI (0))), some (.int (nI (S + d))), some (.int (nI (i + 1))), none, none, none]) (st' := []) (w' := mz_w A9 Q U T) rfl ?_
        exact b6 _ Q U T post hA9 kk
/-- INSERTING and UNGUARDED in b .. e -/
theorem zi_all {E : ze_T} (hE : ze_ok E) (gd : Bool) {b e : Nat} (he : e ≤ ze_n E) (hb : b ≤ 600) {row : Nat → Nat} {g : zs_G} (hw : zr_ok E row g) (hs : gd = false → zs_S E row g b e) :
    ∃ (row' : Nat → Nat) (g' : zs_G), zr_ok E row' g' ∧ zg_le E g g' ∧ zp_in row row' b e ∧
      (gd = true → cr_M E 4 [.ref 2, .int (nI b), .int (nI e)] row g none row' g') ∧ (gd = false → cr_M E 5 [.ref 2, .int (nI b), .int (nI e)] row g none row' g') ∧ mr_M E 76 [.ref 0, .int (nI b), .int (nI e), .int (nI (bif gd then 1 else 0)), .int (nI 0)] row g (some (.int (zs_z true))) row' g' := by
  have hn := hE.1
  obtain ⟨row', g', b1, b2, b3, b4, b5, b6⟩ := zi_loop (b := b) hE gd he (e - (b + 1)) (b + 1) 0 row g (by omega) (by omega) (by omega) hw hs
  refine ⟨row', g', b1, b2, b3, fun z => ?_, fun z => ?_, ?_⟩
  · refine cr_H.m (L := [some (.ref 2), some (.int (nI (b))), some (.int (nI (e))), none]) (fun r q u bb post hr kk => ?_) rfl rfl rfl
    refine ez_go ez_h4 3 (pc' := 3) (L' := [some (.ref 2), some (.int (nI (b))), some (.int (nI (e))), none]) (st' := [.int ((nI (b)) + (nI (1)))]) (w' := cz_w r q u bb) rfl ?_
    refine ez_top (y := nI (b + 1)) (nI_add _ _) ?_
    refine ez_go ez_h4 1 (pc' := 4) (L' := [some (.ref 2), some (.int (nI (b))), some (.int (nI (e))), some (.int (nI (b + 1)))]) (st' := []) (w' := cz_w r q u bb) rfl ?_
    exact b4 z _ q u bb post hr kk
  · refine cr_H.m (L := [some (.ref 2), some (.int (nI (b))), some (.int (nI (e))), none]) (fun r q u bb post hr kk => ?_) rfl rfl rfl
    refine ez_go ez_h5 3 (pc' := 3) (L' := [some (.ref 2), some (.int (nI (b))), some (.int (nI (e))), none]) (st' := [.int ((nI (b)) + (nI (1)))]) (w' := cz_w r q u bb) rfl ?_
    refine ez_top (y := nI (b + 1)) (nI_add _ _) ?_
    refine ez_go ez_h5 1 (pc' := 4) (L' := [some (.ref 2), some (.int (nI (b))), some (.int (nI (e))), some (.int (nI (b + 1)))]) (st' := []) (w' := cz_w r q u bb) rfl ?_
    exact b5 z _ q u bb post hr kk
  · refine mr_H.m (L := [some (.ref 0), some (.int (nI (b))), some (.int (nI (e))), some (.int (nI (bif gd then 1 else 0))), some (.int (nI (0))), none, none, none, none, none]) (fun A Q U T post hA kk => ?_) rfl rfl rfl
    refine ez_go ez_h76 5 (pc' := 6) (L' := [some (.ref 0), some (.int (nI (b))), some (.int (nI (e))), some (.int (nI (bif gd then 1 else 0))), some (.int (nI (0))), some (.int (nI (0))), none, none, none, none]) (st' := [.int ((nI (b)) + (nI (1)))]) (w' := mz_w A Q U T) rfl ?_
    refine ez_top (y := nI (b + 1)) (nI_add _ _) ?_
    refine ez_go ez_h76 1 (pc' := 8) (L' := [some (.ref 0), some (.int (nI (b))), some (.int (nI (e))), some (.int (nI (bif gd then 1 else 0))), some (.int (nI (0))), some (.int (nI (0))), some (.int (nI (b + 1))), none, none, none]) (st' := []) (w' := mz_w A Q U T) rfl ?_
    exact b6 _ Q U T post hA kk
theorem zi_ploop {E : ze_T} (hE : ze_ok E) {b e : Nat} (he : e ≤ ze_n E) : ∀ (m i S : Nat) (row : Nat → Nat) (g : zs_G), e ≤ i + m → b < i → i ≤ 601 → S < 100000 → zr_ok E row g →
    ∃ (row' : Nat → Nat) (g' : zs_G) (res : Bool), zr_ok E row' g' ∧ zg_le E g g' ∧ zp_in row row' b e ∧
      cr_H E 6 7 [some (.ref 2), some (.int (nI (b))), some (.int (nI (e))), some (.int (nI (S))), some (.int (nI (i)))] row g (some (.int (zs_z res))) row' g' ∧ mr_H E 76 8 [some (.ref 0), some (.int (nI (b))), some (.int (nI (e))), some (.int (nI (1))), some (.int (nI (1))), some (.int (nI (S))), some (.int (nI (i))), none, none, none] row g (some (.int (zs_z res))) row' g' := by
  have hn := hE.1
  intro m
  induction m with
  | zero =>
    intro i S row g h1 h2 h3 hS hw
    refine ⟨row, g, true, hw, zg_le.rf g, zp_in.rf _ _ _, ?_, ?_⟩
    · intro r q u bb post hr kk
      refine ez_go ez_h6 3 (pc' := bif decide ((nI (e)) ≤ (nI (i))) then 37 else 13) (L' := [some (.ref 2), some (.int (nI (b))), some (.int (nI (e))), some (.int (nI (S))), some (.int (nI (i)))]) (st' := []) (w' := cz_w r q u bb) rfl ?_
      refine ez_ifT (zt_le (a := e) (b := i) (by omega) (by omega)) ?_
      refine ez_go ez_h6 1 (pc' := 38) (L' := [some (.ref 2), some (.int (nI (b))), some (.int (nI (e))), some (.int (nI (S))), some (.int (nI (i)))]) (st' := [.int (nI (1))]) (w' := cz_w r q u bb) rfl ?_
      exact ez_zret rfl ez_h6 rfl rfl (zz_01 true) (kk _ hr)
    · intro A Q U T post hA kk
      refine ez_go ez_h76 3 (pc' := bif decide ((nI (e)) ≤ (nI (i))) then 144 else 14) (L' := [some (.ref 0), some (.int (nI (b))), some (.int (nI (e))), some (.int (nI (1))), some (.int (nI (1))), some (.int (nI (S))), some (.int (nI (i))), none, none, none]) (st' := []) (w' := mz_w A Q U T) rfl ?_
      refine ez_ifT (zt_le (a := e) (b := i) (by omega) (by omega)) ?_
      refine ez_go ez_h76 1 (pc' := 145) (L' := [some (.ref 0), some (.int (nI (b))), some (.int (nI (e))), some (.int (nI (1))), some (.int (nI (1))), some (.int (nI (S))), some (.int (nI (i))), none, none, none]) (st' := [.int (nI (1))]) (w' := mz_w A Q U T) rfl ?_
      exact ez_zret rfl ez_h76 rfl rfl (zz_01 true) (kk _ hA)
  | succ m ih =>
    intro i S row g h1 h2 h3 hS hw
    by_cases hie : e ≤ i
    · refine ⟨row, g, true, hw, zg_le.rf g, zp_in.rf _ _ _, ?_, ?_⟩
      · intro r q u bb post hr kk
        refine ez_go ez_h6 3 (pc' := bif decide ((nI (e)) ≤ (nI (i))) then 37 else 13) (L' := [some (.ref 2), some (.int (nI (b))), some (.int (nI (e))), some (.int (nI (S))), some (.int (nI (i)))]) (st' := []) (w' := cz_w r q u bb) rfl ?_
        refine ez_ifT (zt_le (a := e) (b := i) (by omega) (by omega)) ?_
        refine ez_go ez_h6 1 (pc' := 38) (L' := [some (.ref 2), some (.int (nI (b))), some (.int (nI (e))), some (.int (nI (S))), some (.int (nI (i)))]) (st' := [.int (nI (1))]) (w' := cz_w r q u bb) rfl ?_
        exact ez_zret rfl ez_h6 rfl rfl (zz_01 true) (kk _ hr)
      · intro A Q U T post hA kk
        refine ez_go ez_h76 3 (pc' := bif decide ((nI (e)) ≤ (nI (i))) then 144 else 14) (L' := [some (.ref 0), some (.int (nI (b))), some (.int (nI (e))), some (.int (nI (1))), some (.int (nI (1))), some (.int (nI (S))), some (.int (nI (i))), none, none, none]) (st' := []) (w' := mz_w A Q U T) rfl ?_
        refine ez_ifT (zt_le (a := e) (b := i) (by omega) (by omega)) ?_
        refine ez_go ez_h76 1 (pc' := 145) (L' := [some (.ref 0), some (.int (nI (b))), some (.int (nI (e))), some (.int (nI (1))), some (.int (nI (1))), some (.int (nI (S))), some (.int (nI (i))), none, none, none]) (st' := [.int (nI (1))]) (w' := mz_w A Q U T) rfl ?_
        exact ez_zret rfl ez_h76 rfl rfl (zz_01 true) (kk _ hA)
    · by_cases h8 : 8 < S
      · refine ⟨row, g, false, hw, zg_le.rf g, zp_in.rf _ _ _, ?_, ?_⟩
        · intro r q u bb post hr kk
          refine ez_go ez_h6 3 (pc' := bif decide ((nI (e)) ≤ (nI (i))) then 37 else 13) (L' := [some (.ref 2), some (.int (nI (b))), some (.int (nI (e))), some (.int (nI (S))), some (.int (nI (i)))]) (st' := []) (w' := cz_w r q u bb) rfl ?_
          refine ez_ifF (zt_nle (a := e) (b := i) (by omega) (by omega)) ?_
          refine ez_go ez_h6 3 (pc' := bif decide ((nI (S)) ≤ (nI (8))) then 21 else 19) (L' := [some (.ref 2), some (.int (nI (b))), some (.int (nI (e))), some (.int (nI (S))), some (.int (nI (i)))]) (st' := []) (w' := cz_w r q u bb) rfl ?_
          refine ez_ifF (zt_nle (a := S) (b := 8) (by omega) (by omega)) ?_
          refine ez_go ez_h6 1 (pc' := 20) (L' := [some (.ref 2), some (.int (nI (b))), some (.int (nI (e))), some (.int (nI (S))), some (.int (nI (i)))]) (st' := [.int (nI (0))]) (w' := cz_w r q u bb) rfl ?_
          exact ez_zret rfl ez_h6 rfl rfl (zz_01 false) (kk _ hr)
        · intro A Q U T post hA kk
          refine ez_go ez_h76 3 (pc' := bif decide ((nI (e)) ≤ (nI (i))) then 144 else 14) (L' := [some (.ref 0), some (.int (nI (b))), some (.int (nI (e))), some (.int (nI (1))), some (.int (nI (1))), some (.int (nI (S))), some (.int (nI (i))), none, none, none]) (st' := []) (w' := mz_w A Q U T) rfl ?_
          refine ez_ifF (zt_nle (a := e) (b := i) (by omega) (by omega)) ?_
          refine ez_go ez_h76 2 (pc' := bif decide ((nI (1)) = (nI 0)) then 28 else 19) (L' := [some (.ref 0), some (.int (nI (b))), some (.int (nI (e))), some (.int (nI (1))), some (.int (nI (1))), some (.int (nI (S))), some (.int (nI (i))), none, none, none]) (st' := []) (w' := mz_w A Q U T) rfl ?_
          refine ez_ifF (zt_ne (by omega) (by omega) (by omega)) ?_
          refine ez_go ez_h76 3 (pc' := bif decide ((nI (S)) ≤ (nI (8))) then 28 else 26) (L' := [some (.ref 0), some (.int (nI (b))), some (.int (nI (e))), some (.int (nI (1))), some (.int (nI (1))), some (.int (nI (S))), some (.int (nI (i))), none, none, none]) (st' := []) (w' := mz_w A Q U T) rfl ?_
          refine ez_ifF (zt_nle (a := S) (b := 8) (by omega) (by omega)) ?_
          refine ez_go ez_h76 1 (pc' := 27) (L' := [some (.ref 0), some (.int (nI (b))), some (.int (nI (e))), some (.int (nI (1))), some (.int (nI (1))), some (.int (nI (S))), some (.int (nI (i))), none, none, none]) (st' := [.int (nI (0))]) (w' := mz_w A Q U T) rfl ?_
          exact ez_zret rfl ez_h76 rfl rfl (zz_01 false) (kk _ hA)
      · obtain ⟨row1, g1, d, a1, a2, a3, a4, a5, a6⟩ := zi_one hE true (lo := b) (i := i) h2 (by omega) hw (fun z => by cases z)
        have hp1 : zp_in row row1 b e := a4.wide (Nat.le_refl _) (by omega)
        obtain ⟨row', g', res, b1, b2, b3, b4, b5⟩ := ih (i + 1) (S + d) row1 g1 (by omega) (by omega) (by omega) (by omega) a2
        refine ⟨row', g', res, b1, a3.tr b2, hp1.tr b3, ?_, ?_⟩
        · intro r q u bb post hr kk
          refine ez_go ez_h6 3 (pc' := bif decide ((nI (e)) ≤ (nI (i))) then 37 else 13) (L' := [some (.ref 2), some (.int (nI (b))), some (.int (nI (e))), some (.int (nI (S))), some (.int (nI (i)))]) (st' := []) (w' := cz_w r q u bb) rfl ?_
          refine ez_ifF (zt_nle (a := e) (b := i) (by omega) (by omega)) ?_
          refine ez_go ez_h6 3 (pc' := bif decide ((nI (S)) ≤ (nI (8))) then 21 else 19) (L' := [some (.ref 2), some (.int (nI (b))), some (.int (nI (e))), some (.int (nI (S))), some (.int (nI (i)))]) (st' := []) (w' := cz_w r q u bb) rfl ?_
          refine ez_ifT (zt_le (a := S) (b := 8) (by omega) (by omega)) ?_
          refine ez_go ez_h6 4 (pc' := 26) (L' := [some (.ref 2), some (.int (nI (b))), some (.int (nI (e))), some (.int (nI (S))), some (.int (nI (i)))]) (st' := [.int (nI (b)), .int (nI (i)), .ref 2, .int (nI (S))]) (w' := cz_w r q u bb) rfl ?_
          refine ez_cl ez_h6 rfl rfl ?_
          refine a5 b (by omega) (fun _ => rfl) (fun y => by cases y) _ q u bb _ hr (fun r9 hr9 => ?_)
          refine ez_go ez_h6 1 (pc' := 30) (L' := [some (.ref 2), some (.int (nI (b))), some (.int (nI (e))), some (.int (nI (S))), some (.int (nI (i)))]) (st' := [.int ((nI (S)) + (nI (d)))]) (w' := cz_w r9 q u bb) rfl ?_
          refine ez_top (y := nI (S + d)) (nI_add _ _) ?_
          refine ez_go ez_h6 1 (pc' := 31) (L' := [some (.ref 2), some (.int (nI (b))), some (.int (nI (e))), some (.int (nI (S + d))), some (.int (nI (i)))]) (st' := []) (w' := cz_w r9 q u bb) rfl ?_
          refine ez_inc ez_h6 rfl rfl (v := nI (i + 1)) (zi_1 _) rfl ?_
          refine ez_go ez_h6 1 (pc' := 7) (L' := [some (.ref 2), some (.int (nI (b))), some (.int (nI (e))), some (.int (nI (S + d))), some (.int (nI (i + 1)))]) (st' := []) (w' := cz_w r9 q u bb) rfl ?_
          exact b4 _ q u bb post hr9 kk
        · intro A Q U T post hA kk
          refine ez_go ez_h76 3 (pc' := bif decide ((nI (e)) ≤ (nI (i))) then 144 else 14) (L' := [some (.ref 0), some (.int (nI (b))), some (.int (nI (e))), some (.int (nI (1))), some (.int (nI (1))), some (.int (nI (S))), some (.int (nI (i))), none, none, none]) (st' := []) (w' := mz_w A Q U T) rfl ?_
          refine ez_ifF (zt_nle (a := e) (b := i) (by omega) (by omega)) ?_
          refine ez_go ez_h76 2 (pc' := bif decide ((nI (1)) = (nI 0)) then 28 else 19) (L' := [some (.ref 0), some (.int (nI (b))), some (.int (nI (e))), some (.int (nI (1))), some (.int (nI (1))), some (.int (nI (S))), some (.int (nI (i))), none, none, none]) (st' := []) (w' := mz_w A Q U T) rfl ?_
          refine ez_ifF (zt_ne (by omega) (by omega) (by omega)) ?_
          refine ez_go ez_h76 3 (pc' := bif decide ((nI (S)) ≤ (nI (8))) then 28 else 26) (L' := [some (.ref 0), some (.int (nI (b))), some (.int (nI (e))), some (.int (nI (1))), some (.int (nI (1))), some (.int (nI (S))), some (.int (nI (i))), none, none, none]) (st' := []) (w' := mz_w A Q U T) rfl ?_
          refine ez_ifT (zt_le (a := S) (b := 8) (by omega) (by omega)) ?_
          refine a6 b e S (nI 1) (fun _ => rfl) _ Q U T post hA (fun A9 hA9 => ?_)
          refine ez_inc ez_h76 rfl rfl (v := nI (i + 1)) (zi_1 _) rfl ?_
          refine ez_go ez_h76 1 (pc' := 8) (L' := [some (.ref 0), some (.int (nI (b))), some (.int (nI (e))), some (.int (nI (1))), some (.int (nI (1))), some (.int (nI (S + d))), some (.int (nI (i + 1))), none, none, none]) (st' := []) (w' := mz_w A9 Q U T) rfl ?_
          exact b5 _ Q U T post hA9 kk
/-- PARTLY in b .. e: does it come to the end? -/
theorem zi_partly {E : ze_T} (hE : ze_ok E) {b e : Nat} (he : e ≤ ze_n E) (hb : b ≤ 600) {row : Nat → Nat} {g : zs_G} (hw : zr_ok E row g) :
    ∃ (row' : Nat → Nat) (g' : zs_G) (res : Bool), zr_ok E row' g' ∧ zg_le E g g' ∧ zp_in row row' b e ∧
      cr_M E 6 [.ref 2, .int (nI b), .int (nI e)] row g (some (.int (zs_z res))) row' g' ∧ mr_M E 76 [.ref 0, .int (nI b), .int (nI e), .int (nI 1), .int (nI 1)] row g (some (.int (zs_z res))) row' g' := by
  have hn := hE.1
  obtain ⟨row', g', res, b1, b2, b3, b4, b5⟩ := zi_ploop (b := b) hE he (e - (b + 1)) (b + 1) 0 row g (by omega) (by omega) (by omega) (by omega) hw
  refine ⟨row', g', res, b1, b2, b3, ?_, ?_⟩
  · refine cr_H.m (L := [some (.ref 2), some (.int (nI (b))), some (.int (nI (e))), none, none]) (fun r q u bb post hr kk => ?_) rfl rfl rfl
    refine ez_go ez_h6 5 (pc' := 5) (L' := [some (.ref 2), some (.int (nI (b))), some (.int (nI (e))), some (.int (nI (0))), none]) (st' := [.int ((nI (b)) + (nI (1)))]) (w' := cz_w r q u bb) rfl ?_
    refine ez_top (y := nI (b + 1)) (nI_add _ _) ?_
    refine ez_go ez_h6 1 (pc' := 7) (L' := [some (.ref 2), some (.int (nI (b))), some (.int (nI (e))), some (.int (nI (0))), some (.int (nI (b + 1)))]) (st' := []) (w' := cz_w r q u bb) rfl ?_
    exact b4 _ q u bb post hr kk
  · refine mr_H.m (L := [some (.ref 0), some (.int (nI (b))), some (.int (nI (e))), some (.int (nI (1))), some (.int (nI (1))), none, none, none, none, none]) (fun A Q U T post hA kk => ?_) rfl rfl rfl
    refine ez_go ez_h76 5 (pc' := 6) (L' := [some (.ref 0), some (.int (nI (b))), some (.int (nI (e))), some (.int (nI (1))), some (.int (nI (1))), some (.int (nI (0))), none, none, none, none]) (st' := [.int ((nI (b)) + (nI (1)))]) (w' := mz_w A Q U T) rfl ?_
    refine ez_top (y := nI (b + 1)) (nI_add _ _) ?_
    refine ez_go ez_h76 1 (pc' := 8) (L' := [some (.ref 0), some (.int (nI (b))), some (.int (nI (e))), some (.int (nI (1))), some (.int (nI (1))), some (.int (nI (0))), some (.int (nI (b + 1))), none, none, none]) (st' := []) (w' := mz_w A Q U T) rfl ?_
    exact b5 _ Q U T post hA kk
end
section
/-- the greater one of two below -/
theorem zh_pick {E : ze_T} (hE : ze_ok E) {b m i c x : Nat} (hx : x < ze_n E) (hm : b + m ≤ ze_n E) (hc : c < m) {row : Nat → Nat} {g : zs_G} (hw : zr_ok E row g) :
    ∃ (c' : Nat) (g' : zs_G), c ≤ c' ∧ c' < m ∧ zr_ok E row g' ∧ zg_le E g g' ∧
      (∀ top : Nat, cr_G E 2 29 [some (.ref 3), some (.int (nI (b))), some (.int (nI (top))), some (.int (nI (m))), some (.int (nI (ze_pi E (x)))), some (.int (nI (i))), some (.int (nI (c)))] row g 74 [some (.ref 3), some (.int (nI (b))), some (.int (nI (top))), some (.int (nI (m))), some (.int (nI (ze_pi E (x)))), some (.int (nI (i))), some (.int (nI (c')))] row g') ∧ (∀ top : Nat, mr_G E 77 40 [some (.ref 0), some (.int (nI (b))), some (.int (nI (top))), some (.int (nI (m))), some (.int (nI (i))), some (.int (nI (x))), none, some (.int (nI (c)))] row g 68 [some (.ref 0), some (.int (nI (b))), some (.int (nI (top))), some (.int (nI (m))), some (.int (nI (i))), some (.int (nI (x))), none, some (.int (nI (c')))] row g') := by
  have hn := hE.1
  by_cases h1 : c + 1 < m
  · have hw1 := hw.go (hw.1 (b + c) (by omega)) (hw.1 (b + c + 1) (by omega))
    have hg1 : zg_le E g _ := zg_le.go hw (row (b + c)) (row (b + c + 1))
    cases hb : zs_b (ze_md E) (ze_ka E) (row (b + c)) (row (b + c + 1)) g with
    | false =>
      refine ⟨c, _, Nat.le_refl _, hc, hw1, hg1, fun top => ?_, fun top => ?_⟩
      · intro r q u bb post hr kk
        refine ez_go ez_h2 3 (pc' := 33) (L' := [some (.ref 3), some (.int (nI (b))), some (.int (nI (top))), some (.int (nI (m))), some (.int (nI (ze_pi E (x)))), some (.int (nI (i))), some (.int (nI (c)))]) (st' := [.int ((nI (c)) + (nI (1)))]) (w' := cz_w r q u bb) rfl ?_
        refine ez_top (y := nI (c + 1)) (nI_add _ _) ?_
        refine ez_go ez_h2 2 (pc' := bif decide ((nI (m)) ≤ (nI (c + 1))) then 74 else 37) (L' := [some (.ref 3), some (.int (nI (b))), some (.int (nI (top))), some (.int (nI (m))), some (.int (nI (ze_pi E (x)))), some (.int (nI (i))), some (.int (nI (c)))]) (st' := []) (w' := cz_w r q u bb) rfl ?_
        refine ez_ifF (zt_nle (a := m) (b := c + 1) (by omega) (by omega)) ?_
        refine ez_go ez_h2 7 (pc' := 49) (L' := [some (.ref 3), some (.int (nI (b))), some (.int (nI (top))), some (.int (nI (m))), some (.int (nI (ze_pi E (x)))), some (.int (nI (i))), some (.int (nI (c)))]) (st' := [.int ((nI (b)) + (nI (c))), .ref 1, .ref 1]) (w' := cz_w r q u bb) rfl ?_
        refine ez_top (y := nI (b + c)) (nI_add _ _) ?_
        refine ez_cl ez_h2 rfl rfl ?_
        refine cr_at hE hr (k := b + c) (by omega) q u bb ?_
        refine ez_go ez_h2 5 (pc' := 60) (L' := [some (.ref 3), some (.int (nI (b))), some (.int (nI (top))), some (.int (nI (m))), some (.int (nI (ze_pi E (x)))), some (.int (nI (i))), some (.int (nI (c)))]) (st' := [.int ((nI (b)) + (nI (c))), .ref 1, .int (nI (ze_pi E (row (b + c)))), .ref 1]) (w' := cz_w r q u bb) rfl ?_
        refine ez_top (y := nI (b + c)) (nI_add _ _) ?_
        refine ez_go ez_h2 2 (pc' := 62) (L' := [some (.ref 3), some (.int (nI (b))), some (.int (nI (top))), some (.int (nI (m))), some (.int (nI (ze_pi E (x)))), some (.int (nI (i))), some (.int (nI (c)))]) (st' := [.int ((nI (b + c)) + (nI (1))), .ref 1, .int (nI (ze_pi E (row (b + c)))), .ref 1]) (w' := cz_w r q u bb) rfl ?_
        refine ez_top (y := nI ((b + c) + 1)) (nI_add _ _) ?_
        refine ez_cl ez_h2 rfl rfl ?_
        refine cr_at hE hr (k := (b + c) + 1) (by omega) q u bb ?_
        refine ez_cl ez_h2 rfl rfl ?_
        refine cr_less hE hr hw.2 (x := row (b + c)) (y := row ((b + c) + 1)) (hw.1 (b + c) (by omega)) (hw.1 ((b + c) + 1) (by omega)) q u bb (fun r4 hr4 => ?_)
        refine ez_go ez_h2 1 (pc' := bif decide ((zs_z (zs_b (ze_md E) (ze_ka E) (row (b + c)) (row ((b + c) + 1)) g)) = 0) then 74 else 71) (L' := [some (.ref 3), some (.int (nI (b))), some (.int (nI (top))), some (.int (nI (m))), some (.int (nI (ze_pi E (x)))), some (.int (nI (i))), some (.int (nI (c)))]) (st' := []) (w' := cz_w r4 q u bb) rfl ?_
        refine ez_ifT (zz_f hb) ?_
        exact kk _ hr4
      · intro A Q U T post hA kk
        refine ez_go ez_h77 3 (pc' := 44) (L' := [some (.ref 0), some (.int (nI (b))), some (.int (nI (top))), some (.int (nI (m))), some (.int (nI (i))), some (.int (nI (x))), none, some (.int (nI (c)))]) (st' := [.int ((nI (c)) + (nI (1)))]) (w' := mz_w A Q U T) rfl ?_
        refine ez_top (y := nI (c + 1)) (nI_add _ _) ?_
        refine ez_go ez_h77 2 (pc' := bif decide ((nI (m)) ≤ (nI (c + 1))) then 68 else 48) (L' := [some (.ref 0), some (.int (nI (b))), some (.int (nI (top))), some (.int (nI (m))), some (.int (nI (i))), some (.int (nI (x))), none, some (.int (nI (c)))]) (st' := []) (w' := mz_w A Q U T) rfl ?_
        refine ez_ifF (zt_nle (a := m) (b := c + 1) (by omega) (by omega)) ?_
        refine ez_go ez_h77 4 (pc' := 53) (L' := [some (.ref 0), some (.int (nI (b))), some (.int (nI (top))), some (.int (nI (m))), some (.int (nI (i))), some (.int (nI (x))), none, some (.int (nI (c)))]) (st' := [.int ((nI (b)) + (nI (c))), .ref 0]) (w' := mz_w A Q U T) rfl ?_
        refine ez_top (y := nI (b + c)) (nI_add _ _) ?_
        refine ez_go ez_h77 3 (pc' := 57) (L' := [some (.ref 0), some (.int (nI (b))), some (.int (nI (top))), some (.int (nI (m))), some (.int (nI (i))), some (.int (nI (x))), none, some (.int (nI (c)))]) (st' := [.int ((nI (b)) + (nI (c))), .int (nI (b + c)), .ref 0]) (w' := mz_w A Q U T) rfl ?_
        refine ez_top (y := nI (b + c)) (nI_add _ _) ?_
        refine ez_go ez_h77 2 (pc' := 59) (L' := [some (.ref 0), some (.int (nI (b))), some (.int (nI (top))), some (.int (nI (m))), some (.int (nI (i))), some (.int (nI (x))), none, some (.int (nI (c)))]) (st' := [.int ((nI (b + c)) + (nI (1))), .int (nI (b + c)), .ref 0]) (w' := mz_w A Q U T) rfl ?_
        refine ez_top (y := nI ((b + c) + 1)) (nI_add _ _) ?_
        refine ez_cl ez_h77 rfl rfl ?_
        refine mr_lessAt hE hA hw (i := b + c) (j := (b + c) + 1) (by omega) (by omega) Q U T (fun A5 hA5 => ?_)
        refine ez_go ez_h77 1 (pc' := bif decide ((zs_z (zs_b (ze_md E) (ze_ka E) (row (b + c)) (row ((b + c) + 1)) g)) = 0) then 68 else 65) (L' := [some (.ref 0), some (.int (nI (b))), some (.int (nI (top))), some (.int (nI (m))), some (.int (nI (i))), some (.int (nI (x))), none, some (.int (nI (c)))]) (st' := []) (w' := mz_w A5 Q U T) rfl ?_
        refine ez_ifT (zz_f hb) ?_
        exact kk _ hA5
    | true =>
      refine ⟨c + 1, _, by omega, h1, hw1, hg1, fun top => ?_, fun top => ?_⟩
      · intro r q u bb post hr kk
        refine ez_go ez_h2 3 (pc' := 33) (L' := [some (.ref 3), some (.int (nI (b))), some (.int (nI (top))), some (.int (nI (m))), some (.int (nI (ze_pi E (x)))), some (.int (nI (i))), some (.int (nI (c)))]) (st' := [.int ((nI (c)) + (nI (1)))]) (w' := cz_w r q u bb) rfl ?_
        refine ez_top (y := nI (c + 1)) (nI_add _ _) ?_
        refine ez_go ez_h2 2 (pc' := bif decide ((nI (m)) ≤ (nI (c + 1))) then 74 else 37) (L' := [some (.ref 3), some (.int (nI (b))), some (.int (nI (top))), some (.int (nI (m))), some (.int (nI (ze_pi E (x)))), some (.int (nI (i))), some (.int (nI (c)))]) (st' := []) (w' := cz_w r q u bb) rfl ?_
        refine ez_ifF (zt_nle (a := m) (b := c + 1) (by omega) (by omega)) ?_
        refine ez_go ez_h2 7 (pc' := 49) (L' := [some (.ref 3), some (.int (nI (b))), some (.int (nI (top))), some (.int (nI (m))), some (.int (nI (ze_pi E (x)))), some (.int (nI (i))), some (.int (nI (c)))]) (st' := [.int ((nI (b)) + (nI (c))), .ref 1, .ref 1]) (w' := cz_w r q u bb) rfl ?_
        refine ez_top (y := nI (b + c)) (nI_add _ _) ?_
        refine ez_cl ez_h2 rfl rfl ?_
        refine cr_at hE hr (k := b + c) (by omega) q u bb ?_
        refine ez_go ez_h2 5 (pc' := 60) (L' := [some (.ref 3), some (.int (nI (b))), some (.int (nI (top))), some (.int (nI (m))), some (.int (nI (ze_pi E (x)))), some (.int (nI (i))), some (.int (nI (c)))]) (st' := [.int ((nI (b)) + (nI (c))), .ref 1, .int (nI (ze_pi E (row (b + c)))), .ref 1]) (w' := cz_w r q u bb) rfl ?_
        refine ez_top (y := nI (b + c)) (nI_add _ _) ?_
        refine ez_go ez_h2 2 (pc' := 62) (L' := [some (.ref 3), some (.int (nI (b))), some (.int (nI (top))), some (.int (nI (m))), some (.int (nI (ze_pi E (x)))), some (.int (nI (i))), some (.int (nI (c)))]) (st' := [.int ((nI (b + c)) + (nI (1))), .ref 1, .int (nI (ze_pi E (row (b + c)))), .ref 1]) (w' := cz_w r q u bb) rfl ?_
        refine ez_top (y := nI ((b + c) + 1)) (nI_add _ _) ?_
        refine ez_cl ez_h2 rfl rfl ?_
        refine cr_at hE hr (k := (b + c) + 1) (by omega) q u bb ?_
        refine ez_cl ez_h2 rfl rfl ?_
        refine cr_less hE hr hw.2 (x := row (b + c)) (y := row ((b + c) + 1)) (hw.1 (b + c) (by omega)) (hw.1 ((b + c) + 1) (by omega)) q u bb (fun r6 hr6 => ?_)
        refine ez_go ez_h2 1 (pc' := bif decide ((zs_z (zs_b (ze_md E) (ze_ka E) (row (b + c)) (row ((b + c) + 1)) g)) = 0) then 74 else 71) (L' := [some (.ref 3), some (.int (nI (b))), some (.int (nI (top))), some (.int (nI (m))), some (.int (nI (ze_pi E (x)))), some (.int (nI (i))), some (.int (nI (c)))]) (st' := []) (w' := cz_w r6 q u bb) rfl ?_
        refine ez_ifF (zz_t hb) ?_
        refine ez_inc ez_h2 rfl rfl (v := nI (c + 1)) (zi_1 _) rfl ?_
        exact kk _ hr6
      · intro A Q U T post hA kk
        refine ez_go ez_h77 3 (pc' := 44) (L' := [some (.ref 0), some (.int (nI (b))), some (.int (nI (top))), some (.int (nI (m))), some (.int (nI (i))), some (.int (nI (x))), none, some (.int (nI (c)))]) (st' := [.int ((nI (c)) + (nI (1)))]) (w' := mz_w A Q U T) rfl ?_
        refine ez_top (y := nI (c + 1)) (nI_add _ _) ?_
        refine ez_go ez_h77 2 (pc' := bif decide ((nI (m)) ≤ (nI (c + 1))) then 68 else 48) (L' := [some (.ref 0), some (.int (nI (b))), some (.int (nI (top))), some (.int (nI (m))), some (.int (nI (i))), some (.int (nI (x))), none, some (.int (nI (c)))]) (st' := []) (w' := mz_w A Q U T) rfl ?_
        refine ez_ifF (zt_nle (a := m) (b := c + 1) (by omega) (by omega)) ?_
        refine ez_go ez_h77 4 (pc' := 53) (L' := [some (.ref 0), some (.int (nI (b))), some (.int (nI (top))), some (.int (nI (m))), some (.int (nI (i))), some (.int (nI (x))), none, some (.int (nI (c)))]) (st' := [.int ((nI (b)) + (nI (c))), .ref 0]) (w' := mz_w A Q U T) rfl ?_
        refine ez_top (y := nI (b + c)) (nI_add _ _) ?_
        refine ez_go ez_h77 3 (pc' := 57) (L' := [some (.ref 0), some (.int (nI (b))), some (.int (nI (top))), some (.int (nI (m))), some (.int (nI (i))), some (.int (nI (x))), none, some (.int (nI (c)))]) (st' := [.int ((nI (b)) + (nI (c))), .int (nI (b + c)), .ref 0]) (w' := mz_w A Q U T) rfl ?_
        refine ez_top (y := nI (b + c)) (nI_add _ _) ?_
        refine ez_go ez_h77 2 (pc' := 59) (L' := [some (.ref 0), some (.int (nI (b))), some (.int (nI (top))), some (.int (nI (m))), some (.int (nI (i))), some (.int (nI (x))), none, some (.int (nI (c)))]) (st' := [.int ((nI (b + c)) + (nI (1))), .int (nI (b + c)), .ref 0]) (w' := mz_w A Q U T) rfl ?_
        refine ez_top (y := nI ((b + c) + 1)) (nI_add _ _) ?_
        refine ez_cl ez_h77 rfl rfl ?_
        refine mr_lessAt hE hA hw (i := b + c) (j := (b + c) + 1) (by omega) (by omega) Q U T (fun A7 hA7 => ?_)
        refine ez_go ez_h77 1 (pc' := bif decide ((zs_z (zs_b (ze_md E) (ze_ka E) (row (b + c)) (row ((b + c) + 1)) g)) = 0) then 68 else 65) (L' := [some (.ref 0), some (.int (nI (b))), some (.int (nI (top))), some (.int (nI (m))), some (.int (nI (i))), some (.int (nI (x))), none, some (.int (nI (c)))]) (st' := []) (w' := mz_w A7 Q U T) rfl ?_
        refine ez_ifF (zz_t hb) ?_
        refine ez_inc ez_h77 rfl rfl (v := nI (c + 1)) (zi_1 _) rfl ?_
        exact kk _ hA7
  · refine ⟨c, g, Nat.le_refl _, hc, hw, zg_le.rf g, fun top => ?_, fun top => ?_⟩
    · intro r q u bb post hr kk
      refine ez_go ez_h2 3 (pc' := 33) (L' := [some (.ref 3), some (.int (nI (b))), some (.int (nI (top))), some (.int (nI (m))), some (.int (nI (ze_pi E (x)))), some (.int (nI (i))), some (.int (nI (c)))]) (st' := [.int ((nI (c)) + (nI (1)))]) (w' := cz_w r q u bb) rfl ?_
      refine ez_top (y := nI (c + 1)) (nI_add _ _) ?_
      refine ez_go ez_h2 2 (pc' := bif decide ((nI (m)) ≤ (nI (c + 1))) then 74 else 37) (L' := [some (.ref 3), some (.int (nI (b))), some (.int (nI (top))), some (.int (nI (m))), some (.int (nI (ze_pi E (x)))), some (.int (nI (i))), some (.int (nI (c)))]) (st' := []) (w' := cz_w r q u bb) rfl ?_
      refine ez_ifT (zt_le (a := m) (b := c + 1) (by omega) (by omega)) ?_
      exact kk _ hr
    · intro A Q U T post hA kk
      refine ez_go ez_h77 3 (pc' := 44) (L' := [some (.ref 0), some (.int (nI (b))), some (.int (nI (top))), some (.int (nI (m))), some (.int (nI (i))), some (.int (nI (x))), none, some (.int (nI (c)))]) (st' := [.int ((nI (c)) + (nI (1)))]) (w' := mz_w A Q U T) rfl ?_
      refine ez_top (y := nI (c + 1)) (nI_add _ _) ?_
      refine ez_go ez_h77 2 (pc' := bif decide ((nI (m)) ≤ (nI (c + 1))) then 68 else 48) (L' := [some (.ref 0), some (.int (nI (b))), some (.int (nI (top))), some (.int (nI (m))), some (.int (nI (i))), some (.int (nI (x))), none, some (.int (nI (c)))]) (st' := []) (w' := mz_w A Q U T) rfl ?_
      refine ez_ifT (zt_le (a := m) (b := c + 1) (by omega) (by omega)) ?_
      exact kk _ hA
theorem zh_mv {row : Nat → Nat} {b m i c x : Nat} (hi : i < m) (hc : c < m) (hne : c ≠ i) : zp_in (va_up row (b + i) x) (va_up (va_up row (b + i) (row (b + c))) (b + c) x) b (b + m) := ⟨fun k k1 k2 => by
  by_cases e1 : k = b + c
  · exact ⟨b + i, by omega, by omega, by rw [e1, va_up_self, va_up_self]⟩
  · rw [va_up_ne _ _ e1]
    by_cases e2 : k = b + i
    · exact ⟨b + c, by omega, by omega, by rw [e2, va_up_self, va_up_ne _ _ (by omega)]⟩
    · exact ⟨k, k1, k2, by rw [va_up_ne _ _ e2, va_up_ne _ _ e2]⟩, fun k hk => by
  rw [va_up_ne _ _ (by omega), va_up_ne _ _ (by omega), va_up_ne _ _ (by omega)]⟩
/-- one sinks -/
theorem zh_loop {E : ze_T} (hE : ze_ok E) {b m x : Nat} (hx : x < ze_n E) (hm : b + m ≤ ze_n E) : ∀ (s i : Nat) (row : Nat → Nat) (g : zs_G), m ≤ i + s → i < m → zr_ok E row g →
    ∃ (row' : Nat → Nat) (g' : zs_G) (i' : Nat), i' < m ∧ zr_ok E row' g' ∧ zg_le E g g' ∧ zp_in (va_up row (b + i) x) (va_up row' (b + i') x) b (b + m) ∧
      (∀ top : Nat, cr_G E 2 23 [some (.ref 3), some (.int (nI (b))), some (.int (nI (top))), some (.int (nI (m))), some (.int (nI (ze_pi E (x)))), some (.int (nI (i))), some (.int (nI (2 * i + 1)))] row g 137 [some (.ref 3), some (.int (nI (b))), some (.int (nI (top))), some (.int (nI (m))), some (.int (nI (ze_pi E (x)))), some (.int (nI (i'))), none] row' g') ∧ (∀ top : Nat, mr_G E 77 22 [some (.ref 0), some (.int (nI (b))), some (.int (nI (top))), some (.int (nI (m))), some (.int (nI (i))), some (.int (nI (x))), none, none] row g 115 [some (.ref 0), some (.int (nI (b))), some (.int (nI (top))), some (.int (nI (m))), some (.int (nI (i'))), some (.int (nI (x))), none, none] row' g') := by
  have hn := hE.1
  intro s
  induction s with
  | zero => intro i row g h1 h2; omega
  | succ s ih =>
    intro i row g h1 h2 hw
    by_cases hc : 2 * i + 1 < m
    · obtain ⟨c, g1, p1, p2, p3, p4, p5, p6⟩ := zh_pick hE (i := i) hx hm hc hw
      have hw2 := p3.go hx (p3.1 (b + c) (by omega))
      have hg2 : zg_le E g1 _ := zg_le.go p3 x (row (b + c))
      cases hb : zs_b (ze_md E) (ze_ka E) x (row (b + c)) g1 with
      | false =>
        refine ⟨row, _, i, h2, hw2, p4.tr hg2, zp_in.rf _ _ _, fun top => ?_, fun top => ?_⟩
        · intro r q u bb post hr kk
          refine ez_go ez_h2 3 (pc' := bif decide ((nI (m)) ≤ (nI (2 * i + 1))) then 137 else 29) (L' := [some (.ref 3), some (.int (nI (b))), some (.int (nI (top))), some (.int (nI (m))), some (.int (nI (ze_pi E (x)))), some (.int (nI (i))), some (.int (nI (2 * i + 1)))]) (st' := []) (w' := cz_w r q u bb) rfl ?_
          refine ez_ifF (zt_nle (a := m) (b := 2 * i + 1) (by omega) (by omega)) ?_
          refine p5 top _ q u bb post hr (fun r8 hr8 => ?_)
          refine ez_go ez_h2 8 (pc' := 88) (L' := [some (.ref 3), some (.int (nI (b))), some (.int (nI (top))), some (.int (nI (m))), some (.int (nI (ze_pi E (x)))), some (.int (nI (i))), some (.int (nI (c)))]) (st' := [.int ((nI (b)) + (nI (c))), .ref 1, .int (nI (ze_pi E (x))), .ref 1]) (w' := cz_w r8 q u bb) rfl ?_
          refine ez_top (y := nI (b + c)) (nI_add _ _) ?_
          refine ez_cl ez_h2 rfl rfl ?_
          refine cr_at hE hr8 (k := b + c) (by omega) q u bb ?_
          refine ez_cl ez_h2 rfl rfl ?_
          refine cr_less hE hr8 p3.2 (x := x) (y := row (b + c)) hx (p3.1 (b + c) (by omega)) q u bb (fun r8 hr8 => ?_)
          refine ez_go ez_h2 1 (pc' := bif decide (¬ (zs_z (zs_b (ze_md E) (ze_ka E) x (row (b + c)) g1)) = 0) then 100 else 97) (L' := [some (.ref 3), some (.int (nI (b))), some (.int (nI (top))), some (.int (nI (m))), some (.int (nI (ze_pi E (x)))), some (.int (nI (i))), some (.int (nI (c)))]) (st' := []) (w' := cz_w r8 q u bb) rfl ?_
          refine ez_ifF (fun z => z (zz_f hb)) ?_
          refine ez_go ez_h2 1 (pc' := 137) (L' := [some (.ref 3), some (.int (nI (b))), some (.int (nI (top))), some (.int (nI (m))), some (.int (nI (ze_pi E (x)))), some (.int (nI (i))), some (.int (nI (c)))]) (st' := []) (w' := cz_w r8 q u bb) rfl ?_
          exact ez_E.le (ez_lc (ez_lc (ez_lc (ez_lc (ez_lc (ez_lc (ez_ln ez_l0))))))) (kk _ hr8)
        · intro A Q U T post hA kk
          refine ez_go ez_h77 3 (pc' := 26) (L' := [some (.ref 0), some (.int (nI (b))), some (.int (nI (top))), some (.int (nI (m))), some (.int (nI (i))), some (.int (nI (x))), none, none]) (st' := [.int ((nI (2)) * (nI (i)))]) (w' := mz_w A Q U T) rfl ?_
          refine ez_top (y := nI (2 * i)) (pk_mul _ _) ?_
          refine ez_go ez_h77 2 (pc' := 28) (L' := [some (.ref 0), some (.int (nI (b))), some (.int (nI (top))), some (.int (nI (m))), some (.int (nI (i))), some (.int (nI (x))), none, none]) (st' := [.int ((nI (2 * i)) + (nI (1)))]) (w' := mz_w A Q U T) rfl ?_
          refine ez_top (y := nI ((2 * i) + 1)) (nI_add _ _) ?_
          refine ez_go ez_h77 2 (pc' := bif decide ((nI (m)) ≤ (nI ((2 * i) + 1))) then 115 else 32) (L' := [some (.ref 0), some (.int (nI (b))), some (.int (nI (top))), some (.int (nI (m))), some (.int (nI (i))), some (.int (nI (x))), none, none]) (st' := []) (w' := mz_w A Q U T) rfl ?_
          refine ez_ifF (zt_nle (a := m) (b := (2 * i) + 1) (by omega) (by omega)) ?_
          refine ez_go ez_h77 3 (pc' := 36) (L' := [some (.ref 0), some (.int (nI (b))), some (.int (nI (top))), some (.int (nI (m))), some (.int (nI (i))), some (.int (nI (x))), none, none]) (st' := [.int ((nI (2)) * (nI (i)))]) (w' := mz_w A Q U T) rfl ?_
          refine ez_top (y := nI (2 * i)) (pk_mul _ _) ?_
          refine ez_go ez_h77 2 (pc' := 38) (L' := [some (.ref 0), some (.int (nI (b))), some (.int (nI (top))), some (.int (nI (m))), some (.int (nI (i))), some (.int (nI (x))), none, none]) (st' := [.int ((nI (2 * i)) + (nI (1)))]) (w' := mz_w A Q U T) rfl ?_
          refine ez_top (y := nI ((2 * i) + 1)) (nI_add _ _) ?_
          refine ez_go ez_h77 1 (pc' := 40) (L' := [some (.ref 0), some (.int (nI (b))), some (.int (nI (top))), some (.int (nI (m))), some (.int (nI (i))), some (.int (nI (x))), none, some (.int (nI ((2 * i) + 1)))]) (st' := []) (w' := mz_w A Q U T) rfl ?_
          refine p6 top _ Q U T post hA (fun A8 hA8 => ?_)
          refine ez_go ez_h77 7 (pc' := 79) (L' := [some (.ref 0), some (.int (nI (b))), some (.int (nI (top))), some (.int (nI (m))), some (.int (nI (i))), some (.int (nI (x))), none, some (.int (nI (c)))]) (st' := [.int ((nI (b)) + (nI (c))), .ref 4, .int (nI (x)), .ref 0]) (w' := mz_w A8 Q U T) rfl ?_
          refine ez_top (y := nI (b + c)) (nI_add _ _) ?_
          refine mr_ld ez_h77 rfl hE hA8 (k := b + c) (by omega) ?_
          refine ez_cl ez_h77 rfl rfl ?_
          refine mr_less hE hA8 p3.2 (x := x) (y := row (b + c)) hx (p3.1 (b + c) (by omega)) Q U T (fun A9 hA9 => ?_)
          refine ez_go ez_h77 3 (pc' := bif decide ((zs_z (zs_b (ze_md E) (ze_ka E) x (row (b + c)) g1)) = 0) then 112 else 90) (L' := [some (.ref 0), some (.int (nI (b))), some (.int (nI (top))), some (.int (nI (m))), some (.int (nI (i))), some (.int (nI (x))), some (.int (zs_z (zs_b (ze_md E) (ze_ka E) x (row (b + c)) g1))), some (.int (nI (c)))]) (st' := []) (w' := mz_w A9 Q U T) rfl ?_
          refine ez_ifT (zz_f hb) ?_
          refine ez_go ez_h77 3 (pc' := bif decide ((zs_z (zs_b (ze_md E) (ze_ka E) x (row (b + c)) g1)) = 0) then 115 else 22) (L' := [some (.ref 0), some (.int (nI (b))), some (.int (nI (top))), some (.int (nI (m))), some (.int (nI (i))), some (.int (nI (x))), some (.int (zs_z (zs_b (ze_md E) (ze_ka E) x (row (b + c)) g1))), some (.int (nI (c)))]) (st' := []) (w' := mz_w A9 Q U T) rfl ?_
          refine ez_ifT (zz_f hb) ?_
          exact ez_E.le (ez_lc (ez_lc (ez_lc (ez_lc (ez_lc (ez_lc (ez_ln (ez_ln ez_l0)))))))) (kk _ hA9)
      | true =>
        obtain ⟨row', g', i', a1, a2, a3, a4, a5, a6⟩ := ih c (va_up row (b + i) (row (b + c))) _ (by omega) p2 (hw2.set (p3.1 (b + c) (by omega)))
        refine ⟨row', g', i', a1, a2, (p4.tr hg2).tr a3, (zh_mv h2 p2 (by omega)).tr a4, fun top => ?_, fun top => ?_⟩
        · intro r q u bb post hr kk
          refine ez_go ez_h2 3 (pc' := bif decide ((nI (m)) ≤ (nI (2 * i + 1))) then 137 else 29) (L' := [some (.ref 3), some (.int (nI (b))), some (.int (nI (top))), some (.int (nI (m))), some (.int (nI (ze_pi E (x)))), some (.int (nI (i))), some (.int (nI (2 * i + 1)))]) (st' := []) (w' := cz_w r q u bb) rfl ?_
          refine ez_ifF (zt_nle (a := m) (b := 2 * i + 1) (by omega) (by omega)) ?_
          refine p5 top _ q u bb post hr (fun r8 hr8 => ?_)
          refine ez_go ez_h2 8 (pc' := 88) (L' := [some (.ref 3), some (.int (nI (b))), some (.int (nI (top))), some (.int (nI (m))), some (.int (nI (ze_pi E (x)))), some (.int (nI (i))), some (.int (nI (c)))]) (st' := [.int ((nI (b)) + (nI (c))), .ref 1, .int (nI (ze_pi E (x))), .ref 1]) (w' := cz_w r8 q u bb) rfl ?_
          refine ez_top (y := nI (b + c)) (nI_add _ _) ?_
          refine ez_cl ez_h2 rfl rfl ?_
          refine cr_at hE hr8 (k := b + c) (by omega) q u bb ?_
          refine ez_cl ez_h2 rfl rfl ?_
          refine cr_less hE hr8 p3.2 (x := x) (y := row (b + c)) hx (p3.1 (b + c) (by omega)) q u bb (fun r10 hr10 => ?_)
          refine ez_go ez_h2 1 (pc' := bif decide (¬ (zs_z (zs_b (ze_md E) (ze_ka E) x (row (b + c)) g1)) = 0) then 100 else 97) (L' := [some (.ref 3), some (.int (nI (b))), some (.int (nI (top))), some (.int (nI (m))), some (.int (nI (ze_pi E (x)))), some (.int (nI (i))), some (.int (nI (c)))]) (st' := []) (w' := cz_w r10 q u bb) rfl ?_
          refine ez_ifT (zz_t hb) ?_
          refine ez_go ez_h2 5 (pc' := 108) (L' := [some (.ref 3), some (.int (nI (b))), some (.int (nI (top))), some (.int (nI (m))), some (.int (nI (ze_pi E (x)))), some (.int (nI (i))), some (.int (nI (c)))]) (st' := [.int ((nI (b)) + (nI (i))), .ref 1]) (w' := cz_w r10 q u bb) rfl ?_
          refine ez_top (y := nI (b + i)) (nI_add _ _) ?_
          refine ez_go ez_h2 5 (pc' := 116) (L' := [some (.ref 3), some (.int (nI (b))), some (.int (nI (top))), some (.int (nI (m))), some (.int (nI (ze_pi E (x)))), some (.int (nI (i))), some (.int (nI (c)))]) (st' := [.int ((nI (b)) + (nI (c))), .ref 1, .int (nI (b + i)), .ref 1]) (w' := cz_w r10 q u bb) rfl ?_
          refine ez_top (y := nI (b + c)) (nI_add _ _) ?_
          refine ez_cl ez_h2 rfl rfl ?_
          refine cr_at hE hr10 (k := b + c) (by omega) q u bb ?_
          refine ez_cl ez_h2 rfl rfl ?_
          refine cr_set hE hr10 (k := b + i) (x := row (b + c)) (by omega) q u bb (fun r11 hr11 => ?_)
          refine ez_go ez_h2 5 (pc' := 130) (L' := [some (.ref 3), some (.int (nI (b))), some (.int (nI (top))), some (.int (nI (m))), some (.int (nI (ze_pi E (x)))), some (.int (nI (c))), some (.int (nI (c)))]) (st' := [.int ((nI (2)) * (nI (c)))]) (w' := cz_w r11 q u bb) rfl ?_
          refine ez_top (y := nI (2 * c)) (pk_mul _ _) ?_
          refine ez_go ez_h2 2 (pc' := 132) (L' := [some (.ref 3), some (.int (nI (b))), some (.int (nI (top))), some (.int (nI (m))), some (.int (nI (ze_pi E (x)))), some (.int (nI (c))), some (.int (nI (c)))]) (st' := [.int ((nI (2 * c)) + (nI (1)))]) (w' := cz_w r11 q u bb) rfl ?_
          refine ez_top (y := nI ((2 * c) + 1)) (nI_add _ _) ?_
          refine ez_go ez_h2 2 (pc' := 23) (L' := [some (.ref 3), some (.int (nI (b))), some (.int (nI (top))), some (.int (nI (m))), some (.int (nI (ze_pi E (x)))), some (.int (nI (c))), some (.int (nI ((2 * c) + 1)))]) (st' := []) (w' := cz_w r11 q u bb) rfl ?_
          exact a5 top _ q u bb post hr11 kk
        · intro A Q U T post hA kk
          refine ez_go ez_h77 3 (pc' := 26) (L' := [some (.ref 0), some (.int (nI (b))), some (.int (nI (top))), some (.int (nI (m))), some (.int (nI (i))), some (.int (nI (x))), none, none]) (st' := [.int ((nI (2)) * (nI (i)))]) (w' := mz_w A Q U T) rfl ?_
          refine ez_top (y := nI (2 * i)) (pk_mul _ _) ?_
          refine ez_go ez_h77 2 (pc' := 28) (L' := [some (.ref 0), some (.int (nI (b))), some (.int (nI (top))), some (.int (nI (m))), some (.int (nI (i))), some (.int (nI (x))), none, none]) (st' := [.int ((nI (2 * i)) + (nI (1)))]) (w' := mz_w A Q U T) rfl ?_
          refine ez_top (y := nI ((2 * i) + 1)) (nI_add _ _) ?_
          refine ez_go ez_h77 2 (pc' := bif decide ((nI (m)) ≤ (nI ((2 * i) + 1))) then 115 else 32) (L' := [some (.ref 0), some (.int (nI (b))), some (.int (nI (top))), some (.int (nI (m))), some (.int (nI (i))), some (.int (nI (x))), none, none]) (st' := []) (w' := mz_w A Q U T) rfl ?_
          refine ez_ifF (zt_nle (a := m) (b := (2 * i) + 1) (by omega) (by omega)) ?_
          refine ez_go ez_h77 3 (pc' := 36) (L' := [some (.ref 0), some (.int (nI (b))), some (.int (nI (top))), some (.int (nI (m))), some (.int (nI (i))), some (.int (nI (x))), none, none]) (st' := [.int ((nI (2)) * (nI (i)))]) (w' := mz_w A Q U T) rfl ?_
          refine ez_top (y := nI (2 * i)) (pk_mul _ _) ?_
          refine ez_go ez_h77 2 (pc' := 38) (L' := [some (.ref 0), some (.int (nI (b))), some (.int (nI (top))), some (.int (nI (m))), some (.int (nI (i))), some (.int (nI (x))), none, none]) (st' := [.int ((nI (2 * i)) + (nI (1)))]) (w' := mz_w A Q U T) rfl ?_
          refine ez_top (y := nI ((2 * i) + 1)) (nI_add _ _) ?_
          refine ez_go ez_h77 1 (pc' := 40) (L' := [some (.ref 0), some (.int (nI (b))), some (.int (nI (top))), some (.int (nI (m))), some (.int (nI (i))), some (.int (nI (x))), none, some (.int (nI ((2 * i) + 1)))]) (st' := []) (w' := mz_w A Q U T) rfl ?_
          refine p6 top _ Q U T post hA (fun A8 hA8 => ?_)
          refine ez_go ez_h77 7 (pc' := 79) (L' := [some (.ref 0), some (.int (nI (b))), some (.int (nI (top))), some (.int (nI (m))), some (.int (nI (i))), some (.int (nI (x))), none, some (.int (nI (c)))]) (st' := [.int ((nI (b)) + (nI (c))), .ref 4, .int (nI (x)), .ref 0]) (w' := mz_w A8 Q U T) rfl ?_
          refine ez_top (y := nI (b + c)) (nI_add _ _) ?_
          refine mr_ld ez_h77 rfl hE hA8 (k := b + c) (by omega) ?_
          refine ez_cl ez_h77 rfl rfl ?_
          refine mr_less hE hA8 p3.2 (x := x) (y := row (b + c)) hx (p3.1 (b + c) (by omega)) Q U T (fun A12 hA12 => ?_)
          refine ez_go ez_h77 3 (pc' := bif decide ((zs_z (zs_b (ze_md E) (ze_ka E) x (row (b + c)) g1)) = 0) then 112 else 90) (L' := [some (.ref 0), some (.int (nI (b))), some (.int (nI (top))), some (.int (nI (m))), some (.int (nI (i))), some (.int (nI (x))), some (.int (zs_z (zs_b (ze_md E) (ze_ka E) x (row (b + c)) g1))), some (.int (nI (c)))]) (st' := []) (w' := mz_w A12 Q U T) rfl ?_
          refine ez_ifF (zz_t hb) ?_
          refine ez_go ez_h77 5 (pc' := 98) (L' := [some (.ref 0), some (.int (nI (b))), some (.int (nI (top))), some (.int (nI (m))), some (.int (nI (i))), some (.int (nI (x))), some (.int (zs_z (zs_b (ze_md E) (ze_ka E) x (row (b + c)) g1))), some (.int (nI (c)))]) (st' := [.int ((nI (b)) + (nI (i))), .ref 4]) (w' := mz_w A12 Q U T) rfl ?_
          refine ez_top (y := nI (b + i)) (nI_add _ _) ?_
          refine ez_go ez_h77 5 (pc' := 106) (L' := [some (.ref 0), some (.int (nI (b))), some (.int (nI (top))), some (.int (nI (m))), some (.int (nI (i))), some (.int (nI (x))), some (.int (zs_z (zs_b (ze_md E) (ze_ka E) x (row (b + c)) g1))), some (.int (nI (c)))]) (st' := [.int ((nI (b)) + (nI (c))), .ref 4, .int (nI (b + i)), .ref 4]) (w' := mz_w A12 Q U T) rfl ?_
          refine ez_top (y := nI (b + c)) (nI_add _ _) ?_
          refine mr_ld ez_h77 rfl hE hA12 (k := b + c) (by omega) ?_
          refine mr_st ez_h77 rfl hE hA12 (k := b + i) (x := row (b + c)) (by omega) (fun A13 hA13 => ?_)
          refine ez_go ez_h77 5 (pc' := bif decide ((zs_z (zs_b (ze_md E) (ze_ka E) x (row (b + c)) g1)) = 0) then 115 else 22) (L' := [some (.ref 0), some (.int (nI (b))), some (.int (nI (top))), some (.int (nI (m))), some (.int (nI (c))), some (.int (nI (x))), some (.int (zs_z (zs_b (ze_md E) (ze_ka E) x (row (b + c)) g1))), some (.int (nI (c)))]) (st' := []) (w' := mz_w A13 Q U T) rfl ?_
          refine ez_ifF (zz_t hb) ?_
          exact ez_E.le (ez_lc (ez_lc (ez_lc (ez_lc (ez_lc (ez_lc (ez_ln (ez_ln ez_l0)))))))) (a6 top _ Q U T post hA13 kk)
    · refine ⟨row, g, i, h2, hw, zg_le.rf g, zp_in.rf _ _ _, fun top => ?_, fun top => ?_⟩
      · intro r q u bb post hr kk
        refine ez_go ez_h2 3 (pc' := bif decide ((nI (m)) ≤ (nI (2 * i + 1))) then 137 else 29) (L' := [some (.ref 3), some (.int (nI (b))), some (.int (nI (top))), some (.int (nI (m))), some (.int (nI (ze_pi E (x)))), some (.int (nI (i))), some (.int (nI (2 * i + 1)))]) (st' := []) (w' := cz_w r q u bb) rfl ?_
        refine ez_ifT (zt_le (a := m) (b := 2 * i + 1) (by omega) (by omega)) ?_
        exact ez_E.le (ez_lc (ez_lc (ez_lc (ez_lc (ez_lc (ez_lc (ez_ln ez_l0))))))) (kk _ hr)
      · intro A Q U T post hA kk
        refine ez_go ez_h77 3 (pc' := 26) (L' := [some (.ref 0), some (.int (nI (b))), some (.int (nI (top))), some (.int (nI (m))), some (.int (nI (i))), some (.int (nI (x))), none, none]) (st' := [.int ((nI (2)) * (nI (i)))]) (w' := mz_w A Q U T) rfl ?_
        refine ez_top (y := nI (2 * i)) (pk_mul _ _) ?_
        refine ez_go ez_h77 2 (pc' := 28) (L' := [some (.ref 0), some (.int (nI (b))), some (.int (nI (top))), some (.int (nI (m))), some (.int (nI (i))), some (.int (nI (x))), none, none]) (st' := [.int ((nI (2 * i)) + (nI (1)))]) (w' := mz_w A Q U T) rfl ?_
        refine ez_top (y := nI ((2 * i) + 1)) (nI_add _ _) ?_
        refine ez_go ez_h77 2 (pc' := bif decide ((nI (m)) ≤ (nI ((2 * i) + 1))) then 115 else 32) (L' := [some (.ref 0), some (.int (nI (b))), some (.int (nI (top))), some (.int (nI (m))), some (.int (nI (i))), some (.int (nI (x))), none, none]) (st' := []) (w' := mz_w A Q U T) rfl ?_
        refine ez_ifT (zt_le (a := m) (b := (2 * i) + 1) (by omega) (by omega)) ?_
        exact kk _ hA
theorem va_up_id {α : Type} (f : Nat → α) (k : Nat) : va_up f k (f k) = f := by
  funext j
  by_cases e : j = k
  · rw [e, va_up_self]
  · rw [va_up_ne _ _ e]
/-- SINK top of m, told from b on -/
theorem zh_sink {E : ze_T} (hE : ze_ok E) {b m top : Nat} (hm : b + m ≤ ze_n E) (ht : top < m) {row : Nat → Nat} {g : zs_G} (hw : zr_ok E row g) :
    ∃ (row' : Nat → Nat) (g' : zs_G), zr_ok E row' g' ∧ zg_le E g g' ∧ zp_in row row' b (b + m) ∧
      cr_M E 2 [.ref 3, .int (nI b), .int (nI top), .int (nI m)] row g none row' g' ∧ mr_M E 77 [.ref 0, .int (nI b), .int (nI top), .int (nI m)] row g none row' g' := by
  have hn := hE.1
  have hx : row (b + top) < ze_n E := hw.1 _ (by omega)
  obtain ⟨row', g', i', a1, a2, a3, a4, a5, a6⟩ := zh_loop hE (b := b) hx hm (m - top) top row g (by omega) ht hw
  rw [va_up_id] at a4
  refine ⟨va_up row' (b + i') (row (b + top)), g', a2.set hx, a3, a4, ?_, ?_⟩
  · refine cr_H.m (L := [some (.ref 3), some (.int (nI (b))), some (.int (nI (top))), some (.int (nI (m))), none, none, none]) (fun r q u bb post hr kk => ?_) rfl rfl rfl
    refine ez_go ez_h2 5 (pc' := 7) (L' := [some (.ref 3), some (.int (nI (b))), some (.int (nI (top))), some (.int (nI (m))), none, none, none]) (st' := [.int ((nI (b)) + (nI (top))), .ref 1]) (w' := cz_w r q u bb) rfl ?_
    refine ez_top (y := nI (b + top)) (nI_add _ _) ?_
    refine ez_cl ez_h2 rfl rfl ?_
    refine cr_at hE hr (k := b + top) (by omega) q u bb ?_
    refine ez_go ez_h2 6 (pc' := 19) (L' := [some (.ref 3), some (.int (nI (b))), some (.int (nI (top))), some (.int (nI (m))), some (.int (nI (ze_pi E (row (b + top))))), some (.int (nI (top))), none]) (st' := [.int ((nI (2)) * (nI (top)))]) (w' := cz_w r q u bb) rfl ?_
    refine ez_top (y := nI (2 * top)) (pk_mul _ _) ?_
    refine ez_go ez_h2 2 (pc' := 21) (L' := [some (.ref 3), some (.int (nI (b))), some (.int (nI (top))), some (.int (nI (m))), some (.int (nI (ze_pi E (row (b + top))))), some (.int (nI (top))), none]) (st' := [.int ((nI (2 * top)) + (nI (1)))]) (w' := cz_w r q u bb) rfl ?_
    refine ez_top (y := nI ((2 * top) + 1)) (nI_add _ _) ?_
    refine ez_go ez_h2 1 (pc' := 23) (L' := [some (.ref 3), some (.int (nI (b))), some (.int (nI (top))), some (.int (nI (m))), some (.int (nI (ze_pi E (row (b + top))))), some (.int (nI (top))), some (.int (nI ((2 * top) + 1)))]) (st' := []) (w' := cz_w r q u bb) rfl ?_
    refine a5 top _ q u bb post hr (fun r8 hr8 => ?_)
    refine ez_go ez_h2 5 (pc' := 145) (L' := [some (.ref 3), some (.int (nI (b))), some (.int (nI (top))), some (.int (nI (m))), some (.int (nI (ze_pi E (row (b + top))))), some (.int (nI (i'))), none]) (st' := [.int ((nI (b)) + (nI (i'))), .ref 1]) (w' := cz_w r8 q u bb) rfl ?_
    refine ez_top (y := nI (b + i')) (nI_add _ _) ?_
    refine ez_go ez_h2 1 (pc' := 147) (L' := [some (.ref 3), some (.int (nI (b))), some (.int (nI (top))), some (.int (nI (m))), some (.int (nI (ze_pi E (row (b + top))))), some (.int (nI (i'))), none]) (st' := [.int (nI (ze_pi E (row (b + top)))), .int (nI (b + i')), .ref 1]) (w' := cz_w r8 q u bb) rfl ?_
    refine ez_cl ez_h2 rfl rfl ?_
    refine cr_set hE hr8 (k := b + i') (x := row (b + top)) (by omega) q u bb (fun r14 hr14 => ?_)
    exact ez_vret rfl ez_h2 rfl rfl (kk _ hr14)
  · refine mr_H.m (L := [some (.ref 0), some (.int (nI (b))), some (.int (nI (top))), some (.int (nI (m))), none, none, none, none]) (fun A Q U T post hA kk => ?_) rfl rfl rfl
    refine ez_go ez_h77 7 (pc' := 11) (L' := [some (.ref 0), some (.int (nI (b))), some (.int (nI (top))), some (.int (nI (m))), some (.int (nI (top))), none, none, none]) (st' := [.int ((nI (b)) + (nI (top))), .ref 4]) (w' := mz_w A Q U T) rfl ?_
    refine ez_top (y := nI (b + top)) (nI_add _ _) ?_
    refine mr_ld ez_h77 rfl hE hA (k := b + top) (by omega) ?_
    refine ez_go ez_h77 5 (pc' := bif decide ((nI (1)) = (nI 0)) then 115 else 22) (L' := [some (.ref 0), some (.int (nI (b))), some (.int (nI (top))), some (.int (nI (m))), some (.int (nI (top))), some (.int (nI (row (b + top)))), some (.int (nI (1))), none]) (st' := []) (w' := mz_w A Q U T) rfl ?_
    refine ez_ifF (zt_ne (by omega) (by omega) (by omega)) ?_
    refine ez_E.le (ez_lc (ez_lc (ez_lc (ez_lc (ez_lc (ez_lc (ez_ln (ez_lc ez_l0)))))))) (a6 top _ Q U T post hA (fun A8 hA8 => ?_))
    refine ez_go ez_h77 5 (pc' := 123) (L' := [some (.ref 0), some (.int (nI (b))), some (.int (nI (top))), some (.int (nI (m))), some (.int (nI (i'))), some (.int (nI (row (b + top)))), none, none]) (st' := [.int ((nI (b)) + (nI (i'))), .ref 4]) (w' := mz_w A8 Q U T) rfl ?_
    refine ez_top (y := nI (b + i')) (nI_add _ _) ?_
    refine ez_go ez_h77 1 (pc' := 125) (L' := [some (.ref 0), some (.int (nI (b))), some (.int (nI (top))), some (.int (nI (m))), some (.int (nI (i'))), some (.int (nI (row (b + top)))), none, none]) (st' := [.int (nI (row (b + top))), .int (nI (b + i')), .ref 4]) (w' := mz_w A8 Q U T) rfl ?_
    refine mr_st ez_h77 rfl hE hA8 (k := b + i') (x := row (b + top)) (by omega) (fun A15 hA15 => ?_)
    exact ez_vret rfl ez_h77 rfl rfl (kk _ hA15)
end
section
/-- one less, which may be -1 -/
def zd_n (t : Nat) : Int32 := nI t - nI 1
theorem zd_s (t : Nat) : zd_n (t + 1) = nI t := nI_pred t
theorem zd_p {t : Nat} (h : 0 < t) : zd_n t = nI (t - 1) := pk_sub (by omega)
theorem zd_0 : zd_n 0 < nI 0 := by decide
theorem zd_dec (a : Nat) : nI a + Int32.ofInt (-1) = zd_n a := by
  show nI a + Int32.ofInt (-1) = nI a - nI 1
  rw [Int32.sub_eq_add_neg]
  rfl
theorem zd_c {t : Nat} (h : t ≤ 1) : zd_n t < nI 1 := by
  rcases (show t = 0 ∨ t = 1 by omega) with rfl | rfl <;> decide
theorem zd_m {t : Nat} (h : t ≤ 1) : zd_n t ≤ nI 0 := by
  rcases (show t = 0 ∨ t = 1 by omega) with rfl | rfl <;> decide
theorem zh_l1 {E : ze_T} (hE : ze_ok E) {b e : Nat} (hb : b ≤ e) (he : e ≤ ze_n E) : ∀ (t : Nat) (row : Nat → Nat) (g : zs_G), t ≤ (e - b) / 2 → zr_ok E row g →
    ∃ (row' : Nat → Nat) (g' : zs_G), zr_ok E row' g' ∧ zg_le E g g' ∧ zp_in row row' b e ∧ cr_G E 1 11 [some (.ref 3), some (.int (nI (b))), some (.int (nI (e))), some (.int (nI (e - b))), some (.int (zd_n t))] row g 30 [some (.ref 3), some (.int (nI (b))), some (.int (nI (e))), some (.int (nI (e - b))), none] row' g' ∧ mr_G E 78 11 [some (.ref 0), some (.int (nI (b))), some (.int (nI (e))), some (.int (nI (e - b))), some (.int (zd_n t))] row g 30 [some (.ref 0), some (.int (nI (b))), some (.int (nI (e))), some (.int (nI (e - b))), none] row' g' := by
  have hn := hE.1
  intro t
  induction t with
  | zero =>
    intro row g h1 hw
    refine ⟨row, g, hw, zg_le.rf g, zp_in.rf _ _ _, ?_, ?_⟩
    · intro r q u bb post hr kk
      refine ez_go ez_h1 2 (pc' := bif decide ((zd_n 0) < (nI 0)) then 30 else 16) (L' := [some (.ref 3), some (.int (nI (b))), some (.int (nI (e))), some (.int (nI (e - b))), some (.int (zd_n 0))]) (st' := []) (w' := cz_w r q u bb) rfl ?_
      refine ez_ifT (zd_0) ?_
      exact ez_E.le (ez_lc (ez_lc (ez_lc (ez_lc (ez_ln ez_l0))))) (kk _ hr)
    · intro A Q U T post hA kk
      refine ez_go ez_h78 2 (pc' := bif decide ((zd_n 0) < (nI 0)) then 30 else 16) (L' := [some (.ref 0), some (.int (nI (b))), some (.int (nI (e))), some (.int (nI (e - b))), some (.int (zd_n 0))]) (st' := []) (w' := mz_w A Q U T) rfl ?_
      refine ez_ifT (zd_0) ?_
      exact ez_E.le (ez_lc (ez_lc (ez_lc (ez_lc (ez_ln ez_l0))))) (kk _ hA)
  | succ t ih =>
    intro row g h1 hw
    obtain ⟨row1, g1, a1, a2, a3, a4, a5⟩ := zh_sink hE (b := b) (m := e - b) (top := t) (by omega) (by omega) hw
    have hp1 : zp_in row row1 b e := a3.wide (Nat.le_refl _) (by omega)
    obtain ⟨row', g', b1, b2, b3, b4, b5⟩ := ih row1 g1 (by omega) a1
    rw [zd_s]
    refine ⟨row', g', b1, a2.tr b2, hp1.tr b3, ?_, ?_⟩
    · intro r q u bb post hr kk
      refine ez_go ez_h1 2 (pc' := bif decide ((nI (t)) < (nI 0)) then 30 else 16) (L' := [some (.ref 3), some (.int (nI (b))), some (.int (nI (e))), some (.int (nI (e - b))), some (.int (nI (t)))]) (st' := []) (w' := cz_w r q u bb) rfl ?_
      refine ez_ifF (zt_nlt (a := t) (b := 0) (by omega) (by omega)) ?_
      refine ez_go ez_h1 4 (pc' := 21) (L' := [some (.ref 3), some (.int (nI (b))), some (.int (nI (e))), some (.int (nI (e - b))), some (.int (nI (t)))]) (st' := [.int (nI (e - b)), .int (nI (t)), .int (nI (b)), .ref 3]) (w' := cz_w r q u bb) rfl ?_
      refine ez_cl ez_h1 rfl rfl ?_
      refine a4 _ q u bb _ hr (fun r9 hr9 => ?_)
      refine ez_inc ez_h1 rfl rfl (v := zd_n t) (zd_dec _) rfl ?_
      refine ez_go ez_h1 1 (pc' := 11) (L' := [some (.ref 3), some (.int (nI (b))), some (.int (nI (e))), some (.int (nI (e - b))), some (.int (zd_n t))]) (st' := []) (w' := cz_w r9 q u bb) rfl ?_
      exact b4 _ q u bb post hr9 kk
    · intro A Q U T post hA kk
      refine ez_go ez_h78 2 (pc' := bif decide ((nI (t)) < (nI 0)) then 30 else 16) (L' := [some (.ref 0), some (.int (nI (b))), some (.int (nI (e))), some (.int (nI (e - b))), some (.int (nI (t)))]) (st' := []) (w' := mz_w A Q U T) rfl ?_
      refine ez_ifF (zt_nlt (a := t) (b := 0) (by omega) (by omega)) ?_
      refine ez_go ez_h78 4 (pc' := 21) (L' := [some (.ref 0), some (.int (nI (b))), some (.int (nI (e))), some (.int (nI (e - b))), some (.int (nI (t)))]) (st' := [.int (nI (e - b)), .int (nI (t)), .int (nI (b)), .ref 0]) (w' := mz_w A Q U T) rfl ?_
      refine ez_cl ez_h78 rfl rfl ?_
      refine a5 _ Q U T _ hA (fun A9 hA9 => ?_)
      refine ez_inc ez_h78 rfl rfl (v := zd_n t) (zd_dec _) rfl ?_
      refine ez_go ez_h78 1 (pc' := 11) (L' := [some (.ref 0), some (.int (nI (b))), some (.int (nI (e))), some (.int (nI (e - b))), some (.int (zd_n t))]) (st' := []) (w' := mz_w A9 Q U T) rfl ?_
      exact b5 _ Q U T post hA9 kk
theorem zh_l2 {E : ze_T} (hE : ze_ok E) {b e : Nat} (hb : b ≤ e) (he : e ≤ ze_n E) : ∀ (t : Nat) (row : Nat → Nat) (g : zs_G), t ≤ e - b → zr_ok E row g →
    ∃ (row' : Nat → Nat) (g' : zs_G), zr_ok E row' g' ∧ zg_le E g g' ∧ zp_in row row' b e ∧ cr_H E 1 35 [some (.ref 3), some (.int (nI (b))), some (.int (nI (e))), some (.int (nI (e - b))), some (.int (zd_n t))] row g none row' g' ∧ mr_H E 78 35 [some (.ref 0), some (.int (nI (b))), some (.int (nI (e))), some (.int (nI (e - b))), some (.int (zd_n t))] row g none row' g' := by
  have hn := hE.1
  intro t
  induction t with
  | zero =>
    intro row g h1 hw
    refine ⟨row, g, hw, zg_le.rf g, zp_in.rf _ _ _, ?_, ?_⟩
    · intro r q u bb post hr kk
      refine ez_go ez_h1 3 (pc' := bif decide ((zd_n 0) < (nI (1))) then 67 else 41) (L' := [some (.ref 3), some (.int (nI (b))), some (.int (nI (e))), some (.int (nI (e - b))), some (.int (zd_n 0))]) (st' := []) (w' := cz_w r q u bb) rfl ?_
      refine ez_ifT (zd_c (by omega)) ?_
      exact ez_vret rfl ez_h1 rfl rfl (kk _ hr)
    · intro A Q U T post hA kk
      refine ez_go ez_h78 2 (pc' := bif decide ((zd_n 0) ≤ (nI 0)) then 63 else 40) (L' := [some (.ref 0), some (.int (nI (b))), some (.int (nI (e))), some (.int (nI (e - b))), some (.int (zd_n 0))]) (st' := []) (w' := mz_w A Q U T) rfl ?_
      refine ez_ifT (zd_m (by omega)) ?_
      exact ez_vret rfl ez_h78 rfl rfl (kk _ hA)
  | succ t ih =>
    intro row g h1 hw
    by_cases ht : t = 0
    · refine ⟨row, g, hw, zg_le.rf g, zp_in.rf _ _ _, ?_, ?_⟩
      · intro r q u bb post hr kk
        refine ez_go ez_h1 3 (pc' := bif decide ((zd_n (t + 1)) < (nI (1))) then 67 else 41) (L' := [some (.ref 3), some (.int (nI (b))), some (.int (nI (e))), some (.int (nI (e - b))), some (.int (zd_n (t + 1)))]) (st' := []) (w' := cz_w r q u bb) rfl ?_
        refine ez_ifT (zd_c (by omega)) ?_
        exact ez_vret rfl ez_h1 rfl rfl (kk _ hr)
      · intro A Q U T post hA kk
        refine ez_go ez_h78 2 (pc' := bif decide ((zd_n (t + 1)) ≤ (nI 0)) then 63 else 40) (L' := [some (.ref 0), some (.int (nI (b))), some (.int (nI (e))), some (.int (nI (e - b))), some (.int (zd_n (t + 1)))]) (st' := []) (w' := mz_w A Q U T) rfl ?_
        refine ez_ifT (zd_m (by omega)) ?_
        exact ez_vret rfl ez_h78 rfl rfl (kk _ hA)
    · have hw0 : zr_ok E (zs_sw row b (b + t)) g := hw.sw (by omega) (by omega)
      obtain ⟨row1, g1, a1, a2, a3, a4, a5⟩ := zh_sink hE (b := b) (m := t) (top := 0) (by omega) (by omega) hw0
      have hp0 : zp_in row (zs_sw row b (b + t)) b e := zp_in.sw row (by omega) (by omega)
      have hp1 : zp_in row row1 b e := hp0.tr (a3.wide (Nat.le_refl _) (by omega))
      obtain ⟨row', g', b1, b2, b3, b4, b5⟩ := ih row1 g1 (by omega) a1
      rw [zd_s]
      refine ⟨row', g', b1, a2.tr b2, hp1.tr b3, ?_, ?_⟩
      · intro r q u bb post hr kk
        refine ez_go ez_h1 3 (pc' := bif decide ((nI (t)) < (nI (1))) then 67 else 41) (L' := [some (.ref 3), some (.int (nI (b))), some (.int (nI (e))), some (.int (nI (e - b))), some (.int (nI (t)))]) (st' := []) (w' := cz_w r q u bb) rfl ?_
        refine ez_ifF (zt_nlt (a := t) (b := 1) (by omega) (by omega)) ?_
        refine ez_go ez_h1 6 (pc' := 50) (L' := [some (.ref 3), some (.int (nI (b))), some (.int (nI (e))), some (.int (nI (e - b))), some (.int (nI (t)))]) (st' := [.int ((nI (b)) + (nI (t))), .int (nI (b)), .ref 1]) (w' := cz_w r q u bb) rfl ?_
        refine ez_top (y := nI (b + t)) (nI_add _ _) ?_
        refine ez_cl ez_h1 rfl rfl ?_
        refine cr_swap hE hr (i := b) (j := b + t) (by omega) (by omega) q u bb (fun r4 hr4 => ?_)
        refine ez_go ez_h1 4 (pc' := 58) (L' := [some (.ref 3), some (.int (nI (b))), some (.int (nI (e))), some (.int (nI (e - b))), some (.int (nI (t)))]) (st' := [.int (nI (t)), .int (nI (0)), .int (nI (b)), .ref 3]) (w' := cz_w r4 q u bb) rfl ?_
        refine ez_cl ez_h1 rfl rfl ?_
        refine a4 _ q u bb _ hr4 (fun r9 hr9 => ?_)
        refine ez_inc ez_h1 rfl rfl (v := zd_n t) (zd_dec _) rfl ?_
        refine ez_go ez_h1 1 (pc' := 35) (L' := [some (.ref 3), some (.int (nI (b))), some (.int (nI (e))), some (.int (nI (e - b))), some (.int (zd_n t))]) (st' := []) (w' := cz_w r9 q u bb) rfl ?_
        exact b4 _ q u bb post hr9 kk
      · intro A Q U T post hA kk
        refine ez_go ez_h78 2 (pc' := bif decide ((nI (t)) ≤ (nI 0)) then 63 else 40) (L' := [some (.ref 0), some (.int (nI (b))), some (.int (nI (e))), some (.int (nI (e - b))), some (.int (nI (t)))]) (st' := []) (w' := mz_w A Q U T) rfl ?_
        refine ez_ifF (zt_nle (a := t) (b := 0) (by omega) (by omega)) ?_
        refine ez_go ez_h78 5 (pc' := 46) (L' := [some (.ref 0), some (.int (nI (b))), some (.int (nI (e))), some (.int (nI (e - b))), some (.int (nI (t)))]) (st' := [.int ((nI (b)) + (nI (t))), .int (nI (b)), .ref 0]) (w' := mz_w A Q U T) rfl ?_
        refine ez_top (y := nI (b + t)) (nI_add _ _) ?_
        refine ez_cl ez_h78 rfl rfl ?_
        refine mr_swap hE hA (i := b) (j := b + t) (by omega) (by omega) Q U T (fun A5 hA5 => ?_)
        refine ez_go ez_h78 4 (pc' := 54) (L' := [some (.ref 0), some (.int (nI (b))), some (.int (nI (e))), some (.int (nI (e - b))), some (.int (nI (t)))]) (st' := [.int (nI (t)), .int (nI (0)), .int (nI (b)), .ref 0]) (w' := mz_w A5 Q U T) rfl ?_
        refine ez_cl ez_h78 rfl rfl ?_
        refine a5 _ Q U T _ hA5 (fun A9 hA9 => ?_)
        refine ez_inc ez_h78 rfl rfl (v := zd_n t) (zd_dec _) rfl ?_
        refine ez_go ez_h78 1 (pc' := 35) (L' := [some (.ref 0), some (.int (nI (b))), some (.int (nI (e))), some (.int (nI (e - b))), some (.int (zd_n t))]) (st' := []) (w' := mz_w A9 Q U T) rfl ?_
        exact b5 _ Q U T post hA9 kk
/-- HEAP in b .. e -/
theorem zh_heap {E : ze_T} (hE : ze_ok E) {b e : Nat} (hb : b ≤ e) (he : e ≤ ze_n E) {row : Nat → Nat} {g : zs_G} (hw : zr_ok E row g) :
    ∃ (row' : Nat → Nat) (g' : zs_G), zr_ok E row' g' ∧ zg_le E g g' ∧ zp_in row row' b e ∧
      cr_M E 1 [.ref 3, .int (nI b), .int (nI e)] row g none row' g' ∧ mr_M E 78 [.ref 0, .int (nI b), .int (nI e)] row g none row' g' := by
  have hn := hE.1
  obtain ⟨row1, g1, a1, a2, a3, a4, a5⟩ := zh_l1 hE hb he ((e - b) / 2) row g (Nat.le_refl _) hw
  obtain ⟨row', g', b1, b2, b3, b4, b5⟩ := zh_l2 hE hb he (e - b) row1 g1 (Nat.le_refl _) a1
  refine ⟨row', g', b1, a2.tr b2, a3.tr b3, ?_, ?_⟩
  · refine cr_H.m (L := [some (.ref 3), some (.int (nI (b))), some (.int (nI (e))), none, none]) (fun r q u bb post hr kk => ?_) rfl rfl rfl
    refine ez_go ez_h1 3 (pc' := 3) (L' := [some (.ref 3), some (.int (nI (b))), some (.int (nI (e))), none, none]) (st' := [.int ((nI (e)) - (nI (b)))]) (w' := cz_w r q u bb) rfl ?_
    refine ez_top (y := nI (e - b)) (pk_sub (by omega)) ?_
    refine ez_go ez_h1 4 (pc' := 7) (L' := [some (.ref 3), some (.int (nI (b))), some (.int (nI (e))), some (.int (nI (e - b))), none]) (st' := [.int ((nI (e - b)) / (nI (2)))]) (w' := cz_w r q u bb) rfl ?_
    refine ez_top (y := nI ((e - b) / 2)) (pk_div (by omega) (by omega) (by omega)) ?_
    refine ez_go ez_h1 3 (pc' := 11) (L' := [some (.ref 3), some (.int (nI (b))), some (.int (nI (e))), some (.int (nI (e - b))), some (.int (zd_n (((e - b) / 2))))]) (st' := []) (w' := cz_w r q u bb) rfl ?_
    refine a4 _ q u bb post hr (fun r8 hr8 => ?_)
    refine ez_go ez_h1 4 (pc' := 35) (L' := [some (.ref 3), some (.int (nI (b))), some (.int (nI (e))), some (.int (nI (e - b))), some (.int (zd_n ((e - b))))]) (st' := []) (w' := cz_w r8 q u bb) rfl ?_
    exact b4 _ q u bb post hr8 kk
  · refine mr_H.m (L := [some (.ref 0), some (.int (nI (b))), some (.int (nI (e))), none, none]) (fun A Q U T post hA kk => ?_) rfl rfl rfl
    refine ez_go ez_h78 3 (pc' := 3) (L' := [some (.ref 0), some (.int (nI (b))), some (.int (nI (e))), none, none]) (st' := [.int ((nI (e)) - (nI (b)))]) (w' := mz_w A Q U T) rfl ?_
    refine ez_top (y := nI (e - b)) (pk_sub (by omega)) ?_
    refine ez_go ez_h78 4 (pc' := 7) (L' := [some (.ref 0), some (.int (nI (b))), some (.int (nI (e))), some (.int (nI (e - b))), none]) (st' := [.int ((nI (e - b)) / (nI (2)))]) (w' := mz_w A Q U T) rfl ?_
    refine ez_top (y := nI ((e - b) / 2)) (pk_div (by omega) (by omega) (by omega)) ?_
    refine ez_go ez_h78 3 (pc' := 11) (L' := [some (.ref 0), some (.int (nI (b))), some (.int (nI (e))), some (.int (nI (e - b))), some (.int (zd_n (((e - b) / 2))))]) (st' := []) (w' := mz_w A Q U T) rfl ?_
    refine a5 _ Q U T post hA (fun A8 hA8 => ?_)
    refine ez_go ez_h78 4 (pc' := 35) (L' := [some (.ref 0), some (.int (nI (b))), some (.int (nI (e))), some (.int (nI (e - b))), some (.int (zd_n ((e - b))))]) (st' := []) (w' := mz_w A8 Q U T) rfl ?_
    exact b5 _ Q U T post hA8 kk
end
section
/-! ===== static calls; Math.min, Math.max ===== -/
def ez_cas (mi : Nat) (k : Nat) (st : List Value) : Option (Nat × List Value × List Value) := match ez_ms[mi]? with
  | none => none
  | some M => match ez_at ez_mm M.1 k with
    | some _ => none
    | none => match ez_at ez_sc M.1 k with
      | none => none
      | some j => match ez_ms[j]? with
        | none => none
        | some N =>
          bif Nat.beq M.1 N.1 && (ez_fit M N (st.drop N.2.2.2.2.2.1) && (Nat.beq (st.take N.2.2.2.2.2.1).length N.2.2.2.2.2.1 && Nat.beq (ez_en ((st.take N.2.2.2.2.2.1).reverse) N.2.2.2.1).length N.2.2.2.1)) then
            some (j, (st.take N.2.2.2.2.2.1).reverse, st.drop N.2.2.2.2.2.1)
          else none
theorem ez_cs {mi o pc k : Nat} {t : List (Nat × Instr × Nat)} {L : ez_L} {st : List Value} {w : ez_W} {post : Option Value → ez_W → Prop} {j : Nat} {As rest : List Value} (hm : ez_mh mi o t) (hi : ez_lk t pc = some (.invokestatic k, 3)) (hc : ez_cas mi k st = some (j, As, rest)) (kk : ez_m j As w (fun r w1 => ez_E mi (pc + 3) L (r.toList ++ rest) w1 post)) : ez_E mi pc L st w post := by
  have hi' := hm.i hi
  unfold ez_cas at hc
  split at hc
  · cases hc
  · rename_i M hM
    split at hc
    · cases hc
    · rename_i hmm
      split at hc
      · cases hc
      · rename_i j1 hj
        split at hc
        · cases hc
        · rename_i N hN
          cases hb : (Nat.beq M.1 N.1 && (ez_fit M N (st.drop N.2.2.2.2.2.1) && (Nat.beq (st.take N.2.2.2.2.2.1).length N.2.2.2.2.2.1 && Nat.beq (ez_en ((st.take N.2.2.2.2.2.1).reverse) N.2.2.2.1).length N.2.2.2.1))) with
          | false => rw [hb] at hc; cases hc
          | true =>
            rw [hb] at hc
            cases hc
            obtain ⟨N', g1, g2, n1, r1, w1, e1, n2, r2, w2, e2, e3⟩ := kk
            have hNN : N' = N := Option.some.inj (g1.symm.trans hN)
            subst hNN
            refine ⟨max n1 n2 + 1, r2, w2, ?_, e3⟩
            unfold ez_ev
            rw [hM]
            dsimp only
            rw [hi']
            dsimp only
            rw [show ez_ok (.invokestatic k) 3 = true from rfl]
            simp only [cond_true]
            rw [hmm]
            dsimp only
            rw [hj]
            dsimp only
            rw [hN]
            dsimp only
            rw [hb]
            simp only [cond_true]
            rw [ez_mono n1 (max n1 n2) _ _ _ _ _ _ _ (Nat.le_max_left _ _) (ez_le_rf _) e1]
            exact ez_mono n2 (max n1 n2) _ _ _ _ _ _ _ (Nat.le_max_right _ _) (ez_le_rf _) e2
def ez_mck (mi k : Nat) (rest : List Value) : Option Nat := match ez_ms[mi]? with
  | none => none
  | some M => match ez_at ez_mm M.1 k with
    | none => none
    | some f => bif Nat.ble 1 M.2.2.2.2.2.2.1 && (Nat.ble ((rest.map fun v => v.category).sum + 13) M.2.2.2.2.2.2.2) then some f else none
theorem ez_mth {mi o pc k f : Nat} {t : List (Nat × Instr × Nat)} {L : ez_L} {rest : List Value} {w : ez_W} {post : Option Value → ez_W → Prop} {x y : Int32} (hm : ez_mh mi o t) (hi : ez_lk t pc = some (.invokestatic k, 3)) (hc : ez_mck mi k rest = some f) (kk : ez_E mi (pc + 3) L (.int (bif Nat.beq f 0 then (if y < x then y else x) else (if x < y then y else x)) :: rest) w post) : ez_E mi pc L (.int y :: .int x :: rest) w post := by
  have hi' := hm.i hi
  unfold ez_mck at hc
  split at hc
  · cases hc
  · rename_i M hM
    split at hc
    · cases hc
    · rename_i f1 hf
      cases hb : (Nat.ble 1 M.2.2.2.2.2.2.1 && (Nat.ble ((rest.map fun v => v.category).sum + 13) M.2.2.2.2.2.2.2)) with
      | false => rw [hb] at hc; cases hc
      | true =>
        rw [hb] at hc
        cases hc
        obtain ⟨n, r, w', e1, e2⟩ := kk
        refine ⟨n + 1, r, w', ?_, e2⟩
        unfold ez_ev
        rw [hM]
        dsimp only
        rw [hi']
        dsimp only
        rw [show ez_ok (.invokestatic k) 3 = true from rfl]
        simp only [cond_true]
        rw [hf]
        dsimp only
        rw [hb]
        simp only [cond_true]
        exact e1
theorem ez_min {mi o pc k : Nat} {t : List (Nat × Instr × Nat)} {L : ez_L} {rest : List Value} {w : ez_W} {post : Option Value → ez_W → Prop} {a b : Nat} (hm : ez_mh mi o t) (hi : ez_lk t pc = some (.invokestatic k, 3)) (hc : ez_mck mi k rest = some 0) (ha : a < 2 ^ 31) (hb : b < 2 ^ 31) (kk : ez_E mi (pc + 3) L (.int (nI (min a b)) :: rest) w post) : ez_E mi pc L (.int (nI b) :: .int (nI a) :: rest) w post := by
  refine ez_mth hm hi hc ?_
  have e : (bif Nat.beq 0 0 then (if nI b < nI a then nI b else nI a) else (if nI a < nI b then nI b else nI a)) = nI (min a b) := by
    show (if nI b < nI a then nI b else nI a) = _
    by_cases h : b < a
    · rw [if_pos (nI_lt h ha), Nat.min_eq_right (by omega)]
    · rw [if_neg (nI_nlt (by omega) hb), Nat.min_eq_left (by omega)]
  rw [e]
  exact kk
theorem ez_max {mi o pc k : Nat} {t : List (Nat × Instr × Nat)} {L : ez_L} {rest : List Value} {w : ez_W} {post : Option Value → ez_W → Prop} {a b : Nat} (hm : ez_mh mi o t) (hi : ez_lk t pc = some (.invokestatic k, 3)) (hc : ez_mck mi k rest = some 1) (ha : a < 2 ^ 31) (hb : b < 2 ^ 31) (kk : ez_E mi (pc + 3) L (.int (nI (max a b)) :: rest) w post) : ez_E mi pc L (.int (nI b) :: .int (nI a) :: rest) w post := by
  refine ez_mth hm hi hc ?_
  have e : (bif Nat.beq 1 0 then (if nI b < nI a then nI b else nI a) else (if nI a < nI b then nI b else nI a)) = nI (max a b) := by
    show (if nI a < nI b then nI b else nI a) = _
    by_cases h : a < b
    · rw [if_pos (nI_lt h hb), Nat.max_eq_right (by omega)]
    · rw [if_neg (nI_nlt (by omega) ha), Nat.max_eq_left (by omega)]
  rw [e]
  exact kk
end
section
theorem zt_mv {row : Nat → Nat} {n j c x : Nat} (hj : j < n) (hc : c < n) (hne : c ≠ j) : zp_in (va_up row j x) (va_up (va_up row j (row c)) c x) 0 n := by
  have h := zh_mv (row := row) (b := 0) (m := n) (i := j) (c := c) (x := x) hj hc hne
  rw [Nat.zero_add, Nat.zero_add, Nat.zero_add] at h
  exact h
theorem zt_down {E : ze_T} (hE : ze_ok E) {gp x : Nat} (hx : x < ze_n E) (hg : 1 ≤ gp) (hg2 : gp ≤ 301) : ∀ (j : Nat) (row : Nat → Nat) (g : zs_G), j < ze_n E → zr_ok E row g →
    ∃ (row' : Nat → Nat) (g' : zs_G) (j' : Nat), j' < ze_n E ∧ zr_ok E row' g' ∧ zg_le E g g' ∧ zp_in (va_up row j x) (va_up row' j' x) 0 (ze_n E) ∧
      (∀ pl : Nat, cr_G E 57 12 [some (.ref 6), some (.int (nI (pl))), some (.int (nI (gp))), some (.int (nI (ze_pi E (x)))), some (.int (nI (j)))] row g 69 [some (.ref 6), some (.int (nI (pl))), some (.int (nI (gp))), some (.int (nI (ze_pi E (x)))), some (.int (nI (j')))] row' g') ∧ (∀ k pl : Nat, mr_G E 96 34 [some (.ref 0), some (.int (nI (k))), some (.int (nI (gp))), some (.int (nI (pl))), some (.int (nI (x))), some (.int (nI (j)))] row g 83 [some (.ref 0), some (.int (nI (k))), some (.int (nI (gp))), some (.int (nI (pl))), some (.int (nI (x))), some (.int (nI (j')))] row' g') := by
  have hn := hE.1
  intro j
  induction j using Nat.strongRecOn with
  | _ j ih =>
    intro row g h1 hw
    by_cases hj : j < gp
    · refine ⟨row, g, j, h1, hw, zg_le.rf g, zp_in.rf _ _ _, fun pl => ?_, fun k pl => ?_⟩
      · intro r q u bb post hr kk
        refine ez_go ez_h57 3 (pc' := bif decide ((nI (j)) < (nI (gp))) then 69 else 18) (L' := [some (.ref 6), some (.int (nI (pl))), some (.int (nI (gp))), some (.int (nI (ze_pi E (x)))), some (.int (nI (j)))]) (st' := []) (w' := cz_w r q u bb) rfl ?_
        refine ez_ifT (zt_lt (a := j) (b := gp) (by omega) (by omega)) ?_
        exact kk _ hr
      · intro A Q U T post hA kk
        refine ez_go ez_h96 3 (pc' := bif decide ((nI (j)) < (nI (gp))) then 83 else 40) (L' := [some (.ref 0), some (.int (nI (k))), some (.int (nI (gp))), some (.int (nI (pl))), some (.int (nI (x))), some (.int (nI (j)))]) (st' := []) (w' := mz_w A Q U T) rfl ?_
        refine ez_ifT (zt_lt (a := j) (b := gp) (by omega) (by omega)) ?_
        exact kk _ hA
    · have hw1 := hw.go hx (hw.1 (j - gp) (by omega))
      have hg1 : zg_le E g _ := zg_le.go hw x (row (j - gp))
      cases hb : zs_b (ze_md E) (ze_ka E) x (row (j - gp)) g with
      | false =>
        refine ⟨row, _, j, h1, hw1, hg1, zp_in.rf _ _ _, fun pl => ?_, fun k pl => ?_⟩
        · intro r q u bb post hr kk
          refine ez_go ez_h57 3 (pc' := bif decide ((nI (j)) < (nI (gp))) then 69 else 18) (L' := [some (.ref 6), some (.int (nI (pl))), some (.int (nI (gp))), some (.int (nI (ze_pi E (x)))), some (.int (nI (j)))]) (st' := []) (w' := cz_w r q u bb) rfl ?_
          refine ez_ifF (zt_nlt (a := j) (b := gp) (by omega) (by omega)) ?_
          refine ez_go ez_h57 8 (pc' := 31) (L' := [some (.ref 6), some (.int (nI (pl))), some (.int (nI (gp))), some (.int (nI (ze_pi E (x)))), some (.int (nI (j)))]) (st' := [.int ((nI (j)) - (nI (gp))), .ref 1, .int (nI (ze_pi E (x))), .ref 1]) (w' := cz_w r q u bb) rfl ?_
          refine ez_top (y := nI (j - gp)) (pk_sub (by omega)) ?_
          refine ez_cl ez_h57 rfl rfl ?_
          refine cr_at hE hr (k := j - gp) (by omega) q u bb ?_
          refine ez_cl ez_h57 rfl rfl ?_
          refine cr_less hE hr hw.2 (x := x) (y := row (j - gp)) hx (hw.1 (j - gp) (by omega)) q u bb (fun r4 hr4 => ?_)
          refine ez_go ez_h57 1 (pc' := bif decide ((zs_z (zs_b (ze_md E) (ze_ka E) x (row (j - gp)) g)) = 0) then 69 else 40) (L' := [some (.ref 6), some (.int (nI (pl))), some (.int (nI (gp))), some (.int (nI (ze_pi E (x)))), some (.int (nI (j)))]) (st' := []) (w' := cz_w r4 q u bb) rfl ?_
          refine ez_ifT (zz_f hb) ?_
          exact kk _ hr4
        · intro A Q U T post hA kk
          refine ez_go ez_h96 3 (pc' := bif decide ((nI (j)) < (nI (gp))) then 83 else 40) (L' := [some (.ref 0), some (.int (nI (k))), some (.int (nI (gp))), some (.int (nI (pl))), some (.int (nI (x))), some (.int (nI (j)))]) (st' := []) (w' := mz_w A Q U T) rfl ?_
          refine ez_ifF (zt_nlt (a := j) (b := gp) (by omega) (by omega)) ?_
          refine ez_go ez_h96 7 (pc' := 51) (L' := [some (.ref 0), some (.int (nI (k))), some (.int (nI (gp))), some (.int (nI (pl))), some (.int (nI (x))), some (.int (nI (j)))]) (st' := [.int ((nI (j)) - (nI (gp))), .ref 4, .int (nI (x)), .ref 0]) (w' := mz_w A Q U T) rfl ?_
          refine ez_top (y := nI (j - gp)) (pk_sub (by omega)) ?_
          refine mr_ld ez_h96 rfl hE hA (k := j - gp) (by omega) ?_
          refine ez_cl ez_h96 rfl rfl ?_
          refine mr_less hE hA hw.2 (x := x) (y := row (j - gp)) hx (hw.1 (j - gp) (by omega)) Q U T (fun A5 hA5 => ?_)
          refine ez_go ez_h96 1 (pc' := bif decide ((zs_z (zs_b (ze_md E) (ze_ka E) x (row (j - gp)) g)) = 0) then 83 else 58) (L' := [some (.ref 0), some (.int (nI (k))), some (.int (nI (gp))), some (.int (nI (pl))), some (.int (nI (x))), some (.int (nI (j)))]) (st' := []) (w' := mz_w A5 Q U T) rfl ?_
          refine ez_ifT (zz_f hb) ?_
          exact kk _ hA5
      | true =>
        obtain ⟨row', g', j', a1, a2, a3, a4, a5, a6⟩ := ih (j - gp) (by omega) (va_up row j (row (j - gp))) _ (by omega) (hw1.set (hw.1 (j - gp) (by omega)))
        refine ⟨row', g', j', a1, a2, hg1.tr a3, (zt_mv h1 (by omega) (by omega)).tr a4, fun pl => ?_, fun k pl => ?_⟩
        · intro r q u bb post hr kk
          refine ez_go ez_h57 3 (pc' := bif decide ((nI (j)) < (nI (gp))) then 69 else 18) (L' := [some (.ref 6), some (.int (nI (pl))), some (.int (nI (gp))), some (.int (nI (ze_pi E (x)))), some (.int (nI (j)))]) (st' := []) (w' := cz_w r q u bb) rfl ?_
          refine ez_ifF (zt_nlt (a := j) (b := gp) (by omega) (by omega)) ?_
          refine ez_go ez_h57 8 (pc' := 31) (L' := [some (.ref 6), some (.int (nI (pl))), some (.int (nI (gp))), some (.int (nI (ze_pi E (x)))), some (.int (nI (j)))]) (st' := [.int ((nI (j)) - (nI (gp))), .ref 1, .int (nI (ze_pi E (x))), .ref 1]) (w' := cz_w r q u bb) rfl ?_
          refine ez_top (y := nI (j - gp)) (pk_sub (by omega)) ?_
          refine ez_cl ez_h57 rfl rfl ?_
          refine cr_at hE hr (k := j - gp) (by omega) q u bb ?_
          refine ez_cl ez_h57 rfl rfl ?_
          refine cr_less hE hr hw.2 (x := x) (y := row (j - gp)) hx (hw.1 (j - gp) (by omega)) q u bb (fun r6 hr6 => ?_)
          refine ez_go ez_h57 1 (pc' := bif decide ((zs_z (zs_b (ze_md E) (ze_ka E) x (row (j - gp)) g)) = 0) then 69 else 40) (L' := [some (.ref 6), some (.int (nI (pl))), some (.int (nI (gp))), some (.int (nI (ze_pi E (x)))), some (.int (nI (j)))]) (st' := []) (w' := cz_w r6 q u bb) rfl ?_
          refine ez_ifF (zz_t hb) ?_
          refine ez_go ez_h57 8 (pc' := 54) (L' := [some (.ref 6), some (.int (nI (pl))), some (.int (nI (gp))), some (.int (nI (ze_pi E (x)))), some (.int (nI (j)))]) (st' := [.int ((nI (j)) - (nI (gp))), .ref 1, .int (nI (j)), .ref 1]) (w' := cz_w r6 q u bb) rfl ?_
          refine ez_top (y := nI (j - gp)) (pk_sub (by omega)) ?_
          refine ez_cl ez_h57 rfl rfl ?_
          refine cr_at hE hr6 (k := j - gp) (by omega) q u bb ?_
          refine ez_cl ez_h57 rfl rfl ?_
          refine cr_set hE hr6 (k := j) (x := row (j - gp)) (by omega) q u bb (fun r7 hr7 => ?_)
          refine ez_go ez_h57 3 (pc' := 64) (L' := [some (.ref 6), some (.int (nI (pl))), some (.int (nI (gp))), some (.int (nI (ze_pi E (x)))), some (.int (nI (j)))]) (st' := [.int ((nI (j)) - (nI (gp)))]) (w' := cz_w r7 q u bb) rfl ?_
          refine ez_top (y := nI (j - gp)) (pk_sub (by omega)) ?_
          refine ez_go ez_h57 2 (pc' := 12) (L' := [some (.ref 6), some (.int (nI (pl))), some (.int (nI (gp))), some (.int (nI (ze_pi E (x)))), some (.int (nI (j - gp)))]) (st' := []) (w' := cz_w r7 q u bb) rfl ?_
          exact a5 pl _ q u bb post hr7 kk
        · intro A Q U T post hA kk
          refine ez_go ez_h96 3 (pc' := bif decide ((nI (j)) < (nI (gp))) then 83 else 40) (L' := [some (.ref 0), some (.int (nI (k))), some (.int (nI (gp))), some (.int (nI (pl))), some (.int (nI (x))), some (.int (nI (j)))]) (st' := []) (w' := mz_w A Q U T) rfl ?_
          refine ez_ifF (zt_nlt (a := j) (b := gp) (by omega) (by omega)) ?_
          refine ez_go ez_h96 7 (pc' := 51) (L' := [some (.ref 0), some (.int (nI (k))), some (.int (nI (gp))), some (.int (nI (pl))), some (.int (nI (x))), some (.int (nI (j)))]) (st' := [.int ((nI (j)) - (nI (gp))), .ref 4, .int (nI (x)), .ref 0]) (w' := mz_w A Q U T) rfl ?_
          refine ez_top (y := nI (j - gp)) (pk_sub (by omega)) ?_
          refine mr_ld ez_h96 rfl hE hA (k := j - gp) (by omega) ?_
          refine ez_cl ez_h96 rfl rfl ?_
          refine mr_less hE hA hw.2 (x := x) (y := row (j - gp)) hx (hw.1 (j - gp) (by omega)) Q U T (fun A8 hA8 => ?_)
          refine ez_go ez_h96 1 (pc' := bif decide ((zs_z (zs_b (ze_md E) (ze_ka E) x (row (j - gp)) g)) = 0) then 83 else 58) (L' := [some (.ref 0), some (.int (nI (k))), some (.int (nI (gp))), some (.int (nI (pl))), some (.int (nI (x))), some (.int (nI (j)))]) (st' := []) (w' := mz_w A8 Q U T) rfl ?_
          refine ez_ifF (zz_t hb) ?_
          refine ez_go ez_h96 8 (pc' := 72) (L' := [some (.ref 0), some (.int (nI (k))), some (.int (nI (gp))), some (.int (nI (pl))), some (.int (nI (x))), some (.int (nI (j)))]) (st' := [.int ((nI (j)) - (nI (gp))), .ref 4, .int (nI (j)), .ref 4]) (w' := mz_w A8 Q U T) rfl ?_
          refine ez_top (y := nI (j - gp)) (pk_sub (by omega)) ?_
          refine mr_ld ez_h96 rfl hE hA8 (k := j - gp) (by omega) ?_
          refine mr_st ez_h96 rfl hE hA8 (k := j) (x := row (j - gp)) (by omega) (fun A9 hA9 => ?_)
          refine ez_go ez_h96 3 (pc' := 78) (L' := [some (.ref 0), some (.int (nI (k))), some (.int (nI (gp))), some (.int (nI (pl))), some (.int (nI (x))), some (.int (nI (j)))]) (st' := [.int ((nI (j)) - (nI (gp)))]) (w' := mz_w A9 Q U T) rfl ?_
          refine ez_top (y := nI (j - gp)) (pk_sub (by omega)) ?_
          refine ez_go ez_h96 2 (pc' := 34) (L' := [some (.ref 0), some (.int (nI (k))), some (.int (nI (gp))), some (.int (nI (pl))), some (.int (nI (x))), some (.int (nI (j - gp)))]) (st' := []) (w' := mz_w A9 Q U T) rfl ?_
          exact a6 k pl _ Q U T post hA9 kk
theorem zt_one {E : ze_T} (hE : ze_ok E) {gp pl : Nat} (hg : 1 ≤ gp) (hg2 : gp ≤ 301) (hp : pl < ze_n E) {row : Nat → Nat} {g : zs_G} (hw : zr_ok E row g) :
    ∃ (row' : Nat → Nat) (g' : zs_G), zr_ok E row' g' ∧ zg_le E g g' ∧ zp_in row row' 0 (ze_n E) ∧
      cr_M E 57 [.ref 6, .int (nI pl), .int (nI gp)] row g none row' g' ∧ (∀ k : Nat, mr_G E 96 23 [some (.ref 0), some (.int (nI (k))), some (.int (nI (gp))), some (.int (nI (pl))), none, none] row g 92 [some (.ref 0), some (.int (nI (k))), some (.int (nI (gp))), some (.int (nI (pl))), none, none] row' g') := by
  have hn := hE.1
  have hx : row pl < ze_n E := hw.1 _ hp
  obtain ⟨row', g', j', a1, a2, a3, a4, a5, a6⟩ := zt_down hE hx hg hg2 pl row g hp hw
  rw [va_up_id] at a4
  refine ⟨va_up row' j' (row pl), g', a2.set hx, a3, a4, ?_, fun k => ?_⟩
  · refine cr_H.m (L := [some (.ref 6), some (.int (nI (pl))), some (.int (nI (gp))), none, none]) (fun r q u bb post hr kk => ?_) rfl rfl rfl
    refine ez_go ez_h57 3 (pc' := 5) (L' := [some (.ref 6), some (.int (nI (pl))), some (.int (nI (gp))), none, none]) (st' := [.int (nI (pl)), .ref 1]) (w' := cz_w r q u bb) rfl ?_
    refine ez_cl ez_h57 rfl rfl ?_
    refine cr_at hE hr (k := pl) (by omega) q u bb ?_
    refine ez_go ez_h57 3 (pc' := 12) (L' := [some (.ref 6), some (.int (nI (pl))), some (.int (nI (gp))), some (.int (nI (ze_pi E (row pl)))), some (.int (nI (pl)))]) (st' := []) (w' := cz_w r q u bb) rfl ?_
    refine a5 pl _ q u bb post hr (fun r8 hr8 => ?_)
    refine ez_go ez_h57 4 (pc' := 76) (L' := [some (.ref 6), some (.int (nI (pl))), some (.int (nI (gp))), some (.int (nI (ze_pi E (row pl)))), some (.int (nI (j')))]) (st' := [.int (nI (ze_pi E (row pl))), .int (nI (j')), .ref 1]) (w' := cz_w r8 q u bb) rfl ?_
    refine ez_cl ez_h57 rfl rfl ?_
    refine cr_set hE hr8 (k := j') (x := row pl) (by omega) q u bb (fun r10 hr10 => ?_)
    exact ez_vret rfl ez_h57 rfl rfl (kk _ hr10)
  · intro A Q U T post hA kk
    refine ez_go ez_h96 3 (pc' := 28) (L' := [some (.ref 0), some (.int (nI (k))), some (.int (nI (gp))), some (.int (nI (pl))), none, none]) (st' := [.int (nI (pl)), .ref 4]) (w' := mz_w A Q U T) rfl ?_
    refine mr_ld ez_h96 rfl hE hA (k := pl) (by omega) ?_
    refine ez_go ez_h96 3 (pc' := 34) (L' := [some (.ref 0), some (.int (nI (k))), some (.int (nI (gp))), some (.int (nI (pl))), some (.int (nI (row pl))), some (.int (nI (pl)))]) (st' := []) (w' := mz_w A Q U T) rfl ?_
    refine a6 k pl _ Q U T post hA (fun A8 hA8 => ?_)
    refine ez_go ez_h96 4 (pc' := 91) (L' := [some (.ref 0), some (.int (nI (k))), some (.int (nI (gp))), some (.int (nI (pl))), some (.int (nI (row pl))), some (.int (nI (j')))]) (st' := [.int (nI (row pl)), .int (nI (j')), .ref 4]) (w' := mz_w A8 Q U T) rfl ?_
    refine mr_st ez_h96 rfl hE hA8 (k := j') (x := row pl) (by omega) (fun A11 hA11 => ?_)
    exact ez_E.le (ez_lc (ez_lc (ez_lc (ez_lc (ez_ln (ez_ln ez_l0)))))) (kk _ hA11)
/-- the class's pass with a gap: stepDown for each place from i on -/
def zt_P (E : ze_T) (gp : Nat) : Nat → Nat → (Nat → Nat) → zs_G → (Nat → Nat) → zs_G → Prop
  | 0, i, row, g, row', g' => ze_n E ≤ i ∧ row' = row ∧ g' = g
  | m + 1, i, row, g, row', g' => (ze_n E ≤ i ∧ row' = row ∧ g' = g) ∨ (i < ze_n E ∧ ∃ (row1 : Nat → Nat) (g1 : zs_G), cr_M E 57 [.ref 6, .int (nI i), .int (nI gp)] row g none row1 g1 ∧ zt_P E gp m (i + 1) row1 g1 row' g')
theorem zt_pass {E : ze_T} (hE : ze_ok E) {gp : Nat} (hg : 1 ≤ gp) (hg2 : gp ≤ 301) : ∀ (m i : Nat) (row : Nat → Nat) (g : zs_G), ze_n E ≤ i + m → i ≤ 700 → zr_ok E row g →
    ∃ (row' : Nat → Nat) (g' : zs_G), zr_ok E row' g' ∧ zg_le E g g' ∧ zp_in row row' 0 (ze_n E) ∧ zt_P E gp m i row g row' g' ∧
      (∀ k : Nat, mr_G E 96 15 [some (.ref 0), some (.int (nI (k))), some (.int (nI (gp))), some (.int (nI (i))), none, none] row g 98 [some (.ref 0), some (.int (nI (k))), none, none, none, none] row' g') := by
  have hn := hE.1
  intro m
  induction m with
  | zero =>
    intro i row g h1 h2 hw
    refine ⟨row, g, hw, zg_le.rf g, zp_in.rf _ _ _, ⟨h1, rfl, rfl⟩, fun k => ?_⟩
    intro A Q U T post hA kk
    refine ez_go ez_h96 3 (pc' := 20) (L' := [some (.ref 0), some (.int (nI (k))), some (.int (nI (gp))), some (.int (nI (i))), none, none]) (st' := [.int (A.1), .int (nI (i))]) (w' := mz_w A Q U T) rfl ?_
    refine ez_top (y := nI (ze_n E)) (hA.1) ?_
    refine ez_go ez_h96 1 (pc' := bif decide ((nI (ze_n E)) ≤ (nI (i))) then 98 else 23) (L' := [some (.ref 0), some (.int (nI (k))), some (.int (nI (gp))), some (.int (nI (i))), none, none]) (st' := []) (w' := mz_w A Q U T) rfl ?_
    refine ez_ifT (zt_le (a := ze_n E) (b := i) (by omega) (by omega)) ?_
    exact ez_E.le (ez_lc (ez_lc (ez_ln (ez_ln (ez_lc (ez_lc ez_l0)))))) (kk _ hA)
  | succ m ih =>
    intro i row g h1 h2 hw
    by_cases hi : ze_n E ≤ i
    · refine ⟨row, g, hw, zg_le.rf g, zp_in.rf _ _ _, Or.inl ⟨hi, rfl, rfl⟩, fun k => ?_⟩
      intro A Q U T post hA kk
      refine ez_go ez_h96 3 (pc' := 20) (L' := [some (.ref 0), some (.int (nI (k))), some (.int (nI (gp))), some (.int (nI (i))), none, none]) (st' := [.int (A.1), .int (nI (i))]) (w' := mz_w A Q U T) rfl ?_
      refine ez_top (y := nI (ze_n E)) (hA.1) ?_
      refine ez_go ez_h96 1 (pc' := bif decide ((nI (ze_n E)) ≤ (nI (i))) then 98 else 23) (L' := [some (.ref 0), some (.int (nI (k))), some (.int (nI (gp))), some (.int (nI (i))), none, none]) (st' := []) (w' := mz_w A Q U T) rfl ?_
      refine ez_ifT (zt_le (a := ze_n E) (b := i) (by omega) (by omega)) ?_
      exact ez_E.le (ez_lc (ez_lc (ez_ln (ez_ln (ez_lc (ez_lc ez_l0)))))) (kk _ hA)
    · obtain ⟨row1, g1, a1, a2, a3, a4, a5⟩ := zt_one hE hg hg2 (pl := i) (by omega) hw
      obtain ⟨row', g', b1, b2, b3, b4, b5⟩ := ih (i + 1) row1 g1 (by omega) (by omega) a1
      refine ⟨row', g', b1, a2.tr b2, a3.tr b3, Or.inr ⟨by omega, row1, g1, a4, b4⟩, fun k => ?_⟩
      intro A Q U T post hA kk
      refine ez_go ez_h96 3 (pc' := 20) (L' := [some (.ref 0), some (.int (nI (k))), some (.int (nI (gp))), some (.int (nI (i))), none, none]) (st' := [.int (A.1), .int (nI (i))]) (w' := mz_w A Q U T) rfl ?_
      refine ez_top (y := nI (ze_n E)) (hA.1) ?_
      refine ez_go ez_h96 1 (pc' := bif decide ((nI (ze_n E)) ≤ (nI (i))) then 98 else 23) (L' := [some (.ref 0), some (.int (nI (k))), some (.int (nI (gp))), some (.int (nI (i))), none, none]) (st' := []) (w' := mz_w A Q U T) rfl ?_
      refine ez_ifF (zt_nle (a := ze_n E) (b := i) (by omega) (by omega)) ?_
      refine a5 k _ Q U T post hA (fun A9 hA9 => ?_)
      refine ez_inc ez_h96 rfl rfl (v := nI (i + 1)) (zi_1 _) rfl ?_
      refine ez_go ez_h96 1 (pc' := 15) (L' := [some (.ref 0), some (.int (nI (k))), some (.int (nI (gp))), some (.int (nI (i + 1))), none, none]) (st' := []) (w' := mz_w A9 Q U T) rfl ?_
      exact b5 k _ Q U T post hA9 kk
theorem lf_gap0 (A : mz_A) (Q : mz_Q) (U : mz_U) (T : mz_T) {post : Option Value → ez_W → Prop} (h : post (some (.int (nI 301))) (mz_w A Q U T)) : ez_m 95 [.int (nI 0)] (mz_w A Q U T) post := by
  refine ez_m.of (L := [some (.int (nI 0))]) rfl rfl rfl ?_
  refine ez_go ez_h95 2 (pc' := bif decide (¬ (nI (0)) = 0) then 10 else 4) (L' := [some (.int (nI (0)))]) (st' := []) (w' := mz_w A Q U T) rfl ?_
  refine ez_ifF (by decide) ?_
  refine ez_go ez_h95 2 (pc' := 61) (L' := [some (.int (nI (0)))]) (st' := [.int (nI (301))]) (w' := mz_w A Q U T) rfl ?_
  exact ez_iret rfl ez_h95 rfl rfl h
theorem lf_gap1 (A : mz_A) (Q : mz_Q) (U : mz_U) (T : mz_T) {post : Option Value → ez_W → Prop} (h : post (some (.int (nI 132))) (mz_w A Q U T)) : ez_m 95 [.int (nI 1)] (mz_w A Q U T) post := by
  refine ez_m.of (L := [some (.int (nI 1))]) rfl rfl rfl ?_
  refine ez_go ez_h95 2 (pc' := bif decide (¬ (nI (1)) = 0) then 10 else 4) (L' := [some (.int (nI (1)))]) (st' := []) (w' := mz_w A Q U T) rfl ?_
  refine ez_ifT (by decide) ?_
  refine ez_go ez_h95 3 (pc' := bif decide (¬ (nI (1)) = (nI (1))) then 21 else 15) (L' := [some (.int (nI (1)))]) (st' := []) (w' := mz_w A Q U T) rfl ?_
  refine ez_ifF (by decide) ?_
  refine ez_go ez_h95 2 (pc' := 61) (L' := [some (.int (nI (1)))]) (st' := [.int (nI (132))]) (w' := mz_w A Q U T) rfl ?_
  exact ez_iret rfl ez_h95 rfl rfl h
theorem lf_gap2 (A : mz_A) (Q : mz_Q) (U : mz_U) (T : mz_T) {post : Option Value → ez_W → Prop} (h : post (some (.int (nI 57))) (mz_w A Q U T)) : ez_m 95 [.int (nI 2)] (mz_w A Q U T) post := by
  refine ez_m.of (L := [some (.int (nI 2))]) rfl rfl rfl ?_
  refine ez_go ez_h95 2 (pc' := bif decide (¬ (nI (2)) = 0) then 10 else 4) (L' := [some (.int (nI (2)))]) (st' := []) (w' := mz_w A Q U T) rfl ?_
  refine ez_ifT (by decide) ?_
  refine ez_go ez_h95 3 (pc' := bif decide (¬ (nI (2)) = (nI (1))) then 21 else 15) (L' := [some (.int (nI (2)))]) (st' := []) (w' := mz_w A Q U T) rfl ?_
  refine ez_ifT (by decide) ?_
  refine ez_go ez_h95 3 (pc' := bif decide (¬ (nI (2)) = (nI (2))) then 31 else 26) (L' := [some (.int (nI (2)))]) (st' := []) (w' := mz_w A Q U T) rfl ?_
  refine ez_ifF (by decide) ?_
  refine ez_go ez_h95 2 (pc' := 61) (L' := [some (.int (nI (2)))]) (st' := [.int (nI (57))]) (w' := mz_w A Q U T) rfl ?_
  exact ez_iret rfl ez_h95 rfl rfl h
theorem lf_gap3 (A : mz_A) (Q : mz_Q) (U : mz_U) (T : mz_T) {post : Option Value → ez_W → Prop} (h : post (some (.int (nI 23))) (mz_w A Q U T)) : ez_m 95 [.int (nI 3)] (mz_w A Q U T) post := by
  refine ez_m.of (L := [some (.int (nI 3))]) rfl rfl rfl ?_
  refine ez_go ez_h95 2 (pc' := bif decide (¬ (nI (3)) = 0) then 10 else 4) (L' := [some (.int (nI (3)))]) (st' := []) (w' := mz_w A Q U T) rfl ?_
  refine ez_ifT (by decide) ?_
  refine ez_go ez_h95 3 (pc' := bif decide (¬ (nI (3)) = (nI (1))) then 21 else 15) (L' := [some (.int (nI (3)))]) (st' := []) (w' := mz_w A Q U T) rfl ?_
  refine ez_ifT (by decide) ?_
  refine ez_go ez_h95 3 (pc' := bif decide (¬ (nI (3)) = (nI (2))) then 31 else 26) (L' := [some (.int (nI (3)))]) (st' := []) (w' := mz_w A Q U T) rfl ?_
  refine ez_ifT (by decide) ?_
  refine ez_go ez_h95 3 (pc' := bif decide (¬ (nI (3)) = (nI (3))) then 41 else 36) (L' := [some (.int (nI (3)))]) (st' := []) (w' := mz_w A Q U T) rfl ?_
  refine ez_ifF (by decide) ?_
  refine ez_go ez_h95 2 (pc' := 61) (L' := [some (.int (nI (3)))]) (st' := [.int (nI (23))]) (w' := mz_w A Q U T) rfl ?_
  exact ez_iret rfl ez_h95 rfl rfl h
theorem lf_gap4 (A : mz_A) (Q : mz_Q) (U : mz_U) (T : mz_T) {post : Option Value → ez_W → Prop} (h : post (some (.int (nI 10))) (mz_w A Q U T)) : ez_m 95 [.int (nI 4)] (mz_w A Q U T) post := by
  refine ez_m.of (L := [some (.int (nI 4))]) rfl rfl rfl ?_
  refine ez_go ez_h95 2 (pc' := bif decide (¬ (nI (4)) = 0) then 10 else 4) (L' := [some (.int (nI (4)))]) (st' := []) (w' := mz_w A Q U T) rfl ?_
  refine ez_ifT (by decide) ?_
  refine ez_go ez_h95 3 (pc' := bif decide (¬ (nI (4)) = (nI (1))) then 21 else 15) (L' := [some (.int (nI (4)))]) (st' := []) (w' := mz_w A Q U T) rfl ?_
  refine ez_ifT (by decide) ?_
  refine ez_go ez_h95 3 (pc' := bif decide (¬ (nI (4)) = (nI (2))) then 31 else 26) (L' := [some (.int (nI (4)))]) (st' := []) (w' := mz_w A Q U T) rfl ?_
  refine ez_ifT (by decide) ?_
  refine ez_go ez_h95 3 (pc' := bif decide (¬ (nI (4)) = (nI (3))) then 41 else 36) (L' := [some (.int (nI (4)))]) (st' := []) (w' := mz_w A Q U T) rfl ?_
  refine ez_ifT (by decide) ?_
  refine ez_go ez_h95 3 (pc' := bif decide (¬ (nI (4)) = (nI (4))) then 51 else 46) (L' := [some (.int (nI (4)))]) (st' := []) (w' := mz_w A Q U T) rfl ?_
  refine ez_ifF (by decide) ?_
  refine ez_go ez_h95 2 (pc' := 61) (L' := [some (.int (nI (4)))]) (st' := [.int (nI (10))]) (w' := mz_w A Q U T) rfl ?_
  exact ez_iret rfl ez_h95 rfl rfl h
theorem lf_gap5 (A : mz_A) (Q : mz_Q) (U : mz_U) (T : mz_T) {post : Option Value → ez_W → Prop} (h : post (some (.int (nI 4))) (mz_w A Q U T)) : ez_m 95 [.int (nI 5)] (mz_w A Q U T) post := by
  refine ez_m.of (L := [some (.int (nI 5))]) rfl rfl rfl ?_
  refine ez_go ez_h95 2 (pc' := bif decide (¬ (nI (5)) = 0) then 10 else 4) (L' := [some (.int (nI (5)))]) (st' := []) (w' := mz_w A Q U T) rfl ?_
  refine ez_ifT (by decide) ?_
  refine ez_go ez_h95 3 (pc' := bif decide (¬ (nI (5)) = (nI (1))) then 21 else 15) (L' := [some (.int (nI (5)))]) (st' := []) (w' := mz_w A Q U T) rfl ?_
  refine ez_ifT (by decide) ?_
  refine ez_go ez_h95 3 (pc' := bif decide (¬ (nI (5)) = (nI (2))) then 31 else 26) (L' := [some (.int (nI (5)))]) (st' := []) (w' := mz_w A Q U T) rfl ?_
  refine ez_ifT (by decide) ?_
  refine ez_go ez_h95 3 (pc' := bif decide (¬ (nI (5)) = (nI (3))) then 41 else 36) (L' := [some (.int (nI (5)))]) (st' := []) (w' := mz_w A Q U T) rfl ?_
  refine ez_ifT (by decide) ?_
  refine ez_go ez_h95 3 (pc' := bif decide (¬ (nI (5)) = (nI (4))) then 51 else 46) (L' := [some (.int (nI (5)))]) (st' := []) (w' := mz_w A Q U T) rfl ?_
  refine ez_ifT (by decide) ?_
  refine ez_go ez_h95 3 (pc' := bif decide (¬ (nI (5)) = (nI (5))) then 60 else 56) (L' := [some (.int (nI (5)))]) (st' := []) (w' := mz_w A Q U T) rfl ?_
  refine ez_ifF (by decide) ?_
  refine ez_go ez_h95 2 (pc' := 61) (L' := [some (.int (nI (5)))]) (st' := [.int (nI (4))]) (w' := mz_w A Q U T) rfl ?_
  exact ez_iret rfl ez_h95 rfl rfl h
theorem lf_gap6 (A : mz_A) (Q : mz_Q) (U : mz_U) (T : mz_T) {post : Option Value → ez_W → Prop} (h : post (some (.int (nI 1))) (mz_w A Q U T)) : ez_m 95 [.int (nI 6)] (mz_w A Q U T) post := by
  refine ez_m.of (L := [some (.int (nI 6))]) rfl rfl rfl ?_
  refine ez_go ez_h95 2 (pc' := bif decide (¬ (nI (6)) = 0) then 10 else 4) (L' := [some (.int (nI (6)))]) (st' := []) (w' := mz_w A Q U T) rfl ?_
  refine ez_ifT (by decide) ?_
  refine ez_go ez_h95 3 (pc' := bif decide (¬ (nI (6)) = (nI (1))) then 21 else 15) (L' := [some (.int (nI (6)))]) (st' := []) (w' := mz_w A Q U T) rfl ?_
  refine ez_ifT (by decide) ?_
  refine ez_go ez_h95 3 (pc' := bif decide (¬ (nI (6)) = (nI (2))) then 31 else 26) (L' := [some (.int (nI (6)))]) (st' := []) (w' := mz_w A Q U T) rfl ?_
  refine ez_ifT (by decide) ?_
  refine ez_go ez_h95 3 (pc' := bif decide (¬ (nI (6)) = (nI (3))) then 41 else 36) (L' := [some (.int (nI (6)))]) (st' := []) (w' := mz_w A Q U T) rfl ?_
  refine ez_ifT (by decide) ?_
  refine ez_go ez_h95 3 (pc' := bif decide (¬ (nI (6)) = (nI (4))) then 51 else 46) (L' := [some (.int (nI (6)))]) (st' := []) (w' := mz_w A Q U T) rfl ?_
  refine ez_ifT (by decide) ?_
  refine ez_go ez_h95 3 (pc' := bif decide (¬ (nI (6)) = (nI (5))) then 60 else 56) (L' := [some (.int (nI (6)))]) (st' := []) (w' := mz_w A Q U T) rfl ?_
  refine ez_ifT (by decide) ?_
  refine ez_go ez_h95 1 (pc' := 61) (L' := [some (.int (nI (6)))]) (st' := [.int (nI (1))]) (w' := mz_w A Q U T) rfl ?_
  exact ez_iret rfl ez_h95 rfl rfl h
/-- STEPS: the class's seven passes, the reference's method -/
theorem zt_steps {E : ze_T} (hE : ze_ok E) {row : Nat → Nat} {g : zs_G} (hw : zr_ok E row g) :
    ∃ (row' : Nat → Nat) (g' : zs_G), zr_ok E row' g' ∧ zg_le E g g' ∧ zp_in row row' 0 (ze_n E) ∧
      (∃ (R : Nat → Nat → Nat) (G : Nat → zs_G), R 0 = row ∧ G 0 = g ∧ R 7 = row' ∧ G 7 = g' ∧ ∀ k gp, ([301, 132, 57, 23, 10, 4, 1] : List Nat)[k]? = some gp → zt_P E gp 600 gp (R k) (G k) (R (k + 1)) (G (k + 1))) ∧
      mr_M E 96 [.ref 0] row g none row' g' := by
  have hn := hE.1
  obtain ⟨w0, v0, a0, b0, c0, d0, e0⟩ := zt_pass hE (gp := 301) (by omega) (by omega) 600 301 row g (by omega) (by omega) hw
  obtain ⟨w1, v1, a1, b1, c1, d1, e1⟩ := zt_pass hE (gp := 132) (by omega) (by omega) 600 132 w0 v0 (by omega) (by omega) a0
  obtain ⟨w2, v2, a2, b2, c2, d2, e2⟩ := zt_pass hE (gp := 57) (by omega) (by omega) 600 57 w1 v1 (by omega) (by omega) a1
  obtain ⟨w3, v3, a3, b3, c3, d3, e3⟩ := zt_pass hE (gp := 23) (by omega) (by omega) 600 23 w2 v2 (by omega) (by omega) a2
  obtain ⟨w4, v4, a4, b4, c4, d4, e4⟩ := zt_pass hE (gp := 10) (by omega) (by omega) 600 10 w3 v3 (by omega) (by omega) a3
  obtain ⟨w5, v5, a5, b5, c5, d5, e5⟩ := zt_pass hE (gp := 4) (by omega) (by omega) 600 4 w4 v4 (by omega) (by omega) a4
  obtain ⟨w6, v6, a6, b6, c6, d6, e6⟩ := zt_pass hE (gp := 1) (by omega) (by omega) 600 1 w5 v5 (by omega) (by omega) a5
  refine ⟨w6, v6, a6, (((((b0.tr b1).tr b2).tr b3).tr b4).tr b5).tr b6, (((((c0.tr c1).tr c2).tr c3).tr c4).tr c5).tr c6, ?_, ?_⟩
  · refine ⟨fun k => match k with
      | 0 => row
      | 1 => w0
      | 2 => w1
      | 3 => w2
      | 4 => w3
      | 5 => w4
      | 6 => w5
      | _ => w6, fun k => match k with
      | 0 => g
      | 1 => v0
      | 2 => v1
      | 3 => v2
      | 4 => v3
      | 5 => v4
      | 6 => v5
      | _ => v6, rfl, rfl, rfl, rfl, fun k gp hk => ?_⟩
    match k, hk with
    | 0, hk => cases hk; exact d0
    | 1, hk => cases hk; exact d1
    | 2, hk => cases hk; exact d2
    | 3, hk => cases hk; exact d3
    | 4, hk => cases hk; exact d4
    | 5, hk => cases hk; exact d5
    | 6, hk => cases hk; exact d6
    | k + 7, hk => simp at hk
  · refine mr_H.m (L := [some (.ref 0), none, none, none, none, none]) (fun A Q U T post hA kk => ?_) rfl rfl rfl
    refine ez_go ez_h96 5 (pc' := bif decide ((nI (7)) ≤ (nI (0))) then 104 else 8) (L' := [some (.ref 0), some (.int (nI (0))), none, none, none, none]) (st' := []) (w' := mz_w A Q U T) rfl ?_
    refine ez_ifF (zt_nle (a := 7) (b := 0) (by omega) (by omega)) ?_
    refine ez_go ez_h96 1 (pc' := 9) (L' := [some (.ref 0), some (.int (nI (0))), none, none, none, none]) (st' := [.int (nI (0))]) (w' := mz_w A Q U T) rfl ?_
    refine ez_cs ez_h96 rfl rfl ?_
    refine lf_gap0 A Q U T ?_
    refine ez_go ez_h96 3 (pc' := 15) (L' := [some (.ref 0), some (.int (nI (0))), some (.int (nI (301))), some (.int (nI (301))), none, none]) (st' := []) (w' := mz_w A Q U T) rfl ?_
    refine e0 0 _ Q U T post hA (fun A100 hA100 => ?_)
    refine ez_inc ez_h96 rfl rfl (v := nI 1) (zi_1 _) rfl ?_
    refine ez_go ez_h96 4 (pc' := bif decide ((nI (7)) ≤ (nI (1))) then 104 else 8) (L' := [some (.ref 0), some (.int (nI (1))), none, none, none, none]) (st' := []) (w' := mz_w A100 Q U T) rfl ?_
    refine ez_ifF (zt_nle (a := 7) (b := 1) (by omega) (by omega)) ?_
    refine ez_go ez_h96 1 (pc' := 9) (L' := [some (.ref 0), some (.int (nI (1))), none, none, none, none]) (st' := [.int (nI (1))]) (w' := mz_w A100 Q U T) rfl ?_
    refine ez_cs ez_h96 rfl rfl ?_
    refine lf_gap1 A100 Q U T ?_
    refine ez_go ez_h96 3 (pc' := 15) (L' := [some (.ref 0), some (.int (nI (1))), some (.int (nI (132))), some (.int (nI (132))), none, none]) (st' := []) (w' := mz_w A100 Q U T) rfl ?_
    refine e1 1 _ Q U T post hA100 (fun A101 hA101 => ?_)
    refine ez_inc ez_h96 rfl rfl (v := nI 2) (zi_1 _) rfl ?_
    refine ez_go ez_h96 4 (pc' := bif decide ((nI (7)) ≤ (nI (2))) then 104 else 8) (L' := [some (.ref 0), some (.int (nI (2))), none, none, none, none]) (st' := []) (w' := mz_w A101 Q U T) rfl ?_
    refine ez_ifF (zt_nle (a := 7) (b := 2) (by omega) (by omega)) ?_
    refine ez_go ez_h96 1 (pc' := 9) (L' := [some (.ref 0), some (.int (nI (2))), none, none, none, none]) (st' := [.int (nI (2))]) (w' := mz_w A101 Q U T) rfl ?_
    refine ez_cs ez_h96 rfl rfl ?_
    refine lf_gap2 A101 Q U T ?_
    refine ez_go ez_h96 3 (pc' := 15) (L' := [some (.ref 0), some (.int (nI (2))), some (.int (nI (57))), some (.int (nI (57))), none, none]) (st' := []) (w' := mz_w A101 Q U T) rfl ?_
    refine e2 2 _ Q U T post hA101 (fun A102 hA102 => ?_)
    refine ez_inc ez_h96 rfl rfl (v := nI 3) (zi_1 _) rfl ?_
    refine ez_go ez_h96 4 (pc' := bif decide ((nI (7)) ≤ (nI (3))) then 104 else 8) (L' := [some (.ref 0), some (.int (nI (3))), none, none, none, none]) (st' := []) (w' := mz_w A102 Q U T) rfl ?_
    refine ez_ifF (zt_nle (a := 7) (b := 3) (by omega) (by omega)) ?_
    refine ez_go ez_h96 1 (pc' := 9) (L' := [some (.ref 0), some (.int (nI (3))), none, none, none, none]) (st' := [.int (nI (3))]) (w' := mz_w A102 Q U T) rfl ?_
    refine ez_cs ez_h96 rfl rfl ?_
    refine lf_gap3 A102 Q U T ?_
    refine ez_go ez_h96 3 (pc' := 15) (L' := [some (.ref 0), some (.int (nI (3))), some (.int (nI (23))), some (.int (nI (23))), none, none]) (st' := []) (w' := mz_w A102 Q U T) rfl ?_
    refine e3 3 _ Q U T post hA102 (fun A103 hA103 => ?_)
    refine ez_inc ez_h96 rfl rfl (v := nI 4) (zi_1 _) rfl ?_
    refine ez_go ez_h96 4 (pc' := bif decide ((nI (7)) ≤ (nI (4))) then 104 else 8) (L' := [some (.ref 0), some (.int (nI (4))), none, none, none, none]) (st' := []) (w' := mz_w A103 Q U T) rfl ?_
    refine ez_ifF (zt_nle (a := 7) (b := 4) (by omega) (by omega)) ?_
    refine ez_go ez_h96 1 (pc' := 9) (L' := [some (.ref 0), some (.int (nI (4))), none, none, none, none]) (st' := [.int (nI (4))]) (w' := mz_w A103 Q U T) rfl ?_
    refine ez_cs ez_h96 rfl rfl ?_
    refine lf_gap4 A103 Q U T ?_
    refine ez_go ez_h96 3 (pc' := 15) (L' := [some (.ref 0), some (.int (nI (4))), some (.int (nI (10))), some (.int (nI (10))), none, none]) (st' := []) (w' := mz_w A103 Q U T) rfl ?_
    refine e4 4 _ Q U T post hA103 (fun A104 hA104 => ?_)
    refine ez_inc ez_h96 rfl rfl (v := nI 5) (zi_1 _) rfl ?_
    refine ez_go ez_h96 4 (pc' := bif decide ((nI (7)) ≤ (nI (5))) then 104 else 8) (L' := [some (.ref 0), some (.int (nI (5))), none, none, none, none]) (st' := []) (w' := mz_w A104 Q U T) rfl ?_
    refine ez_ifF (zt_nle (a := 7) (b := 5) (by omega) (by omega)) ?_
    refine ez_go ez_h96 1 (pc' := 9) (L' := [some (.ref 0), some (.int (nI (5))), none, none, none, none]) (st' := [.int (nI (5))]) (w' := mz_w A104 Q U T) rfl ?_
    refine ez_cs ez_h96 rfl rfl ?_
    refine lf_gap5 A104 Q U T ?_
    refine ez_go ez_h96 3 (pc' := 15) (L' := [some (.ref 0), some (.int (nI (5))), some (.int (nI (4))), some (.int (nI (4))), none, none]) (st' := []) (w' := mz_w A104 Q U T) rfl ?_
    refine e5 5 _ Q U T post hA104 (fun A105 hA105 => ?_)
    refine ez_inc ez_h96 rfl rfl (v := nI 6) (zi_1 _) rfl ?_
    refine ez_go ez_h96 4 (pc' := bif decide ((nI (7)) ≤ (nI (6))) then 104 else 8) (L' := [some (.ref 0), some (.int (nI (6))), none, none, none, none]) (st' := []) (w' := mz_w A105 Q U T) rfl ?_
    refine ez_ifF (zt_nle (a := 7) (b := 6) (by omega) (by omega)) ?_
    refine ez_go ez_h96 1 (pc' := 9) (L' := [some (.ref 0), some (.int (nI (6))), none, none, none, none]) (st' := [.int (nI (6))]) (w' := mz_w A105 Q U T) rfl ?_
    refine ez_cs ez_h96 rfl rfl ?_
    refine lf_gap6 A105 Q U T ?_
    refine ez_go ez_h96 3 (pc' := 15) (L' := [some (.ref 0), some (.int (nI (6))), some (.int (nI (1))), some (.int (nI (1))), none, none]) (st' := []) (w' := mz_w A105 Q U T) rfl ?_
    refine e6 6 _ Q U T post hA105 (fun A106 hA106 => ?_)
    refine ez_inc ez_h96 rfl rfl (v := nI 7) (zi_1 _) rfl ?_
    refine ez_go ez_h96 4 (pc' := bif decide ((nI (7)) ≤ (nI (7))) then 104 else 8) (L' := [some (.ref 0), some (.int (nI (7))), none, none, none, none]) (st' := []) (w' := mz_w A106 Q U T) rfl ?_
    refine ez_ifT (zt_le (a := 7) (b := 7) (by omega) (by omega)) ?_
    exact ez_vret rfl ez_h96 rfl rfl (kk _ hA106)
end
section
theorem zu_rloop {E : ze_T} (hE : ze_ok E) {b e : Nat} (he : e ≤ ze_n E) : ∀ (s k h : Nat) (row : Nat → Nat) (g : zs_G), e ≤ k + s → b + k ≤ e → h + k + 1 = e → zr_ok E row g →
    ∃ (row' : Nat → Nat), zr_ok E row' g ∧ zp_in row row' b e ∧ cr_H E 36 7 [some (.ref 1), some (.int (nI (b))), some (.int (nI (e))), some (.int (nI (h))), some (.int (nI (b + k)))] row g none row' g ∧ mr_H E 88 2 [some (.ref 0), some (.int (nI (b))), some (.int (nI (e))), some (.int (nI (k)))] row g none row' g := by
  have hn := hE.1
  intro s
  induction s with
  | zero =>
    intro k h row g h1 h2 h3 hw
    omega
  | succ s ih =>
    intro k h row g h1 h2 h3 hw
    by_cases hk : h ≤ b + k
    · refine ⟨row, hw, zp_in.rf _ _ _, ?_, ?_⟩
      · intro r q u bb post hr kk
        refine ez_go ez_h36 3 (pc' := bif decide ((nI (h)) ≤ (nI (b + k))) then 29 else 13) (L' := [some (.ref 1), some (.int (nI (b))), some (.int (nI (e))), some (.int (nI (h))), some (.int (nI (b + k)))]) (st' := []) (w' := cz_w r q u bb) rfl ?_
        refine ez_ifT (zt_le (a := h) (b := b + k) (by omega) (by omega)) ?_
        exact ez_vret rfl ez_h36 rfl rfl (kk _ hr)
      · intro A Q U T post hA kk
        refine ez_go ez_h88 4 (pc' := 6) (L' := [some (.ref 0), some (.int (nI (b))), some (.int (nI (e))), some (.int (nI (k)))]) (st' := [.int ((nI (e)) - (nI (b))), .int (nI (k))]) (w' := mz_w A Q U T) rfl ?_
        refine ez_top (y := nI (e - b)) (pk_sub (by omega)) ?_
        refine ez_go ez_h88 2 (pc' := 8) (L' := [some (.ref 0), some (.int (nI (b))), some (.int (nI (e))), some (.int (nI (k)))]) (st' := [.int ((nI (e - b)) / (nI (2))), .int (nI (k))]) (w' := mz_w A Q U T) rfl ?_
        refine ez_top (y := nI ((e - b) / 2)) (pk_div (by omega) (by omega) (by omega)) ?_
        refine ez_go ez_h88 1 (pc' := bif decide ((nI ((e - b) / 2)) ≤ (nI (k))) then 29 else 11) (L' := [some (.ref 0), some (.int (nI (b))), some (.int (nI (e))), some (.int (nI (k)))]) (st' := []) (w' := mz_w A Q U T) rfl ?_
        refine ez_ifT (zt_le (a := (e - b) / 2) (b := k) (by omega) (by omega)) ?_
        exact ez_vret rfl ez_h88 rfl rfl (kk _ hA)
    · obtain ⟨row', a1, a2, a3, a4⟩ := ih (k + 1) (h - 1) (zs_sw row (b + k) h) g (by omega) (by omega) (by omega) (hw.sw (by omega) (by omega))
      refine ⟨row', a1, (zp_in.sw row (by omega) (by omega)).tr a2, ?_, ?_⟩
      · intro r q u bb post hr kk
        refine ez_go ez_h36 3 (pc' := bif decide ((nI (h)) ≤ (nI (b + k))) then 29 else 13) (L' := [some (.ref 1), some (.int (nI (b))), some (.int (nI (e))), some (.int (nI (h))), some (.int (nI (b + k)))]) (st' := []) (w' := cz_w r q u bb) rfl ?_
        refine ez_ifF (zt_nle (a := h) (b := b + k) (by omega) (by omega)) ?_
        refine ez_go ez_h36 3 (pc' := 17) (L' := [some (.ref 1), some (.int (nI (b))), some (.int (nI (e))), some (.int (nI (h))), some (.int (nI (b + k)))]) (st' := [.int (nI (h)), .int (nI (b + k)), .ref 1]) (w' := cz_w r q u bb) rfl ?_
        refine ez_cl ez_h36 rfl rfl ?_
        refine cr_swap hE hr (i := b + k) (j := h) (by omega) (by omega) q u bb (fun r4 hr4 => ?_)
        refine ez_inc ez_h36 rfl rfl (v := nI (h - 1)) (zi_m (by omega)) rfl ?_
        refine ez_inc ez_h36 rfl rfl (v := nI ((b + k) + 1)) (zi_1 _) rfl ?_
        refine ez_go ez_h36 1 (pc' := 7) (L' := [some (.ref 1), some (.int (nI (b))), some (.int (nI (e))), some (.int (nI (h - 1))), some (.int (nI ((b + k) + 1)))]) (st' := []) (w' := cz_w r4 q u bb) rfl ?_
        exact a3 _ q u bb post hr4 kk
      · intro A Q U T post hA kk
        refine ez_go ez_h88 4 (pc' := 6) (L' := [some (.ref 0), some (.int (nI (b))), some (.int (nI (e))), some (.int (nI (k)))]) (st' := [.int ((nI (e)) - (nI (b))), .int (nI (k))]) (w' := mz_w A Q U T) rfl ?_
        refine ez_top (y := nI (e - b)) (pk_sub (by omega)) ?_
        refine ez_go ez_h88 2 (pc' := 8) (L' := [some (.ref 0), some (.int (nI (b))), some (.int (nI (e))), some (.int (nI (k)))]) (st' := [.int ((nI (e - b)) / (nI (2))), .int (nI (k))]) (w' := mz_w A Q U T) rfl ?_
        refine ez_top (y := nI ((e - b) / 2)) (pk_div (by omega) (by omega) (by omega)) ?_
        refine ez_go ez_h88 1 (pc' := bif decide ((nI ((e - b) / 2)) ≤ (nI (k))) then 29 else 11) (L' := [some (.ref 0), some (.int (nI (b))), some (.int (nI (e))), some (.int (nI (k)))]) (st' := []) (w' := mz_w A Q U T) rfl ?_
        refine ez_ifF (zt_nle (a := (e - b) / 2) (b := k) (by omega) (by omega)) ?_
        refine ez_go ez_h88 4 (pc' := 15) (L' := [some (.ref 0), some (.int (nI (b))), some (.int (nI (e))), some (.int (nI (k)))]) (st' := [.int ((nI (b)) + (nI (k))), .ref 0]) (w' := mz_w A Q U T) rfl ?_
        refine ez_top (y := nI (b + k)) (nI_add _ _) ?_
        refine ez_go ez_h88 3 (pc' := 18) (L' := [some (.ref 0), some (.int (nI (b))), some (.int (nI (e))), some (.int (nI (k)))]) (st' := [.int ((nI (e)) - (nI (1))), .int (nI (b + k)), .ref 0]) (w' := mz_w A Q U T) rfl ?_
        refine ez_top (y := nI (e - 1)) (pk_sub (by omega)) ?_
        refine ez_go ez_h88 2 (pc' := 20) (L' := [some (.ref 0), some (.int (nI (b))), some (.int (nI (e))), some (.int (nI (k)))]) (st' := [.int ((nI (e - 1)) - (nI (k))), .int (nI (b + k)), .ref 0]) (w' := mz_w A Q U T) rfl ?_
        refine ez_top (y := nI ((e - 1) - k)) (pk_sub (by omega)) ?_
        refine ez_cl ez_h88 rfl rfl ?_
        refine mr_swap hE hA (i := b + k) (j := (e - 1) - k) (by omega) (by omega) Q U T (fun A5 hA5 => ?_)
        refine ez_inc ez_h88 rfl rfl (v := nI (k + 1)) (zi_1 _) rfl ?_
        refine ez_go ez_h88 1 (pc' := 2) (L' := [some (.ref 0), some (.int (nI (b))), some (.int (nI (e))), some (.int (nI (k + 1)))]) (st' := []) (w' := mz_w A5 Q U T) rfl ?_
        rw [show e - 1 - k = h by omega] at hA5
        exact a4 _ Q U T post hA5 kk
/-- a range is turned round -/
theorem zu_rev {E : ze_T} (hE : ze_ok E) {b e : Nat} (hb : b ≤ e) (h1 : 1 ≤ e) (he : e ≤ ze_n E) {row : Nat → Nat} {g : zs_G} (hw : zr_ok E row g) :
    ∃ (row' : Nat → Nat), zr_ok E row' g ∧ zp_in row row' b e ∧ cr_M E 36 [.ref 1, .int (nI b), .int (nI e)] row g none row' g ∧ mr_M E 88 [.ref 0, .int (nI b), .int (nI e)] row g none row' g := by
  have hn := hE.1
  obtain ⟨row', a1, a2, a3, a4⟩ := zu_rloop hE (b := b) he (e + 1) 0 (e - 1) row g (by omega) (by omega) (by omega) hw
  refine ⟨row', a1, a2, ?_, ?_⟩
  · refine cr_H.m (L := [some (.ref 1), some (.int (nI (b))), some (.int (nI (e))), none, none]) (fun r q u bb post hr kk => ?_) rfl rfl rfl
    refine ez_go ez_h36 3 (pc' := 3) (L' := [some (.ref 1), some (.int (nI (b))), some (.int (nI (e))), none, none]) (st' := [.int ((nI (e)) - (nI (1)))]) (w' := cz_w r q u bb) rfl ?_
    refine ez_top (y := nI (e - 1)) (pk_sub (by omega)) ?_
    refine ez_go ez_h36 3 (pc' := 7) (L' := [some (.ref 1), some (.int (nI (b))), some (.int (nI (e))), some (.int (nI (e - 1))), some (.int (nI (b)))]) (st' := []) (w' := cz_w r q u bb) rfl ?_
    exact a3 _ q u bb post hr kk
  · refine mr_H.m (L := [some (.ref 0), some (.int (nI (b))), some (.int (nI (e))), none]) (fun A Q U T post hA kk => ?_) rfl rfl rfl
    refine ez_go ez_h88 2 (pc' := 2) (L' := [some (.ref 0), some (.int (nI (b))), some (.int (nI (e))), some (.int (nI (0)))]) (st' := []) (w' := mz_w A Q U T) rfl ?_
    exact a4 _ Q U T post hA kk
theorem zz_ne {a b : Bool} (h : a ≠ b) : ¬ zs_z a = zs_z b := by cases a <;> cases b <;> first | exact absurd rfl h | decide
theorem zu_scan_true {E : ze_T} (hE : ze_ok E) {b : Nat} : ∀ (s e : Nat) (row : Nat → Nat) (g : zs_G), ze_n E ≤ e + s → e ≤ ze_n E → 1 ≤ e → zr_ok E row g →
    ∃ (e' : Nat) (g' : zs_G), e ≤ e' ∧ e' ≤ ze_n E ∧ zr_ok E row g' ∧ zg_le E g g' ∧ cr_G E 45 39 [some (.ref 5), some (.int (nI (b))), some (.int (nI (ze_n E))), some (.int (nI (e)))] row g 78 [some (.ref 5), some (.int (nI (b))), some (.int (nI (ze_n E))), some (.int (nI (e')))] row g' ∧ mr_G E 89 26 [some (.ref 0), some (.int (nI (b))), some (.int (nI (e))), some (.int (zs_z true))] row g 52 [some (.ref 0), some (.int (nI (b))), some (.int (nI (e'))), some (.int (zs_z true))] row g' := by
  have hn := hE.1
  intro s
  induction s with
  | zero =>
    intro e row g h1 h2 h3 hw
    refine ⟨e, g, Nat.le_refl _, h2, hw, zg_le.rf g, ?_, ?_⟩
    · intro r q u bb post hr kk
      refine ez_go ez_h45 3 (pc' := bif decide ((nI (ze_n E)) ≤ (nI (e))) then 78 else 44) (L' := [some (.ref 5), some (.int (nI (b))), some (.int (nI (ze_n E))), some (.int (nI (e)))]) (st' := []) (w' := cz_w r q u bb) rfl ?_
      refine ez_ifT (zt_le (a := ze_n E) (b := e) (by omega) (by omega)) ?_
      exact kk _ hr
    · intro A Q U T post hA kk
      refine ez_go ez_h89 3 (pc' := 31) (L' := [some (.ref 0), some (.int (nI (b))), some (.int (nI (e))), some (.int (zs_z true))]) (st' := [.int (A.1), .int (nI (e))]) (w' := mz_w A Q U T) rfl ?_
      refine ez_top (y := nI (ze_n E)) (hA.1) ?_
      refine ez_go ez_h89 1 (pc' := bif decide ((nI (ze_n E)) ≤ (nI (e))) then 52 else 34) (L' := [some (.ref 0), some (.int (nI (b))), some (.int (nI (e))), some (.int (zs_z true))]) (st' := []) (w' := mz_w A Q U T) rfl ?_
      refine ez_ifT (zt_le (a := ze_n E) (b := e) (by omega) (by omega)) ?_
      exact kk _ hA
  | succ s ih =>
    intro e row g h1 h2 h3 hw
    by_cases he : ze_n E ≤ e
    · refine ⟨e, g, Nat.le_refl _, h2, hw, zg_le.rf g, ?_, ?_⟩
      · intro r q u bb post hr kk
        refine ez_go ez_h45 3 (pc' := bif decide ((nI (ze_n E)) ≤ (nI (e))) then 78 else 44) (L' := [some (.ref 5), some (.int (nI (b))), some (.int (nI (ze_n E))), some (.int (nI (e)))]) (st' := []) (w' := cz_w r q u bb) rfl ?_
        refine ez_ifT (zt_le (a := ze_n E) (b := e) (by omega) (by omega)) ?_
        exact kk _ hr
      · intro A Q U T post hA kk
        refine ez_go ez_h89 3 (pc' := 31) (L' := [some (.ref 0), some (.int (nI (b))), some (.int (nI (e))), some (.int (zs_z true))]) (st' := [.int (A.1), .int (nI (e))]) (w' := mz_w A Q U T) rfl ?_
        refine ez_top (y := nI (ze_n E)) (hA.1) ?_
        refine ez_go ez_h89 1 (pc' := bif decide ((nI (ze_n E)) ≤ (nI (e))) then 52 else 34) (L' := [some (.ref 0), some (.int (nI (b))), some (.int (nI (e))), some (.int (zs_z true))]) (st' := []) (w' := mz_w A Q U T) rfl ?_
        refine ez_ifT (zt_le (a := ze_n E) (b := e) (by omega) (by omega)) ?_
        exact kk _ hA
    · have hw1 := hw.go (hw.1 e (by omega)) (hw.1 (e - 1) (by omega))
      have hg1 : zg_le E g _ := zg_le.go hw (row e) (row (e - 1))
      cases hb : zs_b (ze_md E) (ze_ka E) (row e) (row (e - 1)) g with
      | false =>
        refine ⟨e, _, Nat.le_refl _, h2, hw1, hg1, ?_, ?_⟩
        · intro r q u bb post hr kk
          refine ez_go ez_h45 3 (pc' := bif decide ((nI (ze_n E)) ≤ (nI (e))) then 78 else 44) (L' := [some (.ref 5), some (.int (nI (b))), some (.int (nI (ze_n E))), some (.int (nI (e)))]) (st' := []) (w' := cz_w r q u bb) rfl ?_
          refine ez_ifF (zt_nle (a := ze_n E) (b := e) (by omega) (by omega)) ?_
          refine ez_go ez_h45 5 (pc' := 53) (L' := [some (.ref 5), some (.int (nI (b))), some (.int (nI (ze_n E))), some (.int (nI (e)))]) (st' := [.int (nI (e)), .ref 1, .ref 1]) (w' := cz_w r q u bb) rfl ?_
          refine ez_cl ez_h45 rfl rfl ?_
          refine cr_at hE hr (k := e) (by omega) q u bb ?_
          refine ez_go ez_h45 5 (pc' := 63) (L' := [some (.ref 5), some (.int (nI (b))), some (.int (nI (ze_n E))), some (.int (nI (e)))]) (st' := [.int ((nI (e)) - (nI (1))), .ref 1, .int (nI (ze_pi E (row e))), .ref 1]) (w' := cz_w r q u bb) rfl ?_
          refine ez_top (y := nI (e - 1)) (pk_sub (by omega)) ?_
          refine ez_cl ez_h45 rfl rfl ?_
          refine cr_at hE hr (k := e - 1) (by omega) q u bb ?_
          refine ez_cl ez_h45 rfl rfl ?_
          refine cr_less hE hr hw.2 (x := row e) (y := row (e - 1)) (hw.1 e (by omega)) (hw.1 (e - 1) (by omega)) q u bb (fun r6 hr6 => ?_)
          refine ez_go ez_h45 1 (pc' := bif decide ((zs_z (zs_b (ze_md E) (ze_ka E) (row e) (row (e - 1)) g)) = 0) then 78 else 72) (L' := [some (.ref 5), some (.int (nI (b))), some (.int (nI (ze_n E))), some (.int (nI (e)))]) (st' := []) (w' := cz_w r6 q u bb) rfl ?_
          refine ez_ifT (zz_f hb) ?_
          exact kk _ hr6
        · intro A Q U T post hA kk
          refine ez_go ez_h89 3 (pc' := 31) (L' := [some (.ref 0), some (.int (nI (b))), some (.int (nI (e))), some (.int (zs_z true))]) (st' := [.int (A.1), .int (nI (e))]) (w' := mz_w A Q U T) rfl ?_
          refine ez_top (y := nI (ze_n E)) (hA.1) ?_
          refine ez_go ez_h89 1 (pc' := bif decide ((nI (ze_n E)) ≤ (nI (e))) then 52 else 34) (L' := [some (.ref 0), some (.int (nI (b))), some (.int (nI (e))), some (.int (zs_z true))]) (st' := []) (w' := mz_w A Q U T) rfl ?_
          refine ez_ifF (zt_nle (a := ze_n E) (b := e) (by omega) (by omega)) ?_
          refine ez_go ez_h89 5 (pc' := 39) (L' := [some (.ref 0), some (.int (nI (b))), some (.int (nI (e))), some (.int (zs_z true))]) (st' := [.int ((nI (e)) - (nI (1))), .int (nI (e)), .ref 0]) (w' := mz_w A Q U T) rfl ?_
          refine ez_top (y := nI (e - 1)) (pk_sub (by omega)) ?_
          refine ez_cl ez_h89 rfl rfl ?_
          refine mr_lessAt hE hA hw (i := e) (j := e - 1) (by omega) (by omega) Q U T (fun A7 hA7 => ?_)
          refine ez_go ez_h89 2 (pc' := bif decide (¬ (zs_z (zs_b (ze_md E) (ze_ka E) (row e) (row (e - 1)) g)) = (zs_z true)) then 52 else 46) (L' := [some (.ref 0), some (.int (nI (b))), some (.int (nI (e))), some (.int (zs_z true))]) (st' := []) (w' := mz_w A7 Q U T) rfl ?_
          refine ez_ifT (zz_ne (by rw [hb]; decide)) ?_
          exact kk _ hA7
      | true =>
        obtain ⟨e', g', a1, a2, a3, a4, a5, a6⟩ := ih (e + 1) row _ (by omega) (by omega) (by omega) hw1
        refine ⟨e', g', by omega, a2, a3, hg1.tr a4, ?_, ?_⟩
        · intro r q u bb post hr kk
          refine ez_go ez_h45 3 (pc' := bif decide ((nI (ze_n E)) ≤ (nI (e))) then 78 else 44) (L' := [some (.ref 5), some (.int (nI (b))), some (.int (nI (ze_n E))), some (.int (nI (e)))]) (st' := []) (w' := cz_w r q u bb) rfl ?_
          refine ez_ifF (zt_nle (a := ze_n E) (b := e) (by omega) (by omega)) ?_
          refine ez_go ez_h45 5 (pc' := 53) (L' := [some (.ref 5), some (.int (nI (b))), some (.int (nI (ze_n E))), some (.int (nI (e)))]) (st' := [.int (nI (e)), .ref 1, .ref 1]) (w' := cz_w r q u bb) rfl ?_
          refine ez_cl ez_h45 rfl rfl ?_
          refine cr_at hE hr (k := e) (by omega) q u bb ?_
          refine ez_go ez_h45 5 (pc' := 63) (L' := [some (.ref 5), some (.int (nI (b))), some (.int (nI (ze_n E))), some (.int (nI (e)))]) (st' := [.int ((nI (e)) - (nI (1))), .ref 1, .int (nI (ze_pi E (row e))), .ref 1]) (w' := cz_w r q u bb) rfl ?_
          refine ez_top (y := nI (e - 1)) (pk_sub (by omega)) ?_
          refine ez_cl ez_h45 rfl rfl ?_
          refine cr_at hE hr (k := e - 1) (by omega) q u bb ?_
          refine ez_cl ez_h45 rfl rfl ?_
          refine cr_less hE hr hw.2 (x := row e) (y := row (e - 1)) (hw.1 e (by omega)) (hw.1 (e - 1) (by omega)) q u bb (fun r8 hr8 => ?_)
          refine ez_go ez_h45 1 (pc' := bif decide ((zs_z (zs_b (ze_md E) (ze_ka E) (row e) (row (e - 1)) g)) = 0) then 78 else 72) (L' := [some (.ref 5), some (.int (nI (b))), some (.int (nI (ze_n E))), some (.int (nI (e)))]) (st' := []) (w' := cz_w r8 q u bb) rfl ?_
          refine ez_ifF (zz_t hb) ?_
          refine ez_inc ez_h45 rfl rfl (v := nI (e + 1)) (zi_1 _) rfl ?_
          refine ez_go ez_h45 1 (pc' := 39) (L' := [some (.ref 5), some (.int (nI (b))), some (.int (nI (ze_n E))), some (.int (nI (e + 1)))]) (st' := []) (w' := cz_w r8 q u bb) rfl ?_
          exact a5 _ q u bb post hr8 kk
        · intro A Q U T post hA kk
          refine ez_go ez_h89 3 (pc' := 31) (L' := [some (.ref 0), some (.int (nI (b))), some (.int (nI (e))), some (.int (zs_z true))]) (st' := [.int (A.1), .int (nI (e))]) (w' := mz_w A Q U T) rfl ?_
          refine ez_top (y := nI (ze_n E)) (hA.1) ?_
          refine ez_go ez_h89 1 (pc' := bif decide ((nI (ze_n E)) ≤ (nI (e))) then 52 else 34) (L' := [some (.ref 0), some (.int (nI (b))), some (.int (nI (e))), some (.int (zs_z true))]) (st' := []) (w' := mz_w A Q U T) rfl ?_
          refine ez_ifF (zt_nle (a := ze_n E) (b := e) (by omega) (by omega)) ?_
          refine ez_go ez_h89 5 (pc' := 39) (L' := [some (.ref 0), some (.int (nI (b))), some (.int (nI (e))), some (.int (zs_z true))]) (st' := [.int ((nI (e)) - (nI (1))), .int (nI (e)), .ref 0]) (w' := mz_w A Q U T) rfl ?_
          refine ez_top (y := nI (e - 1)) (pk_sub (by omega)) ?_
          refine ez_cl ez_h89 rfl rfl ?_
          refine mr_lessAt hE hA hw (i := e) (j := e - 1) (by omega) (by omega) Q U T (fun A9 hA9 => ?_)
          refine ez_go ez_h89 2 (pc' := bif decide (¬ (zs_z (zs_b (ze_md E) (ze_ka E) (row e) (row (e - 1)) g)) = (zs_z true)) then 52 else 46) (L' := [some (.ref 0), some (.int (nI (b))), some (.int (nI (e))), some (.int (zs_z true))]) (st' := []) (w' := mz_w A9 Q U T) rfl ?_
          refine ez_ifF (fun z => z (by rw [hb])) ?_
          refine ez_inc ez_h89 rfl rfl (v := nI (e + 1)) (zi_1 _) rfl ?_
          refine ez_go ez_h89 1 (pc' := 26) (L' := [some (.ref 0), some (.int (nI (b))), some (.int (nI (e + 1))), some (.int (zs_z true))]) (st' := []) (w' := mz_w A9 Q U T) rfl ?_
          exact a6 _ Q U T post hA9 kk
theorem zu_scan_false {E : ze_T} (hE : ze_ok E) {b : Nat} : ∀ (s e : Nat) (row : Nat → Nat) (g : zs_G), ze_n E ≤ e + s → e ≤ ze_n E → 1 ≤ e → zr_ok E row g →
    ∃ (e' : Nat) (g' : zs_G), e ≤ e' ∧ e' ≤ ze_n E ∧ zr_ok E row g' ∧ zg_le E g g' ∧ cr_G E 45 89 [some (.ref 5), some (.int (nI (b))), some (.int (nI (ze_n E))), some (.int (nI (e)))] row g 128 [some (.ref 5), some (.int (nI (b))), some (.int (nI (ze_n E))), some (.int (nI (e')))] row g' ∧ mr_G E 89 26 [some (.ref 0), some (.int (nI (b))), some (.int (nI (e))), some (.int (zs_z false))] row g 52 [some (.ref 0), some (.int (nI (b))), some (.int (nI (e'))), some (.int (zs_z false))] row g' := by
  have hn := hE.1
  intro s
  induction s with
  | zero =>
    intro e row g h1 h2 h3 hw
    refine ⟨e, g, Nat.le_refl _, h2, hw, zg_le.rf g, ?_, ?_⟩
    · intro r q u bb post hr kk
      refine ez_go ez_h45 3 (pc' := bif decide ((nI (ze_n E)) ≤ (nI (e))) then 128 else 94) (L' := [some (.ref 5), some (.int (nI (b))), some (.int (nI (ze_n E))), some (.int (nI (e)))]) (st' := []) (w' := cz_w r q u bb) rfl ?_
      refine ez_ifT (zt_le (a := ze_n E) (b := e) (by omega) (by omega)) ?_
      exact kk _ hr
    · intro A Q U T post hA kk
      refine ez_go ez_h89 3 (pc' := 31) (L' := [some (.ref 0), some (.int (nI (b))), some (.int (nI (e))), some (.int (zs_z false))]) (st' := [.int (A.1), .int (nI (e))]) (w' := mz_w A Q U T) rfl ?_
      refine ez_top (y := nI (ze_n E)) (hA.1) ?_
      refine ez_go ez_h89 1 (pc' := bif decide ((nI (ze_n E)) ≤ (nI (e))) then 52 else 34) (L' := [some (.ref 0), some (.int (nI (b))), some (.int (nI (e))), some (.int (zs_z false))]) (st' := []) (w' := mz_w A Q U T) rfl ?_
      refine ez_ifT (zt_le (a := ze_n E) (b := e) (by omega) (by omega)) ?_
      exact kk _ hA
  | succ s ih =>
    intro e row g h1 h2 h3 hw
    by_cases he : ze_n E ≤ e
    · refine ⟨e, g, Nat.le_refl _, h2, hw, zg_le.rf g, ?_, ?_⟩
      · intro r q u bb post hr kk
        refine ez_go ez_h45 3 (pc' := bif decide ((nI (ze_n E)) ≤ (nI (e))) then 128 else 94) (L' := [some (.ref 5), some (.int (nI (b))), some (.int (nI (ze_n E))), some (.int (nI (e)))]) (st' := []) (w' := cz_w r q u bb) rfl ?_
        refine ez_ifT (zt_le (a := ze_n E) (b := e) (by omega) (by omega)) ?_
        exact kk _ hr
      · intro A Q U T post hA kk
        refine ez_go ez_h89 3 (pc' := 31) (L' := [some (.ref 0), some (.int (nI (b))), some (.int (nI (e))), some (.int (zs_z false))]) (st' := [.int (A.1), .int (nI (e))]) (w' := mz_w A Q U T) rfl ?_
        refine ez_top (y := nI (ze_n E)) (hA.1) ?_
        refine ez_go ez_h89 1 (pc' := bif decide ((nI (ze_n E)) ≤ (nI (e))) then 52 else 34) (L' := [some (.ref 0), some (.int (nI (b))), some (.int (nI (e))), some (.int (zs_z false))]) (st' := []) (w' := mz_w A Q U T) rfl ?_
        refine ez_ifT (zt_le (a := ze_n E) (b := e) (by omega) (by omega)) ?_
        exact kk _ hA
    · have hw1 := hw.go (hw.1 e (by omega)) (hw.1 (e - 1) (by omega))
      have hg1 : zg_le E g _ := zg_le.go hw (row e) (row (e - 1))
      cases hb : zs_b (ze_md E) (ze_ka E) (row e) (row (e - 1)) g with
      | false =>
        obtain ⟨e', g', a1, a2, a3, a4, a5, a6⟩ := ih (e + 1) row _ (by omega) (by omega) (by omega) hw1
        refine ⟨e', g', by omega, a2, a3, hg1.tr a4, ?_, ?_⟩
        · intro r q u bb post hr kk
          refine ez_go ez_h45 3 (pc' := bif decide ((nI (ze_n E)) ≤ (nI (e))) then 128 else 94) (L' := [some (.ref 5), some (.int (nI (b))), some (.int (nI (ze_n E))), some (.int (nI (e)))]) (st' := []) (w' := cz_w r q u bb) rfl ?_
          refine ez_ifF (zt_nle (a := ze_n E) (b := e) (by omega) (by omega)) ?_
          refine ez_go ez_h45 5 (pc' := 103) (L' := [some (.ref 5), some (.int (nI (b))), some (.int (nI (ze_n E))), some (.int (nI (e)))]) (st' := [.int (nI (e)), .ref 1, .ref 1]) (w' := cz_w r q u bb) rfl ?_
          refine ez_cl ez_h45 rfl rfl ?_
          refine cr_at hE hr (k := e) (by omega) q u bb ?_
          refine ez_go ez_h45 5 (pc' := 113) (L' := [some (.ref 5), some (.int (nI (b))), some (.int (nI (ze_n E))), some (.int (nI (e)))]) (st' := [.int ((nI (e)) - (nI (1))), .ref 1, .int (nI (ze_pi E (row e))), .ref 1]) (w' := cz_w r q u bb) rfl ?_
          refine ez_top (y := nI (e - 1)) (pk_sub (by omega)) ?_
          refine ez_cl ez_h45 rfl rfl ?_
          refine cr_at hE hr (k := e - 1) (by omega) q u bb ?_
          refine ez_cl ez_h45 rfl rfl ?_
          refine cr_less hE hr hw.2 (x := row e) (y := row (e - 1)) (hw.1 e (by omega)) (hw.1 (e - 1) (by omega)) q u bb (fun r10 hr10 => ?_)
          refine ez_go ez_h45 1 (pc' := bif decide (¬ (zs_z (zs_b (ze_md E) (ze_ka E) (row e) (row (e - 1)) g)) = 0) then 128 else 122) (L' := [some (.ref 5), some (.int (nI (b))), some (.int (nI (ze_n E))), some (.int (nI (e)))]) (st' := []) (w' := cz_w r10 q u bb) rfl ?_
          refine ez_ifF (fun z => z (zz_f hb)) ?_
          refine ez_inc ez_h45 rfl rfl (v := nI (e + 1)) (zi_1 _) rfl ?_
          refine ez_go ez_h45 1 (pc' := 89) (L' := [some (.ref 5), some (.int (nI (b))), some (.int (nI (ze_n E))), some (.int (nI (e + 1)))]) (st' := []) (w' := cz_w r10 q u bb) rfl ?_
          exact a5 _ q u bb post hr10 kk
        · intro A Q U T post hA kk
          refine ez_go ez_h89 3 (pc' := 31) (L' := [some (.ref 0), some (.int (nI (b))), some (.int (nI (e))), some (.int (zs_z false))]) (st' := [.int (A.1), .int (nI (e))]) (w' := mz_w A Q U T) rfl ?_
          refine ez_top (y := nI (ze_n E)) (hA.1) ?_
          refine ez_go ez_h89 1 (pc' := bif decide ((nI (ze_n E)) ≤ (nI (e))) then 52 else 34) (L' := [some (.ref 0), some (.int (nI (b))), some (.int (nI (e))), some (.int (zs_z false))]) (st' := []) (w' := mz_w A Q U T) rfl ?_
          refine ez_ifF (zt_nle (a := ze_n E) (b := e) (by omega) (by omega)) ?_
          refine ez_go ez_h89 5 (pc' := 39) (L' := [some (.ref 0), some (.int (nI (b))), some (.int (nI (e))), some (.int (zs_z false))]) (st' := [.int ((nI (e)) - (nI (1))), .int (nI (e)), .ref 0]) (w' := mz_w A Q U T) rfl ?_
          refine ez_top (y := nI (e - 1)) (pk_sub (by omega)) ?_
          refine ez_cl ez_h89 rfl rfl ?_
          refine mr_lessAt hE hA hw (i := e) (j := e - 1) (by omega) (by omega) Q U T (fun A11 hA11 => ?_)
          refine ez_go ez_h89 2 (pc' := bif decide (¬ (zs_z (zs_b (ze_md E) (ze_ka E) (row e) (row (e - 1)) g)) = (zs_z false)) then 52 else 46) (L' := [some (.ref 0), some (.int (nI (b))), some (.int (nI (e))), some (.int (zs_z false))]) (st' := []) (w' := mz_w A11 Q U T) rfl ?_
          refine ez_ifF (fun z => z (by rw [hb])) ?_
          refine ez_inc ez_h89 rfl rfl (v := nI (e + 1)) (zi_1 _) rfl ?_
          refine ez_go ez_h89 1 (pc' := 26) (L' := [some (.ref 0), some (.int (nI (b))), some (.int (nI (e + 1))), some (.int (zs_z false))]) (st' := []) (w' := mz_w A11 Q U T) rfl ?_
          exact a6 _ Q U T post hA11 kk
      | true =>
        refine ⟨e, _, Nat.le_refl _, h2, hw1, hg1, ?_, ?_⟩
        · intro r q u bb post hr kk
          refine ez_go ez_h45 3 (pc' := bif decide ((nI (ze_n E)) ≤ (nI (e))) then 128 else 94) (L' := [some (.ref 5), some (.int (nI (b))), some (.int (nI (ze_n E))), some (.int (nI (e)))]) (st' := []) (w' := cz_w r q u bb) rfl ?_
          refine ez_ifF (zt_nle (a := ze_n E) (b := e) (by omega) (by omega)) ?_
          refine ez_go ez_h45 5 (pc' := 103) (L' := [some (.ref 5), some (.int (nI (b))), some (.int (nI (ze_n E))), some (.int (nI (e)))]) (st' := [.int (nI (e)), .ref 1, .ref 1]) (w' := cz_w r q u bb) rfl ?_
          refine ez_cl ez_h45 rfl rfl ?_
          refine cr_at hE hr (k := e) (by omega) q u bb ?_
          refine ez_go ez_h45 5 (pc' := 113) (L' := [some (.ref 5), some (.int (nI (b))), some (.int (nI (ze_n E))), some (.int (nI (e)))]) (st' := [.int ((nI (e)) - (nI (1))), .ref 1, .int (nI (ze_pi E (row e))), .ref 1]) (w' := cz_w r q u bb) rfl ?_
          refine ez_top (y := nI (e - 1)) (pk_sub (by omega)) ?_
          refine ez_cl ez_h45 rfl rfl ?_
          refine cr_at hE hr (k := e - 1) (by omega) q u bb ?_
          refine ez_cl ez_h45 rfl rfl ?_
          refine cr_less hE hr hw.2 (x := row e) (y := row (e - 1)) (hw.1 e (by omega)) (hw.1 (e - 1) (by omega)) q u bb (fun r12 hr12 => ?_)
          refine ez_go ez_h45 1 (pc' := bif decide (¬ (zs_z (zs_b (ze_md E) (ze_ka E) (row e) (row (e - 1)) g)) = 0) then 128 else 122) (L' := [some (.ref 5), some (.int (nI (b))), some (.int (nI (ze_n E))), some (.int (nI (e)))]) (st' := []) (w' := cz_w r12 q u bb) rfl ?_
          refine ez_ifT (zz_t hb) ?_
          exact kk _ hr12
        · intro A Q U T post hA kk
          refine ez_go ez_h89 3 (pc' := 31) (L' := [some (.ref 0), some (.int (nI (b))), some (.int (nI (e))), some (.int (zs_z false))]) (st' := [.int (A.1), .int (nI (e))]) (w' := mz_w A Q U T) rfl ?_
          refine ez_top (y := nI (ze_n E)) (hA.1) ?_
          refine ez_go ez_h89 1 (pc' := bif decide ((nI (ze_n E)) ≤ (nI (e))) then 52 else 34) (L' := [some (.ref 0), some (.int (nI (b))), some (.int (nI (e))), some (.int (zs_z false))]) (st' := []) (w' := mz_w A Q U T) rfl ?_
          refine ez_ifF (zt_nle (a := ze_n E) (b := e) (by omega) (by omega)) ?_
          refine ez_go ez_h89 5 (pc' := 39) (L' := [some (.ref 0), some (.int (nI (b))), some (.int (nI (e))), some (.int (zs_z false))]) (st' := [.int ((nI (e)) - (nI (1))), .int (nI (e)), .ref 0]) (w' := mz_w A Q U T) rfl ?_
          refine ez_top (y := nI (e - 1)) (pk_sub (by omega)) ?_
          refine ez_cl ez_h89 rfl rfl ?_
          refine mr_lessAt hE hA hw (i := e) (j := e - 1) (by omega) (by omega) Q U T (fun A13 hA13 => ?_)
          refine ez_go ez_h89 2 (pc' := bif decide (¬ (zs_z (zs_b (ze_md E) (ze_ka E) (row e) (row (e - 1)) g)) = (zs_z false)) then 52 else 46) (L' := [some (.ref 0), some (.int (nI (b))), some (.int (nI (e))), some (.int (zs_z false))]) (st' := []) (w' := mz_w A13 Q U T) rfl ?_
          refine ez_ifT (zz_ne (by rw [hb]; decide)) ?_
          exact kk _ hA13
/-- a RUN from b on: where it ends -/
theorem zu_run {E : ze_T} (hE : ze_ok E) {b : Nat} (hb : b < ze_n E) {row : Nat → Nat} {g : zs_G} (hw : zr_ok E row g) :
    ∃ (row' : Nat → Nat) (g' : zs_G) (e : Nat), b < e ∧ e ≤ ze_n E ∧ zr_ok E row' g' ∧ zg_le E g g' ∧ zp_in row row' b (ze_n E) ∧
      cr_M E 45 [.ref 5, .int (nI b), .int (nI (ze_n E))] row g (some (.int (nI e))) row' g' ∧ mr_M E 89 [.ref 0, .int (nI b)] row g (some (.int (nI e))) row' g' := by
  have hn := hE.1
  by_cases h1 : b + 1 = ze_n E
  · refine ⟨row, g, b + 1, by omega, by omega, hw, zg_le.rf g, zp_in.rf _ _ _, ?_, ?_⟩
    · rw [h1]
      refine cr_H.m (L := [some (.ref 5), some (.int (nI (b))), some (.int (nI (ze_n E))), none]) (fun r q u bb post hr kk => ?_) rfl rfl rfl
      refine ez_go ez_h45 3 (pc' := 3) (L' := [some (.ref 5), some (.int (nI (b))), some (.int (nI (ze_n E))), none]) (st' := [.int ((nI (b)) + (nI (2)))]) (w' := cz_w r q u bb) rfl ?_
      refine ez_top (y := nI (b + 2)) (nI_add _ _) ?_
      refine ez_go ez_h45 4 (pc' := bif decide ((nI (b + 2)) ≤ (nI (ze_n E))) then 11 else 9) (L' := [some (.ref 5), some (.int (nI (b))), some (.int (nI (ze_n E))), some (.int (nI (b + 2)))]) (st' := []) (w' := cz_w r q u bb) rfl ?_
      refine ez_ifF (zt_nle (a := b + 2) (b := ze_n E) (by omega) (by omega)) ?_
      refine ez_go ez_h45 1 (pc' := 10) (L' := [some (.ref 5), some (.int (nI (b))), some (.int (nI (ze_n E))), some (.int (nI (b + 2)))]) (st' := [.int (nI (ze_n E))]) (w' := cz_w r q u bb) rfl ?_
      exact ez_iret rfl ez_h45 rfl rfl (kk _ hr)
    · refine mr_H.m (L := [some (.ref 0), some (.int (nI (b))), none, none]) (fun A Q U T post hA kk => ?_) rfl rfl rfl
      refine ez_go ez_h89 3 (pc' := 3) (L' := [some (.ref 0), some (.int (nI (b))), none, none]) (st' := [.int ((nI (b)) + (nI (1)))]) (w' := mz_w A Q U T) rfl ?_
      refine ez_top (y := nI (b + 1)) (nI_add _ _) ?_
      refine ez_go ez_h89 4 (pc' := 9) (L' := [some (.ref 0), some (.int (nI (b))), some (.int (nI (b + 1))), none]) (st' := [.int (A.1), .int (nI (b + 1))]) (w' := mz_w A Q U T) rfl ?_
      refine ez_top (y := nI (ze_n E)) (hA.1) ?_
      refine ez_go ez_h89 1 (pc' := bif decide (¬ (nI (b + 1)) = (nI (ze_n E))) then 14 else 12) (L' := [some (.ref 0), some (.int (nI (b))), some (.int (nI (b + 1))), none]) (st' := []) (w' := mz_w A Q U T) rfl ?_
      refine ez_ifF (fun z => z (zt_eq (by omega))) ?_
      refine ez_go ez_h89 1 (pc' := 13) (L' := [some (.ref 0), some (.int (nI (b))), some (.int (nI (b + 1))), none]) (st' := [.int (nI (b + 1))]) (w' := mz_w A Q U T) rfl ?_
      exact ez_iret rfl ez_h89 rfl rfl (kk _ hA)
  · have hw1 := hw.go (hw.1 (b + 1) (by omega)) (hw.1 b (by omega))
    have hg1 : zg_le E g _ := zg_le.go hw (row (b + 1)) (row b)
    cases hf : zs_b (ze_md E) (ze_ka E) (row (b + 1)) (row b) g with
    | false =>
      obtain ⟨e, g1, a1, a2, a3, a4, a5, a6⟩ := zu_scan_false hE (b := b) (ze_n E) (b + 2) row _ (by omega) (by omega) (by omega) hw1
      refine ⟨row, g1, e, by omega, a2, a3, hg1.tr a4, zp_in.rf _ _ _, ?_, ?_⟩
      · refine cr_H.m (L := [some (.ref 5), some (.int (nI (b))), some (.int (nI (ze_n E))), none]) (fun r q u bb post hr kk => ?_) rfl rfl rfl
        refine ez_go ez_h45 3 (pc' := 3) (L' := [some (.ref 5), some (.int (nI (b))), some (.int (nI (ze_n E))), none]) (st' := [.int ((nI (b)) + (nI (2)))]) (w' := cz_w r q u bb) rfl ?_
        refine ez_top (y := nI (b + 2)) (nI_add _ _) ?_
        refine ez_go ez_h45 4 (pc' := bif decide ((nI (b + 2)) ≤ (nI (ze_n E))) then 11 else 9) (L' := [some (.ref 5), some (.int (nI (b))), some (.int (nI (ze_n E))), some (.int (nI (b + 2)))]) (st' := []) (w' := cz_w r q u bb) rfl ?_
        refine ez_ifT (zt_le (a := b + 2) (b := ze_n E) (by omega) (by omega)) ?_
        refine ez_go ez_h45 7 (pc' := 22) (L' := [some (.ref 5), some (.int (nI (b))), some (.int (nI (ze_n E))), some (.int (nI (b + 2)))]) (st' := [.int ((nI (b)) + (nI (1))), .ref 1, .ref 1]) (w' := cz_w r q u bb) rfl ?_
        refine ez_top (y := nI (b + 1)) (nI_add _ _) ?_
        refine ez_cl ez_h45 rfl rfl ?_
        refine cr_at hE hr (k := b + 1) (by omega) q u bb ?_
        refine ez_go ez_h45 3 (pc' := 30) (L' := [some (.ref 5), some (.int (nI (b))), some (.int (nI (ze_n E))), some (.int (nI (b + 2)))]) (st' := [.int (nI (b)), .ref 1, .int (nI (ze_pi E (row (b + 1)))), .ref 1]) (w' := cz_w r q u bb) rfl ?_
        refine ez_cl ez_h45 rfl rfl ?_
        refine cr_at hE hr (k := b) (by omega) q u bb ?_
        refine ez_cl ez_h45 rfl rfl ?_
        refine cr_less hE hr hw.2 (x := row (b + 1)) (y := row b) (hw.1 (b + 1) (by omega)) (hw.1 b (by omega)) q u bb (fun r14 hr14 => ?_)
        refine ez_go ez_h45 1 (pc' := bif decide ((zs_z (zs_b (ze_md E) (ze_ka E) (row (b + 1)) (row b) g)) = 0) then 89 else 39) (L' := [some (.ref 5), some (.int (nI (b))), some (.int (nI (ze_n E))), some (.int (nI (b + 2)))]) (st' := []) (w' := cz_w r14 q u bb) rfl ?_
        refine ez_ifT (zz_f hf) ?_
        refine a5 _ q u bb post hr14 (fun r8 hr8 => ?_)
        refine ez_go ez_h45 1 (pc' := 129) (L' := [some (.ref 5), some (.int (nI (b))), some (.int (nI (ze_n E))), some (.int (nI (e)))]) (st' := [.int (nI (e))]) (w' := cz_w r8 q u bb) rfl ?_
        exact ez_iret rfl ez_h45 rfl rfl (kk _ hr8)
      · refine mr_H.m (L := [some (.ref 0), some (.int (nI (b))), none, none]) (fun A Q U T post hA kk => ?_) rfl rfl rfl
        refine ez_go ez_h89 3 (pc' := 3) (L' := [some (.ref 0), some (.int (nI (b))), none, none]) (st' := [.int ((nI (b)) + (nI (1)))]) (w' := mz_w A Q U T) rfl ?_
        refine ez_top (y := nI (b + 1)) (nI_add _ _) ?_
        refine ez_go ez_h89 4 (pc' := 9) (L' := [some (.ref 0), some (.int (nI (b))), some (.int (nI (b + 1))), none]) (st' := [.int (A.1), .int (nI (b + 1))]) (w' := mz_w A Q U T) rfl ?_
        refine ez_top (y := nI (ze_n E)) (hA.1) ?_
        refine ez_go ez_h89 1 (pc' := bif decide (¬ (nI (b + 1)) = (nI (ze_n E))) then 14 else 12) (L' := [some (.ref 0), some (.int (nI (b))), some (.int (nI (b + 1))), none]) (st' := []) (w' := mz_w A Q U T) rfl ?_
        refine ez_ifT (zt_ne (by omega) (by omega) (by omega)) ?_
        refine ez_go ez_h89 5 (pc' := 19) (L' := [some (.ref 0), some (.int (nI (b))), some (.int (nI (b + 1))), none]) (st' := [.int ((nI (b + 1)) - (nI (1))), .int (nI (b + 1)), .ref 0]) (w' := mz_w A Q U T) rfl ?_
        refine ez_top (y := nI ((b + 1) - 1)) (pk_sub (by omega)) ?_
        refine ez_cl ez_h89 rfl rfl ?_
        refine mr_lessAt hE hA hw (i := b + 1) (j := (b + 1) - 1) (by omega) (by omega) Q U T (fun A15 hA15 => ?_)
        refine ez_go ez_h89 1 (pc' := 23) (L' := [some (.ref 0), some (.int (nI (b))), some (.int (nI (b + 1))), some (.int (zs_z (zs_b (ze_md E) (ze_ka E) (row (b + 1)) (row ((b + 1) - 1)) g)))]) (st' := []) (w' := mz_w A15 Q U T) rfl ?_
        refine ez_inc ez_h89 rfl rfl (v := nI ((b + 1) + 1)) (zi_1 _) rfl ?_
        rw [Nat.add_sub_cancel] at hA15 ⊢
        rw [hf]
        refine a6 _ Q U T post hA15 (fun A8 hA8 => ?_)
        refine ez_go ez_h89 2 (pc' := bif decide ((zs_z false) = 0) then 62 else 56) (L' := [some (.ref 0), some (.int (nI (b))), some (.int (nI (e))), some (.int (zs_z false))]) (st' := []) (w' := mz_w A8 Q U T) rfl ?_
        refine ez_ifT (zz_f rfl) ?_
        refine ez_go ez_h89 1 (pc' := 63) (L' := [some (.ref 0), some (.int (nI (b))), some (.int (nI (e))), some (.int (zs_z false))]) (st' := [.int (nI (e))]) (w' := mz_w A8 Q U T) rfl ?_
        exact ez_iret rfl ez_h89 rfl rfl (kk _ hA8)
    | true =>
      obtain ⟨e, g1, a1, a2, a3, a4, a5, a6⟩ := zu_scan_true hE (b := b) (ze_n E) (b + 2) row _ (by omega) (by omega) (by omega) hw1
      obtain ⟨row', v1, v2, v3, v4⟩ := zu_rev hE (b := b) (e := e) (by omega) (by omega) a2 a3
      refine ⟨row', g1, e, by omega, a2, v1, hg1.tr a4, v2.wide (Nat.le_refl _) a2, ?_, ?_⟩
      · refine cr_H.m (L := [some (.ref 5), some (.int (nI (b))), some (.int (nI (ze_n E))), none]) (fun r q u bb post hr kk => ?_) rfl rfl rfl
        refine ez_go ez_h45 3 (pc' := 3) (L' := [some (.ref 5), some (.int (nI (b))), some (.int (nI (ze_n E))), none]) (st' := [.int ((nI (b)) + (nI (2)))]) (w' := cz_w r q u bb) rfl ?_
        refine ez_top (y := nI (b + 2)) (nI_add _ _) ?_
        refine ez_go ez_h45 4 (pc' := bif decide ((nI (b + 2)) ≤ (nI (ze_n E))) then 11 else 9) (L' := [some (.ref 5), some (.int (nI (b))), some (.int (nI (ze_n E))), some (.int (nI (b + 2)))]) (st' := []) (w' := cz_w r q u bb) rfl ?_
        refine ez_ifT (zt_le (a := b + 2) (b := ze_n E) (by omega) (by omega)) ?_
        refine ez_go ez_h45 7 (pc' := 22) (L' := [some (.ref 5), some (.int (nI (b))), some (.int (nI (ze_n E))), some (.int (nI (b + 2)))]) (st' := [.int ((nI (b)) + (nI (1))), .ref 1, .ref 1]) (w' := cz_w r q u bb) rfl ?_
        refine ez_top (y := nI (b + 1)) (nI_add _ _) ?_
        refine ez_cl ez_h45 rfl rfl ?_
        refine cr_at hE hr (k := b + 1) (by omega) q u bb ?_
        refine ez_go ez_h45 3 (pc' := 30) (L' := [some (.ref 5), some (.int (nI (b))), some (.int (nI (ze_n E))), some (.int (nI (b + 2)))]) (st' := [.int (nI (b)), .ref 1, .int (nI (ze_pi E (row (b + 1)))), .ref 1]) (w' := cz_w r q u bb) rfl ?_
        refine ez_cl ez_h45 rfl rfl ?_
        refine cr_at hE hr (k := b) (by omega) q u bb ?_
        refine ez_cl ez_h45 rfl rfl ?_
        refine cr_less hE hr hw.2 (x := row (b + 1)) (y := row b) (hw.1 (b + 1) (by omega)) (hw.1 b (by omega)) q u bb (fun r16 hr16 => ?_)
        refine ez_go ez_h45 1 (pc' := bif decide ((zs_z (zs_b (ze_md E) (ze_ka E) (row (b + 1)) (row b) g)) = 0) then 89 else 39) (L' := [some (.ref 5), some (.int (nI (b))), some (.int (nI (ze_n E))), some (.int (nI (b + 2)))]) (st' := []) (w' := cz_w r16 q u bb) rfl ?_
        refine ez_ifF (zz_t hf) ?_
        refine a5 _ q u bb post hr16 (fun r8 hr8 => ?_)
        refine ez_go ez_h45 4 (pc' := 84) (L' := [some (.ref 5), some (.int (nI (b))), some (.int (nI (ze_n E))), some (.int (nI (e)))]) (st' := [.int (nI (e)), .int (nI (b)), .ref 1]) (w' := cz_w r8 q u bb) rfl ?_
        refine ez_cl ez_h45 rfl rfl ?_
        refine v3 _ q u bb _ hr8 (fun r7 hr7 => ?_)
        refine ez_go ez_h45 1 (pc' := 88) (L' := [some (.ref 5), some (.int (nI (b))), some (.int (nI (ze_n E))), some (.int (nI (e)))]) (st' := [.int (nI (e))]) (w' := cz_w r7 q u bb) rfl ?_
        exact ez_iret rfl ez_h45 rfl rfl (kk _ hr7)
      · refine mr_H.m (L := [some (.ref 0), some (.int (nI (b))), none, none]) (fun A Q U T post hA kk => ?_) rfl rfl rfl
        refine ez_go ez_h89 3 (pc' := 3) (L' := [some (.ref 0), some (.int (nI (b))), none, none]) (st' := [.int ((nI (b)) + (nI (1)))]) (w' := mz_w A Q U T) rfl ?_
        refine ez_top (y := nI (b + 1)) (nI_add _ _) ?_
        refine ez_go ez_h89 4 (pc' := 9) (L' := [some (.ref 0), some (.int (nI (b))), some (.int (nI (b + 1))), none]) (st' := [.int (A.1), .int (nI (b + 1))]) (w' := mz_w A Q U T) rfl ?_
        refine ez_top (y := nI (ze_n E)) (hA.1) ?_
        refine ez_go ez_h89 1 (pc' := bif decide (¬ (nI (b + 1)) = (nI (ze_n E))) then 14 else 12) (L' := [some (.ref 0), some (.int (nI (b))), some (.int (nI (b + 1))), none]) (st' := []) (w' := mz_w A Q U T) rfl ?_
        refine ez_ifT (zt_ne (by omega) (by omega) (by omega)) ?_
        refine ez_go ez_h89 5 (pc' := 19) (L' := [some (.ref 0), some (.int (nI (b))), some (.int (nI (b + 1))), none]) (st' := [.int ((nI (b + 1)) - (nI (1))), .int (nI (b + 1)), .ref 0]) (w' := mz_w A Q U T) rfl ?_
        refine ez_top (y := nI ((b + 1) - 1)) (pk_sub (by omega)) ?_
        refine ez_cl ez_h89 rfl rfl ?_
        refine mr_lessAt hE hA hw (i := b + 1) (j := (b + 1) - 1) (by omega) (by omega) Q U T (fun A17 hA17 => ?_)
        refine ez_go ez_h89 1 (pc' := 23) (L' := [some (.ref 0), some (.int (nI (b))), some (.int (nI (b + 1))), some (.int (zs_z (zs_b (ze_md E) (ze_ka E) (row (b + 1)) (row ((b + 1) - 1)) g)))]) (st' := []) (w' := mz_w A17 Q U T) rfl ?_
        refine ez_inc ez_h89 rfl rfl (v := nI ((b + 1) + 1)) (zi_1 _) rfl ?_
        rw [Nat.add_sub_cancel] at hA17 ⊢
        rw [hf]
        refine a6 _ Q U T post hA17 (fun A8 hA8 => ?_)
        refine ez_go ez_h89 2 (pc' := bif decide ((zs_z true) = 0) then 62 else 56) (L' := [some (.ref 0), some (.int (nI (b))), some (.int (nI (e))), some (.int (zs_z true))]) (st' := []) (w' := mz_w A8 Q U T) rfl ?_
        refine ez_ifF (zz_t rfl) ?_
        refine ez_go ez_h89 3 (pc' := 59) (L' := [some (.ref 0), some (.int (nI (b))), some (.int (nI (e))), some (.int (zs_z true))]) (st' := [.int (nI (e)), .int (nI (b)), .ref 0]) (w' := mz_w A8 Q U T) rfl ?_
        refine ez_cl ez_h89 rfl rfl ?_
        refine v4 _ Q U T _ hA8 (fun A7 hA7 => ?_)
        refine ez_go ez_h89 1 (pc' := 63) (L' := [some (.ref 0), some (.int (nI (b))), some (.int (nI (e))), some (.int (zs_z true))]) (st' := [.int (nI (e))]) (w' := mz_w A7 Q U T) rfl ?_
        exact ez_iret rfl ez_h89 rfl rfl (kk _ hA7)
end
section
/-- a place by halves -/
theorem zu_half {E : ze_T} (hE : ze_ok E) {x : Nat} (hx : x < ze_n E) : ∀ (s lo hi : Nat) (row : Nat → Nat) (g : zs_G), hi ≤ lo + s → lo ≤ hi → hi ≤ ze_n E → zr_ok E row g →
    ∃ (lo' : Nat) (g' : zs_G), lo ≤ lo' ∧ lo' ≤ hi ∧ zr_ok E row g' ∧ zg_le E g g' ∧
      (∀ b pl : Nat, cr_G E 47 15 [some (.ref 5), some (.int (nI (b))), some (.int (nI (pl))), some (.int (nI (ze_pi E (x)))), some (.int (nI (lo))), some (.int (nI (hi))), none] row g 67 [some (.ref 5), some (.int (nI (b))), some (.int (nI (pl))), some (.int (nI (ze_pi E (x)))), some (.int (nI (lo'))), none, none] row g') ∧ (∀ b fr to pl : Nat, mr_G E 90 25 [some (.ref 0), some (.int (nI (b))), some (.int (nI (fr))), some (.int (nI (to))), some (.int (nI (pl))), some (.int (nI (x))), some (.int (nI (lo))), some (.int (nI (hi))), none] row g 73 [some (.ref 0), some (.int (nI (b))), some (.int (nI (fr))), some (.int (nI (to))), some (.int (nI (pl))), some (.int (nI (x))), some (.int (nI (lo'))), none, none] row g') := by
  have hn := hE.1
  intro s
  induction s with
  | zero =>
    intro lo hi row g h1 h2 h3 hw
    refine ⟨lo, g, Nat.le_refl _, h2, hw, zg_le.rf g, fun b pl => ?_, fun b fr to pl => ?_⟩
    · intro r q u bb post hr kk
      refine ez_go ez_h47 3 (pc' := bif decide ((nI (hi)) ≤ (nI (lo))) then 67 else 22) (L' := [some (.ref 5), some (.int (nI (b))), some (.int (nI (pl))), some (.int (nI (ze_pi E (x)))), some (.int (nI (lo))), some (.int (nI (hi))), none]) (st' := []) (w' := cz_w r q u bb) rfl ?_
      refine ez_ifT (zt_le (a := hi) (b := lo) (by omega) (by omega)) ?_
      exact ez_E.le (ez_lc (ez_lc (ez_lc (ez_lc (ez_lc (ez_ln (ez_lc ez_l0))))))) (kk _ hr)
    · intro A Q U T post hA kk
      refine ez_go ez_h90 3 (pc' := bif decide ((nI (hi)) ≤ (nI (lo))) then 73 else 32) (L' := [some (.ref 0), some (.int (nI (b))), some (.int (nI (fr))), some (.int (nI (to))), some (.int (nI (pl))), some (.int (nI (x))), some (.int (nI (lo))), some (.int (nI (hi))), none]) (st' := []) (w' := mz_w A Q U T) rfl ?_
      refine ez_ifT (zt_le (a := hi) (b := lo) (by omega) (by omega)) ?_
      exact ez_E.le (ez_lc (ez_lc (ez_lc (ez_lc (ez_lc (ez_lc (ez_lc (ez_ln (ez_lc ez_l0))))))))) (kk _ hA)
  | succ s ih =>
    intro lo hi row g h1 h2 h3 hw
    by_cases hl : hi ≤ lo
    · refine ⟨lo, g, Nat.le_refl _, h2, hw, zg_le.rf g, fun b pl => ?_, fun b fr to pl => ?_⟩
      · intro r q u bb post hr kk
        refine ez_go ez_h47 3 (pc' := bif decide ((nI (hi)) ≤ (nI (lo))) then 67 else 22) (L' := [some (.ref 5), some (.int (nI (b))), some (.int (nI (pl))), some (.int (nI (ze_pi E (x)))), some (.int (nI (lo))), some (.int (nI (hi))), none]) (st' := []) (w' := cz_w r q u bb) rfl ?_
        refine ez_ifT (zt_le (a := hi) (b := lo) (by omega) (by omega)) ?_
        exact ez_E.le (ez_lc (ez_lc (ez_lc (ez_lc (ez_lc (ez_ln (ez_lc ez_l0))))))) (kk _ hr)
      · intro A Q U T post hA kk
        refine ez_go ez_h90 3 (pc' := bif decide ((nI (hi)) ≤ (nI (lo))) then 73 else 32) (L' := [some (.ref 0), some (.int (nI (b))), some (.int (nI (fr))), some (.int (nI (to))), some (.int (nI (pl))), some (.int (nI (x))), some (.int (nI (lo))), some (.int (nI (hi))), none]) (st' := []) (w' := mz_w A Q U T) rfl ?_
        refine ez_ifT (zt_le (a := hi) (b := lo) (by omega) (by omega)) ?_
        exact ez_E.le (ez_lc (ez_lc (ez_lc (ez_lc (ez_lc (ez_lc (ez_lc (ez_ln (ez_lc ez_l0))))))))) (kk _ hA)
    · have hw1 := hw.go hx (hw.1 ((lo + hi) / 2) (by omega))
      have hg1 : zg_le E g _ := zg_le.go hw x (row ((lo + hi) / 2))
      cases hb : zs_b (ze_md E) (ze_ka E) x (row ((lo + hi) / 2)) g with
      | false =>
        obtain ⟨lo', g', a1, a2, a3, a4, a5, a6⟩ := ih ((lo + hi) / 2 + 1) hi row _ (by omega) (by omega) (by omega) hw1
        refine ⟨lo', g', by omega, by omega, a3, hg1.tr a4, fun b pl => ?_, fun b fr to pl => ?_⟩
        · intro r q u bb post hr kk
          refine ez_go ez_h47 3 (pc' := bif decide ((nI (hi)) ≤ (nI (lo))) then 67 else 22) (L' := [some (.ref 5), some (.int (nI (b))), some (.int (nI (pl))), some (.int (nI (ze_pi E (x)))), some (.int (nI (lo))), some (.int (nI (hi))), none]) (st' := []) (w' := cz_w r q u bb) rfl ?_
          refine ez_ifF (zt_nle (a := hi) (b := lo) (by omega) (by omega)) ?_
          refine ez_go ez_h47 3 (pc' := 27) (L' := [some (.ref 5), some (.int (nI (b))), some (.int (nI (pl))), some (.int (nI (ze_pi E (x)))), some (.int (nI (lo))), some (.int (nI (hi))), none]) (st' := [.int ((nI (lo)) + (nI (hi)))]) (w' := cz_w r q u bb) rfl ?_
          refine ez_top (y := nI (lo + hi)) (nI_add _ _) ?_
          refine ez_go ez_h47 2 (pc' := 29) (L' := [some (.ref 5), some (.int (nI (b))), some (.int (nI (pl))), some (.int (nI (ze_pi E (x)))), some (.int (nI (lo))), some (.int (nI (hi))), none]) (st' := [.int ((nI (lo + hi)) / (nI (2)))]) (w' := cz_w r q u bb) rfl ?_
          refine ez_top (y := nI ((lo + hi) / 2)) (pk_div (by omega) (by omega) (by omega)) ?_
          refine ez_go ez_h47 7 (pc' := 42) (L' := [some (.ref 5), some (.int (nI (b))), some (.int (nI (pl))), some (.int (nI (ze_pi E (x)))), some (.int (nI (lo))), some (.int (nI (hi))), some (.int (nI ((lo + hi) / 2)))]) (st' := [.int (nI ((lo + hi) / 2)), .ref 1, .int (nI (ze_pi E (x))), .ref 1]) (w' := cz_w r q u bb) rfl ?_
          refine ez_cl ez_h47 rfl rfl ?_
          refine cr_at hE hr (k := (lo + hi) / 2) (by omega) q u bb ?_
          refine ez_cl ez_h47 rfl rfl ?_
          refine cr_less hE hr hw.2 (x := x) (y := row ((lo + hi) / 2)) hx (hw.1 ((lo + hi) / 2) (by omega)) q u bb (fun r4 hr4 => ?_)
          refine ez_go ez_h47 1 (pc' := bif decide ((zs_z (zs_b (ze_md E) (ze_ka E) x (row ((lo + hi) / 2)) g)) = 0) then 58 else 51) (L' := [some (.ref 5), some (.int (nI (b))), some (.int (nI (pl))), some (.int (nI (ze_pi E (x)))), some (.int (nI (lo))), some (.int (nI (hi))), some (.int (nI ((lo + hi) / 2)))]) (st' := []) (w' := cz_w r4 q u bb) rfl ?_
          refine ez_ifT (zz_f hb) ?_
          refine ez_go ez_h47 3 (pc' := 62) (L' := [some (.ref 5), some (.int (nI (b))), some (.int (nI (pl))), some (.int (nI (ze_pi E (x)))), some (.int (nI (lo))), some (.int (nI (hi))), some (.int (nI ((lo + hi) / 2)))]) (st' := [.int ((nI ((lo + hi) / 2)) + (nI (1)))]) (w' := cz_w r4 q u bb) rfl ?_
          refine ez_top (y := nI (((lo + hi) / 2) + 1)) (nI_add _ _) ?_
          refine ez_go ez_h47 2 (pc' := 15) (L' := [some (.ref 5), some (.int (nI (b))), some (.int (nI (pl))), some (.int (nI (ze_pi E (x)))), some (.int (nI (((lo + hi) / 2) + 1))), some (.int (nI (hi))), some (.int (nI ((lo + hi) / 2)))]) (st' := []) (w' := cz_w r4 q u bb) rfl ?_
          exact ez_E.le (ez_lc (ez_lc (ez_lc (ez_lc (ez_lc (ez_lc (ez_ln ez_l0))))))) (a5 b pl _ q u bb post hr4 kk)
        · intro A Q U T post hA kk
          refine ez_go ez_h90 3 (pc' := bif decide ((nI (hi)) ≤ (nI (lo))) then 73 else 32) (L' := [some (.ref 0), some (.int (nI (b))), some (.int (nI (fr))), some (.int (nI (to))), some (.int (nI (pl))), some (.int (nI (x))), some (.int (nI (lo))), some (.int (nI (hi))), none]) (st' := []) (w' := mz_w A Q U T) rfl ?_
          refine ez_ifF (zt_nle (a := hi) (b := lo) (by omega) (by omega)) ?_
          refine ez_go ez_h90 3 (pc' := 37) (L' := [some (.ref 0), some (.int (nI (b))), some (.int (nI (fr))), some (.int (nI (to))), some (.int (nI (pl))), some (.int (nI (x))), some (.int (nI (lo))), some (.int (nI (hi))), none]) (st' := [.int ((nI (lo)) + (nI (hi)))]) (w' := mz_w A Q U T) rfl ?_
          refine ez_top (y := nI (lo + hi)) (nI_add _ _) ?_
          refine ez_go ez_h90 2 (pc' := 39) (L' := [some (.ref 0), some (.int (nI (b))), some (.int (nI (fr))), some (.int (nI (to))), some (.int (nI (pl))), some (.int (nI (x))), some (.int (nI (lo))), some (.int (nI (hi))), none]) (st' := [.int ((nI (lo + hi)) / (nI (2)))]) (w' := mz_w A Q U T) rfl ?_
          refine ez_top (y := nI ((lo + hi) / 2)) (pk_div (by omega) (by omega) (by omega)) ?_
          refine ez_go ez_h90 6 (pc' := 50) (L' := [some (.ref 0), some (.int (nI (b))), some (.int (nI (fr))), some (.int (nI (to))), some (.int (nI (pl))), some (.int (nI (x))), some (.int (nI (lo))), some (.int (nI (hi))), some (.int (nI ((lo + hi) / 2)))]) (st' := [.int (nI ((lo + hi) / 2)), .ref 4, .int (nI (x)), .ref 0]) (w' := mz_w A Q U T) rfl ?_
          refine mr_ld ez_h90 rfl hE hA (k := (lo + hi) / 2) (by omega) ?_
          refine ez_cl ez_h90 rfl rfl ?_
          refine mr_less hE hA hw.2 (x := x) (y := row ((lo + hi) / 2)) hx (hw.1 ((lo + hi) / 2) (by omega)) Q U T (fun A5 hA5 => ?_)
          refine ez_go ez_h90 1 (pc' := bif decide ((zs_z (zs_b (ze_md E) (ze_ka E) x (row ((lo + hi) / 2)) g)) = 0) then 64 else 57) (L' := [some (.ref 0), some (.int (nI (b))), some (.int (nI (fr))), some (.int (nI (to))), some (.int (nI (pl))), some (.int (nI (x))), some (.int (nI (lo))), some (.int (nI (hi))), some (.int (nI ((lo + hi) / 2)))]) (st' := []) (w' := mz_w A5 Q U T) rfl ?_
          refine ez_ifT (zz_f hb) ?_
          refine ez_go ez_h90 3 (pc' := 68) (L' := [some (.ref 0), some (.int (nI (b))), some (.int (nI (fr))), some (.int (nI (to))), some (.int (nI (pl))), some (.int (nI (x))), some (.int (nI (lo))), some (.int (nI (hi))), some (.int (nI ((lo + hi) / 2)))]) (st' := [.int ((nI ((lo + hi) / 2)) + (nI (1)))]) (w' := mz_w A5 Q U T) rfl ?_
          refine ez_top (y := nI (((lo + hi) / 2) + 1)) (nI_add _ _) ?_
          refine ez_go ez_h90 2 (pc' := 25) (L' := [some (.ref 0), some (.int (nI (b))), some (.int (nI (fr))), some (.int (nI (to))), some (.int (nI (pl))), some (.int (nI (x))), some (.int (nI (((lo + hi) / 2) + 1))), some (.int (nI (hi))), some (.int (nI ((lo + hi) / 2)))]) (st' := []) (w' := mz_w A5 Q U T) rfl ?_
          exact ez_E.le (ez_lc (ez_lc (ez_lc (ez_lc (ez_lc (ez_lc (ez_lc (ez_lc (ez_ln ez_l0))))))))) (a6 b fr to pl _ Q U T post hA5 kk)
      | true =>
        obtain ⟨lo', g', a1, a2, a3, a4, a5, a6⟩ := ih lo ((lo + hi) / 2) row _ (by omega) (by omega) (by omega) hw1
        refine ⟨lo', g', by omega, by omega, a3, hg1.tr a4, fun b pl => ?_, fun b fr to pl => ?_⟩
        · intro r q u bb post hr kk
          refine ez_go ez_h47 3 (pc' := bif decide ((nI (hi)) ≤ (nI (lo))) then 67 else 22) (L' := [some (.ref 5), some (.int (nI (b))), some (.int (nI (pl))), some (.int (nI (ze_pi E (x)))), some (.int (nI (lo))), some (.int (nI (hi))), none]) (st' := []) (w' := cz_w r q u bb) rfl ?_
          refine ez_ifF (zt_nle (a := hi) (b := lo) (by omega) (by omega)) ?_
          refine ez_go ez_h47 3 (pc' := 27) (L' := [some (.ref 5), some (.int (nI (b))), some (.int (nI (pl))), some (.int (nI (ze_pi E (x)))), some (.int (nI (lo))), some (.int (nI (hi))), none]) (st' := [.int ((nI (lo)) + (nI (hi)))]) (w' := cz_w r q u bb) rfl ?_
          refine ez_top (y := nI (lo + hi)) (nI_add _ _) ?_
          refine ez_go ez_h47 2 (pc' := 29) (L' := [some (.ref 5), some (.int (nI (b))), some (.int (nI (pl))), some (.int (nI (ze_pi E (x)))), some (.int (nI (lo))), some (.int (nI (hi))), none]) (st' := [.int ((nI (lo + hi)) / (nI (2)))]) (w' := cz_w r q u bb) rfl ?_
          refine ez_top (y := nI ((lo + hi) / 2)) (pk_div (by omega) (by omega) (by omega)) ?_
          refine ez_go ez_h47 7 (pc' := 42) (L' := [some (.ref 5), some (.int (nI (b))), some (.int (nI (pl))), some (.int (nI (ze_pi E (x)))), some (.int (nI (lo))), some (.int (nI (hi))), some (.int (nI ((lo + hi) / 2)))]) (st' := [.int (nI ((lo + hi) / 2)), .ref 1, .int (nI (ze_pi E (x))), .ref 1]) (w' := cz_w r q u bb) rfl ?_
          refine ez_cl ez_h47 rfl rfl ?_
          refine cr_at hE hr (k := (lo + hi) / 2) (by omega) q u bb ?_
          refine ez_cl ez_h47 rfl rfl ?_
          refine cr_less hE hr hw.2 (x := x) (y := row ((lo + hi) / 2)) hx (hw.1 ((lo + hi) / 2) (by omega)) q u bb (fun r6 hr6 => ?_)
          refine ez_go ez_h47 1 (pc' := bif decide ((zs_z (zs_b (ze_md E) (ze_ka E) x (row ((lo + hi) / 2)) g)) = 0) then 58 else 51) (L' := [some (.ref 5), some (.int (nI (b))), some (.int (nI (pl))), some (.int (nI (ze_pi E (x)))), some (.int (nI (lo))), some (.int (nI (hi))), some (.int (nI ((lo + hi) / 2)))]) (st' := []) (w' := cz_w r6 q u bb) rfl ?_
          refine ez_ifF (zz_t hb) ?_
          refine ez_go ez_h47 4 (pc' := 15) (L' := [some (.ref 5), some (.int (nI (b))), some (.int (nI (pl))), some (.int (nI (ze_pi E (x)))), some (.int (nI (lo))), some (.int (nI ((lo + hi) / 2))), some (.int (nI ((lo + hi) / 2)))]) (st' := []) (w' := cz_w r6 q u bb) rfl ?_
          exact ez_E.le (ez_lc (ez_lc (ez_lc (ez_lc (ez_lc (ez_lc (ez_ln ez_l0))))))) (a5 b pl _ q u bb post hr6 kk)
        · intro A Q U T post hA kk
          refine ez_go ez_h90 3 (pc' := bif decide ((nI (hi)) ≤ (nI (lo))) then 73 else 32) (L' := [some (.ref 0), some (.int (nI (b))), some (.int (nI (fr))), some (.int (nI (to))), some (.int (nI (pl))), some (.int (nI (x))), some (.int (nI (lo))), some (.int (nI (hi))), none]) (st' := []) (w' := mz_w A Q U T) rfl ?_
          refine ez_ifF (zt_nle (a := hi) (b := lo) (by omega) (by omega)) ?_
          refine ez_go ez_h90 3 (pc' := 37) (L' := [some (.ref 0), some (.int (nI (b))), some (.int (nI (fr))), some (.int (nI (to))), some (.int (nI (pl))), some (.int (nI (x))), some (.int (nI (lo))), some (.int (nI (hi))), none]) (st' := [.int ((nI (lo)) + (nI (hi)))]) (w' := mz_w A Q U T) rfl ?_
          refine ez_top (y := nI (lo + hi)) (nI_add _ _) ?_
          refine ez_go ez_h90 2 (pc' := 39) (L' := [some (.ref 0), some (.int (nI (b))), some (.int (nI (fr))), some (.int (nI (to))), some (.int (nI (pl))), some (.int (nI (x))), some (.int (nI (lo))), some (.int (nI (hi))), none]) (st' := [.int ((nI (lo + hi)) / (nI (2)))]) (w' := mz_w A Q U T) rfl ?_
          refine ez_top (y := nI ((lo + hi) / 2)) (pk_div (by omega) (by omega) (by omega)) ?_
          refine ez_go ez_h90 6 (pc' := 50) (L' := [some (.ref 0), some (.int (nI (b))), some (.int (nI (fr))), some (.int (nI (to))), some (.int (nI (pl))), some (.int (nI (x))), some (.int (nI (lo))), some (.int (nI (hi))), some (.int (nI ((lo + hi) / 2)))]) (st' := [.int (nI ((lo + hi) / 2)), .ref 4, .int (nI (x)), .ref 0]) (w' := mz_w A Q U T) rfl ?_
          refine mr_ld ez_h90 rfl hE hA (k := (lo + hi) / 2) (by omega) ?_
          refine ez_cl ez_h90 rfl rfl ?_
          refine mr_less hE hA hw.2 (x := x) (y := row ((lo + hi) / 2)) hx (hw.1 ((lo + hi) / 2) (by omega)) Q U T (fun A7 hA7 => ?_)
          refine ez_go ez_h90 1 (pc' := bif decide ((zs_z (zs_b (ze_md E) (ze_ka E) x (row ((lo + hi) / 2)) g)) = 0) then 64 else 57) (L' := [some (.ref 0), some (.int (nI (b))), some (.int (nI (fr))), some (.int (nI (to))), some (.int (nI (pl))), some (.int (nI (x))), some (.int (nI (lo))), some (.int (nI (hi))), some (.int (nI ((lo + hi) / 2)))]) (st' := []) (w' := mz_w A7 Q U T) rfl ?_
          refine ez_ifF (zz_t hb) ?_
          refine ez_go ez_h90 4 (pc' := 25) (L' := [some (.ref 0), some (.int (nI (b))), some (.int (nI (fr))), some (.int (nI (to))), some (.int (nI (pl))), some (.int (nI (x))), some (.int (nI (lo))), some (.int (nI ((lo + hi) / 2))), some (.int (nI ((lo + hi) / 2)))]) (st' := []) (w' := mz_w A7 Q U T) rfl ?_
          exact ez_E.le (ez_lc (ez_lc (ez_lc (ez_lc (ez_lc (ez_lc (ez_lc (ez_lc (ez_ln ez_l0))))))))) (a6 b fr to pl _ Q U T post hA7 kk)
/-- those from lo on one further -/
theorem zu_shift {E : ze_T} (hE : ze_ok E) {x : Nat} (hx : x < ze_n E) {lo : Nat} : ∀ (s j : Nat) (row : Nat → Nat) (g : zs_G), j ≤ lo + s → lo ≤ j → j < ze_n E → zr_ok E row g →
    ∃ (row' : Nat → Nat), zr_ok E row' g ∧ (∀ k, row' k = if lo < k ∧ k ≤ j then row (k - 1) else row k) ∧
      (∀ b pl : Nat, cr_G E 47 70 [some (.ref 5), some (.int (nI (b))), some (.int (nI (pl))), some (.int (nI (ze_pi E (x)))), some (.int (nI (lo))), none, some (.int (nI (j)))] row g 103 [some (.ref 5), some (.int (nI (b))), some (.int (nI (pl))), some (.int (nI (ze_pi E (x)))), some (.int (nI (lo))), none, none] row' g) ∧ (∀ b fr to pl : Nat, mr_G E 90 77 [some (.ref 0), some (.int (nI (b))), some (.int (nI (fr))), some (.int (nI (to))), some (.int (nI (pl))), some (.int (nI (x))), some (.int (nI (lo))), none, some (.int (nI (j)))] row g 106 [some (.ref 0), some (.int (nI (b))), some (.int (nI (fr))), some (.int (nI (to))), some (.int (nI (pl))), some (.int (nI (x))), some (.int (nI (lo))), none, none] row' g) := by
  have hn := hE.1
  intro s
  induction s with
  | zero =>
    intro j row g h1 h2 h3 hw
    refine ⟨row, hw, fun k => by rw [if_neg (by omega)], fun b pl => ?_, fun b fr to pl => ?_⟩
    · intro r q u bb post hr kk
      refine ez_go ez_h47 3 (pc' := bif decide ((nI (j)) ≤ (nI (lo))) then 103 else 77) (L' := [some (.ref 5), some (.int (nI (b))), some (.int (nI (pl))), some (.int (nI (ze_pi E (x)))), some (.int (nI (lo))), none, some (.int (nI (j)))]) (st' := []) (w' := cz_w r q u bb) rfl ?_
      refine ez_ifT (zt_le (a := j) (b := lo) (by omega) (by omega)) ?_
      exact ez_E.le (ez_lc (ez_lc (ez_lc (ez_lc (ez_lc (ez_lc (ez_ln ez_l0))))))) (kk _ hr)
    · intro A Q U T post hA kk
      refine ez_go ez_h90 3 (pc' := bif decide ((nI (j)) ≤ (nI (lo))) then 106 else 84) (L' := [some (.ref 0), some (.int (nI (b))), some (.int (nI (fr))), some (.int (nI (to))), some (.int (nI (pl))), some (.int (nI (x))), some (.int (nI (lo))), none, some (.int (nI (j)))]) (st' := []) (w' := mz_w A Q U T) rfl ?_
      refine ez_ifT (zt_le (a := j) (b := lo) (by omega) (by omega)) ?_
      exact ez_E.le (ez_lc (ez_lc (ez_lc (ez_lc (ez_lc (ez_lc (ez_lc (ez_lc (ez_ln ez_l0))))))))) (kk _ hA)
  | succ s ih =>
    intro j row g h1 h2 h3 hw
    by_cases hl : j ≤ lo
    · refine ⟨row, hw, fun k => by rw [if_neg (by omega)], fun b pl => ?_, fun b fr to pl => ?_⟩
      · intro r q u bb post hr kk
        refine ez_go ez_h47 3 (pc' := bif decide ((nI (j)) ≤ (nI (lo))) then 103 else 77) (L' := [some (.ref 5), some (.int (nI (b))), some (.int (nI (pl))), some (.int (nI (ze_pi E (x)))), some (.int (nI (lo))), none, some (.int (nI (j)))]) (st' := []) (w' := cz_w r q u bb) rfl ?_
        refine ez_ifT (zt_le (a := j) (b := lo) (by omega) (by omega)) ?_
        exact ez_E.le (ez_lc (ez_lc (ez_lc (ez_lc (ez_lc (ez_lc (ez_ln ez_l0))))))) (kk _ hr)
      · intro A Q U T post hA kk
        refine ez_go ez_h90 3 (pc' := bif decide ((nI (j)) ≤ (nI (lo))) then 106 else 84) (L' := [some (.ref 0), some (.int (nI (b))), some (.int (nI (fr))), some (.int (nI (to))), some (.int (nI (pl))), some (.int (nI (x))), some (.int (nI (lo))), none, some (.int (nI (j)))]) (st' := []) (w' := mz_w A Q U T) rfl ?_
        refine ez_ifT (zt_le (a := j) (b := lo) (by omega) (by omega)) ?_
        exact ez_E.le (ez_lc (ez_lc (ez_lc (ez_lc (ez_lc (ez_lc (ez_lc (ez_lc (ez_ln ez_l0))))))))) (kk _ hA)
    · obtain ⟨row', a1, a2, a3, a4⟩ := ih (j - 1) (va_up row j (row (j - 1))) g (by omega) (by omega) (by omega) (hw.set (hw.1 (j - 1) (by omega)))
      refine ⟨row', a1, fun k => ?_, fun b pl => ?_, fun b fr to pl => ?_⟩
      · rw [a2 k]
        by_cases c1 : lo < k ∧ k ≤ j - 1
        · rw [if_pos c1, if_pos (by omega), va_up_ne _ _ (by omega)]
        · rw [if_neg c1]
          by_cases c2 : k = j
          · rw [c2, va_up_self, if_pos (by omega)]
          · rw [va_up_ne _ _ c2, if_neg (by omega)]
      · intro r q u bb post hr kk
        refine ez_go ez_h47 3 (pc' := bif decide ((nI (j)) ≤ (nI (lo))) then 103 else 77) (L' := [some (.ref 5), some (.int (nI (b))), some (.int (nI (pl))), some (.int (nI (ze_pi E (x)))), some (.int (nI (lo))), none, some (.int (nI (j)))]) (st' := []) (w' := cz_w r q u bb) rfl ?_
        refine ez_ifF (zt_nle (a := j) (b := lo) (by omega) (by omega)) ?_
        refine ez_go ez_h47 8 (pc' := 91) (L' := [some (.ref 5), some (.int (nI (b))), some (.int (nI (pl))), some (.int (nI (ze_pi E (x)))), some (.int (nI (lo))), none, some (.int (nI (j)))]) (st' := [.int ((nI (j)) - (nI (1))), .ref 1, .int (nI (j)), .ref 1]) (w' := cz_w r q u bb) rfl ?_
        refine ez_top (y := nI (j - 1)) (pk_sub (by omega)) ?_
        refine ez_cl ez_h47 rfl rfl ?_
        refine cr_at hE hr (k := j - 1) (by omega) q u bb ?_
        refine ez_cl ez_h47 rfl rfl ?_
        refine cr_set hE hr (k := j) (x := row (j - 1)) (by omega) q u bb (fun r8 hr8 => ?_)
        refine ez_inc ez_h47 rfl rfl (v := nI (j - 1)) (zi_m (by omega)) rfl ?_
        refine ez_go ez_h47 1 (pc' := 70) (L' := [some (.ref 5), some (.int (nI (b))), some (.int (nI (pl))), some (.int (nI (ze_pi E (x)))), some (.int (nI (lo))), none, some (.int (nI (j - 1)))]) (st' := []) (w' := cz_w r8 q u bb) rfl ?_
        exact a3 b pl _ q u bb post hr8 kk
      · intro A Q U T post hA kk
        refine ez_go ez_h90 3 (pc' := bif decide ((nI (j)) ≤ (nI (lo))) then 106 else 84) (L' := [some (.ref 0), some (.int (nI (b))), some (.int (nI (fr))), some (.int (nI (to))), some (.int (nI (pl))), some (.int (nI (x))), some (.int (nI (lo))), none, some (.int (nI (j)))]) (st' := []) (w' := mz_w A Q U T) rfl ?_
        refine ez_ifF (zt_nle (a := j) (b := lo) (by omega) (by omega)) ?_
        refine ez_go ez_h90 8 (pc' := 98) (L' := [some (.ref 0), some (.int (nI (b))), some (.int (nI (fr))), some (.int (nI (to))), some (.int (nI (pl))), some (.int (nI (x))), some (.int (nI (lo))), none, some (.int (nI (j)))]) (st' := [.int ((nI (j)) - (nI (1))), .ref 4, .int (nI (j)), .ref 4]) (w' := mz_w A Q U T) rfl ?_
        refine ez_top (y := nI (j - 1)) (pk_sub (by omega)) ?_
        refine mr_ld ez_h90 rfl hE hA (k := j - 1) (by omega) ?_
        refine mr_st ez_h90 rfl hE hA (k := j) (x := row (j - 1)) (by omega) (fun A9 hA9 => ?_)
        refine ez_inc ez_h90 rfl rfl (v := nI (j - 1)) (zi_m (by omega)) rfl ?_
        refine ez_go ez_h90 1 (pc' := 77) (L' := [some (.ref 0), some (.int (nI (b))), some (.int (nI (fr))), some (.int (nI (to))), some (.int (nI (pl))), some (.int (nI (x))), some (.int (nI (lo))), none, some (.int (nI (j - 1)))]) (st' := []) (w' := mz_w A9 Q U T) rfl ?_
        exact a4 b fr to pl _ Q U T post hA9 kk
theorem zu_ins {E : ze_T} (hE : ze_ok E) {b pl : Nat} (hb : b ≤ pl) (hp : pl < ze_n E) {row : Nat → Nat} {g : zs_G} (hw : zr_ok E row g) :
    ∃ (row' : Nat → Nat) (g' : zs_G), zr_ok E row' g' ∧ zg_le E g g' ∧ zp_in row row' b (pl + 1) ∧
      cr_M E 47 [.ref 5, .int (nI b), .int (nI pl)] row g none row' g' ∧ (∀ fr to : Nat, mr_G E 90 9 [some (.ref 0), some (.int (nI (b))), some (.int (nI (fr))), some (.int (nI (to))), some (.int (nI (pl))), none, none, none, none] row g 115 [some (.ref 0), some (.int (nI (b))), some (.int (nI (fr))), some (.int (nI (to))), some (.int (nI (pl))), none, none, none, none] row' g') := by
  have hn := hE.1
  have hx : row pl < ze_n E := hw.1 _ hp
  obtain ⟨lo, g', a1, a2, a3, a4, a5, a6⟩ := zu_half hE hx pl b pl row g (by omega) hb (by omega) hw
  obtain ⟨row', b1, b2, b3, b4⟩ := zu_shift hE hx (lo := lo) pl pl row g' (by omega) a2 hp a3
  refine ⟨va_up row' lo (row pl), g', b1.set hx, a4, ⟨fun k k1 k2 => ?_, fun k hk => ?_⟩, ?_, fun fr to => ?_⟩
  · by_cases c1 : k = lo
    · exact ⟨pl, by omega, by omega, by rw [c1, va_up_self]⟩
    · rw [va_up_ne _ _ c1, b2 k]
      by_cases c2 : lo < k ∧ k ≤ pl
      · exact ⟨k - 1, by omega, by omega, by rw [if_pos c2]⟩
      · exact ⟨k, k1, k2, by rw [if_neg c2]⟩
  · rw [va_up_ne _ _ (by omega), b2 k, if_neg (by omega)]
  · refine cr_H.m (L := [some (.ref 5), some (.int (nI (b))), some (.int (nI (pl))), none, none, none, none]) (fun r q u bb post hr kk => ?_) rfl rfl rfl
    refine ez_go ez_h47 3 (pc' := 5) (L' := [some (.ref 5), some (.int (nI (b))), some (.int (nI (pl))), none, none, none, none]) (st' := [.int (nI (pl)), .ref 1]) (w' := cz_w r q u bb) rfl ?_
    refine ez_cl ez_h47 rfl rfl ?_
    refine cr_at hE hr (k := pl) (by omega) q u bb ?_
    refine ez_go ez_h47 5 (pc' := 15) (L' := [some (.ref 5), some (.int (nI (b))), some (.int (nI (pl))), some (.int (nI (ze_pi E (row pl)))), some (.int (nI (b))), some (.int (nI (pl))), none]) (st' := []) (w' := cz_w r q u bb) rfl ?_
    refine a5 b pl _ q u bb post hr (fun r8 hr8 => ?_)
    refine ez_go ez_h47 2 (pc' := 70) (L' := [some (.ref 5), some (.int (nI (b))), some (.int (nI (pl))), some (.int (nI (ze_pi E (row pl)))), some (.int (nI (lo))), none, some (.int (nI (pl)))]) (st' := []) (w' := cz_w r8 q u bb) rfl ?_
    refine b3 b pl _ q u bb post hr8 (fun r9 hr9 => ?_)
    refine ez_go ez_h47 4 (pc' := 110) (L' := [some (.ref 5), some (.int (nI (b))), some (.int (nI (pl))), some (.int (nI (ze_pi E (row pl)))), some (.int (nI (lo))), none, none]) (st' := [.int (nI (ze_pi E (row pl))), .int (nI (lo)), .ref 1]) (w' := cz_w r9 q u bb) rfl ?_
    refine ez_cl ez_h47 rfl rfl ?_
    refine cr_set hE hr9 (k := lo) (x := row pl) (by omega) q u bb (fun r10 hr10 => ?_)
    exact ez_vret rfl ez_h47 rfl rfl (kk _ hr10)
  · intro A Q U T post hA kk
    refine ez_go ez_h90 3 (pc' := 15) (L' := [some (.ref 0), some (.int (nI (b))), some (.int (nI (fr))), some (.int (nI (to))), some (.int (nI (pl))), none, none, none, none]) (st' := [.int (nI (pl)), .ref 4]) (w' := mz_w A Q U T) rfl ?_
    refine mr_ld ez_h90 rfl hE hA (k := pl) (by omega) ?_
    refine ez_go ez_h90 5 (pc' := 25) (L' := [some (.ref 0), some (.int (nI (b))), some (.int (nI (fr))), some (.int (nI (to))), some (.int (nI (pl))), some (.int (nI (row pl))), some (.int (nI (b))), some (.int (nI (pl))), none]) (st' := []) (w' := mz_w A Q U T) rfl ?_
    refine a6 b fr to pl _ Q U T post hA (fun A8 hA8 => ?_)
    refine ez_go ez_h90 2 (pc' := 77) (L' := [some (.ref 0), some (.int (nI (b))), some (.int (nI (fr))), some (.int (nI (to))), some (.int (nI (pl))), some (.int (nI (row pl))), some (.int (nI (lo))), none, some (.int (nI (pl)))]) (st' := []) (w' := mz_w A8 Q U T) rfl ?_
    refine b4 b fr to pl _ Q U T post hA8 (fun A9 hA9 => ?_)
    refine ez_go ez_h90 4 (pc' := 114) (L' := [some (.ref 0), some (.int (nI (b))), some (.int (nI (fr))), some (.int (nI (to))), some (.int (nI (pl))), some (.int (nI (row pl))), some (.int (nI (lo))), none, none]) (st' := [.int (nI (row pl)), .int (nI (lo)), .ref 4]) (w' := mz_w A9 Q U T) rfl ?_
    refine mr_st ez_h90 rfl hE hA9 (k := lo) (x := row pl) (by omega) (fun A11 hA11 => ?_)
    exact ez_E.le (ez_lc (ez_lc (ez_lc (ez_lc (ez_lc (ez_ln (ez_ln (ez_lc (ez_lc ez_l0))))))))) (kk _ hA11)
theorem zu_len {E : ze_T} (hE : ze_ok E) {b to : Nat} (ht : to ≤ ze_n E) : ∀ (s i : Nat) (row : Nat → Nat) (g : zs_G), to ≤ i + s → b ≤ i → i ≤ 600 → zr_ok E row g →
    ∃ (row' : Nat → Nat) (g' : zs_G), zr_ok E row' g' ∧ zg_le E g g' ∧ zp_in row row' b (max to i) ∧
      (∀ e : Nat, cr_G E 46 13 [some (.ref 5), some (.int (nI (b))), some (.int (nI (e))), some (.int (nI (ze_n E))), some (.int (nI (to))), some (.int (nI (i)))] row g 33 [some (.ref 5), some (.int (nI (b))), some (.int (nI (e))), some (.int (nI (ze_n E))), some (.int (nI (to))), none] row' g') ∧ (∀ e : Nat, mr_H E 90 3 [some (.ref 0), some (.int (nI (b))), some (.int (nI (e))), some (.int (nI (to))), some (.int (nI (i))), none, none, none, none] row g none row' g') := by
  have hn := hE.1
  intro s
  induction s with
  | zero =>
    intro i row g h1 h2 h3 hw
    refine ⟨row, g, hw, zg_le.rf g, zp_in.rf _ _ _, fun e => ?_, fun e => ?_⟩
    · intro r q u bb post hr kk
      refine ez_go ez_h46 3 (pc' := bif decide ((nI (to)) ≤ (nI (i))) then 33 else 20) (L' := [some (.ref 5), some (.int (nI (b))), some (.int (nI (e))), some (.int (nI (ze_n E))), some (.int (nI (to))), some (.int (nI (i)))]) (st' := []) (w' := cz_w r q u bb) rfl ?_
      refine ez_ifT (zt_le (a := to) (b := i) (by omega) (by omega)) ?_
      exact ez_E.le (ez_lc (ez_lc (ez_lc (ez_lc (ez_lc (ez_ln ez_l0)))))) (kk _ hr)
    · intro A Q U T post hA kk
      refine ez_go ez_h90 3 (pc' := bif decide ((nI (to)) ≤ (nI (i))) then 121 else 9) (L' := [some (.ref 0), some (.int (nI (b))), some (.int (nI (e))), some (.int (nI (to))), some (.int (nI (i))), none, none, none, none]) (st' := []) (w' := mz_w A Q U T) rfl ?_
      refine ez_ifT (zt_le (a := to) (b := i) (by omega) (by omega)) ?_
      exact ez_vret rfl ez_h90 rfl rfl (kk _ hA)
  | succ s ih =>
    intro i row g h1 h2 h3 hw
    by_cases hi : to ≤ i
    · refine ⟨row, g, hw, zg_le.rf g, zp_in.rf _ _ _, fun e => ?_, fun e => ?_⟩
      · intro r q u bb post hr kk
        refine ez_go ez_h46 3 (pc' := bif decide ((nI (to)) ≤ (nI (i))) then 33 else 20) (L' := [some (.ref 5), some (.int (nI (b))), some (.int (nI (e))), some (.int (nI (ze_n E))), some (.int (nI (to))), some (.int (nI (i)))]) (st' := []) (w' := cz_w r q u bb) rfl ?_
        refine ez_ifT (zt_le (a := to) (b := i) (by omega) (by omega)) ?_
        exact ez_E.le (ez_lc (ez_lc (ez_lc (ez_lc (ez_lc (ez_ln ez_l0)))))) (kk _ hr)
      · intro A Q U T post hA kk
        refine ez_go ez_h90 3 (pc' := bif decide ((nI (to)) ≤ (nI (i))) then 121 else 9) (L' := [some (.ref 0), some (.int (nI (b))), some (.int (nI (e))), some (.int (nI (to))), some (.int (nI (i))), none, none, none, none]) (st' := []) (w' := mz_w A Q U T) rfl ?_
        refine ez_ifT (zt_le (a := to) (b := i) (by omega) (by omega)) ?_
        exact ez_vret rfl ez_h90 rfl rfl (kk _ hA)
    · obtain ⟨row1, g1, a1, a2, a3, a4, a5⟩ := zu_ins hE (b := b) (pl := i) h2 (by omega) hw
      obtain ⟨row', g', b1, b2, b3, b4, b5⟩ := ih (i + 1) row1 g1 (by omega) (by omega) (by omega) a1
      refine ⟨row', g', b1, a2.tr b2, (a3.wide (Nat.le_refl _) (by omega)).tr (b3.wide (Nat.le_refl _) (by omega)), fun e => ?_, fun e => ?_⟩
      · intro r q u bb post hr kk
        refine ez_go ez_h46 3 (pc' := bif decide ((nI (to)) ≤ (nI (i))) then 33 else 20) (L' := [some (.ref 5), some (.int (nI (b))), some (.int (nI (e))), some (.int (nI (ze_n E))), some (.int (nI (to))), some (.int (nI (i)))]) (st' := []) (w' := cz_w r q u bb) rfl ?_
        refine ez_ifF (zt_nle (a := to) (b := i) (by omega) (by omega)) ?_
        refine ez_go ez_h46 3 (pc' := 24) (L' := [some (.ref 5), some (.int (nI (b))), some (.int (nI (e))), some (.int (nI (ze_n E))), some (.int (nI (to))), some (.int (nI (i)))]) (st' := [.int (nI (i)), .int (nI (b)), .ref 5]) (w' := cz_w r q u bb) rfl ?_
        refine ez_cl ez_h46 rfl rfl ?_
        refine a4 _ q u bb _ hr (fun r9 hr9 => ?_)
        refine ez_inc ez_h46 rfl rfl (v := nI (i + 1)) (zi_1 _) rfl ?_
        refine ez_go ez_h46 1 (pc' := 13) (L' := [some (.ref 5), some (.int (nI (b))), some (.int (nI (e))), some (.int (nI (ze_n E))), some (.int (nI (to))), some (.int (nI (i + 1)))]) (st' := []) (w' := cz_w r9 q u bb) rfl ?_
        exact b4 e _ q u bb post hr9 kk
      · intro A Q U T post hA kk
        refine ez_go ez_h90 3 (pc' := bif decide ((nI (to)) ≤ (nI (i))) then 121 else 9) (L' := [some (.ref 0), some (.int (nI (b))), some (.int (nI (e))), some (.int (nI (to))), some (.int (nI (i))), none, none, none, none]) (st' := []) (w' := mz_w A Q U T) rfl ?_
        refine ez_ifF (zt_nle (a := to) (b := i) (by omega) (by omega)) ?_
        refine a5 e to _ Q U T post hA (fun A9 hA9 => ?_)
        refine ez_inc ez_h90 rfl rfl (v := nI (i + 1)) (zi_1 _) rfl ?_
        refine ez_go ez_h90 1 (pc' := 3) (L' := [some (.ref 0), some (.int (nI (b))), some (.int (nI (e))), some (.int (nI (to))), some (.int (nI (i + 1))), none, none, none, none]) (st' := []) (w' := mz_w A9 Q U T) rfl ?_
        exact b5 e _ Q U T post hA9 kk
/-- a RUN becomes one of 16, or of all that are left -/
theorem zu_lengthen {E : ze_T} (hE : ze_ok E) {b e : Nat} (hb : b ≤ e) (he : e ≤ ze_n E) {row : Nat → Nat} {g : zs_G} (hw : zr_ok E row g) :
    ∃ (row' : Nat → Nat) (g' : zs_G), zr_ok E row' g' ∧ zg_le E g g' ∧ zp_in row row' b (ze_n E) ∧
      cr_M E 46 [.ref 5, .int (nI b), .int (nI e), .int (nI (ze_n E))] row g (some (.int (nI (max e (min (b + 16) (ze_n E)))))) row' g' ∧
      (e < b + 16 → mr_M E 90 [.ref 0, .int (nI b), .int (nI e), .int (nI (min (b + 16) (ze_n E)))] row g none row' g') ∧ (b + 16 ≤ e → row' = row ∧ g' = g) := by
  have hn := hE.1
  by_cases h16 : b + 16 ≤ e
  · refine ⟨row, g, hw, zg_le.rf g, zp_in.rf _ _ _, ?_, fun z => by omega, fun _ => ⟨rfl, rfl⟩⟩
    refine cr_H.m (L := [some (.ref 5), some (.int (nI (b))), some (.int (nI (e))), some (.int (nI (ze_n E))), none, none]) (fun r q u bb post hr kk => ?_) rfl rfl rfl
    refine ez_go ez_h46 3 (pc' := 4) (L' := [some (.ref 5), some (.int (nI (b))), some (.int (nI (e))), some (.int (nI (ze_n E))), none, none]) (st' := [.int ((nI (b)) + (nI (16)))]) (w' := cz_w r q u bb) rfl ?_
    refine ez_top (y := nI (b + 16)) (nI_add _ _) ?_
    refine ez_go ez_h46 1 (pc' := 5) (L' := [some (.ref 5), some (.int (nI (b))), some (.int (nI (e))), some (.int (nI (ze_n E))), none, none]) (st' := [.int (nI (ze_n E)), .int (nI (b + 16))]) (w' := cz_w r q u bb) rfl ?_
    refine ez_min ez_h46 rfl rfl (by omega) (by omega) ?_
    refine ez_go ez_h46 6 (pc' := bif decide ((nI (min (b + 16) (ze_n E))) ≤ (nI (e))) then 33 else 20) (L' := [some (.ref 5), some (.int (nI (b))), some (.int (nI (e))), some (.int (nI (ze_n E))), some (.int (nI (min (b + 16) (ze_n E)))), some (.int (nI (e)))]) (st' := []) (w' := cz_w r q u bb) rfl ?_
    refine ez_ifT (zt_le (a := min (b + 16) (ze_n E)) (b := e) (by omega) (by omega)) ?_
    refine ez_go ez_h46 2 (pc' := 36) (L' := [some (.ref 5), some (.int (nI (b))), some (.int (nI (e))), some (.int (nI (ze_n E))), some (.int (nI (min (b + 16) (ze_n E)))), some (.int (nI (e)))]) (st' := [.int (nI (min (b + 16) (ze_n E))), .int (nI (e))]) (w' := cz_w r q u bb) rfl ?_
    refine ez_max ez_h46 rfl rfl (by omega) (by omega) ?_
    exact ez_iret rfl ez_h46 rfl rfl (kk _ hr)
  · obtain ⟨row', g', a1, a2, a3, a4, a5⟩ := zu_len hE (b := b) (to := min (b + 16) (ze_n E)) (by omega) 600 e row g (by omega) hb (by omega) hw
    refine ⟨row', g', a1, a2, a3.wide (Nat.le_refl _) (by omega), ?_, fun _ => ?_, fun z => by omega⟩
    · refine cr_H.m (L := [some (.ref 5), some (.int (nI (b))), some (.int (nI (e))), some (.int (nI (ze_n E))), none, none]) (fun r q u bb post hr kk => ?_) rfl rfl rfl
      refine ez_go ez_h46 3 (pc' := 4) (L' := [some (.ref 5), some (.int (nI (b))), some (.int (nI (e))), some (.int (nI (ze_n E))), none, none]) (st' := [.int ((nI (b)) + (nI (16)))]) (w' := cz_w r q u bb) rfl ?_
      refine ez_top (y := nI (b + 16)) (nI_add _ _) ?_
      refine ez_go ez_h46 1 (pc' := 5) (L' := [some (.ref 5), some (.int (nI (b))), some (.int (nI (e))), some (.int (nI (ze_n E))), none, none]) (st' := [.int (nI (ze_n E)), .int (nI (b + 16))]) (w' := cz_w r q u bb) rfl ?_
      refine ez_min ez_h46 rfl rfl (by omega) (by omega) ?_
      refine ez_go ez_h46 3 (pc' := 13) (L' := [some (.ref 5), some (.int (nI (b))), some (.int (nI (e))), some (.int (nI (ze_n E))), some (.int (nI (min (b + 16) (ze_n E)))), some (.int (nI (e)))]) (st' := []) (w' := cz_w r q u bb) rfl ?_
      refine a4 e _ q u bb post hr (fun r8 hr8 => ?_)
      refine ez_go ez_h46 2 (pc' := 36) (L' := [some (.ref 5), some (.int (nI (b))), some (.int (nI (e))), some (.int (nI (ze_n E))), some (.int (nI (min (b + 16) (ze_n E)))), none]) (st' := [.int (nI (min (b + 16) (ze_n E))), .int (nI (e))]) (w' := cz_w r8 q u bb) rfl ?_
      refine ez_max ez_h46 rfl rfl (by omega) (by omega) ?_
      exact ez_iret rfl ez_h46 rfl rfl (kk _ hr8)
    · refine mr_H.m (L := [some (.ref 0), some (.int (nI (b))), some (.int (nI (e))), some (.int (nI (min (b + 16) (ze_n E)))), none, none, none, none, none]) (fun A Q U T post hA kk => ?_) rfl rfl rfl
      refine ez_go ez_h90 2 (pc' := 3) (L' := [some (.ref 0), some (.int (nI (b))), some (.int (nI (e))), some (.int (nI (min (b + 16) (ze_n E)))), some (.int (nI (e))), none, none, none, none]) (st' := []) (w' := mz_w A Q U T) rfl ?_
      exact a5 e _ Q U T post hA kk
end
section
theorem zm_keep {mo : Nat → Int32} {rc : Nat → Nat} {b k x : Nat} (h : ∀ j, b ≤ j → j < k → mo j = nI (rc j)) (hx : rc k = x) : ∀ j, b ≤ j → j < k + 1 → upd mo k (nI x) j = nI (rc j) := fun j h1 h2 => by
  by_cases e : j = k
  · rw [e, pk_us, hx]
  · rw [pk_un e]; exact h j h1 (by omega)
theorem zm_tr {E : ze_T} (hE : ze_ok E) {b c e : Nat} (he : e ≤ ze_n E) (hc : b ≤ c) {row rc : Nat → Nat} {g : zs_G} (hw : zr_ok E row g) : ∀ (s ri : Nat) (mo : Nat → Int32), e ≤ ri + s → ri ≤ e → c ≤ ri → (∀ k, ri ≤ k → rc k = row k) → (∀ k, b ≤ k → k < ri → mo k = nI (rc k)) →
    ∀ (A : mz_A) (Q : mz_Q) (U1 U2 : Int64) (U3 : Int32) (U4 U5 : Nat → Int32) (T : mz_T) (t : Nat) (post : Option Value → ez_W → Prop), mr_R E row g A → (∀ (A' : mz_A) (mo' : Nat → Int32), mr_R E row g A' → (∀ k, b ≤ k → k < e → mo' k = nI (rc k)) → ez_E 91 132 [some (.ref 0), some (.int (nI (t))), some (.int (nI (b))), some (.int (nI (c))), some (.int (nI (e))), none, none, none, none] [] (mz_w A' Q (U1, U2, U3, U4, U5, mo') T) post) → ez_E 91 35 [some (.ref 0), some (.int (nI (t))), some (.int (nI (b))), some (.int (nI (c))), some (.int (nI (e))), some (.int (nI (c))), some (.int (nI (ri))), some (.int (nI (ri))), none] [] (mz_w A Q (U1, U2, U3, U4, U5, mo) T) post := by
  have hn := hE.1
  intro s
  induction s with
  | zero =>
    intro ri mo h1 h2 h3 h4 h5 A Q U1 U2 U3 U4 U5 T t post hA kk
    refine ez_go ez_h91 3 (pc' := bif decide ((nI (e)) ≤ (nI (ri))) then 132 else 42) (L' := [some (.ref 0), some (.int (nI (t))), some (.int (nI (b))), some (.int (nI (c))), some (.int (nI (e))), some (.int (nI (c))), some (.int (nI (ri))), some (.int (nI (ri))), none]) (st' := []) (w' := mz_w A Q (U1, U2, U3, U4, U5, mo) T) rfl ?_
    refine ez_ifT (zt_le (a := e) (b := ri) (by omega) (by omega)) ?_
    exact ez_E.le (ez_lc (ez_lc (ez_lc (ez_lc (ez_lc (ez_ln (ez_ln (ez_ln (ez_lc ez_l0))))))))) (kk _ mo hA (fun k k1 k2 => h5 k k1 (by omega)))
  | succ s ih =>
    intro ri mo h1 h2 h3 h4 h5 A Q U1 U2 U3 U4 U5 T t post hA kk
    by_cases hr : e ≤ ri
    · skip
      refine ez_go ez_h91 3 (pc' := bif decide ((nI (e)) ≤ (nI (ri))) then 132 else 42) (L' := [some (.ref 0), some (.int (nI (t))), some (.int (nI (b))), some (.int (nI (c))), some (.int (nI (e))), some (.int (nI (c))), some (.int (nI (ri))), some (.int (nI (ri))), none]) (st' := []) (w' := mz_w A Q (U1, U2, U3, U4, U5, mo) T) rfl ?_
      refine ez_ifT (zt_le (a := e) (b := ri) (by omega) (by omega)) ?_
      exact ez_E.le (ez_lc (ez_lc (ez_lc (ez_lc (ez_lc (ez_ln (ez_ln (ez_ln (ez_lc ez_l0))))))))) (kk _ mo hA (fun k k1 k2 => h5 k k1 (by omega)))
    · skip
      refine ez_go ez_h91 3 (pc' := bif decide ((nI (e)) ≤ (nI (ri))) then 132 else 42) (L' := [some (.ref 0), some (.int (nI (t))), some (.int (nI (b))), some (.int (nI (c))), some (.int (nI (e))), some (.int (nI (c))), some (.int (nI (ri))), some (.int (nI (ri))), none]) (st' := []) (w' := mz_w A Q (U1, U2, U3, U4, U5, mo) T) rfl ?_
      refine ez_ifF (zt_nle (a := e) (b := ri) (by omega) (by omega)) ?_
      refine ez_go ez_h91 3 (pc' := bif decide ((nI (c)) = (nI (c))) then 76 else 48) (L' := [some (.ref 0), some (.int (nI (t))), some (.int (nI (b))), some (.int (nI (c))), some (.int (nI (e))), some (.int (nI (c))), some (.int (nI (ri))), some (.int (nI (ri))), none]) (st' := []) (w' := mz_w A Q (U1, U2, U3, U4, U5, mo) T) rfl ?_
      refine ez_ifT (zt_eq (by omega)) ?_
      refine ez_go ez_h91 8 (pc' := bif decide ((nI (1)) = (nI 0)) then 104 else 94) (L' := [some (.ref 0), some (.int (nI (t))), some (.int (nI (b))), some (.int (nI (c))), some (.int (nI (e))), some (.int (nI (c))), some (.int (nI (ri))), some (.int (nI (ri))), some (.int (nI (1)))]) (st' := [.int (nI (ri)), .ref 5]) (w' := mz_w A Q (U1, U2, U3, U4, U5, mo) T) rfl ?_
      refine ez_ifF (zt_ne (by omega) (by omega) (by omega)) ?_
      refine ez_go ez_h91 3 (pc' := 100) (L' := [some (.ref 0), some (.int (nI (t))), some (.int (nI (b))), some (.int (nI (c))), some (.int (nI (e))), some (.int (nI (c))), some (.int (nI (ri))), some (.int (nI (ri))), some (.int (nI (1)))]) (st' := [.int (nI (ri)), .ref 4, .int (nI (ri)), .ref 5]) (w' := mz_w A Q (U1, U2, U3, U4, U5, mo) T) rfl ?_
      refine mr_ld ez_h91 rfl hE hA (k := ri) (by omega) ?_
      refine ez_go ez_h91 1 (pc' := 111) (L' := [some (.ref 0), some (.int (nI (t))), some (.int (nI (b))), some (.int (nI (c))), some (.int (nI (e))), some (.int (nI (c))), some (.int (nI (ri))), some (.int (nI (ri))), some (.int (nI (1)))]) (st' := [.int (nI (row ri)), .int (nI (ri)), .ref 5]) (w' := mz_w A Q (U1, U2, U3, U4, U5, mo) T) rfl ?_
      refine ez_ast ez_h91 rfl rfl (ri) rfl (by omega) (by omega) ?_
      refine ez_go ez_h91 2 (pc' := bif decide ((nI (1)) = (nI 0)) then 123 else 117) (L' := [some (.ref 0), some (.int (nI (t))), some (.int (nI (b))), some (.int (nI (c))), some (.int (nI (e))), some (.int (nI (c))), some (.int (nI (ri))), some (.int (nI (ri))), some (.int (nI (1)))]) (st' := []) (w' := mz_w A Q (U1, U2, U3, U4, U5, (upd mo ri (nI (row ri)))) T) rfl ?_
      refine ez_ifF (zt_ne (by omega) (by omega) (by omega)) ?_
      refine ez_inc ez_h91 rfl rfl (v := nI (ri + 1)) (zi_1 _) rfl ?_
      refine ez_go ez_h91 1 (pc' := 126) (L' := [some (.ref 0), some (.int (nI (t))), some (.int (nI (b))), some (.int (nI (c))), some (.int (nI (e))), some (.int (nI (c))), some (.int (nI (ri + 1))), some (.int (nI (ri))), some (.int (nI (1)))]) (st' := []) (w' := mz_w A Q (U1, U2, U3, U4, U5, (upd mo ri (nI (row ri)))) T) rfl ?_
      refine ez_inc ez_h91 rfl rfl (v := nI (ri + 1)) (zi_1 _) rfl ?_
      refine ez_go ez_h91 1 (pc' := 35) (L' := [some (.ref 0), some (.int (nI (t))), some (.int (nI (b))), some (.int (nI (c))), some (.int (nI (e))), some (.int (nI (c))), some (.int (nI (ri + 1))), some (.int (nI (ri + 1))), some (.int (nI (1)))]) (st' := []) (w' := mz_w A Q (U1, U2, U3, U4, U5, (upd mo ri (nI (row ri)))) T) rfl ?_
      exact ez_E.le (ez_lc (ez_lc (ez_lc (ez_lc (ez_lc (ez_lc (ez_lc (ez_lc (ez_ln ez_l0))))))))) (ih (ri + 1) _ (by omega) (by omega) (by omega) (fun k hk => h4 k (by omega)) (zm_keep h5 (h4 ri (Nat.le_refl _))) _ Q U1 U2 U3 U4 U5 T t post hA kk)
theorem zm_tl {E : ze_T} (hE : ze_ok E) {b c e : Nat} (he : e ≤ ze_n E) (hc : b ≤ c) (hce : c ≤ e) {row : Nat → Nat} {g : zs_G} (hw0 : zr_ok E row g) : ∀ (s i go : Nat) (rc : Nat → Nat), c ≤ b + i + s → b + i ≤ c → go = b + i + (e - c) → zr_ok E rc g → (∀ k, k < b ∨ e ≤ k → rc k = row k) → (∀ k, b ≤ k → k < go → ∃ j, b ≤ j ∧ j < e ∧ rc k = row j) →
    ∃ rc' : Nat → Nat, zr_ok E rc' g ∧ zp_in row rc' b e ∧ (∀ (r : cz_Row) (q : cz_Qk) (u : cz_Rn) (bb : cz_Bn) (post : Option Value → ez_W → Prop), (∀ k, k < c - b → u.2.2.2.2.2 k = nI (ze_pi E (row (b + k)))) → cr_R E rc g r → (∀ r' : cz_Row, cr_R E rc' g r' → post none (cz_w r' q u bb)) → ez_E 56 144 [some (.ref 5), some (.int (nI (b))), some (.int (nI (c))), some (.int (nI (e))), some (.int (nI (c - b))), some (.int (nI (i))), none, some (.int (nI (go)))] [] (cz_w r q u bb) post) ∧ (∀ (mo : Nat → Int32), (∀ k, b ≤ k → k < go → mo k = nI (rc k)) → ∀ (A : mz_A) (Q : mz_Q) (U1 U2 : Int64) (U3 : Int32) (U4 U5 : Nat → Int32) (T : mz_T) (t : Nat) (post : Option Value → ez_W → Prop), mr_R E row g A → (∀ (A' : mz_A) (mo' : Nat → Int32), mr_R E row g A' → (∀ k, b ≤ k → k < e → mo' k = nI (rc' k)) → ez_E 91 132 [some (.ref 0), some (.int (nI (t))), some (.int (nI (b))), some (.int (nI (c))), some (.int (nI (e))), none, none, none, none] [] (mz_w A' Q (U1, U2, U3, U4, U5, mo') T) post) → ez_E 91 35 [some (.ref 0), some (.int (nI (t))), some (.int (nI (b))), some (.int (nI (c))), some (.int (nI (e))), some (.int (nI (b + i))), some (.int (nI (e))), some (.int (nI (go))), none] [] (mz_w A Q (U1, U2, U3, U4, U5, mo) T) post) := by
  have hn := hE.1
  intro s
  induction s with
  | zero =>
    intro i go rc h1 h2 h3 hw h4 h6
    refine ⟨rc, hw, ⟨fun k k1 k2 => h6 k k1 (by omega), h4⟩, ?_, ?_⟩
    · intro r q u bb post hu hr kk
      refine ez_go ez_h56 3 (pc' := bif decide ((nI (c - b)) ≤ (nI (i))) then 176 else 151) (L' := [some (.ref 5), some (.int (nI (b))), some (.int (nI (c))), some (.int (nI (e))), some (.int (nI (c - b))), some (.int (nI (i))), none, some (.int (nI (go)))]) (st' := []) (w' := cz_w r q u bb) rfl ?_
      refine ez_ifT (zt_le (a := c - b) (b := i) (by omega) (by omega)) ?_
      exact ez_vret rfl ez_h56 rfl rfl (kk _ hr)
    · intro mo h5 A Q U1 U2 U3 U4 U5 T t post hA kk
      refine ez_go ez_h91 3 (pc' := bif decide ((nI (e)) ≤ (nI (go))) then 132 else 42) (L' := [some (.ref 0), some (.int (nI (t))), some (.int (nI (b))), some (.int (nI (c))), some (.int (nI (e))), some (.int (nI (b + i))), some (.int (nI (e))), some (.int (nI (go))), none]) (st' := []) (w' := mz_w A Q (U1, U2, U3, U4, U5, mo) T) rfl ?_
      refine ez_ifT (zt_le (a := e) (b := go) (by omega) (by omega)) ?_
      exact ez_E.le (ez_lc (ez_lc (ez_lc (ez_lc (ez_lc (ez_ln (ez_ln (ez_ln (ez_lc ez_l0))))))))) (kk _ mo hA (fun k k1 k2 => h5 k k1 (by omega)))
  | succ s ih =>
    intro i go rc h1 h2 h3 hw h4 h6
    by_cases hi : c - b ≤ i
    · refine ⟨rc, hw, ⟨fun k k1 k2 => h6 k k1 (by omega), h4⟩, ?_, ?_⟩
      · intro r q u bb post hu hr kk
        refine ez_go ez_h56 3 (pc' := bif decide ((nI (c - b)) ≤ (nI (i))) then 176 else 151) (L' := [some (.ref 5), some (.int (nI (b))), some (.int (nI (c))), some (.int (nI (e))), some (.int (nI (c - b))), some (.int (nI (i))), none, some (.int (nI (go)))]) (st' := []) (w' := cz_w r q u bb) rfl ?_
        refine ez_ifT (zt_le (a := c - b) (b := i) (by omega) (by omega)) ?_
        exact ez_vret rfl ez_h56 rfl rfl (kk _ hr)
      · intro mo h5 A Q U1 U2 U3 U4 U5 T t post hA kk
        refine ez_go ez_h91 3 (pc' := bif decide ((nI (e)) ≤ (nI (go))) then 132 else 42) (L' := [some (.ref 0), some (.int (nI (t))), some (.int (nI (b))), some (.int (nI (c))), some (.int (nI (e))), some (.int (nI (b + i))), some (.int (nI (e))), some (.int (nI (go))), none]) (st' := []) (w' := mz_w A Q (U1, U2, U3, U4, U5, mo) T) rfl ?_
        refine ez_ifT (zt_le (a := e) (b := go) (by omega) (by omega)) ?_
        exact ez_E.le (ez_lc (ez_lc (ez_lc (ez_lc (ez_lc (ez_ln (ez_ln (ez_ln (ez_lc ez_l0))))))))) (kk _ mo hA (fun k k1 k2 => h5 k k1 (by omega)))
    · obtain ⟨rc', a1, a2, a3, a4⟩ := ih (i + 1) (go + 1) (va_up rc go (row (b + i))) (by omega) (by omega) (by omega) (hw.set (hw0.1 (b + i) (by omega)))
        (fun k hk => by rw [va_up_ne _ _ (by omega)]; exact h4 k hk)
        (fun k k1 k2 => by
          by_cases e1 : k = go
          · exact ⟨b + i, by omega, by omega, by rw [e1, va_up_self]⟩
          · rw [va_up_ne _ _ e1]; exact h6 k k1 (by omega))
      refine ⟨rc', a1, a2, ?_, ?_⟩
      · intro r q u bb post hu hr kk
        refine ez_go ez_h56 3 (pc' := bif decide ((nI (c - b)) ≤ (nI (i))) then 176 else 151) (L' := [some (.ref 5), some (.int (nI (b))), some (.int (nI (c))), some (.int (nI (e))), some (.int (nI (c - b))), some (.int (nI (i))), none, some (.int (nI (go)))]) (st' := []) (w' := cz_w r q u bb) rfl ?_
        refine ez_ifF (zt_nle (a := c - b) (b := i) (by omega) (by omega)) ?_
        refine ez_go ez_h56 6 (pc' := 163) (L' := [some (.ref 5), some (.int (nI (b))), some (.int (nI (c))), some (.int (nI (e))), some (.int (nI (c - b))), some (.int (nI (i))), none, some (.int (nI (go)))]) (st' := [.int (nI (i)), .ref 14, .int (nI (go)), .ref 1]) (w' := cz_w r q u bb) rfl ?_
        refine ez_ald ez_h56 rfl rfl (i) rfl (by omega) (by omega) ?_
        refine ez_top (y := nI (ze_pi E (row (b + i)))) (hu i (by omega)) ?_
        refine ez_cl ez_h56 rfl rfl ?_
        refine cr_set hE hr (k := go) (x := row (b + i)) (by omega) q u bb (fun r4 hr4 => ?_)
        refine ez_inc ez_h56 rfl rfl (v := nI (go + 1)) (zi_1 _) rfl ?_
        refine ez_inc ez_h56 rfl rfl (v := nI (i + 1)) (zi_1 _) rfl ?_
        refine ez_go ez_h56 1 (pc' := 144) (L' := [some (.ref 5), some (.int (nI (b))), some (.int (nI (c))), some (.int (nI (e))), some (.int (nI (c - b))), some (.int (nI (i + 1))), none, some (.int (nI (go + 1)))]) (st' := []) (w' := cz_w r4 q u bb) rfl ?_
        exact a3 _ q u bb post hu hr4 kk
      · intro mo h5 A Q U1 U2 U3 U4 U5 T t post hA kk
        refine ez_go ez_h91 3 (pc' := bif decide ((nI (e)) ≤ (nI (go))) then 132 else 42) (L' := [some (.ref 0), some (.int (nI (t))), some (.int (nI (b))), some (.int (nI (c))), some (.int (nI (e))), some (.int (nI (b + i))), some (.int (nI (e))), some (.int (nI (go))), none]) (st' := []) (w' := mz_w A Q (U1, U2, U3, U4, U5, mo) T) rfl ?_
        refine ez_ifF (zt_nle (a := e) (b := go) (by omega) (by omega)) ?_
        refine ez_go ez_h91 3 (pc' := bif decide ((nI (b + i)) = (nI (c))) then 76 else 48) (L' := [some (.ref 0), some (.int (nI (t))), some (.int (nI (b))), some (.int (nI (c))), some (.int (nI (e))), some (.int (nI (b + i))), some (.int (nI (e))), some (.int (nI (go))), none]) (st' := []) (w' := mz_w A Q (U1, U2, U3, U4, U5, mo) T) rfl ?_
        refine ez_ifF (zt_ne (by omega) (by omega) (by omega)) ?_
        refine ez_go ez_h91 3 (pc' := bif decide ((nI (e)) ≤ (nI (e))) then 80 else 55) (L' := [some (.ref 0), some (.int (nI (t))), some (.int (nI (b))), some (.int (nI (c))), some (.int (nI (e))), some (.int (nI (b + i))), some (.int (nI (e))), some (.int (nI (go))), none]) (st' := []) (w' := mz_w A Q (U1, U2, U3, U4, U5, mo) T) rfl ?_
        refine ez_ifT (zt_le (a := e) (b := e) (by omega) (by omega)) ?_
        refine ez_go ez_h91 7 (pc' := bif decide ((nI (0)) = (nI 0)) then 104 else 94) (L' := [some (.ref 0), some (.int (nI (t))), some (.int (nI (b))), some (.int (nI (c))), some (.int (nI (e))), some (.int (nI (b + i))), some (.int (nI (e))), some (.int (nI (go))), some (.int (nI (0)))]) (st' := [.int (nI (go)), .ref 5]) (w' := mz_w A Q (U1, U2, U3, U4, U5, mo) T) rfl ?_
        refine ez_ifT (zt_eq (by omega)) ?_
        refine ez_go ez_h91 3 (pc' := 110) (L' := [some (.ref 0), some (.int (nI (t))), some (.int (nI (b))), some (.int (nI (c))), some (.int (nI (e))), some (.int (nI (b + i))), some (.int (nI (e))), some (.int (nI (go))), some (.int (nI (0)))]) (st' := [.int (nI (b + i)), .ref 4, .int (nI (go)), .ref 5]) (w' := mz_w A Q (U1, U2, U3, U4, U5, mo) T) rfl ?_
        refine mr_ld ez_h91 rfl hE hA (k := b + i) (by omega) ?_
        refine ez_ast ez_h91 rfl rfl (go) rfl (by omega) (by omega) ?_
        refine ez_go ez_h91 2 (pc' := bif decide ((nI (0)) = (nI 0)) then 123 else 117) (L' := [some (.ref 0), some (.int (nI (t))), some (.int (nI (b))), some (.int (nI (c))), some (.int (nI (e))), some (.int (nI (b + i))), some (.int (nI (e))), some (.int (nI (go))), some (.int (nI (0)))]) (st' := []) (w' := mz_w A Q (U1, U2, U3, U4, U5, (upd mo go (nI (row (b + i))))) T) rfl ?_
        refine ez_ifT (zt_eq (by omega)) ?_
        refine ez_inc ez_h91 rfl rfl (v := nI ((b + i) + 1)) (zi_1 _) rfl ?_
        refine ez_inc ez_h91 rfl rfl (v := nI (go + 1)) (zi_1 _) rfl ?_
        refine ez_go ez_h91 1 (pc' := 35) (L' := [some (.ref 0), some (.int (nI (t))), some (.int (nI (b))), some (.int (nI (c))), some (.int (nI (e))), some (.int (nI ((b + i) + 1))), some (.int (nI (e))), some (.int (nI (go + 1))), some (.int (nI (0)))]) (st' := []) (w' := mz_w A Q (U1, U2, U3, U4, U5, (upd mo go (nI (row (b + i))))) T) rfl ?_
        refine ez_E.le (ez_lc (ez_lc (ez_lc (ez_lc (ez_lc (ez_lc (ez_lc (ez_lc (ez_ln ez_l0))))))))) (a4 _ (fun k k1 k2 => ?_) _ Q U1 U2 U3 U4 U5 T t post hA kk)
        by_cases e1 : k = go
        · rw [e1, pk_us, va_up_self]
        · rw [pk_un e1, va_up_ne _ _ e1]; exact h5 k k1 (by omega)
set_option maxHeartbeats 1000000 in
theorem zm_loop {E : ze_T} (hE : ze_ok E) {b c e : Nat} (he : e ≤ ze_n E) (hc : b ≤ c) {row : Nat → Nat} : ∀ (s i ri go : Nat) (rc : Nat → Nat) (g : zs_G), c + e ≤ b + i + ri + s → b + i ≤ c → c ≤ ri → ri ≤ e → go + c = b + i + ri → zr_ok E row g → zr_ok E rc g → (∀ k, ri ≤ k → rc k = row k) → (∀ k, k < b → rc k = row k) → (∀ k, b ≤ k → k < go → ∃ j, b ≤ j ∧ j < e ∧ rc k = row j) →
    ∃ (rc' : Nat → Nat) (g' : zs_G), zr_ok E rc' g' ∧ zg_le E g g' ∧ zp_in row rc' b e ∧ (∀ (r : cz_Row) (q : cz_Qk) (u : cz_Rn) (bb : cz_Bn) (post : Option Value → ez_W → Prop), (∀ k, k < c - b → u.2.2.2.2.2 k = nI (ze_pi E (row (b + k)))) → cr_R E rc g r → (∀ r' : cz_Row, cr_R E rc' g' r' → post none (cz_w r' q u bb)) → ez_E 56 56 [some (.ref 5), some (.int (nI (b))), some (.int (nI (c))), some (.int (nI (e))), some (.int (nI (c - b))), some (.int (nI (i))), some (.int (nI (ri))), some (.int (nI (go)))] [] (cz_w r q u bb) post) ∧ (∀ (mo : Nat → Int32), (∀ k, b ≤ k → k < go → mo k = nI (rc k)) → ∀ (A : mz_A) (Q : mz_Q) (U1 U2 : Int64) (U3 : Int32) (U4 U5 : Nat → Int32) (T : mz_T) (t : Nat) (post : Option Value → ez_W → Prop), mr_R E row g A → (∀ (A' : mz_A) (mo' : Nat → Int32), mr_R E row g' A' → (∀ k, b ≤ k → k < e → mo' k = nI (rc' k)) → ez_E 91 132 [some (.ref 0), some (.int (nI (t))), some (.int (nI (b))), some (.int (nI (c))), some (.int (nI (e))), none, none, none, none] [] (mz_w A' Q (U1, U2, U3, U4, U5, mo') T) post) → ez_E 91 35 [some (.ref 0), some (.int (nI (t))), some (.int (nI (b))), some (.int (nI (c))), some (.int (nI (e))), some (.int (nI (b + i))), some (.int (nI (ri))), some (.int (nI (go))), none] [] (mz_w A Q (U1, U2, U3, U4, U5, mo) T) post) := by
  have hn := hE.1
  intro s
  induction s with
  | zero =>
    intro i ri go rc g h1 h2 h3 h4 h5' hw0 hw k1 k2 k3
    have hi : b + i = c := by omega
    have hri : ri = e := by omega
    refine ⟨rc, g, hw, zg_le.rf g, ⟨fun k j1 j2 => k3 k j1 (by omega), fun k hk => by rcases hk with hk | hk <;> first | exact k2 k hk | exact k1 k (by omega)⟩, ?_, ?_⟩
    · intro r q u bb post hu hr kk
      refine ez_go ez_h56 3 (pc' := bif decide ((nI (c - b)) ≤ (nI (i))) then 144 else 63) (L' := [some (.ref 5), some (.int (nI (b))), some (.int (nI (c))), some (.int (nI (e))), some (.int (nI (c - b))), some (.int (nI (i))), some (.int (nI (ri))), some (.int (nI (go)))]) (st' := []) (w' := cz_w r q u bb) rfl ?_
      refine ez_ifT (zt_le (a := c - b) (b := i) (by omega) (by omega)) ?_
      refine ez_go ez_h56 3 (pc' := bif decide ((nI (c - b)) ≤ (nI (i))) then 176 else 151) (L' := [some (.ref 5), some (.int (nI (b))), some (.int (nI (c))), some (.int (nI (e))), some (.int (nI (c - b))), some (.int (nI (i))), some (.int (nI (ri))), some (.int (nI (go)))]) (st' := []) (w' := cz_w r q u bb) rfl ?_
      refine ez_ifT (zt_le (a := c - b) (b := i) (by omega) (by omega)) ?_
      exact ez_vret rfl ez_h56 rfl rfl (kk _ hr)
    · intro mo h5 A Q U1 U2 U3 U4 U5 T t post hA kk
      rw [hi, show go = ri by omega]
      exact zm_tr hE he hc hw0 e ri mo (by omega) h4 h3 k1 (fun k j1 j2 => h5 k j1 (by omega)) A Q U1 U2 U3 U4 U5 T t post hA kk
  | succ s ih =>
    intro i ri go rc g h1 h2 h3 h4 h5' hw0 hw k1 k2 k3
    by_cases hi : b + i = c
    · refine ⟨rc, g, hw, zg_le.rf g, ⟨fun k j1 j2 => ?_, fun k hk => by rcases hk with hk | hk <;> first | exact k2 k hk | exact k1 k (by omega)⟩, ?_, ?_⟩
      · by_cases e1 : k < go
        · exact k3 k j1 e1
        · exact ⟨k, j1, j2, k1 k (by omega)⟩
      · intro r q u bb post hu hr kk
        refine ez_go ez_h56 3 (pc' := bif decide ((nI (c - b)) ≤ (nI (i))) then 144 else 63) (L' := [some (.ref 5), some (.int (nI (b))), some (.int (nI (c))), some (.int (nI (e))), some (.int (nI (c - b))), some (.int (nI (i))), some (.int (nI (ri))), some (.int (nI (go)))]) (st' := []) (w' := cz_w r q u bb) rfl ?_
        refine ez_ifT (zt_le (a := c - b) (b := i) (by omega) (by omega)) ?_
        refine ez_go ez_h56 3 (pc' := bif decide ((nI (c - b)) ≤ (nI (i))) then 176 else 151) (L' := [some (.ref 5), some (.int (nI (b))), some (.int (nI (c))), some (.int (nI (e))), some (.int (nI (c - b))), some (.int (nI (i))), some (.int (nI (ri))), some (.int (nI (go)))]) (st' := []) (w' := cz_w r q u bb) rfl ?_
        refine ez_ifT (zt_le (a := c - b) (b := i) (by omega) (by omega)) ?_
        exact ez_vret rfl ez_h56 rfl rfl (kk _ hr)
      · intro mo h5 A Q U1 U2 U3 U4 U5 T t post hA kk
        rw [hi, show go = ri by omega]
        exact zm_tr hE he hc hw0 e ri mo (by omega) h4 h3 k1 (fun k j1 j2 => h5 k j1 (by omega)) A Q U1 U2 U3 U4 U5 T t post hA kk
    · by_cases hri : e ≤ ri
      · obtain ⟨rc', a1, a2, a3, a4⟩ := zm_tl hE he hc (by omega) hw0 c i go rc (by omega) (by omega) (by omega) hw (fun k hk => by rcases hk with hk | hk <;> first | exact k2 k hk | exact k1 k (by omega)) k3
        refine ⟨rc', g, a1, zg_le.rf g, a2, ?_, ?_⟩
        · intro r q u bb post hu hr kk
          refine ez_go ez_h56 3 (pc' := bif decide ((nI (c - b)) ≤ (nI (i))) then 144 else 63) (L' := [some (.ref 5), some (.int (nI (b))), some (.int (nI (c))), some (.int (nI (e))), some (.int (nI (c - b))), some (.int (nI (i))), some (.int (nI (ri))), some (.int (nI (go)))]) (st' := []) (w' := cz_w r q u bb) rfl ?_
          refine ez_ifF (zt_nle (a := c - b) (b := i) (by omega) (by omega)) ?_
          refine ez_go ez_h56 3 (pc' := bif decide ((nI (e)) ≤ (nI (ri))) then 144 else 69) (L' := [some (.ref 5), some (.int (nI (b))), some (.int (nI (c))), some (.int (nI (e))), some (.int (nI (c - b))), some (.int (nI (i))), some (.int (nI (ri))), some (.int (nI (go)))]) (st' := []) (w' := cz_w r q u bb) rfl ?_
          refine ez_ifT (zt_le (a := e) (b := ri) (by omega) (by omega)) ?_
          exact ez_E.le (ez_lc (ez_lc (ez_lc (ez_lc (ez_lc (ez_lc (ez_ln (ez_lc ez_l0)))))))) (a3 _ q u bb post hu hr kk)
        · intro mo h5 A Q U1 U2 U3 U4 U5 T t post hA kk
          rw [show ri = e by omega]
          exact a4 mo h5 A Q U1 U2 U3 U4 U5 T t post hA kk
      · have hw1 := hw0.go (hw0.1 ri (by omega)) (hw0.1 (b + i) (by omega))
        have hwr := hw.go (hw0.1 ri (by omega)) (hw0.1 (b + i) (by omega))
        have hg1 : zg_le E g _ := zg_le.go hw0 (row ri) (row (b + i))
        have hri' : rc ri = row ri := k1 ri (Nat.le_refl _)
        cases hb : zs_b (ze_md E) (ze_ka E) (row ri) (row (b + i)) g with
        | false =>
          obtain ⟨rc', g', a1, a2, a3, a4, a5⟩ := ih (i + 1) ri (go + 1) (va_up rc go (row (b + i))) _ (by omega) (by omega) h3 h4 (by omega) hw1 (hwr.set (hw0.1 (b + i) (by omega)))
            (fun k hk => by rw [va_up_ne _ _ (by omega)]; exact k1 k (by omega))
            (fun k hk => by rw [va_up_ne _ _ (by omega)]; exact k2 k hk)
            (fun k j1 j2 => by
              by_cases e1 : k = go
              · exact ⟨(b + i), by omega, by omega, by rw [e1, va_up_self]⟩
              · rw [va_up_ne _ _ e1]; exact k3 k j1 (by omega))
          refine ⟨rc', g', a1, hg1.tr a2, a3, ?_, ?_⟩
          · intro r q u bb post hu hr kk
            refine ez_go ez_h56 3 (pc' := bif decide ((nI (c - b)) ≤ (nI (i))) then 144 else 63) (L' := [some (.ref 5), some (.int (nI (b))), some (.int (nI (c))), some (.int (nI (e))), some (.int (nI (c - b))), some (.int (nI (i))), some (.int (nI (ri))), some (.int (nI (go)))]) (st' := []) (w' := cz_w r q u bb) rfl ?_
            refine ez_ifF (zt_nle (a := c - b) (b := i) (by omega) (by omega)) ?_
            refine ez_go ez_h56 3 (pc' := bif decide ((nI (e)) ≤ (nI (ri))) then 144 else 69) (L' := [some (.ref 5), some (.int (nI (b))), some (.int (nI (c))), some (.int (nI (e))), some (.int (nI (c - b))), some (.int (nI (i))), some (.int (nI (ri))), some (.int (nI (go)))]) (st' := []) (w' := cz_w r q u bb) rfl ?_
            refine ez_ifF (zt_nle (a := e) (b := ri) (by omega) (by omega)) ?_
            refine ez_go ez_h56 5 (pc' := 79) (L' := [some (.ref 5), some (.int (nI (b))), some (.int (nI (c))), some (.int (nI (e))), some (.int (nI (c - b))), some (.int (nI (i))), some (.int (nI (ri))), some (.int (nI (go)))]) (st' := [.int (nI (ri)), .ref 1, .ref 1]) (w' := cz_w r q u bb) rfl ?_
            refine ez_cl ez_h56 rfl rfl ?_
            refine cr_at hE hr (k := ri) (by omega) q u bb ?_
            rw [hri']
            refine ez_go ez_h56 3 (pc' := 88) (L' := [some (.ref 5), some (.int (nI (b))), some (.int (nI (c))), some (.int (nI (e))), some (.int (nI (c - b))), some (.int (nI (i))), some (.int (nI (ri))), some (.int (nI (go)))]) (st' := [.int (nI (i)), .ref 14, .int (nI (ze_pi E (row ri))), .ref 1]) (w' := cz_w r q u bb) rfl ?_
            refine ez_ald ez_h56 rfl rfl (i) rfl (by omega) (by omega) ?_
            refine ez_top (y := nI (ze_pi E (row (b + i)))) (hu i (by omega)) ?_
            refine ez_cl ez_h56 rfl rfl ?_
            refine cr_less hE hr hw.2 (x := row ri) (y := row (b + i)) (hw0.1 ri (by omega)) (hw0.1 (b + i) (by omega)) q u bb (fun r5 hr5 => ?_)
            refine ez_go ez_h56 1 (pc' := bif decide ((zs_z (zs_b (ze_md E) (ze_ka E) (row ri) (row (b + i)) g)) = 0) then 119 else 95) (L' := [some (.ref 5), some (.int (nI (b))), some (.int (nI (c))), some (.int (nI (e))), some (.int (nI (c - b))), some (.int (nI (i))), some (.int (nI (ri))), some (.int (nI (go)))]) (st' := []) (w' := cz_w r5 q u bb) rfl ?_
            refine ez_ifT (zz_f hb) ?_
            refine ez_go ez_h56 6 (pc' := 131) (L' := [some (.ref 5), some (.int (nI (b))), some (.int (nI (c))), some (.int (nI (e))), some (.int (nI (c - b))), some (.int (nI (i))), some (.int (nI (ri))), some (.int (nI (go)))]) (st' := [.int (nI (i)), .ref 14, .int (nI (go)), .ref 1]) (w' := cz_w r5 q u bb) rfl ?_
            refine ez_ald ez_h56 rfl rfl (i) rfl (by omega) (by omega) ?_
            refine ez_top (y := nI (ze_pi E (row (b + i)))) (hu i (by omega)) ?_
            refine ez_cl ez_h56 rfl rfl ?_
            refine cr_set hE hr5 (k := go) (x := row (b + i)) (by omega) q u bb (fun r6 hr6 => ?_)
            refine ez_inc ez_h56 rfl rfl (v := nI (i + 1)) (zi_1 _) rfl ?_
            refine ez_inc ez_h56 rfl rfl (v := nI (go + 1)) (zi_1 _) rfl ?_
            refine ez_go ez_h56 1 (pc' := 56) (L' := [some (.ref 5), some (.int (nI (b))), some (.int (nI (c))), some (.int (nI (e))), some (.int (nI (c - b))), some (.int (nI (i + 1))), some (.int (nI (ri))), some (.int (nI (go + 1)))]) (st' := []) (w' := cz_w r6 q u bb) rfl ?_
            exact a4 _ q u bb post hu hr6 kk
          · intro mo h5 A Q U1 U2 U3 U4 U5 T t post hA kk
            refine ez_go ez_h91 3 (pc' := bif decide ((nI (e)) ≤ (nI (go))) then 132 else 42) (L' := [some (.ref 0), some (.int (nI (t))), some (.int (nI (b))), some (.int (nI (c))), some (.int (nI (e))), some (.int (nI (b + i))), some (.int (nI (ri))), some (.int (nI (go))), none]) (st' := []) (w' := mz_w A Q (U1, U2, U3, U4, U5, mo) T) rfl ?_
            refine ez_ifF (zt_nle (a := e) (b := go) (by omega) (by omega)) ?_
            refine ez_go ez_h91 3 (pc' := bif decide ((nI (b + i)) = (nI (c))) then 76 else 48) (L' := [some (.ref 0), some (.int (nI (t))), some (.int (nI (b))), some (.int (nI (c))), some (.int (nI (e))), some (.int (nI (b + i))), some (.int (nI (ri))), some (.int (nI (go))), none]) (st' := []) (w' := mz_w A Q (U1, U2, U3, U4, U5, mo) T) rfl ?_
            refine ez_ifF (zt_ne (by omega) (by omega) (by omega)) ?_
            refine ez_go ez_h91 3 (pc' := bif decide ((nI (e)) ≤ (nI (ri))) then 80 else 55) (L' := [some (.ref 0), some (.int (nI (t))), some (.int (nI (b))), some (.int (nI (c))), some (.int (nI (e))), some (.int (nI (b + i))), some (.int (nI (ri))), some (.int (nI (go))), none]) (st' := []) (w' := mz_w A Q (U1, U2, U3, U4, U5, mo) T) rfl ?_
            refine ez_ifF (zt_nle (a := e) (b := ri) (by omega) (by omega)) ?_
            refine ez_go ez_h91 4 (pc' := 62) (L' := [some (.ref 0), some (.int (nI (t))), some (.int (nI (b))), some (.int (nI (c))), some (.int (nI (e))), some (.int (nI (b + i))), some (.int (nI (ri))), some (.int (nI (go))), none]) (st' := [.int (nI (ri)), .ref 4, .ref 0]) (w' := mz_w A Q (U1, U2, U3, U4, U5, mo) T) rfl ?_
            refine mr_ld ez_h91 rfl hE hA (k := ri) (by omega) ?_
            refine ez_go ez_h91 3 (pc' := 69) (L' := [some (.ref 0), some (.int (nI (t))), some (.int (nI (b))), some (.int (nI (c))), some (.int (nI (e))), some (.int (nI (b + i))), some (.int (nI (ri))), some (.int (nI (go))), none]) (st' := [.int (nI (b + i)), .ref 4, .int (nI (row ri)), .ref 0]) (w' := mz_w A Q (U1, U2, U3, U4, U5, mo) T) rfl ?_
            refine mr_ld ez_h91 rfl hE hA (k := b + i) (by omega) ?_
            refine ez_cl ez_h91 rfl rfl ?_
            refine mr_less hE hA hw0.2 (x := row ri) (y := row (b + i)) (hw0.1 ri (by omega)) (hw0.1 (b + i) (by omega)) Q (U1, U2, U3, U4, U5, mo) T (fun A7 hA7 => ?_)
            refine ez_go ez_h91 1 (pc' := bif decide ((zs_z (zs_b (ze_md E) (ze_ka E) (row ri) (row (b + i)) g)) = 0) then 80 else 76) (L' := [some (.ref 0), some (.int (nI (t))), some (.int (nI (b))), some (.int (nI (c))), some (.int (nI (e))), some (.int (nI (b + i))), some (.int (nI (ri))), some (.int (nI (go))), none]) (st' := []) (w' := mz_w A7 Q (U1, U2, U3, U4, U5, mo) T) rfl ?_
            refine ez_ifT (zz_f hb) ?_
            refine ez_go ez_h91 7 (pc' := bif decide ((nI (0)) = (nI 0)) then 104 else 94) (L' := [some (.ref 0), some (.int (nI (t))), some (.int (nI (b))), some (.int (nI (c))), some (.int (nI (e))), some (.int (nI (b + i))), some (.int (nI (ri))), some (.int (nI (go))), some (.int (nI (0)))]) (st' := [.int (nI (go)), .ref 5]) (w' := mz_w A7 Q (U1, U2, U3, U4, U5, mo) T) rfl ?_
            refine ez_ifT (zt_eq (by omega)) ?_
            refine ez_go ez_h91 3 (pc' := 110) (L' := [some (.ref 0), some (.int (nI (t))), some (.int (nI (b))), some (.int (nI (c))), some (.int (nI (e))), some (.int (nI (b + i))), some (.int (nI (ri))), some (.int (nI (go))), some (.int (nI (0)))]) (st' := [.int (nI (b + i)), .ref 4, .int (nI (go)), .ref 5]) (w' := mz_w A7 Q (U1, U2, U3, U4, U5, mo) T) rfl ?_
            refine mr_ld ez_h91 rfl hE hA7 (k := b + i) (by omega) ?_
            refine ez_ast ez_h91 rfl rfl (go) rfl (by omega) (by omega) ?_
            refine ez_go ez_h91 2 (pc' := bif decide ((nI (0)) = (nI 0)) then 123 else 117) (L' := [some (.ref 0), some (.int (nI (t))), some (.int (nI (b))), some (.int (nI (c))), some (.int (nI (e))), some (.int (nI (b + i))), some (.int (nI (ri))), some (.int (nI (go))), some (.int (nI (0)))]) (st' := []) (w' := mz_w A7 Q (U1, U2, U3, U4, U5, (upd mo go (nI (row (b + i))))) T) rfl ?_
            refine ez_ifT (zt_eq (by omega)) ?_
            refine ez_inc ez_h91 rfl rfl (v := nI ((b + i) + 1)) (zi_1 _) rfl ?_
            refine ez_inc ez_h91 rfl rfl (v := nI (go + 1)) (zi_1 _) rfl ?_
            refine ez_go ez_h91 1 (pc' := 35) (L' := [some (.ref 0), some (.int (nI (t))), some (.int (nI (b))), some (.int (nI (c))), some (.int (nI (e))), some (.int (nI ((b + i) + 1))), some (.int (nI (ri))), some (.int (nI (go + 1))), some (.int (nI (0)))]) (st' := []) (w' := mz_w A7 Q (U1, U2, U3, U4, U5, (upd mo go (nI (row (b + i))))) T) rfl ?_
            refine ez_E.le (ez_lc (ez_lc (ez_lc (ez_lc (ez_lc (ez_lc (ez_lc (ez_lc (ez_ln ez_l0))))))))) (a5 _ (fun k j1 j2 => ?_) _ Q U1 U2 U3 U4 U5 T t post hA7 kk)
            by_cases e1 : k = go
            · rw [e1, pk_us, va_up_self]
            · rw [pk_un e1, va_up_ne _ _ e1]; exact h5 k j1 (by omega)
        | true =>
          obtain ⟨rc', g', a1, a2, a3, a4, a5⟩ := ih i (ri + 1) (go + 1) (va_up rc go (row ri)) _ (by omega) h2 (by omega) (by omega) (by omega) hw1 (hwr.set (hw0.1 ri (by omega)))
            (fun k hk => by rw [va_up_ne _ _ (by omega)]; exact k1 k (by omega))
            (fun k hk => by rw [va_up_ne _ _ (by omega)]; exact k2 k hk)
            (fun k j1 j2 => by
              by_cases e1 : k = go
              · exact ⟨ri, by omega, by omega, by rw [e1, va_up_self]⟩
              · rw [va_up_ne _ _ e1]; exact k3 k j1 (by omega))
          refine ⟨rc', g', a1, hg1.tr a2, a3, ?_, ?_⟩
          · intro r q u bb post hu hr kk
            refine ez_go ez_h56 3 (pc' := bif decide ((nI (c - b)) ≤ (nI (i))) then 144 else 63) (L' := [some (.ref 5), some (.int (nI (b))), some (.int (nI (c))), some (.int (nI (e))), some (.int (nI (c - b))), some (.int (nI (i))), some (.int (nI (ri))), some (.int (nI (go)))]) (st' := []) (w' := cz_w r q u bb) rfl ?_
            refine ez_ifF (zt_nle (a := c - b) (b := i) (by omega) (by omega)) ?_
            refine ez_go ez_h56 3 (pc' := bif decide ((nI (e)) ≤ (nI (ri))) then 144 else 69) (L' := [some (.ref 5), some (.int (nI (b))), some (.int (nI (c))), some (.int (nI (e))), some (.int (nI (c - b))), some (.int (nI (i))), some (.int (nI (ri))), some (.int (nI (go)))]) (st' := []) (w' := cz_w r q u bb) rfl ?_
            refine ez_ifF (zt_nle (a := e) (b := ri) (by omega) (by omega)) ?_
            refine ez_go ez_h56 5 (pc' := 79) (L' := [some (.ref 5), some (.int (nI (b))), some (.int (nI (c))), some (.int (nI (e))), some (.int (nI (c - b))), some (.int (nI (i))), some (.int (nI (ri))), some (.int (nI (go)))]) (st' := [.int (nI (ri)), .ref 1, .ref 1]) (w' := cz_w r q u bb) rfl ?_
            refine ez_cl ez_h56 rfl rfl ?_
            refine cr_at hE hr (k := ri) (by omega) q u bb ?_
            rw [hri']
            refine ez_go ez_h56 3 (pc' := 88) (L' := [some (.ref 5), some (.int (nI (b))), some (.int (nI (c))), some (.int (nI (e))), some (.int (nI (c - b))), some (.int (nI (i))), some (.int (nI (ri))), some (.int (nI (go)))]) (st' := [.int (nI (i)), .ref 14, .int (nI (ze_pi E (row ri))), .ref 1]) (w' := cz_w r q u bb) rfl ?_
            refine ez_ald ez_h56 rfl rfl (i) rfl (by omega) (by omega) ?_
            refine ez_top (y := nI (ze_pi E (row (b + i)))) (hu i (by omega)) ?_
            refine ez_cl ez_h56 rfl rfl ?_
            refine cr_less hE hr hw.2 (x := row ri) (y := row (b + i)) (hw0.1 ri (by omega)) (hw0.1 (b + i) (by omega)) q u bb (fun r8 hr8 => ?_)
            refine ez_go ez_h56 1 (pc' := bif decide ((zs_z (zs_b (ze_md E) (ze_ka E) (row ri) (row (b + i)) g)) = 0) then 119 else 95) (L' := [some (.ref 5), some (.int (nI (b))), some (.int (nI (c))), some (.int (nI (e))), some (.int (nI (c - b))), some (.int (nI (i))), some (.int (nI (ri))), some (.int (nI (go)))]) (st' := []) (w' := cz_w r8 q u bb) rfl ?_
            refine ez_ifF (zz_t hb) ?_
            refine ez_go ez_h56 6 (pc' := 107) (L' := [some (.ref 5), some (.int (nI (b))), some (.int (nI (c))), some (.int (nI (e))), some (.int (nI (c - b))), some (.int (nI (i))), some (.int (nI (ri))), some (.int (nI (go)))]) (st' := [.int (nI (ri)), .ref 1, .int (nI (go)), .ref 1]) (w' := cz_w r8 q u bb) rfl ?_
            refine ez_cl ez_h56 rfl rfl ?_
            refine cr_at hE hr8 (k := ri) (by omega) q u bb ?_
            rw [hri']
            refine ez_cl ez_h56 rfl rfl ?_
            refine cr_set hE hr8 (k := go) (x := row ri) (by omega) q u bb (fun r9 hr9 => ?_)
            refine ez_inc ez_h56 rfl rfl (v := nI (ri + 1)) (zi_1 _) rfl ?_
            refine ez_go ez_h56 1 (pc' := 138) (L' := [some (.ref 5), some (.int (nI (b))), some (.int (nI (c))), some (.int (nI (e))), some (.int (nI (c - b))), some (.int (nI (i))), some (.int (nI (ri + 1))), some (.int (nI (go)))]) (st' := []) (w' := cz_w r9 q u bb) rfl ?_
            refine ez_inc ez_h56 rfl rfl (v := nI (go + 1)) (zi_1 _) rfl ?_
            refine ez_go ez_h56 1 (pc' := 56) (L' := [some (.ref 5), some (.int (nI (b))), some (.int (nI (c))), some (.int (nI (e))), some (.int (nI (c - b))), some (.int (nI (i))), some (.int (nI (ri + 1))), some (.int (nI (go + 1)))]) (st' := []) (w' := cz_w r9 q u bb) rfl ?_
            exact a4 _ q u bb post hu hr9 kk
          · intro mo h5 A Q U1 U2 U3 U4 U5 T t post hA kk
            refine ez_go ez_h91 3 (pc' := bif decide ((nI (e)) ≤ (nI (go))) then 132 else 42) (L' := [some (.ref 0), some (.int (nI (t))), some (.int (nI (b))), some (.int (nI (c))), some (.int (nI (e))), some (.int (nI (b + i))), some (.int (nI (ri))), some (.int (nI (go))), none]) (st' := []) (w' := mz_w A Q (U1, U2, U3, U4, U5, mo) T) rfl ?_
            refine ez_ifF (zt_nle (a := e) (b := go) (by omega) (by omega)) ?_
            refine ez_go ez_h91 3 (pc' := bif decide ((nI (b + i)) = (nI (c))) then 76 else 48) (L' := [some (.ref 0), some (.int (nI (t))), some (.int (nI (b))), some (.int (nI (c))), some (.int (nI (e))), some (.int (nI (b + i))), some (.int (nI (ri))), some (.int (nI (go))), none]) (st' := []) (w' := mz_w A Q (U1, U2, U3, U4, U5, mo) T) rfl ?_
            refine ez_ifF (zt_ne (by omega) (by omega) (by omega)) ?_
            refine ez_go ez_h91 3 (pc' := bif decide ((nI (e)) ≤ (nI (ri))) then 80 else 55) (L' := [some (.ref 0), some (.int (nI (t))), some (.int (nI (b))), some (.int (nI (c))), some (.int (nI (e))), some (.int (nI (b + i))), some (.int (nI (ri))), some (.int (nI (go))), none]) (st' := []) (w' := mz_w A Q (U1, U2, U3, U4, U5, mo) T) rfl ?_
            refine ez_ifF (zt_nle (a := e) (b := ri) (by omega) (by omega)) ?_
            refine ez_go ez_h91 4 (pc' := 62) (L' := [some (.ref 0), some (.int (nI (t))), some (.int (nI (b))), some (.int (nI (c))), some (.int (nI (e))), some (.int (nI (b + i))), some (.int (nI (ri))), some (.int (nI (go))), none]) (st' := [.int (nI (ri)), .ref 4, .ref 0]) (w' := mz_w A Q (U1, U2, U3, U4, U5, mo) T) rfl ?_
            refine mr_ld ez_h91 rfl hE hA (k := ri) (by omega) ?_
            refine ez_go ez_h91 3 (pc' := 69) (L' := [some (.ref 0), some (.int (nI (t))), some (.int (nI (b))), some (.int (nI (c))), some (.int (nI (e))), some (.int (nI (b + i))), some (.int (nI (ri))), some (.int (nI (go))), none]) (st' := [.int (nI (b + i)), .ref 4, .int (nI (row ri)), .ref 0]) (w' := mz_w A Q (U1, U2, U3, U4, U5, mo) T) rfl ?_
            refine mr_ld ez_h91 rfl hE hA (k := b + i) (by omega) ?_
            refine ez_cl ez_h91 rfl rfl ?_
            refine mr_less hE hA hw0.2 (x := row ri) (y := row (b + i)) (hw0.1 ri (by omega)) (hw0.1 (b + i) (by omega)) Q (U1, U2, U3, U4, U5, mo) T (fun A10 hA10 => ?_)
            refine ez_go ez_h91 1 (pc' := bif decide ((zs_z (zs_b (ze_md E) (ze_ka E) (row ri) (row (b + i)) g)) = 0) then 80 else 76) (L' := [some (.ref 0), some (.int (nI (t))), some (.int (nI (b))), some (.int (nI (c))), some (.int (nI (e))), some (.int (nI (b + i))), some (.int (nI (ri))), some (.int (nI (go))), none]) (st' := []) (w' := mz_w A10 Q (U1, U2, U3, U4, U5, mo) T) rfl ?_
            refine ez_ifF (zz_t hb) ?_
            refine ez_go ez_h91 8 (pc' := bif decide ((nI (1)) = (nI 0)) then 104 else 94) (L' := [some (.ref 0), some (.int (nI (t))), some (.int (nI (b))), some (.int (nI (c))), some (.int (nI (e))), some (.int (nI (b + i))), some (.int (nI (ri))), some (.int (nI (go))), some (.int (nI (1)))]) (st' := [.int (nI (go)), .ref 5]) (w' := mz_w A10 Q (U1, U2, U3, U4, U5, mo) T) rfl ?_
            refine ez_ifF (zt_ne (by omega) (by omega) (by omega)) ?_
            refine ez_go ez_h91 3 (pc' := 100) (L' := [some (.ref 0), some (.int (nI (t))), some (.int (nI (b))), some (.int (nI (c))), some (.int (nI (e))), some (.int (nI (b + i))), some (.int (nI (ri))), some (.int (nI (go))), some (.int (nI (1)))]) (st' := [.int (nI (ri)), .ref 4, .int (nI (go)), .ref 5]) (w' := mz_w A10 Q (U1, U2, U3, U4, U5, mo) T) rfl ?_
            refine mr_ld ez_h91 rfl hE hA10 (k := ri) (by omega) ?_
            refine ez_go ez_h91 1 (pc' := 111) (L' := [some (.ref 0), some (.int (nI (t))), some (.int (nI (b))), some (.int (nI (c))), some (.int (nI (e))), some (.int (nI (b + i))), some (.int (nI (ri))), some (.int (nI (go))), some (.int (nI (1)))]) (st' := [.int (nI (row ri)), .int (nI (go)), .ref 5]) (w' := mz_w A10 Q (U1, U2, U3, U4, U5, mo) T) rfl ?_
            refine ez_ast ez_h91 rfl rfl (go) rfl (by omega) (by omega) ?_
            refine ez_go ez_h91 2 (pc' := bif decide ((nI (1)) = (nI 0)) then 123 else 117) (L' := [some (.ref 0), some (.int (nI (t))), some (.int (nI (b))), some (.int (nI (c))), some (.int (nI (e))), some (.int (nI (b + i))), some (.int (nI (ri))), some (.int (nI (go))), some (.int (nI (1)))]) (st' := []) (w' := mz_w A10 Q (U1, U2, U3, U4, U5, (upd mo go (nI (row ri)))) T) rfl ?_
            refine ez_ifF (zt_ne (by omega) (by omega) (by omega)) ?_
            refine ez_inc ez_h91 rfl rfl (v := nI (ri + 1)) (zi_1 _) rfl ?_
            refine ez_go ez_h91 1 (pc' := 126) (L' := [some (.ref 0), some (.int (nI (t))), some (.int (nI (b))), some (.int (nI (c))), some (.int (nI (e))), some (.int (nI (b + i))), some (.int (nI (ri + 1))), some (.int (nI (go))), some (.int (nI (1)))]) (st' := []) (w' := mz_w A10 Q (U1, U2, U3, U4, U5, (upd mo go (nI (row ri)))) T) rfl ?_
            refine ez_inc ez_h91 rfl rfl (v := nI (go + 1)) (zi_1 _) rfl ?_
            refine ez_go ez_h91 1 (pc' := 35) (L' := [some (.ref 0), some (.int (nI (t))), some (.int (nI (b))), some (.int (nI (c))), some (.int (nI (e))), some (.int (nI (b + i))), some (.int (nI (ri + 1))), some (.int (nI (go + 1))), some (.int (nI (1)))]) (st' := []) (w' := mz_w A10 Q (U1, U2, U3, U4, U5, (upd mo go (nI (row ri)))) T) rfl ?_
            refine ez_E.le (ez_lc (ez_lc (ez_lc (ez_lc (ez_lc (ez_lc (ez_lc (ez_lc (ez_ln ez_l0))))))))) (a5 _ (fun k j1 j2 => ?_) _ Q U1 U2 U3 U4 U5 T t post hA10 kk)
            by_cases e1 : k = go
            · rw [e1, pk_us, va_up_self]
            · rw [pk_un e1, va_up_ne _ _ e1]; exact h5 k j1 (by omega)
end
section
theorem zm_cp {E : ze_T} (hE : ze_ok E) {b c e : Nat} (he : e ≤ ze_n E) (hc : b ≤ c) (hce : c ≤ e) {row : Nat → Nat} {g : zs_G} (hw : zr_ok E row g) : ∀ (s i : Nat) (spr : Nat → Int32), c ≤ b + i + s → b + i ≤ c → (∀ k, k < i → spr k = nI (ze_pi E (row (b + k)))) →
    ∀ (r : cz_Row) (q : cz_Qk) (u1 : Int32) (u2 u3 : Int64) (u4 u5 : Nat → Int32) (bb : cz_Bn) (post : Option Value → ez_W → Prop), cr_R E row g r → (∀ (spr' : Nat → Int32), (∀ k, k < c - b → spr' k = nI (ze_pi E (row (b + k)))) → ez_E 56 47 [some (.ref 5), some (.int (nI (b))), some (.int (nI (c))), some (.int (nI (e))), some (.int (nI (c - b))), none, none, none] [] (cz_w r q (u1, u2, u3, u4, u5, spr') bb) post) → ez_E 56 16 [some (.ref 5), some (.int (nI (b))), some (.int (nI (c))), some (.int (nI (e))), some (.int (nI (c - b))), some (.int (nI (i))), none, none] [] (cz_w r q (u1, u2, u3, u4, u5, spr) bb) post := by
  have hn := hE.1
  intro s
  induction s with
  | zero =>
    intro i spr h1 h2 h3 r q u1 u2 u3 u4 u5 bb post hr kk
    refine ez_go ez_h56 3 (pc' := bif decide ((nI (c - b)) ≤ (nI (i))) then 47 else 23) (L' := [some (.ref 5), some (.int (nI (b))), some (.int (nI (c))), some (.int (nI (e))), some (.int (nI (c - b))), some (.int (nI (i))), none, none]) (st' := []) (w' := cz_w r q (u1, u2, u3, u4, u5, spr) bb) rfl ?_
    refine ez_ifT (zt_le (a := c - b) (b := i) (by omega) (by omega)) ?_
    exact ez_E.le (ez_lc (ez_lc (ez_lc (ez_lc (ez_lc (ez_ln (ez_lc (ez_lc ez_l0)))))))) (kk spr (fun k hk => h3 k (by omega)))
  | succ s ih =>
    intro i spr h1 h2 h3 r q u1 u2 u3 u4 u5 bb post hr kk
    by_cases hi : c - b ≤ i
    · skip
      refine ez_go ez_h56 3 (pc' := bif decide ((nI (c - b)) ≤ (nI (i))) then 47 else 23) (L' := [some (.ref 5), some (.int (nI (b))), some (.int (nI (c))), some (.int (nI (e))), some (.int (nI (c - b))), some (.int (nI (i))), none, none]) (st' := []) (w' := cz_w r q (u1, u2, u3, u4, u5, spr) bb) rfl ?_
      refine ez_ifT (zt_le (a := c - b) (b := i) (by omega) (by omega)) ?_
      exact ez_E.le (ez_lc (ez_lc (ez_lc (ez_lc (ez_lc (ez_ln (ez_lc (ez_lc ez_l0)))))))) (kk spr (fun k hk => h3 k (by omega)))
    · skip
      refine ez_go ez_h56 3 (pc' := bif decide ((nI (c - b)) ≤ (nI (i))) then 47 else 23) (L' := [some (.ref 5), some (.int (nI (b))), some (.int (nI (c))), some (.int (nI (e))), some (.int (nI (c - b))), some (.int (nI (i))), none, none]) (st' := []) (w' := cz_w r q (u1, u2, u3, u4, u5, spr) bb) rfl ?_
      refine ez_ifF (zt_nle (a := c - b) (b := i) (by omega) (by omega)) ?_
      refine ez_go ez_h56 8 (pc' := 37) (L' := [some (.ref 5), some (.int (nI (b))), some (.int (nI (c))), some (.int (nI (e))), some (.int (nI (c - b))), some (.int (nI (i))), none, none]) (st' := [.int ((nI (b)) + (nI (i))), .ref 1, .int (nI (i)), .ref 14]) (w' := cz_w r q (u1, u2, u3, u4, u5, spr) bb) rfl ?_
      refine ez_top (y := nI (b + i)) (nI_add _ _) ?_
      refine ez_cl ez_h56 rfl rfl ?_
      refine cr_at hE hr (k := b + i) (by omega) q (u1, u2, u3, u4, u5, spr) bb ?_
      refine ez_ast ez_h56 rfl rfl (i) rfl (by omega) (by omega) ?_
      refine ez_inc ez_h56 rfl rfl (v := nI (i + 1)) (zi_1 _) rfl ?_
      refine ez_go ez_h56 1 (pc' := 16) (L' := [some (.ref 5), some (.int (nI (b))), some (.int (nI (c))), some (.int (nI (e))), some (.int (nI (c - b))), some (.int (nI (i + 1))), none, none]) (st' := []) (w' := cz_w r q (u1, u2, u3, u4, u5, (upd spr i (nI (ze_pi E (row (b + i)))))) bb) rfl ?_
      refine ih (i + 1) _ (by omega) (by omega) (fun k hk => ?_) r q u1 u2 u3 u4 u5 bb post hr kk
      by_cases e1 : k = i
      · rw [e1, pk_us]
      · rw [pk_un e1]; exact h3 k (by omega)
theorem zm_bk {E : ze_T} (hE : ze_ok E) {b e : Nat} (he : e ≤ ze_n E) {rc : Nat → Nat} {g : zs_G} (hrc : zr_ok E rc g) : ∀ (s k : Nat) (rw1 : Nat → Nat), e ≤ k + s → b ≤ k → k ≤ 600 → (∀ j, ¬ (k ≤ j ∧ j < e) → rw1 j = rc j) →
    ∀ (mo : Nat → Int32), (∀ j, b ≤ j → j < e → mo j = nI (rc j)) → ∀ (A : mz_A) (Q : mz_Q) (U1 U2 : Int64) (U3 : Int32) (U4 U5 : Nat → Int32) (T : mz_T) (t : Nat) (post : Option Value → ez_W → Prop), mr_R E rw1 g A → (∀ A' : mz_A, mr_R E rc g A' → ez_E 91 162 [some (.ref 0), some (.int (nI (t))), none, none, some (.int (nI (e))), none, none, none, none] [] (mz_w A' Q (U1, U2, U3, U4, U5, mo) T) post) → ez_E 91 135 [some (.ref 0), some (.int (nI (t))), none, none, some (.int (nI (e))), none, none, some (.int (nI (k))), none] [] (mz_w A Q (U1, U2, U3, U4, U5, mo) T) post := by
  have hn := hE.1
  intro s
  induction s with
  | zero =>
    intro k rw1 h1 h2 h3 h4 mo h5 A Q U1 U2 U3 U4 U5 T t post hA kk
    have e1 : rw1 = rc := funext (fun j => h4 j (by omega))
    subst e1
    refine ez_go ez_h91 3 (pc' := bif decide ((nI (e)) ≤ (nI (k))) then 162 else 142) (L' := [some (.ref 0), some (.int (nI (t))), none, none, some (.int (nI (e))), none, none, some (.int (nI (k))), none]) (st' := []) (w' := mz_w A Q (U1, U2, U3, U4, U5, mo) T) rfl ?_
    refine ez_ifT (zt_le (a := e) (b := k) (by omega) (by omega)) ?_
    exact ez_E.le (ez_lc (ez_lc (ez_lc (ez_lc (ez_lc (ez_lc (ez_lc (ez_ln (ez_lc ez_l0))))))))) (kk _ hA)
  | succ s ih =>
    intro k rw1 h1 h2 h3 h4 mo h5 A Q U1 U2 U3 U4 U5 T t post hA kk
    by_cases hk : e ≤ k
    · have e1 : rw1 = rc := funext (fun j => h4 j (by omega))
      subst e1
      refine ez_go ez_h91 3 (pc' := bif decide ((nI (e)) ≤ (nI (k))) then 162 else 142) (L' := [some (.ref 0), some (.int (nI (t))), none, none, some (.int (nI (e))), none, none, some (.int (nI (k))), none]) (st' := []) (w' := mz_w A Q (U1, U2, U3, U4, U5, mo) T) rfl ?_
      refine ez_ifT (zt_le (a := e) (b := k) (by omega) (by omega)) ?_
      exact ez_E.le (ez_lc (ez_lc (ez_lc (ez_lc (ez_lc (ez_lc (ez_lc (ez_ln (ez_lc ez_l0))))))))) (kk _ hA)
    · skip
      refine ez_go ez_h91 3 (pc' := bif decide ((nI (e)) ≤ (nI (k))) then 162 else 142) (L' := [some (.ref 0), some (.int (nI (t))), none, none, some (.int (nI (e))), none, none, some (.int (nI (k))), none]) (st' := []) (w' := mz_w A Q (U1, U2, U3, U4, U5, mo) T) rfl ?_
      refine ez_ifF (zt_nle (a := e) (b := k) (by omega) (by omega)) ?_
      refine ez_go ez_h91 6 (pc' := 154) (L' := [some (.ref 0), some (.int (nI (t))), none, none, some (.int (nI (e))), none, none, some (.int (nI (k))), none]) (st' := [.int (nI (k)), .ref 5, .int (nI (k)), .ref 4]) (w' := mz_w A Q (U1, U2, U3, U4, U5, mo) T) rfl ?_
      refine ez_ald ez_h91 rfl rfl (k) rfl (by omega) (by omega) ?_
      refine ez_top (y := nI (rc k)) (h5 k (by omega) (by omega)) ?_
      refine mr_st ez_h91 rfl hE hA (k := k) (x := rc k) (by omega) (fun A4 hA4 => ?_)
      refine ez_inc ez_h91 rfl rfl (v := nI (k + 1)) (zi_1 _) rfl ?_
      refine ez_go ez_h91 1 (pc' := 135) (L' := [some (.ref 0), some (.int (nI (t))), none, none, some (.int (nI (e))), none, none, some (.int (nI (k + 1))), none]) (st' := []) (w' := mz_w A4 Q (U1, U2, U3, U4, U5, mo) T) rfl ?_
      refine ih (k + 1) _ (by omega) (by omega) (by omega) (fun j hj => ?_) mo h5 _ Q U1 U2 U3 U4 U5 T t post hA4 kk
      by_cases e1 : j = k
      · rw [e1, va_up_self]
      · rw [va_up_ne _ _ e1]; exact h4 j (by omega)
/-- two RUNS are MERGED: the class's method, the reference's piece -/
theorem zm_merge {E : ze_T} (hE : ze_ok E) {b c e : Nat} (he : e ≤ ze_n E) (hc : b ≤ c) (hce : c ≤ e) {row : Nat → Nat} {g : zs_G} (hw : zr_ok E row g) :
    ∃ (row' : Nat → Nat) (g' : zs_G), zr_ok E row' g' ∧ zg_le E g g' ∧ zp_in row row' b e ∧
      (∀ (r : cz_Row) (q : cz_Qk) (u : cz_Rn) (bb : cz_Bn) (post : Option Value → ez_W → Prop), cr_R E row g r → (∀ (r' : cz_Row) (spr : Nat → Int32), cr_R E row' g' r' → post none (cz_w r' q (u.1, u.2.1, u.2.2.1, u.2.2.2.1, u.2.2.2.2.1, spr) bb)) → ez_m 56 [.ref 5, .int (nI b), .int (nI c), .int (nI e)] (cz_w r q u bb) post) ∧
      (∀ (mo : Nat → Int32) (A : mz_A) (Q : mz_Q) (U1 U2 : Int64) (U3 : Int32) (U4 U5 : Nat → Int32) (T : mz_T) (t : Nat) (post : Option Value → ez_W → Prop), mr_R E row g A → (∀ (A' : mz_A) (mo' : Nat → Int32), mr_R E row' g' A' → ez_E 91 162 [some (.ref 0), some (.int (nI (t))), none, none, some (.int (nI (e))), none, none, none, none] [] (mz_w A' Q (U1, U2, U3, U4, U5, mo') T) post) → ez_E 91 26 [some (.ref 0), some (.int (nI (t))), some (.int (nI (b))), some (.int (nI (c))), some (.int (nI (e))), none, none, none, none] [] (mz_w A Q (U1, U2, U3, U4, U5, mo) T) post) := by
  have hn := hE.1
  obtain ⟨row', g', a1, a2, a3, a4, a5⟩ := zm_loop hE he hc (row := row) (c + e) 0 c b row g (by omega) (by omega) (Nat.le_refl _) hce (by omega) hw hw (fun _ _ => rfl) (fun _ _ => rfl) (fun k k1 k2 => by omega)
  refine ⟨row', g', a1, a2, a3, fun r q u bb post hr kk => ?_, fun mo A Q U1 U2 U3 U4 U5 T t post hA kk => ?_⟩
  · obtain ⟨u1, u2, u3, u4, u5, spr0⟩ := u
    refine ez_m.of (L := [some (.ref 5), some (.int (nI (b))), some (.int (nI (c))), some (.int (nI (e))), none, none, none, none]) rfl rfl rfl ?_
    refine ez_go ez_h56 3 (pc' := 3) (L' := [some (.ref 5), some (.int (nI (b))), some (.int (nI (c))), some (.int (nI (e))), none, none, none, none]) (st' := [.int ((nI (c)) - (nI (b)))]) (w' := cz_w r q (u1, u2, u3, u4, u5, spr0) bb) rfl ?_
    refine ez_top (y := nI (c - b)) (pk_sub (by omega)) ?_
    refine ez_go ez_h56 3 (pc' := 8) (L' := [some (.ref 5), some (.int (nI (b))), some (.int (nI (c))), some (.int (nI (e))), none, none, none, none]) (st' := [.int (nI (600)), .int (nI (c - b))]) (w' := cz_w r q (u1, u2, u3, u4, u5, spr0) bb) rfl ?_
    refine ez_min ez_h56 rfl rfl (by omega) (by omega) ?_
    rw [show min (c - b) 600 = c - b by omega]
    refine ez_go ez_h56 3 (pc' := 16) (L' := [some (.ref 5), some (.int (nI (b))), some (.int (nI (c))), some (.int (nI (e))), some (.int (nI (c - b))), some (.int (nI (0))), none, none]) (st' := []) (w' := cz_w r q (u1, u2, u3, u4, u5, spr0) bb) rfl ?_
    refine zm_cp hE he hc hce hw c 0 spr0 (by omega) (by omega) (fun k hk => by omega) r q u1 u2 u3 u4 u5 bb post hr (fun spr hs => ?_)
    refine ez_go ez_h56 6 (pc' := 56) (L' := [some (.ref 5), some (.int (nI (b))), some (.int (nI (c))), some (.int (nI (e))), some (.int (nI (c - b))), some (.int (nI (0))), some (.int (nI (c))), some (.int (nI (b)))]) (st' := []) (w' := cz_w r q (u1, u2, u3, u4, u5, spr) bb) rfl ?_
    exact a4 _ q (u1, u2, u3, u4, u5, spr) bb post hs hr (fun r9 hr9 => kk r9 spr hr9)
  · skip
    refine ez_go ez_h91 6 (pc' := 35) (L' := [some (.ref 0), some (.int (nI (t))), some (.int (nI (b))), some (.int (nI (c))), some (.int (nI (e))), some (.int (nI (b))), some (.int (nI (c))), some (.int (nI (b))), none]) (st' := []) (w' := mz_w A Q (U1, U2, U3, U4, U5, mo) T) rfl ?_
    refine a5 mo (fun k k1 k2 => by omega) _ Q U1 U2 U3 U4 U5 T t post hA (fun A9 mo9 hA9 hm9 => ?_)
    refine ez_go ez_h91 2 (pc' := 135) (L' := [some (.ref 0), some (.int (nI (t))), some (.int (nI (b))), some (.int (nI (c))), some (.int (nI (e))), none, none, some (.int (nI (b))), none]) (st' := []) (w' := mz_w A9 Q (U1, U2, U3, U4, U5, mo9) T) rfl ?_
    refine ez_E.le (ez_lc (ez_lc (ez_ln (ez_ln (ez_lc (ez_lc (ez_lc (ez_lc (ez_lc ez_l0))))))))) (zm_bk hE he a1 e b row (by omega) (Nat.le_refl _) (by omega) (fun j hj => (a3.2 j (by omega)).symm) mo9 hm9 _ Q U1 U2 U3 U4 U5 T t post hA9 (fun A8 hA8 => kk A8 mo9 hA8))
end
section
set_option maxRecDepth 20000 in
theorem lf_sizeAt (k : Nat) (hk : k < 40) (hgt : Int32) (pil : Int64) (mrg : Int64) (bgs : Nat → Int32) (szs : Nat → Int32) (spr : Nat → Int32) (r : cz_Row) (q : cz_Qk) (b : cz_Bn) {post : Option Value → ez_W → Prop} (h : post (some (.int (szs k))) (cz_w r q (hgt, pil, mrg, bgs, szs, spr) b)) : ez_m 49 [.ref 5, .int (nI (k))] (cz_w r q (hgt, pil, mrg, bgs, szs, spr) b) post := by
  refine ez_m.of (L := [some (.ref 5), some (.int (nI (k)))]) rfl rfl rfl ?_
  refine ez_go ez_h49 2 (pc' := bif decide ((nI (k)) < 0) then 19 else 4) (L' := [some (.ref 5), some (.int (nI (k)))]) (st' := []) (w' := cz_w r q (hgt, pil, mrg, bgs, szs, spr) b) rfl ?_
  refine ez_ifF (nI_pos (by omega)) ?_
  refine ez_go ez_h49 3 (pc' := bif decide ((nI (40)) ≤ (nI (k))) then 19 else 10) (L' := [some (.ref 5), some (.int (nI (k)))]) (st' := []) (w' := cz_w r q (hgt, pil, mrg, bgs, szs, spr) b) rfl ?_
  refine ez_ifF (nI_ge (by omega) (by omega)) ?_
  refine ez_go ez_h49 3 (pc' := 15) (L' := [some (.ref 5), some (.int (nI (k)))]) (st' := [.int (nI (k)), .ref 13]) (w' := cz_w r q (hgt, pil, mrg, bgs, szs, spr) b) rfl ?_
  refine ez_ald ez_h49 rfl rfl (k) rfl (by omega) (by omega) ?_
  refine ez_go ez_h49 1 (pc' := 20) (L' := [some (.ref 5), some (.int (nI (k)))]) (st' := [.int (szs (k))]) (w' := cz_w r q (hgt, pil, mrg, bgs, szs, spr) b) rfl ?_
  exact ez_iret rfl ez_h49 rfl rfl h
set_option maxRecDepth 20000 in
theorem lf_beginAt (k : Nat) (hk : k < 40) (hgt : Int32) (pil : Int64) (mrg : Int64) (bgs : Nat → Int32) (szs : Nat → Int32) (spr : Nat → Int32) (r : cz_Row) (q : cz_Qk) (b : cz_Bn) {post : Option Value → ez_W → Prop} (h : post (some (.int (bgs k))) (cz_w r q (hgt, pil, mrg, bgs, szs, spr) b)) : ez_m 50 [.ref 5, .int (nI (k))] (cz_w r q (hgt, pil, mrg, bgs, szs, spr) b) post := by
  refine ez_m.of (L := [some (.ref 5), some (.int (nI (k)))]) rfl rfl rfl ?_
  refine ez_go ez_h50 2 (pc' := bif decide ((nI (k)) < 0) then 19 else 4) (L' := [some (.ref 5), some (.int (nI (k)))]) (st' := []) (w' := cz_w r q (hgt, pil, mrg, bgs, szs, spr) b) rfl ?_
  refine ez_ifF (nI_pos (by omega)) ?_
  refine ez_go ez_h50 3 (pc' := bif decide ((nI (40)) ≤ (nI (k))) then 19 else 10) (L' := [some (.ref 5), some (.int (nI (k)))]) (st' := []) (w' := cz_w r q (hgt, pil, mrg, bgs, szs, spr) b) rfl ?_
  refine ez_ifF (nI_ge (by omega) (by omega)) ?_
  refine ez_go ez_h50 3 (pc' := 15) (L' := [some (.ref 5), some (.int (nI (k)))]) (st' := [.int (nI (k)), .ref 12]) (w' := cz_w r q (hgt, pil, mrg, bgs, szs, spr) b) rfl ?_
  refine ez_ald ez_h50 rfl rfl (k) rfl (by omega) (by omega) ?_
  refine ez_go ez_h50 1 (pc' := 20) (L' := [some (.ref 5), some (.int (nI (k)))]) (st' := [.int (bgs (k))]) (w' := cz_w r q (hgt, pil, mrg, bgs, szs, spr) b) rfl ?_
  exact ez_iret rfl ez_h50 rfl rfl h
set_option maxRecDepth 20000 in
theorem lf_width (k : Nat) (hk : k < 600) (mpil : Int64) (mmrg : Int64) (mpl : Int32) (mbgs : Nat → Int32) (mens : Nat → Int32) (moth : Nat → Int32) (A : mz_A) (Q : mz_Q) (T : mz_T) {post : Option Value → ez_W → Prop} (h : post (some (.int (mens k - mbgs k))) (mz_w A Q (mpil, mmrg, mpl, mbgs, mens, moth) T)) : ez_m 92 [.ref 0, .int (nI (k))] (mz_w A Q (mpil, mmrg, mpl, mbgs, mens, moth) T) post := by
  refine ez_m.of (L := [some (.ref 0), some (.int (nI (k)))]) rfl rfl rfl ?_
  refine ez_go ez_h92 3 (pc' := 5) (L' := [some (.ref 0), some (.int (nI (k)))]) (st' := [.int (nI (k)), .ref 7]) (w' := mz_w A Q (mpil, mmrg, mpl, mbgs, mens, moth) T) rfl ?_
  refine ez_ald ez_h92 rfl rfl (k) rfl (by omega) (by omega) ?_
  refine ez_go ez_h92 3 (pc' := 11) (L' := [some (.ref 0), some (.int (nI (k)))]) (st' := [.int (nI (k)), .ref 6, .int (mens (k))]) (w' := mz_w A Q (mpil, mmrg, mpl, mbgs, mens, moth) T) rfl ?_
  refine ez_ald ez_h92 rfl rfl (k) rfl (by omega) (by omega) ?_
  refine ez_go ez_h92 1 (pc' := 13) (L' := [some (.ref 0), some (.int (nI (k)))]) (st' := [.int ((mens (k)) - (mbgs (k)))]) (w' := mz_w A Q (mpil, mmrg, mpl, mbgs, mens, moth) T) rfl ?_
  exact ez_iret rfl ez_h92 rfl rfl h
/-! ===== the pile: height, begins, sizes, how many were piled, how many MERGED ===== -/
abbrev zp_T : Type := Nat × (Nat → Nat) × (Nat → Nat) × Int64 × Int64
def cu_R (p : zp_T) (u : cz_Rn) : Prop := u.1 = nI p.1 ∧ u.2.1 = p.2.2.2.1 ∧ u.2.2.1 = p.2.2.2.2 ∧ ∀ k, k < p.1 → u.2.2.2.1 k = nI (p.2.1 k) ∧ u.2.2.2.2.1 k = nI (p.2.2.1 k)
def mu_R (p : zp_T) (U : mz_U) : Prop := U.1 = p.2.2.2.1 ∧ U.2.1 = p.2.2.2.2 ∧ U.2.2.1 = nI p.1 ∧ ∀ k, k < p.1 → U.2.2.2.1 k = nI (p.2.1 k) ∧ U.2.2.2.2.1 k = nI (p.2.1 k + p.2.2.1 k)
/-- the RUNS lie behind one another from 0 up to b; all but the last have 16 or more -/
def zp_ok (n : Nat) (p : zp_T) (b : Nat) : Prop := p.2.1 0 = 0 ∧ (∀ k, k < p.1 → p.2.1 k + p.2.2.1 k = p.2.1 (k + 1) ∧ 1 ≤ p.2.2.1 k) ∧ (∀ k, k < p.1 → 16 ≤ p.2.2.1 k ∨ (k + 1 = p.1 ∧ b = n)) ∧ p.2.1 p.1 = b ∧ b ≤ n
theorem zp_ok.ge {n : Nat} {p : zp_T} {b : Nat} (h : zp_ok n p b) : ∀ k, k < p.1 → 16 * k ≤ p.2.1 k
  | 0, _ => by omega
  | k + 1, hk => by
    have := h.ge k (by omega)
    have h1 := (h.2.1 k (by omega)).1
    have h2 := h.2.2.1 k (by omega)
    omega
theorem zp_ok.mono {n : Nat} {p : zp_T} {b : Nat} (h : zp_ok n p b) : ∀ d k, k + d = p.1 → p.2.1 k ≤ b
  | 0, k, hk => by
    have : k = p.1 := by omega
    rw [this, h.2.2.2.1]
    exact Nat.le_refl _
  | d + 1, k, hk => by
    have := h.mono d (k + 1) (by omega)
    have h1 := (h.2.1 k (by omega)).1
    omega
theorem zp_ok.le {n : Nat} {p : zp_T} {b : Nat} (h : zp_ok n p b) {k : Nat} (hk : k ≤ p.1) : p.2.1 k ≤ b := h.mono (p.1 - k) k (by omega)
theorem zp_ok.h {n : Nat} {p : zp_T} {b : Nat} (h : zp_ok n p b) (hn : n ≤ 600) : p.1 ≤ 38 := by
  by_cases h0 : p.1 = 0
  · omega
  · have h1 := h.ge (p.1 - 1) (by omega)
    have h2 := h.2.1 (p.1 - 1) (by omega)
    have h3 := h.2.2.2.1
    have h4 := h.2.2.2.2
    rw [show p.1 - 1 + 1 = p.1 by omega, h3] at h2
    omega
/-- k and k + 1 MERGED -/
def zp_mB (B : Nat → Nat) (k : Nat) : Nat → Nat := fun j => if j ≤ k then B j else B (j + 1)
def zp_mZ (Z : Nat → Nat) (k : Nat) : Nat → Nat := fun j => if j < k then Z j else if j = k then Z k + Z (k + 1) else Z (j + 1)
def zp_mg (p : zp_T) (k : Nat) : zp_T := (p.1 - 1, zp_mB p.2.1 k, zp_mZ p.2.2.1 k, p.2.2.2.1, p.2.2.2.2 + 1)
theorem zp_ok.mg {n : Nat} {p : zp_T} {b : Nat} (h : zp_ok n p b) {k : Nat} (hk : k + 1 < p.1) : zp_ok n (zp_mg p k) b := by
  obtain ⟨hh, B, Z, P, M⟩ := p
  obtain ⟨h1, h2, h3, h4, h5⟩ := h
  replace h1 : B 0 = 0 := h1
  replace h2 : ∀ j, j < hh → B j + Z j = B (j + 1) ∧ 1 ≤ Z j := h2
  replace h3 : ∀ j, j < hh → 16 ≤ Z j ∨ (j + 1 = hh ∧ b = n) := h3
  replace h4 : B hh = b := h4
  replace hk : k + 1 < hh := hk
  refine ⟨?_, fun j hj => ?_, fun j hj => ?_, ?_, h5⟩
  · show (if 0 ≤ k then B 0 else B (0 + 1)) = 0
    rw [if_pos (Nat.zero_le _)]; exact h1
  · replace hj : j < hh - 1 := hj
    show (if j ≤ k then B j else B (j + 1)) + (if j < k then Z j else if j = k then Z k + Z (k + 1) else Z (j + 1)) = (if j + 1 ≤ k then B (j + 1) else B (j + 1 + 1)) ∧ 1 ≤ (if j < k then Z j else if j = k then Z k + Z (k + 1) else Z (j + 1))
    by_cases c1 : j < k
    · have := h2 j (by omega)
      rw [if_pos (by omega), if_pos c1, if_pos (by omega)]; exact this
    · by_cases c2 : j = k
      · subst c2
        have a1 := h2 j (by omega)
        have a2 := h2 (j + 1) (by omega)
        rw [if_pos (Nat.le_refl _), if_neg c1, if_pos rfl, if_neg (by omega)]
        omega
      · have := h2 (j + 1) (by omega)
        rw [if_neg (by omega), if_neg c1, if_neg c2, if_neg (by omega)]; exact this
  · replace hj : j < hh - 1 := hj
    show 16 ≤ (if j < k then Z j else if j = k then Z k + Z (k + 1) else Z (j + 1)) ∨ (j + 1 = hh - 1 ∧ b = n)
    by_cases c1 : j < k
    · have := h3 j (by omega)
      rw [if_pos c1]; omega
    · by_cases c2 : j = k
      · subst c2
        have := h3 j (by omega)
        rw [if_neg c1, if_pos rfl]; omega
      · have := h3 (j + 1) (by omega)
        rw [if_neg c1, if_neg c2]; omega
  · show (if hh - 1 ≤ k then B (hh - 1) else B (hh - 1 + 1)) = b
    rw [if_neg (by omega), show hh - 1 + 1 = hh by omega]; exact h4
/-- a method over row and pile -/
def cw_M (E : ze_T) (j : Nat) (As : List Value) (row : Nat → Nat) (g : zs_G) (p : zp_T) (a : Option Value) (row' : Nat → Nat) (g' : zs_G) (p' : zp_T) : Prop := ∀ (r : cz_Row) (q : cz_Qk) (u : cz_Rn) (bb : cz_Bn) (post : Option Value → ez_W → Prop), cr_R E row g r → cu_R p u → (∀ (r' : cz_Row) (u' : cz_Rn), cr_R E row' g' r' → cu_R p' u' → post a (cz_w r' q u' bb)) → ez_m j As (cz_w r q u bb) post
def mw_M (E : ze_T) (j : Nat) (As : List Value) (row : Nat → Nat) (g : zs_G) (p : zp_T) (a : Option Value) (row' : Nat → Nat) (g' : zs_G) (p' : zp_T) : Prop := ∀ (A : mz_A) (Q : mz_Q) (U : mz_U) (T : mz_T) (post : Option Value → ez_W → Prop), mr_R E row g A → mu_R p U → (∀ (A' : mz_A) (U' : mz_U), mr_R E row' g' A' → mu_R p' U' → post a (mz_w A' Q U' T)) → ez_m j As (mz_w A Q U T) post
def cw_H (E : ze_T) (mi pc : Nat) (L : ez_L) (row : Nat → Nat) (g : zs_G) (p : zp_T) (a : Option Value) (row' : Nat → Nat) (g' : zs_G) (p' : zp_T) : Prop := ∀ (r : cz_Row) (q : cz_Qk) (u : cz_Rn) (bb : cz_Bn) (post : Option Value → ez_W → Prop), cr_R E row g r → cu_R p u → (∀ (r' : cz_Row) (u' : cz_Rn), cr_R E row' g' r' → cu_R p' u' → post a (cz_w r' q u' bb)) → ez_E mi pc L [] (cz_w r q u bb) post
def mw_H (E : ze_T) (mi pc : Nat) (L : ez_L) (row : Nat → Nat) (g : zs_G) (p : zp_T) (a : Option Value) (row' : Nat → Nat) (g' : zs_G) (p' : zp_T) : Prop := ∀ (A : mz_A) (Q : mz_Q) (U : mz_U) (T : mz_T) (post : Option Value → ez_W → Prop), mr_R E row g A → mu_R p U → (∀ (A' : mz_A) (U' : mz_U), mr_R E row' g' A' → mu_R p' U' → post a (mz_w A' Q U' T)) → ez_E mi pc L [] (mz_w A Q U T) post
theorem cw_H.m {E : ze_T} {j : Nat} {L : ez_L} {As : List Value} {row row' : Nat → Nat} {g g' : zs_G} {p p' : zp_T} {a : Option Value} {N : ez_M} (h : cw_H E j 0 L row g p a row' g' p') (hN : ez_ms[j]? = some N) (hL : ez_en As N.2.2.2.1 = L) (hlen : L.length = N.2.2.2.1) : cw_M E j As row g p a row' g' p' := fun r q u b post hr hu kk => ez_m.of hN hL hlen (h r q u b post hr hu kk)
theorem mw_H.m {E : ze_T} {j : Nat} {L : ez_L} {As : List Value} {row row' : Nat → Nat} {g g' : zs_G} {p p' : zp_T} {a : Option Value} {N : ez_M} (h : mw_H E j 0 L row g p a row' g' p') (hN : ez_ms[j]? = some N) (hL : ez_en As N.2.2.2.1 = L) (hlen : L.length = N.2.2.2.1) : mw_M E j As row g p a row' g' p' := fun A Q U T post hA hU kk => ez_m.of hN hL hlen (h A Q U T post hA hU kk)
theorem zp_wd {x y : Int32} {b z : Nat} (h1 : x = nI b) (h2 : y = nI (b + z)) : y - x = nI z := by
  rw [h1, h2, pk_sub (by omega)]
  congr 1
  omega
theorem zp_cdn {hh k : Nat} {B Z : Nat → Nat} (hk : k + 1 < hh) (h38 : hh ≤ 38) : ∀ (s a : Nat) (bgs szs : Nat → Int32), hh ≤ a + s → k + 2 ≤ a → a ≤ hh → (∀ j, j + 1 < a → bgs j = nI (zp_mB B k j) ∧ szs j = nI (zp_mZ Z k j)) → (∀ j, a ≤ j → j < hh → bgs j = nI (B j) ∧ szs j = nI (Z j)) →
    ∀ (r : cz_Row) (q : cz_Qk) (P M : Int64) (spr : Nat → Int32) (bb : cz_Bn) (post : Option Value → ez_W → Prop), (∀ (bgs' szs' : Nat → Int32), (∀ j, j + 1 < hh → bgs' j = nI (zp_mB B k j) ∧ szs' j = nI (zp_mZ Z k j)) → ez_E 55 115 [some (.ref 5), some (.int (nI (k))), none, none] [] (cz_w r q (nI hh, P, M, bgs', szs', spr) bb) post) → ez_E 55 75 [some (.ref 5), some (.int (nI (k))), none, some (.int (nI (a)))] [] (cz_w r q (nI hh, P, M, bgs, szs, spr) bb) post := by
  intro s
  induction s with
  | zero =>
    intro a bgs szs h1 h2 h3 h4 h5 r q P M spr bb post kk
    refine ez_go ez_h55 4 (pc' := bif decide ((nI (hh)) ≤ (nI (a))) then 115 else 83) (L' := [some (.ref 5), some (.int (nI (k))), none, some (.int (nI (a)))]) (st' := []) (w' := cz_w r q (nI (hh), P, M, bgs, szs, spr) bb) rfl ?_
    refine ez_ifT (zt_le (a := hh) (b := a) (by omega) (by omega)) ?_
    exact ez_E.le (ez_lc (ez_lc (ez_lc (ez_ln ez_l0)))) (kk bgs szs (fun j hj => h4 j (by omega)))
  | succ s ih =>
    intro a bgs szs h1 h2 h3 h4 h5 r q P M spr bb post kk
    by_cases ha : hh ≤ a
    · skip
      refine ez_go ez_h55 4 (pc' := bif decide ((nI (hh)) ≤ (nI (a))) then 115 else 83) (L' := [some (.ref 5), some (.int (nI (k))), none, some (.int (nI (a)))]) (st' := []) (w' := cz_w r q (nI (hh), P, M, bgs, szs, spr) bb) rfl ?_
      refine ez_ifT (zt_le (a := hh) (b := a) (by omega) (by omega)) ?_
      exact ez_E.le (ez_lc (ez_lc (ez_lc (ez_ln ez_l0)))) (kk bgs szs (fun j hj => h4 j (by omega)))
    · skip
      refine ez_go ez_h55 4 (pc' := bif decide ((nI (hh)) ≤ (nI (a))) then 115 else 83) (L' := [some (.ref 5), some (.int (nI (k))), none, some (.int (nI (a)))]) (st' := []) (w' := cz_w r q (nI (hh), P, M, bgs, szs, spr) bb) rfl ?_
      refine ez_ifF (zt_nle (a := hh) (b := a) (by omega) (by omega)) ?_
      refine ez_go ez_h55 5 (pc' := 90) (L' := [some (.ref 5), some (.int (nI (k))), none, some (.int (nI (a)))]) (st' := [.int ((nI (a)) - (nI (1))), .ref 12]) (w' := cz_w r q (nI (hh), P, M, bgs, szs, spr) bb) rfl ?_
      refine ez_top (y := nI (a - 1)) (pk_sub (by omega)) ?_
      refine ez_go ez_h55 2 (pc' := 92) (L' := [some (.ref 5), some (.int (nI (k))), none, some (.int (nI (a)))]) (st' := [.int (nI (a)), .ref 5, .int (nI (a - 1)), .ref 12]) (w' := cz_w r q (nI (hh), P, M, bgs, szs, spr) bb) rfl ?_
      refine ez_cl ez_h55 rfl rfl ?_
      refine lf_beginAt a (by omega) (nI (hh)) P M bgs szs spr r q bb ?_
      refine ez_top (y := nI (B a)) ((h5 a (by omega) (by omega)).1) ?_
      refine ez_ast ez_h55 rfl rfl (a - 1) rfl (by omega) (by omega) ?_
      refine ez_go ez_h55 5 (pc' := 103) (L' := [some (.ref 5), some (.int (nI (k))), none, some (.int (nI (a)))]) (st' := [.int ((nI (a)) - (nI (1))), .ref 13]) (w' := cz_w r q (nI (hh), P, M, (upd bgs (a - 1) (nI (B a))), szs, spr) bb) rfl ?_
      refine ez_top (y := nI (a - 1)) (pk_sub (by omega)) ?_
      refine ez_go ez_h55 2 (pc' := 105) (L' := [some (.ref 5), some (.int (nI (k))), none, some (.int (nI (a)))]) (st' := [.int (nI (a)), .ref 5, .int (nI (a - 1)), .ref 13]) (w' := cz_w r q (nI (hh), P, M, (upd bgs (a - 1) (nI (B a))), szs, spr) bb) rfl ?_
      refine ez_cl ez_h55 rfl rfl ?_
      refine lf_sizeAt a (by omega) (nI (hh)) P M (upd bgs (a - 1) (nI (B a))) szs spr r q bb ?_
      refine ez_top (y := nI (Z a)) ((h5 a (by omega) (by omega)).2) ?_
      refine ez_ast ez_h55 rfl rfl (a - 1) rfl (by omega) (by omega) ?_
      refine ez_inc ez_h55 rfl rfl (v := nI (a + 1)) (zi_1 _) rfl ?_
      refine ez_go ez_h55 1 (pc' := 75) (L' := [some (.ref 5), some (.int (nI (k))), none, some (.int (nI (a + 1)))]) (st' := []) (w' := cz_w r q (nI (hh), P, M, (upd bgs (a - 1) (nI (B a))), (upd szs (a - 1) (nI (Z a))), spr) bb) rfl ?_
      refine ih (a + 1) _ _ (by omega) (by omega) (by omega) (fun j hj => ?_) (fun j j1 j2 => ?_) r q P M spr bb post kk
      · by_cases e : j = a - 1
        · subst e
          rw [pk_us, pk_us]
          unfold zp_mB zp_mZ
          rw [if_neg (by omega), if_neg (by omega), if_neg (by omega), show a - 1 + 1 = a by omega]
          exact ⟨rfl, rfl⟩
        · rw [pk_un e, pk_un e]; exact h4 j (by omega)
      · rw [pk_un (by omega), pk_un (by omega)]; exact h5 j (by omega) j2
theorem zp_mdn {hh k : Nat} {B Z : Nat → Nat} (hk : k + 1 < hh) (h38 : hh ≤ 38) : ∀ (s a : Nat) (bgs ens : Nat → Int32), hh ≤ a + s → k + 1 ≤ a → a < hh → (∀ j, j < a → bgs j = nI (zp_mB B k j) ∧ ens j = nI (zp_mB B k j + zp_mZ Z k j)) → (∀ j, a < j → j < hh → bgs j = nI (B j) ∧ ens j = nI (B j + Z j)) →
    ∀ (A : mz_A) (Q : mz_Q) (P M : Int64) (oth : Nat → Int32) (T : mz_T) (post : Option Value → ez_W → Prop), (∀ (bgs' ens' : Nat → Int32), (∀ j, j + 1 < hh → bgs' j = nI (zp_mB B k j) ∧ ens' j = nI (zp_mB B k j + zp_mZ Z k j)) → ez_E 91 224 [some (.ref 0), some (.int (nI (k))), none, none, none, none, none, none, none] [] (mz_w A Q (P, M, nI hh, bgs', ens', oth) T) post) → ez_E 91 175 [some (.ref 0), some (.int (nI (k))), none, none, none, none, none, some (.int (nI (a))), none] [] (mz_w A Q (P, M, nI hh, bgs, ens, oth) T) post := by
  intro s
  induction s with
  | zero => intro a bgs ens h1 h2 h3; omega
  | succ s ih =>
    intro a bgs ens h1 h2 h3 h4 h5 A Q P M oth T post kk
    by_cases ha : hh ≤ a + 1
    · skip
      refine ez_go ez_h91 5 (pc' := 183) (L' := [some (.ref 0), some (.int (nI (k))), none, none, none, none, none, some (.int (nI (a))), none]) (st' := [.int ((nI (hh)) - (nI (1))), .int (nI (a))]) (w' := mz_w A Q (P, M, nI (hh), bgs, ens, oth) T) rfl ?_
      refine ez_top (y := nI (hh - 1)) (pk_sub (by omega)) ?_
      refine ez_go ez_h91 1 (pc' := bif decide ((nI (hh - 1)) ≤ (nI (a))) then 224 else 186) (L' := [some (.ref 0), some (.int (nI (k))), none, none, none, none, none, some (.int (nI (a))), none]) (st' := []) (w' := mz_w A Q (P, M, nI (hh), bgs, ens, oth) T) rfl ?_
      refine ez_ifT (zt_le (a := hh - 1) (b := a) (by omega) (by omega)) ?_
      exact ez_E.le (ez_lc (ez_lc (ez_lc (ez_lc (ez_lc (ez_lc (ez_lc (ez_ln (ez_lc ez_l0))))))))) (kk bgs ens (fun j hj => h4 j (by omega)))
    · skip
      refine ez_go ez_h91 5 (pc' := 183) (L' := [some (.ref 0), some (.int (nI (k))), none, none, none, none, none, some (.int (nI (a))), none]) (st' := [.int ((nI (hh)) - (nI (1))), .int (nI (a))]) (w' := mz_w A Q (P, M, nI (hh), bgs, ens, oth) T) rfl ?_
      refine ez_top (y := nI (hh - 1)) (pk_sub (by omega)) ?_
      refine ez_go ez_h91 1 (pc' := bif decide ((nI (hh - 1)) ≤ (nI (a))) then 224 else 186) (L' := [some (.ref 0), some (.int (nI (k))), none, none, none, none, none, some (.int (nI (a))), none]) (st' := []) (w' := mz_w A Q (P, M, nI (hh), bgs, ens, oth) T) rfl ?_
      refine ez_ifF (zt_nle (a := hh - 1) (b := a) (by omega) (by omega)) ?_
      refine ez_go ez_h91 8 (pc' := 200) (L' := [some (.ref 0), some (.int (nI (k))), none, none, none, none, none, some (.int (nI (a))), none]) (st' := [.int ((nI (a)) + (nI (1))), .ref 6, .int (nI (a)), .ref 6]) (w' := mz_w A Q (P, M, nI (hh), bgs, ens, oth) T) rfl ?_
      refine ez_top (y := nI (a + 1)) (nI_add _ _) ?_
      refine ez_ald ez_h91 rfl rfl (a + 1) rfl (by omega) (by omega) ?_
      refine ez_top (y := nI (B (a + 1))) ((h5 (a + 1) (by omega) (by omega)).1) ?_
      refine ez_ast ez_h91 rfl rfl (a) rfl (by omega) (by omega) ?_
      refine ez_go ez_h91 8 (pc' := 216) (L' := [some (.ref 0), some (.int (nI (k))), none, none, none, none, none, some (.int (nI (a))), none]) (st' := [.int ((nI (a)) + (nI (1))), .ref 7, .int (nI (a)), .ref 7]) (w' := mz_w A Q (P, M, nI (hh), (upd bgs a (nI (B (a + 1)))), ens, oth) T) rfl ?_
      refine ez_top (y := nI (a + 1)) (nI_add _ _) ?_
      refine ez_ald ez_h91 rfl rfl (a + 1) rfl (by omega) (by omega) ?_
      refine ez_top (y := nI (B (a + 1) + Z (a + 1))) ((h5 (a + 1) (by omega) (by omega)).2) ?_
      refine ez_ast ez_h91 rfl rfl (a) rfl (by omega) (by omega) ?_
      refine ez_inc ez_h91 rfl rfl (v := nI (a + 1)) (zi_1 _) rfl ?_
      refine ez_go ez_h91 1 (pc' := 175) (L' := [some (.ref 0), some (.int (nI (k))), none, none, none, none, none, some (.int (nI (a + 1))), none]) (st' := []) (w' := mz_w A Q (P, M, nI (hh), (upd bgs a (nI (B (a + 1)))), (upd ens a (nI (B (a + 1) + Z (a + 1)))), oth) T) rfl ?_
      refine ih (a + 1) _ _ (by omega) (by omega) (by omega) (fun j hj => ?_) (fun j j1 j2 => ?_) A Q P M oth T post kk
      · by_cases e : j = a
        · subst e
          rw [pk_us, pk_us]
          unfold zp_mB zp_mZ
          rw [if_neg (by omega), if_neg (by omega), if_neg (by omega)]
          exact ⟨rfl, rfl⟩
        · rw [pk_un e, pk_un e]; exact h4 j (by omega)
      · rw [pk_un (by omega), pk_un (by omega)]; exact h5 j (by omega) j2
end
section
/-- two RUNS of the pile are MERGED -/
theorem zm_at {E : ze_T} (hE : ze_ok E) {p : zp_T} {bd k : Nat} (hp : zp_ok (ze_n E) p bd) (hk : k + 1 < p.1) {row : Nat → Nat} {g : zs_G} (hw : zr_ok E row g) :
    ∃ (row' : Nat → Nat) (g' : zs_G), zr_ok E row' g' ∧ zg_le E g g' ∧ zp_in row row' 0 (ze_n E) ∧ cw_M E 55 [.ref 5, .int (nI k)] row g p none row' g' (zp_mg p k) ∧ mw_M E 91 [.ref 0, .int (nI k)] row g p none row' g' (zp_mg p k) := by
  obtain ⟨hh, B, Z, P, M⟩ := p
  have hn := hE.1
  have h38 := hp.h hn
  replace h38 : hh ≤ 38 := h38
  replace hk : k + 1 < hh := hk
  have q1 : B k + Z k = B (k + 1) ∧ 1 ≤ Z k := hp.2.1 k (by show k < hh; omega)
  have q2 : B (k + 1) + Z (k + 1) = B (k + 1 + 1) ∧ 1 ≤ Z (k + 1) := hp.2.1 (k + 1) hk
  have q3 : B (k + 1 + 1) ≤ bd := hp.le (k := k + 1 + 1) hk
  have q4 : bd ≤ ze_n E := hp.2.2.2.2
  obtain ⟨row', g', a1, a2, a3, a4, a5⟩ := zm_merge hE (b := B k) (c := B (k + 1)) (e := B (k + 1) + Z (k + 1)) (by omega) (by omega) (by omega) hw
  refine ⟨row', g', a1, a2, a3.wide (Nat.zero_le _) (by omega), ?_, ?_⟩
  · refine cw_H.m (L := [some (.ref 5), some (.int (nI (k))), none, none]) (fun r q u bb post hr hu kk => ?_) rfl rfl rfl
    obtain ⟨uh, uP, uM, bgs, szs, spr⟩ := u
    obtain ⟨e1, e2, e3, hbz⟩ := hu
    replace e1 : uh = nI hh := e1
    replace e2 : uP = P := e2
    replace e3 : uM = M := e3
    subst e1 e2 e3
    replace hbz : ∀ j, j < hh → bgs j = nI (B j) ∧ szs j = nI (Z j) := hbz
    refine ez_go ez_h55 2 (pc' := bif decide ((nI (k)) < (nI 0)) then 23 else 4) (L' := [some (.ref 5), some (.int (nI (k))), none, none]) (st' := []) (w' := cz_w r q (nI (hh), uP, uM, bgs, szs, spr) bb) rfl ?_
    refine ez_ifF (zt_nlt (a := k) (b := 0) (by omega) (by omega)) ?_
    refine ez_go ez_h55 3 (pc' := 7) (L' := [some (.ref 5), some (.int (nI (k))), none, none]) (st' := [.int ((nI (k)) + (nI (1)))]) (w' := cz_w r q (nI (hh), uP, uM, bgs, szs, spr) bb) rfl ?_
    refine ez_top (y := nI (k + 1)) (nI_add _ _) ?_
    refine ez_go ez_h55 3 (pc' := bif decide ((nI (hh)) ≤ (nI (k + 1))) then 23 else 14) (L' := [some (.ref 5), some (.int (nI (k))), none, none]) (st' := []) (w' := cz_w r q (nI (hh), uP, uM, bgs, szs, spr) bb) rfl ?_
    refine ez_ifF (zt_nle (a := hh) (b := k + 1) (by omega) (by omega)) ?_
    refine ez_go ez_h55 4 (pc' := bif decide ((nI (hh)) ≤ (nI (40))) then 24 else 23) (L' := [some (.ref 5), some (.int (nI (k))), none, none]) (st' := []) (w' := cz_w r q (nI (hh), uP, uM, bgs, szs, spr) bb) rfl ?_
    refine ez_ifT (zt_le (a := hh) (b := 40) (by omega) (by omega)) ?_
    refine ez_go ez_h55 5 (pc' := 31) (L' := [some (.ref 5), some (.int (nI (k))), none, none]) (st' := [.int ((nI (k)) + (nI (1))), .ref 12]) (w' := cz_w r q (nI (hh), uP, uM, bgs, szs, spr) bb) rfl ?_
    refine ez_top (y := nI (k + 1)) (nI_add _ _) ?_
    refine ez_ald ez_h55 rfl rfl (k + 1) rfl (by omega) (by omega) ?_
    refine ez_top (y := nI (B (k + 1))) ((hbz (k + 1) (by omega)).1) ?_
    refine ez_go ez_h55 5 (pc' := 39) (L' := [some (.ref 5), some (.int (nI (k))), some (.int (nI (B (k + 1)))), none]) (st' := [.int (nI (k)), .ref 12, .ref 5]) (w' := cz_w r q (nI (hh), uP, uM, bgs, szs, spr) bb) rfl ?_
    refine ez_ald ez_h55 rfl rfl (k) rfl (by omega) (by omega) ?_
    refine ez_top (y := nI (B k)) ((hbz k (by omega)).1) ?_
    refine ez_go ez_h55 7 (pc' := 49) (L' := [some (.ref 5), some (.int (nI (k))), some (.int (nI (B (k + 1)))), none]) (st' := [.int ((nI (k)) + (nI (1))), .ref 13, .int (nI (B (k + 1))), .int (nI (B (k + 1))), .int (nI (B k)), .ref 5]) (w' := cz_w r q (nI (hh), uP, uM, bgs, szs, spr) bb) rfl ?_
    refine ez_top (y := nI (k + 1)) (nI_add _ _) ?_
    refine ez_ald ez_h55 rfl rfl (k + 1) rfl (by omega) (by omega) ?_
    refine ez_top (y := nI (Z (k + 1))) ((hbz (k + 1) (by omega)).2) ?_
    refine ez_go ez_h55 1 (pc' := 51) (L' := [some (.ref 5), some (.int (nI (k))), some (.int (nI (B (k + 1)))), none]) (st' := [.int ((nI (B (k + 1))) + (nI (Z (k + 1)))), .int (nI (B (k + 1))), .int (nI (B k)), .ref 5]) (w' := cz_w r q (nI (hh), uP, uM, bgs, szs, spr) bb) rfl ?_
    refine ez_top (y := nI ((B (k + 1)) + (Z (k + 1)))) (nI_add _ _) ?_
    refine ez_cl ez_h55 rfl rfl ?_
    refine a4 _ q (nI (hh), uP, uM, bgs, szs, spr) bb _ hr (fun r9 spr9 hr9 => ?_)
    refine ez_go ez_h55 4 (pc' := 60) (L' := [some (.ref 5), some (.int (nI (k))), some (.int (nI (B (k + 1)))), none]) (st' := [.int (nI (k)), .ref 13, .int (nI (k)), .ref 13]) (w' := cz_w r9 q (nI (hh), uP, uM, bgs, szs, spr9) bb) rfl ?_
    refine ez_ald ez_h55 rfl rfl (k) rfl (by omega) (by omega) ?_
    refine ez_top (y := nI (Z k)) ((hbz k (by omega)).2) ?_
    refine ez_go ez_h55 5 (pc' := 68) (L' := [some (.ref 5), some (.int (nI (k))), some (.int (nI (B (k + 1)))), none]) (st' := [.int ((nI (k)) + (nI (1))), .ref 13, .int (nI (Z k)), .int (nI (k)), .ref 13]) (w' := cz_w r9 q (nI (hh), uP, uM, bgs, szs, spr9) bb) rfl ?_
    refine ez_top (y := nI (k + 1)) (nI_add _ _) ?_
    refine ez_ald ez_h55 rfl rfl (k + 1) rfl (by omega) (by omega) ?_
    refine ez_top (y := nI (Z (k + 1))) ((hbz (k + 1) (by omega)).2) ?_
    refine ez_go ez_h55 1 (pc' := 70) (L' := [some (.ref 5), some (.int (nI (k))), some (.int (nI (B (k + 1)))), none]) (st' := [.int ((nI (Z k)) + (nI (Z (k + 1)))), .int (nI (k)), .ref 13]) (w' := cz_w r9 q (nI (hh), uP, uM, bgs, szs, spr9) bb) rfl ?_
    refine ez_top (y := nI ((Z k) + (Z (k + 1)))) (nI_add _ _) ?_
    refine ez_ast ez_h55 rfl rfl (k) rfl (by omega) (by omega) ?_
    refine ez_go ez_h55 3 (pc' := 74) (L' := [some (.ref 5), some (.int (nI (k))), some (.int (nI (B (k + 1)))), none]) (st' := [.int ((nI (k)) + (nI (2)))]) (w' := cz_w r9 q (nI (hh), uP, uM, bgs, (upd szs k (nI ((Z k) + (Z (k + 1))))), spr9) bb) rfl ?_
    refine ez_top (y := nI (k + 2)) (nI_add _ _) ?_
    refine ez_go ez_h55 1 (pc' := 75) (L' := [some (.ref 5), some (.int (nI (k))), some (.int (nI (B (k + 1)))), some (.int (nI (k + 2)))]) (st' := []) (w' := cz_w r9 q (nI (hh), uP, uM, bgs, (upd szs k (nI ((Z k) + (Z (k + 1))))), spr9) bb) rfl ?_
    refine ez_E.le (ez_lc (ez_lc (ez_ln (ez_lc ez_l0)))) (zp_cdn (B := B) (Z := Z) hk h38 hh (k + 2) _ _ (by omega) (by omega) (by omega) (fun j hj => ?_) (fun j j1 j2 => ?_) _ q uP uM _ bb post (fun bgs' szs' hz => ?_))
    · unfold zp_mB zp_mZ
      by_cases ej : j = k
      · subst ej
        rw [pk_us, if_pos (Nat.le_refl _), if_neg (by omega), if_pos rfl]
        exact ⟨(hbz j (by omega)).1, rfl⟩
      · rw [pk_un ej, if_pos (by omega), if_pos (by omega)]; exact hbz j (by omega)
    · rw [pk_un (by omega)]; exact hbz j (by omega)
    refine ez_go ez_h55 5 (pc' := 122) (L' := [some (.ref 5), some (.int (nI (k))), none, none]) (st' := [.int ((nI (hh)) - (nI (1))), .ref 5]) (w' := cz_w r9 q (nI (hh), uP, uM, bgs', szs', spr9) bb) rfl ?_
    refine ez_top (y := nI (hh - 1)) (pk_sub (by omega)) ?_
    refine ez_go ez_h55 7 (pc' := 135) (L' := [some (.ref 5), some (.int (nI (k))), none, none]) (st' := []) (w' := cz_w r9 q (nI (hh - 1), uP, uM + 1, bgs', szs', spr9) bb) rfl ?_
    exact ez_vret rfl ez_h55 rfl rfl (kk _ _ hr9 ⟨rfl, rfl, rfl, fun j hj => hz j (by have : j < hh - 1 := hj; omega)⟩)
  · refine mw_H.m (L := [some (.ref 0), some (.int (nI (k))), none, none, none, none, none, none, none]) (fun A Q U T post hA hU kk => ?_) rfl rfl rfl
    obtain ⟨uP, uM, uh, bgs, ens, oth⟩ := U
    obtain ⟨e2, e3, e1, hbz⟩ := hU
    replace e1 : uh = nI hh := e1
    replace e2 : uP = P := e2
    replace e3 : uM = M := e3
    subst e1 e2 e3
    replace hbz : ∀ j, j < hh → bgs j = nI (B j) ∧ ens j = nI (B j + Z j) := hbz
    refine ez_go ez_h91 3 (pc' := 5) (L' := [some (.ref 0), some (.int (nI (k))), none, none, none, none, none, none, none]) (st' := [.int (nI (k)), .ref 6]) (w' := mz_w A Q (uP, uM, nI (hh), bgs, ens, oth) T) rfl ?_
    refine ez_ald ez_h91 rfl rfl (k) rfl (by omega) (by omega) ?_
    refine ez_top (y := nI (B k)) ((hbz k (by omega)).1) ?_
    refine ez_go ez_h91 6 (pc' := 14) (L' := [some (.ref 0), some (.int (nI (k))), some (.int (nI (B k))), none, none, none, none, none, none]) (st' := [.int ((nI (k)) + (nI (1))), .ref 6]) (w' := mz_w A Q (uP, uM, nI (hh), bgs, ens, oth) T) rfl ?_
    refine ez_top (y := nI (k + 1)) (nI_add _ _) ?_
    refine ez_ald ez_h91 rfl rfl (k + 1) rfl (by omega) (by omega) ?_
    refine ez_top (y := nI (B (k + 1))) ((hbz (k + 1) (by omega)).1) ?_
    refine ez_go ez_h91 6 (pc' := 23) (L' := [some (.ref 0), some (.int (nI (k))), some (.int (nI (B k))), some (.int (nI (B (k + 1)))), none, none, none, none, none]) (st' := [.int ((nI (k)) + (nI (1))), .ref 7]) (w' := mz_w A Q (uP, uM, nI (hh), bgs, ens, oth) T) rfl ?_
    refine ez_top (y := nI (k + 1)) (nI_add _ _) ?_
    refine ez_ald ez_h91 rfl rfl (k + 1) rfl (by omega) (by omega) ?_
    refine ez_top (y := nI (B (k + 1) + Z (k + 1))) ((hbz (k + 1) (by omega)).2) ?_
    refine ez_go ez_h91 1 (pc' := 26) (L' := [some (.ref 0), some (.int (nI (k))), some (.int (nI (B k))), some (.int (nI (B (k + 1)))), some (.int (nI (B (k + 1) + Z (k + 1)))), none, none, none, none]) (st' := []) (w' := mz_w A Q (uP, uM, nI (hh), bgs, ens, oth) T) rfl ?_
    refine a5 oth _ Q uP uM (nI hh) bgs ens T k post hA (fun A9 mo9 hA9 => ?_)
    refine ez_go ez_h91 4 (pc' := 169) (L' := [some (.ref 0), some (.int (nI (k))), none, none, some (.int (nI (B (k + 1) + Z (k + 1)))), none, none, none, none]) (st' := [.int (nI (B (k + 1) + Z (k + 1))), .int (nI (k)), .ref 7]) (w' := mz_w A9 Q (uP, uM, nI (hh), bgs, ens, mo9) T) rfl ?_
    refine ez_ast ez_h91 rfl rfl (k) rfl (by omega) (by omega) ?_
    refine ez_go ez_h91 3 (pc' := 173) (L' := [some (.ref 0), some (.int (nI (k))), none, none, some (.int (nI (B (k + 1) + Z (k + 1)))), none, none, none, none]) (st' := [.int ((nI (k)) + (nI (1)))]) (w' := mz_w A9 Q (uP, uM, nI (hh), bgs, (upd ens k (nI (B (k + 1) + Z (k + 1)))), mo9) T) rfl ?_
    refine ez_top (y := nI (k + 1)) (nI_add _ _) ?_
    refine ez_go ez_h91 1 (pc' := 175) (L' := [some (.ref 0), some (.int (nI (k))), none, none, some (.int (nI (B (k + 1) + Z (k + 1)))), none, none, some (.int (nI (k + 1))), none]) (st' := []) (w' := mz_w A9 Q (uP, uM, nI (hh), bgs, (upd ens k (nI (B (k + 1) + Z (k + 1)))), mo9) T) rfl ?_
    refine ez_E.le (ez_lc (ez_lc (ez_lc (ez_lc (ez_ln (ez_lc (ez_lc (ez_lc (ez_lc ez_l0))))))))) (zp_mdn (B := B) (Z := Z) hk h38 hh (k + 1) _ _ (by omega) (by omega) (by omega) (fun j hj => ?_) (fun j j1 j2 => ?_) _ Q uP uM _ T post (fun bgs' ens' hz => ?_))
    · unfold zp_mB zp_mZ
      by_cases ej : j = k
      · subst ej
        rw [pk_us, if_pos (Nat.le_refl _), if_neg (by omega), if_pos rfl]
        exact ⟨(hbz j (by omega)).1, by congr 1; omega⟩
      · rw [pk_un ej, if_pos (by omega), if_pos (by omega)]; exact hbz j (by omega)
    · rw [pk_un (by omega)]; exact hbz j (by omega)
    refine ez_go ez_h91 5 (pc' := 231) (L' := [some (.ref 0), some (.int (nI (k))), none, none, none, none, none, none, none]) (st' := [.int ((nI (hh)) - (nI (1))), .ref 0]) (w' := mz_w A9 Q (uP, uM, nI (hh), bgs', ens', mo9) T) rfl ?_
    refine ez_top (y := nI (hh - 1)) (pk_sub (by omega)) ?_
    refine ez_go ez_h91 7 (pc' := 244) (L' := [some (.ref 0), some (.int (nI (k))), none, none, none, none, none, none, none]) (st' := []) (w' := mz_w A9 Q (uP, uM + 1, nI (hh - 1), bgs', ens', mo9) T) rfl ?_
    exact ez_vret rfl ez_h91 rfl rfl (kk _ _ hA9 ⟨rfl, rfl, rfl, fun j hj => hz j (by have : j < hh - 1 := hj; omega)⟩)
/-- is the pile too flat? which two then? -/
def zp_fl (p : zp_T) : Bool := (decide (3 ≤ p.1) && decide (p.2.2.1 (p.1 - 1 - 2) ≤ p.2.2.1 (p.1 - 1 - 1) + p.2.2.1 (p.1 - 1))) || (decide (4 ≤ p.1) && decide (p.2.2.1 (p.1 - 1 - 3) ≤ p.2.2.1 (p.1 - 1 - 2) + p.2.2.1 (p.1 - 1 - 1)))
def zp_sd (p : zp_T) : Nat := if 3 ≤ p.1 ∧ p.2.2.1 (p.1 - 1 - 2) < p.2.2.1 (p.1 - 1) then p.1 - 1 - 2 else p.1 - 1 - 1
theorem zp_ok.z {n : Nat} {p : zp_T} {b : Nat} (h : zp_ok n p b) {k : Nat} (hk : k < p.1) : p.2.2.1 k ≤ n := by
  have h1 := (h.2.1 k hk).1
  have h2 := h.le (k := k + 1) hk
  have h3 := h.2.2.2.2
  omega
theorem zp_flat {E : ze_T} (hE : ze_ok E) {p : zp_T} {bd : Nat} (hp : zp_ok (ze_n E) p bd) (h2 : 2 ≤ p.1) (row : Nat → Nat) (g : zs_G) : cw_M E 53 [.ref 5, .int (nI (p.1 - 1))] row g p (some (.int (zs_z (zp_fl p)))) row g p := by
  obtain ⟨hh, B, Z, P, M⟩ := p
  have hn := hE.1
  have h38 := hp.h hn
  replace h38 : hh ≤ 38 := h38
  replace h2 : 2 ≤ hh := h2
  have hz : ∀ j, j < hh → Z j ≤ ze_n E := fun j hj => hp.z (k := j) hj
  · refine cw_H.m (L := [some (.ref 5), some (.int (nI (hh - 1)))]) (fun r q u bb post hr hu kk => ?_) rfl rfl rfl
    obtain ⟨uh, uP, uM, bgs, szs, spr⟩ := u
    obtain ⟨e1, e2, e3, hbz⟩ := hu
    replace e1 : uh = nI hh := e1
    replace e2 : uP = P := e2
    replace e3 : uM = M := e3
    subst e1 e2 e3
    have hu0 : cu_R (hh, B, Z, uP, uM) (nI hh, uP, uM, bgs, szs, spr) := ⟨rfl, rfl, rfl, hbz⟩
    replace hbz : ∀ j, j < hh → bgs j = nI (B j) ∧ szs j = nI (Z j) := hbz
    have fl : zp_fl (hh, B, Z, uP, uM) = ((decide (3 ≤ hh) && decide (Z (hh - 1 - 2) ≤ Z (hh - 1 - 1) + Z (hh - 1))) || (decide (4 ≤ hh) && decide (Z (hh - 1 - 3) ≤ Z (hh - 1 - 2) + Z (hh - 1 - 1)))) := rfl
    by_cases c3 : 3 ≤ hh
    · have z1 := hz (hh - 1 - 2) (by omega)
      have z2 := hz (hh - 1 - 1) (by omega)
      have z3 := hz (hh - 1) (by omega)
      by_cases d1 : Z (hh - 1 - 2) ≤ Z (hh - 1 - 1) + Z (hh - 1)
      · skip
        have fv : zp_fl (hh, B, Z, uP, uM) = true := by rw [fl]; simp; omega
        rw [fv] at kk
        refine ez_go ez_h53 3 (pc' := bif decide ((nI (hh - 1)) < (nI (2))) then 28 else 5) (L' := [some (.ref 5), some (.int (nI (hh - 1)))]) (st' := []) (w' := cz_w r q (nI (hh), uP, uM, bgs, szs, spr) bb) rfl ?_
        refine ez_ifF (zt_nlt (a := hh - 1) (b := 2) (by omega) (by omega)) ?_
        refine ez_go ez_h53 4 (pc' := 9) (L' := [some (.ref 5), some (.int (nI (hh - 1)))]) (st' := [.int ((nI (hh - 1)) - (nI (2))), .ref 5]) (w' := cz_w r q (nI (hh), uP, uM, bgs, szs, spr) bb) rfl ?_
        refine ez_top (y := nI ((hh - 1) - 2)) (pk_sub (by omega)) ?_
        refine ez_cl ez_h53 rfl rfl ?_
        refine lf_sizeAt ((hh - 1) - 2) (by omega) (nI (hh)) uP uM bgs szs spr r q bb ?_
        refine ez_top (y := nI (Z ((hh - 1) - 2))) ((hbz ((hh - 1) - 2) (by omega)).2) ?_
        refine ez_go ez_h53 4 (pc' := 16) (L' := [some (.ref 5), some (.int (nI (hh - 1)))]) (st' := [.int ((nI (hh - 1)) - (nI (1))), .ref 5, .int (nI (Z ((hh - 1) - 2)))]) (w' := cz_w r q (nI (hh), uP, uM, bgs, szs, spr) bb) rfl ?_
        refine ez_top (y := nI ((hh - 1) - 1)) (pk_sub (by omega)) ?_
        refine ez_cl ez_h53 rfl rfl ?_
        refine lf_sizeAt ((hh - 1) - 1) (by omega) (nI (hh)) uP uM bgs szs spr r q bb ?_
        refine ez_top (y := nI (Z ((hh - 1) - 1))) ((hbz ((hh - 1) - 1) (by omega)).2) ?_
        refine ez_go ez_h53 2 (pc' := 21) (L' := [some (.ref 5), some (.int (nI (hh - 1)))]) (st' := [.int (nI (hh - 1)), .ref 5, .int (nI (Z ((hh - 1) - 1))), .int (nI (Z ((hh - 1) - 2)))]) (w' := cz_w r q (nI (hh), uP, uM, bgs, szs, spr) bb) rfl ?_
        refine ez_cl ez_h53 rfl rfl ?_
        refine lf_sizeAt (hh - 1) (by omega) (nI (hh)) uP uM bgs szs spr r q bb ?_
        refine ez_top (y := nI (Z (hh - 1))) ((hbz (hh - 1) (by omega)).2) ?_
        refine ez_go ez_h53 1 (pc' := 25) (L' := [some (.ref 5), some (.int (nI (hh - 1)))]) (st' := [.int ((nI (Z ((hh - 1) - 1))) + (nI (Z (hh - 1)))), .int (nI (Z ((hh - 1) - 2)))]) (w' := cz_w r q (nI (hh), uP, uM, bgs, szs, spr) bb) rfl ?_
        refine ez_top (y := nI ((Z ((hh - 1) - 1)) + (Z (hh - 1)))) (nI_add _ _) ?_
        refine ez_go ez_h53 1 (pc' := bif decide ((nI (Z ((hh - 1) - 2))) ≤ (nI ((Z ((hh - 1) - 1)) + (Z (hh - 1))))) then 58 else 28) (L' := [some (.ref 5), some (.int (nI (hh - 1)))]) (st' := []) (w' := cz_w r q (nI (hh), uP, uM, bgs, szs, spr) bb) rfl ?_
        refine ez_ifT (zt_le (a := Z ((hh - 1) - 2)) (b := (Z ((hh - 1) - 1)) + (Z (hh - 1))) (by omega) (by omega)) ?_
        refine ez_go ez_h53 2 (pc' := 63) (L' := [some (.ref 5), some (.int (nI (hh - 1)))]) (st' := [.int (nI (1))]) (w' := cz_w r q (nI (hh), uP, uM, bgs, szs, spr) bb) rfl ?_
        exact ez_zret rfl ez_h53 rfl rfl (zz_01 true) (kk _ _ hr hu0)
      · by_cases c4 : 4 ≤ hh
        · have z4 := hz (hh - 1 - 3) (by omega)
          by_cases d2 : Z (hh - 1 - 3) ≤ Z (hh - 1 - 2) + Z (hh - 1 - 1)
          · skip
            have fv : zp_fl (hh, B, Z, uP, uM) = true := by rw [fl]; simp; omega
            rw [fv] at kk
            refine ez_go ez_h53 3 (pc' := bif decide ((nI (hh - 1)) < (nI (2))) then 28 else 5) (L' := [some (.ref 5), some (.int (nI (hh - 1)))]) (st' := []) (w' := cz_w r q (nI (hh), uP, uM, bgs, szs, spr) bb) rfl ?_
            refine ez_ifF (zt_nlt (a := hh - 1) (b := 2) (by omega) (by omega)) ?_
            refine ez_go ez_h53 4 (pc' := 9) (L' := [some (.ref 5), some (.int (nI (hh - 1)))]) (st' := [.int ((nI (hh - 1)) - (nI (2))), .ref 5]) (w' := cz_w r q (nI (hh), uP, uM, bgs, szs, spr) bb) rfl ?_
            refine ez_top (y := nI ((hh - 1) - 2)) (pk_sub (by omega)) ?_
            refine ez_cl ez_h53 rfl rfl ?_
            refine lf_sizeAt ((hh - 1) - 2) (by omega) (nI (hh)) uP uM bgs szs spr r q bb ?_
            refine ez_top (y := nI (Z ((hh - 1) - 2))) ((hbz ((hh - 1) - 2) (by omega)).2) ?_
            refine ez_go ez_h53 4 (pc' := 16) (L' := [some (.ref 5), some (.int (nI (hh - 1)))]) (st' := [.int ((nI (hh - 1)) - (nI (1))), .ref 5, .int (nI (Z ((hh - 1) - 2)))]) (w' := cz_w r q (nI (hh), uP, uM, bgs, szs, spr) bb) rfl ?_
            refine ez_top (y := nI ((hh - 1) - 1)) (pk_sub (by omega)) ?_
            refine ez_cl ez_h53 rfl rfl ?_
            refine lf_sizeAt ((hh - 1) - 1) (by omega) (nI (hh)) uP uM bgs szs spr r q bb ?_
            refine ez_top (y := nI (Z ((hh - 1) - 1))) ((hbz ((hh - 1) - 1) (by omega)).2) ?_
            refine ez_go ez_h53 2 (pc' := 21) (L' := [some (.ref 5), some (.int (nI (hh - 1)))]) (st' := [.int (nI (hh - 1)), .ref 5, .int (nI (Z ((hh - 1) - 1))), .int (nI (Z ((hh - 1) - 2)))]) (w' := cz_w r q (nI (hh), uP, uM, bgs, szs, spr) bb) rfl ?_
            refine ez_cl ez_h53 rfl rfl ?_
            refine lf_sizeAt (hh - 1) (by omega) (nI (hh)) uP uM bgs szs spr r q bb ?_
            refine ez_top (y := nI (Z (hh - 1))) ((hbz (hh - 1) (by omega)).2) ?_
            refine ez_go ez_h53 1 (pc' := 25) (L' := [some (.ref 5), some (.int (nI (hh - 1)))]) (st' := [.int ((nI (Z ((hh - 1) - 1))) + (nI (Z (hh - 1)))), .int (nI (Z ((hh - 1) - 2)))]) (w' := cz_w r q (nI (hh), uP, uM, bgs, szs, spr) bb) rfl ?_
            refine ez_top (y := nI ((Z ((hh - 1) - 1)) + (Z (hh - 1)))) (nI_add _ _) ?_
            refine ez_go ez_h53 1 (pc' := bif decide ((nI (Z ((hh - 1) - 2))) ≤ (nI ((Z ((hh - 1) - 1)) + (Z (hh - 1))))) then 58 else 28) (L' := [some (.ref 5), some (.int (nI (hh - 1)))]) (st' := []) (w' := cz_w r q (nI (hh), uP, uM, bgs, szs, spr) bb) rfl ?_
            refine ez_ifF (zt_nle (a := Z ((hh - 1) - 2)) (b := (Z ((hh - 1) - 1)) + (Z (hh - 1))) (by omega) (by omega)) ?_
            refine ez_go ez_h53 3 (pc' := bif decide ((nI (hh - 1)) < (nI (3))) then 62 else 33) (L' := [some (.ref 5), some (.int (nI (hh - 1)))]) (st' := []) (w' := cz_w r q (nI (hh), uP, uM, bgs, szs, spr) bb) rfl ?_
            refine ez_ifF (zt_nlt (a := hh - 1) (b := 3) (by omega) (by omega)) ?_
            refine ez_go ez_h53 4 (pc' := 37) (L' := [some (.ref 5), some (.int (nI (hh - 1)))]) (st' := [.int ((nI (hh - 1)) - (nI (3))), .ref 5]) (w' := cz_w r q (nI (hh), uP, uM, bgs, szs, spr) bb) rfl ?_
            refine ez_top (y := nI ((hh - 1) - 3)) (pk_sub (by omega)) ?_
            refine ez_cl ez_h53 rfl rfl ?_
            refine lf_sizeAt ((hh - 1) - 3) (by omega) (nI (hh)) uP uM bgs szs spr r q bb ?_
            refine ez_top (y := nI (Z ((hh - 1) - 3))) ((hbz ((hh - 1) - 3) (by omega)).2) ?_
            refine ez_go ez_h53 4 (pc' := 44) (L' := [some (.ref 5), some (.int (nI (hh - 1)))]) (st' := [.int ((nI (hh - 1)) - (nI (2))), .ref 5, .int (nI (Z ((hh - 1) - 3)))]) (w' := cz_w r q (nI (hh), uP, uM, bgs, szs, spr) bb) rfl ?_
            refine ez_top (y := nI ((hh - 1) - 2)) (pk_sub (by omega)) ?_
            refine ez_cl ez_h53 rfl rfl ?_
            refine lf_sizeAt ((hh - 1) - 2) (by omega) (nI (hh)) uP uM bgs szs spr r q bb ?_
            refine ez_top (y := nI (Z ((hh - 1) - 2))) ((hbz ((hh - 1) - 2) (by omega)).2) ?_
            refine ez_go ez_h53 4 (pc' := 51) (L' := [some (.ref 5), some (.int (nI (hh - 1)))]) (st' := [.int ((nI (hh - 1)) - (nI (1))), .ref 5, .int (nI (Z ((hh - 1) - 2))), .int (nI (Z ((hh - 1) - 3)))]) (w' := cz_w r q (nI (hh), uP, uM, bgs, szs, spr) bb) rfl ?_
            refine ez_top (y := nI ((hh - 1) - 1)) (pk_sub (by omega)) ?_
            refine ez_cl ez_h53 rfl rfl ?_
            refine lf_sizeAt ((hh - 1) - 1) (by omega) (nI (hh)) uP uM bgs szs spr r q bb ?_
            refine ez_top (y := nI (Z ((hh - 1) - 1))) ((hbz ((hh - 1) - 1) (by omega)).2) ?_
            refine ez_go ez_h53 1 (pc' := 55) (L' := [some (.ref 5), some (.int (nI (hh - 1)))]) (st' := [.int ((nI (Z ((hh - 1) - 2))) + (nI (Z ((hh - 1) - 1)))), .int (nI (Z ((hh - 1) - 3)))]) (w' := cz_w r q (nI (hh), uP, uM, bgs, szs, spr) bb) rfl ?_
            refine ez_top (y := nI ((Z ((hh - 1) - 2)) + (Z ((hh - 1) - 1)))) (nI_add _ _) ?_
            refine ez_go ez_h53 1 (pc' := bif decide ((nI ((Z ((hh - 1) - 2)) + (Z ((hh - 1) - 1)))) < (nI (Z ((hh - 1) - 3)))) then 62 else 58) (L' := [some (.ref 5), some (.int (nI (hh - 1)))]) (st' := []) (w' := cz_w r q (nI (hh), uP, uM, bgs, szs, spr) bb) rfl ?_
            refine ez_ifF (zt_nlt (a := (Z ((hh - 1) - 2)) + (Z ((hh - 1) - 1))) (b := Z ((hh - 1) - 3)) (by omega) (by omega)) ?_
            refine ez_go ez_h53 2 (pc' := 63) (L' := [some (.ref 5), some (.int (nI (hh - 1)))]) (st' := [.int (nI (1))]) (w' := cz_w r q (nI (hh), uP, uM, bgs, szs, spr) bb) rfl ?_
            exact ez_zret rfl ez_h53 rfl rfl (zz_01 true) (kk _ _ hr hu0)
          · skip
            have fv : zp_fl (hh, B, Z, uP, uM) = false := by rw [fl]; simp; omega
            rw [fv] at kk
            refine ez_go ez_h53 3 (pc' := bif decide ((nI (hh - 1)) < (nI (2))) then 28 else 5) (L' := [some (.ref 5), some (.int (nI (hh - 1)))]) (st' := []) (w' := cz_w r q (nI (hh), uP, uM, bgs, szs, spr) bb) rfl ?_
            refine ez_ifF (zt_nlt (a := hh - 1) (b := 2) (by omega) (by omega)) ?_
            refine ez_go ez_h53 4 (pc' := 9) (L' := [some (.ref 5), some (.int (nI (hh - 1)))]) (st' := [.int ((nI (hh - 1)) - (nI (2))), .ref 5]) (w' := cz_w r q (nI (hh), uP, uM, bgs, szs, spr) bb) rfl ?_
            refine ez_top (y := nI ((hh - 1) - 2)) (pk_sub (by omega)) ?_
            refine ez_cl ez_h53 rfl rfl ?_
            refine lf_sizeAt ((hh - 1) - 2) (by omega) (nI (hh)) uP uM bgs szs spr r q bb ?_
            refine ez_top (y := nI (Z ((hh - 1) - 2))) ((hbz ((hh - 1) - 2) (by omega)).2) ?_
            refine ez_go ez_h53 4 (pc' := 16) (L' := [some (.ref 5), some (.int (nI (hh - 1)))]) (st' := [.int ((nI (hh - 1)) - (nI (1))), .ref 5, .int (nI (Z ((hh - 1) - 2)))]) (w' := cz_w r q (nI (hh), uP, uM, bgs, szs, spr) bb) rfl ?_
            refine ez_top (y := nI ((hh - 1) - 1)) (pk_sub (by omega)) ?_
            refine ez_cl ez_h53 rfl rfl ?_
            refine lf_sizeAt ((hh - 1) - 1) (by omega) (nI (hh)) uP uM bgs szs spr r q bb ?_
            refine ez_top (y := nI (Z ((hh - 1) - 1))) ((hbz ((hh - 1) - 1) (by omega)).2) ?_
            refine ez_go ez_h53 2 (pc' := 21) (L' := [some (.ref 5), some (.int (nI (hh - 1)))]) (st' := [.int (nI (hh - 1)), .ref 5, .int (nI (Z ((hh - 1) - 1))), .int (nI (Z ((hh - 1) - 2)))]) (w' := cz_w r q (nI (hh), uP, uM, bgs, szs, spr) bb) rfl ?_
            refine ez_cl ez_h53 rfl rfl ?_
            refine lf_sizeAt (hh - 1) (by omega) (nI (hh)) uP uM bgs szs spr r q bb ?_
            refine ez_top (y := nI (Z (hh - 1))) ((hbz (hh - 1) (by omega)).2) ?_
            refine ez_go ez_h53 1 (pc' := 25) (L' := [some (.ref 5), some (.int (nI (hh - 1)))]) (st' := [.int ((nI (Z ((hh - 1) - 1))) + (nI (Z (hh - 1)))), .int (nI (Z ((hh - 1) - 2)))]) (w' := cz_w r q (nI (hh), uP, uM, bgs, szs, spr) bb) rfl ?_
            refine ez_top (y := nI ((Z ((hh - 1) - 1)) + (Z (hh - 1)))) (nI_add _ _) ?_
            refine ez_go ez_h53 1 (pc' := bif decide ((nI (Z ((hh - 1) - 2))) ≤ (nI ((Z ((hh - 1) - 1)) + (Z (hh - 1))))) then 58 else 28) (L' := [some (.ref 5), some (.int (nI (hh - 1)))]) (st' := []) (w' := cz_w r q (nI (hh), uP, uM, bgs, szs, spr) bb) rfl ?_
            refine ez_ifF (zt_nle (a := Z ((hh - 1) - 2)) (b := (Z ((hh - 1) - 1)) + (Z (hh - 1))) (by omega) (by omega)) ?_
            refine ez_go ez_h53 3 (pc' := bif decide ((nI (hh - 1)) < (nI (3))) then 62 else 33) (L' := [some (.ref 5), some (.int (nI (hh - 1)))]) (st' := []) (w' := cz_w r q (nI (hh), uP, uM, bgs, szs, spr) bb) rfl ?_
            refine ez_ifF (zt_nlt (a := hh - 1) (b := 3) (by omega) (by omega)) ?_
            refine ez_go ez_h53 4 (pc' := 37) (L' := [some (.ref 5), some (.int (nI (hh - 1)))]) (st' := [.int ((nI (hh - 1)) - (nI (3))), .ref 5]) (w' := cz_w r q (nI (hh), uP, uM, bgs, szs, spr) bb) rfl ?_
            refine ez_top (y := nI ((hh - 1) - 3)) (pk_sub (by omega)) ?_
            refine ez_cl ez_h53 rfl rfl ?_
            refine lf_sizeAt ((hh - 1) - 3) (by omega) (nI (hh)) uP uM bgs szs spr r q bb ?_
            refine ez_top (y := nI (Z ((hh - 1) - 3))) ((hbz ((hh - 1) - 3) (by omega)).2) ?_
            refine ez_go ez_h53 4 (pc' := 44) (L' := [some (.ref 5), some (.int (nI (hh - 1)))]) (st' := [.int ((nI (hh - 1)) - (nI (2))), .ref 5, .int (nI (Z ((hh - 1) - 3)))]) (w' := cz_w r q (nI (hh), uP, uM, bgs, szs, spr) bb) rfl ?_
            refine ez_top (y := nI ((hh - 1) - 2)) (pk_sub (by omega)) ?_
            refine ez_cl ez_h53 rfl rfl ?_
            refine lf_sizeAt ((hh - 1) - 2) (by omega) (nI (hh)) uP uM bgs szs spr r q bb ?_
            refine ez_top (y := nI (Z ((hh - 1) - 2))) ((hbz ((hh - 1) - 2) (by omega)).2) ?_
            refine ez_go ez_h53 4 (pc' := 51) (L' := [some (.ref 5), some (.int (nI (hh - 1)))]) (st' := [.int ((nI (hh - 1)) - (nI (1))), .ref 5, .int (nI (Z ((hh - 1) - 2))), .int (nI (Z ((hh - 1) - 3)))]) (w' := cz_w r q (nI (hh), uP, uM, bgs, szs, spr) bb) rfl ?_
            refine ez_top (y := nI ((hh - 1) - 1)) (pk_sub (by omega)) ?_
            refine ez_cl ez_h53 rfl rfl ?_
            refine lf_sizeAt ((hh - 1) - 1) (by omega) (nI (hh)) uP uM bgs szs spr r q bb ?_
            refine ez_top (y := nI (Z ((hh - 1) - 1))) ((hbz ((hh - 1) - 1) (by omega)).2) ?_
            refine ez_go ez_h53 1 (pc' := 55) (L' := [some (.ref 5), some (.int (nI (hh - 1)))]) (st' := [.int ((nI (Z ((hh - 1) - 2))) + (nI (Z ((hh - 1) - 1)))), .int (nI (Z ((hh - 1) - 3)))]) (w' := cz_w r q (nI (hh), uP, uM, bgs, szs, spr) bb) rfl ?_
            refine ez_top (y := nI ((Z ((hh - 1) - 2)) + (Z ((hh - 1) - 1)))) (nI_add _ _) ?_
            refine ez_go ez_h53 1 (pc' := bif decide ((nI ((Z ((hh - 1) - 2)) + (Z ((hh - 1) - 1)))) < (nI (Z ((hh - 1) - 3)))) then 62 else 58) (L' := [some (.ref 5), some (.int (nI (hh - 1)))]) (st' := []) (w' := cz_w r q (nI (hh), uP, uM, bgs, szs, spr) bb) rfl ?_
            refine ez_ifT (zt_lt (a := (Z ((hh - 1) - 2)) + (Z ((hh - 1) - 1))) (b := Z ((hh - 1) - 3)) (by omega) (by omega)) ?_
            refine ez_go ez_h53 1 (pc' := 63) (L' := [some (.ref 5), some (.int (nI (hh - 1)))]) (st' := [.int (nI (0))]) (w' := cz_w r q (nI (hh), uP, uM, bgs, szs, spr) bb) rfl ?_
            exact ez_zret rfl ez_h53 rfl rfl (zz_01 false) (kk _ _ hr hu0)
        · skip
          have fv : zp_fl (hh, B, Z, uP, uM) = false := by rw [fl]; simp; omega
          rw [fv] at kk
          refine ez_go ez_h53 3 (pc' := bif decide ((nI (hh - 1)) < (nI (2))) then 28 else 5) (L' := [some (.ref 5), some (.int (nI (hh - 1)))]) (st' := []) (w' := cz_w r q (nI (hh), uP, uM, bgs, szs, spr) bb) rfl ?_
          refine ez_ifF (zt_nlt (a := hh - 1) (b := 2) (by omega) (by omega)) ?_
          refine ez_go ez_h53 4 (pc' := 9) (L' := [some (.ref 5), some (.int (nI (hh - 1)))]) (st' := [.int ((nI (hh - 1)) - (nI (2))), .ref 5]) (w' := cz_w r q (nI (hh), uP, uM, bgs, szs, spr) bb) rfl ?_
          refine ez_top (y := nI ((hh - 1) - 2)) (pk_sub (by omega)) ?_
          refine ez_cl ez_h53 rfl rfl ?_
          refine lf_sizeAt ((hh - 1) - 2) (by omega) (nI (hh)) uP uM bgs szs spr r q bb ?_
          refine ez_top (y := nI (Z ((hh - 1) - 2))) ((hbz ((hh - 1) - 2) (by omega)).2) ?_
          refine ez_go ez_h53 4 (pc' := 16) (L' := [some (.ref 5), some (.int (nI (hh - 1)))]) (st' := [.int ((nI (hh - 1)) - (nI (1))), .ref 5, .int (nI (Z ((hh - 1) - 2)))]) (w' := cz_w r q (nI (hh), uP, uM, bgs, szs, spr) bb) rfl ?_
          refine ez_top (y := nI ((hh - 1) - 1)) (pk_sub (by omega)) ?_
          refine ez_cl ez_h53 rfl rfl ?_
          refine lf_sizeAt ((hh - 1) - 1) (by omega) (nI (hh)) uP uM bgs szs spr r q bb ?_
          refine ez_top (y := nI (Z ((hh - 1) - 1))) ((hbz ((hh - 1) - 1) (by omega)).2) ?_
          refine ez_go ez_h53 2 (pc' := 21) (L' := [some (.ref 5), some (.int (nI (hh - 1)))]) (st' := [.int (nI (hh - 1)), .ref 5, .int (nI (Z ((hh - 1) - 1))), .int (nI (Z ((hh - 1) - 2)))]) (w' := cz_w r q (nI (hh), uP, uM, bgs, szs, spr) bb) rfl ?_
          refine ez_cl ez_h53 rfl rfl ?_
          refine lf_sizeAt (hh - 1) (by omega) (nI (hh)) uP uM bgs szs spr r q bb ?_
          refine ez_top (y := nI (Z (hh - 1))) ((hbz (hh - 1) (by omega)).2) ?_
          refine ez_go ez_h53 1 (pc' := 25) (L' := [some (.ref 5), some (.int (nI (hh - 1)))]) (st' := [.int ((nI (Z ((hh - 1) - 1))) + (nI (Z (hh - 1)))), .int (nI (Z ((hh - 1) - 2)))]) (w' := cz_w r q (nI (hh), uP, uM, bgs, szs, spr) bb) rfl ?_
          refine ez_top (y := nI ((Z ((hh - 1) - 1)) + (Z (hh - 1)))) (nI_add _ _) ?_
          refine ez_go ez_h53 1 (pc' := bif decide ((nI (Z ((hh - 1) - 2))) ≤ (nI ((Z ((hh - 1) - 1)) + (Z (hh - 1))))) then 58 else 28) (L' := [some (.ref 5), some (.int (nI (hh - 1)))]) (st' := []) (w' := cz_w r q (nI (hh), uP, uM, bgs, szs, spr) bb) rfl ?_
          refine ez_ifF (zt_nle (a := Z ((hh - 1) - 2)) (b := (Z ((hh - 1) - 1)) + (Z (hh - 1))) (by omega) (by omega)) ?_
          refine ez_go ez_h53 3 (pc' := bif decide ((nI (hh - 1)) < (nI (3))) then 62 else 33) (L' := [some (.ref 5), some (.int (nI (hh - 1)))]) (st' := []) (w' := cz_w r q (nI (hh), uP, uM, bgs, szs, spr) bb) rfl ?_
          refine ez_ifT (zt_lt (a := hh - 1) (b := 3) (by omega) (by omega)) ?_
          refine ez_go ez_h53 1 (pc' := 63) (L' := [some (.ref 5), some (.int (nI (hh - 1)))]) (st' := [.int (nI (0))]) (w' := cz_w r q (nI (hh), uP, uM, bgs, szs, spr) bb) rfl ?_
          exact ez_zret rfl ez_h53 rfl rfl (zz_01 false) (kk _ _ hr hu0)
    · skip
      have fv : zp_fl (hh, B, Z, uP, uM) = false := by rw [fl]; simp; omega
      rw [fv] at kk
      refine ez_go ez_h53 3 (pc' := bif decide ((nI (hh - 1)) < (nI (2))) then 28 else 5) (L' := [some (.ref 5), some (.int (nI (hh - 1)))]) (st' := []) (w' := cz_w r q (nI (hh), uP, uM, bgs, szs, spr) bb) rfl ?_
      refine ez_ifT (zt_lt (a := hh - 1) (b := 2) (by omega) (by omega)) ?_
      refine ez_go ez_h53 3 (pc' := bif decide ((nI (hh - 1)) < (nI (3))) then 62 else 33) (L' := [some (.ref 5), some (.int (nI (hh - 1)))]) (st' := []) (w' := cz_w r q (nI (hh), uP, uM, bgs, szs, spr) bb) rfl ?_
      refine ez_ifT (zt_lt (a := hh - 1) (b := 3) (by omega) (by omega)) ?_
      refine ez_go ez_h53 1 (pc' := 63) (L' := [some (.ref 5), some (.int (nI (hh - 1)))]) (st' := [.int (nI (0))]) (w' := cz_w r q (nI (hh), uP, uM, bgs, szs, spr) bb) rfl ?_
      exact ez_zret rfl ez_h53 rfl rfl (zz_01 false) (kk _ _ hr hu0)
theorem zp_side {E : ze_T} (hE : ze_ok E) {p : zp_T} {bd : Nat} (hp : zp_ok (ze_n E) p bd) (h2 : 2 ≤ p.1) (row : Nat → Nat) (g : zs_G) : cw_M E 54 [.ref 5, .int (nI (p.1 - 1))] row g p (some (.int (nI (zp_sd p)))) row g p := by
  obtain ⟨hh, B, Z, P, M⟩ := p
  have hn := hE.1
  have h38 := hp.h hn
  replace h38 : hh ≤ 38 := h38
  replace h2 : 2 ≤ hh := h2
  have hz : ∀ j, j < hh → Z j ≤ ze_n E := fun j hj => hp.z (k := j) hj
  · refine cw_H.m (L := [some (.ref 5), some (.int (nI (hh - 1)))]) (fun r q u bb post hr hu kk => ?_) rfl rfl rfl
    obtain ⟨uh, uP, uM, bgs, szs, spr⟩ := u
    obtain ⟨e1, e2, e3, hbz⟩ := hu
    replace e1 : uh = nI hh := e1
    replace e2 : uP = P := e2
    replace e3 : uM = M := e3
    subst e1 e2 e3
    have hu0 : cu_R (hh, B, Z, uP, uM) (nI hh, uP, uM, bgs, szs, spr) := ⟨rfl, rfl, rfl, hbz⟩
    replace hbz : ∀ j, j < hh → bgs j = nI (B j) ∧ szs j = nI (Z j) := hbz
    have fl : zp_sd (hh, B, Z, uP, uM) = if 3 ≤ hh ∧ Z (hh - 1 - 2) < Z (hh - 1) then hh - 1 - 2 else hh - 1 - 1 := rfl
    by_cases c3 : 3 ≤ hh
    · have z1 := hz (hh - 1 - 2) (by omega)
      have z3 := hz (hh - 1) (by omega)
      by_cases d1 : Z (hh - 1 - 2) < Z (hh - 1)
      · skip
        rw [fl, if_pos (by omega)] at kk
        refine ez_go ez_h54 3 (pc' := bif decide ((nI (hh - 1)) < (nI (2))) then 26 else 5) (L' := [some (.ref 5), some (.int (nI (hh - 1)))]) (st' := []) (w' := cz_w r q (nI (hh), uP, uM, bgs, szs, spr) bb) rfl ?_
        refine ez_ifF (zt_nlt (a := hh - 1) (b := 2) (by omega) (by omega)) ?_
        refine ez_go ez_h54 4 (pc' := 9) (L' := [some (.ref 5), some (.int (nI (hh - 1)))]) (st' := [.int ((nI (hh - 1)) - (nI (2))), .ref 5]) (w' := cz_w r q (nI (hh), uP, uM, bgs, szs, spr) bb) rfl ?_
        refine ez_top (y := nI ((hh - 1) - 2)) (pk_sub (by omega)) ?_
        refine ez_cl ez_h54 rfl rfl ?_
        refine lf_sizeAt ((hh - 1) - 2) (by omega) (nI (hh)) uP uM bgs szs spr r q bb ?_
        refine ez_top (y := nI (Z ((hh - 1) - 2))) ((hbz ((hh - 1) - 2) (by omega)).2) ?_
        refine ez_go ez_h54 2 (pc' := 14) (L' := [some (.ref 5), some (.int (nI (hh - 1)))]) (st' := [.int (nI (hh - 1)), .ref 5, .int (nI (Z ((hh - 1) - 2)))]) (w' := cz_w r q (nI (hh), uP, uM, bgs, szs, spr) bb) rfl ?_
        refine ez_cl ez_h54 rfl rfl ?_
        refine lf_sizeAt (hh - 1) (by omega) (nI (hh)) uP uM bgs szs spr r q bb ?_
        refine ez_top (y := nI (Z (hh - 1))) ((hbz (hh - 1) (by omega)).2) ?_
        refine ez_go ez_h54 1 (pc' := bif decide ((nI (Z (hh - 1))) ≤ (nI (Z ((hh - 1) - 2)))) then 26 else 20) (L' := [some (.ref 5), some (.int (nI (hh - 1)))]) (st' := []) (w' := cz_w r q (nI (hh), uP, uM, bgs, szs, spr) bb) rfl ?_
        refine ez_ifF (zt_nle (a := Z (hh - 1)) (b := Z ((hh - 1) - 2)) (by omega) (by omega)) ?_
        refine ez_go ez_h54 3 (pc' := 23) (L' := [some (.ref 5), some (.int (nI (hh - 1)))]) (st' := [.int ((nI (hh - 1)) - (nI (2)))]) (w' := cz_w r q (nI (hh), uP, uM, bgs, szs, spr) bb) rfl ?_
        refine ez_top (y := nI ((hh - 1) - 2)) (pk_sub (by omega)) ?_
        refine ez_go ez_h54 1 (pc' := 29) (L' := [some (.ref 5), some (.int (nI (hh - 1)))]) (st' := [.int (nI ((hh - 1) - 2))]) (w' := cz_w r q (nI (hh), uP, uM, bgs, szs, spr) bb) rfl ?_
        exact ez_iret rfl ez_h54 rfl rfl (kk _ _ hr hu0)
      · skip
        rw [fl, if_neg (by omega)] at kk
        refine ez_go ez_h54 3 (pc' := bif decide ((nI (hh - 1)) < (nI (2))) then 26 else 5) (L' := [some (.ref 5), some (.int (nI (hh - 1)))]) (st' := []) (w' := cz_w r q (nI (hh), uP, uM, bgs, szs, spr) bb) rfl ?_
        refine ez_ifF (zt_nlt (a := hh - 1) (b := 2) (by omega) (by omega)) ?_
        refine ez_go ez_h54 4 (pc' := 9) (L' := [some (.ref 5), some (.int (nI (hh - 1)))]) (st' := [.int ((nI (hh - 1)) - (nI (2))), .ref 5]) (w' := cz_w r q (nI (hh), uP, uM, bgs, szs, spr) bb) rfl ?_
        refine ez_top (y := nI ((hh - 1) - 2)) (pk_sub (by omega)) ?_
        refine ez_cl ez_h54 rfl rfl ?_
        refine lf_sizeAt ((hh - 1) - 2) (by omega) (nI (hh)) uP uM bgs szs spr r q bb ?_
        refine ez_top (y := nI (Z ((hh - 1) - 2))) ((hbz ((hh - 1) - 2) (by omega)).2) ?_
        refine ez_go ez_h54 2 (pc' := 14) (L' := [some (.ref 5), some (.int (nI (hh - 1)))]) (st' := [.int (nI (hh - 1)), .ref 5, .int (nI (Z ((hh - 1) - 2)))]) (w' := cz_w r q (nI (hh), uP, uM, bgs, szs, spr) bb) rfl ?_
        refine ez_cl ez_h54 rfl rfl ?_
        refine lf_sizeAt (hh - 1) (by omega) (nI (hh)) uP uM bgs szs spr r q bb ?_
        refine ez_top (y := nI (Z (hh - 1))) ((hbz (hh - 1) (by omega)).2) ?_
        refine ez_go ez_h54 1 (pc' := bif decide ((nI (Z (hh - 1))) ≤ (nI (Z ((hh - 1) - 2)))) then 26 else 20) (L' := [some (.ref 5), some (.int (nI (hh - 1)))]) (st' := []) (w' := cz_w r q (nI (hh), uP, uM, bgs, szs, spr) bb) rfl ?_
        refine ez_ifT (zt_le (a := Z (hh - 1)) (b := Z ((hh - 1) - 2)) (by omega) (by omega)) ?_
        refine ez_go ez_h54 3 (pc' := 29) (L' := [some (.ref 5), some (.int (nI (hh - 1)))]) (st' := [.int ((nI (hh - 1)) - (nI (1)))]) (w' := cz_w r q (nI (hh), uP, uM, bgs, szs, spr) bb) rfl ?_
        refine ez_top (y := nI ((hh - 1) - 1)) (pk_sub (by omega)) ?_
        exact ez_iret rfl ez_h54 rfl rfl (kk _ _ hr hu0)
    · skip
      rw [fl, if_neg (by omega)] at kk
      refine ez_go ez_h54 3 (pc' := bif decide ((nI (hh - 1)) < (nI (2))) then 26 else 5) (L' := [some (.ref 5), some (.int (nI (hh - 1)))]) (st' := []) (w' := cz_w r q (nI (hh), uP, uM, bgs, szs, spr) bb) rfl ?_
      refine ez_ifT (zt_lt (a := hh - 1) (b := 2) (by omega) (by omega)) ?_
      refine ez_go ez_h54 3 (pc' := 29) (L' := [some (.ref 5), some (.int (nI (hh - 1)))]) (st' := [.int ((nI (hh - 1)) - (nI (1)))]) (w' := cz_w r q (nI (hh), uP, uM, bgs, szs, spr) bb) rfl ?_
      refine ez_top (y := nI ((hh - 1) - 1)) (pk_sub (by omega)) ?_
      exact ez_iret rfl ez_h54 rfl rfl (kk _ _ hr hu0)
end
section
theorem cu_size {p : zp_T} {u : cz_Rn} (hu : cu_R p u) {k : Nat} (hk : k < p.1) (h38 : p.1 ≤ 38) (r : cz_Row) (q : cz_Qk) (bb : cz_Bn) {post : Option Value → ez_W → Prop} (h : post (some (.int (nI (p.2.2.1 k)))) (cz_w r q u bb)) : ez_m 49 [.ref 5, .int (nI k)] (cz_w r q u bb) post := by
  obtain ⟨u1, u2, u3, u4, u5, u6⟩ := u
  refine lf_sizeAt k (by omega) u1 u2 u3 u4 u5 u6 r q bb ?_
  have e : u5 k = nI (p.2.2.1 k) := (hu.2.2.2 k hk).2
  rw [e]
  exact h
theorem mu_width {p : zp_T} {U : mz_U} (hU : mu_R p U) {k : Nat} (hk : k < p.1) (h38 : p.1 ≤ 38) (A : mz_A) (Q : mz_Q) (T : mz_T) {post : Option Value → ez_W → Prop} (h : post (some (.int (nI (p.2.2.1 k)))) (mz_w A Q U T)) : ez_m 92 [.ref 0, .int (nI k)] (mz_w A Q U T) post := by
  obtain ⟨u1, u2, u3, u4, u5, u6⟩ := U
  refine lf_width k (by omega) u1 u2 u3 u4 u5 u6 A Q T ?_
  have e1 : u4 k = nI (p.2.1 k) := (hU.2.2.2 k hk).1
  have e2 : u5 k = nI (p.2.1 k + p.2.2.1 k) := (hU.2.2.2 k hk).2
  rw [zp_wd e1 e2]
  exact h
theorem zp_mfl {E : ze_T} (hE : ze_ok E) {p : zp_T} {bd : Nat} (hp : zp_ok (ze_n E) p bd) (h2 : 2 ≤ p.1) (A : mz_A) (Q : mz_Q) (U : mz_U) (T : mz_T) (hU : mu_R p U) {post : Option Value → ez_W → Prop} (kk : ez_E 93 91 [some (.ref 0), some (.int (nI (1))), some (.int (nI (p.1 - 1))), some (.int (zs_z (zp_fl p)))] [] (mz_w A Q U T) post) : ez_E 93 14 [some (.ref 0), some (.int (nI (1))), none, none] [] (mz_w A Q U T) post := by
  have hn := hE.1
  have h38 := hp.h hn
  have hz : ∀ j, j < p.1 → p.2.2.1 j ≤ ze_n E := fun j hj => hp.z hj
  have fl : zp_fl p = ((decide (3 ≤ p.1) && decide (p.2.2.1 (p.1 - 1 - 2) ≤ p.2.2.1 (p.1 - 1 - 1) + p.2.2.1 (p.1 - 1))) || (decide (4 ≤ p.1) && decide (p.2.2.1 (p.1 - 1 - 3) ≤ p.2.2.1 (p.1 - 1 - 2) + p.2.2.1 (p.1 - 1 - 1)))) := rfl
  by_cases c3 : 3 ≤ p.1
  · have z1 := hz (p.1 - 1 - 2) (by omega)
    have z2 := hz (p.1 - 1 - 1) (by omega)
    have z3 := hz (p.1 - 1) (by omega)
    by_cases d1 : p.2.2.1 (p.1 - 1 - 2) ≤ p.2.2.1 (p.1 - 1 - 1) + p.2.2.1 (p.1 - 1)
    · skip
      have fv : zp_fl p = true := by rw [fl]; simp; omega
      rw [fv] at kk
      refine ez_go ez_h93 2 (pc' := 18) (L' := [some (.ref 0), some (.int (nI (1))), none, none]) (st' := [.int (U.2.2.1)]) (w' := mz_w A Q U T) rfl ?_
      refine ez_top (y := nI (p.1)) (hU.2.2.1) ?_
      refine ez_go ez_h93 2 (pc' := 20) (L' := [some (.ref 0), some (.int (nI (1))), none, none]) (st' := [.int ((nI (p.1)) - (nI (1)))]) (w' := mz_w A Q U T) rfl ?_
      refine ez_top (y := nI (p.1 - 1)) (pk_sub (by omega)) ?_
      refine ez_go ez_h93 3 (pc' := 25) (L' := [some (.ref 0), some (.int (nI (1))), some (.int (nI (p.1 - 1))), none]) (st' := [.int (U.2.2.1)]) (w' := mz_w A Q U T) rfl ?_
      refine ez_top (y := nI (p.1)) (hU.2.2.1) ?_
      refine ez_go ez_h93 2 (pc' := bif decide ((nI (p.1)) ≤ (nI (2))) then 52 else 29) (L' := [some (.ref 0), some (.int (nI (1))), some (.int (nI (p.1 - 1))), none]) (st' := []) (w' := mz_w A Q U T) rfl ?_
      refine ez_ifF (zt_nle (a := p.1) (b := 2) (by omega) (by omega)) ?_
      refine ez_go ez_h93 4 (pc' := 33) (L' := [some (.ref 0), some (.int (nI (1))), some (.int (nI (p.1 - 1))), none]) (st' := [.int ((nI (p.1 - 1)) - (nI (2))), .ref 0]) (w' := mz_w A Q U T) rfl ?_
      refine ez_top (y := nI ((p.1 - 1) - 2)) (pk_sub (by omega)) ?_
      refine ez_cl ez_h93 rfl rfl ?_
      refine mu_width hU (k := (p.1 - 1) - 2) (by omega) h38 A Q T ?_
      refine ez_go ez_h93 4 (pc' := 40) (L' := [some (.ref 0), some (.int (nI (1))), some (.int (nI (p.1 - 1))), none]) (st' := [.int ((nI (p.1 - 1)) - (nI (1))), .ref 0, .int (nI (p.2.2.1 ((p.1 - 1) - 2)))]) (w' := mz_w A Q U T) rfl ?_
      refine ez_top (y := nI ((p.1 - 1) - 1)) (pk_sub (by omega)) ?_
      refine ez_cl ez_h93 rfl rfl ?_
      refine mu_width hU (k := (p.1 - 1) - 1) (by omega) h38 A Q T ?_
      refine ez_go ez_h93 2 (pc' := 45) (L' := [some (.ref 0), some (.int (nI (1))), some (.int (nI (p.1 - 1))), none]) (st' := [.int (nI (p.1 - 1)), .ref 0, .int (nI (p.2.2.1 ((p.1 - 1) - 1))), .int (nI (p.2.2.1 ((p.1 - 1) - 2)))]) (w' := mz_w A Q U T) rfl ?_
      refine ez_cl ez_h93 rfl rfl ?_
      refine mu_width hU (k := p.1 - 1) (by omega) h38 A Q T ?_
      refine ez_go ez_h93 1 (pc' := 49) (L' := [some (.ref 0), some (.int (nI (1))), some (.int (nI (p.1 - 1))), none]) (st' := [.int ((nI (p.2.2.1 ((p.1 - 1) - 1))) + (nI (p.2.2.1 (p.1 - 1)))), .int (nI (p.2.2.1 ((p.1 - 1) - 2)))]) (w' := mz_w A Q U T) rfl ?_
      refine ez_top (y := nI ((p.2.2.1 ((p.1 - 1) - 1)) + (p.2.2.1 (p.1 - 1)))) (nI_add _ _) ?_
      refine ez_go ez_h93 1 (pc' := bif decide ((nI (p.2.2.1 ((p.1 - 1) - 2))) ≤ (nI ((p.2.2.1 ((p.1 - 1) - 1)) + (p.2.2.1 (p.1 - 1))))) then 85 else 52) (L' := [some (.ref 0), some (.int (nI (1))), some (.int (nI (p.1 - 1))), none]) (st' := []) (w' := mz_w A Q U T) rfl ?_
      refine ez_ifT (zt_le (a := p.2.2.1 ((p.1 - 1) - 2)) (b := (p.2.2.1 ((p.1 - 1) - 1)) + (p.2.2.1 (p.1 - 1))) (by omega) (by omega)) ?_
      refine ez_go ez_h93 3 (pc' := 91) (L' := [some (.ref 0), some (.int (nI (1))), some (.int (nI (p.1 - 1))), some (.int (nI (1)))]) (st' := []) (w' := mz_w A Q U T) rfl ?_
      exact kk
    · by_cases c4 : 4 ≤ p.1
      · have z4 := hz (p.1 - 1 - 3) (by omega)
        by_cases d2 : p.2.2.1 (p.1 - 1 - 3) ≤ p.2.2.1 (p.1 - 1 - 2) + p.2.2.1 (p.1 - 1 - 1)
        · skip
          have fv : zp_fl p = true := by rw [fl]; simp; omega
          rw [fv] at kk
          refine ez_go ez_h93 2 (pc' := 18) (L' := [some (.ref 0), some (.int (nI (1))), none, none]) (st' := [.int (U.2.2.1)]) (w' := mz_w A Q U T) rfl ?_
          refine ez_top (y := nI (p.1)) (hU.2.2.1) ?_
          refine ez_go ez_h93 2 (pc' := 20) (L' := [some (.ref 0), some (.int (nI (1))), none, none]) (st' := [.int ((nI (p.1)) - (nI (1)))]) (w' := mz_w A Q U T) rfl ?_
          refine ez_top (y := nI (p.1 - 1)) (pk_sub (by omega)) ?_
          refine ez_go ez_h93 3 (pc' := 25) (L' := [some (.ref 0), some (.int (nI (1))), some (.int (nI (p.1 - 1))), none]) (st' := [.int (U.2.2.1)]) (w' := mz_w A Q U T) rfl ?_
          refine ez_top (y := nI (p.1)) (hU.2.2.1) ?_
          refine ez_go ez_h93 2 (pc' := bif decide ((nI (p.1)) ≤ (nI (2))) then 52 else 29) (L' := [some (.ref 0), some (.int (nI (1))), some (.int (nI (p.1 - 1))), none]) (st' := []) (w' := mz_w A Q U T) rfl ?_
          refine ez_ifF (zt_nle (a := p.1) (b := 2) (by omega) (by omega)) ?_
          refine ez_go ez_h93 4 (pc' := 33) (L' := [some (.ref 0), some (.int (nI (1))), some (.int (nI (p.1 - 1))), none]) (st' := [.int ((nI (p.1 - 1)) - (nI (2))), .ref 0]) (w' := mz_w A Q U T) rfl ?_
          refine ez_top (y := nI ((p.1 - 1) - 2)) (pk_sub (by omega)) ?_
          refine ez_cl ez_h93 rfl rfl ?_
          refine mu_width hU (k := (p.1 - 1) - 2) (by omega) h38 A Q T ?_
          refine ez_go ez_h93 4 (pc' := 40) (L' := [some (.ref 0), some (.int (nI (1))), some (.int (nI (p.1 - 1))), none]) (st' := [.int ((nI (p.1 - 1)) - (nI (1))), .ref 0, .int (nI (p.2.2.1 ((p.1 - 1) - 2)))]) (w' := mz_w A Q U T) rfl ?_
          refine ez_top (y := nI ((p.1 - 1) - 1)) (pk_sub (by omega)) ?_
          refine ez_cl ez_h93 rfl rfl ?_
          refine mu_width hU (k := (p.1 - 1) - 1) (by omega) h38 A Q T ?_
          refine ez_go ez_h93 2 (pc' := 45) (L' := [some (.ref 0), some (.int (nI (1))), some (.int (nI (p.1 - 1))), none]) (st' := [.int (nI (p.1 - 1)), .ref 0, .int (nI (p.2.2.1 ((p.1 - 1) - 1))), .int (nI (p.2.2.1 ((p.1 - 1) - 2)))]) (w' := mz_w A Q U T) rfl ?_
          refine ez_cl ez_h93 rfl rfl ?_
          refine mu_width hU (k := p.1 - 1) (by omega) h38 A Q T ?_
          refine ez_go ez_h93 1 (pc' := 49) (L' := [some (.ref 0), some (.int (nI (1))), some (.int (nI (p.1 - 1))), none]) (st' := [.int ((nI (p.2.2.1 ((p.1 - 1) - 1))) + (nI (p.2.2.1 (p.1 - 1)))), .int (nI (p.2.2.1 ((p.1 - 1) - 2)))]) (w' := mz_w A Q U T) rfl ?_
          refine ez_top (y := nI ((p.2.2.1 ((p.1 - 1) - 1)) + (p.2.2.1 (p.1 - 1)))) (nI_add _ _) ?_
          refine ez_go ez_h93 1 (pc' := bif decide ((nI (p.2.2.1 ((p.1 - 1) - 2))) ≤ (nI ((p.2.2.1 ((p.1 - 1) - 1)) + (p.2.2.1 (p.1 - 1))))) then 85 else 52) (L' := [some (.ref 0), some (.int (nI (1))), some (.int (nI (p.1 - 1))), none]) (st' := []) (w' := mz_w A Q U T) rfl ?_
          refine ez_ifF (zt_nle (a := p.2.2.1 ((p.1 - 1) - 2)) (b := (p.2.2.1 ((p.1 - 1) - 1)) + (p.2.2.1 (p.1 - 1))) (by omega) (by omega)) ?_
          refine ez_go ez_h93 2 (pc' := 56) (L' := [some (.ref 0), some (.int (nI (1))), some (.int (nI (p.1 - 1))), none]) (st' := [.int (U.2.2.1)]) (w' := mz_w A Q U T) rfl ?_
          refine ez_top (y := nI (p.1)) (hU.2.2.1) ?_
          refine ez_go ez_h93 2 (pc' := bif decide ((nI (p.1)) ≤ (nI (3))) then 89 else 60) (L' := [some (.ref 0), some (.int (nI (1))), some (.int (nI (p.1 - 1))), none]) (st' := []) (w' := mz_w A Q U T) rfl ?_
          refine ez_ifF (zt_nle (a := p.1) (b := 3) (by omega) (by omega)) ?_
          refine ez_go ez_h93 4 (pc' := 64) (L' := [some (.ref 0), some (.int (nI (1))), some (.int (nI (p.1 - 1))), none]) (st' := [.int ((nI (p.1 - 1)) - (nI (3))), .ref 0]) (w' := mz_w A Q U T) rfl ?_
          refine ez_top (y := nI ((p.1 - 1) - 3)) (pk_sub (by omega)) ?_
          refine ez_cl ez_h93 rfl rfl ?_
          refine mu_width hU (k := (p.1 - 1) - 3) (by omega) h38 A Q T ?_
          refine ez_go ez_h93 4 (pc' := 71) (L' := [some (.ref 0), some (.int (nI (1))), some (.int (nI (p.1 - 1))), none]) (st' := [.int ((nI (p.1 - 1)) - (nI (2))), .ref 0, .int (nI (p.2.2.1 ((p.1 - 1) - 3)))]) (w' := mz_w A Q U T) rfl ?_
          refine ez_top (y := nI ((p.1 - 1) - 2)) (pk_sub (by omega)) ?_
          refine ez_cl ez_h93 rfl rfl ?_
          refine mu_width hU (k := (p.1 - 1) - 2) (by omega) h38 A Q T ?_
          refine ez_go ez_h93 4 (pc' := 78) (L' := [some (.ref 0), some (.int (nI (1))), some (.int (nI (p.1 - 1))), none]) (st' := [.int ((nI (p.1 - 1)) - (nI (1))), .ref 0, .int (nI (p.2.2.1 ((p.1 - 1) - 2))), .int (nI (p.2.2.1 ((p.1 - 1) - 3)))]) (w' := mz_w A Q U T) rfl ?_
          refine ez_top (y := nI ((p.1 - 1) - 1)) (pk_sub (by omega)) ?_
          refine ez_cl ez_h93 rfl rfl ?_
          refine mu_width hU (k := (p.1 - 1) - 1) (by omega) h38 A Q T ?_
          refine ez_go ez_h93 1 (pc' := 82) (L' := [some (.ref 0), some (.int (nI (1))), some (.int (nI (p.1 - 1))), none]) (st' := [.int ((nI (p.2.2.1 ((p.1 - 1) - 2))) + (nI (p.2.2.1 ((p.1 - 1) - 1)))), .int (nI (p.2.2.1 ((p.1 - 1) - 3)))]) (w' := mz_w A Q U T) rfl ?_
          refine ez_top (y := nI ((p.2.2.1 ((p.1 - 1) - 2)) + (p.2.2.1 ((p.1 - 1) - 1)))) (nI_add _ _) ?_
          refine ez_go ez_h93 1 (pc' := bif decide ((nI ((p.2.2.1 ((p.1 - 1) - 2)) + (p.2.2.1 ((p.1 - 1) - 1)))) < (nI (p.2.2.1 ((p.1 - 1) - 3)))) then 89 else 85) (L' := [some (.ref 0), some (.int (nI (1))), some (.int (nI (p.1 - 1))), none]) (st' := []) (w' := mz_w A Q U T) rfl ?_
          refine ez_ifF (zt_nlt (a := (p.2.2.1 ((p.1 - 1) - 2)) + (p.2.2.1 ((p.1 - 1) - 1))) (b := p.2.2.1 ((p.1 - 1) - 3)) (by omega) (by omega)) ?_
          refine ez_go ez_h93 3 (pc' := 91) (L' := [some (.ref 0), some (.int (nI (1))), some (.int (nI (p.1 - 1))), some (.int (nI (1)))]) (st' := []) (w' := mz_w A Q U T) rfl ?_
          exact kk
        · skip
          have fv : zp_fl p = false := by rw [fl]; simp; omega
          rw [fv] at kk
          refine ez_go ez_h93 2 (pc' := 18) (L' := [some (.ref 0), some (.int (nI (1))), none, none]) (st' := [.int (U.2.2.1)]) (w' := mz_w A Q U T) rfl ?_
          refine ez_top (y := nI (p.1)) (hU.2.2.1) ?_
          refine ez_go ez_h93 2 (pc' := 20) (L' := [some (.ref 0), some (.int (nI (1))), none, none]) (st' := [.int ((nI (p.1)) - (nI (1)))]) (w' := mz_w A Q U T) rfl ?_
          refine ez_top (y := nI (p.1 - 1)) (pk_sub (by omega)) ?_
          refine ez_go ez_h93 3 (pc' := 25) (L' := [some (.ref 0), some (.int (nI (1))), some (.int (nI (p.1 - 1))), none]) (st' := [.int (U.2.2.1)]) (w' := mz_w A Q U T) rfl ?_
          refine ez_top (y := nI (p.1)) (hU.2.2.1) ?_
          refine ez_go ez_h93 2 (pc' := bif decide ((nI (p.1)) ≤ (nI (2))) then 52 else 29) (L' := [some (.ref 0), some (.int (nI (1))), some (.int (nI (p.1 - 1))), none]) (st' := []) (w' := mz_w A Q U T) rfl ?_
          refine ez_ifF (zt_nle (a := p.1) (b := 2) (by omega) (by omega)) ?_
          refine ez_go ez_h93 4 (pc' := 33) (L' := [some (.ref 0), some (.int (nI (1))), some (.int (nI (p.1 - 1))), none]) (st' := [.int ((nI (p.1 - 1)) - (nI (2))), .ref 0]) (w' := mz_w A Q U T) rfl ?_
          refine ez_top (y := nI ((p.1 - 1) - 2)) (pk_sub (by omega)) ?_
          refine ez_cl ez_h93 rfl rfl ?_
          refine mu_width hU (k := (p.1 - 1) - 2) (by omega) h38 A Q T ?_
          refine ez_go ez_h93 4 (pc' := 40) (L' := [some (.ref 0), some (.int (nI (1))), some (.int (nI (p.1 - 1))), none]) (st' := [.int ((nI (p.1 - 1)) - (nI (1))), .ref 0, .int (nI (p.2.2.1 ((p.1 - 1) - 2)))]) (w' := mz_w A Q U T) rfl ?_
          refine ez_top (y := nI ((p.1 - 1) - 1)) (pk_sub (by omega)) ?_
          refine ez_cl ez_h93 rfl rfl ?_
          refine mu_width hU (k := (p.1 - 1) - 1) (by omega) h38 A Q T ?_
          refine ez_go ez_h93 2 (pc' := 45) (L' := [some (.ref 0), some (.int (nI (1))), some (.int (nI (p.1 - 1))), none]) (st' := [.int (nI (p.1 - 1)), .ref 0, .int (nI (p.2.2.1 ((p.1 - 1) - 1))), .int (nI (p.2.2.1 ((p.1 - 1) - 2)))]) (w' := mz_w A Q U T) rfl ?_
          refine ez_cl ez_h93 rfl rfl ?_
          refine mu_width hU (k := p.1 - 1) (by omega) h38 A Q T ?_
          refine ez_go ez_h93 1 (pc' := 49) (L' := [some (.ref 0), some (.int (nI (1))), some (.int (nI (p.1 - 1))), none]) (st' := [.int ((nI (p.2.2.1 ((p.1 - 1) - 1))) + (nI (p.2.2.1 (p.1 - 1)))), .int (nI (p.2.2.1 ((p.1 - 1) - 2)))]) (w' := mz_w A Q U T) rfl ?_
          refine ez_top (y := nI ((p.2.2.1 ((p.1 - 1) - 1)) + (p.2.2.1 (p.1 - 1)))) (nI_add _ _) ?_
          refine ez_go ez_h93 1 (pc' := bif decide ((nI (p.2.2.1 ((p.1 - 1) - 2))) ≤ (nI ((p.2.2.1 ((p.1 - 1) - 1)) + (p.2.2.1 (p.1 - 1))))) then 85 else 52) (L' := [some (.ref 0), some (.int (nI (1))), some (.int (nI (p.1 - 1))), none]) (st' := []) (w' := mz_w A Q U T) rfl ?_
          refine ez_ifF (zt_nle (a := p.2.2.1 ((p.1 - 1) - 2)) (b := (p.2.2.1 ((p.1 - 1) - 1)) + (p.2.2.1 (p.1 - 1))) (by omega) (by omega)) ?_
          refine ez_go ez_h93 2 (pc' := 56) (L' := [some (.ref 0), some (.int (nI (1))), some (.int (nI (p.1 - 1))), none]) (st' := [.int (U.2.2.1)]) (w' := mz_w A Q U T) rfl ?_
          refine ez_top (y := nI (p.1)) (hU.2.2.1) ?_
          refine ez_go ez_h93 2 (pc' := bif decide ((nI (p.1)) ≤ (nI (3))) then 89 else 60) (L' := [some (.ref 0), some (.int (nI (1))), some (.int (nI (p.1 - 1))), none]) (st' := []) (w' := mz_w A Q U T) rfl ?_
          refine ez_ifF (zt_nle (a := p.1) (b := 3) (by omega) (by omega)) ?_
          refine ez_go ez_h93 4 (pc' := 64) (L' := [some (.ref 0), some (.int (nI (1))), some (.int (nI (p.1 - 1))), none]) (st' := [.int ((nI (p.1 - 1)) - (nI (3))), .ref 0]) (w' := mz_w A Q U T) rfl ?_
          refine ez_top (y := nI ((p.1 - 1) - 3)) (pk_sub (by omega)) ?_
          refine ez_cl ez_h93 rfl rfl ?_
          refine mu_width hU (k := (p.1 - 1) - 3) (by omega) h38 A Q T ?_
          refine ez_go ez_h93 4 (pc' := 71) (L' := [some (.ref 0), some (.int (nI (1))), some (.int (nI (p.1 - 1))), none]) (st' := [.int ((nI (p.1 - 1)) - (nI (2))), .ref 0, .int (nI (p.2.2.1 ((p.1 - 1) - 3)))]) (w' := mz_w A Q U T) rfl ?_
          refine ez_top (y := nI ((p.1 - 1) - 2)) (pk_sub (by omega)) ?_
          refine ez_cl ez_h93 rfl rfl ?_
          refine mu_width hU (k := (p.1 - 1) - 2) (by omega) h38 A Q T ?_
          refine ez_go ez_h93 4 (pc' := 78) (L' := [some (.ref 0), some (.int (nI (1))), some (.int (nI (p.1 - 1))), none]) (st' := [.int ((nI (p.1 - 1)) - (nI (1))), .ref 0, .int (nI (p.2.2.1 ((p.1 - 1) - 2))), .int (nI (p.2.2.1 ((p.1 - 1) - 3)))]) (w' := mz_w A Q U T) rfl ?_
          refine ez_top (y := nI ((p.1 - 1) - 1)) (pk_sub (by omega)) ?_
          refine ez_cl ez_h93 rfl rfl ?_
          refine mu_width hU (k := (p.1 - 1) - 1) (by omega) h38 A Q T ?_
          refine ez_go ez_h93 1 (pc' := 82) (L' := [some (.ref 0), some (.int (nI (1))), some (.int (nI (p.1 - 1))), none]) (st' := [.int ((nI (p.2.2.1 ((p.1 - 1) - 2))) + (nI (p.2.2.1 ((p.1 - 1) - 1)))), .int (nI (p.2.2.1 ((p.1 - 1) - 3)))]) (w' := mz_w A Q U T) rfl ?_
          refine ez_top (y := nI ((p.2.2.1 ((p.1 - 1) - 2)) + (p.2.2.1 ((p.1 - 1) - 1)))) (nI_add _ _) ?_
          refine ez_go ez_h93 1 (pc' := bif decide ((nI ((p.2.2.1 ((p.1 - 1) - 2)) + (p.2.2.1 ((p.1 - 1) - 1)))) < (nI (p.2.2.1 ((p.1 - 1) - 3)))) then 89 else 85) (L' := [some (.ref 0), some (.int (nI (1))), some (.int (nI (p.1 - 1))), none]) (st' := []) (w' := mz_w A Q U T) rfl ?_
          refine ez_ifT (zt_lt (a := (p.2.2.1 ((p.1 - 1) - 2)) + (p.2.2.1 ((p.1 - 1) - 1))) (b := p.2.2.1 ((p.1 - 1) - 3)) (by omega) (by omega)) ?_
          refine ez_go ez_h93 2 (pc' := 91) (L' := [some (.ref 0), some (.int (nI (1))), some (.int (nI (p.1 - 1))), some (.int (nI (0)))]) (st' := []) (w' := mz_w A Q U T) rfl ?_
          exact kk
      · skip
        have fv : zp_fl p = false := by rw [fl]; simp; omega
        rw [fv] at kk
        refine ez_go ez_h93 2 (pc' := 18) (L' := [some (.ref 0), some (.int (nI (1))), none, none]) (st' := [.int (U.2.2.1)]) (w' := mz_w A Q U T) rfl ?_
        refine ez_top (y := nI (p.1)) (hU.2.2.1) ?_
        refine ez_go ez_h93 2 (pc' := 20) (L' := [some (.ref 0), some (.int (nI (1))), none, none]) (st' := [.int ((nI (p.1)) - (nI (1)))]) (w' := mz_w A Q U T) rfl ?_
        refine ez_top (y := nI (p.1 - 1)) (pk_sub (by omega)) ?_
        refine ez_go ez_h93 3 (pc' := 25) (L' := [some (.ref 0), some (.int (nI (1))), some (.int (nI (p.1 - 1))), none]) (st' := [.int (U.2.2.1)]) (w' := mz_w A Q U T) rfl ?_
        refine ez_top (y := nI (p.1)) (hU.2.2.1) ?_
        refine ez_go ez_h93 2 (pc' := bif decide ((nI (p.1)) ≤ (nI (2))) then 52 else 29) (L' := [some (.ref 0), some (.int (nI (1))), some (.int (nI (p.1 - 1))), none]) (st' := []) (w' := mz_w A Q U T) rfl ?_
        refine ez_ifF (zt_nle (a := p.1) (b := 2) (by omega) (by omega)) ?_
        refine ez_go ez_h93 4 (pc' := 33) (L' := [some (.ref 0), some (.int (nI (1))), some (.int (nI (p.1 - 1))), none]) (st' := [.int ((nI (p.1 - 1)) - (nI (2))), .ref 0]) (w' := mz_w A Q U T) rfl ?_
        refine ez_top (y := nI ((p.1 - 1) - 2)) (pk_sub (by omega)) ?_
        refine ez_cl ez_h93 rfl rfl ?_
        refine mu_width hU (k := (p.1 - 1) - 2) (by omega) h38 A Q T ?_
        refine ez_go ez_h93 4 (pc' := 40) (L' := [some (.ref 0), some (.int (nI (1))), some (.int (nI (p.1 - 1))), none]) (st' := [.int ((nI (p.1 - 1)) - (nI (1))), .ref 0, .int (nI (p.2.2.1 ((p.1 - 1) - 2)))]) (w' := mz_w A Q U T) rfl ?_
        refine ez_top (y := nI ((p.1 - 1) - 1)) (pk_sub (by omega)) ?_
        refine ez_cl ez_h93 rfl rfl ?_
        refine mu_width hU (k := (p.1 - 1) - 1) (by omega) h38 A Q T ?_
        refine ez_go ez_h93 2 (pc' := 45) (L' := [some (.ref 0), some (.int (nI (1))), some (.int (nI (p.1 - 1))), none]) (st' := [.int (nI (p.1 - 1)), .ref 0, .int (nI (p.2.2.1 ((p.1 - 1) - 1))), .int (nI (p.2.2.1 ((p.1 - 1) - 2)))]) (w' := mz_w A Q U T) rfl ?_
        refine ez_cl ez_h93 rfl rfl ?_
        refine mu_width hU (k := p.1 - 1) (by omega) h38 A Q T ?_
        refine ez_go ez_h93 1 (pc' := 49) (L' := [some (.ref 0), some (.int (nI (1))), some (.int (nI (p.1 - 1))), none]) (st' := [.int ((nI (p.2.2.1 ((p.1 - 1) - 1))) + (nI (p.2.2.1 (p.1 - 1)))), .int (nI (p.2.2.1 ((p.1 - 1) - 2)))]) (w' := mz_w A Q U T) rfl ?_
        refine ez_top (y := nI ((p.2.2.1 ((p.1 - 1) - 1)) + (p.2.2.1 (p.1 - 1)))) (nI_add _ _) ?_
        refine ez_go ez_h93 1 (pc' := bif decide ((nI (p.2.2.1 ((p.1 - 1) - 2))) ≤ (nI ((p.2.2.1 ((p.1 - 1) - 1)) + (p.2.2.1 (p.1 - 1))))) then 85 else 52) (L' := [some (.ref 0), some (.int (nI (1))), some (.int (nI (p.1 - 1))), none]) (st' := []) (w' := mz_w A Q U T) rfl ?_
        refine ez_ifF (zt_nle (a := p.2.2.1 ((p.1 - 1) - 2)) (b := (p.2.2.1 ((p.1 - 1) - 1)) + (p.2.2.1 (p.1 - 1))) (by omega) (by omega)) ?_
        refine ez_go ez_h93 2 (pc' := 56) (L' := [some (.ref 0), some (.int (nI (1))), some (.int (nI (p.1 - 1))), none]) (st' := [.int (U.2.2.1)]) (w' := mz_w A Q U T) rfl ?_
        refine ez_top (y := nI (p.1)) (hU.2.2.1) ?_
        refine ez_go ez_h93 2 (pc' := bif decide ((nI (p.1)) ≤ (nI (3))) then 89 else 60) (L' := [some (.ref 0), some (.int (nI (1))), some (.int (nI (p.1 - 1))), none]) (st' := []) (w' := mz_w A Q U T) rfl ?_
        refine ez_ifT (zt_le (a := p.1) (b := 3) (by omega) (by omega)) ?_
        refine ez_go ez_h93 2 (pc' := 91) (L' := [some (.ref 0), some (.int (nI (1))), some (.int (nI (p.1 - 1))), some (.int (nI (0)))]) (st' := []) (w' := mz_w A Q U T) rfl ?_
        exact kk
  · skip
    have fv : zp_fl p = false := by rw [fl]; simp; omega
    rw [fv] at kk
    refine ez_go ez_h93 2 (pc' := 18) (L' := [some (.ref 0), some (.int (nI (1))), none, none]) (st' := [.int (U.2.2.1)]) (w' := mz_w A Q U T) rfl ?_
    refine ez_top (y := nI (p.1)) (hU.2.2.1) ?_
    refine ez_go ez_h93 2 (pc' := 20) (L' := [some (.ref 0), some (.int (nI (1))), none, none]) (st' := [.int ((nI (p.1)) - (nI (1)))]) (w' := mz_w A Q U T) rfl ?_
    refine ez_top (y := nI (p.1 - 1)) (pk_sub (by omega)) ?_
    refine ez_go ez_h93 3 (pc' := 25) (L' := [some (.ref 0), some (.int (nI (1))), some (.int (nI (p.1 - 1))), none]) (st' := [.int (U.2.2.1)]) (w' := mz_w A Q U T) rfl ?_
    refine ez_top (y := nI (p.1)) (hU.2.2.1) ?_
    refine ez_go ez_h93 2 (pc' := bif decide ((nI (p.1)) ≤ (nI (2))) then 52 else 29) (L' := [some (.ref 0), some (.int (nI (1))), some (.int (nI (p.1 - 1))), none]) (st' := []) (w' := mz_w A Q U T) rfl ?_
    refine ez_ifT (zt_le (a := p.1) (b := 2) (by omega) (by omega)) ?_
    refine ez_go ez_h93 2 (pc' := 56) (L' := [some (.ref 0), some (.int (nI (1))), some (.int (nI (p.1 - 1))), none]) (st' := [.int (U.2.2.1)]) (w' := mz_w A Q U T) rfl ?_
    refine ez_top (y := nI (p.1)) (hU.2.2.1) ?_
    refine ez_go ez_h93 2 (pc' := bif decide ((nI (p.1)) ≤ (nI (3))) then 89 else 60) (L' := [some (.ref 0), some (.int (nI (1))), some (.int (nI (p.1 - 1))), none]) (st' := []) (w' := mz_w A Q U T) rfl ?_
    refine ez_ifT (zt_le (a := p.1) (b := 3) (by omega) (by omega)) ?_
    refine ez_go ez_h93 2 (pc' := 91) (L' := [some (.ref 0), some (.int (nI (1))), some (.int (nI (p.1 - 1))), some (.int (nI (0)))]) (st' := []) (w' := mz_w A Q U T) rfl ?_
    exact kk
theorem zp_sd_lt {p : zp_T} (h : 2 ≤ p.1) : zp_sd p + 1 < p.1 := by
  unfold zp_sd
  split <;> omega
theorem zp_fl3 {p : zp_T} (h : zp_fl p = true) : 3 ≤ p.1 := by
  unfold zp_fl at h
  simp at h
  omega
/-- as long as the pile is too flat -/
theorem zq_flat {E : ze_T} (hE : ze_ok E) {bd : Nat} : ∀ (m : Nat) (p : zp_T) (row : Nat → Nat) (g : zs_G), p.1 ≤ m → zp_ok (ze_n E) p bd → zr_ok E row g →
    ∃ (row' : Nat → Nat) (g' : zs_G) (p' : zp_T), zr_ok E row' g' ∧ zg_le E g g' ∧ zp_in row row' 0 (ze_n E) ∧ zp_ok (ze_n E) p' bd ∧
      cw_H E 51 5 [some (.ref 5), some (.int (nI (p.1))), none] row g p none row' g' p' ∧ mw_H E 93 2 [some (.ref 0), some (.int (nI (1))), none, none] row g p none row' g' p' := by
  have hn := hE.1
  intro m
  induction m with
  | zero =>
    intro p row g h1 hp hw
    have h38 := hp.h hn
    refine ⟨row, g, p, hw, zg_le.rf g, zp_in.rf _ _ _, hp, ?_, ?_⟩
    · intro r q u bb post hr hu kk
      refine ez_go ez_h51 3 (pc' := bif decide ((nI (p.1)) < (nI (2))) then 69 else 10) (L' := [some (.ref 5), some (.int (nI (p.1))), none]) (st' := []) (w' := cz_w r q u bb) rfl ?_
      refine ez_ifT (zt_lt (a := p.1) (b := 2) (by omega) (by omega)) ?_
      exact ez_vret rfl ez_h51 rfl rfl (kk _ _ hr hu)
    · intro A Q U T post hA hU kk
      refine ez_go ez_h93 2 (pc' := bif decide ((nI (1)) = (nI 0)) then 156 else 6) (L' := [some (.ref 0), some (.int (nI (1))), none, none]) (st' := []) (w' := mz_w A Q U T) rfl ?_
      refine ez_ifF (zt_ne (by omega) (by omega) (by omega)) ?_
      refine ez_go ez_h93 2 (pc' := 10) (L' := [some (.ref 0), some (.int (nI (1))), none, none]) (st' := [.int (U.2.2.1)]) (w' := mz_w A Q U T) rfl ?_
      refine ez_top (y := nI (p.1)) (hU.2.2.1) ?_
      refine ez_go ez_h93 2 (pc' := bif decide ((nI (p.1)) ≤ (nI (1))) then 156 else 14) (L' := [some (.ref 0), some (.int (nI (1))), none, none]) (st' := []) (w' := mz_w A Q U T) rfl ?_
      refine ez_ifT (zt_le (a := p.1) (b := 1) (by omega) (by omega)) ?_
      exact ez_vret rfl ez_h93 rfl rfl (kk _ _ hA hU)
  | succ m ih =>
    intro p row g h1 hp hw
    have h38 := hp.h hn
    have hz : ∀ j, j < p.1 → p.2.2.1 j ≤ ze_n E := fun j hj => hp.z hj
    by_cases h2 : 2 ≤ p.1
    · have z3 := hz (p.1 - 1) (by omega)
      have z2 := hz (p.1 - 1 - 1) (by omega)
      cases hf : zp_fl p with
      | true =>
        have h3 := zp_fl3 hf
        have z1 := hz (p.1 - 1 - 2) (by omega)
        have hsd := zp_sd_lt h2
        obtain ⟨row1, g1, a1, a2, a3, a4, a5⟩ := zm_at hE hp (k := zp_sd p) hsd hw
        obtain ⟨p1, hp1⟩ : ∃ x, x = zp_mg p (zp_sd p) := ⟨_, rfl⟩
        rw [← hp1] at a4 a5
        have hpl : p1.1 = p.1 - 1 := by rw [hp1]; rfl
        obtain ⟨row', g', p', b1, b2, b3, b4, b5, b6⟩ := ih p1 row1 g1 (by omega) (by rw [hp1]; exact hp.mg hsd) a1
        refine ⟨row', g', p', b1, a2.tr b2, a3.tr b3, b4, ?_, ?_⟩
        · intro r q u bb post hr hu kk
          refine ez_go ez_h51 3 (pc' := bif decide ((nI (p.1)) < (nI (2))) then 69 else 10) (L' := [some (.ref 5), some (.int (nI (p.1))), none]) (st' := []) (w' := cz_w r q u bb) rfl ?_
          refine ez_ifF (zt_nlt (a := p.1) (b := 2) (by omega) (by omega)) ?_
          refine ez_go ez_h51 2 (pc' := 14) (L' := [some (.ref 5), some (.int (nI (p.1))), none]) (st' := [.int (u.1)]) (w' := cz_w r q u bb) rfl ?_
          refine ez_top (y := nI (p.1)) (hu.1) ?_
          refine ez_go ez_h51 2 (pc' := 16) (L' := [some (.ref 5), some (.int (nI (p.1))), none]) (st' := [.int ((nI (p.1)) - (nI (1)))]) (w' := cz_w r q u bb) rfl ?_
          refine ez_top (y := nI (p.1 - 1)) (pk_sub (by omega)) ?_
          refine ez_go ez_h51 3 (pc' := 19) (L' := [some (.ref 5), some (.int (nI (p.1))), some (.int (nI (p.1 - 1)))]) (st' := [.int (nI (p.1 - 1)), .ref 5]) (w' := cz_w r q u bb) rfl ?_
          refine ez_cl ez_h51 rfl rfl ?_
          refine zp_flat hE hp h2 row g _ q u bb _ hr hu (fun r4 u4 hr4 hu4 => ?_)
          refine ez_go ez_h51 1 (pc' := bif decide ((zs_z (zp_fl p)) = 0) then 37 else 25) (L' := [some (.ref 5), some (.int (nI (p.1))), some (.int (nI (p.1 - 1)))]) (st' := []) (w' := cz_w r4 q u4 bb) rfl ?_
          refine ez_ifF (zz_t hf) ?_
          refine ez_go ez_h51 3 (pc' := 28) (L' := [some (.ref 5), some (.int (nI (p.1))), some (.int (nI (p.1 - 1)))]) (st' := [.int (nI (p.1 - 1)), .ref 5, .ref 5]) (w' := cz_w r4 q u4 bb) rfl ?_
          refine ez_cl ez_h51 rfl rfl ?_
          refine zp_side hE hp h2 row g _ q u4 bb _ hr4 hu4 (fun r5 u5 hr5 hu5 => ?_)
          refine ez_cl ez_h51 rfl rfl ?_
          refine a4 _ q u5 bb _ hr5 hu5 (fun r6 u6 hr6 hu6 => ?_)
          refine ez_go ez_h51 1 (pc' := 63) (L' := [some (.ref 5), some (.int (nI (p.1))), some (.int (nI (p.1 - 1)))]) (st' := []) (w' := cz_w r6 q u6 bb) rfl ?_
          refine ez_inc ez_h51 rfl rfl (v := nI (p.1 - 1)) (zi_m (by omega)) rfl ?_
          refine ez_go ez_h51 1 (pc' := 5) (L' := [some (.ref 5), some (.int (nI (p.1 - 1))), some (.int (nI (p.1 - 1)))]) (st' := []) (w' := cz_w r6 q u6 bb) rfl ?_
          rw [← hpl]
          exact ez_E.le (ez_lc (ez_lc (ez_ln ez_l0))) (b5 _ q u6 bb post hr6 hu6 kk)
        · intro A Q U T post hA hU kk
          refine ez_go ez_h93 2 (pc' := bif decide ((nI (1)) = (nI 0)) then 156 else 6) (L' := [some (.ref 0), some (.int (nI (1))), none, none]) (st' := []) (w' := mz_w A Q U T) rfl ?_
          refine ez_ifF (zt_ne (by omega) (by omega) (by omega)) ?_
          refine ez_go ez_h93 2 (pc' := 10) (L' := [some (.ref 0), some (.int (nI (1))), none, none]) (st' := [.int (U.2.2.1)]) (w' := mz_w A Q U T) rfl ?_
          refine ez_top (y := nI (p.1)) (hU.2.2.1) ?_
          refine ez_go ez_h93 2 (pc' := bif decide ((nI (p.1)) ≤ (nI (1))) then 156 else 14) (L' := [some (.ref 0), some (.int (nI (1))), none, none]) (st' := []) (w' := mz_w A Q U T) rfl ?_
          refine ez_ifF (zt_nle (a := p.1) (b := 1) (by omega) (by omega)) ?_
          refine zp_mfl hE hp h2 _ Q U T hU ?_
          by_cases d1 : p.2.2.1 (p.1 - 1 - 2) < p.2.2.1 (p.1 - 1)
          · have esd : zp_sd p = p.1 - 1 - 2 := by unfold zp_sd; rw [if_pos (by omega)]
            rw [esd] at a5
            refine ez_go ez_h93 2 (pc' := bif decide ((zs_z (zp_fl p)) = 0) then 126 else 95) (L' := [some (.ref 0), some (.int (nI (1))), some (.int (nI (p.1 - 1))), some (.int (zs_z (zp_fl p)))]) (st' := []) (w' := mz_w A Q U T) rfl ?_
            refine ez_ifF (zz_t hf) ?_
            refine ez_go ez_h93 5 (pc' := 100) (L' := [some (.ref 0), some (.int (nI (1))), some (.int (nI (p.1 - 1))), some (.int (zs_z (zp_fl p)))]) (st' := [.int ((nI (p.1 - 1)) - (nI (2))), .ref 0, .ref 0]) (w' := mz_w A Q U T) rfl ?_
            refine ez_top (y := nI ((p.1 - 1) - 2)) (pk_sub (by omega)) ?_
            refine ez_cl ez_h93 rfl rfl ?_
            refine mu_width hU (k := (p.1 - 1) - 2) (by omega) h38 A Q T ?_
            refine ez_go ez_h93 2 (pc' := 105) (L' := [some (.ref 0), some (.int (nI (1))), some (.int (nI (p.1 - 1))), some (.int (zs_z (zp_fl p)))]) (st' := [.int (nI (p.1 - 1)), .ref 0, .int (nI (p.2.2.1 ((p.1 - 1) - 2))), .ref 0]) (w' := mz_w A Q U T) rfl ?_
            refine ez_cl ez_h93 rfl rfl ?_
            refine mu_width hU (k := p.1 - 1) (by omega) h38 A Q T ?_
            refine ez_go ez_h93 1 (pc' := bif decide ((nI (p.2.2.1 (p.1 - 1))) ≤ (nI (p.2.2.1 ((p.1 - 1) - 2)))) then 117 else 111) (L' := [some (.ref 0), some (.int (nI (1))), some (.int (nI (p.1 - 1))), some (.int (zs_z (zp_fl p)))]) (st' := [.ref 0]) (w' := mz_w A Q U T) rfl ?_
            refine ez_ifF (zt_nle (a := p.2.2.1 (p.1 - 1)) (b := p.2.2.1 ((p.1 - 1) - 2)) (by omega) (by omega)) ?_
            refine ez_go ez_h93 3 (pc' := 114) (L' := [some (.ref 0), some (.int (nI (1))), some (.int (nI (p.1 - 1))), some (.int (zs_z (zp_fl p)))]) (st' := [.int ((nI (p.1 - 1)) - (nI (2))), .ref 0]) (w' := mz_w A Q U T) rfl ?_
            refine ez_top (y := nI ((p.1 - 1) - 2)) (pk_sub (by omega)) ?_
            refine ez_go ez_h93 1 (pc' := 120) (L' := [some (.ref 0), some (.int (nI (1))), some (.int (nI (p.1 - 1))), some (.int (zs_z (zp_fl p)))]) (st' := [.int (nI ((p.1 - 1) - 2)), .ref 0]) (w' := mz_w A Q U T) rfl ?_
            refine ez_cl ez_h93 rfl rfl ?_
            refine a5 _ Q U T _ hA hU (fun A7 U7 hA7 hU7 => ?_)
            refine ez_go ez_h93 2 (pc' := 2) (L' := [some (.ref 0), some (.int (nI (1))), some (.int (nI (p.1 - 1))), some (.int (zs_z (zp_fl p)))]) (st' := []) (w' := mz_w A7 Q U7 T) rfl ?_
            exact ez_E.le (ez_lc (ez_lc (ez_ln (ez_ln ez_l0)))) (b6 _ Q U7 T post hA7 hU7 kk)
          · have esd : zp_sd p = p.1 - 1 - 1 := by unfold zp_sd; rw [if_neg (by omega)]
            rw [esd] at a5
            refine ez_go ez_h93 2 (pc' := bif decide ((zs_z (zp_fl p)) = 0) then 126 else 95) (L' := [some (.ref 0), some (.int (nI (1))), some (.int (nI (p.1 - 1))), some (.int (zs_z (zp_fl p)))]) (st' := []) (w' := mz_w A Q U T) rfl ?_
            refine ez_ifF (zz_t hf) ?_
            refine ez_go ez_h93 5 (pc' := 100) (L' := [some (.ref 0), some (.int (nI (1))), some (.int (nI (p.1 - 1))), some (.int (zs_z (zp_fl p)))]) (st' := [.int ((nI (p.1 - 1)) - (nI (2))), .ref 0, .ref 0]) (w' := mz_w A Q U T) rfl ?_
            refine ez_top (y := nI ((p.1 - 1) - 2)) (pk_sub (by omega)) ?_
            refine ez_cl ez_h93 rfl rfl ?_
            refine mu_width hU (k := (p.1 - 1) - 2) (by omega) h38 A Q T ?_
            refine ez_go ez_h93 2 (pc' := 105) (L' := [some (.ref 0), some (.int (nI (1))), some (.int (nI (p.1 - 1))), some (.int (zs_z (zp_fl p)))]) (st' := [.int (nI (p.1 - 1)), .ref 0, .int (nI (p.2.2.1 ((p.1 - 1) - 2))), .ref 0]) (w' := mz_w A Q U T) rfl ?_
            refine ez_cl ez_h93 rfl rfl ?_
            refine mu_width hU (k := p.1 - 1) (by omega) h38 A Q T ?_
            refine ez_go ez_h93 1 (pc' := bif decide ((nI (p.2.2.1 (p.1 - 1))) ≤ (nI (p.2.2.1 ((p.1 - 1) - 2)))) then 117 else 111) (L' := [some (.ref 0), some (.int (nI (1))), some (.int (nI (p.1 - 1))), some (.int (zs_z (zp_fl p)))]) (st' := [.ref 0]) (w' := mz_w A Q U T) rfl ?_
            refine ez_ifT (zt_le (a := p.2.2.1 (p.1 - 1)) (b := p.2.2.1 ((p.1 - 1) - 2)) (by omega) (by omega)) ?_
            refine ez_go ez_h93 3 (pc' := 120) (L' := [some (.ref 0), some (.int (nI (1))), some (.int (nI (p.1 - 1))), some (.int (zs_z (zp_fl p)))]) (st' := [.int ((nI (p.1 - 1)) - (nI (1))), .ref 0]) (w' := mz_w A Q U T) rfl ?_
            refine ez_top (y := nI ((p.1 - 1) - 1)) (pk_sub (by omega)) ?_
            refine ez_cl ez_h93 rfl rfl ?_
            refine a5 _ Q U T _ hA hU (fun A8 U8 hA8 hU8 => ?_)
            refine ez_go ez_h93 2 (pc' := 2) (L' := [some (.ref 0), some (.int (nI (1))), some (.int (nI (p.1 - 1))), some (.int (zs_z (zp_fl p)))]) (st' := []) (w' := mz_w A8 Q U8 T) rfl ?_
            exact ez_E.le (ez_lc (ez_lc (ez_ln (ez_ln ez_l0)))) (b6 _ Q U8 T post hA8 hU8 kk)
      | false =>
        by_cases d1 : p.2.2.1 (p.1 - 1 - 1) ≤ p.2.2.1 (p.1 - 1)
        · obtain ⟨row1, g1, a1, a2, a3, a4, a5⟩ := zm_at hE hp (k := p.1 - 1 - 1) (by omega) hw
          obtain ⟨p1, hp1⟩ : ∃ x, x = zp_mg p (p.1 - 1 - 1) := ⟨_, rfl⟩
          rw [← hp1] at a4 a5
          have hpl : p1.1 = p.1 - 1 := by rw [hp1]; rfl
          obtain ⟨row', g', p', b1, b2, b3, b4, b5, b6⟩ := ih p1 row1 g1 (by omega) (by rw [hp1]; exact hp.mg (by omega)) a1
          refine ⟨row', g', p', b1, a2.tr b2, a3.tr b3, b4, ?_, ?_⟩
          · intro r q u bb post hr hu kk
            refine ez_go ez_h51 3 (pc' := bif decide ((nI (p.1)) < (nI (2))) then 69 else 10) (L' := [some (.ref 5), some (.int (nI (p.1))), none]) (st' := []) (w' := cz_w r q u bb) rfl ?_
            refine ez_ifF (zt_nlt (a := p.1) (b := 2) (by omega) (by omega)) ?_
            refine ez_go ez_h51 2 (pc' := 14) (L' := [some (.ref 5), some (.int (nI (p.1))), none]) (st' := [.int (u.1)]) (w' := cz_w r q u bb) rfl ?_
            refine ez_top (y := nI (p.1)) (hu.1) ?_
            refine ez_go ez_h51 2 (pc' := 16) (L' := [some (.ref 5), some (.int (nI (p.1))), none]) (st' := [.int ((nI (p.1)) - (nI (1)))]) (w' := cz_w r q u bb) rfl ?_
            refine ez_top (y := nI (p.1 - 1)) (pk_sub (by omega)) ?_
            refine ez_go ez_h51 3 (pc' := 19) (L' := [some (.ref 5), some (.int (nI (p.1))), some (.int (nI (p.1 - 1)))]) (st' := [.int (nI (p.1 - 1)), .ref 5]) (w' := cz_w r q u bb) rfl ?_
            refine ez_cl ez_h51 rfl rfl ?_
            refine zp_flat hE hp h2 row g _ q u bb _ hr hu (fun r9 u9 hr9 hu9 => ?_)
            refine ez_go ez_h51 1 (pc' := bif decide ((zs_z (zp_fl p)) = 0) then 37 else 25) (L' := [some (.ref 5), some (.int (nI (p.1))), some (.int (nI (p.1 - 1)))]) (st' := []) (w' := cz_w r9 q u9 bb) rfl ?_
            refine ez_ifT (zz_f hf) ?_
            refine ez_go ez_h51 4 (pc' := 41) (L' := [some (.ref 5), some (.int (nI (p.1))), some (.int (nI (p.1 - 1)))]) (st' := [.int ((nI (p.1 - 1)) - (nI (1))), .ref 5]) (w' := cz_w r9 q u9 bb) rfl ?_
            refine ez_top (y := nI ((p.1 - 1) - 1)) (pk_sub (by omega)) ?_
            refine ez_cl ez_h51 rfl rfl ?_
            refine cu_size hu9 (k := (p.1 - 1) - 1) (by omega) h38 r9 q bb ?_
            refine ez_go ez_h51 2 (pc' := 46) (L' := [some (.ref 5), some (.int (nI (p.1))), some (.int (nI (p.1 - 1)))]) (st' := [.int (nI (p.1 - 1)), .ref 5, .int (nI (p.2.2.1 ((p.1 - 1) - 1)))]) (w' := cz_w r9 q u9 bb) rfl ?_
            refine ez_cl ez_h51 rfl rfl ?_
            refine cu_size hu9 (k := p.1 - 1) (by omega) h38 r9 q bb ?_
            refine ez_go ez_h51 1 (pc' := bif decide ((nI (p.2.2.1 (p.1 - 1))) < (nI (p.2.2.1 ((p.1 - 1) - 1)))) then 62 else 52) (L' := [some (.ref 5), some (.int (nI (p.1))), some (.int (nI (p.1 - 1)))]) (st' := []) (w' := cz_w r9 q u9 bb) rfl ?_
            refine ez_ifF (zt_nlt (a := p.2.2.1 (p.1 - 1)) (b := p.2.2.1 ((p.1 - 1) - 1)) (by omega) (by omega)) ?_
            refine ez_go ez_h51 4 (pc' := 56) (L' := [some (.ref 5), some (.int (nI (p.1))), some (.int (nI (p.1 - 1)))]) (st' := [.int ((nI (p.1 - 1)) - (nI (1))), .ref 5]) (w' := cz_w r9 q u9 bb) rfl ?_
            refine ez_top (y := nI ((p.1 - 1) - 1)) (pk_sub (by omega)) ?_
            refine ez_cl ez_h51 rfl rfl ?_
            refine a4 _ q u9 bb _ hr9 hu9 (fun r10 u10 hr10 hu10 => ?_)
            refine ez_go ez_h51 1 (pc' := 63) (L' := [some (.ref 5), some (.int (nI (p.1))), some (.int (nI (p.1 - 1)))]) (st' := []) (w' := cz_w r10 q u10 bb) rfl ?_
            refine ez_inc ez_h51 rfl rfl (v := nI (p.1 - 1)) (zi_m (by omega)) rfl ?_
            refine ez_go ez_h51 1 (pc' := 5) (L' := [some (.ref 5), some (.int (nI (p.1 - 1))), some (.int (nI (p.1 - 1)))]) (st' := []) (w' := cz_w r10 q u10 bb) rfl ?_
            rw [← hpl]
            exact ez_E.le (ez_lc (ez_lc (ez_ln ez_l0))) (b5 _ q u10 bb post hr10 hu10 kk)
          · intro A Q U T post hA hU kk
            refine ez_go ez_h93 2 (pc' := bif decide ((nI (1)) = (nI 0)) then 156 else 6) (L' := [some (.ref 0), some (.int (nI (1))), none, none]) (st' := []) (w' := mz_w A Q U T) rfl ?_
            refine ez_ifF (zt_ne (by omega) (by omega) (by omega)) ?_
            refine ez_go ez_h93 2 (pc' := 10) (L' := [some (.ref 0), some (.int (nI (1))), none, none]) (st' := [.int (U.2.2.1)]) (w' := mz_w A Q U T) rfl ?_
            refine ez_top (y := nI (p.1)) (hU.2.2.1) ?_
            refine ez_go ez_h93 2 (pc' := bif decide ((nI (p.1)) ≤ (nI (1))) then 156 else 14) (L' := [some (.ref 0), some (.int (nI (1))), none, none]) (st' := []) (w' := mz_w A Q U T) rfl ?_
            refine ez_ifF (zt_nle (a := p.1) (b := 1) (by omega) (by omega)) ?_
            refine zp_mfl hE hp h2 _ Q U T hU ?_
            refine ez_go ez_h93 2 (pc' := bif decide ((zs_z (zp_fl p)) = 0) then 126 else 95) (L' := [some (.ref 0), some (.int (nI (1))), some (.int (nI (p.1 - 1))), some (.int (zs_z (zp_fl p)))]) (st' := []) (w' := mz_w A Q U T) rfl ?_
            refine ez_ifT (zz_f hf) ?_
            refine ez_go ez_h93 4 (pc' := 130) (L' := [some (.ref 0), some (.int (nI (1))), some (.int (nI (p.1 - 1))), some (.int (zs_z (zp_fl p)))]) (st' := [.int ((nI (p.1 - 1)) - (nI (1))), .ref 0]) (w' := mz_w A Q U T) rfl ?_
            refine ez_top (y := nI ((p.1 - 1) - 1)) (pk_sub (by omega)) ?_
            refine ez_cl ez_h93 rfl rfl ?_
            refine mu_width hU (k := (p.1 - 1) - 1) (by omega) h38 A Q T ?_
            refine ez_go ez_h93 2 (pc' := 135) (L' := [some (.ref 0), some (.int (nI (1))), some (.int (nI (p.1 - 1))), some (.int (zs_z (zp_fl p)))]) (st' := [.int (nI (p.1 - 1)), .ref 0, .int (nI (p.2.2.1 ((p.1 - 1) - 1)))]) (w' := mz_w A Q U T) rfl ?_
            refine ez_cl ez_h93 rfl rfl ?_
            refine mu_width hU (k := p.1 - 1) (by omega) h38 A Q T ?_
            refine ez_go ez_h93 1 (pc' := bif decide ((nI (p.2.2.1 (p.1 - 1))) < (nI (p.2.2.1 ((p.1 - 1) - 1)))) then 151 else 141) (L' := [some (.ref 0), some (.int (nI (1))), some (.int (nI (p.1 - 1))), some (.int (zs_z (zp_fl p)))]) (st' := []) (w' := mz_w A Q U T) rfl ?_
            refine ez_ifF (zt_nlt (a := p.2.2.1 (p.1 - 1)) (b := p.2.2.1 ((p.1 - 1) - 1)) (by omega) (by omega)) ?_
            refine ez_go ez_h93 4 (pc' := 145) (L' := [some (.ref 0), some (.int (nI (1))), some (.int (nI (p.1 - 1))), some (.int (zs_z (zp_fl p)))]) (st' := [.int ((nI (p.1 - 1)) - (nI (1))), .ref 0]) (w' := mz_w A Q U T) rfl ?_
            refine ez_top (y := nI ((p.1 - 1) - 1)) (pk_sub (by omega)) ?_
            refine ez_cl ez_h93 rfl rfl ?_
            refine a5 _ Q U T _ hA hU (fun A11 U11 hA11 hU11 => ?_)
            refine ez_go ez_h93 2 (pc' := 2) (L' := [some (.ref 0), some (.int (nI (1))), some (.int (nI (p.1 - 1))), some (.int (zs_z (zp_fl p)))]) (st' := []) (w' := mz_w A11 Q U11 T) rfl ?_
            exact ez_E.le (ez_lc (ez_lc (ez_ln (ez_ln ez_l0)))) (b6 _ Q U11 T post hA11 hU11 kk)
        · refine ⟨row, g, p, hw, zg_le.rf g, zp_in.rf _ _ _, hp, ?_, ?_⟩
          · intro r q u bb post hr hu kk
            refine ez_go ez_h51 3 (pc' := bif decide ((nI (p.1)) < (nI (2))) then 69 else 10) (L' := [some (.ref 5), some (.int (nI (p.1))), none]) (st' := []) (w' := cz_w r q u bb) rfl ?_
            refine ez_ifF (zt_nlt (a := p.1) (b := 2) (by omega) (by omega)) ?_
            refine ez_go ez_h51 2 (pc' := 14) (L' := [some (.ref 5), some (.int (nI (p.1))), none]) (st' := [.int (u.1)]) (w' := cz_w r q u bb) rfl ?_
            refine ez_top (y := nI (p.1)) (hu.1) ?_
            refine ez_go ez_h51 2 (pc' := 16) (L' := [some (.ref 5), some (.int (nI (p.1))), none]) (st' := [.int ((nI (p.1)) - (nI (1)))]) (w' := cz_w r q u bb) rfl ?_
            refine ez_top (y := nI (p.1 - 1)) (pk_sub (by omega)) ?_
            refine ez_go ez_h51 3 (pc' := 19) (L' := [some (.ref 5), some (.int (nI (p.1))), some (.int (nI (p.1 - 1)))]) (st' := [.int (nI (p.1 - 1)), .ref 5]) (w' := cz_w r q u bb) rfl ?_
            refine ez_cl ez_h51 rfl rfl ?_
            refine zp_flat hE hp h2 row g _ q u bb _ hr hu (fun r12 u12 hr12 hu12 => ?_)
            refine ez_go ez_h51 1 (pc' := bif decide ((zs_z (zp_fl p)) = 0) then 37 else 25) (L' := [some (.ref 5), some (.int (nI (p.1))), some (.int (nI (p.1 - 1)))]) (st' := []) (w' := cz_w r12 q u12 bb) rfl ?_
            refine ez_ifT (zz_f hf) ?_
            refine ez_go ez_h51 4 (pc' := 41) (L' := [some (.ref 5), some (.int (nI (p.1))), some (.int (nI (p.1 - 1)))]) (st' := [.int ((nI (p.1 - 1)) - (nI (1))), .ref 5]) (w' := cz_w r12 q u12 bb) rfl ?_
            refine ez_top (y := nI ((p.1 - 1) - 1)) (pk_sub (by omega)) ?_
            refine ez_cl ez_h51 rfl rfl ?_
            refine cu_size hu12 (k := (p.1 - 1) - 1) (by omega) h38 r12 q bb ?_
            refine ez_go ez_h51 2 (pc' := 46) (L' := [some (.ref 5), some (.int (nI (p.1))), some (.int (nI (p.1 - 1)))]) (st' := [.int (nI (p.1 - 1)), .ref 5, .int (nI (p.2.2.1 ((p.1 - 1) - 1)))]) (w' := cz_w r12 q u12 bb) rfl ?_
            refine ez_cl ez_h51 rfl rfl ?_
            refine cu_size hu12 (k := p.1 - 1) (by omega) h38 r12 q bb ?_
            refine ez_go ez_h51 1 (pc' := bif decide ((nI (p.2.2.1 (p.1 - 1))) < (nI (p.2.2.1 ((p.1 - 1) - 1)))) then 62 else 52) (L' := [some (.ref 5), some (.int (nI (p.1))), some (.int (nI (p.1 - 1)))]) (st' := []) (w' := cz_w r12 q u12 bb) rfl ?_
            refine ez_ifT (zt_lt (a := p.2.2.1 (p.1 - 1)) (b := p.2.2.1 ((p.1 - 1) - 1)) (by omega) (by omega)) ?_
            exact ez_vret rfl ez_h51 rfl rfl (kk _ _ hr12 hu12)
          · intro A Q U T post hA hU kk
            refine ez_go ez_h93 2 (pc' := bif decide ((nI (1)) = (nI 0)) then 156 else 6) (L' := [some (.ref 0), some (.int (nI (1))), none, none]) (st' := []) (w' := mz_w A Q U T) rfl ?_
            refine ez_ifF (zt_ne (by omega) (by omega) (by omega)) ?_
            refine ez_go ez_h93 2 (pc' := 10) (L' := [some (.ref 0), some (.int (nI (1))), none, none]) (st' := [.int (U.2.2.1)]) (w' := mz_w A Q U T) rfl ?_
            refine ez_top (y := nI (p.1)) (hU.2.2.1) ?_
            refine ez_go ez_h93 2 (pc' := bif decide ((nI (p.1)) ≤ (nI (1))) then 156 else 14) (L' := [some (.ref 0), some (.int (nI (1))), none, none]) (st' := []) (w' := mz_w A Q U T) rfl ?_
            refine ez_ifF (zt_nle (a := p.1) (b := 1) (by omega) (by omega)) ?_
            refine zp_mfl hE hp h2 _ Q U T hU ?_
            refine ez_go ez_h93 2 (pc' := bif decide ((zs_z (zp_fl p)) = 0) then 126 else 95) (L' := [some (.ref 0), some (.int (nI (1))), some (.int (nI (p.1 - 1))), some (.int (zs_z (zp_fl p)))]) (st' := []) (w' := mz_w A Q U T) rfl ?_
            refine ez_ifT (zz_f hf) ?_
            refine ez_go ez_h93 4 (pc' := 130) (L' := [some (.ref 0), some (.int (nI (1))), some (.int (nI (p.1 - 1))), some (.int (zs_z (zp_fl p)))]) (st' := [.int ((nI (p.1 - 1)) - (nI (1))), .ref 0]) (w' := mz_w A Q U T) rfl ?_
            refine ez_top (y := nI ((p.1 - 1) - 1)) (pk_sub (by omega)) ?_
            refine ez_cl ez_h93 rfl rfl ?_
            refine mu_width hU (k := (p.1 - 1) - 1) (by omega) h38 A Q T ?_
            refine ez_go ez_h93 2 (pc' := 135) (L' := [some (.ref 0), some (.int (nI (1))), some (.int (nI (p.1 - 1))), some (.int (zs_z (zp_fl p)))]) (st' := [.int (nI (p.1 - 1)), .ref 0, .int (nI (p.2.2.1 ((p.1 - 1) - 1)))]) (w' := mz_w A Q U T) rfl ?_
            refine ez_cl ez_h93 rfl rfl ?_
            refine mu_width hU (k := p.1 - 1) (by omega) h38 A Q T ?_
            refine ez_go ez_h93 1 (pc' := bif decide ((nI (p.2.2.1 (p.1 - 1))) < (nI (p.2.2.1 ((p.1 - 1) - 1)))) then 151 else 141) (L' := [some (.ref 0), some (.int (nI (1))), some (.int (nI (p.1 - 1))), some (.int (zs_z (zp_fl p)))]) (st' := []) (w' := mz_w A Q U T) rfl ?_
            refine ez_ifT (zt_lt (a := p.2.2.1 (p.1 - 1)) (b := p.2.2.1 ((p.1 - 1) - 1)) (by omega) (by omega)) ?_
            refine ez_go ez_h93 5 (pc' := bif decide ((nI (0)) = (nI 0)) then 156 else 6) (L' := [some (.ref 0), some (.int (nI (0))), some (.int (nI (p.1 - 1))), some (.int (zs_z (zp_fl p)))]) (st' := []) (w' := mz_w A Q U T) rfl ?_
            refine ez_ifT (zt_eq (by omega)) ?_
            exact ez_vret rfl ez_h93 rfl rfl (kk _ _ hA hU)
    · refine ⟨row, g, p, hw, zg_le.rf g, zp_in.rf _ _ _, hp, ?_, ?_⟩
      · intro r q u bb post hr hu kk
        refine ez_go ez_h51 3 (pc' := bif decide ((nI (p.1)) < (nI (2))) then 69 else 10) (L' := [some (.ref 5), some (.int (nI (p.1))), none]) (st' := []) (w' := cz_w r q u bb) rfl ?_
        refine ez_ifT (zt_lt (a := p.1) (b := 2) (by omega) (by omega)) ?_
        exact ez_vret rfl ez_h51 rfl rfl (kk _ _ hr hu)
      · intro A Q U T post hA hU kk
        refine ez_go ez_h93 2 (pc' := bif decide ((nI (1)) = (nI 0)) then 156 else 6) (L' := [some (.ref 0), some (.int (nI (1))), none, none]) (st' := []) (w' := mz_w A Q U T) rfl ?_
        refine ez_ifF (zt_ne (by omega) (by omega) (by omega)) ?_
        refine ez_go ez_h93 2 (pc' := 10) (L' := [some (.ref 0), some (.int (nI (1))), none, none]) (st' := [.int (U.2.2.1)]) (w' := mz_w A Q U T) rfl ?_
        refine ez_top (y := nI (p.1)) (hU.2.2.1) ?_
        refine ez_go ez_h93 2 (pc' := bif decide ((nI (p.1)) ≤ (nI (1))) then 156 else 14) (L' := [some (.ref 0), some (.int (nI (1))), none, none]) (st' := []) (w' := mz_w A Q U T) rfl ?_
        refine ez_ifT (zt_le (a := p.1) (b := 1) (by omega) (by omega)) ?_
        exact ez_vret rfl ez_h93 rfl rfl (kk _ _ hA hU)
theorem zq_settle {E : ze_T} (hE : ze_ok E) {bd : Nat} {p : zp_T} {row : Nat → Nat} {g : zs_G} (hp : zp_ok (ze_n E) p bd) (hw : zr_ok E row g) :
    ∃ (row' : Nat → Nat) (g' : zs_G) (p' : zp_T), zr_ok E row' g' ∧ zg_le E g g' ∧ zp_in row row' 0 (ze_n E) ∧ zp_ok (ze_n E) p' bd ∧
      cw_M E 51 [.ref 5] row g p none row' g' p' ∧ mw_M E 93 [.ref 0] row g p none row' g' p' := by
  have hn := hE.1
  have h38 := hp.h hn
  obtain ⟨row', g', p', b1, b2, b3, b4, b5, b6⟩ := zq_flat hE p.1 p row g (Nat.le_refl _) hp hw
  refine ⟨row', g', p', b1, b2, b3, b4, ?_, ?_⟩
  · refine cw_H.m (L := [some (.ref 5), none, none]) (fun r q u bb post hr hu kk => ?_) rfl rfl rfl
    refine ez_go ez_h51 2 (pc' := 4) (L' := [some (.ref 5), none, none]) (st' := [.int (u.1)]) (w' := cz_w r q u bb) rfl ?_
    refine ez_top (y := nI (p.1)) (hu.1) ?_
    refine ez_go ez_h51 1 (pc' := 5) (L' := [some (.ref 5), some (.int (nI (p.1))), none]) (st' := []) (w' := cz_w r q u bb) rfl ?_
    exact b5 _ q u bb post hr hu kk
  · refine mw_H.m (L := [some (.ref 0), none, none, none]) (fun A Q U T post hA hU kk => ?_) rfl rfl rfl
    refine ez_go ez_h93 2 (pc' := 2) (L' := [some (.ref 0), some (.int (nI (1))), none, none]) (st' := []) (w' := mz_w A Q U T) rfl ?_
    exact b6 _ Q U T post hA hU kk
/-- at the end: all are MERGED -/
theorem zq_all {E : ze_T} (hE : ze_ok E) {bd : Nat} : ∀ (m : Nat) (p : zp_T) (row : Nat → Nat) (g : zs_G), p.1 ≤ m → zp_ok (ze_n E) p bd → zr_ok E row g →
    ∃ (row' : Nat → Nat) (g' : zs_G) (p' : zp_T), zr_ok E row' g' ∧ zg_le E g g' ∧ zp_in row row' 0 (ze_n E) ∧ zp_ok (ze_n E) p' bd ∧
      cw_H E 52 5 [some (.ref 5), some (.int (nI (p.1)))] row g p none row' g' p' ∧ mw_H E 94 110 [some (.ref 0), none, none, none] row g p none row' g' p' := by
  have hn := hE.1
  intro m
  induction m with
  | zero =>
    intro p row g h1 hp hw
    have h38 := hp.h hn
    refine ⟨row, g, p, hw, zg_le.rf g, zp_in.rf _ _ _, hp, ?_, ?_⟩
    · intro r q u bb post hr hu kk
      refine ez_go ez_h52 3 (pc' := bif decide ((nI (p.1)) < (nI (2))) then 30 else 10) (L' := [some (.ref 5), some (.int (nI (p.1)))]) (st' := []) (w' := cz_w r q u bb) rfl ?_
      refine ez_ifT (zt_lt (a := p.1) (b := 2) (by omega) (by omega)) ?_
      exact ez_vret rfl ez_h52 rfl rfl (kk _ _ hr hu)
    · intro A Q U T post hA hU kk
      refine ez_go ez_h94 2 (pc' := 114) (L' := [some (.ref 0), none, none, none]) (st' := [.int (U.2.2.1)]) (w' := mz_w A Q U T) rfl ?_
      refine ez_top (y := nI (p.1)) (hU.2.2.1) ?_
      refine ez_go ez_h94 2 (pc' := bif decide ((nI (p.1)) ≤ (nI (1))) then 164 else 118) (L' := [some (.ref 0), none, none, none]) (st' := []) (w' := mz_w A Q U T) rfl ?_
      refine ez_ifT (zt_le (a := p.1) (b := 1) (by omega) (by omega)) ?_
      exact ez_vret rfl ez_h94 rfl rfl (kk _ _ hA hU)
  | succ m ih =>
    intro p row g h1 hp hw
    have h38 := hp.h hn
    have hz : ∀ j, j < p.1 → p.2.2.1 j ≤ ze_n E := fun j hj => hp.z hj
    by_cases h2 : 2 ≤ p.1
    · have z3 := hz (p.1 - 1) (by omega)
      have hsd := zp_sd_lt h2
      obtain ⟨row1, g1, a1, a2, a3, a4, a5⟩ := zm_at hE hp (k := zp_sd p) hsd hw
      obtain ⟨p1, hp1⟩ : ∃ x, x = zp_mg p (zp_sd p) := ⟨_, rfl⟩
      rw [← hp1] at a4 a5
      have hpl : p1.1 = p.1 - 1 := by rw [hp1]; rfl
      obtain ⟨row', g', p', b1, b2, b3, b4, b5, b6⟩ := ih p1 row1 g1 (by omega) (by rw [hp1]; exact hp.mg hsd) a1
      refine ⟨row', g', p', b1, a2.tr b2, a3.tr b3, b4, ?_, ?_⟩
      · intro r q u bb post hr hu kk
        refine ez_go ez_h52 3 (pc' := bif decide ((nI (p.1)) < (nI (2))) then 30 else 10) (L' := [some (.ref 5), some (.int (nI (p.1)))]) (st' := []) (w' := cz_w r q u bb) rfl ?_
        refine ez_ifF (zt_nlt (a := p.1) (b := 2) (by omega) (by omega)) ?_
        refine ez_go ez_h52 4 (pc' := 16) (L' := [some (.ref 5), some (.int (nI (p.1)))]) (st' := [.int (u.1), .ref 5, .ref 5]) (w' := cz_w r q u bb) rfl ?_
        refine ez_top (y := nI (p.1)) (hu.1) ?_
        refine ez_go ez_h52 2 (pc' := 18) (L' := [some (.ref 5), some (.int (nI (p.1)))]) (st' := [.int ((nI (p.1)) - (nI (1))), .ref 5, .ref 5]) (w' := cz_w r q u bb) rfl ?_
        refine ez_top (y := nI (p.1 - 1)) (pk_sub (by omega)) ?_
        refine ez_cl ez_h52 rfl rfl ?_
        refine zp_side hE hp h2 row g _ q u bb _ hr hu (fun r13 u13 hr13 hu13 => ?_)
        refine ez_cl ez_h52 rfl rfl ?_
        refine a4 _ q u13 bb _ hr13 hu13 (fun r14 u14 hr14 hu14 => ?_)
        refine ez_inc ez_h52 rfl rfl (v := nI (p.1 - 1)) (zi_m (by omega)) rfl ?_
        refine ez_go ez_h52 1 (pc' := 5) (L' := [some (.ref 5), some (.int (nI (p.1 - 1)))]) (st' := []) (w' := cz_w r14 q u14 bb) rfl ?_
        rw [← hpl]
        exact b5 _ q u14 bb post hr14 hu14 kk
      · intro A Q U T post hA hU kk
        by_cases c3 : 3 ≤ p.1
        · have z1 := hz (p.1 - 1 - 2) (by omega)
          by_cases d1 : p.2.2.1 (p.1 - 1 - 2) < p.2.2.1 (p.1 - 1)
          · have esd : zp_sd p = p.1 - 1 - 2 := by unfold zp_sd; rw [if_pos (by omega)]
            rw [esd] at a5
            refine ez_go ez_h94 2 (pc' := 114) (L' := [some (.ref 0), none, none, none]) (st' := [.int (U.2.2.1)]) (w' := mz_w A Q U T) rfl ?_
            refine ez_top (y := nI (p.1)) (hU.2.2.1) ?_
            refine ez_go ez_h94 2 (pc' := bif decide ((nI (p.1)) ≤ (nI (1))) then 164 else 118) (L' := [some (.ref 0), none, none, none]) (st' := []) (w' := mz_w A Q U T) rfl ?_
            refine ez_ifF (zt_nle (a := p.1) (b := 1) (by omega) (by omega)) ?_
            refine ez_go ez_h94 2 (pc' := 122) (L' := [some (.ref 0), none, none, none]) (st' := [.int (U.2.2.1)]) (w' := mz_w A Q U T) rfl ?_
            refine ez_top (y := nI (p.1)) (hU.2.2.1) ?_
            refine ez_go ez_h94 2 (pc' := 124) (L' := [some (.ref 0), none, none, none]) (st' := [.int ((nI (p.1)) - (nI (1)))]) (w' := mz_w A Q U T) rfl ?_
            refine ez_top (y := nI (p.1 - 1)) (pk_sub (by omega)) ?_
            refine ez_go ez_h94 4 (pc' := 130) (L' := [some (.ref 0), none, some (.int (nI (p.1 - 1))), none]) (st' := [.int (U.2.2.1), .ref 0]) (w' := mz_w A Q U T) rfl ?_
            refine ez_top (y := nI (p.1)) (hU.2.2.1) ?_
            refine ez_go ez_h94 2 (pc' := bif decide ((nI (p.1)) ≤ (nI (2))) then 155 else 134) (L' := [some (.ref 0), none, some (.int (nI (p.1 - 1))), none]) (st' := [.ref 0]) (w' := mz_w A Q U T) rfl ?_
            refine ez_ifF (zt_nle (a := p.1) (b := 2) (by omega) (by omega)) ?_
            refine ez_go ez_h94 4 (pc' := 138) (L' := [some (.ref 0), none, some (.int (nI (p.1 - 1))), none]) (st' := [.int ((nI (p.1 - 1)) - (nI (2))), .ref 0, .ref 0]) (w' := mz_w A Q U T) rfl ?_
            refine ez_top (y := nI ((p.1 - 1) - 2)) (pk_sub (by omega)) ?_
            refine ez_cl ez_h94 rfl rfl ?_
            refine mu_width hU (k := (p.1 - 1) - 2) (by omega) h38 A Q T ?_
            refine ez_go ez_h94 2 (pc' := 143) (L' := [some (.ref 0), none, some (.int (nI (p.1 - 1))), none]) (st' := [.int (nI (p.1 - 1)), .ref 0, .int (nI (p.2.2.1 ((p.1 - 1) - 2))), .ref 0]) (w' := mz_w A Q U T) rfl ?_
            refine ez_cl ez_h94 rfl rfl ?_
            refine mu_width hU (k := p.1 - 1) (by omega) h38 A Q T ?_
            refine ez_go ez_h94 1 (pc' := bif decide ((nI (p.2.2.1 (p.1 - 1))) ≤ (nI (p.2.2.1 ((p.1 - 1) - 2)))) then 155 else 149) (L' := [some (.ref 0), none, some (.int (nI (p.1 - 1))), none]) (st' := [.ref 0]) (w' := mz_w A Q U T) rfl ?_
            refine ez_ifF (zt_nle (a := p.2.2.1 (p.1 - 1)) (b := p.2.2.1 ((p.1 - 1) - 2)) (by omega) (by omega)) ?_
            refine ez_go ez_h94 3 (pc' := 152) (L' := [some (.ref 0), none, some (.int (nI (p.1 - 1))), none]) (st' := [.int ((nI (p.1 - 1)) - (nI (2))), .ref 0]) (w' := mz_w A Q U T) rfl ?_
            refine ez_top (y := nI ((p.1 - 1) - 2)) (pk_sub (by omega)) ?_
            refine ez_go ez_h94 1 (pc' := 158) (L' := [some (.ref 0), none, some (.int (nI (p.1 - 1))), none]) (st' := [.int (nI ((p.1 - 1) - 2)), .ref 0]) (w' := mz_w A Q U T) rfl ?_
            refine ez_cl ez_h94 rfl rfl ?_
            refine a5 _ Q U T _ hA hU (fun A15 U15 hA15 hU15 => ?_)
            refine ez_go ez_h94 1 (pc' := 110) (L' := [some (.ref 0), none, some (.int (nI (p.1 - 1))), none]) (st' := []) (w' := mz_w A15 Q U15 T) rfl ?_
            exact ez_E.le (ez_lc (ez_lc (ez_ln (ez_lc ez_l0)))) (b6 _ Q U15 T post hA15 hU15 kk)
          · have esd : zp_sd p = p.1 - 1 - 1 := by unfold zp_sd; rw [if_neg (by omega)]
            rw [esd] at a5
            refine ez_go ez_h94 2 (pc' := 114) (L' := [some (.ref 0), none, none, none]) (st' := [.int (U.2.2.1)]) (w' := mz_w A Q U T) rfl ?_
            refine ez_top (y := nI (p.1)) (hU.2.2.1) ?_
            refine ez_go ez_h94 2 (pc' := bif decide ((nI (p.1)) ≤ (nI (1))) then 164 else 118) (L' := [some (.ref 0), none, none, none]) (st' := []) (w' := mz_w A Q U T) rfl ?_
            refine ez_ifF (zt_nle (a := p.1) (b := 1) (by omega) (by omega)) ?_
            refine ez_go ez_h94 2 (pc' := 122) (L' := [some (.ref 0), none, none, none]) (st' := [.int (U.2.2.1)]) (w' := mz_w A Q U T) rfl ?_
            refine ez_top (y := nI (p.1)) (hU.2.2.1) ?_
            refine ez_go ez_h94 2 (pc' := 124) (L' := [some (.ref 0), none, none, none]) (st' := [.int ((nI (p.1)) - (nI (1)))]) (w' := mz_w A Q U T) rfl ?_
            refine ez_top (y := nI (p.1 - 1)) (pk_sub (by omega)) ?_
            refine ez_go ez_h94 4 (pc' := 130) (L' := [some (.ref 0), none, some (.int (nI (p.1 - 1))), none]) (st' := [.int (U.2.2.1), .ref 0]) (w' := mz_w A Q U T) rfl ?_
            refine ez_top (y := nI (p.1)) (hU.2.2.1) ?_
            refine ez_go ez_h94 2 (pc' := bif decide ((nI (p.1)) ≤ (nI (2))) then 155 else 134) (L' := [some (.ref 0), none, some (.int (nI (p.1 - 1))), none]) (st' := [.ref 0]) (w' := mz_w A Q U T) rfl ?_
            refine ez_ifF (zt_nle (a := p.1) (b := 2) (by omega) (by omega)) ?_
            refine ez_go ez_h94 4 (pc' := 138) (L' := [some (.ref 0), none, some (.int (nI (p.1 - 1))), none]) (st' := [.int ((nI (p.1 - 1)) - (nI (2))), .ref 0, .ref 0]) (w' := mz_w A Q U T) rfl ?_
            refine ez_top (y := nI ((p.1 - 1) - 2)) (pk_sub (by omega)) ?_
            refine ez_cl ez_h94 rfl rfl ?_
            refine mu_width hU (k := (p.1 - 1) - 2) (by omega) h38 A Q T ?_
            refine ez_go ez_h94 2 (pc' := 143) (L' := [some (.ref 0), none, some (.int (nI (p.1 - 1))), none]) (st' := [.int (nI (p.1 - 1)), .ref 0, .int (nI (p.2.2.1 ((p.1 - 1) - 2))), .ref 0]) (w' := mz_w A Q U T) rfl ?_
            refine ez_cl ez_h94 rfl rfl ?_
            refine mu_width hU (k := p.1 - 1) (by omega) h38 A Q T ?_
            refine ez_go ez_h94 1 (pc' := bif decide ((nI (p.2.2.1 (p.1 - 1))) ≤ (nI (p.2.2.1 ((p.1 - 1) - 2)))) then 155 else 149) (L' := [some (.ref 0), none, some (.int (nI (p.1 - 1))), none]) (st' := [.ref 0]) (w' := mz_w A Q U T) rfl ?_
            refine ez_ifT (zt_le (a := p.2.2.1 (p.1 - 1)) (b := p.2.2.1 ((p.1 - 1) - 2)) (by omega) (by omega)) ?_
            refine ez_go ez_h94 3 (pc' := 158) (L' := [some (.ref 0), none, some (.int (nI (p.1 - 1))), none]) (st' := [.int ((nI (p.1 - 1)) - (nI (1))), .ref 0]) (w' := mz_w A Q U T) rfl ?_
            refine ez_top (y := nI ((p.1 - 1) - 1)) (pk_sub (by omega)) ?_
            refine ez_cl ez_h94 rfl rfl ?_
            refine a5 _ Q U T _ hA hU (fun A16 U16 hA16 hU16 => ?_)
            refine ez_go ez_h94 1 (pc' := 110) (L' := [some (.ref 0), none, some (.int (nI (p.1 - 1))), none]) (st' := []) (w' := mz_w A16 Q U16 T) rfl ?_
            exact ez_E.le (ez_lc (ez_lc (ez_ln (ez_lc ez_l0)))) (b6 _ Q U16 T post hA16 hU16 kk)
        · have esd : zp_sd p = p.1 - 1 - 1 := by unfold zp_sd; rw [if_neg (by omega)]
          rw [esd] at a5
          refine ez_go ez_h94 2 (pc' := 114) (L' := [some (.ref 0), none, none, none]) (st' := [.int (U.2.2.1)]) (w' := mz_w A Q U T) rfl ?_
          refine ez_top (y := nI (p.1)) (hU.2.2.1) ?_
          refine ez_go ez_h94 2 (pc' := bif decide ((nI (p.1)) ≤ (nI (1))) then 164 else 118) (L' := [some (.ref 0), none, none, none]) (st' := []) (w' := mz_w A Q U T) rfl ?_
          refine ez_ifF (zt_nle (a := p.1) (b := 1) (by omega) (by omega)) ?_
          refine ez_go ez_h94 2 (pc' := 122) (L' := [some (.ref 0), none, none, none]) (st' := [.int (U.2.2.1)]) (w' := mz_w A Q U T) rfl ?_
          refine ez_top (y := nI (p.1)) (hU.2.2.1) ?_
          refine ez_go ez_h94 2 (pc' := 124) (L' := [some (.ref 0), none, none, none]) (st' := [.int ((nI (p.1)) - (nI (1)))]) (w' := mz_w A Q U T) rfl ?_
          refine ez_top (y := nI (p.1 - 1)) (pk_sub (by omega)) ?_
          refine ez_go ez_h94 4 (pc' := 130) (L' := [some (.ref 0), none, some (.int (nI (p.1 - 1))), none]) (st' := [.int (U.2.2.1), .ref 0]) (w' := mz_w A Q U T) rfl ?_
          refine ez_top (y := nI (p.1)) (hU.2.2.1) ?_
          refine ez_go ez_h94 2 (pc' := bif decide ((nI (p.1)) ≤ (nI (2))) then 155 else 134) (L' := [some (.ref 0), none, some (.int (nI (p.1 - 1))), none]) (st' := [.ref 0]) (w' := mz_w A Q U T) rfl ?_
          refine ez_ifT (zt_le (a := p.1) (b := 2) (by omega) (by omega)) ?_
          refine ez_go ez_h94 3 (pc' := 158) (L' := [some (.ref 0), none, some (.int (nI (p.1 - 1))), none]) (st' := [.int ((nI (p.1 - 1)) - (nI (1))), .ref 0]) (w' := mz_w A Q U T) rfl ?_
          refine ez_top (y := nI ((p.1 - 1) - 1)) (pk_sub (by omega)) ?_
          refine ez_cl ez_h94 rfl rfl ?_
          refine a5 _ Q U T _ hA hU (fun A17 U17 hA17 hU17 => ?_)
          refine ez_go ez_h94 1 (pc' := 110) (L' := [some (.ref 0), none, some (.int (nI (p.1 - 1))), none]) (st' := []) (w' := mz_w A17 Q U17 T) rfl ?_
          exact ez_E.le (ez_lc (ez_lc (ez_ln (ez_lc ez_l0)))) (b6 _ Q U17 T post hA17 hU17 kk)
    · refine ⟨row, g, p, hw, zg_le.rf g, zp_in.rf _ _ _, hp, ?_, ?_⟩
      · intro r q u bb post hr hu kk
        refine ez_go ez_h52 3 (pc' := bif decide ((nI (p.1)) < (nI (2))) then 30 else 10) (L' := [some (.ref 5), some (.int (nI (p.1)))]) (st' := []) (w' := cz_w r q u bb) rfl ?_
        refine ez_ifT (zt_lt (a := p.1) (b := 2) (by omega) (by omega)) ?_
        exact ez_vret rfl ez_h52 rfl rfl (kk _ _ hr hu)
      · intro A Q U T post hA hU kk
        refine ez_go ez_h94 2 (pc' := 114) (L' := [some (.ref 0), none, none, none]) (st' := [.int (U.2.2.1)]) (w' := mz_w A Q U T) rfl ?_
        refine ez_top (y := nI (p.1)) (hU.2.2.1) ?_
        refine ez_go ez_h94 2 (pc' := bif decide ((nI (p.1)) ≤ (nI (1))) then 164 else 118) (L' := [some (.ref 0), none, none, none]) (st' := []) (w' := mz_w A Q U T) rfl ?_
        refine ez_ifT (zt_le (a := p.1) (b := 1) (by omega) (by omega)) ?_
        exact ez_vret rfl ez_h94 rfl rfl (kk _ _ hA hU)
end
section
def zp_push (p : zp_T) (e : Nat) : zp_T := (p.1 + 1, va_up p.2.1 (p.1 + 1) e, va_up p.2.2.1 p.1 (e - p.2.1 p.1), p.2.2.2.1 + 1, p.2.2.2.2)
theorem zp_ok.push {n : Nat} {p : zp_T} {b e : Nat} (h : zp_ok n p b) (hb : b < e) (he : e ≤ n) (h16 : b + 16 ≤ e ∨ e = n) : zp_ok n (zp_push p e) e := by
  obtain ⟨hh, B, Z, P, M⟩ := p
  obtain ⟨h1, h2, h3, h4, h5⟩ := h
  replace h1 : B 0 = 0 := h1
  replace h2 : ∀ j, j < hh → B j + Z j = B (j + 1) ∧ 1 ≤ Z j := h2
  replace h3 : ∀ j, j < hh → 16 ≤ Z j ∨ (j + 1 = hh ∧ b = n) := h3
  replace h4 : B hh = b := h4
  refine ⟨?_, fun j hj => ?_, fun j hj => ?_, ?_, he⟩
  · show va_up B (hh + 1) e 0 = 0
    rw [va_up_ne _ _ (by omega)]; exact h1
  · replace hj : j < hh + 1 := hj
    show va_up B (hh + 1) e j + va_up Z hh (e - B hh) j = va_up B (hh + 1) e (j + 1) ∧ 1 ≤ va_up Z hh (e - B hh) j
    by_cases c : j = hh
    · subst c
      rw [va_up_ne _ _ (by omega), va_up_self, va_up_self]
      omega
    · rw [va_up_ne _ _ (by omega), va_up_ne _ _ c, va_up_ne _ _ (by omega)]; exact h2 j (by omega)
  · replace hj : j < hh + 1 := hj
    show 16 ≤ va_up Z hh (e - B hh) j ∨ (j + 1 = hh + 1 ∧ e = n)
    by_cases c : j = hh
    · subst c
      rw [va_up_self]
      omega
    · have := h3 j (by omega)
      rw [va_up_ne _ _ c]; omega
  · show va_up B (hh + 1) e (hh + 1) = e
    rw [va_up_self]
theorem cu_push {p : zp_T} {u : cz_Rn} {e : Nat} (hu : cu_R p u) (h38 : p.1 < 40) {bb0 zz : Nat} (hb : p.2.1 p.1 = bb0) (hz : e - p.2.1 p.1 = zz) (r : cz_Row) (q : cz_Qk) (bb : cz_Bn) {post : Option Value → ez_W → Prop} (h : ∀ u' : cz_Rn, cu_R (zp_push p e) u' → post none (cz_w r q u' bb)) : ez_m 48 [.ref 5, .int (nI bb0), .int (nI zz)] (cz_w r q u bb) post := by
  obtain ⟨hh, B, Z, P, M⟩ := p
  obtain ⟨uh, uP, uM, bgs, szs, spr⟩ := u
  obtain ⟨e1, e2, e3, hbz⟩ := hu
  replace e1 : uh = nI hh := e1
  replace e2 : uP = P := e2
  replace e3 : uM = M := e3
  replace h38 : hh < 40 := h38
  replace hb : B hh = bb0 := hb
  replace hz : e - B hh = zz := hz
  subst e1 e2 e3
  replace hbz : ∀ j, j < hh → bgs j = nI (B j) ∧ szs j = nI (Z j) := hbz
  refine ez_m.of (L := [some (.ref 5), some (.int (nI (bb0))), some (.int (nI (zz)))]) rfl rfl rfl ?_
  refine ez_go ez_h48 3 (pc' := bif decide ((nI (hh)) < (nI 0)) then 46 else 7) (L' := [some (.ref 5), some (.int (nI (bb0))), some (.int (nI (zz)))]) (st' := []) (w' := cz_w r q (nI (hh), uP, uM, bgs, szs, spr) bb) rfl ?_
  refine ez_ifF (zt_nlt (a := hh) (b := 0) (by omega) (by omega)) ?_
  refine ez_go ez_h48 4 (pc' := bif decide ((nI (40)) ≤ (nI (hh))) then 46 else 16) (L' := [some (.ref 5), some (.int (nI (bb0))), some (.int (nI (zz)))]) (st' := []) (w' := cz_w r q (nI (hh), uP, uM, bgs, szs, spr) bb) rfl ?_
  refine ez_ifF (zt_nle (a := 40) (b := hh) (by omega) (by omega)) ?_
  refine ez_go ez_h48 5 (pc' := 25) (L' := [some (.ref 5), some (.int (nI (bb0))), some (.int (nI (zz)))]) (st' := [.int (nI (bb0)), .int (nI (hh)), .ref 12]) (w' := cz_w r q (nI (hh), uP, uM, bgs, szs, spr) bb) rfl ?_
  refine ez_ast ez_h48 rfl rfl (hh) rfl (by omega) (by omega) ?_
  refine ez_go ez_h48 5 (pc' := 35) (L' := [some (.ref 5), some (.int (nI (bb0))), some (.int (nI (zz)))]) (st' := [.int (nI (zz)), .int (nI (hh)), .ref 13]) (w' := cz_w r q (nI (hh), uP, uM, (upd bgs hh (nI (bb0))), szs, spr) bb) rfl ?_
  refine ez_ast ez_h48 rfl rfl (hh) rfl (by omega) (by omega) ?_
  refine ez_go ez_h48 5 (pc' := 43) (L' := [some (.ref 5), some (.int (nI (bb0))), some (.int (nI (zz)))]) (st' := [.int ((nI (hh)) + (nI (1))), .ref 5]) (w' := cz_w r q (nI (hh), uP, uM, (upd bgs hh (nI (bb0))), (upd szs hh (nI (zz))), spr) bb) rfl ?_
  refine ez_top (y := nI (hh + 1)) (nI_add _ _) ?_
  refine ez_go ez_h48 7 (pc' := 56) (L' := [some (.ref 5), some (.int (nI (bb0))), some (.int (nI (zz)))]) (st' := []) (w' := cz_w r q (nI (hh + 1), uP + 1, uM, (upd bgs hh (nI (bb0))), (upd szs hh (nI (zz))), spr) bb) rfl ?_
  refine ez_vret rfl ez_h48 rfl rfl (h _ ⟨rfl, rfl, rfl, fun j hj => ?_⟩)
  replace hj : j < hh + 1 := hj
  show upd bgs hh (nI bb0) j = nI (va_up B (hh + 1) e j) ∧ upd szs hh (nI zz) j = nI (va_up Z hh (e - B hh) j)
  rw [va_up_ne _ _ (by omega)]
  by_cases c : j = hh
  · subst c
    rw [pk_us, pk_us, va_up_self, hz, hb]
    exact ⟨rfl, rfl⟩
  · rw [pk_un c, pk_un c, va_up_ne _ _ c]; exact hbz j (by omega)
theorem mu_push {p : zp_T} {U : mz_U} {b e : Nat} (hU : mu_R p U) (h38 : p.1 < 40) (hb : p.2.1 p.1 = b) (hbe : b ≤ e) (A : mz_A) (Q : mz_Q) (T : mz_T) {post : Option Value → ez_W → Prop} (h : ∀ U' : mz_U, mu_R (zp_push p e) U' → ez_E 94 101 [some (.ref 0), some (.int (nI (b))), some (.int (nI (e))), none] [] (mz_w A Q U' T) post) : ez_E 94 61 [some (.ref 0), some (.int (nI (b))), some (.int (nI (e))), none] [] (mz_w A Q U T) post := by
  obtain ⟨hh, B, Z, P, M⟩ := p
  obtain ⟨uP, uM, uh, bgs, ens, oth⟩ := U
  obtain ⟨e2, e3, e1, hbz⟩ := hU
  replace e1 : uh = nI hh := e1
  replace e2 : uP = P := e2
  replace e3 : uM = M := e3
  replace h38 : hh < 40 := h38
  replace hb : B hh = b := hb
  subst e1 e2 e3
  replace hbz : ∀ j, j < hh → bgs j = nI (B j) ∧ ens j = nI (B j + Z j) := hbz
  refine ez_go ez_h94 5 (pc' := 70) (L' := [some (.ref 0), some (.int (nI (b))), some (.int (nI (e))), none]) (st' := [.int (nI (b)), .int (nI (hh)), .ref 6]) (w' := mz_w A Q (uP, uM, nI (hh), bgs, ens, oth) T) rfl ?_
  refine ez_ast ez_h94 rfl rfl (hh) rfl (by omega) (by omega) ?_
  refine ez_go ez_h94 5 (pc' := 80) (L' := [some (.ref 0), some (.int (nI (b))), some (.int (nI (e))), none]) (st' := [.int (nI (e)), .int (nI (hh)), .ref 7]) (w' := mz_w A Q (uP, uM, nI (hh), (upd bgs hh (nI (b))), ens, oth) T) rfl ?_
  refine ez_ast ez_h94 rfl rfl (hh) rfl (by omega) (by omega) ?_
  refine ez_go ez_h94 5 (pc' := 88) (L' := [some (.ref 0), some (.int (nI (b))), some (.int (nI (e))), none]) (st' := [.int ((nI (hh)) + (nI (1))), .ref 0]) (w' := mz_w A Q (uP, uM, nI (hh), (upd bgs hh (nI (b))), (upd ens hh (nI (e))), oth) T) rfl ?_
  refine ez_top (y := nI (hh + 1)) (nI_add _ _) ?_
  refine ez_go ez_h94 7 (pc' := 101) (L' := [some (.ref 0), some (.int (nI (b))), some (.int (nI (e))), none]) (st' := []) (w' := mz_w A Q (uP + 1, uM, nI (hh + 1), (upd bgs hh (nI (b))), (upd ens hh (nI (e))), oth) T) rfl ?_
  refine h _ ⟨rfl, rfl, rfl, fun j hj => ?_⟩
  replace hj : j < hh + 1 := hj
  show upd bgs hh (nI b) j = nI (va_up B (hh + 1) e j) ∧ upd ens hh (nI e) j = nI (va_up B (hh + 1) e j + va_up Z hh (e - B hh) j)
  rw [va_up_ne _ _ (by omega)]
  by_cases c : j = hh
  · subst c
    rw [pk_us, pk_us, va_up_self, hb]
    exact ⟨rfl, by congr 1; omega⟩
  · rw [pk_un c, pk_un c, va_up_ne _ _ c]; exact hbz j (by omega)
theorem zq_all2 {E : ze_T} (hE : ze_ok E) {bd : Nat} {p : zp_T} {row : Nat → Nat} {g : zs_G} (hp : zp_ok (ze_n E) p bd) (hw : zr_ok E row g) :
    ∃ (row' : Nat → Nat) (g' : zs_G) (p' : zp_T), zr_ok E row' g' ∧ zg_le E g g' ∧ zp_in row row' 0 (ze_n E) ∧ zp_ok (ze_n E) p' bd ∧
      cw_M E 52 [.ref 5] row g p none row' g' p' ∧ mw_H E 94 110 [some (.ref 0), none, none, none] row g p none row' g' p' := by
  have hn := hE.1
  have h38 := hp.h hn
  obtain ⟨row', g', p', b1, b2, b3, b4, b5, b6⟩ := zq_all hE p.1 p row g (Nat.le_refl _) hp hw
  refine ⟨row', g', p', b1, b2, b3, b4, ?_, b6⟩
  refine cw_H.m (L := [some (.ref 5), none]) (fun r q u bb post hr hu kk => ?_) rfl rfl rfl
  refine ez_go ez_h52 2 (pc' := 4) (L' := [some (.ref 5), none]) (st' := [.int (u.1)]) (w' := cz_w r q u bb) rfl ?_
  refine ez_top (y := nI (p.1)) (hu.1) ?_
  refine ez_go ez_h52 1 (pc' := 5) (L' := [some (.ref 5), some (.int (nI (p.1)))]) (st' := []) (w' := cz_w r q u bb) rfl ?_
  exact b5 _ q u bb post hr hu kk
theorem zq_loop {E : ze_T} (hE : ze_ok E) : ∀ (m b k : Nat) (p : zp_T) (row : Nat → Nat) (g : zs_G), ze_n E ≤ b + m → k ≤ b → b ≤ ze_n E → zp_ok (ze_n E) p b → zr_ok E row g →
    ∃ (row' : Nat → Nat) (g' : zs_G) (p' : zp_T), zr_ok E row' g' ∧ zg_le E g g' ∧ zp_in row row' 0 (ze_n E) ∧
      cw_H E 44 17 [some (.ref 5), some (.int (nI (ze_n E))), some (.int (nI (b))), some (.int (nI (k))), none] row g p none row' g' p' ∧ mw_H E 94 7 [some (.ref 0), some (.int (nI (b))), none, none] row g p none row' g' p' := by
  have hn := hE.1
  intro m
  induction m with
  | zero =>
    intro b k p row g h1 h2 h3 hp hw
    have h38 := hp.h hn
    obtain ⟨row', g', p', f1, f2, f3, f4, f5, f6⟩ := zq_all2 hE hp hw
    refine ⟨row', g', p', f1, f2, f3, ?_, ?_⟩
    · intro r q u bb post hr hu kk
      by_cases ck : ze_n E ≤ k
      · skip
        refine ez_go ez_h44 3 (pc' := bif decide ((nI (ze_n E)) ≤ (nI (k))) then 63 else 22) (L' := [some (.ref 5), some (.int (nI (ze_n E))), some (.int (nI (b))), some (.int (nI (k))), none]) (st' := []) (w' := cz_w r q u bb) rfl ?_
        refine ez_ifT (zt_le (a := ze_n E) (b := k) (by omega) (by omega)) ?_
        refine ez_go ez_h44 1 (pc' := 64) (L' := [some (.ref 5), some (.int (nI (ze_n E))), some (.int (nI (b))), some (.int (nI (k))), none]) (st' := [.ref 5]) (w' := cz_w r q u bb) rfl ?_
        refine ez_cl ez_h44 rfl rfl ?_
        refine f5 _ q u bb _ hr hu (fun r18 u18 hr18 hu18 => ?_)
        exact ez_vret rfl ez_h44 rfl rfl (kk _ _ hr18 hu18)
      · skip
        refine ez_go ez_h44 3 (pc' := bif decide ((nI (ze_n E)) ≤ (nI (k))) then 63 else 22) (L' := [some (.ref 5), some (.int (nI (ze_n E))), some (.int (nI (b))), some (.int (nI (k))), none]) (st' := []) (w' := cz_w r q u bb) rfl ?_
        refine ez_ifF (zt_nle (a := ze_n E) (b := k) (by omega) (by omega)) ?_
        refine ez_go ez_h44 3 (pc' := bif decide ((nI (ze_n E)) ≤ (nI (b))) then 63 else 27) (L' := [some (.ref 5), some (.int (nI (ze_n E))), some (.int (nI (b))), some (.int (nI (k))), none]) (st' := []) (w' := cz_w r q u bb) rfl ?_
        refine ez_ifT (zt_le (a := ze_n E) (b := b) (by omega) (by omega)) ?_
        refine ez_go ez_h44 1 (pc' := 64) (L' := [some (.ref 5), some (.int (nI (ze_n E))), some (.int (nI (b))), some (.int (nI (k))), none]) (st' := [.ref 5]) (w' := cz_w r q u bb) rfl ?_
        refine ez_cl ez_h44 rfl rfl ?_
        refine f5 _ q u bb _ hr hu (fun r19 u19 hr19 hu19 => ?_)
        exact ez_vret rfl ez_h44 rfl rfl (kk _ _ hr19 hu19)
    · intro A Q U T post hA hU kk
      refine ez_go ez_h94 3 (pc' := 12) (L' := [some (.ref 0), some (.int (nI (b))), none, none]) (st' := [.int (A.1), .int (nI (b))]) (w' := mz_w A Q U T) rfl ?_
      refine ez_top (y := nI (ze_n E)) (hA.1) ?_
      refine ez_go ez_h94 1 (pc' := bif decide ((nI (ze_n E)) ≤ (nI (b))) then 110 else 15) (L' := [some (.ref 0), some (.int (nI (b))), none, none]) (st' := []) (w' := mz_w A Q U T) rfl ?_
      refine ez_ifT (zt_le (a := ze_n E) (b := b) (by omega) (by omega)) ?_
      exact ez_E.le (ez_lc (ez_ln (ez_lc (ez_lc ez_l0)))) (f6 _ Q U T post hA hU kk)
  | succ m ih =>
    intro b k p row g h1 h2 h3 hp hw
    have h38 := hp.h hn
    by_cases hbn : ze_n E ≤ b
    · obtain ⟨row', g', p', f1, f2, f3, f4, f5, f6⟩ := zq_all2 hE hp hw
      refine ⟨row', g', p', f1, f2, f3, ?_, ?_⟩
      · intro r q u bb post hr hu kk
        by_cases ck : ze_n E ≤ k
        · skip
          refine ez_go ez_h44 3 (pc' := bif decide ((nI (ze_n E)) ≤ (nI (k))) then 63 else 22) (L' := [some (.ref 5), some (.int (nI (ze_n E))), some (.int (nI (b))), some (.int (nI (k))), none]) (st' := []) (w' := cz_w r q u bb) rfl ?_
          refine ez_ifT (zt_le (a := ze_n E) (b := k) (by omega) (by omega)) ?_
          refine ez_go ez_h44 1 (pc' := 64) (L' := [some (.ref 5), some (.int (nI (ze_n E))), some (.int (nI (b))), some (.int (nI (k))), none]) (st' := [.ref 5]) (w' := cz_w r q u bb) rfl ?_
          refine ez_cl ez_h44 rfl rfl ?_
          refine f5 _ q u bb _ hr hu (fun r20 u20 hr20 hu20 => ?_)
          exact ez_vret rfl ez_h44 rfl rfl (kk _ _ hr20 hu20)
        · skip
          refine ez_go ez_h44 3 (pc' := bif decide ((nI (ze_n E)) ≤ (nI (k))) then 63 else 22) (L' := [some (.ref 5), some (.int (nI (ze_n E))), some (.int (nI (b))), some (.int (nI (k))), none]) (st' := []) (w' := cz_w r q u bb) rfl ?_
          refine ez_ifF (zt_nle (a := ze_n E) (b := k) (by omega) (by omega)) ?_
          refine ez_go ez_h44 3 (pc' := bif decide ((nI (ze_n E)) ≤ (nI (b))) then 63 else 27) (L' := [some (.ref 5), some (.int (nI (ze_n E))), some (.int (nI (b))), some (.int (nI (k))), none]) (st' := []) (w' := cz_w r q u bb) rfl ?_
          refine ez_ifT (zt_le (a := ze_n E) (b := b) (by omega) (by omega)) ?_
          refine ez_go ez_h44 1 (pc' := 64) (L' := [some (.ref 5), some (.int (nI (ze_n E))), some (.int (nI (b))), some (.int (nI (k))), none]) (st' := [.ref 5]) (w' := cz_w r q u bb) rfl ?_
          refine ez_cl ez_h44 rfl rfl ?_
          refine f5 _ q u bb _ hr hu (fun r21 u21 hr21 hu21 => ?_)
          exact ez_vret rfl ez_h44 rfl rfl (kk _ _ hr21 hu21)
      · intro A Q U T post hA hU kk
        refine ez_go ez_h94 3 (pc' := 12) (L' := [some (.ref 0), some (.int (nI (b))), none, none]) (st' := [.int (A.1), .int (nI (b))]) (w' := mz_w A Q U T) rfl ?_
        refine ez_top (y := nI (ze_n E)) (hA.1) ?_
        refine ez_go ez_h94 1 (pc' := bif decide ((nI (ze_n E)) ≤ (nI (b))) then 110 else 15) (L' := [some (.ref 0), some (.int (nI (b))), none, none]) (st' := []) (w' := mz_w A Q U T) rfl ?_
        refine ez_ifT (zt_le (a := ze_n E) (b := b) (by omega) (by omega)) ?_
        exact ez_E.le (ez_lc (ez_ln (ez_lc (ez_lc ez_l0)))) (f6 _ Q U T post hA hU kk)
    · obtain ⟨row1, g1, e0, a1, a2, a3, a4, a5, a6, a7⟩ := zu_run hE (b := b) (by omega) hw
      obtain ⟨row2, g2, b1, b2, b3, b4, b5, b6⟩ := zu_lengthen hE (b := b) (e := e0) (by omega) a2 a3
      obtain ⟨e1, he1⟩ : ∃ x, x = max e0 (min (b + 16) (ze_n E)) := ⟨_, rfl⟩
      have hpb : p.2.1 p.1 = b := hp.2.2.2.1
      have hp2 : zp_ok (ze_n E) (zp_push p e1) e1 := hp.push (by omega) (by omega) (by omega)
      obtain ⟨row3, g3, p3, d1, d2, d3, d4, d5, d6⟩ := zq_settle hE hp2 b1
      obtain ⟨row', g', p', c1, c2, c3, c4, c5⟩ := ih e1 (k + 1) p3 row3 g3 (by omega) (by omega) (by omega) d4 d1
      refine ⟨row', g', p', c1, ((a4.tr b2).tr d2).tr c2, ((((a5.wide (Nat.zero_le _) (Nat.le_refl _))).tr (b3.wide (Nat.zero_le _) (Nat.le_refl _))).tr d3).tr c3, ?_, ?_⟩
      · intro r q u bb post hr hu kk
        refine ez_go ez_h44 3 (pc' := bif decide ((nI (ze_n E)) ≤ (nI (k))) then 63 else 22) (L' := [some (.ref 5), some (.int (nI (ze_n E))), some (.int (nI (b))), some (.int (nI (k))), none]) (st' := []) (w' := cz_w r q u bb) rfl ?_
        refine ez_ifF (zt_nle (a := ze_n E) (b := k) (by omega) (by omega)) ?_
        refine ez_go ez_h44 3 (pc' := bif decide ((nI (ze_n E)) ≤ (nI (b))) then 63 else 27) (L' := [some (.ref 5), some (.int (nI (ze_n E))), some (.int (nI (b))), some (.int (nI (k))), none]) (st' := []) (w' := cz_w r q u bb) rfl ?_
        refine ez_ifF (zt_nle (a := ze_n E) (b := b) (by omega) (by omega)) ?_
        refine ez_go ez_h44 5 (pc' := 32) (L' := [some (.ref 5), some (.int (nI (ze_n E))), some (.int (nI (b))), some (.int (nI (k))), none]) (st' := [.int (nI (ze_n E)), .int (nI (b)), .ref 5, .int (nI (b)), .ref 5]) (w' := cz_w r q u bb) rfl ?_
        refine ez_cl ez_h44 rfl rfl ?_
        refine a6 _ q u bb _ hr (fun r81 hr81 => ?_)
        refine ez_go ez_h44 1 (pc' := 36) (L' := [some (.ref 5), some (.int (nI (ze_n E))), some (.int (nI (b))), some (.int (nI (k))), none]) (st' := [.int (nI (ze_n E)), .int (nI (e0)), .int (nI (b)), .ref 5]) (w' := cz_w r81 q u bb) rfl ?_
        refine ez_cl ez_h44 rfl rfl ?_
        refine b4 _ q u bb _ hr81 (fun r82 hr82 => ?_)
        rw [← he1]
        refine ez_go ez_h44 6 (pc' := 47) (L' := [some (.ref 5), some (.int (nI (ze_n E))), some (.int (nI (b))), some (.int (nI (k))), some (.int (nI (e1)))]) (st' := [.int ((nI (e1)) - (nI (b))), .int (nI (b)), .ref 5]) (w' := cz_w r82 q u bb) rfl ?_
        refine ez_top (y := nI (e1 - b)) (pk_sub (by omega)) ?_
        refine ez_cl ez_h44 rfl rfl ?_
        refine cu_push (e := e1) hu (by omega) hpb (by rw [hpb]) r82 q bb (fun u83 hu83 => ?_)
        refine ez_go ez_h44 1 (pc' := 51) (L' := [some (.ref 5), some (.int (nI (ze_n E))), some (.int (nI (b))), some (.int (nI (k))), some (.int (nI (e1)))]) (st' := [.ref 5]) (w' := cz_w r82 q u83 bb) rfl ?_
        refine ez_cl ez_h44 rfl rfl ?_
        refine d5 _ q u83 bb _ hr82 hu83 (fun r22 u22 hr22 hu22 => ?_)
        refine ez_go ez_h44 2 (pc' := 57) (L' := [some (.ref 5), some (.int (nI (ze_n E))), some (.int (nI (e1))), some (.int (nI (k))), some (.int (nI (e1)))]) (st' := []) (w' := cz_w r22 q u22 bb) rfl ?_
        refine ez_inc ez_h44 rfl rfl (v := nI (k + 1)) (zi_1 _) rfl ?_
        refine ez_go ez_h44 1 (pc' := 17) (L' := [some (.ref 5), some (.int (nI (ze_n E))), some (.int (nI (e1))), some (.int (nI (k + 1))), some (.int (nI (e1)))]) (st' := []) (w' := cz_w r22 q u22 bb) rfl ?_
        exact ez_E.le (ez_lc (ez_lc (ez_lc (ez_lc (ez_ln ez_l0))))) (c4 _ q u22 bb post hr22 hu22 kk)
      · intro A Q U T post hA hU kk
        by_cases h16 : e0 < b + 16
        · have ee : min (b + 16) (ze_n E) = e1 := by omega
          rw [ee] at b5
          by_cases hto : b + 16 < ze_n E
          · have ee2 : b + 16 = e1 := by omega
            refine ez_go ez_h94 3 (pc' := 12) (L' := [some (.ref 0), some (.int (nI (b))), none, none]) (st' := [.int (A.1), .int (nI (b))]) (w' := mz_w A Q U T) rfl ?_
            refine ez_top (y := nI (ze_n E)) (hA.1) ?_
            refine ez_go ez_h94 1 (pc' := bif decide ((nI (ze_n E)) ≤ (nI (b))) then 110 else 15) (L' := [some (.ref 0), some (.int (nI (b))), none, none]) (st' := []) (w' := mz_w A Q U T) rfl ?_
            refine ez_ifF (zt_nle (a := ze_n E) (b := b) (by omega) (by omega)) ?_
            refine ez_go ez_h94 2 (pc' := 17) (L' := [some (.ref 0), some (.int (nI (b))), none, none]) (st' := [.int (nI (b)), .ref 0]) (w' := mz_w A Q U T) rfl ?_
            refine ez_cl ez_h94 rfl rfl ?_
            refine a7 _ Q U T _ hA (fun A81 hA81 => ?_)
            refine ez_go ez_h94 4 (pc' := 24) (L' := [some (.ref 0), some (.int (nI (b))), some (.int (nI (e0))), none]) (st' := [.int ((nI (e0)) - (nI (b)))]) (w' := mz_w A81 Q U T) rfl ?_
            refine ez_top (y := nI (e0 - b)) (pk_sub (by omega)) ?_
            refine ez_go ez_h94 2 (pc' := bif decide ((nI (16)) ≤ (nI (e0 - b))) then 61 else 29) (L' := [some (.ref 0), some (.int (nI (b))), some (.int (nI (e0))), none]) (st' := []) (w' := mz_w A81 Q U T) rfl ?_
            refine ez_ifF (zt_nle (a := 16) (b := e0 - b) (by omega) (by omega)) ?_
            refine ez_go ez_h94 3 (pc' := 33) (L' := [some (.ref 0), some (.int (nI (b))), some (.int (nI (e0))), none]) (st' := [.int ((nI (b)) + (nI (16)))]) (w' := mz_w A81 Q U T) rfl ?_
            refine ez_top (y := nI (b + 16)) (nI_add _ _) ?_
            refine ez_go ez_h94 2 (pc' := 37) (L' := [some (.ref 0), some (.int (nI (b))), some (.int (nI (e0))), none]) (st' := [.int (A81.1), .int (nI (b + 16))]) (w' := mz_w A81 Q U T) rfl ?_
            refine ez_top (y := nI (ze_n E)) (hA81.1) ?_
            refine ez_go ez_h94 1 (pc' := bif decide ((nI (ze_n E)) ≤ (nI (b + 16))) then 47 else 40) (L' := [some (.ref 0), some (.int (nI (b))), some (.int (nI (e0))), none]) (st' := []) (w' := mz_w A81 Q U T) rfl ?_
            refine ez_ifF (zt_nle (a := ze_n E) (b := b + 16) (by omega) (by omega)) ?_
            refine ez_go ez_h94 3 (pc' := 44) (L' := [some (.ref 0), some (.int (nI (b))), some (.int (nI (e0))), none]) (st' := [.int ((nI (b)) + (nI (16)))]) (w' := mz_w A81 Q U T) rfl ?_
            refine ez_top (y := nI (b + 16)) (nI_add _ _) ?_
            refine ez_go ez_h94 1 (pc' := 51) (L' := [some (.ref 0), some (.int (nI (b))), some (.int (nI (e0))), none]) (st' := [.int (nI (b + 16))]) (w' := mz_w A81 Q U T) rfl ?_
            rw [ee2]
            refine ez_go ez_h94 5 (pc' := 56) (L' := [some (.ref 0), some (.int (nI (b))), some (.int (nI (e0))), some (.int (nI (e1)))]) (st' := [.int (nI (e1)), .int (nI (e0)), .int (nI (b)), .ref 0]) (w' := mz_w A81 Q U T) rfl ?_
            refine ez_cl ez_h94 rfl rfl ?_
            refine b5 (by omega) _ Q U T _ hA81 (fun A82 hA82 => ?_)
            refine ez_go ez_h94 2 (pc' := 61) (L' := [some (.ref 0), some (.int (nI (b))), some (.int (nI (e1))), some (.int (nI (e1)))]) (st' := []) (w' := mz_w A82 Q U T) rfl ?_
            refine ez_E.le (ez_lc (ez_lc (ez_lc (ez_ln ez_l0)))) (mu_push (e := e1) hU (by omega) hpb (by omega) _ Q T (fun U83 hU83 => ?_))
            refine ez_go ez_h94 1 (pc' := 102) (L' := [some (.ref 0), some (.int (nI (b))), some (.int (nI (e1))), none]) (st' := [.ref 0]) (w' := mz_w A82 Q U83 T) rfl ?_
            refine ez_cl ez_h94 rfl rfl ?_
            refine d6 _ Q U83 T _ hA82 hU83 (fun A23 U23 hA23 hU23 => ?_)
            refine ez_go ez_h94 3 (pc' := 7) (L' := [some (.ref 0), some (.int (nI (e1))), some (.int (nI (e1))), none]) (st' := []) (w' := mz_w A23 Q U23 T) rfl ?_
            exact ez_E.le (ez_lc (ez_lc (ez_ln (ez_lc ez_l0)))) (c5 _ Q U23 T post hA23 hU23 kk)
          · have ee2 : ze_n E = e1 := by omega
            refine ez_go ez_h94 3 (pc' := 12) (L' := [some (.ref 0), some (.int (nI (b))), none, none]) (st' := [.int (A.1), .int (nI (b))]) (w' := mz_w A Q U T) rfl ?_
            refine ez_top (y := nI (ze_n E)) (hA.1) ?_
            refine ez_go ez_h94 1 (pc' := bif decide ((nI (ze_n E)) ≤ (nI (b))) then 110 else 15) (L' := [some (.ref 0), some (.int (nI (b))), none, none]) (st' := []) (w' := mz_w A Q U T) rfl ?_
            refine ez_ifF (zt_nle (a := ze_n E) (b := b) (by omega) (by omega)) ?_
            refine ez_go ez_h94 2 (pc' := 17) (L' := [some (.ref 0), some (.int (nI (b))), none, none]) (st' := [.int (nI (b)), .ref 0]) (w' := mz_w A Q U T) rfl ?_
            refine ez_cl ez_h94 rfl rfl ?_
            refine a7 _ Q U T _ hA (fun A81 hA81 => ?_)
            refine ez_go ez_h94 4 (pc' := 24) (L' := [some (.ref 0), some (.int (nI (b))), some (.int (nI (e0))), none]) (st' := [.int ((nI (e0)) - (nI (b)))]) (w' := mz_w A81 Q U T) rfl ?_
            refine ez_top (y := nI (e0 - b)) (pk_sub (by omega)) ?_
            refine ez_go ez_h94 2 (pc' := bif decide ((nI (16)) ≤ (nI (e0 - b))) then 61 else 29) (L' := [some (.ref 0), some (.int (nI (b))), some (.int (nI (e0))), none]) (st' := []) (w' := mz_w A81 Q U T) rfl ?_
            refine ez_ifF (zt_nle (a := 16) (b := e0 - b) (by omega) (by omega)) ?_
            refine ez_go ez_h94 3 (pc' := 33) (L' := [some (.ref 0), some (.int (nI (b))), some (.int (nI (e0))), none]) (st' := [.int ((nI (b)) + (nI (16)))]) (w' := mz_w A81 Q U T) rfl ?_
            refine ez_top (y := nI (b + 16)) (nI_add _ _) ?_
            refine ez_go ez_h94 2 (pc' := 37) (L' := [some (.ref 0), some (.int (nI (b))), some (.int (nI (e0))), none]) (st' := [.int (A81.1), .int (nI (b + 16))]) (w' := mz_w A81 Q U T) rfl ?_
            refine ez_top (y := nI (ze_n E)) (hA81.1) ?_
            refine ez_go ez_h94 1 (pc' := bif decide ((nI (ze_n E)) ≤ (nI (b + 16))) then 47 else 40) (L' := [some (.ref 0), some (.int (nI (b))), some (.int (nI (e0))), none]) (st' := []) (w' := mz_w A81 Q U T) rfl ?_
            refine ez_ifT (zt_le (a := ze_n E) (b := b + 16) (by omega) (by omega)) ?_
            refine ez_go ez_h94 2 (pc' := 51) (L' := [some (.ref 0), some (.int (nI (b))), some (.int (nI (e0))), none]) (st' := [.int (A81.1)]) (w' := mz_w A81 Q U T) rfl ?_
            refine ez_top (y := nI (ze_n E)) (hA81.1) ?_
            rw [ee2]
            refine ez_go ez_h94 5 (pc' := 56) (L' := [some (.ref 0), some (.int (nI (b))), some (.int (nI (e0))), some (.int (nI (e1)))]) (st' := [.int (nI (e1)), .int (nI (e0)), .int (nI (b)), .ref 0]) (w' := mz_w A81 Q U T) rfl ?_
            refine ez_cl ez_h94 rfl rfl ?_
            refine b5 (by omega) _ Q U T _ hA81 (fun A82 hA82 => ?_)
            refine ez_go ez_h94 2 (pc' := 61) (L' := [some (.ref 0), some (.int (nI (b))), some (.int (nI (e1))), some (.int (nI (e1)))]) (st' := []) (w' := mz_w A82 Q U T) rfl ?_
            refine ez_E.le (ez_lc (ez_lc (ez_lc (ez_ln ez_l0)))) (mu_push (e := e1) hU (by omega) hpb (by omega) _ Q T (fun U83 hU83 => ?_))
            refine ez_go ez_h94 1 (pc' := 102) (L' := [some (.ref 0), some (.int (nI (b))), some (.int (nI (e1))), none]) (st' := [.ref 0]) (w' := mz_w A82 Q U83 T) rfl ?_
            refine ez_cl ez_h94 rfl rfl ?_
            refine d6 _ Q U83 T _ hA82 hU83 (fun A24 U24 hA24 hU24 => ?_)
            refine ez_go ez_h94 3 (pc' := 7) (L' := [some (.ref 0), some (.int (nI (e1))), some (.int (nI (e1))), none]) (st' := []) (w' := mz_w A24 Q U24 T) rfl ?_
            exact ez_E.le (ez_lc (ez_lc (ez_ln (ez_lc ez_l0)))) (c5 _ Q U24 T post hA24 hU24 kk)
        · obtain ⟨x1, x2⟩ := b6 (by omega)
          have ee : e0 = e1 := by omega
          refine ez_go ez_h94 3 (pc' := 12) (L' := [some (.ref 0), some (.int (nI (b))), none, none]) (st' := [.int (A.1), .int (nI (b))]) (w' := mz_w A Q U T) rfl ?_
          refine ez_top (y := nI (ze_n E)) (hA.1) ?_
          refine ez_go ez_h94 1 (pc' := bif decide ((nI (ze_n E)) ≤ (nI (b))) then 110 else 15) (L' := [some (.ref 0), some (.int (nI (b))), none, none]) (st' := []) (w' := mz_w A Q U T) rfl ?_
          refine ez_ifF (zt_nle (a := ze_n E) (b := b) (by omega) (by omega)) ?_
          refine ez_go ez_h94 2 (pc' := 17) (L' := [some (.ref 0), some (.int (nI (b))), none, none]) (st' := [.int (nI (b)), .ref 0]) (w' := mz_w A Q U T) rfl ?_
          refine ez_cl ez_h94 rfl rfl ?_
          refine a7 _ Q U T _ hA (fun A81 hA81 => ?_)
          refine ez_go ez_h94 4 (pc' := 24) (L' := [some (.ref 0), some (.int (nI (b))), some (.int (nI (e0))), none]) (st' := [.int ((nI (e0)) - (nI (b)))]) (w' := mz_w A81 Q U T) rfl ?_
          refine ez_top (y := nI (e0 - b)) (pk_sub (by omega)) ?_
          refine ez_go ez_h94 2 (pc' := bif decide ((nI (16)) ≤ (nI (e0 - b))) then 61 else 29) (L' := [some (.ref 0), some (.int (nI (b))), some (.int (nI (e0))), none]) (st' := []) (w' := mz_w A81 Q U T) rfl ?_
          refine ez_ifT (zt_le (a := 16) (b := e0 - b) (by omega) (by omega)) ?_
          rw [← x1, ← x2] at hA81
          rw [ee]
          refine ez_E.le (ez_lc (ez_lc (ez_lc (ez_lc ez_l0)))) (mu_push (e := e1) hU (by omega) hpb (by omega) _ Q T (fun U83 hU83 => ?_))
          refine ez_go ez_h94 1 (pc' := 102) (L' := [some (.ref 0), some (.int (nI (b))), some (.int (nI (e1))), none]) (st' := [.ref 0]) (w' := mz_w A81 Q U83 T) rfl ?_
          refine ez_cl ez_h94 rfl rfl ?_
          refine d6 _ Q U83 T _ hA81 hU83 (fun A25 U25 hA25 hU25 => ?_)
          refine ez_go ez_h94 3 (pc' := 7) (L' := [some (.ref 0), some (.int (nI (e1))), some (.int (nI (e1))), none]) (st' := []) (w' := mz_w A25 Q U25 T) rfl ?_
          exact ez_E.le (ez_lc (ez_lc (ez_ln (ez_lc ez_l0)))) (c5 _ Q U25 T post hA25 hU25 kk)
/-- RUNS: what comes of row, comparator and counts -/
theorem zq_runs {E : ze_T} (hE : ze_ok E) {row : Nat → Nat} {g : zs_G} (hw : zr_ok E row g) (P M : Int64) :
    ∃ (row' : Nat → Nat) (g' : zs_G) (P' M' : Int64), zr_ok E row' g' ∧ zg_le E g g' ∧ zp_in row row' 0 (ze_n E) ∧
      (∀ (r : cz_Row) (q : cz_Qk) (u : cz_Rn) (bb : cz_Bn) (post : Option Value → ez_W → Prop), cr_R E row g r → u.2.1 = P → u.2.2.1 = M → (∀ (r' : cz_Row) (u' : cz_Rn), cr_R E row' g' r' → u'.2.1 = P' → u'.2.2.1 = M' → post none (cz_w r' q u' bb)) → ez_m 44 [.ref 5] (cz_w r q u bb) post) ∧
      (∀ (A : mz_A) (Q : mz_Q) (U : mz_U) (T : mz_T) (post : Option Value → ez_W → Prop), mr_R E row g A → U.1 = P → U.2.1 = M → (∀ (A' : mz_A) (U' : mz_U), mr_R E row' g' A' → U'.1 = P' → U'.2.1 = M' → post none (mz_w A' Q U' T)) → ez_m 94 [.ref 0] (mz_w A Q U T) post) := by
  have hn := hE.1
  have hp : zp_ok (ze_n E) ((0, fun _ => 0, fun _ => 0, P, M) : zp_T) 0 := ⟨rfl, fun k hk => absurd hk (Nat.not_lt_zero _), fun k hk => absurd hk (Nat.not_lt_zero _), rfl, Nat.zero_le _⟩
  obtain ⟨row', g', p', a1, a2, a3, a4, a5⟩ := zq_loop hE (ze_n E) 0 0 _ row g (by omega) (Nat.le_refl _) (Nat.zero_le _) hp hw
  refine ⟨row', g', p'.2.2.2.1, p'.2.2.2.2, a1, a2, a3, fun r q u bb post hr e1 e2 kk => ?_, fun A Q U T post hA e1 e2 kk => ?_⟩
  · obtain ⟨uh, uP, uM, bgs, szs, spr⟩ := u
    replace e1 : uP = P := e1
    replace e2 : uM = M := e2
    subst e1 e2
    refine ez_m.of (L := [some (.ref 5), none, none, none, none]) rfl rfl rfl ?_
    refine ez_go ez_h44 5 (pc' := 9) (L' := [some (.ref 5), none, none, none, none]) (st' := [.ref 1]) (w' := cz_w r q (nI (0), uP, uM, bgs, szs, spr) bb) rfl ?_
    refine ez_cl ez_h44 rfl rfl ?_
    refine cr_size hr q (nI (0), uP, uM, bgs, szs, spr) bb ?_
    refine ez_go ez_h44 5 (pc' := 17) (L' := [some (.ref 5), some (.int (nI (ze_n E))), some (.int (nI (0))), some (.int (nI (0))), none]) (st' := []) (w' := cz_w r q (nI (0), uP, uM, bgs, szs, spr) bb) rfl ?_
    exact ez_E.le (ez_lc (ez_lc (ez_lc (ez_lc (ez_lc ez_l0))))) (a4 _ q (nI (0), uP, uM, bgs, szs, spr) bb post hr ⟨rfl, rfl, rfl, fun k hk => absurd hk (Nat.not_lt_zero _)⟩ (fun r9 u9 hr9 hu9 => kk r9 u9 hr9 hu9.2.1 hu9.2.2.1))
  · obtain ⟨uP, uM, uh, bgs, ens, oth⟩ := U
    replace e1 : uP = P := e1
    replace e2 : uM = M := e2
    subst e1 e2
    refine ez_m.of (L := [some (.ref 0), none, none, none]) rfl rfl rfl ?_
    refine ez_go ez_h94 5 (pc' := 7) (L' := [some (.ref 0), some (.int (nI (0))), none, none]) (st' := []) (w' := mz_w A Q (uP, uM, nI (0), bgs, ens, oth) T) rfl ?_
    exact ez_E.le (ez_lc (ez_lc (ez_lc (ez_lc ez_l0)))) (a5 _ Q (uP, uM, nI (0), bgs, ens, oth) T post hA ⟨rfl, rfl, rfl, fun k hk => absurd hk (Nat.not_lt_zero _)⟩ (fun A9 U9 hA9 hU9 => kk A9 U9 hA9 hU9.1 hU9.2.1))
end
section
/-! ===== known to be less ===== -/
def zs_L (md : Bool) (ka : Nat → Int64) (g : zs_G) (x y : Nat) : Prop := bif md then (∃ a, g.2.1 x = some a ∧ ∀ b, g.2.1 y = some b → a < b) else ka x < ka y
theorem zs_b_L {md : Bool} {ka : Nat → Int64} {g : zs_G} {x y : Nat} (h : zs_b md ka x y g = true) : zs_L md ka (zs_g md x y g) x y := by
  cases md
  · show ka x < ka y
    exact of_decide_eq_true h
  · replace h : zs_lt (zs_st x y g) x y = true := h
    unfold zs_lt at h
    show ∃ a, zs_st x y g x = some a ∧ ∀ b, zs_st x y g y = some b → a < b
    split at h
    · rename_i a e1 e2
      exact ⟨a, e1, fun b hb => by rw [e2] at hb; cases hb⟩
    · rename_i a b e1 e2
      exact ⟨a, e1, fun c hc => by rw [e2] at hc; cases hc; exact of_decide_eq_true h⟩
    · cases h
theorem zs_L.mono {md : Bool} {ka : Nat → Int64} {n : Nat} {g : zs_G} {u v : Nat} (hI : md = true → zs_I n g) (hu : u < n) (h : zs_L md ka g u v) (x y : Nat) : zs_L md ka (zs_g md x y g) u v := by
  cases md
  · exact h
  · have hI := hI rfl
    obtain ⟨a, h1, h2⟩ := h
    refine ⟨a, zs_st_some h1, fun b hb => ?_⟩
    replace hb : zs_st x y g v = some b := hb
    cases hv : g.2.1 v with
    | some b' =>
      rw [zs_st_some hv] at hb
      cases hb
      exact h2 _ hv
    | none =>
      rw [(zs_st_new hI hb hv).1]
      exact hI.2.1 u a hu h1
theorem zs_L.b {md : Bool} {ka : Nat → Int64} {g : zs_G} {x y : Nat} (h : zs_L md ka g x y) : zs_b md ka x y g = true := by
  cases md
  · replace h : ka x < ka y := h
    show decide (ka x < ka y) = true
    exact decide_eq_true h
  · obtain ⟨a, h1, h2⟩ := h
    show zs_lt (zs_st x y g) x y = true
    have e : zs_st x y g = g.2.1 := by
      unfold zs_st
      rw [if_neg (fun z => by rw [h1] at z; cases z.1)]
    rw [e]
    unfold zs_lt
    rw [h1]
    cases hy : g.2.1 y with
    | none => rfl
    | some b => exact decide_eq_true (h2 b hy)
theorem zs_L.K {md : Bool} {ka : Nat → Int64} {g : zs_G} {x y : Nat} (h : zs_L md ka g x y) : zs_K md ka g x y := by
  cases md
  · exact Int64.le_of_lt h
  · exact Or.inr h
/-- what was known stays known, also 'less' -/
def zx_le (E : ze_T) (g g' : zs_G) : Prop := zg_le E g g' ∧ ∀ u v, u < ze_n E → zs_L (ze_md E) (ze_ka E) g u v → zs_L (ze_md E) (ze_ka E) g' u v
theorem zx_le.rf {E : ze_T} (g : zs_G) : zx_le E g g := ⟨zg_le.rf g, fun _ _ _ h => h⟩
theorem zx_le.tr {E : ze_T} {g1 g2 g3 : zs_G} (h : zx_le E g1 g2) (k : zx_le E g2 g3) : zx_le E g1 g3 := ⟨h.1.tr k.1, fun u v hu q => k.2 u v hu (h.2 u v hu q)⟩
theorem zx_le.go {E : ze_T} {row : Nat → Nat} {g : zs_G} (h : zr_ok E row g) (x y : Nat) : zx_le E g (zs_g (ze_md E) x y g) := ⟨zg_le.go h x y, fun _ _ hu q => q.mono h.2 hu x y⟩
/-- TWO -/
theorem zk_two {E : ze_T} (hE : ze_ok E) {i j : Nat} (hi : i < ze_n E) (hj : j < ze_n E) {row : Nat → Nat} {g : zs_G} (hw : zr_ok E row g) :
    ∃ (row' : Nat → Nat) (g' : zs_G), zr_ok E row' g' ∧ zg_le E g g' ∧ (row' = row ∨ row' = zs_sw row i j) ∧ (i ≠ j → zs_K (ze_md E) (ze_ka E) g' (row' i) (row' j)) ∧ cr_M E 17 [.ref 4, .int (nI i), .int (nI j)] row g none row' g' ∧ mr_M E 79 [.ref 0, .int (nI i), .int (nI j)] row g none row' g' := by
  have hn := hE.1
  have hw1 := hw.go (hw.1 j hj) (hw.1 i hi)
  have hg1 : zg_le E g _ := zg_le.go hw (row j) (row i)
  cases hb : zs_b (ze_md E) (ze_ka E) (row j) (row i) g with
  | false =>
    refine ⟨row, _, hw1, hg1, Or.inl rfl, fun _ => zs_b_f hw.2 (hw.1 j hj) (hw.1 i hi) hb, ?_, ?_⟩
    · refine cr_H.m (L := [some (.ref 4), some (.int (nI (i))), some (.int (nI (j)))]) (fun r q u bb post hr kk => ?_) rfl rfl rfl
      refine ez_go ez_h17 5 (pc' := 9) (L' := [some (.ref 4), some (.int (nI (i))), some (.int (nI (j)))]) (st' := [.int (nI (j)), .ref 1, .ref 1]) (w' := cz_w r q u bb) rfl ?_
      refine ez_cl ez_h17 rfl rfl ?_
      refine cr_at hE hr (k := j) (by omega) q u bb ?_
      refine ez_go ez_h17 3 (pc' := 17) (L' := [some (.ref 4), some (.int (nI (i))), some (.int (nI (j)))]) (st' := [.int (nI (i)), .ref 1, .int (nI (ze_pi E (row j))), .ref 1]) (w' := cz_w r q u bb) rfl ?_
      refine ez_cl ez_h17 rfl rfl ?_
      refine cr_at hE hr (k := i) (by omega) q u bb ?_
      refine ez_cl ez_h17 rfl rfl ?_
      refine cr_less hE hr hw.2 (x := row j) (y := row i) (hw.1 j (by omega)) (hw.1 i (by omega)) q u bb (fun r4 hr4 => ?_)
      refine ez_go ez_h17 1 (pc' := bif decide ((zs_z (zs_b (ze_md E) (ze_ka E) (row j) (row i) g)) = 0) then 35 else 26) (L' := [some (.ref 4), some (.int (nI (i))), some (.int (nI (j)))]) (st' := []) (w' := cz_w r4 q u bb) rfl ?_
      refine ez_ifT (zz_f hb) ?_
      exact ez_vret rfl ez_h17 rfl rfl (kk _ hr4)
    · refine mr_H.m (L := [some (.ref 0), some (.int (nI (i))), some (.int (nI (j)))]) (fun A Q U T post hA kk => ?_) rfl rfl rfl
      refine ez_go ez_h79 3 (pc' := 3) (L' := [some (.ref 0), some (.int (nI (i))), some (.int (nI (j)))]) (st' := [.int (nI (i)), .int (nI (j)), .ref 0]) (w' := mz_w A Q U T) rfl ?_
      refine ez_cl ez_h79 rfl rfl ?_
      refine mr_lessAt hE hA hw (i := j) (j := i) (by omega) (by omega) Q U T (fun A5 hA5 => ?_)
      refine ez_go ez_h79 1 (pc' := bif decide ((zs_z (zs_b (ze_md E) (ze_ka E) (row j) (row i) g)) = 0) then 15 else 9) (L' := [some (.ref 0), some (.int (nI (i))), some (.int (nI (j)))]) (st' := []) (w' := mz_w A5 Q U T) rfl ?_
      refine ez_ifT (zz_f hb) ?_
      exact ez_vret rfl ez_h79 rfl rfl (kk _ hA5)
  | true =>
    refine ⟨zs_sw row i j, _, hw1.sw hi hj, hg1, Or.inr rfl, fun hne => ?_, ?_, ?_⟩
    · have e1 : zs_sw row i j i = row j := by unfold zs_sw; rw [va_up_ne _ _ hne, va_up_self]
      have e2 : zs_sw row i j j = row i := by unfold zs_sw; rw [va_up_self]
      rw [e1, e2]
      exact (zs_b_t hw.2 (hw.1 j hj) (hw.1 i hi) hb).1
    · refine cr_H.m (L := [some (.ref 4), some (.int (nI (i))), some (.int (nI (j)))]) (fun r q u bb post hr kk => ?_) rfl rfl rfl
      refine ez_go ez_h17 5 (pc' := 9) (L' := [some (.ref 4), some (.int (nI (i))), some (.int (nI (j)))]) (st' := [.int (nI (j)), .ref 1, .ref 1]) (w' := cz_w r q u bb) rfl ?_
      refine ez_cl ez_h17 rfl rfl ?_
      refine cr_at hE hr (k := j) (by omega) q u bb ?_
      refine ez_go ez_h17 3 (pc' := 17) (L' := [some (.ref 4), some (.int (nI (i))), some (.int (nI (j)))]) (st' := [.int (nI (i)), .ref 1, .int (nI (ze_pi E (row j))), .ref 1]) (w' := cz_w r q u bb) rfl ?_
      refine ez_cl ez_h17 rfl rfl ?_
      refine cr_at hE hr (k := i) (by omega) q u bb ?_
      refine ez_cl ez_h17 rfl rfl ?_
      refine cr_less hE hr hw.2 (x := row j) (y := row i) (hw.1 j (by omega)) (hw.1 i (by omega)) q u bb (fun r6 hr6 => ?_)
      refine ez_go ez_h17 1 (pc' := bif decide ((zs_z (zs_b (ze_md E) (ze_ka E) (row j) (row i) g)) = 0) then 35 else 26) (L' := [some (.ref 4), some (.int (nI (i))), some (.int (nI (j)))]) (st' := []) (w' := cz_w r6 q u bb) rfl ?_
      refine ez_ifF (zz_t hb) ?_
      refine ez_go ez_h17 4 (pc' := 32) (L' := [some (.ref 4), some (.int (nI (i))), some (.int (nI (j)))]) (st' := [.int (nI (j)), .int (nI (i)), .ref 1]) (w' := cz_w r6 q u bb) rfl ?_
      refine ez_cl ez_h17 rfl rfl ?_
      refine cr_swap hE hr6 (i := i) (j := j) (by omega) (by omega) q u bb (fun r7 hr7 => ?_)
      exact ez_vret rfl ez_h17 rfl rfl (kk _ hr7)
    · refine mr_H.m (L := [some (.ref 0), some (.int (nI (i))), some (.int (nI (j)))]) (fun A Q U T post hA kk => ?_) rfl rfl rfl
      refine ez_go ez_h79 3 (pc' := 3) (L' := [some (.ref 0), some (.int (nI (i))), some (.int (nI (j)))]) (st' := [.int (nI (i)), .int (nI (j)), .ref 0]) (w' := mz_w A Q U T) rfl ?_
      refine ez_cl ez_h79 rfl rfl ?_
      refine mr_lessAt hE hA hw (i := j) (j := i) (by omega) (by omega) Q U T (fun A8 hA8 => ?_)
      refine ez_go ez_h79 1 (pc' := bif decide ((zs_z (zs_b (ze_md E) (ze_ka E) (row j) (row i) g)) = 0) then 15 else 9) (L' := [some (.ref 0), some (.int (nI (i))), some (.int (nI (j)))]) (st' := []) (w' := mz_w A8 Q U T) rfl ?_
      refine ez_ifF (zz_t hb) ?_
      refine ez_go ez_h79 3 (pc' := 12) (L' := [some (.ref 0), some (.int (nI (i))), some (.int (nI (j)))]) (st' := [.int (nI (j)), .int (nI (i)), .ref 0]) (w' := mz_w A8 Q U T) rfl ?_
      refine ez_cl ez_h79 rfl rfl ?_
      refine mr_swap hE hA8 (i := i) (j := j) (by omega) (by omega) Q U T (fun A9 hA9 => ?_)
      exact ez_vret rfl ez_h79 rfl rfl (kk _ hA9)
theorem zk_swp {row : Nat → Nat} {i j : Nat} (hne : i ≠ j) : zs_sw row i j i = row j ∧ zs_sw row i j j = row i := by
  unfold zs_sw
  exact ⟨by rw [va_up_ne _ _ hne, va_up_self], by rw [va_up_self]⟩
theorem zk_swo {row : Nat → Nat} {i j k : Nat} (h1 : k ≠ i) (h2 : k ≠ j) : zs_sw row i j k = row k := by
  unfold zs_sw
  rw [va_up_ne _ _ h2, va_up_ne _ _ h1]
/-- THREE -/
theorem zk_three {E : ze_T} (hE : ze_ok E) {i j k : Nat} (hi : i < ze_n E) (hj : j < ze_n E) (hk : k < ze_n E) (h1 : i ≠ j) (h2 : j ≠ k) (h3 : i ≠ k) {row : Nat → Nat} {g : zs_G} (hw : zr_ok E row g) :
    ∃ (row' : Nat → Nat) (g' : zs_G), zr_ok E row' g' ∧ zg_le E g g' ∧ (∀ b e, b ≤ i → b ≤ j → b ≤ k → i < e → j < e → k < e → zp_in row row' b e) ∧ zs_K (ze_md E) (ze_ka E) g' (row' i) (row' j) ∧ zs_K (ze_md E) (ze_ka E) g' (row' j) (row' k) ∧ cr_M E 16 [.ref 4, .int (nI i), .int (nI j), .int (nI k)] row g none row' g' ∧ mr_M E 80 [.ref 0, .int (nI i), .int (nI j), .int (nI k)] row g none row' g' := by
  have hn := hE.1
  obtain ⟨r1, g1, w1, l1, s1, k1, c1, m1⟩ := zk_two hE (i := i) (j := j) hi hj hw
  obtain ⟨r2, g2, w2, l2, s2, k2, c2, m2⟩ := zk_two hE (i := j) (j := k) hj hk w1
  obtain ⟨r3, g3, w3, l3, s3, k3, c3, m3⟩ := zk_two hE (i := i) (j := j) hi hj w2
  have hp1 : ∀ b e, b ≤ i → b ≤ j → i < e → j < e → zp_in row r1 b e := fun b e a1 a2 a3 a4 => by rcases s1 with rfl | rfl <;> first | exact zp_in.rf _ _ _ | exact zp_in.sw row ⟨a1, a3⟩ ⟨a2, a4⟩
  have hp2 : ∀ b e, b ≤ j → b ≤ k → j < e → k < e → zp_in r1 r2 b e := fun b e a1 a2 a3 a4 => by rcases s2 with rfl | rfl <;> first | exact zp_in.rf _ _ _ | exact zp_in.sw r1 ⟨a1, a3⟩ ⟨a2, a4⟩
  have hp3 : ∀ b e, b ≤ i → b ≤ j → i < e → j < e → zp_in r2 r3 b e := fun b e a1 a2 a3 a4 => by rcases s3 with rfl | rfl <;> first | exact zp_in.rf _ _ _ | exact zp_in.sw r2 ⟨a1, a3⟩ ⟨a2, a4⟩
  have q1 := k1 h1
  have q2 := k2 h2
  have q3 := k3 h1
  refine ⟨r3, g3, w3, (l1.tr l2).tr l3, fun b e a1 a2 a3 a4 a5 a6 => ((hp1 b e a1 a2 a4 a5).tr (hp2 b e a2 a3 a5 a6)).tr (hp3 b e a1 a2 a4 a5), q3, ?_, ?_, ?_⟩
  · have e1 : r2 i = r1 i := by rcases s2 with rfl | rfl <;> first | rfl | exact zk_swo h1 h3
    have q1' : zs_K (ze_md E) (ze_ka E) g2 (r1 i) (r1 j) := l2 _ _ (w1.1 i hi) q1
    have q4 : zs_K (ze_md E) (ze_ka E) g2 (r2 i) (r2 k) := by
      rw [e1]
      rcases s2 with rfl | rfl
      · exact q1'.tr q2
      · rw [(zk_swp h2).2]; exact q1'
    have q5 : zs_K (ze_md E) (ze_ka E) g3 (r2 j) (r2 k) := l3 _ _ (w2.1 j hj) q2
    have q6 : zs_K (ze_md E) (ze_ka E) g3 (r2 i) (r2 k) := l3 _ _ (w2.1 i hi) q4
    rcases s3 with rfl | rfl
    · exact q5
    · rw [(zk_swp h1).2, zk_swo (fun z => h3 z.symm) (fun z => h2 z.symm)]; exact q6
  · refine cr_H.m (L := [some (.ref 4), some (.int (nI (i))), some (.int (nI (j))), some (.int (nI (k)))]) (fun r q u bb post hr kk => ?_) rfl rfl rfl
    refine ez_go ez_h16 3 (pc' := 3) (L' := [some (.ref 4), some (.int (nI (i))), some (.int (nI (j))), some (.int (nI (k)))]) (st' := [.int (nI (j)), .int (nI (i)), .ref 4]) (w' := cz_w r q u bb) rfl ?_
    refine ez_cl ez_h16 rfl rfl ?_
    refine c1 _ q u bb _ hr (fun r71 hr71 => ?_)
    refine ez_go ez_h16 3 (pc' := 9) (L' := [some (.ref 4), some (.int (nI (i))), some (.int (nI (j))), some (.int (nI (k)))]) (st' := [.int (nI (k)), .int (nI (j)), .ref 4]) (w' := cz_w r71 q u bb) rfl ?_
    refine ez_cl ez_h16 rfl rfl ?_
    refine c2 _ q u bb _ hr71 (fun r72 hr72 => ?_)
    refine ez_go ez_h16 3 (pc' := 15) (L' := [some (.ref 4), some (.int (nI (i))), some (.int (nI (j))), some (.int (nI (k)))]) (st' := [.int (nI (j)), .int (nI (i)), .ref 4]) (w' := cz_w r72 q u bb) rfl ?_
    refine ez_cl ez_h16 rfl rfl ?_
    refine c3 _ q u bb _ hr72 (fun r73 hr73 => ?_)
    exact ez_vret rfl ez_h16 rfl rfl (kk _ hr73)
  · refine mr_H.m (L := [some (.ref 0), some (.int (nI (i))), some (.int (nI (j))), some (.int (nI (k)))]) (fun A Q U T post hA kk => ?_) rfl rfl rfl
    refine ez_go ez_h80 3 (pc' := 3) (L' := [some (.ref 0), some (.int (nI (i))), some (.int (nI (j))), some (.int (nI (k)))]) (st' := [.int (nI (j)), .int (nI (i)), .ref 0]) (w' := mz_w A Q U T) rfl ?_
    refine ez_cl ez_h80 rfl rfl ?_
    refine m1 _ Q U T _ hA (fun A71 hA71 => ?_)
    refine ez_go ez_h80 3 (pc' := 9) (L' := [some (.ref 0), some (.int (nI (i))), some (.int (nI (j))), some (.int (nI (k)))]) (st' := [.int (nI (k)), .int (nI (j)), .ref 0]) (w' := mz_w A71 Q U T) rfl ?_
    refine ez_cl ez_h80 rfl rfl ?_
    refine m2 _ Q U T _ hA71 (fun A72 hA72 => ?_)
    refine ez_go ez_h80 3 (pc' := 15) (L' := [some (.ref 0), some (.int (nI (i))), some (.int (nI (j))), some (.int (nI (k)))]) (st' := [.int (nI (j)), .int (nI (i)), .ref 0]) (w' := mz_w A72 Q U T) rfl ?_
    refine ez_cl ez_h80 rfl rfl ?_
    refine m3 _ Q U T _ hA72 (fun A73 hA73 => ?_)
    exact ez_vret rfl ez_h80 rfl rfl (kk _ hA73)
theorem zk_dG {E : ze_T} (hE : ze_ok E) {x lo : Nat} (hx : x < ze_n E) {row : Nat → Nat} : ∀ (s l : Nat) (g : zs_G), l ≤ lo + s → lo ≤ l → l < ze_n E → zr_ok E row g → zs_K (ze_md E) (ze_ka E) g (row lo) x →
    ∃ (l' : Nat) (g' : zs_G), lo ≤ l' ∧ l' ≤ l ∧ zr_ok E row g' ∧ zx_le E g g' ∧ zs_K (ze_md E) (ze_ka E) g' (row l') x ∧ (∀ k, l' < k → k ≤ l → zs_L (ze_md E) (ze_ka E) g' x (row k)) ∧
      (∀ st : Nat, cr_H E 22 4 [some (.ref 4), some (.int (nI (st))), some (.int (nI (ze_pi E (x)))), some (.int (nI (l)))] row g (some (.int (nI l'))) row g') ∧ (∀ b e f : Nat, mr_G E 81 15 [some (.ref 0), some (.int (nI (b))), some (.int (nI (e))), some (.int (nI (x))), some (.int (nI (f))), some (.int (nI (l))), none] row g 36 [some (.ref 0), some (.int (nI (b))), some (.int (nI (e))), some (.int (nI (x))), some (.int (nI (f))), some (.int (nI (l'))), none] row g') ∧ (∀ b e f : Nat, mr_G E 81 138 [some (.ref 0), some (.int (nI (b))), some (.int (nI (e))), some (.int (nI (x))), some (.int (nI (f))), some (.int (nI (l))), none] row g 159 [some (.ref 0), some (.int (nI (b))), some (.int (nI (e))), some (.int (nI (x))), some (.int (nI (f))), some (.int (nI (l'))), none] row g') := by
  have hn := hE.1
  intro s
  induction s using Nat.strongRecOn with
  | _ s ih =>
    intro l g h1 h2 h3 hw hb0
    have hw1 := hw.go hx (hw.1 l (by omega))
    have hg1 : zx_le E g _ := zx_le.go hw (x) (row l)
    cases hb : zs_b (ze_md E) (ze_ka E) x (row l) g with
    | false =>
      refine ⟨l, _, h2, Nat.le_refl _, hw1, hg1, zs_b_f hw.2 hx (hw.1 l (by omega)) hb, fun k k1 k2 => by omega, fun st => ?_, fun b e f => ?_, fun b e f => ?_⟩
      · intro r q u bb post hr kk
        refine ez_go ez_h22 2 (pc' := bif decide ((nI (l)) < (nI 0)) then 33 else 8) (L' := [some (.ref 4), some (.int (nI (st))), some (.int (nI (ze_pi E (x)))), some (.int (nI (l)))]) (st' := []) (w' := cz_w r q u bb) rfl ?_
        refine ez_ifF (zt_nlt (a := l) (b := 0) (by omega) (by omega)) ?_
        refine ez_go ez_h22 6 (pc' := 18) (L' := [some (.ref 4), some (.int (nI (st))), some (.int (nI (ze_pi E (x)))), some (.int (nI (l)))]) (st' := [.int (nI (l)), .ref 1, .int (nI (ze_pi E (x))), .ref 1]) (w' := cz_w r q u bb) rfl ?_
        refine ez_cl ez_h22 rfl rfl ?_
        refine cr_at hE hr (k := l) (by omega) q u bb ?_
        refine ez_cl ez_h22 rfl rfl ?_
        refine cr_less hE hr hw.2 (x := x) (y := row l) hx (hw.1 l (by omega)) q u bb (fun r10 hr10 => ?_)
        refine ez_go ez_h22 1 (pc' := bif decide ((zs_z (zs_b (ze_md E) (ze_ka E) x (row l) g)) = 0) then 33 else 27) (L' := [some (.ref 4), some (.int (nI (st))), some (.int (nI (ze_pi E (x)))), some (.int (nI (l)))]) (st' := []) (w' := cz_w r10 q u bb) rfl ?_
        refine ez_ifT (zz_f hb) ?_
        refine ez_go ez_h22 1 (pc' := 34) (L' := [some (.ref 4), some (.int (nI (st))), some (.int (nI (ze_pi E (x)))), some (.int (nI (l)))]) (st' := [.int (nI (l))]) (w' := cz_w r10 q u bb) rfl ?_
        exact ez_iret rfl ez_h22 rfl rfl (kk _ hr10)
      · intro A Q U T post hA kk
        refine ez_go ez_h81 5 (pc' := 23) (L' := [some (.ref 0), some (.int (nI (b))), some (.int (nI (e))), some (.int (nI (x))), some (.int (nI (f))), some (.int (nI (l))), none]) (st' := [.int (nI (l)), .ref 4, .int (nI (x)), .ref 0]) (w' := mz_w A Q U T) rfl ?_
        refine mr_ld ez_h81 rfl hE hA (k := l) (by omega) ?_
        refine ez_cl ez_h81 rfl rfl ?_
        refine mr_less hE hA hw.2 (x := x) (y := row l) hx (hw.1 l (by omega)) Q U T (fun A11 hA11 => ?_)
        refine ez_go ez_h81 1 (pc' := bif decide ((zs_z (zs_b (ze_md E) (ze_ka E) x (row l) g)) = 0) then 36 else 30) (L' := [some (.ref 0), some (.int (nI (b))), some (.int (nI (e))), some (.int (nI (x))), some (.int (nI (f))), some (.int (nI (l))), none]) (st' := []) (w' := mz_w A11 Q U T) rfl ?_
        refine ez_ifT (zz_f hb) ?_
        exact ez_E.le (ez_lc (ez_lc (ez_lc (ez_lc (ez_lc (ez_lc (ez_lc ez_l0))))))) (kk _ hA11)
      · intro A Q U T post hA kk
        refine ez_go ez_h81 5 (pc' := 146) (L' := [some (.ref 0), some (.int (nI (b))), some (.int (nI (e))), some (.int (nI (x))), some (.int (nI (f))), some (.int (nI (l))), none]) (st' := [.int (nI (l)), .ref 4, .int (nI (x)), .ref 0]) (w' := mz_w A Q U T) rfl ?_
        refine mr_ld ez_h81 rfl hE hA (k := l) (by omega) ?_
        refine ez_cl ez_h81 rfl rfl ?_
        refine mr_less hE hA hw.2 (x := x) (y := row l) hx (hw.1 l (by omega)) Q U T (fun A12 hA12 => ?_)
        refine ez_go ez_h81 1 (pc' := bif decide ((zs_z (zs_b (ze_md E) (ze_ka E) x (row l) g)) = 0) then 159 else 153) (L' := [some (.ref 0), some (.int (nI (b))), some (.int (nI (e))), some (.int (nI (x))), some (.int (nI (f))), some (.int (nI (l))), none]) (st' := []) (w' := mz_w A12 Q U T) rfl ?_
        refine ez_ifT (zz_f hb) ?_
        exact ez_E.le (ez_lc (ez_lc (ez_lc (ez_lc (ez_lc (ez_lc (ez_lc ez_l0))))))) (kk _ hA12)
    | true =>
      have hne : l ≠ lo := fun z => by
        rw [z] at hb
        rw [zs_b_K hw.2 hx (hw.1 lo (by omega)) hb0] at hb
        cases hb
      obtain ⟨l', g', a1, a2, a3, a4, a5, a6, a7, a8, a9⟩ := ih (s - 1) (by omega) (l - 1) _ (by omega) (by omega) (by omega) hw1 (hg1.1 _ _ (hw.1 lo (by omega)) hb0)
      refine ⟨l', g', a1, by omega, a3, hg1.tr a4, a5, fun k k1 k2 => ?_, fun st => ?_, fun b e f => ?_, fun b e f => ?_⟩
      · by_cases c : k = l
        · rw [c]; exact a4.2 _ _ hx (zs_b_L hb)
        · exact a6 k (by omega) (by omega)
      · intro r q u bb post hr kk
        refine ez_go ez_h22 2 (pc' := bif decide ((nI (l)) < (nI 0)) then 33 else 8) (L' := [some (.ref 4), some (.int (nI (st))), some (.int (nI (ze_pi E (x)))), some (.int (nI (l)))]) (st' := []) (w' := cz_w r q u bb) rfl ?_
        refine ez_ifF (zt_nlt (a := l) (b := 0) (by omega) (by omega)) ?_
        refine ez_go ez_h22 6 (pc' := 18) (L' := [some (.ref 4), some (.int (nI (st))), some (.int (nI (ze_pi E (x)))), some (.int (nI (l)))]) (st' := [.int (nI (l)), .ref 1, .int (nI (ze_pi E (x))), .ref 1]) (w' := cz_w r q u bb) rfl ?_
        refine ez_cl ez_h22 rfl rfl ?_
        refine cr_at hE hr (k := l) (by omega) q u bb ?_
        refine ez_cl ez_h22 rfl rfl ?_
        refine cr_less hE hr hw.2 (x := x) (y := row l) hx (hw.1 l (by omega)) q u bb (fun r13 hr13 => ?_)
        refine ez_go ez_h22 1 (pc' := bif decide ((zs_z (zs_b (ze_md E) (ze_ka E) x (row l) g)) = 0) then 33 else 27) (L' := [some (.ref 4), some (.int (nI (st))), some (.int (nI (ze_pi E (x)))), some (.int (nI (l)))]) (st' := []) (w' := cz_w r13 q u bb) rfl ?_
        refine ez_ifF (zz_t hb) ?_
        refine ez_inc ez_h22 rfl rfl (v := nI (l - 1)) (zi_m (by omega)) rfl ?_
        refine ez_go ez_h22 1 (pc' := 4) (L' := [some (.ref 4), some (.int (nI (st))), some (.int (nI (ze_pi E (x)))), some (.int (nI (l - 1)))]) (st' := []) (w' := cz_w r13 q u bb) rfl ?_
        exact a7 st _ q u bb post hr13 kk
      · intro A Q U T post hA kk
        refine ez_go ez_h81 5 (pc' := 23) (L' := [some (.ref 0), some (.int (nI (b))), some (.int (nI (e))), some (.int (nI (x))), some (.int (nI (f))), some (.int (nI (l))), none]) (st' := [.int (nI (l)), .ref 4, .int (nI (x)), .ref 0]) (w' := mz_w A Q U T) rfl ?_
        refine mr_ld ez_h81 rfl hE hA (k := l) (by omega) ?_
        refine ez_cl ez_h81 rfl rfl ?_
        refine mr_less hE hA hw.2 (x := x) (y := row l) hx (hw.1 l (by omega)) Q U T (fun A14 hA14 => ?_)
        refine ez_go ez_h81 1 (pc' := bif decide ((zs_z (zs_b (ze_md E) (ze_ka E) x (row l) g)) = 0) then 36 else 30) (L' := [some (.ref 0), some (.int (nI (b))), some (.int (nI (e))), some (.int (nI (x))), some (.int (nI (f))), some (.int (nI (l))), none]) (st' := []) (w' := mz_w A14 Q U T) rfl ?_
        refine ez_ifF (zz_t hb) ?_
        refine ez_inc ez_h81 rfl rfl (v := nI (l - 1)) (zi_m (by omega)) rfl ?_
        refine ez_go ez_h81 1 (pc' := 15) (L' := [some (.ref 0), some (.int (nI (b))), some (.int (nI (e))), some (.int (nI (x))), some (.int (nI (f))), some (.int (nI (l - 1))), none]) (st' := []) (w' := mz_w A14 Q U T) rfl ?_
        exact ez_E.le (ez_lc (ez_lc (ez_lc (ez_lc (ez_lc (ez_lc (ez_lc ez_l0))))))) (a8 b e f _ Q U T post hA14 kk)
      · intro A Q U T post hA kk
        refine ez_go ez_h81 5 (pc' := 146) (L' := [some (.ref 0), some (.int (nI (b))), some (.int (nI (e))), some (.int (nI (x))), some (.int (nI (f))), some (.int (nI (l))), none]) (st' := [.int (nI (l)), .ref 4, .int (nI (x)), .ref 0]) (w' := mz_w A Q U T) rfl ?_
        refine mr_ld ez_h81 rfl hE hA (k := l) (by omega) ?_
        refine ez_cl ez_h81 rfl rfl ?_
        refine mr_less hE hA hw.2 (x := x) (y := row l) hx (hw.1 l (by omega)) Q U T (fun A15 hA15 => ?_)
        refine ez_go ez_h81 1 (pc' := bif decide ((zs_z (zs_b (ze_md E) (ze_ka E) x (row l) g)) = 0) then 159 else 153) (L' := [some (.ref 0), some (.int (nI (b))), some (.int (nI (e))), some (.int (nI (x))), some (.int (nI (f))), some (.int (nI (l))), none]) (st' := []) (w' := mz_w A15 Q U T) rfl ?_
        refine ez_ifF (zz_t hb) ?_
        refine ez_inc ez_h81 rfl rfl (v := nI (l - 1)) (zi_m (by omega)) rfl ?_
        refine ez_go ez_h81 1 (pc' := 138) (L' := [some (.ref 0), some (.int (nI (b))), some (.int (nI (e))), some (.int (nI (x))), some (.int (nI (f))), some (.int (nI (l - 1))), none]) (st' := []) (w' := mz_w A15 Q U T) rfl ?_
        exact ez_E.le (ez_lc (ez_lc (ez_lc (ez_lc (ez_lc (ez_lc (ez_lc ez_l0))))))) (a9 b e f _ Q U T post hA15 kk)
theorem zk_uG {E : ze_T} (hE : ze_ok E) {x hi : Nat} (hx : x < ze_n E) {row : Nat → Nat} : ∀ (s f : Nat) (g : zs_G), hi ≤ f + s → f ≤ hi → hi < ze_n E → zr_ok E row g → zs_L (ze_md E) (ze_ka E) g x (row hi) →
    ∃ (f' : Nat) (g' : zs_G), f ≤ f' ∧ f' ≤ hi ∧ zr_ok E row g' ∧ zx_le E g g' ∧ zs_L (ze_md E) (ze_ka E) g' x (row f') ∧ (∀ k, f ≤ k → k < f' → zs_K (ze_md E) (ze_ka E) g' (row k) x) ∧
      (∀ st : Nat, cr_H E 21 4 [some (.ref 4), some (.int (nI (st))), some (.int (nI (ze_pi E (x)))), some (.int (nI (f)))] row g (some (.int (nI f'))) row g') ∧ (∀ b e l : Nat, mr_G E 81 95 [some (.ref 0), some (.int (nI (b))), some (.int (nI (e))), some (.int (nI (x))), some (.int (nI (f))), some (.int (nI (l))), none] row g 120 [some (.ref 0), some (.int (nI (b))), some (.int (nI (e))), some (.int (nI (x))), some (.int (nI (f'))), some (.int (nI (l))), none] row g') ∧ (∀ b e l : Nat, mr_G E 81 162 [some (.ref 0), some (.int (nI (b))), some (.int (nI (e))), some (.int (nI (x))), some (.int (nI (f))), some (.int (nI (l))), none] row g 120 [some (.ref 0), some (.int (nI (b))), some (.int (nI (e))), some (.int (nI (x))), some (.int (nI (f'))), some (.int (nI (l))), none] row g') := by
  have hn := hE.1
  intro s
  induction s using Nat.strongRecOn with
  | _ s ih =>
    intro f g h1 h2 h3 hw hb0
    have hw1 := hw.go hx (hw.1 f (by omega))
    have hg1 : zx_le E g _ := zx_le.go hw (x) (row f)
    cases hb : zs_b (ze_md E) (ze_ka E) x (row f) g with
    | false =>
      have hne : f ≠ hi := fun z => by
        rw [z] at hb
        rw [hb0.b] at hb
        cases hb
      obtain ⟨f', g', a1, a2, a3, a4, a5, a6, a7, a8, a9⟩ := ih (s - 1) (by omega) (f + 1) _ (by omega) (by omega) (by omega) hw1 (hg1.2 _ _ hx hb0)
      refine ⟨f', g', by omega, a2, a3, hg1.tr a4, a5, fun k k1 k2 => ?_, fun st => ?_, fun b e l => ?_, fun b e l => ?_⟩
      · by_cases c : k = f
        · rw [c]; exact a4.1 _ _ (hw.1 f (by omega)) (zs_b_f hw.2 hx (hw.1 f (by omega)) hb)
        · exact a6 k (by omega) (by omega)
      · intro r q u bb post hr kk
        refine ez_go ez_h21 3 (pc' := 9) (L' := [some (.ref 4), some (.int (nI (st))), some (.int (nI (ze_pi E (x)))), some (.int (nI (f)))]) (st' := [.ref 1, .int (nI (f))]) (w' := cz_w r q u bb) rfl ?_
        refine ez_cl ez_h21 rfl rfl ?_
        refine cr_size hr q u bb ?_
        refine ez_go ez_h21 1 (pc' := bif decide ((nI (ze_n E)) ≤ (nI (f))) then 40 else 15) (L' := [some (.ref 4), some (.int (nI (st))), some (.int (nI (ze_pi E (x)))), some (.int (nI (f)))]) (st' := []) (w' := cz_w r q u bb) rfl ?_
        refine ez_ifF (zt_nle (a := ze_n E) (b := f) (by omega) (by omega)) ?_
        refine ez_go ez_h21 6 (pc' := 25) (L' := [some (.ref 4), some (.int (nI (st))), some (.int (nI (ze_pi E (x)))), some (.int (nI (f)))]) (st' := [.int (nI (f)), .ref 1, .int (nI (ze_pi E (x))), .ref 1]) (w' := cz_w r q u bb) rfl ?_
        refine ez_cl ez_h21 rfl rfl ?_
        refine cr_at hE hr (k := f) (by omega) q u bb ?_
        refine ez_cl ez_h21 rfl rfl ?_
        refine cr_less hE hr hw.2 (x := x) (y := row f) hx (hw.1 f (by omega)) q u bb (fun r16 hr16 => ?_)
        refine ez_go ez_h21 1 (pc' := bif decide (¬ (zs_z (zs_b (ze_md E) (ze_ka E) x (row f) g)) = 0) then 40 else 34) (L' := [some (.ref 4), some (.int (nI (st))), some (.int (nI (ze_pi E (x)))), some (.int (nI (f)))]) (st' := []) (w' := cz_w r16 q u bb) rfl ?_
        refine ez_ifF (fun z => z (zz_f hb)) ?_
        refine ez_inc ez_h21 rfl rfl (v := nI (f + 1)) (zi_1 _) rfl ?_
        refine ez_go ez_h21 1 (pc' := 4) (L' := [some (.ref 4), some (.int (nI (st))), some (.int (nI (ze_pi E (x)))), some (.int (nI (f + 1)))]) (st' := []) (w' := cz_w r16 q u bb) rfl ?_
        exact a7 st _ q u bb post hr16 kk
      · intro A Q U T post hA kk
        refine ez_go ez_h81 5 (pc' := 103) (L' := [some (.ref 0), some (.int (nI (b))), some (.int (nI (e))), some (.int (nI (x))), some (.int (nI (f))), some (.int (nI (l))), none]) (st' := [.int (nI (f)), .ref 4, .int (nI (x)), .ref 0]) (w' := mz_w A Q U T) rfl ?_
        refine mr_ld ez_h81 rfl hE hA (k := f) (by omega) ?_
        refine ez_cl ez_h81 rfl rfl ?_
        refine mr_less hE hA hw.2 (x := x) (y := row f) hx (hw.1 f (by omega)) Q U T (fun A17 hA17 => ?_)
        refine ez_go ez_h81 1 (pc' := bif decide (¬ (zs_z (zs_b (ze_md E) (ze_ka E) x (row f) g)) = 0) then 114 else 110) (L' := [some (.ref 0), some (.int (nI (b))), some (.int (nI (e))), some (.int (nI (x))), some (.int (nI (f))), some (.int (nI (l))), none]) (st' := []) (w' := mz_w A17 Q U T) rfl ?_
        refine ez_ifF (fun z => z (zz_f hb)) ?_
        refine ez_go ez_h81 6 (pc' := bif decide ((nI (1)) = (nI 0)) then 120 else 92) (L' := [some (.ref 0), some (.int (nI (b))), some (.int (nI (e))), some (.int (nI (x))), some (.int (nI (f))), some (.int (nI (l))), some (.int (nI (1)))]) (st' := []) (w' := mz_w A17 Q U T) rfl ?_
        refine ez_ifF (zt_ne (by omega) (by omega) (by omega)) ?_
        refine ez_inc ez_h81 rfl rfl (v := nI (f + 1)) (zi_1 _) rfl ?_
        exact ez_E.le (ez_lc (ez_lc (ez_lc (ez_lc (ez_lc (ez_lc (ez_ln ez_l0))))))) (a8 b e l _ Q U T post hA17 kk)
      · intro A Q U T post hA kk
        refine ez_go ez_h81 5 (pc' := 170) (L' := [some (.ref 0), some (.int (nI (b))), some (.int (nI (e))), some (.int (nI (x))), some (.int (nI (f))), some (.int (nI (l))), none]) (st' := [.int (nI (f)), .ref 4, .int (nI (x)), .ref 0]) (w' := mz_w A Q U T) rfl ?_
        refine mr_ld ez_h81 rfl hE hA (k := f) (by omega) ?_
        refine ez_cl ez_h81 rfl rfl ?_
        refine mr_less hE hA hw.2 (x := x) (y := row f) hx (hw.1 f (by omega)) Q U T (fun A18 hA18 => ?_)
        refine ez_go ez_h81 1 (pc' := bif decide (¬ (zs_z (zs_b (ze_md E) (ze_ka E) x (row f) g)) = 0) then 120 else 177) (L' := [some (.ref 0), some (.int (nI (b))), some (.int (nI (e))), some (.int (nI (x))), some (.int (nI (f))), some (.int (nI (l))), none]) (st' := []) (w' := mz_w A18 Q U T) rfl ?_
        refine ez_ifF (fun z => z (zz_f hb)) ?_
        refine ez_inc ez_h81 rfl rfl (v := nI (f + 1)) (zi_1 _) rfl ?_
        refine ez_go ez_h81 1 (pc' := 162) (L' := [some (.ref 0), some (.int (nI (b))), some (.int (nI (e))), some (.int (nI (x))), some (.int (nI (f + 1))), some (.int (nI (l))), none]) (st' := []) (w' := mz_w A18 Q U T) rfl ?_
        exact ez_E.le (ez_lc (ez_lc (ez_lc (ez_lc (ez_lc (ez_lc (ez_lc ez_l0))))))) (a9 b e l _ Q U T post hA18 kk)
    | true =>
      refine ⟨f, _, Nat.le_refl _, h2, hw1, hg1, zs_b_L hb, fun k k1 k2 => by omega, fun st => ?_, fun b e l => ?_, fun b e l => ?_⟩
      · intro r q u bb post hr kk
        refine ez_go ez_h21 3 (pc' := 9) (L' := [some (.ref 4), some (.int (nI (st))), some (.int (nI (ze_pi E (x)))), some (.int (nI (f)))]) (st' := [.ref 1, .int (nI (f))]) (w' := cz_w r q u bb) rfl ?_
        refine ez_cl ez_h21 rfl rfl ?_
        refine cr_size hr q u bb ?_
        refine ez_go ez_h21 1 (pc' := bif decide ((nI (ze_n E)) ≤ (nI (f))) then 40 else 15) (L' := [some (.ref 4), some (.int (nI (st))), some (.int (nI (ze_pi E (x)))), some (.int (nI (f)))]) (st' := []) (w' := cz_w r q u bb) rfl ?_
        refine ez_ifF (zt_nle (a := ze_n E) (b := f) (by omega) (by omega)) ?_
        refine ez_go ez_h21 6 (pc' := 25) (L' := [some (.ref 4), some (.int (nI (st))), some (.int (nI (ze_pi E (x)))), some (.int (nI (f)))]) (st' := [.int (nI (f)), .ref 1, .int (nI (ze_pi E (x))), .ref 1]) (w' := cz_w r q u bb) rfl ?_
        refine ez_cl ez_h21 rfl rfl ?_
        refine cr_at hE hr (k := f) (by omega) q u bb ?_
        refine ez_cl ez_h21 rfl rfl ?_
        refine cr_less hE hr hw.2 (x := x) (y := row f) hx (hw.1 f (by omega)) q u bb (fun r19 hr19 => ?_)
        refine ez_go ez_h21 1 (pc' := bif decide (¬ (zs_z (zs_b (ze_md E) (ze_ka E) x (row f) g)) = 0) then 40 else 34) (L' := [some (.ref 4), some (.int (nI (st))), some (.int (nI (ze_pi E (x)))), some (.int (nI (f)))]) (st' := []) (w' := cz_w r19 q u bb) rfl ?_
        refine ez_ifT (zz_t hb) ?_
        refine ez_go ez_h21 1 (pc' := 41) (L' := [some (.ref 4), some (.int (nI (st))), some (.int (nI (ze_pi E (x)))), some (.int (nI (f)))]) (st' := [.int (nI (f))]) (w' := cz_w r19 q u bb) rfl ?_
        exact ez_iret rfl ez_h21 rfl rfl (kk _ hr19)
      · intro A Q U T post hA kk
        refine ez_go ez_h81 5 (pc' := 103) (L' := [some (.ref 0), some (.int (nI (b))), some (.int (nI (e))), some (.int (nI (x))), some (.int (nI (f))), some (.int (nI (l))), none]) (st' := [.int (nI (f)), .ref 4, .int (nI (x)), .ref 0]) (w' := mz_w A Q U T) rfl ?_
        refine mr_ld ez_h81 rfl hE hA (k := f) (by omega) ?_
        refine ez_cl ez_h81 rfl rfl ?_
        refine mr_less hE hA hw.2 (x := x) (y := row f) hx (hw.1 f (by omega)) Q U T (fun A20 hA20 => ?_)
        refine ez_go ez_h81 1 (pc' := bif decide (¬ (zs_z (zs_b (ze_md E) (ze_ka E) x (row f) g)) = 0) then 114 else 110) (L' := [some (.ref 0), some (.int (nI (b))), some (.int (nI (e))), some (.int (nI (x))), some (.int (nI (f))), some (.int (nI (l))), none]) (st' := []) (w' := mz_w A20 Q U T) rfl ?_
        refine ez_ifT (zz_t hb) ?_
        refine ez_go ez_h81 5 (pc' := bif decide ((nI (0)) = (nI 0)) then 120 else 92) (L' := [some (.ref 0), some (.int (nI (b))), some (.int (nI (e))), some (.int (nI (x))), some (.int (nI (f))), some (.int (nI (l))), some (.int (nI (0)))]) (st' := []) (w' := mz_w A20 Q U T) rfl ?_
        refine ez_ifT (zt_eq (by omega)) ?_
        exact ez_E.le (ez_lc (ez_lc (ez_lc (ez_lc (ez_lc (ez_lc (ez_ln ez_l0))))))) (kk _ hA20)
      · intro A Q U T post hA kk
        refine ez_go ez_h81 5 (pc' := 170) (L' := [some (.ref 0), some (.int (nI (b))), some (.int (nI (e))), some (.int (nI (x))), some (.int (nI (f))), some (.int (nI (l))), none]) (st' := [.int (nI (f)), .ref 4, .int (nI (x)), .ref 0]) (w' := mz_w A Q U T) rfl ?_
        refine mr_ld ez_h81 rfl hE hA (k := f) (by omega) ?_
        refine ez_cl ez_h81 rfl rfl ?_
        refine mr_less hE hA hw.2 (x := x) (y := row f) hx (hw.1 f (by omega)) Q U T (fun A21 hA21 => ?_)
        refine ez_go ez_h81 1 (pc' := bif decide (¬ (zs_z (zs_b (ze_md E) (ze_ka E) x (row f) g)) = 0) then 120 else 177) (L' := [some (.ref 0), some (.int (nI (b))), some (.int (nI (e))), some (.int (nI (x))), some (.int (nI (f))), some (.int (nI (l))), none]) (st' := []) (w' := mz_w A21 Q U T) rfl ?_
        refine ez_ifT (zz_t hb) ?_
        exact ez_E.le (ez_lc (ez_lc (ez_lc (ez_lc (ez_lc (ez_lc (ez_lc ez_l0))))))) (kk _ hA21)
theorem zk_uL {E : ze_T} (hE : ze_ok E) {x hi : Nat} (hx : x < ze_n E) {row : Nat → Nat} : ∀ (s f : Nat) (g : zs_G), hi ≤ f + s → f ≤ hi → hi < ze_n E → zr_ok E row g → zs_K (ze_md E) (ze_ka E) g x (row hi) →
    ∃ (f' : Nat) (g' : zs_G), f ≤ f' ∧ f' ≤ hi ∧ zr_ok E row g' ∧ zx_le E g g' ∧ zs_K (ze_md E) (ze_ka E) g' x (row f') ∧ (∀ k, f ≤ k → k < f' → zs_L (ze_md E) (ze_ka E) g' (row k) x) ∧
      (∀ st : Nat, cr_H E 20 4 [some (.ref 4), some (.int (nI (st))), some (.int (nI (ze_pi E (x)))), some (.int (nI (f)))] row g (some (.int (nI f'))) row g') ∧ (∀ b e l : Nat, mr_G E 82 15 [some (.ref 0), some (.int (nI (b))), some (.int (nI (e))), some (.int (nI (x))), some (.int (nI (f))), some (.int (nI (l))), none] row g 36 [some (.ref 0), some (.int (nI (b))), some (.int (nI (e))), some (.int (nI (x))), some (.int (nI (f'))), some (.int (nI (l))), none] row g') ∧ (∀ b e l : Nat, mr_G E 82 154 [some (.ref 0), some (.int (nI (b))), some (.int (nI (e))), some (.int (nI (x))), some (.int (nI (f))), some (.int (nI (l))), none] row g 175 [some (.ref 0), some (.int (nI (b))), some (.int (nI (e))), some (.int (nI (x))), some (.int (nI (f'))), some (.int (nI (l))), none] row g') := by
  have hn := hE.1
  intro s
  induction s using Nat.strongRecOn with
  | _ s ih =>
    intro f g h1 h2 h3 hw hb0
    have hw1 := hw.go (hw.1 f (by omega)) hx
    have hg1 : zx_le E g _ := zx_le.go hw (row f) (x)
    cases hb : zs_b (ze_md E) (ze_ka E) (row f) x g with
    | false =>
      refine ⟨f, _, Nat.le_refl _, h2, hw1, hg1, zs_b_f hw.2 (hw.1 f (by omega)) hx hb, fun k k1 k2 => by omega, fun st => ?_, fun b e l => ?_, fun b e l => ?_⟩
      · intro r q u bb post hr kk
        refine ez_go ez_h20 3 (pc' := 9) (L' := [some (.ref 4), some (.int (nI (st))), some (.int (nI (ze_pi E (x)))), some (.int (nI (f)))]) (st' := [.ref 1, .int (nI (f))]) (w' := cz_w r q u bb) rfl ?_
        refine ez_cl ez_h20 rfl rfl ?_
        refine cr_size hr q u bb ?_
        refine ez_go ez_h20 1 (pc' := bif decide ((nI (ze_n E)) ≤ (nI (f))) then 40 else 15) (L' := [some (.ref 4), some (.int (nI (st))), some (.int (nI (ze_pi E (x)))), some (.int (nI (f)))]) (st' := []) (w' := cz_w r q u bb) rfl ?_
        refine ez_ifF (zt_nle (a := ze_n E) (b := f) (by omega) (by omega)) ?_
        refine ez_go ez_h20 5 (pc' := 24) (L' := [some (.ref 4), some (.int (nI (st))), some (.int (nI (ze_pi E (x)))), some (.int (nI (f)))]) (st' := [.int (nI (f)), .ref 1, .ref 1]) (w' := cz_w r q u bb) rfl ?_
        refine ez_cl ez_h20 rfl rfl ?_
        refine cr_at hE hr (k := f) (by omega) q u bb ?_
        refine ez_go ez_h20 1 (pc' := 28) (L' := [some (.ref 4), some (.int (nI (st))), some (.int (nI (ze_pi E (x)))), some (.int (nI (f)))]) (st' := [.int (nI (ze_pi E (x))), .int (nI (ze_pi E (row f))), .ref 1]) (w' := cz_w r q u bb) rfl ?_
        refine ez_cl ez_h20 rfl rfl ?_
        refine cr_less hE hr hw.2 (x := row f) (y := x) (hw.1 f (by omega)) hx q u bb (fun r22 hr22 => ?_)
        refine ez_go ez_h20 1 (pc' := bif decide ((zs_z (zs_b (ze_md E) (ze_ka E) (row f) x g)) = 0) then 40 else 34) (L' := [some (.ref 4), some (.int (nI (st))), some (.int (nI (ze_pi E (x)))), some (.int (nI (f)))]) (st' := []) (w' := cz_w r22 q u bb) rfl ?_
        refine ez_ifT (zz_f hb) ?_
        refine ez_go ez_h20 1 (pc' := 41) (L' := [some (.ref 4), some (.int (nI (st))), some (.int (nI (ze_pi E (x)))), some (.int (nI (f)))]) (st' := [.int (nI (f))]) (w' := cz_w r22 q u bb) rfl ?_
        exact ez_iret rfl ez_h20 rfl rfl (kk _ hr22)
      · intro A Q U T post hA kk
        refine ez_go ez_h82 4 (pc' := 22) (L' := [some (.ref 0), some (.int (nI (b))), some (.int (nI (e))), some (.int (nI (x))), some (.int (nI (f))), some (.int (nI (l))), none]) (st' := [.int (nI (f)), .ref 4, .ref 0]) (w' := mz_w A Q U T) rfl ?_
        refine mr_ld ez_h82 rfl hE hA (k := f) (by omega) ?_
        refine ez_go ez_h82 1 (pc' := 24) (L' := [some (.ref 0), some (.int (nI (b))), some (.int (nI (e))), some (.int (nI (x))), some (.int (nI (f))), some (.int (nI (l))), none]) (st' := [.int (nI (x)), .int (nI (row f)), .ref 0]) (w' := mz_w A Q U T) rfl ?_
        refine ez_cl ez_h82 rfl rfl ?_
        refine mr_less hE hA hw.2 (x := row f) (y := x) (hw.1 f (by omega)) hx Q U T (fun A23 hA23 => ?_)
        refine ez_go ez_h82 1 (pc' := bif decide ((zs_z (zs_b (ze_md E) (ze_ka E) (row f) x g)) = 0) then 36 else 30) (L' := [some (.ref 0), some (.int (nI (b))), some (.int (nI (e))), some (.int (nI (x))), some (.int (nI (f))), some (.int (nI (l))), none]) (st' := []) (w' := mz_w A23 Q U T) rfl ?_
        refine ez_ifT (zz_f hb) ?_
        exact ez_E.le (ez_lc (ez_lc (ez_lc (ez_lc (ez_lc (ez_lc (ez_lc ez_l0))))))) (kk _ hA23)
      · intro A Q U T post hA kk
        refine ez_go ez_h82 4 (pc' := 161) (L' := [some (.ref 0), some (.int (nI (b))), some (.int (nI (e))), some (.int (nI (x))), some (.int (nI (f))), some (.int (nI (l))), none]) (st' := [.int (nI (f)), .ref 4, .ref 0]) (w' := mz_w A Q U T) rfl ?_
        refine mr_ld ez_h82 rfl hE hA (k := f) (by omega) ?_
        refine ez_go ez_h82 1 (pc' := 163) (L' := [some (.ref 0), some (.int (nI (b))), some (.int (nI (e))), some (.int (nI (x))), some (.int (nI (f))), some (.int (nI (l))), none]) (st' := [.int (nI (x)), .int (nI (row f)), .ref 0]) (w' := mz_w A Q U T) rfl ?_
        refine ez_cl ez_h82 rfl rfl ?_
        refine mr_less hE hA hw.2 (x := row f) (y := x) (hw.1 f (by omega)) hx Q U T (fun A24 hA24 => ?_)
        refine ez_go ez_h82 1 (pc' := bif decide ((zs_z (zs_b (ze_md E) (ze_ka E) (row f) x g)) = 0) then 175 else 169) (L' := [some (.ref 0), some (.int (nI (b))), some (.int (nI (e))), some (.int (nI (x))), some (.int (nI (f))), some (.int (nI (l))), none]) (st' := []) (w' := mz_w A24 Q U T) rfl ?_
        refine ez_ifT (zz_f hb) ?_
        exact ez_E.le (ez_lc (ez_lc (ez_lc (ez_lc (ez_lc (ez_lc (ez_lc ez_l0))))))) (kk _ hA24)
    | true =>
      have hne : f ≠ hi := fun z => by
        rw [z] at hb
        rw [zs_b_K hw.2 (hw.1 hi (by omega)) hx hb0] at hb
        cases hb
      obtain ⟨f', g', a1, a2, a3, a4, a5, a6, a7, a8, a9⟩ := ih (s - 1) (by omega) (f + 1) _ (by omega) (by omega) (by omega) hw1 (hg1.1 _ _ hx hb0)
      refine ⟨f', g', by omega, a2, a3, hg1.tr a4, a5, fun k k1 k2 => ?_, fun st => ?_, fun b e l => ?_, fun b e l => ?_⟩
      · by_cases c : k = f
        · rw [c]; exact a4.2 _ _ (hw.1 f (by omega)) (zs_b_L hb)
        · exact a6 k (by omega) (by omega)
      · intro r q u bb post hr kk
        refine ez_go ez_h20 3 (pc' := 9) (L' := [some (.ref 4), some (.int (nI (st))), some (.int (nI (ze_pi E (x)))), some (.int (nI (f)))]) (st' := [.ref 1, .int (nI (f))]) (w' := cz_w r q u bb) rfl ?_
        refine ez_cl ez_h20 rfl rfl ?_
        refine cr_size hr q u bb ?_
        refine ez_go ez_h20 1 (pc' := bif decide ((nI (ze_n E)) ≤ (nI (f))) then 40 else 15) (L' := [some (.ref 4), some (.int (nI (st))), some (.int (nI (ze_pi E (x)))), some (.int (nI (f)))]) (st' := []) (w' := cz_w r q u bb) rfl ?_
        refine ez_ifF (zt_nle (a := ze_n E) (b := f) (by omega) (by omega)) ?_
        refine ez_go ez_h20 5 (pc' := 24) (L' := [some (.ref 4), some (.int (nI (st))), some (.int (nI (ze_pi E (x)))), some (.int (nI (f)))]) (st' := [.int (nI (f)), .ref 1, .ref 1]) (w' := cz_w r q u bb) rfl ?_
        refine ez_cl ez_h20 rfl rfl ?_
        refine cr_at hE hr (k := f) (by omega) q u bb ?_
        refine ez_go ez_h20 1 (pc' := 28) (L' := [some (.ref 4), some (.int (nI (st))), some (.int (nI (ze_pi E (x)))), some (.int (nI (f)))]) (st' := [.int (nI (ze_pi E (x))), .int (nI (ze_pi E (row f))), .ref 1]) (w' := cz_w r q u bb) rfl ?_
        refine ez_cl ez_h20 rfl rfl ?_
        refine cr_less hE hr hw.2 (x := row f) (y := x) (hw.1 f (by omega)) hx q u bb (fun r25 hr25 => ?_)
        refine ez_go ez_h20 1 (pc' := bif decide ((zs_z (zs_b (ze_md E) (ze_ka E) (row f) x g)) = 0) then 40 else 34) (L' := [some (.ref 4), some (.int (nI (st))), some (.int (nI (ze_pi E (x)))), some (.int (nI (f)))]) (st' := []) (w' := cz_w r25 q u bb) rfl ?_
        refine ez_ifF (zz_t hb) ?_
        refine ez_inc ez_h20 rfl rfl (v := nI (f + 1)) (zi_1 _) rfl ?_
        refine ez_go ez_h20 1 (pc' := 4) (L' := [some (.ref 4), some (.int (nI (st))), some (.int (nI (ze_pi E (x)))), some (.int (nI (f + 1)))]) (st' := []) (w' := cz_w r25 q u bb) rfl ?_
        exact a7 st _ q u bb post hr25 kk
      · intro A Q U T post hA kk
        refine ez_go ez_h82 4 (pc' := 22) (L' := [some (.ref 0), some (.int (nI (b))), some (.int (nI (e))), some (.int (nI (x))), some (.int (nI (f))), some (.int (nI (l))), none]) (st' := [.int (nI (f)), .ref 4, .ref 0]) (w' := mz_w A Q U T) rfl ?_
        refine mr_ld ez_h82 rfl hE hA (k := f) (by omega) ?_
        refine ez_go ez_h82 1 (pc' := 24) (L' := [some (.ref 0), some (.int (nI (b))), some (.int (nI (e))), some (.int (nI (x))), some (.int (nI (f))), some (.int (nI (l))), none]) (st' := [.int (nI (x)), .int (nI (row f)), .ref 0]) (w' := mz_w A Q U T) rfl ?_
        refine ez_cl ez_h82 rfl rfl ?_
        refine mr_less hE hA hw.2 (x := row f) (y := x) (hw.1 f (by omega)) hx Q U T (fun A26 hA26 => ?_)
        refine ez_go ez_h82 1 (pc' := bif decide ((zs_z (zs_b (ze_md E) (ze_ka E) (row f) x g)) = 0) then 36 else 30) (L' := [some (.ref 0), some (.int (nI (b))), some (.int (nI (e))), some (.int (nI (x))), some (.int (nI (f))), some (.int (nI (l))), none]) (st' := []) (w' := mz_w A26 Q U T) rfl ?_
        refine ez_ifF (zz_t hb) ?_
        refine ez_inc ez_h82 rfl rfl (v := nI (f + 1)) (zi_1 _) rfl ?_
        refine ez_go ez_h82 1 (pc' := 15) (L' := [some (.ref 0), some (.int (nI (b))), some (.int (nI (e))), some (.int (nI (x))), some (.int (nI (f + 1))), some (.int (nI (l))), none]) (st' := []) (w' := mz_w A26 Q U T) rfl ?_
        exact ez_E.le (ez_lc (ez_lc (ez_lc (ez_lc (ez_lc (ez_lc (ez_lc ez_l0))))))) (a8 b e l _ Q U T post hA26 kk)
      · intro A Q U T post hA kk
        refine ez_go ez_h82 4 (pc' := 161) (L' := [some (.ref 0), some (.int (nI (b))), some (.int (nI (e))), some (.int (nI (x))), some (.int (nI (f))), some (.int (nI (l))), none]) (st' := [.int (nI (f)), .ref 4, .ref 0]) (w' := mz_w A Q U T) rfl ?_
        refine mr_ld ez_h82 rfl hE hA (k := f) (by omega) ?_
        refine ez_go ez_h82 1 (pc' := 163) (L' := [some (.ref 0), some (.int (nI (b))), some (.int (nI (e))), some (.int (nI (x))), some (.int (nI (f))), some (.int (nI (l))), none]) (st' := [.int (nI (x)), .int (nI (row f)), .ref 0]) (w' := mz_w A Q U T) rfl ?_
        refine ez_cl ez_h82 rfl rfl ?_
        refine mr_less hE hA hw.2 (x := row f) (y := x) (hw.1 f (by omega)) hx Q U T (fun A27 hA27 => ?_)
        refine ez_go ez_h82 1 (pc' := bif decide ((zs_z (zs_b (ze_md E) (ze_ka E) (row f) x g)) = 0) then 175 else 169) (L' := [some (.ref 0), some (.int (nI (b))), some (.int (nI (e))), some (.int (nI (x))), some (.int (nI (f))), some (.int (nI (l))), none]) (st' := []) (w' := mz_w A27 Q U T) rfl ?_
        refine ez_ifF (zz_t hb) ?_
        refine ez_inc ez_h82 rfl rfl (v := nI (f + 1)) (zi_1 _) rfl ?_
        refine ez_go ez_h82 1 (pc' := 154) (L' := [some (.ref 0), some (.int (nI (b))), some (.int (nI (e))), some (.int (nI (x))), some (.int (nI (f + 1))), some (.int (nI (l))), none]) (st' := []) (w' := mz_w A27 Q U T) rfl ?_
        exact ez_E.le (ez_lc (ez_lc (ez_lc (ez_lc (ez_lc (ez_lc (ez_lc ez_l0))))))) (a9 b e l _ Q U T post hA27 kk)
theorem zk_dL {E : ze_T} (hE : ze_ok E) {x lo : Nat} (hx : x < ze_n E) {row : Nat → Nat} : ∀ (s l : Nat) (g : zs_G), l ≤ lo + s → lo ≤ l → l < ze_n E → zr_ok E row g → zs_L (ze_md E) (ze_ka E) g (row lo) x →
    ∃ (l' : Nat) (g' : zs_G), lo ≤ l' ∧ l' ≤ l ∧ zr_ok E row g' ∧ zx_le E g g' ∧ zs_L (ze_md E) (ze_ka E) g' (row l') x ∧ (∀ k, l' < k → k ≤ l → zs_K (ze_md E) (ze_ka E) g' x (row k)) ∧
      (∀ st : Nat, cr_H E 23 4 [some (.ref 4), some (.int (nI (st))), some (.int (nI (ze_pi E (x)))), some (.int (nI (l)))] row g (some (.int (nI l'))) row g') ∧ (∀ b e f : Nat, mr_G E 82 95 [some (.ref 0), some (.int (nI (b))), some (.int (nI (e))), some (.int (nI (x))), some (.int (nI (f))), some (.int (nI (l))), none] row g 120 [some (.ref 0), some (.int (nI (b))), some (.int (nI (e))), some (.int (nI (x))), some (.int (nI (f))), some (.int (nI (l'))), none] row g') ∧ (∀ b e f : Nat, mr_G E 82 178 [some (.ref 0), some (.int (nI (b))), some (.int (nI (e))), some (.int (nI (x))), some (.int (nI (f))), some (.int (nI (l))), none] row g 136 [some (.ref 0), some (.int (nI (b))), some (.int (nI (e))), some (.int (nI (x))), some (.int (nI (f))), some (.int (nI (l'))), none] row g') := by
  have hn := hE.1
  intro s
  induction s using Nat.strongRecOn with
  | _ s ih =>
    intro l g h1 h2 h3 hw hb0
    have hw1 := hw.go (hw.1 l (by omega)) hx
    have hg1 : zx_le E g _ := zx_le.go hw (row l) (x)
    cases hb : zs_b (ze_md E) (ze_ka E) (row l) x g with
    | false =>
      have hne : l ≠ lo := fun z => by
        rw [z] at hb
        rw [hb0.b] at hb
        cases hb
      obtain ⟨l', g', a1, a2, a3, a4, a5, a6, a7, a8, a9⟩ := ih (s - 1) (by omega) (l - 1) _ (by omega) (by omega) (by omega) hw1 (hg1.2 _ _ (hw.1 lo (by omega)) hb0)
      refine ⟨l', g', a1, by omega, a3, hg1.tr a4, a5, fun k k1 k2 => ?_, fun st => ?_, fun b e f => ?_, fun b e f => ?_⟩
      · by_cases c : k = l
        · rw [c]; exact a4.1 _ _ hx (zs_b_f hw.2 (hw.1 l (by omega)) hx hb)
        · exact a6 k (by omega) (by omega)
      · intro r q u bb post hr kk
        refine ez_go ez_h23 2 (pc' := bif decide ((nI (l)) < (nI 0)) then 33 else 8) (L' := [some (.ref 4), some (.int (nI (st))), some (.int (nI (ze_pi E (x)))), some (.int (nI (l)))]) (st' := []) (w' := cz_w r q u bb) rfl ?_
        refine ez_ifF (zt_nlt (a := l) (b := 0) (by omega) (by omega)) ?_
        refine ez_go ez_h23 5 (pc' := 17) (L' := [some (.ref 4), some (.int (nI (st))), some (.int (nI (ze_pi E (x)))), some (.int (nI (l)))]) (st' := [.int (nI (l)), .ref 1, .ref 1]) (w' := cz_w r q u bb) rfl ?_
        refine ez_cl ez_h23 rfl rfl ?_
        refine cr_at hE hr (k := l) (by omega) q u bb ?_
        refine ez_go ez_h23 1 (pc' := 21) (L' := [some (.ref 4), some (.int (nI (st))), some (.int (nI (ze_pi E (x)))), some (.int (nI (l)))]) (st' := [.int (nI (ze_pi E (x))), .int (nI (ze_pi E (row l))), .ref 1]) (w' := cz_w r q u bb) rfl ?_
        refine ez_cl ez_h23 rfl rfl ?_
        refine cr_less hE hr hw.2 (x := row l) (y := x) (hw.1 l (by omega)) hx q u bb (fun r28 hr28 => ?_)
        refine ez_go ez_h23 1 (pc' := bif decide (¬ (zs_z (zs_b (ze_md E) (ze_ka E) (row l) x g)) = 0) then 33 else 27) (L' := [some (.ref 4), some (.int (nI (st))), some (.int (nI (ze_pi E (x)))), some (.int (nI (l)))]) (st' := []) (w' := cz_w r28 q u bb) rfl ?_
        refine ez_ifF (fun z => z (zz_f hb)) ?_
        refine ez_inc ez_h23 rfl rfl (v := nI (l - 1)) (zi_m (by omega)) rfl ?_
        refine ez_go ez_h23 1 (pc' := 4) (L' := [some (.ref 4), some (.int (nI (st))), some (.int (nI (ze_pi E (x)))), some (.int (nI (l - 1)))]) (st' := []) (w' := cz_w r28 q u bb) rfl ?_
        exact a7 st _ q u bb post hr28 kk
      · intro A Q U T post hA kk
        refine ez_go ez_h82 4 (pc' := 102) (L' := [some (.ref 0), some (.int (nI (b))), some (.int (nI (e))), some (.int (nI (x))), some (.int (nI (f))), some (.int (nI (l))), none]) (st' := [.int (nI (l)), .ref 4, .ref 0]) (w' := mz_w A Q U T) rfl ?_
        refine mr_ld ez_h82 rfl hE hA (k := l) (by omega) ?_
        refine ez_go ez_h82 1 (pc' := 104) (L' := [some (.ref 0), some (.int (nI (b))), some (.int (nI (e))), some (.int (nI (x))), some (.int (nI (f))), some (.int (nI (l))), none]) (st' := [.int (nI (x)), .int (nI (row l)), .ref 0]) (w' := mz_w A Q U T) rfl ?_
        refine ez_cl ez_h82 rfl rfl ?_
        refine mr_less hE hA hw.2 (x := row l) (y := x) (hw.1 l (by omega)) hx Q U T (fun A29 hA29 => ?_)
        refine ez_go ez_h82 1 (pc' := bif decide (¬ (zs_z (zs_b (ze_md E) (ze_ka E) (row l) x g)) = 0) then 114 else 110) (L' := [some (.ref 0), some (.int (nI (b))), some (.int (nI (e))), some (.int (nI (x))), some (.int (nI (f))), some (.int (nI (l))), none]) (st' := []) (w' := mz_w A29 Q U T) rfl ?_
        refine ez_ifF (fun z => z (zz_f hb)) ?_
        refine ez_go ez_h82 6 (pc' := bif decide ((nI (1)) = (nI 0)) then 120 else 92) (L' := [some (.ref 0), some (.int (nI (b))), some (.int (nI (e))), some (.int (nI (x))), some (.int (nI (f))), some (.int (nI (l))), some (.int (nI (1)))]) (st' := []) (w' := mz_w A29 Q U T) rfl ?_
        refine ez_ifF (zt_ne (by omega) (by omega) (by omega)) ?_
        refine ez_inc ez_h82 rfl rfl (v := nI (l - 1)) (zi_m (by omega)) rfl ?_
        exact ez_E.le (ez_lc (ez_lc (ez_lc (ez_lc (ez_lc (ez_lc (ez_ln ez_l0))))))) (a8 b e f _ Q U T post hA29 kk)
      · intro A Q U T post hA kk
        refine ez_go ez_h82 4 (pc' := 185) (L' := [some (.ref 0), some (.int (nI (b))), some (.int (nI (e))), some (.int (nI (x))), some (.int (nI (f))), some (.int (nI (l))), none]) (st' := [.int (nI (l)), .ref 4, .ref 0]) (w' := mz_w A Q U T) rfl ?_
        refine mr_ld ez_h82 rfl hE hA (k := l) (by omega) ?_
        refine ez_go ez_h82 1 (pc' := 187) (L' := [some (.ref 0), some (.int (nI (b))), some (.int (nI (e))), some (.int (nI (x))), some (.int (nI (f))), some (.int (nI (l))), none]) (st' := [.int (nI (x)), .int (nI (row l)), .ref 0]) (w' := mz_w A Q U T) rfl ?_
        refine ez_cl ez_h82 rfl rfl ?_
        refine mr_less hE hA hw.2 (x := row l) (y := x) (hw.1 l (by omega)) hx Q U T (fun A30 hA30 => ?_)
        refine ez_go ez_h82 1 (pc' := bif decide (¬ (zs_z (zs_b (ze_md E) (ze_ka E) (row l) x g)) = 0) then 136 else 193) (L' := [some (.ref 0), some (.int (nI (b))), some (.int (nI (e))), some (.int (nI (x))), some (.int (nI (f))), some (.int (nI (l))), none]) (st' := []) (w' := mz_w A30 Q U T) rfl ?_
        refine ez_ifF (fun z => z (zz_f hb)) ?_
        refine ez_inc ez_h82 rfl rfl (v := nI (l - 1)) (zi_m (by omega)) rfl ?_
        refine ez_go ez_h82 1 (pc' := 178) (L' := [some (.ref 0), some (.int (nI (b))), some (.int (nI (e))), some (.int (nI (x))), some (.int (nI (f))), some (.int (nI (l - 1))), none]) (st' := []) (w' := mz_w A30 Q U T) rfl ?_
        exact ez_E.le (ez_lc (ez_lc (ez_lc (ez_lc (ez_lc (ez_lc (ez_lc ez_l0))))))) (a9 b e f _ Q U T post hA30 kk)
    | true =>
      refine ⟨l, _, h2, Nat.le_refl _, hw1, hg1, zs_b_L hb, fun k k1 k2 => by omega, fun st => ?_, fun b e f => ?_, fun b e f => ?_⟩
      · intro r q u bb post hr kk
        refine ez_go ez_h23 2 (pc' := bif decide ((nI (l)) < (nI 0)) then 33 else 8) (L' := [some (.ref 4), some (.int (nI (st))), some (.int (nI (ze_pi E (x)))), some (.int (nI (l)))]) (st' := []) (w' := cz_w r q u bb) rfl ?_
        refine ez_ifF (zt_nlt (a := l) (b := 0) (by omega) (by omega)) ?_
        refine ez_go ez_h23 5 (pc' := 17) (L' := [some (.ref 4), some (.int (nI (st))), some (.int (nI (ze_pi E (x)))), some (.int (nI (l)))]) (st' := [.int (nI (l)), .ref 1, .ref 1]) (w' := cz_w r q u bb) rfl ?_
        refine ez_cl ez_h23 rfl rfl ?_
        refine cr_at hE hr (k := l) (by omega) q u bb ?_
        refine ez_go ez_h23 1 (pc' := 21) (L' := [some (.ref 4), some (.int (nI (st))), some (.int (nI (ze_pi E (x)))), some (.int (nI (l)))]) (st' := [.int (nI (ze_pi E (x))), .int (nI (ze_pi E (row l))), .ref 1]) (w' := cz_w r q u bb) rfl ?_
        refine ez_cl ez_h23 rfl rfl ?_
        refine cr_less hE hr hw.2 (x := row l) (y := x) (hw.1 l (by omega)) hx q u bb (fun r31 hr31 => ?_)
        refine ez_go ez_h23 1 (pc' := bif decide (¬ (zs_z (zs_b (ze_md E) (ze_ka E) (row l) x g)) = 0) then 33 else 27) (L' := [some (.ref 4), some (.int (nI (st))), some (.int (nI (ze_pi E (x)))), some (.int (nI (l)))]) (st' := []) (w' := cz_w r31 q u bb) rfl ?_
        refine ez_ifT (zz_t hb) ?_
        refine ez_go ez_h23 1 (pc' := 34) (L' := [some (.ref 4), some (.int (nI (st))), some (.int (nI (ze_pi E (x)))), some (.int (nI (l)))]) (st' := [.int (nI (l))]) (w' := cz_w r31 q u bb) rfl ?_
        exact ez_iret rfl ez_h23 rfl rfl (kk _ hr31)
      · intro A Q U T post hA kk
        refine ez_go ez_h82 4 (pc' := 102) (L' := [some (.ref 0), some (.int (nI (b))), some (.int (nI (e))), some (.int (nI (x))), some (.int (nI (f))), some (.int (nI (l))), none]) (st' := [.int (nI (l)), .ref 4, .ref 0]) (w' := mz_w A Q U T) rfl ?_
        refine mr_ld ez_h82 rfl hE hA (k := l) (by omega) ?_
        refine ez_go ez_h82 1 (pc' := 104) (L' := [some (.ref 0), some (.int (nI (b))), some (.int (nI (e))), some (.int (nI (x))), some (.int (nI (f))), some (.int (nI (l))), none]) (st' := [.int (nI (x)), .int (nI (row l)), .ref 0]) (w' := mz_w A Q U T) rfl ?_
        refine ez_cl ez_h82 rfl rfl ?_
        refine mr_less hE hA hw.2 (x := row l) (y := x) (hw.1 l (by omega)) hx Q U T (fun A32 hA32 => ?_)
        refine ez_go ez_h82 1 (pc' := bif decide (¬ (zs_z (zs_b (ze_md E) (ze_ka E) (row l) x g)) = 0) then 114 else 110) (L' := [some (.ref 0), some (.int (nI (b))), some (.int (nI (e))), some (.int (nI (x))), some (.int (nI (f))), some (.int (nI (l))), none]) (st' := []) (w' := mz_w A32 Q U T) rfl ?_
        refine ez_ifT (zz_t hb) ?_
        refine ez_go ez_h82 5 (pc' := bif decide ((nI (0)) = (nI 0)) then 120 else 92) (L' := [some (.ref 0), some (.int (nI (b))), some (.int (nI (e))), some (.int (nI (x))), some (.int (nI (f))), some (.int (nI (l))), some (.int (nI (0)))]) (st' := []) (w' := mz_w A32 Q U T) rfl ?_
        refine ez_ifT (zt_eq (by omega)) ?_
        exact ez_E.le (ez_lc (ez_lc (ez_lc (ez_lc (ez_lc (ez_lc (ez_ln ez_l0))))))) (kk _ hA32)
      · intro A Q U T post hA kk
        refine ez_go ez_h82 4 (pc' := 185) (L' := [some (.ref 0), some (.int (nI (b))), some (.int (nI (e))), some (.int (nI (x))), some (.int (nI (f))), some (.int (nI (l))), none]) (st' := [.int (nI (l)), .ref 4, .ref 0]) (w' := mz_w A Q U T) rfl ?_
        refine mr_ld ez_h82 rfl hE hA (k := l) (by omega) ?_
        refine ez_go ez_h82 1 (pc' := 187) (L' := [some (.ref 0), some (.int (nI (b))), some (.int (nI (e))), some (.int (nI (x))), some (.int (nI (f))), some (.int (nI (l))), none]) (st' := [.int (nI (x)), .int (nI (row l)), .ref 0]) (w' := mz_w A Q U T) rfl ?_
        refine ez_cl ez_h82 rfl rfl ?_
        refine mr_less hE hA hw.2 (x := row l) (y := x) (hw.1 l (by omega)) hx Q U T (fun A33 hA33 => ?_)
        refine ez_go ez_h82 1 (pc' := bif decide (¬ (zs_z (zs_b (ze_md E) (ze_ka E) (row l) x g)) = 0) then 136 else 193) (L' := [some (.ref 0), some (.int (nI (b))), some (.int (nI (e))), some (.int (nI (x))), some (.int (nI (f))), some (.int (nI (l))), none]) (st' := []) (w' := mz_w A33 Q U T) rfl ?_
        refine ez_ifT (zz_t hb) ?_
        exact ez_E.le (ez_lc (ez_lc (ez_lc (ez_lc (ez_lc (ez_lc (ez_lc ez_l0))))))) (kk _ hA33)
end
section
/-- the pivot comes to b; one that is not less lies behind it -/
theorem zk_choose {E : ze_T} (hE : ze_ok E) {b e : Nat} (hs : b + 24 ≤ e) (he : e ≤ ze_n E) {row : Nat → Nat} {g : zs_G} (hw : zr_ok E row g) :
    ∃ (row' : Nat → Nat) (g' : zs_G) (s : Nat), b < s ∧ s < e ∧ zr_ok E row' g' ∧ zg_le E g g' ∧ zp_in row row' b e ∧ zs_K (ze_md E) (ze_ka E) g' (row' b) (row' s) ∧
      (∀ (r : cz_Row) (q : cz_Qk) (u : cz_Rn) (bb : cz_Bn) (post : Option Value → ez_W → Prop), cr_R E row g r → q.2.1 = nI b → q.2.2.1 = nI e → (∀ r' : cz_Row, cr_R E row' g' r' → post none (cz_w r' q u bb)) → ez_m 15 [.ref 4, .int (nI ((e - b) / 2)), .int (nI (if 128 < e - b then 1 else 0))] (cz_w r q u bb) post) ∧
      mr_M E 84 [.ref 0, .int (nI b), .int (nI e)] row g none row' g' := by
  have hn := hE.1
  by_cases hl : 128 < e - b
  · obtain ⟨w1, g1, o1, l1, p1, x1, y1, c1, m1⟩ := zk_three hE (i := b) (j := b + (e - b) / 2) (k := e - 1) (by omega) (by omega) (by omega) (by omega) (by omega) (by omega) hw
    obtain ⟨w2, g2, o2, l2, p2, x2, y2, c2, m2⟩ := zk_three hE (i := b + 1) (j := b + (e - b) / 2 - 1) (k := e - 2) (by omega) (by omega) (by omega) (by omega) (by omega) (by omega) o1
    obtain ⟨w3, g3, o3, l3, p3, x3, y3, c3, m3⟩ := zk_three hE (i := b + 2) (j := b + (e - b) / 2 + 1) (k := e - 3) (by omega) (by omega) (by omega) (by omega) (by omega) (by omega) o2
    obtain ⟨w4, g4, o4, l4, p4, x4, y4, c4, m4⟩ := zk_three hE (i := b + (e - b) / 2 - 1) (j := b + (e - b) / 2) (k := b + (e - b) / 2 + 1) (by omega) (by omega) (by omega) (by omega) (by omega) (by omega) o3
    refine ⟨zs_sw w4 b (b + (e - b) / 2), g4, b + (e - b) / 2 + 1, by omega, by omega, o4.sw (by omega) (by omega), ((l1.tr l2).tr l3).tr l4, ((((p1 b e (by omega) (by omega) (by omega) (by omega) (by omega) (by omega)).tr (p2 b e (by omega) (by omega) (by omega) (by omega) (by omega) (by omega))).tr (p3 b e (by omega) (by omega) (by omega) (by omega) (by omega) (by omega))).tr (p4 b e (by omega) (by omega) (by omega) (by omega) (by omega) (by omega))).tr (zp_in.sw w4 (by omega) (by omega)), ?_, fun r q u bb post hr e1 e2 kk => ?_, ?_⟩
    · rw [(zk_swp (by omega)).1, zk_swo (by omega) (by omega)]; exact y4
    · obtain ⟨wtg, fr, to, bud, fst, mid, wp, fls, prt, wf, wt, wb⟩ := q
      replace e1 : fr = nI b := e1
      replace e2 : to = nI e := e2
      subst e1 e2
      rw [if_pos hl]
      refine ez_m.of (L := [some (.ref 4), some (.int (nI ((e - b) / 2))), some (.int (nI (1))), none]) rfl rfl rfl ?_
      refine ez_go ez_h15 4 (pc' := 6) (L' := [some (.ref 4), some (.int (nI ((e - b) / 2))), some (.int (nI (1))), none]) (st' := [.int ((nI (b)) + (nI ((e - b) / 2)))]) (w' := cz_w r (wtg, nI (b), nI (e), bud, fst, mid, wp, fls, prt, wf, wt, wb) u bb) rfl ?_
      refine ez_top (y := nI (b + ((e - b) / 2))) (nI_add _ _) ?_
      refine ez_go ez_h15 3 (pc' := bif decide ((nI (1)) = (nI 0)) then 90 else 11) (L' := [some (.ref 4), some (.int (nI ((e - b) / 2))), some (.int (nI (1))), some (.int (nI (b + ((e - b) / 2))))]) (st' := []) (w' := cz_w r (wtg, nI (b), nI (e), bud, fst, mid, wp, fls, prt, wf, wt, wb) u bb) rfl ?_
      refine ez_ifF (zt_ne (by omega) (by omega) (by omega)) ?_
      refine ez_go ez_h15 8 (pc' := 23) (L' := [some (.ref 4), some (.int (nI ((e - b) / 2))), some (.int (nI (1))), some (.int (nI (b + ((e - b) / 2))))]) (st' := [.int ((nI (e)) - (nI (1))), .int (nI (b + ((e - b) / 2))), .int (nI (b)), .ref 4]) (w' := cz_w r (wtg, nI (b), nI (e), bud, fst, mid, wp, fls, prt, wf, wt, wb) u bb) rfl ?_
      refine ez_top (y := nI (e - 1)) (pk_sub (by omega)) ?_
      refine ez_cl ez_h15 rfl rfl ?_
      refine c1 _ (wtg, nI (b), nI (e), bud, fst, mid, wp, fls, prt, wf, wt, wb) u bb _ hr (fun r71 hr71 => ?_)
      refine ez_go ez_h15 5 (pc' := 33) (L' := [some (.ref 4), some (.int (nI ((e - b) / 2))), some (.int (nI (1))), some (.int (nI (b + ((e - b) / 2))))]) (st' := [.int ((nI (b)) + (nI (1))), .ref 4]) (w' := cz_w r71 (wtg, nI (b), nI (e), bud, fst, mid, wp, fls, prt, wf, wt, wb) u bb) rfl ?_
      refine ez_top (y := nI (b + 1)) (nI_add _ _) ?_
      refine ez_go ez_h15 3 (pc' := 36) (L' := [some (.ref 4), some (.int (nI ((e - b) / 2))), some (.int (nI (1))), some (.int (nI (b + ((e - b) / 2))))]) (st' := [.int ((nI (b + ((e - b) / 2))) - (nI (1))), .int (nI (b + 1)), .ref 4]) (w' := cz_w r71 (wtg, nI (b), nI (e), bud, fst, mid, wp, fls, prt, wf, wt, wb) u bb) rfl ?_
      refine ez_top (y := nI ((b + ((e - b) / 2)) - 1)) (pk_sub (by omega)) ?_
      refine ez_go ez_h15 4 (pc' := 42) (L' := [some (.ref 4), some (.int (nI ((e - b) / 2))), some (.int (nI (1))), some (.int (nI (b + ((e - b) / 2))))]) (st' := [.int ((nI (e)) - (nI (2))), .int (nI ((b + ((e - b) / 2)) - 1)), .int (nI (b + 1)), .ref 4]) (w' := cz_w r71 (wtg, nI (b), nI (e), bud, fst, mid, wp, fls, prt, wf, wt, wb) u bb) rfl ?_
      refine ez_top (y := nI (e - 2)) (pk_sub (by omega)) ?_
      refine ez_cl ez_h15 rfl rfl ?_
      refine c2 _ (wtg, nI (b), nI (e), bud, fst, mid, wp, fls, prt, wf, wt, wb) u bb _ hr71 (fun r72 hr72 => ?_)
      refine ez_go ez_h15 5 (pc' := 52) (L' := [some (.ref 4), some (.int (nI ((e - b) / 2))), some (.int (nI (1))), some (.int (nI (b + ((e - b) / 2))))]) (st' := [.int ((nI (b)) + (nI (2))), .ref 4]) (w' := cz_w r72 (wtg, nI (b), nI (e), bud, fst, mid, wp, fls, prt, wf, wt, wb) u bb) rfl ?_
      refine ez_top (y := nI (b + 2)) (nI_add _ _) ?_
      refine ez_go ez_h15 3 (pc' := 55) (L' := [some (.ref 4), some (.int (nI ((e - b) / 2))), some (.int (nI (1))), some (.int (nI (b + ((e - b) / 2))))]) (st' := [.int ((nI (b + ((e - b) / 2))) + (nI (1))), .int (nI (b + 2)), .ref 4]) (w' := cz_w r72 (wtg, nI (b), nI (e), bud, fst, mid, wp, fls, prt, wf, wt, wb) u bb) rfl ?_
      refine ez_top (y := nI ((b + ((e - b) / 2)) + 1)) (nI_add _ _) ?_
      refine ez_go ez_h15 4 (pc' := 61) (L' := [some (.ref 4), some (.int (nI ((e - b) / 2))), some (.int (nI (1))), some (.int (nI (b + ((e - b) / 2))))]) (st' := [.int ((nI (e)) - (nI (3))), .int (nI ((b + ((e - b) / 2)) + 1)), .int (nI (b + 2)), .ref 4]) (w' := cz_w r72 (wtg, nI (b), nI (e), bud, fst, mid, wp, fls, prt, wf, wt, wb) u bb) rfl ?_
      refine ez_top (y := nI (e - 3)) (pk_sub (by omega)) ?_
      refine ez_cl ez_h15 rfl rfl ?_
      refine c3 _ (wtg, nI (b), nI (e), bud, fst, mid, wp, fls, prt, wf, wt, wb) u bb _ hr72 (fun r73 hr73 => ?_)
      refine ez_go ez_h15 4 (pc' := 68) (L' := [some (.ref 4), some (.int (nI ((e - b) / 2))), some (.int (nI (1))), some (.int (nI (b + ((e - b) / 2))))]) (st' := [.int ((nI (b + ((e - b) / 2))) - (nI (1))), .ref 4]) (w' := cz_w r73 (wtg, nI (b), nI (e), bud, fst, mid, wp, fls, prt, wf, wt, wb) u bb) rfl ?_
      refine ez_top (y := nI ((b + ((e - b) / 2)) - 1)) (pk_sub (by omega)) ?_
      refine ez_go ez_h15 4 (pc' := 72) (L' := [some (.ref 4), some (.int (nI ((e - b) / 2))), some (.int (nI (1))), some (.int (nI (b + ((e - b) / 2))))]) (st' := [.int ((nI (b + ((e - b) / 2))) + (nI (1))), .int (nI (b + ((e - b) / 2))), .int (nI ((b + ((e - b) / 2)) - 1)), .ref 4]) (w' := cz_w r73 (wtg, nI (b), nI (e), bud, fst, mid, wp, fls, prt, wf, wt, wb) u bb) rfl ?_
      refine ez_top (y := nI ((b + ((e - b) / 2)) + 1)) (nI_add _ _) ?_
      refine ez_cl ez_h15 rfl rfl ?_
      refine c4 _ (wtg, nI (b), nI (e), bud, fst, mid, wp, fls, prt, wf, wt, wb) u bb _ hr73 (fun r74 hr74 => ?_)
      refine ez_go ez_h15 5 (pc' := 84) (L' := [some (.ref 4), some (.int (nI ((e - b) / 2))), some (.int (nI (1))), some (.int (nI (b + ((e - b) / 2))))]) (st' := [.int (nI (b + ((e - b) / 2))), .int (nI (b)), .ref 1]) (w' := cz_w r74 (wtg, nI (b), nI (e), bud, fst, mid, wp, fls, prt, wf, wt, wb) u bb) rfl ?_
      refine ez_cl ez_h15 rfl rfl ?_
      refine cr_swap hE hr74 (i := b) (j := b + ((e - b) / 2)) (by omega) (by omega) (wtg, nI (b), nI (e), bud, fst, mid, wp, fls, prt, wf, wt, wb) u bb (fun r34 hr34 => ?_)
      refine ez_go ez_h15 1 (pc' := 105) (L' := [some (.ref 4), some (.int (nI ((e - b) / 2))), some (.int (nI (1))), some (.int (nI (b + ((e - b) / 2))))]) (st' := []) (w' := cz_w r34 (wtg, nI (b), nI (e), bud, fst, mid, wp, fls, prt, wf, wt, wb) u bb) rfl ?_
      exact ez_vret rfl ez_h15 rfl rfl (kk _ hr34)
    · refine mr_H.m (L := [some (.ref 0), some (.int (nI (b))), some (.int (nI (e))), none]) (fun A Q U T post hA kk => ?_) rfl rfl rfl
      refine ez_go ez_h84 3 (pc' := 3) (L' := [some (.ref 0), some (.int (nI (b))), some (.int (nI (e))), none]) (st' := [.int ((nI (e)) - (nI (b)))]) (w' := mz_w A Q U T) rfl ?_
      refine ez_top (y := nI (e - b)) (pk_sub (by omega)) ?_
      refine ez_go ez_h84 2 (pc' := 5) (L' := [some (.ref 0), some (.int (nI (b))), some (.int (nI (e))), none]) (st' := [.int ((nI (e - b)) / (nI (2)))]) (w' := mz_w A Q U T) rfl ?_
      refine ez_top (y := nI ((e - b) / 2)) (pk_div (by omega) (by omega) (by omega)) ?_
      refine ez_go ez_h84 4 (pc' := 9) (L' := [some (.ref 0), some (.int (nI (b))), some (.int (nI (e))), some (.int (nI ((e - b) / 2)))]) (st' := [.int ((nI (e)) - (nI (b)))]) (w' := mz_w A Q U T) rfl ?_
      refine ez_top (y := nI (e - b)) (pk_sub (by omega)) ?_
      refine ez_go ez_h84 2 (pc' := bif decide ((nI (e - b)) ≤ (nI (128))) then 84 else 15) (L' := [some (.ref 0), some (.int (nI (b))), some (.int (nI (e))), some (.int (nI ((e - b) / 2)))]) (st' := []) (w' := mz_w A Q U T) rfl ?_
      refine ez_ifF (zt_nle (a := e - b) (b := 128) (by omega) (by omega)) ?_
      refine ez_go ez_h84 5 (pc' := 20) (L' := [some (.ref 0), some (.int (nI (b))), some (.int (nI (e))), some (.int (nI ((e - b) / 2)))]) (st' := [.int ((nI (b)) + (nI ((e - b) / 2))), .int (nI (b)), .ref 0]) (w' := mz_w A Q U T) rfl ?_
      refine ez_top (y := nI (b + ((e - b) / 2))) (nI_add _ _) ?_
      refine ez_go ez_h84 3 (pc' := 23) (L' := [some (.ref 0), some (.int (nI (b))), some (.int (nI (e))), some (.int (nI ((e - b) / 2)))]) (st' := [.int ((nI (e)) - (nI (1))), .int (nI (b + ((e - b) / 2))), .int (nI (b)), .ref 0]) (w' := mz_w A Q U T) rfl ?_
      refine ez_top (y := nI (e - 1)) (pk_sub (by omega)) ?_
      refine ez_cl ez_h84 rfl rfl ?_
      refine m1 _ Q U T _ hA (fun A71 hA71 => ?_)
      refine ez_go ez_h84 4 (pc' := 30) (L' := [some (.ref 0), some (.int (nI (b))), some (.int (nI (e))), some (.int (nI ((e - b) / 2)))]) (st' := [.int ((nI (b)) + (nI (1))), .ref 0]) (w' := mz_w A71 Q U T) rfl ?_
      refine ez_top (y := nI (b + 1)) (nI_add _ _) ?_
      refine ez_go ez_h84 3 (pc' := 33) (L' := [some (.ref 0), some (.int (nI (b))), some (.int (nI (e))), some (.int (nI ((e - b) / 2)))]) (st' := [.int ((nI (b)) + (nI ((e - b) / 2))), .int (nI (b + 1)), .ref 0]) (w' := mz_w A71 Q U T) rfl ?_
      refine ez_top (y := nI (b + ((e - b) / 2))) (nI_add _ _) ?_
      refine ez_go ez_h84 2 (pc' := 35) (L' := [some (.ref 0), some (.int (nI (b))), some (.int (nI (e))), some (.int (nI ((e - b) / 2)))]) (st' := [.int ((nI (b + ((e - b) / 2))) - (nI (1))), .int (nI (b + 1)), .ref 0]) (w' := mz_w A71 Q U T) rfl ?_
      refine ez_top (y := nI ((b + ((e - b) / 2)) - 1)) (pk_sub (by omega)) ?_
      refine ez_go ez_h84 3 (pc' := 38) (L' := [some (.ref 0), some (.int (nI (b))), some (.int (nI (e))), some (.int (nI ((e - b) / 2)))]) (st' := [.int ((nI (e)) - (nI (2))), .int (nI ((b + ((e - b) / 2)) - 1)), .int (nI (b + 1)), .ref 0]) (w' := mz_w A71 Q U T) rfl ?_
      refine ez_top (y := nI (e - 2)) (pk_sub (by omega)) ?_
      refine ez_cl ez_h84 rfl rfl ?_
      refine m2 _ Q U T _ hA71 (fun A72 hA72 => ?_)
      refine ez_go ez_h84 4 (pc' := 45) (L' := [some (.ref 0), some (.int (nI (b))), some (.int (nI (e))), some (.int (nI ((e - b) / 2)))]) (st' := [.int ((nI (b)) + (nI (2))), .ref 0]) (w' := mz_w A72 Q U T) rfl ?_
      refine ez_top (y := nI (b + 2)) (nI_add _ _) ?_
      refine ez_go ez_h84 3 (pc' := 48) (L' := [some (.ref 0), some (.int (nI (b))), some (.int (nI (e))), some (.int (nI ((e - b) / 2)))]) (st' := [.int ((nI (b)) + (nI ((e - b) / 2))), .int (nI (b + 2)), .ref 0]) (w' := mz_w A72 Q U T) rfl ?_
      refine ez_top (y := nI (b + ((e - b) / 2))) (nI_add _ _) ?_
      refine ez_go ez_h84 2 (pc' := 50) (L' := [some (.ref 0), some (.int (nI (b))), some (.int (nI (e))), some (.int (nI ((e - b) / 2)))]) (st' := [.int ((nI (b + ((e - b) / 2))) + (nI (1))), .int (nI (b + 2)), .ref 0]) (w' := mz_w A72 Q U T) rfl ?_
      refine ez_top (y := nI ((b + ((e - b) / 2)) + 1)) (nI_add _ _) ?_
      refine ez_go ez_h84 3 (pc' := 53) (L' := [some (.ref 0), some (.int (nI (b))), some (.int (nI (e))), some (.int (nI ((e - b) / 2)))]) (st' := [.int ((nI (e)) - (nI (3))), .int (nI ((b + ((e - b) / 2)) + 1)), .int (nI (b + 2)), .ref 0]) (w' := mz_w A72 Q U T) rfl ?_
      refine ez_top (y := nI (e - 3)) (pk_sub (by omega)) ?_
      refine ez_cl ez_h84 rfl rfl ?_
      refine m3 _ Q U T _ hA72 (fun A73 hA73 => ?_)
      refine ez_go ez_h84 4 (pc' := 60) (L' := [some (.ref 0), some (.int (nI (b))), some (.int (nI (e))), some (.int (nI ((e - b) / 2)))]) (st' := [.int ((nI (b)) + (nI ((e - b) / 2))), .ref 0]) (w' := mz_w A73 Q U T) rfl ?_
      refine ez_top (y := nI (b + ((e - b) / 2))) (nI_add _ _) ?_
      refine ez_go ez_h84 2 (pc' := 62) (L' := [some (.ref 0), some (.int (nI (b))), some (.int (nI (e))), some (.int (nI ((e - b) / 2)))]) (st' := [.int ((nI (b + ((e - b) / 2))) - (nI (1))), .ref 0]) (w' := mz_w A73 Q U T) rfl ?_
      refine ez_top (y := nI ((b + ((e - b) / 2)) - 1)) (pk_sub (by omega)) ?_
      refine ez_go ez_h84 3 (pc' := 65) (L' := [some (.ref 0), some (.int (nI (b))), some (.int (nI (e))), some (.int (nI ((e - b) / 2)))]) (st' := [.int ((nI (b)) + (nI ((e - b) / 2))), .int (nI ((b + ((e - b) / 2)) - 1)), .ref 0]) (w' := mz_w A73 Q U T) rfl ?_
      refine ez_top (y := nI (b + ((e - b) / 2))) (nI_add _ _) ?_
      refine ez_go ez_h84 3 (pc' := 68) (L' := [some (.ref 0), some (.int (nI (b))), some (.int (nI (e))), some (.int (nI ((e - b) / 2)))]) (st' := [.int ((nI (b)) + (nI ((e - b) / 2))), .int (nI (b + ((e - b) / 2))), .int (nI ((b + ((e - b) / 2)) - 1)), .ref 0]) (w' := mz_w A73 Q U T) rfl ?_
      refine ez_top (y := nI (b + ((e - b) / 2))) (nI_add _ _) ?_
      refine ez_go ez_h84 2 (pc' := 70) (L' := [some (.ref 0), some (.int (nI (b))), some (.int (nI (e))), some (.int (nI ((e - b) / 2)))]) (st' := [.int ((nI (b + ((e - b) / 2))) + (nI (1))), .int (nI (b + ((e - b) / 2))), .int (nI ((b + ((e - b) / 2)) - 1)), .ref 0]) (w' := mz_w A73 Q U T) rfl ?_
      refine ez_top (y := nI ((b + ((e - b) / 2)) + 1)) (nI_add _ _) ?_
      refine ez_cl ez_h84 rfl rfl ?_
      refine m4 _ Q U T _ hA73 (fun A74 hA74 => ?_)
      refine ez_go ez_h84 5 (pc' := 78) (L' := [some (.ref 0), some (.int (nI (b))), some (.int (nI (e))), some (.int (nI ((e - b) / 2)))]) (st' := [.int ((nI (b)) + (nI ((e - b) / 2))), .int (nI (b)), .ref 0]) (w' := mz_w A74 Q U T) rfl ?_
      refine ez_top (y := nI (b + ((e - b) / 2))) (nI_add _ _) ?_
      refine ez_cl ez_h84 rfl rfl ?_
      refine mr_swap hE hA74 (i := b) (j := b + ((e - b) / 2)) (by omega) (by omega) Q U T (fun A35 hA35 => ?_)
      refine ez_go ez_h84 1 (pc' := 95) (L' := [some (.ref 0), some (.int (nI (b))), some (.int (nI (e))), some (.int (nI ((e - b) / 2)))]) (st' := []) (w' := mz_w A35 Q U T) rfl ?_
      exact ez_vret rfl ez_h84 rfl rfl (kk _ hA35)
  · obtain ⟨w1, g1, o1, l1, p1, x1, y1, c1, m1⟩ := zk_three hE (i := b + (e - b) / 2) (j := b) (k := e - 1) (by omega) (by omega) (by omega) (by omega) (by omega) (by omega) hw
    refine ⟨w1, g1, e - 1, by omega, by omega, o1, l1, p1 b e (by omega) (by omega) (by omega) (by omega) (by omega) (by omega), y1, fun r q u bb post hr e1 e2 kk => ?_, ?_⟩
    · obtain ⟨wtg, fr, to, bud, fst, mid, wp, fls, prt, wf, wt, wb⟩ := q
      replace e1 : fr = nI b := e1
      replace e2 : to = nI e := e2
      subst e1 e2
      rw [if_neg hl]
      refine ez_m.of (L := [some (.ref 4), some (.int (nI ((e - b) / 2))), some (.int (nI (0))), none]) rfl rfl rfl ?_
      refine ez_go ez_h15 4 (pc' := 6) (L' := [some (.ref 4), some (.int (nI ((e - b) / 2))), some (.int (nI (0))), none]) (st' := [.int ((nI (b)) + (nI ((e - b) / 2)))]) (w' := cz_w r (wtg, nI (b), nI (e), bud, fst, mid, wp, fls, prt, wf, wt, wb) u bb) rfl ?_
      refine ez_top (y := nI (b + ((e - b) / 2))) (nI_add _ _) ?_
      refine ez_go ez_h15 3 (pc' := bif decide ((nI (0)) = (nI 0)) then 90 else 11) (L' := [some (.ref 4), some (.int (nI ((e - b) / 2))), some (.int (nI (0))), some (.int (nI (b + ((e - b) / 2))))]) (st' := []) (w' := cz_w r (wtg, nI (b), nI (e), bud, fst, mid, wp, fls, prt, wf, wt, wb) u bb) rfl ?_
      refine ez_ifT (zt_eq (by omega)) ?_
      refine ez_go ez_h15 8 (pc' := 102) (L' := [some (.ref 4), some (.int (nI ((e - b) / 2))), some (.int (nI (0))), some (.int (nI (b + ((e - b) / 2))))]) (st' := [.int ((nI (e)) - (nI (1))), .int (nI (b)), .int (nI (b + ((e - b) / 2))), .ref 4]) (w' := cz_w r (wtg, nI (b), nI (e), bud, fst, mid, wp, fls, prt, wf, wt, wb) u bb) rfl ?_
      refine ez_top (y := nI (e - 1)) (pk_sub (by omega)) ?_
      refine ez_cl ez_h15 rfl rfl ?_
      refine c1 _ (wtg, nI (b), nI (e), bud, fst, mid, wp, fls, prt, wf, wt, wb) u bb _ hr (fun r71 hr71 => ?_)
      exact ez_vret rfl ez_h15 rfl rfl (kk _ hr71)
    · refine mr_H.m (L := [some (.ref 0), some (.int (nI (b))), some (.int (nI (e))), none]) (fun A Q U T post hA kk => ?_) rfl rfl rfl
      refine ez_go ez_h84 3 (pc' := 3) (L' := [some (.ref 0), some (.int (nI (b))), some (.int (nI (e))), none]) (st' := [.int ((nI (e)) - (nI (b)))]) (w' := mz_w A Q U T) rfl ?_
      refine ez_top (y := nI (e - b)) (pk_sub (by omega)) ?_
      refine ez_go ez_h84 2 (pc' := 5) (L' := [some (.ref 0), some (.int (nI (b))), some (.int (nI (e))), none]) (st' := [.int ((nI (e - b)) / (nI (2)))]) (w' := mz_w A Q U T) rfl ?_
      refine ez_top (y := nI ((e - b) / 2)) (pk_div (by omega) (by omega) (by omega)) ?_
      refine ez_go ez_h84 4 (pc' := 9) (L' := [some (.ref 0), some (.int (nI (b))), some (.int (nI (e))), some (.int (nI ((e - b) / 2)))]) (st' := [.int ((nI (e)) - (nI (b)))]) (w' := mz_w A Q U T) rfl ?_
      refine ez_top (y := nI (e - b)) (pk_sub (by omega)) ?_
      refine ez_go ez_h84 2 (pc' := bif decide ((nI (e - b)) ≤ (nI (128))) then 84 else 15) (L' := [some (.ref 0), some (.int (nI (b))), some (.int (nI (e))), some (.int (nI ((e - b) / 2)))]) (st' := []) (w' := mz_w A Q U T) rfl ?_
      refine ez_ifT (zt_le (a := e - b) (b := 128) (by omega) (by omega)) ?_
      refine ez_go ez_h84 4 (pc' := 88) (L' := [some (.ref 0), some (.int (nI (b))), some (.int (nI (e))), some (.int (nI ((e - b) / 2)))]) (st' := [.int ((nI (b)) + (nI ((e - b) / 2))), .ref 0]) (w' := mz_w A Q U T) rfl ?_
      refine ez_top (y := nI (b + ((e - b) / 2))) (nI_add _ _) ?_
      refine ez_go ez_h84 4 (pc' := 92) (L' := [some (.ref 0), some (.int (nI (b))), some (.int (nI (e))), some (.int (nI ((e - b) / 2)))]) (st' := [.int ((nI (e)) - (nI (1))), .int (nI (b)), .int (nI (b + ((e - b) / 2))), .ref 0]) (w' := mz_w A Q U T) rfl ?_
      refine ez_top (y := nI (e - 1)) (pk_sub (by omega)) ?_
      refine ez_cl ez_h84 rfl rfl ?_
      refine m1 _ Q U T _ hA (fun A71 hA71 => ?_)
      exact ez_vret rfl ez_h84 rfl rfl (kk _ hA71)
theorem zk_dGm {E : ze_T} {row : Nat → Nat} {g g' : zs_G} {st x v : Nat} (h1 : 1 ≤ st) (h : cr_H E 22 4 [some (.ref 4), some (.int (nI (st))), some (.int (nI (ze_pi E (x)))), some (.int (nI (st - 1)))] row g (some (.int (nI v))) row g') : cr_M E 22 [.ref 4, .int (nI st), .int (nI (ze_pi E x))] row g (some (.int (nI v))) row g' := by
  refine cr_H.m (L := [some (.ref 4), some (.int (nI (st))), some (.int (nI (ze_pi E (x)))), none]) (fun r q u bb post hr kk => ?_) rfl rfl rfl
  refine ez_go ez_h22 3 (pc' := 3) (L' := [some (.ref 4), some (.int (nI (st))), some (.int (nI (ze_pi E (x)))), none]) (st' := [.int ((nI (st)) - (nI (1)))]) (w' := cz_w r q u bb) rfl ?_
  refine ez_top (y := nI (st - 1)) (pk_sub (by omega)) ?_
  refine ez_go ez_h22 1 (pc' := 4) (L' := [some (.ref 4), some (.int (nI (st))), some (.int (nI (ze_pi E (x)))), some (.int (nI (st - 1)))]) (st' := []) (w' := cz_w r q u bb) rfl ?_
  exact h _ q u bb post hr kk
theorem zk_uGm {E : ze_T} {row : Nat → Nat} {g g' : zs_G} {st x v : Nat} (h : cr_H E 21 4 [some (.ref 4), some (.int (nI (st))), some (.int (nI (ze_pi E (x)))), some (.int (nI (st + 1)))] row g (some (.int (nI v))) row g') : cr_M E 21 [.ref 4, .int (nI st), .int (nI (ze_pi E x))] row g (some (.int (nI v))) row g' := by
  refine cr_H.m (L := [some (.ref 4), some (.int (nI (st))), some (.int (nI (ze_pi E (x)))), none]) (fun r q u bb post hr kk => ?_) rfl rfl rfl
  refine ez_go ez_h21 3 (pc' := 3) (L' := [some (.ref 4), some (.int (nI (st))), some (.int (nI (ze_pi E (x)))), none]) (st' := [.int ((nI (st)) + (nI (1)))]) (w' := cz_w r q u bb) rfl ?_
  refine ez_top (y := nI (st + 1)) (nI_add _ _) ?_
  refine ez_go ez_h21 1 (pc' := 4) (L' := [some (.ref 4), some (.int (nI (st))), some (.int (nI (ze_pi E (x)))), some (.int (nI (st + 1)))]) (st' := []) (w' := cz_w r q u bb) rfl ?_
  exact h _ q u bb post hr kk
theorem zk_uLm {E : ze_T} {row : Nat → Nat} {g g' : zs_G} {st x v : Nat} (h : cr_H E 20 4 [some (.ref 4), some (.int (nI (st))), some (.int (nI (ze_pi E (x)))), some (.int (nI (st + 1)))] row g (some (.int (nI v))) row g') : cr_M E 20 [.ref 4, .int (nI st), .int (nI (ze_pi E x))] row g (some (.int (nI v))) row g' := by
  refine cr_H.m (L := [some (.ref 4), some (.int (nI (st))), some (.int (nI (ze_pi E (x)))), none]) (fun r q u bb post hr kk => ?_) rfl rfl rfl
  refine ez_go ez_h20 3 (pc' := 3) (L' := [some (.ref 4), some (.int (nI (st))), some (.int (nI (ze_pi E (x)))), none]) (st' := [.int ((nI (st)) + (nI (1)))]) (w' := cz_w r q u bb) rfl ?_
  refine ez_top (y := nI (st + 1)) (nI_add _ _) ?_
  refine ez_go ez_h20 1 (pc' := 4) (L' := [some (.ref 4), some (.int (nI (st))), some (.int (nI (ze_pi E (x)))), some (.int (nI (st + 1)))]) (st' := []) (w' := cz_w r q u bb) rfl ?_
  exact h _ q u bb post hr kk
theorem zk_dLm {E : ze_T} {row : Nat → Nat} {g g' : zs_G} {st x v : Nat} (h1 : 1 ≤ st) (h : cr_H E 23 4 [some (.ref 4), some (.int (nI (st))), some (.int (nI (ze_pi E (x)))), some (.int (nI (st - 1)))] row g (some (.int (nI v))) row g') : cr_M E 23 [.ref 4, .int (nI st), .int (nI (ze_pi E x))] row g (some (.int (nI v))) row g' := by
  refine cr_H.m (L := [some (.ref 4), some (.int (nI (st))), some (.int (nI (ze_pi E (x)))), none]) (fun r q u bb post hr kk => ?_) rfl rfl rfl
  refine ez_go ez_h23 3 (pc' := 3) (L' := [some (.ref 4), some (.int (nI (st))), some (.int (nI (ze_pi E (x)))), none]) (st' := [.int ((nI (st)) - (nI (1)))]) (w' := cz_w r q u bb) rfl ?_
  refine ez_top (y := nI (st - 1)) (pk_sub (by omega)) ?_
  refine ez_go ez_h23 1 (pc' := 4) (L' := [some (.ref 4), some (.int (nI (st))), some (.int (nI (ze_pi E (x)))), some (.int (nI (st - 1)))]) (st' := []) (w' := cz_w r q u bb) rfl ?_
  exact h _ q u bb post hr kk
end
section
theorem zs_L.ir {md : Bool} {ka : Nat → Int64} {g : zs_G} {x : Nat} (h : zs_L md ka g x x) : False := by
  cases md
  · replace h : ka x < ka x := h
    exact Int64.lt_irrefl h
  · obtain ⟨a, h1, h2⟩ := h
    have := h2 a h1
    omega
/-- up to l, till one is greater -/
theorem zk_eb {E : ze_T} (hE : ze_ok E) {x l : Nat} (hx : x < ze_n E) (hl : l < ze_n E) {row : Nat → Nat} : ∀ (s f : Nat) (g : zs_G), l ≤ f + s → f ≤ l → zr_ok E row g →
    ∃ (f' : Nat) (g' : zs_G), f ≤ f' ∧ f' ≤ l ∧ zr_ok E row g' ∧ zx_le E g g' ∧ (f' < l → zs_L (ze_md E) (ze_ka E) g' x (row f')) ∧
      cr_G E 18 37 [some (.ref 4), some (.int (nI (ze_pi E (x)))), some (.int (nI (f))), some (.int (nI (l))), none] row g 74 [some (.ref 4), some (.int (nI (ze_pi E (x)))), some (.int (nI (f'))), some (.int (nI (l))), none] row g' ∧ (∀ b e : Nat, mr_G E 81 52 [some (.ref 0), some (.int (nI (b))), some (.int (nI (e))), some (.int (nI (x))), some (.int (nI (f))), some (.int (nI (l))), none] row g 120 [some (.ref 0), some (.int (nI (b))), some (.int (nI (e))), some (.int (nI (x))), some (.int (nI (f'))), some (.int (nI (l))), none] row g') := by
  have hn := hE.1
  intro s
  induction s with
  | zero =>
    intro f g h1 h2 hw
    refine ⟨f, g, Nat.le_refl _, h2, hw, zx_le.rf g, fun z => by omega, ?_, fun b e => ?_⟩
    · intro r q u bb post hr kk
      refine ez_go ez_h18 3 (pc' := bif decide ((nI (l)) ≤ (nI (f))) then 74 else 42) (L' := [some (.ref 4), some (.int (nI (ze_pi E (x)))), some (.int (nI (f))), some (.int (nI (l))), none]) (st' := []) (w' := cz_w r q u bb) rfl ?_
      refine ez_ifT (zt_le (a := l) (b := f) (by omega) (by omega)) ?_
      exact kk _ hr
    · intro A Q U T post hA kk
      refine ez_go ez_h81 3 (pc' := bif decide ((nI (l)) ≤ (nI (f))) then 120 else 59) (L' := [some (.ref 0), some (.int (nI (b))), some (.int (nI (e))), some (.int (nI (x))), some (.int (nI (f))), some (.int (nI (l))), none]) (st' := []) (w' := mz_w A Q U T) rfl ?_
      refine ez_ifT (zt_le (a := l) (b := f) (by omega) (by omega)) ?_
      exact kk _ hA
  | succ s ih =>
    intro f g h1 h2 hw
    by_cases hf : l ≤ f
    · refine ⟨f, g, Nat.le_refl _, h2, hw, zx_le.rf g, fun z => by omega, ?_, fun b e => ?_⟩
      · intro r q u bb post hr kk
        refine ez_go ez_h18 3 (pc' := bif decide ((nI (l)) ≤ (nI (f))) then 74 else 42) (L' := [some (.ref 4), some (.int (nI (ze_pi E (x)))), some (.int (nI (f))), some (.int (nI (l))), none]) (st' := []) (w' := cz_w r q u bb) rfl ?_
        refine ez_ifT (zt_le (a := l) (b := f) (by omega) (by omega)) ?_
        exact kk _ hr
      · intro A Q U T post hA kk
        refine ez_go ez_h81 3 (pc' := bif decide ((nI (l)) ≤ (nI (f))) then 120 else 59) (L' := [some (.ref 0), some (.int (nI (b))), some (.int (nI (e))), some (.int (nI (x))), some (.int (nI (f))), some (.int (nI (l))), none]) (st' := []) (w' := mz_w A Q U T) rfl ?_
        refine ez_ifT (zt_le (a := l) (b := f) (by omega) (by omega)) ?_
        exact kk _ hA
    · have hw1 := hw.go hx (hw.1 (f + 1) (by omega))
      have hg1 : zx_le E g _ := zx_le.go hw x (row (f + 1))
      cases hb : zs_b (ze_md E) (ze_ka E) x (row (f + 1)) g with
      | false =>
        obtain ⟨f', g', a1, a2, a3, a4, a5, a6, a7⟩ := ih (f + 1) _ (by omega) (by omega) hw1
        refine ⟨f', g', by omega, a2, a3, hg1.tr a4, a5, ?_, fun b e => ?_⟩
        · intro r q u bb post hr kk
          refine ez_go ez_h18 3 (pc' := bif decide ((nI (l)) ≤ (nI (f))) then 74 else 42) (L' := [some (.ref 4), some (.int (nI (ze_pi E (x)))), some (.int (nI (f))), some (.int (nI (l))), none]) (st' := []) (w' := cz_w r q u bb) rfl ?_
          refine ez_ifF (zt_nle (a := l) (b := f) (by omega) (by omega)) ?_
          refine ez_inc ez_h18 rfl rfl (v := nI (f + 1)) (zi_1 _) rfl ?_
          refine ez_go ez_h18 6 (pc' := 55) (L' := [some (.ref 4), some (.int (nI (ze_pi E (x)))), some (.int (nI (f + 1))), some (.int (nI (l))), none]) (st' := [.int (nI (f + 1)), .ref 1, .int (nI (ze_pi E (x))), .ref 1]) (w' := cz_w r q u bb) rfl ?_
          refine ez_cl ez_h18 rfl rfl ?_
          refine cr_at hE hr (k := f + 1) (by omega) q u bb ?_
          refine ez_cl ez_h18 rfl rfl ?_
          refine cr_less hE hr hw.2 (x := x) (y := row (f + 1)) hx (hw.1 (f + 1) (by omega)) q u bb (fun r36 hr36 => ?_)
          refine ez_go ez_h18 1 (pc' := bif decide ((zs_z (zs_b (ze_md E) (ze_ka E) x (row (f + 1)) g)) = 0) then 37 else 64) (L' := [some (.ref 4), some (.int (nI (ze_pi E (x)))), some (.int (nI (f + 1))), some (.int (nI (l))), none]) (st' := []) (w' := cz_w r36 q u bb) rfl ?_
          refine ez_ifT (zz_f hb) ?_
          exact a6 _ q u bb post hr36 kk
        · intro A Q U T post hA kk
          refine ez_go ez_h81 3 (pc' := bif decide ((nI (l)) ≤ (nI (f))) then 120 else 59) (L' := [some (.ref 0), some (.int (nI (b))), some (.int (nI (e))), some (.int (nI (x))), some (.int (nI (f))), some (.int (nI (l))), none]) (st' := []) (w' := mz_w A Q U T) rfl ?_
          refine ez_ifF (zt_nle (a := l) (b := f) (by omega) (by omega)) ?_
          refine ez_inc ez_h81 rfl rfl (v := nI (f + 1)) (zi_1 _) rfl ?_
          refine ez_go ez_h81 5 (pc' := 70) (L' := [some (.ref 0), some (.int (nI (b))), some (.int (nI (e))), some (.int (nI (x))), some (.int (nI (f + 1))), some (.int (nI (l))), none]) (st' := [.int (nI (f + 1)), .ref 4, .int (nI (x)), .ref 0]) (w' := mz_w A Q U T) rfl ?_
          refine mr_ld ez_h81 rfl hE hA (k := f + 1) (by omega) ?_
          refine ez_cl ez_h81 rfl rfl ?_
          refine mr_less hE hA hw.2 (x := x) (y := row (f + 1)) hx (hw.1 (f + 1) (by omega)) Q U T (fun A37 hA37 => ?_)
          refine ez_go ez_h81 1 (pc' := bif decide (¬ (zs_z (zs_b (ze_md E) (ze_ka E) x (row (f + 1)) g)) = 0) then 81 else 77) (L' := [some (.ref 0), some (.int (nI (b))), some (.int (nI (e))), some (.int (nI (x))), some (.int (nI (f + 1))), some (.int (nI (l))), none]) (st' := []) (w' := mz_w A37 Q U T) rfl ?_
          refine ez_ifF (fun z => z (zz_f hb)) ?_
          refine ez_go ez_h81 6 (pc' := bif decide ((nI (1)) = (nI 0)) then 120 else 52) (L' := [some (.ref 0), some (.int (nI (b))), some (.int (nI (e))), some (.int (nI (x))), some (.int (nI (f + 1))), some (.int (nI (l))), some (.int (nI (1)))]) (st' := []) (w' := mz_w A37 Q U T) rfl ?_
          refine ez_ifF (zt_ne (by omega) (by omega) (by omega)) ?_
          exact ez_E.le (ez_lc (ez_lc (ez_lc (ez_lc (ez_lc (ez_lc (ez_ln ez_l0))))))) (a7 b e _ Q U T post hA37 kk)
      | true =>
        refine ⟨f + 1, _, by omega, by omega, hw1, hg1, fun _ => zs_b_L hb, ?_, fun b e => ?_⟩
        · intro r q u bb post hr kk
          refine ez_go ez_h18 3 (pc' := bif decide ((nI (l)) ≤ (nI (f))) then 74 else 42) (L' := [some (.ref 4), some (.int (nI (ze_pi E (x)))), some (.int (nI (f))), some (.int (nI (l))), none]) (st' := []) (w' := cz_w r q u bb) rfl ?_
          refine ez_ifF (zt_nle (a := l) (b := f) (by omega) (by omega)) ?_
          refine ez_inc ez_h18 rfl rfl (v := nI (f + 1)) (zi_1 _) rfl ?_
          refine ez_go ez_h18 6 (pc' := 55) (L' := [some (.ref 4), some (.int (nI (ze_pi E (x)))), some (.int (nI (f + 1))), some (.int (nI (l))), none]) (st' := [.int (nI (f + 1)), .ref 1, .int (nI (ze_pi E (x))), .ref 1]) (w' := cz_w r q u bb) rfl ?_
          refine ez_cl ez_h18 rfl rfl ?_
          refine cr_at hE hr (k := f + 1) (by omega) q u bb ?_
          refine ez_cl ez_h18 rfl rfl ?_
          refine cr_less hE hr hw.2 (x := x) (y := row (f + 1)) hx (hw.1 (f + 1) (by omega)) q u bb (fun r38 hr38 => ?_)
          refine ez_go ez_h18 1 (pc' := bif decide ((zs_z (zs_b (ze_md E) (ze_ka E) x (row (f + 1)) g)) = 0) then 37 else 64) (L' := [some (.ref 4), some (.int (nI (ze_pi E (x)))), some (.int (nI (f + 1))), some (.int (nI (l))), none]) (st' := []) (w' := cz_w r38 q u bb) rfl ?_
          refine ez_ifF (zz_t hb) ?_
          refine ez_go ez_h18 1 (pc' := 74) (L' := [some (.ref 4), some (.int (nI (ze_pi E (x)))), some (.int (nI (f + 1))), some (.int (nI (l))), none]) (st' := []) (w' := cz_w r38 q u bb) rfl ?_
          exact kk _ hr38
        · intro A Q U T post hA kk
          refine ez_go ez_h81 3 (pc' := bif decide ((nI (l)) ≤ (nI (f))) then 120 else 59) (L' := [some (.ref 0), some (.int (nI (b))), some (.int (nI (e))), some (.int (nI (x))), some (.int (nI (f))), some (.int (nI (l))), none]) (st' := []) (w' := mz_w A Q U T) rfl ?_
          refine ez_ifF (zt_nle (a := l) (b := f) (by omega) (by omega)) ?_
          refine ez_inc ez_h81 rfl rfl (v := nI (f + 1)) (zi_1 _) rfl ?_
          refine ez_go ez_h81 5 (pc' := 70) (L' := [some (.ref 0), some (.int (nI (b))), some (.int (nI (e))), some (.int (nI (x))), some (.int (nI (f + 1))), some (.int (nI (l))), none]) (st' := [.int (nI (f + 1)), .ref 4, .int (nI (x)), .ref 0]) (w' := mz_w A Q U T) rfl ?_
          refine mr_ld ez_h81 rfl hE hA (k := f + 1) (by omega) ?_
          refine ez_cl ez_h81 rfl rfl ?_
          refine mr_less hE hA hw.2 (x := x) (y := row (f + 1)) hx (hw.1 (f + 1) (by omega)) Q U T (fun A39 hA39 => ?_)
          refine ez_go ez_h81 1 (pc' := bif decide (¬ (zs_z (zs_b (ze_md E) (ze_ka E) x (row (f + 1)) g)) = 0) then 81 else 77) (L' := [some (.ref 0), some (.int (nI (b))), some (.int (nI (e))), some (.int (nI (x))), some (.int (nI (f + 1))), some (.int (nI (l))), none]) (st' := []) (w' := mz_w A39 Q U T) rfl ?_
          refine ez_ifT (zz_t hb) ?_
          refine ez_go ez_h81 5 (pc' := bif decide ((nI (0)) = (nI 0)) then 120 else 52) (L' := [some (.ref 0), some (.int (nI (b))), some (.int (nI (e))), some (.int (nI (x))), some (.int (nI (f + 1))), some (.int (nI (l))), some (.int (nI (0)))]) (st' := []) (w' := mz_w A39 Q U T) rfl ?_
          refine ez_ifT (zt_eq (by omega)) ?_
          exact ez_E.le (ez_lc (ez_lc (ez_lc (ez_lc (ez_lc (ez_lc (ez_ln ez_l0))))))) (kk _ hA39)
theorem zk_el {E : ze_T} (hE : ze_ok E) {x b e : Nat} (hx : x < ze_n E) (he : e ≤ ze_n E) : ∀ (s f l kn : Nat) (row : Nat → Nat) (g : zs_G), l ≤ f + s → b ≤ f → b ≤ l → l < e → f ≤ e → kn + l ≤ 600 + f → kn ≤ 600 → row b = x → zr_ok E row g → zs_K (ze_md E) (ze_ka E) g (row l) x → (f < l → zs_L (ze_md E) (ze_ka E) g x (row f)) →
    ∃ (l' : Nat) (row' : Nat → Nat) (g' : zs_G), b ≤ l' ∧ l' < e ∧ zr_ok E row' g' ∧ zx_le E g g' ∧ zp_in row row' b e ∧ row' b = x ∧
      cr_G E 18 77 [some (.ref 4), some (.int (nI (ze_pi E (x)))), some (.int (nI (f))), some (.int (nI (l))), some (.int (nI (kn)))] row g 119 [some (.ref 4), some (.int (nI (ze_pi E (x)))), none, some (.int (nI (l'))), none] row' g' ∧ mr_G E 81 120 [some (.ref 0), some (.int (nI (b))), some (.int (nI (e))), some (.int (nI (x))), some (.int (nI (f))), some (.int (nI (l))), none] row g 183 [some (.ref 0), some (.int (nI (b))), none, some (.int (nI (x))), none, some (.int (nI (l'))), none] row' g' := by
  have hn := hE.1
  intro s
  induction s using Nat.strongRecOn with
  | _ s ih =>
    intro f l kn row g h1 h2 h3 h4 h4b h5 h6 hb hw hK hL
    by_cases hfl : l ≤ f
    · refine ⟨l, row, g, h3, h4, hw, zx_le.rf g, zp_in.rf _ _ _, hb, ?_, ?_⟩
      · intro r q u bb post hr kk
        refine ez_go ez_h18 3 (pc' := bif decide ((nI (l)) ≤ (nI (f))) then 119 else 82) (L' := [some (.ref 4), some (.int (nI (ze_pi E (x)))), some (.int (nI (f))), some (.int (nI (l))), some (.int (nI (kn)))]) (st' := []) (w' := cz_w r q u bb) rfl ?_
        refine ez_ifT (zt_le (a := l) (b := f) (by omega) (by omega)) ?_
        exact ez_E.le (ez_lc (ez_lc (ez_ln (ez_lc (ez_ln ez_l0))))) (kk _ hr)
      · intro A Q U T post hA kk
        refine ez_go ez_h81 3 (pc' := bif decide ((nI (l)) ≤ (nI (f))) then 183 else 127) (L' := [some (.ref 0), some (.int (nI (b))), some (.int (nI (e))), some (.int (nI (x))), some (.int (nI (f))), some (.int (nI (l))), none]) (st' := []) (w' := mz_w A Q U T) rfl ?_
        refine ez_ifT (zt_le (a := l) (b := f) (by omega) (by omega)) ?_
        exact ez_E.le (ez_lc (ez_lc (ez_ln (ez_lc (ez_ln (ez_lc (ez_lc ez_l0))))))) (kk _ hA)
    · have hL := hL (by omega)
      have hbf : b ≠ f := fun z => by rw [← z, hb] at hL; exact hL.ir
      have hw1 : zr_ok E (zs_sw row f l) g := hw.sw (by omega) (by omega)
      have e1 : zs_sw row f l f = row l := (zk_swp (by omega)).1
      have e2 : zs_sw row f l l = row f := (zk_swp (by omega)).2
      have e3 : zs_sw row f l b = x := by rw [zk_swo hbf (by omega)]; exact hb
      obtain ⟨l1, g1, a1, a2, a3, a4, a5, a6, a7, a8, a9⟩ := zk_dG hE (lo := f) hx (row := zs_sw row f l) l (l - 1) g (by omega) (by omega) (by omega) hw1 (by rw [e1]; exact hK)
      obtain ⟨f1, g2, b1, b2, b3, b4, b5, b6, b7, b8, b9⟩ := zk_uG hE (hi := l) hx (row := zs_sw row f l) l (f + 1) g1 (by omega) (by omega) (by omega) a3 (by rw [e2]; exact a4.2 _ _ hx hL)
      obtain ⟨l', row', g', d1, d2, d3, d4, d5, d6, d7, d8⟩ := ih (l1 - f1) (by omega) f1 l1 (kn + 1) (zs_sw row f l) g2 (by omega) (by omega) (by omega) (by omega) (by omega) (by omega) (by omega) e3 b3 (b4.1 _ _ (a3.1 l1 (by omega)) a5) (fun _ => b5)
      refine ⟨l', row', g', d1, d2, d3, (a4.tr b4).tr d4, (zp_in.sw row (by omega) (by omega)).tr d5, d6, ?_, ?_⟩
      · intro r q u bb post hr kk
        refine ez_go ez_h18 3 (pc' := bif decide ((nI (l)) ≤ (nI (f))) then 119 else 82) (L' := [some (.ref 4), some (.int (nI (ze_pi E (x)))), some (.int (nI (f))), some (.int (nI (l))), some (.int (nI (kn)))]) (st' := []) (w' := cz_w r q u bb) rfl ?_
        refine ez_ifF (zt_nle (a := l) (b := f) (by omega) (by omega)) ?_
        refine ez_go ez_h18 3 (pc' := bif decide ((nI (600)) ≤ (nI (kn))) then 119 else 90) (L' := [some (.ref 4), some (.int (nI (ze_pi E (x)))), some (.int (nI (f))), some (.int (nI (l))), some (.int (nI (kn)))]) (st' := []) (w' := cz_w r q u bb) rfl ?_
        refine ez_ifF (zt_nle (a := 600) (b := kn) (by omega) (by omega)) ?_
        refine ez_go ez_h18 4 (pc' := 96) (L' := [some (.ref 4), some (.int (nI (ze_pi E (x)))), some (.int (nI (f))), some (.int (nI (l))), some (.int (nI (kn)))]) (st' := [.int (nI (l)), .int (nI (f)), .ref 1]) (w' := cz_w r q u bb) rfl ?_
        refine ez_cl ez_h18 rfl rfl ?_
        refine cr_swap hE hr (i := f) (j := l) (by omega) (by omega) q u bb (fun r40 hr40 => ?_)
        refine ez_go ez_h18 3 (pc' := 102) (L' := [some (.ref 4), some (.int (nI (ze_pi E (x)))), some (.int (nI (f))), some (.int (nI (l))), some (.int (nI (kn)))]) (st' := [.int (nI (ze_pi E (x))), .int (nI (l)), .ref 4]) (w' := cz_w r40 q u bb) rfl ?_
        refine ez_cl ez_h18 rfl rfl ?_
        refine zk_dGm (by omega) (a7 l) _ q u bb _ hr40 (fun r41 hr41 => ?_)
        refine ez_go ez_h18 4 (pc' := 109) (L' := [some (.ref 4), some (.int (nI (ze_pi E (x)))), some (.int (nI (f))), some (.int (nI (l1))), some (.int (nI (kn)))]) (st' := [.int (nI (ze_pi E (x))), .int (nI (f)), .ref 4]) (w' := cz_w r41 q u bb) rfl ?_
        refine ez_cl ez_h18 rfl rfl ?_
        refine zk_uGm (b7 f) _ q u bb _ hr41 (fun r42 hr42 => ?_)
        refine ez_go ez_h18 1 (pc' := 113) (L' := [some (.ref 4), some (.int (nI (ze_pi E (x)))), some (.int (nI (f1))), some (.int (nI (l1))), some (.int (nI (kn)))]) (st' := []) (w' := cz_w r42 q u bb) rfl ?_
        refine ez_inc ez_h18 rfl rfl (v := nI (kn + 1)) (zi_1 _) rfl ?_
        refine ez_go ez_h18 1 (pc' := 77) (L' := [some (.ref 4), some (.int (nI (ze_pi E (x)))), some (.int (nI (f1))), some (.int (nI (l1))), some (.int (nI (kn + 1)))]) (st' := []) (w' := cz_w r42 q u bb) rfl ?_
        exact d7 _ q u bb post hr42 kk
      · intro A Q U T post hA kk
        refine ez_go ez_h81 3 (pc' := bif decide ((nI (l)) ≤ (nI (f))) then 183 else 127) (L' := [some (.ref 0), some (.int (nI (b))), some (.int (nI (e))), some (.int (nI (x))), some (.int (nI (f))), some (.int (nI (l))), none]) (st' := []) (w' := mz_w A Q U T) rfl ?_
        refine ez_ifF (zt_nle (a := l) (b := f) (by omega) (by omega)) ?_
        refine ez_go ez_h81 3 (pc' := 132) (L' := [some (.ref 0), some (.int (nI (b))), some (.int (nI (e))), some (.int (nI (x))), some (.int (nI (f))), some (.int (nI (l))), none]) (st' := [.int (nI (l)), .int (nI (f)), .ref 0]) (w' := mz_w A Q U T) rfl ?_
        refine ez_cl ez_h81 rfl rfl ?_
        refine mr_swap hE hA (i := f) (j := l) (by omega) (by omega) Q U T (fun A43 hA43 => ?_)
        refine ez_inc ez_h81 rfl rfl (v := nI (l - 1)) (zi_m (by omega)) rfl ?_
        refine a9 b e f _ Q U T post hA43 (fun A8 hA8 => ?_)
        refine ez_inc ez_h81 rfl rfl (v := nI (f + 1)) (zi_1 _) rfl ?_
        refine b9 b e l1 _ Q U T post hA8 (fun A9 hA9 => ?_)
        exact d8 _ Q U T post hA9 kk
/-- EQUAL ones go left: the range begins behind l -/
theorem zk_equal {E : ze_T} (hE : ze_ok E) {b e : Nat} (hb : 1 ≤ b) (hs : b + 24 ≤ e) (he : e ≤ ze_n E) {row : Nat → Nat} {g : zs_G} (hw : zr_ok E row g) (hK : ∀ k, b ≤ k → k < e → zs_K (ze_md E) (ze_ka E) g (row b) (row k)) :
    ∃ (row' : Nat → Nat) (g' : zs_G) (l : Nat), b ≤ l ∧ l < e ∧ zr_ok E row' g' ∧ zg_le E g g' ∧ zp_in row row' b e ∧ zs_S E row' g' (l + 1) e ∧
      (∀ (r : cz_Row) (q : cz_Qk) (u : cz_Rn) (bb : cz_Bn) (post : Option Value → ez_W → Prop), cr_R E row g r → q.2.1 = nI b → q.2.2.1 = nI e → (∀ r' : cz_Row, cr_R E row' g' r' → post (some (.int (nI l))) (cz_w r' q u bb)) → ez_m 18 [.ref 4] (cz_w r q u bb) post) ∧
      mr_M E 81 [.ref 0, .int (nI b), .int (nI e)] row g (some (.int (nI (l + 1)))) row' g' := by
  have hn := hE.1
  have hx : row b < ze_n E := hw.1 b (by omega)
  obtain ⟨l1, g1, a1, a2, a3, a4, a5, a6, a7, a8, a9⟩ := zk_dG hE (lo := b) hx (row := row) e (e - 1) g (by omega) (by omega) (by omega) hw (zs_K.rf _)
  have h2 : ∃ (f2 : Nat) (g2 : zs_G), b ≤ f2 ∧ f2 ≤ l1 + 1 ∧ zr_ok E row g2 ∧ zx_le E g1 g2 ∧ (f2 < l1 → zs_L (ze_md E) (ze_ka E) g2 (row b) (row f2)) ∧
      (∀ (r : cz_Row) (q : cz_Qk) (u : cz_Rn) (bb : cz_Bn) (post : Option Value → ez_W → Prop), q.2.1 = nI b → q.2.2.1 = nI e → cr_R E row g1 r → (∀ r' : cz_Row, cr_R E row g2 r' → ez_E 18 74 [some (.ref 4), some (.int (nI (ze_pi E (row b)))), some (.int (nI (f2))), some (.int (nI (l1))), none] [] (cz_w r' q u bb) post) → ez_E 18 27 [some (.ref 4), some (.int (nI (ze_pi E (row b)))), some (.int (nI (b))), some (.int (nI (l1))), none] [] (cz_w r q u bb) post) ∧ mr_G E 81 36 [some (.ref 0), some (.int (nI (b))), some (.int (nI (e))), some (.int (nI (row b))), some (.int (nI (b))), some (.int (nI (l1))), none] row g1 120 [some (.ref 0), some (.int (nI (b))), some (.int (nI (e))), some (.int (nI (row b))), some (.int (nI (f2))), some (.int (nI (l1))), none] row g2 := by
    by_cases hle : l1 + 1 = e
    · obtain ⟨f2, g2, b1, b2, b3, b4, b5, b6, b7⟩ := zk_eb hE hx (l := l1) (by omega) (row := row) l1 b g1 (by omega) a1 a3
      refine ⟨f2, g2, b1, by omega, b3, b4, b5, fun r q u bb post e1 e2 hr kk => ?_, fun A Q U T post hA kk => ?_⟩
      · obtain ⟨wtg, fr, to, bud, fst, mid, wp, fls, prt, wf, wt, wb⟩ := q
        replace e1 : fr = nI b := e1
        replace e2 : to = nI e := e2
        subst e1 e2
        refine ez_go ez_h18 3 (pc' := 30) (L' := [some (.ref 4), some (.int (nI (ze_pi E (row b)))), some (.int (nI (b))), some (.int (nI (l1))), none]) (st' := [.int ((nI (l1)) + (nI (1)))]) (w' := cz_w r (wtg, nI (b), nI (e), bud, fst, mid, wp, fls, prt, wf, wt, wb) u bb) rfl ?_
        refine ez_top (y := nI (l1 + 1)) (nI_add _ _) ?_
        refine ez_go ez_h18 3 (pc' := bif decide (¬ (nI (l1 + 1)) = (nI (e))) then 67 else 37) (L' := [some (.ref 4), some (.int (nI (ze_pi E (row b)))), some (.int (nI (b))), some (.int (nI (l1))), none]) (st' := []) (w' := cz_w r (wtg, nI (b), nI (e), bud, fst, mid, wp, fls, prt, wf, wt, wb) u bb) rfl ?_
        refine ez_ifF (fun z => z (zt_eq (by omega))) ?_
        exact b6 _ (wtg, nI (b), nI (e), bud, fst, mid, wp, fls, prt, wf, wt, wb) u bb post hr kk
      · skip
        refine ez_go ez_h81 5 (pc' := 43) (L' := [some (.ref 0), some (.int (nI (b))), some (.int (nI (e))), some (.int (nI (row b))), some (.int (nI (b))), some (.int (nI (l1))), some (.int (nI (1)))]) (st' := [.int ((nI (l1)) + (nI (1)))]) (w' := mz_w A Q U T) rfl ?_
        refine ez_top (y := nI (l1 + 1)) (nI_add _ _) ?_
        refine ez_go ez_h81 2 (pc' := bif decide (¬ (nI (l1 + 1)) = (nI (e))) then 87 else 47) (L' := [some (.ref 0), some (.int (nI (b))), some (.int (nI (e))), some (.int (nI (row b))), some (.int (nI (b))), some (.int (nI (l1))), some (.int (nI (1)))]) (st' := []) (w' := mz_w A Q U T) rfl ?_
        refine ez_ifF (fun z => z (zt_eq (by omega))) ?_
        refine ez_go ez_h81 2 (pc' := bif decide ((nI (1)) = (nI 0)) then 120 else 52) (L' := [some (.ref 0), some (.int (nI (b))), some (.int (nI (e))), some (.int (nI (row b))), some (.int (nI (b))), some (.int (nI (l1))), some (.int (nI (1)))]) (st' := []) (w' := mz_w A Q U T) rfl ?_
        refine ez_ifF (zt_ne (by omega) (by omega) (by omega)) ?_
        exact ez_E.le (ez_lc (ez_lc (ez_lc (ez_lc (ez_lc (ez_lc (ez_ln ez_l0))))))) (b7 b e _ Q U T post hA kk)
    · obtain ⟨f2, g2, b1, b2, b3, b4, b5, b6, b7, b8, b9⟩ := zk_uG hE (hi := l1 + 1) hx (row := row) (l1 + 1) (b + 1) g1 (by omega) (by omega) (by omega) a3 (a6 (l1 + 1) (by omega) (by omega))
      refine ⟨f2, g2, by omega, b2, b3, b4, fun _ => b5, fun r q u bb post e1 e2 hr kk => ?_, fun A Q U T post hA kk => ?_⟩
      · obtain ⟨wtg, fr, to, bud, fst, mid, wp, fls, prt, wf, wt, wb⟩ := q
        replace e1 : fr = nI b := e1
        replace e2 : to = nI e := e2
        subst e1 e2
        refine ez_go ez_h18 3 (pc' := 30) (L' := [some (.ref 4), some (.int (nI (ze_pi E (row b)))), some (.int (nI (b))), some (.int (nI (l1))), none]) (st' := [.int ((nI (l1)) + (nI (1)))]) (w' := cz_w r (wtg, nI (b), nI (e), bud, fst, mid, wp, fls, prt, wf, wt, wb) u bb) rfl ?_
        refine ez_top (y := nI (l1 + 1)) (nI_add _ _) ?_
        refine ez_go ez_h18 3 (pc' := bif decide (¬ (nI (l1 + 1)) = (nI (e))) then 67 else 37) (L' := [some (.ref 4), some (.int (nI (ze_pi E (row b)))), some (.int (nI (b))), some (.int (nI (l1))), none]) (st' := []) (w' := cz_w r (wtg, nI (b), nI (e), bud, fst, mid, wp, fls, prt, wf, wt, wb) u bb) rfl ?_
        refine ez_ifT (zt_ne (by omega) (by omega) (by omega)) ?_
        refine ez_go ez_h18 3 (pc' := 70) (L' := [some (.ref 4), some (.int (nI (ze_pi E (row b)))), some (.int (nI (b))), some (.int (nI (l1))), none]) (st' := [.int (nI (ze_pi E (row b))), .int (nI (b)), .ref 4]) (w' := cz_w r (wtg, nI (b), nI (e), bud, fst, mid, wp, fls, prt, wf, wt, wb) u bb) rfl ?_
        refine ez_cl ez_h18 rfl rfl ?_
        refine zk_uGm (b7 b) _ (wtg, nI (b), nI (e), bud, fst, mid, wp, fls, prt, wf, wt, wb) u bb _ hr (fun r9 hr9 => ?_)
        refine ez_go ez_h18 1 (pc' := 74) (L' := [some (.ref 4), some (.int (nI (ze_pi E (row b)))), some (.int (nI (f2))), some (.int (nI (l1))), none]) (st' := []) (w' := cz_w r9 (wtg, nI (b), nI (e), bud, fst, mid, wp, fls, prt, wf, wt, wb) u bb) rfl ?_
        exact kk _ hr9
      · skip
        refine ez_go ez_h81 5 (pc' := 43) (L' := [some (.ref 0), some (.int (nI (b))), some (.int (nI (e))), some (.int (nI (row b))), some (.int (nI (b))), some (.int (nI (l1))), some (.int (nI (1)))]) (st' := [.int ((nI (l1)) + (nI (1)))]) (w' := mz_w A Q U T) rfl ?_
        refine ez_top (y := nI (l1 + 1)) (nI_add _ _) ?_
        refine ez_go ez_h81 2 (pc' := bif decide (¬ (nI (l1 + 1)) = (nI (e))) then 87 else 47) (L' := [some (.ref 0), some (.int (nI (b))), some (.int (nI (e))), some (.int (nI (row b))), some (.int (nI (b))), some (.int (nI (l1))), some (.int (nI (1)))]) (st' := []) (w' := mz_w A Q U T) rfl ?_
        refine ez_ifT (zt_ne (by omega) (by omega) (by omega)) ?_
        refine ez_go ez_h81 2 (pc' := bif decide ((nI (1)) = (nI 0)) then 120 else 92) (L' := [some (.ref 0), some (.int (nI (b))), some (.int (nI (e))), some (.int (nI (row b))), some (.int (nI (b))), some (.int (nI (l1))), some (.int (nI (1)))]) (st' := []) (w' := mz_w A Q U T) rfl ?_
        refine ez_ifF (zt_ne (by omega) (by omega) (by omega)) ?_
        refine ez_inc ez_h81 rfl rfl (v := nI (b + 1)) (zi_1 _) rfl ?_
        exact ez_E.le (ez_lc (ez_lc (ez_lc (ez_lc (ez_lc (ez_lc (ez_ln ez_l0))))))) (b8 b e l1 _ Q U T post hA kk)
  obtain ⟨f2, g2, c1, c2, c3, c4, c5, c6, c7⟩ := h2
  obtain ⟨l, row3, g3, d1, d2, d3, d4, d5, d6, d7, d8⟩ := zk_el hE hx he (b := b) (l1 - f2) f2 l1 0 row g2 (by omega) c1 a1 (by omega) (by omega) (by omega) (by omega) rfl c3 (c4.1 _ _ (a3.1 l1 (by omega)) a5) c5
  have hge : zg_le E g g3 := (a4.1.tr c4.1).tr d4.1
  have hp3 : zp_in row (va_up (va_up row3 b (row3 l)) l (row b)) b e := d5.tr (by
    have e9 : va_up (va_up row3 b (row3 l)) l (row b) = zs_sw row3 b l := by unfold zs_sw; rw [d6]
    rw [e9]
    exact zp_in.sw row3 (by omega) (by omega))
  refine ⟨va_up (va_up row3 b (row3 l)) l (row b), g3, l, d1, d2, (d3.set (d3.1 l (by omega))).set hx, hge, hp3, ⟨by omega, fun k k1 k2 => ?_⟩, fun r q u bb post hr e1 e2 kk => ?_, ?_⟩
  · obtain ⟨j, j1, j2, j3⟩ := hp3.1 k (by omega) k2
    rw [j3, show l + 1 - 1 = l by omega, va_up_self]
    exact hge _ _ hx (hK j j1 j2)
  · obtain ⟨wtg, fr, to, bud, fst, mid, wp, fls, prt, wf, wt, wb⟩ := q
    replace e1 : fr = nI b := e1
    replace e2 : to = nI e := e2
    subst e1 e2
    refine ez_m.of (L := [some (.ref 4), none, none, none, none]) rfl rfl rfl ?_
    refine ez_go ez_h18 4 (pc' := 8) (L' := [some (.ref 4), none, none, none, none]) (st' := [.int (nI (b)), .ref 1]) (w' := cz_w r (wtg, nI (b), nI (e), bud, fst, mid, wp, fls, prt, wf, wt, wb) u bb) rfl ?_
    refine ez_cl ez_h18 rfl rfl ?_
    refine cr_at hE hr (k := b) (by omega) (wtg, nI (b), nI (e), bud, fst, mid, wp, fls, prt, wf, wt, wb) u bb ?_
    refine ez_go ez_h18 8 (pc' := 23) (L' := [some (.ref 4), some (.int (nI (ze_pi E (row b)))), some (.int (nI (b))), none, none]) (st' := [.int (nI (ze_pi E (row b))), .int (nI (e)), .ref 4]) (w' := cz_w r (wtg, nI (b), nI (e), bud, fst, mid, wp, fls, prt, wf, wt, wb) u bb) rfl ?_
    refine ez_cl ez_h18 rfl rfl ?_
    refine zk_dGm (by omega) (a7 e) _ (wtg, nI (b), nI (e), bud, fst, mid, wp, fls, prt, wf, wt, wb) u bb _ hr (fun r9 hr9 => ?_)
    refine ez_go ez_h18 1 (pc' := 27) (L' := [some (.ref 4), some (.int (nI (ze_pi E (row b)))), some (.int (nI (b))), some (.int (nI (l1))), none]) (st' := []) (w' := cz_w r9 (wtg, nI (b), nI (e), bud, fst, mid, wp, fls, prt, wf, wt, wb) u bb) rfl ?_
    refine c6 _ (wtg, nI (b), nI (e), bud, fst, mid, wp, fls, prt, wf, wt, wb) u bb post rfl rfl hr9 (fun r10 hr10 => ?_)
    refine ez_go ez_h18 2 (pc' := 77) (L' := [some (.ref 4), some (.int (nI (ze_pi E (row b)))), some (.int (nI (f2))), some (.int (nI (l1))), some (.int (nI (0)))]) (st' := []) (w' := cz_w r10 (wtg, nI (b), nI (e), bud, fst, mid, wp, fls, prt, wf, wt, wb) u bb) rfl ?_
    refine d7 _ (wtg, nI (b), nI (e), bud, fst, mid, wp, fls, prt, wf, wt, wb) u bb post hr10 (fun r11 hr11 => ?_)
    refine ez_go ez_h18 7 (pc' := 132) (L' := [some (.ref 4), some (.int (nI (ze_pi E (row b)))), none, some (.int (nI (l))), none]) (st' := [.int (nI (l)), .ref 1, .int (nI (b)), .ref 1]) (w' := cz_w r11 (wtg, nI (b), nI (e), bud, fst, mid, wp, fls, prt, wf, wt, wb) u bb) rfl ?_
    refine ez_cl ez_h18 rfl rfl ?_
    refine cr_at hE hr11 (k := l) (by omega) (wtg, nI (b), nI (e), bud, fst, mid, wp, fls, prt, wf, wt, wb) u bb ?_
    refine ez_cl ez_h18 rfl rfl ?_
    refine cr_set hE hr11 (k := b) (x := row3 l) (by omega) (wtg, nI (b), nI (e), bud, fst, mid, wp, fls, prt, wf, wt, wb) u bb (fun r44 hr44 => ?_)
    refine ez_go ez_h18 4 (pc' := 144) (L' := [some (.ref 4), some (.int (nI (ze_pi E (row b)))), none, some (.int (nI (l))), none]) (st' := [.int (nI (ze_pi E (row b))), .int (nI (l)), .ref 1]) (w' := cz_w r44 (wtg, nI (b), nI (e), bud, fst, mid, wp, fls, prt, wf, wt, wb) u bb) rfl ?_
    refine ez_cl ez_h18 rfl rfl ?_
    refine cr_set hE hr44 (k := l) (x := row b) (by omega) (wtg, nI (b), nI (e), bud, fst, mid, wp, fls, prt, wf, wt, wb) u bb (fun r45 hr45 => ?_)
    refine ez_go ez_h18 1 (pc' := 148) (L' := [some (.ref 4), some (.int (nI (ze_pi E (row b)))), none, some (.int (nI (l))), none]) (st' := [.int (nI (l))]) (w' := cz_w r45 (wtg, nI (b), nI (e), bud, fst, mid, wp, fls, prt, wf, wt, wb) u bb) rfl ?_
    exact ez_iret rfl ez_h18 rfl rfl (kk _ hr45)
  · refine mr_H.m (L := [some (.ref 0), some (.int (nI (b))), some (.int (nI (e))), none, none, none, none]) (fun A Q U T post hA kk => ?_) rfl rfl rfl
    refine ez_go ez_h81 3 (pc' := 5) (L' := [some (.ref 0), some (.int (nI (b))), some (.int (nI (e))), none, none, none, none]) (st' := [.int (nI (b)), .ref 4]) (w' := mz_w A Q U T) rfl ?_
    refine mr_ld ez_h81 rfl hE hA (k := b) (by omega) ?_
    refine ez_go ez_h81 6 (pc' := 13) (L' := [some (.ref 0), some (.int (nI (b))), some (.int (nI (e))), some (.int (nI (row b))), some (.int (nI (b))), none, none]) (st' := [.int ((nI (e)) - (nI (1)))]) (w' := mz_w A Q U T) rfl ?_
    refine ez_top (y := nI (e - 1)) (pk_sub (by omega)) ?_
    refine ez_go ez_h81 1 (pc' := 15) (L' := [some (.ref 0), some (.int (nI (b))), some (.int (nI (e))), some (.int (nI (row b))), some (.int (nI (b))), some (.int (nI (e - 1))), none]) (st' := []) (w' := mz_w A Q U T) rfl ?_
    refine a8 b e b _ Q U T post hA (fun A8 hA8 => ?_)
    refine c7 _ Q U T post hA8 (fun A9 hA9 => ?_)
    refine d8 _ Q U T post hA9 (fun A10 hA10 => ?_)
    refine ez_go ez_h81 6 (pc' := 194) (L' := [some (.ref 0), some (.int (nI (b))), none, some (.int (nI (row b))), none, some (.int (nI (l))), none]) (st' := [.int (nI (l)), .ref 4, .int (nI (b)), .ref 4]) (w' := mz_w A10 Q U T) rfl ?_
    refine mr_ld ez_h81 rfl hE hA10 (k := l) (by omega) ?_
    refine mr_st ez_h81 rfl hE hA10 (k := b) (x := row3 l) (by omega) (fun A46 hA46 => ?_)
    refine ez_go ez_h81 4 (pc' := 203) (L' := [some (.ref 0), some (.int (nI (b))), none, some (.int (nI (row b))), none, some (.int (nI (l))), none]) (st' := [.int (nI (row b)), .int (nI (l)), .ref 4]) (w' := mz_w A46 Q U T) rfl ?_
    refine mr_st ez_h81 rfl hE hA46 (k := l) (x := row b) (by omega) (fun A47 hA47 => ?_)
    refine ez_go ez_h81 3 (pc' := 208) (L' := [some (.ref 0), some (.int (nI (b))), none, some (.int (nI (row b))), none, some (.int (nI (l))), none]) (st' := [.int ((nI (l)) + (nI (1)))]) (w' := mz_w A47 Q U T) rfl ?_
    refine ez_top (y := nI (l + 1)) (nI_add _ _) ?_
    exact ez_iret rfl ez_h81 rfl rfl (kk _ hA47)
end
