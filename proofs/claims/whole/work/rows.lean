section
-- ===== PART A: goes FIRST, ahead of the names: the tables' words, and 'selects' of the private methods out of them =====
/-- a private method of a class that the tables say can be made, by its rows of tables_1 -/
def lw_okq (q : MethodName × Nat) : Prop := (q.1.cls ≠ "java/lang/invoke/MethodHandle" ∧ q.1.cls ≠ "java/lang/invoke/VarHandle") ∧ Cond.instantiable q.1.cls q.2 ∈ tables_1 ∧ Cond.privateMethod q.1 ∈ tables_1 ∧ Cond.instanceMethod q.1 ∈ tables_1
theorem lw_p0 : lw_okq (⟨"SortBench", "checkRoom", "(I)V"⟩, 10) := ⟨⟨by decide +kernel, by decide +kernel⟩, List.mem_of_getElem? (i := 18) (by decide +kernel), List.mem_of_getElem? (i := 224) (by decide +kernel), List.mem_of_getElem? (i := 225) (by decide +kernel)⟩
theorem lw_p1 : lw_okq (⟨"java/lang/Throwable", "fillInStackTrace", "(I)Ljava/lang/Throwable;"⟩, 6) := ⟨⟨by decide +kernel, by decide +kernel⟩, List.mem_of_getElem? (i := 266) (by decide +kernel), List.mem_of_getElem? (i := 264) (by decide +kernel), List.mem_of_getElem? (i := 265) (by decide +kernel)⟩
theorem lw_p2 : lw_okq (⟨"SortBench", "checkAmount", "(I)V"⟩, 10) := ⟨⟨by decide +kernel, by decide +kernel⟩, List.mem_of_getElem? (i := 18) (by decide +kernel), List.mem_of_getElem? (i := 324) (by decide +kernel), List.mem_of_getElem? (i := 325) (by decide +kernel)⟩
theorem lw_p3 : lw_okq (⟨"SortBench", "checkPlace", "(I)V"⟩, 10) := ⟨⟨by decide +kernel, by decide +kernel⟩, List.mem_of_getElem? (i := 18) (by decide +kernel), List.mem_of_getElem? (i := 347) (by decide +kernel), List.mem_of_getElem? (i := 348) (by decide +kernel)⟩
theorem lw_p4 : lw_okq (⟨"SortBench", "checkChoice", "(II)V"⟩, 10) := ⟨⟨by decide +kernel, by decide +kernel⟩, List.mem_of_getElem? (i := 18) (by decide +kernel), List.mem_of_getElem? (i := 399) (by decide +kernel), List.mem_of_getElem? (i := 400) (by decide +kernel)⟩
theorem lw_p5 : lw_okq (⟨"SortBench", "startCounting", "()V"⟩, 10) := ⟨⟨by decide +kernel, by decide +kernel⟩, List.mem_of_getElem? (i := 18) (by decide +kernel), List.mem_of_getElem? (i := 419) (by decide +kernel), List.mem_of_getElem? (i := 420) (by decide +kernel)⟩
theorem lw_p6 : lw_okq (⟨"SortBench", "wayOf", "(I)LSortBench$Way;"⟩, 10) := ⟨⟨by decide +kernel, by decide +kernel⟩, List.mem_of_getElem? (i := 18) (by decide +kernel), List.mem_of_getElem? (i := 431) (by decide +kernel), List.mem_of_getElem? (i := 432) (by decide +kernel)⟩
theorem lw_p7 : lw_okq (⟨"SortBench$Heap", "sink", "(III)V"⟩, 1) := ⟨⟨by decide +kernel, by decide +kernel⟩, List.mem_of_getElem? (i := 81) (by decide +kernel), List.mem_of_getElem? (i := 446) (by decide +kernel), List.mem_of_getElem? (i := 447) (by decide +kernel)⟩
theorem lw_p8 : lw_okq (⟨"SortBench$Row", "settle", "(II)V"⟩, 8) := ⟨⟨by decide +kernel, by decide +kernel⟩, List.mem_of_getElem? (i := 26) (by decide +kernel), List.mem_of_getElem? (i := 455) (by decide +kernel), List.mem_of_getElem? (i := 456) (by decide +kernel)⟩
theorem lw_p9 : lw_okq (⟨"SortBench$Inserting", "insert", "(II)I"⟩, 1) := ⟨⟨by decide +kernel, by decide +kernel⟩, List.mem_of_getElem? (i := 58) (by decide +kernel), List.mem_of_getElem? (i := 478) (by decide +kernel), List.mem_of_getElem? (i := 479) (by decide +kernel)⟩
theorem lw_p10 : lw_okq (⟨"SortBench$Quick", "takeWhole", "()V"⟩, 15) := ⟨⟨by decide +kernel, by decide +kernel⟩, List.mem_of_getElem? (i := 89) (by decide +kernel), List.mem_of_getElem? (i := 489) (by decide +kernel), List.mem_of_getElem? (i := 490) (by decide +kernel)⟩
theorem lw_p11 : lw_okq (⟨"SortBench$Quick", "finishSmall", "()V"⟩, 15) := ⟨⟨by decide +kernel, by decide +kernel⟩, List.mem_of_getElem? (i := 89) (by decide +kernel), List.mem_of_getElem? (i := 494) (by decide +kernel), List.mem_of_getElem? (i := 495) (by decide +kernel)⟩
theorem lw_p12 : lw_okq (⟨"SortBench$Quick", "takeWaiting", "()Z"⟩, 15) := ⟨⟨by decide +kernel, by decide +kernel⟩, List.mem_of_getElem? (i := 89) (by decide +kernel), List.mem_of_getElem? (i := 503) (by decide +kernel), List.mem_of_getElem? (i := 504) (by decide +kernel)⟩
theorem lw_p13 : lw_okq (⟨"SortBench$Quick", "choosePivot", "(IZ)V"⟩, 15) := ⟨⟨by decide +kernel, by decide +kernel⟩, List.mem_of_getElem? (i := 89) (by decide +kernel), List.mem_of_getElem? (i := 507) (by decide +kernel), List.mem_of_getElem? (i := 508) (by decide +kernel)⟩
theorem lw_p14 : lw_okq (⟨"SortBench$Quick", "three", "(III)V"⟩, 15) := ⟨⟨by decide +kernel, by decide +kernel⟩, List.mem_of_getElem? (i := 89) (by decide +kernel), List.mem_of_getElem? (i := 511) (by decide +kernel), List.mem_of_getElem? (i := 512) (by decide +kernel)⟩
theorem lw_p15 : lw_okq (⟨"SortBench$Quick", "two", "(II)V"⟩, 15) := ⟨⟨by decide +kernel, by decide +kernel⟩, List.mem_of_getElem? (i := 89) (by decide +kernel), List.mem_of_getElem? (i := 515) (by decide +kernel), List.mem_of_getElem? (i := 516) (by decide +kernel)⟩
def lw_privs_1 : List (MethodName × Nat) := [(⟨"SortBench", "checkRoom", "(I)V"⟩, 10), (⟨"java/lang/Throwable", "fillInStackTrace", "(I)Ljava/lang/Throwable;"⟩, 6), (⟨"SortBench", "checkAmount", "(I)V"⟩, 10), (⟨"SortBench", "checkPlace", "(I)V"⟩, 10), (⟨"SortBench", "checkChoice", "(II)V"⟩, 10), (⟨"SortBench", "startCounting", "()V"⟩, 10), (⟨"SortBench", "wayOf", "(I)LSortBench$Way;"⟩, 10), (⟨"SortBench$Heap", "sink", "(III)V"⟩, 1), (⟨"SortBench$Row", "settle", "(II)V"⟩, 8), (⟨"SortBench$Inserting", "insert", "(II)I"⟩, 1), (⟨"SortBench$Quick", "takeWhole", "()V"⟩, 15), (⟨"SortBench$Quick", "finishSmall", "()V"⟩, 15), (⟨"SortBench$Quick", "takeWaiting", "()Z"⟩, 15), (⟨"SortBench$Quick", "choosePivot", "(IZ)V"⟩, 15), (⟨"SortBench$Quick", "three", "(III)V"⟩, 15), (⟨"SortBench$Quick", "two", "(II)V"⟩, 15)]
theorem lw_r1 : ∀ q ∈ lw_privs_1, lw_okq q := List.forall_mem_cons.mpr ⟨lw_p0, List.forall_mem_cons.mpr ⟨lw_p1, List.forall_mem_cons.mpr ⟨lw_p2, List.forall_mem_cons.mpr ⟨lw_p3, List.forall_mem_cons.mpr ⟨lw_p4, List.forall_mem_cons.mpr ⟨lw_p5, List.forall_mem_cons.mpr ⟨lw_p6, List.forall_mem_cons.mpr ⟨lw_p7, List.forall_mem_cons.mpr ⟨lw_p8, List.forall_mem_cons.mpr ⟨lw_p9, List.forall_mem_cons.mpr ⟨lw_p10, List.forall_mem_cons.mpr ⟨lw_p11, List.forall_mem_cons.mpr ⟨lw_p12, List.forall_mem_cons.mpr ⟨lw_p13, List.forall_mem_cons.mpr ⟨lw_p14, List.forall_mem_cons.mpr ⟨lw_p15, fun _ h => absurd h List.not_mem_nil⟩⟩⟩⟩⟩⟩⟩⟩⟩⟩⟩⟩⟩⟩⟩⟩
theorem lw_p16 : lw_okq (⟨"SortBench$Quick", "moveEqualLeft", "()I"⟩, 15) := ⟨⟨by decide +kernel, by decide +kernel⟩, List.mem_of_getElem? (i := 89) (by decide +kernel), List.mem_of_getElem? (i := 522) (by decide +kernel), List.mem_of_getElem? (i := 523) (by decide +kernel)⟩
theorem lw_p17 : lw_okq (⟨"SortBench$Quick", "downWhileGreater", "(II)I"⟩, 15) := ⟨⟨by decide +kernel, by decide +kernel⟩, List.mem_of_getElem? (i := 89) (by decide +kernel), List.mem_of_getElem? (i := 526) (by decide +kernel), List.mem_of_getElem? (i := 527) (by decide +kernel)⟩
theorem lw_p18 : lw_okq (⟨"SortBench$Quick", "upTillGreater", "(II)I"⟩, 15) := ⟨⟨by decide +kernel, by decide +kernel⟩, List.mem_of_getElem? (i := 89) (by decide +kernel), List.mem_of_getElem? (i := 530) (by decide +kernel), List.mem_of_getElem? (i := 531) (by decide +kernel)⟩
theorem lw_p19 : lw_okq (⟨"SortBench$Quick", "part", "()V"⟩, 15) := ⟨⟨by decide +kernel, by decide +kernel⟩, List.mem_of_getElem? (i := 89) (by decide +kernel), List.mem_of_getElem? (i := 535) (by decide +kernel), List.mem_of_getElem? (i := 536) (by decide +kernel)⟩
theorem lw_p20 : lw_okq (⟨"SortBench$Quick", "upWhileLess", "(II)I"⟩, 15) := ⟨⟨by decide +kernel, by decide +kernel⟩, List.mem_of_getElem? (i := 89) (by decide +kernel), List.mem_of_getElem? (i := 539) (by decide +kernel), List.mem_of_getElem? (i := 540) (by decide +kernel)⟩
theorem lw_p21 : lw_okq (⟨"SortBench$Quick", "downTillLess", "(II)I"⟩, 15) := ⟨⟨by decide +kernel, by decide +kernel⟩, List.mem_of_getElem? (i := 89) (by decide +kernel), List.mem_of_getElem? (i := 543) (by decide +kernel), List.mem_of_getElem? (i := 544) (by decide +kernel)⟩
theorem lw_p22 : lw_okq (⟨"SortBench$Quick", "isDoneWhenParted", "(I)Z"⟩, 15) := ⟨⟨by decide +kernel, by decide +kernel⟩, List.mem_of_getElem? (i := 89) (by decide +kernel), List.mem_of_getElem? (i := 547) (by decide +kernel), List.mem_of_getElem? (i := 548) (by decide +kernel)⟩
theorem lw_p23 : lw_okq (⟨"SortBench$Quick", "breakPatterns", "(II)V"⟩, 15) := ⟨⟨by decide +kernel, by decide +kernel⟩, List.mem_of_getElem? (i := 89) (by decide +kernel), List.mem_of_getElem? (i := 556) (by decide +kernel), List.mem_of_getElem? (i := 557) (by decide +kernel)⟩
theorem lw_p24 : lw_okq (⟨"SortBench$Quick", "goLeft", "()V"⟩, 15) := ⟨⟨by decide +kernel, by decide +kernel⟩, List.mem_of_getElem? (i := 89) (by decide +kernel), List.mem_of_getElem? (i := 560) (by decide +kernel), List.mem_of_getElem? (i := 561) (by decide +kernel)⟩
theorem lw_p25 : lw_okq (⟨"SortBench$Runs", "findRun", "(II)I"⟩, 7) := ⟨⟨by decide +kernel, by decide +kernel⟩, List.mem_of_getElem? (i := 139) (by decide +kernel), List.mem_of_getElem? (i := 568) (by decide +kernel), List.mem_of_getElem? (i := 569) (by decide +kernel)⟩
theorem lw_p26 : lw_okq (⟨"SortBench$Runs", "lengthen", "(III)I"⟩, 7) := ⟨⟨by decide +kernel, by decide +kernel⟩, List.mem_of_getElem? (i := 139) (by decide +kernel), List.mem_of_getElem? (i := 575) (by decide +kernel), List.mem_of_getElem? (i := 576) (by decide +kernel)⟩
theorem lw_p27 : lw_okq (⟨"SortBench$Runs", "insertByHalves", "(II)V"⟩, 7) := ⟨⟨by decide +kernel, by decide +kernel⟩, List.mem_of_getElem? (i := 139) (by decide +kernel), List.mem_of_getElem? (i := 582) (by decide +kernel), List.mem_of_getElem? (i := 583) (by decide +kernel)⟩
theorem lw_p28 : lw_okq (⟨"SortBench$Runs", "pileUp", "(II)V"⟩, 7) := ⟨⟨by decide +kernel, by decide +kernel⟩, List.mem_of_getElem? (i := 139) (by decide +kernel), List.mem_of_getElem? (i := 590) (by decide +kernel), List.mem_of_getElem? (i := 591) (by decide +kernel)⟩
theorem lw_p29 : lw_okq (⟨"SortBench$Runs", "mergeWhileFlat", "()V"⟩, 7) := ⟨⟨by decide +kernel, by decide +kernel⟩, List.mem_of_getElem? (i := 139) (by decide +kernel), List.mem_of_getElem? (i := 594) (by decide +kernel), List.mem_of_getElem? (i := 595) (by decide +kernel)⟩
theorem lw_p30 : lw_okq (⟨"SortBench$Runs", "isFlat", "(I)Z"⟩, 7) := ⟨⟨by decide +kernel, by decide +kernel⟩, List.mem_of_getElem? (i := 139) (by decide +kernel), List.mem_of_getElem? (i := 598) (by decide +kernel), List.mem_of_getElem? (i := 599) (by decide +kernel)⟩
theorem lw_p31 : lw_okq (⟨"SortBench$Runs", "sizeAt", "(I)I"⟩, 7) := ⟨⟨by decide +kernel, by decide +kernel⟩, List.mem_of_getElem? (i := 139) (by decide +kernel), List.mem_of_getElem? (i := 602) (by decide +kernel), List.mem_of_getElem? (i := 603) (by decide +kernel)⟩
def lw_privs_2 : List (MethodName × Nat) := [(⟨"SortBench$Quick", "moveEqualLeft", "()I"⟩, 15), (⟨"SortBench$Quick", "downWhileGreater", "(II)I"⟩, 15), (⟨"SortBench$Quick", "upTillGreater", "(II)I"⟩, 15), (⟨"SortBench$Quick", "part", "()V"⟩, 15), (⟨"SortBench$Quick", "upWhileLess", "(II)I"⟩, 15), (⟨"SortBench$Quick", "downTillLess", "(II)I"⟩, 15), (⟨"SortBench$Quick", "isDoneWhenParted", "(I)Z"⟩, 15), (⟨"SortBench$Quick", "breakPatterns", "(II)V"⟩, 15), (⟨"SortBench$Quick", "goLeft", "()V"⟩, 15), (⟨"SortBench$Runs", "findRun", "(II)I"⟩, 7), (⟨"SortBench$Runs", "lengthen", "(III)I"⟩, 7), (⟨"SortBench$Runs", "insertByHalves", "(II)V"⟩, 7), (⟨"SortBench$Runs", "pileUp", "(II)V"⟩, 7), (⟨"SortBench$Runs", "mergeWhileFlat", "()V"⟩, 7), (⟨"SortBench$Runs", "isFlat", "(I)Z"⟩, 7), (⟨"SortBench$Runs", "sizeAt", "(I)I"⟩, 7)]
theorem lw_r2 : ∀ q ∈ lw_privs_2, lw_okq q := List.forall_mem_cons.mpr ⟨lw_p16, List.forall_mem_cons.mpr ⟨lw_p17, List.forall_mem_cons.mpr ⟨lw_p18, List.forall_mem_cons.mpr ⟨lw_p19, List.forall_mem_cons.mpr ⟨lw_p20, List.forall_mem_cons.mpr ⟨lw_p21, List.forall_mem_cons.mpr ⟨lw_p22, List.forall_mem_cons.mpr ⟨lw_p23, List.forall_mem_cons.mpr ⟨lw_p24, List.forall_mem_cons.mpr ⟨lw_p25, List.forall_mem_cons.mpr ⟨lw_p26, List.forall_mem_cons.mpr ⟨lw_p27, List.forall_mem_cons.mpr ⟨lw_p28, List.forall_mem_cons.mpr ⟨lw_p29, List.forall_mem_cons.mpr ⟨lw_p30, List.forall_mem_cons.mpr ⟨lw_p31, fun _ h => absurd h List.not_mem_nil⟩⟩⟩⟩⟩⟩⟩⟩⟩⟩⟩⟩⟩⟩⟩⟩
theorem lw_p32 : lw_okq (⟨"SortBench$Runs", "lesserSide", "(I)I"⟩, 7) := ⟨⟨by decide +kernel, by decide +kernel⟩, List.mem_of_getElem? (i := 139) (by decide +kernel), List.mem_of_getElem? (i := 606) (by decide +kernel), List.mem_of_getElem? (i := 607) (by decide +kernel)⟩
theorem lw_p33 : lw_okq (⟨"SortBench$Runs", "mergeAt", "(I)V"⟩, 7) := ⟨⟨by decide +kernel, by decide +kernel⟩, List.mem_of_getElem? (i := 139) (by decide +kernel), List.mem_of_getElem? (i := 610) (by decide +kernel), List.mem_of_getElem? (i := 611) (by decide +kernel)⟩
theorem lw_p34 : lw_okq (⟨"SortBench$Runs", "merge", "(III)V"⟩, 7) := ⟨⟨by decide +kernel, by decide +kernel⟩, List.mem_of_getElem? (i := 139) (by decide +kernel), List.mem_of_getElem? (i := 614) (by decide +kernel), List.mem_of_getElem? (i := 615) (by decide +kernel)⟩
theorem lw_p35 : lw_okq (⟨"SortBench$Runs", "beginAt", "(I)I"⟩, 7) := ⟨⟨by decide +kernel, by decide +kernel⟩, List.mem_of_getElem? (i := 139) (by decide +kernel), List.mem_of_getElem? (i := 618) (by decide +kernel), List.mem_of_getElem? (i := 619) (by decide +kernel)⟩
theorem lw_p36 : lw_okq (⟨"SortBench$Runs", "mergeAll", "()V"⟩, 7) := ⟨⟨by decide +kernel, by decide +kernel⟩, List.mem_of_getElem? (i := 139) (by decide +kernel), List.mem_of_getElem? (i := 622) (by decide +kernel), List.mem_of_getElem? (i := 623) (by decide +kernel)⟩
theorem lw_p37 : lw_okq (⟨"SortBench$Steps", "stepDown", "(II)V"⟩, 1) := ⟨⟨by decide +kernel, by decide +kernel⟩, List.mem_of_getElem? (i := 165) (by decide +kernel), List.mem_of_getElem? (i := 632) (by decide +kernel), List.mem_of_getElem? (i := 633) (by decide +kernel)⟩
theorem lw_p38 : lw_okq (⟨"SortBench", "stopCounting", "()I"⟩, 10) := ⟨⟨by decide +kernel, by decide +kernel⟩, List.mem_of_getElem? (i := 18) (by decide +kernel), List.mem_of_getElem? (i := 639) (by decide +kernel), List.mem_of_getElem? (i := 640) (by decide +kernel)⟩
theorem lw_p39 : lw_okq (⟨"SortBench", "follows", "(III)Z"⟩, 10) := ⟨⟨by decide +kernel, by decide +kernel⟩, List.mem_of_getElem? (i := 18) (by decide +kernel), List.mem_of_getElem? (i := 682) (by decide +kernel), List.mem_of_getElem? (i := 683) (by decide +kernel)⟩
theorem lw_p40 : lw_okq (⟨"SortBenchModel", "add", "(I)V"⟩, 26) := ⟨⟨by decide +kernel, by decide +kernel⟩, List.mem_of_getElem? (i := 706) (by decide +kernel), List.mem_of_getElem? (i := 799) (by decide +kernel), List.mem_of_getElem? (i := 800) (by decide +kernel)⟩
theorem lw_p41 : lw_okq (⟨"SortBenchModel", "isPlace", "(I)Z"⟩, 26) := ⟨⟨by decide +kernel, by decide +kernel⟩, List.mem_of_getElem? (i := 706) (by decide +kernel), List.mem_of_getElem? (i := 817) (by decide +kernel), List.mem_of_getElem? (i := 818) (by decide +kernel)⟩
theorem lw_p42 : lw_okq (⟨"SortBenchModel", "swapThings", "(II)V"⟩, 26) := ⟨⟨by decide +kernel, by decide +kernel⟩, List.mem_of_getElem? (i := 706) (by decide +kernel), List.mem_of_getElem? (i := 821) (by decide +kernel), List.mem_of_getElem? (i := 822) (by decide +kernel)⟩
theorem lw_p43 : lw_okq (⟨"SortBenchModel", "work", "(I)I"⟩, 26) := ⟨⟨by decide +kernel, by decide +kernel⟩, List.mem_of_getElem? (i := 706) (by decide +kernel), List.mem_of_getElem? (i := 837) (by decide +kernel), List.mem_of_getElem? (i := 838) (by decide +kernel)⟩
theorem lw_p44 : lw_okq (⟨"SortBenchModel", "insert", "(IIZZ)Z"⟩, 26) := ⟨⟨by decide +kernel, by decide +kernel⟩, List.mem_of_getElem? (i := 706) (by decide +kernel), List.mem_of_getElem? (i := 841) (by decide +kernel), List.mem_of_getElem? (i := 842) (by decide +kernel)⟩
theorem lw_p45 : lw_okq (⟨"SortBenchModel", "lessAt", "(II)Z"⟩, 26) := ⟨⟨by decide +kernel, by decide +kernel⟩, List.mem_of_getElem? (i := 706) (by decide +kernel), List.mem_of_getElem? (i := 845) (by decide +kernel), List.mem_of_getElem? (i := 846) (by decide +kernel)⟩
theorem lw_p46 : lw_okq (⟨"SortBenchModel", "less", "(II)Z"⟩, 26) := ⟨⟨by decide +kernel, by decide +kernel⟩, List.mem_of_getElem? (i := 706) (by decide +kernel), List.mem_of_getElem? (i := 849) (by decide +kernel), List.mem_of_getElem? (i := 850) (by decide +kernel)⟩
theorem lw_p47 : lw_okq (⟨"SortBenchModel", "key", "(I)J"⟩, 26) := ⟨⟨by decide +kernel, by decide +kernel⟩, List.mem_of_getElem? (i := 706) (by decide +kernel), List.mem_of_getElem? (i := 853) (by decide +kernel), List.mem_of_getElem? (i := 854) (by decide +kernel)⟩
def lw_privs_3 : List (MethodName × Nat) := [(⟨"SortBench$Runs", "lesserSide", "(I)I"⟩, 7), (⟨"SortBench$Runs", "mergeAt", "(I)V"⟩, 7), (⟨"SortBench$Runs", "merge", "(III)V"⟩, 7), (⟨"SortBench$Runs", "beginAt", "(I)I"⟩, 7), (⟨"SortBench$Runs", "mergeAll", "()V"⟩, 7), (⟨"SortBench$Steps", "stepDown", "(II)V"⟩, 1), (⟨"SortBench", "stopCounting", "()I"⟩, 10), (⟨"SortBench", "follows", "(III)Z"⟩, 10), (⟨"SortBenchModel", "add", "(I)V"⟩, 26), (⟨"SortBenchModel", "isPlace", "(I)Z"⟩, 26), (⟨"SortBenchModel", "swapThings", "(II)V"⟩, 26), (⟨"SortBenchModel", "work", "(I)I"⟩, 26), (⟨"SortBenchModel", "insert", "(IIZZ)Z"⟩, 26), (⟨"SortBenchModel", "lessAt", "(II)Z"⟩, 26), (⟨"SortBenchModel", "less", "(II)Z"⟩, 26), (⟨"SortBenchModel", "key", "(I)J"⟩, 26)]
theorem lw_r3 : ∀ q ∈ lw_privs_3, lw_okq q := List.forall_mem_cons.mpr ⟨lw_p32, List.forall_mem_cons.mpr ⟨lw_p33, List.forall_mem_cons.mpr ⟨lw_p34, List.forall_mem_cons.mpr ⟨lw_p35, List.forall_mem_cons.mpr ⟨lw_p36, List.forall_mem_cons.mpr ⟨lw_p37, List.forall_mem_cons.mpr ⟨lw_p38, List.forall_mem_cons.mpr ⟨lw_p39, List.forall_mem_cons.mpr ⟨lw_p40, List.forall_mem_cons.mpr ⟨lw_p41, List.forall_mem_cons.mpr ⟨lw_p42, List.forall_mem_cons.mpr ⟨lw_p43, List.forall_mem_cons.mpr ⟨lw_p44, List.forall_mem_cons.mpr ⟨lw_p45, List.forall_mem_cons.mpr ⟨lw_p46, List.forall_mem_cons.mpr ⟨lw_p47, fun _ h => absurd h List.not_mem_nil⟩⟩⟩⟩⟩⟩⟩⟩⟩⟩⟩⟩⟩⟩⟩⟩
theorem lw_p48 : lw_okq (⟨"SortBenchModel", "heap", "(II)V"⟩, 26) := ⟨⟨by decide +kernel, by decide +kernel⟩, List.mem_of_getElem? (i := 706) (by decide +kernel), List.mem_of_getElem? (i := 858) (by decide +kernel), List.mem_of_getElem? (i := 859) (by decide +kernel)⟩
theorem lw_p49 : lw_okq (⟨"SortBenchModel", "sink", "(III)V"⟩, 26) := ⟨⟨by decide +kernel, by decide +kernel⟩, List.mem_of_getElem? (i := 706) (by decide +kernel), List.mem_of_getElem? (i := 862) (by decide +kernel), List.mem_of_getElem? (i := 863) (by decide +kernel)⟩
theorem lw_p50 : lw_okq (⟨"SortBenchModel", "swap", "(II)V"⟩, 26) := ⟨⟨by decide +kernel, by decide +kernel⟩, List.mem_of_getElem? (i := 706) (by decide +kernel), List.mem_of_getElem? (i := 866) (by decide +kernel), List.mem_of_getElem? (i := 867) (by decide +kernel)⟩
theorem lw_p51 : lw_okq (⟨"SortBenchModel", "quick", "(I)V"⟩, 26) := ⟨⟨by decide +kernel, by decide +kernel⟩, List.mem_of_getElem? (i := 706) (by decide +kernel), List.mem_of_getElem? (i := 870) (by decide +kernel), List.mem_of_getElem? (i := 871) (by decide +kernel)⟩
theorem lw_p52 : lw_okq (⟨"SortBenchModel", "wait", "(III)V"⟩, 26) := ⟨⟨by decide +kernel, by decide +kernel⟩, List.mem_of_getElem? (i := 706) (by decide +kernel), List.mem_of_getElem? (i := 874) (by decide +kernel), List.mem_of_getElem? (i := 875) (by decide +kernel)⟩
theorem lw_p53 : lw_okq (⟨"SortBenchModel", "range", "(III)V"⟩, 26) := ⟨⟨by decide +kernel, by decide +kernel⟩, List.mem_of_getElem? (i := 706) (by decide +kernel), List.mem_of_getElem? (i := 878) (by decide +kernel), List.mem_of_getElem? (i := 879) (by decide +kernel)⟩
theorem lw_p54 : lw_okq (⟨"SortBenchModel", "choose", "(II)V"⟩, 26) := ⟨⟨by decide +kernel, by decide +kernel⟩, List.mem_of_getElem? (i := 706) (by decide +kernel), List.mem_of_getElem? (i := 882) (by decide +kernel), List.mem_of_getElem? (i := 883) (by decide +kernel)⟩
theorem lw_p55 : lw_okq (⟨"SortBenchModel", "three", "(III)V"⟩, 26) := ⟨⟨by decide +kernel, by decide +kernel⟩, List.mem_of_getElem? (i := 706) (by decide +kernel), List.mem_of_getElem? (i := 886) (by decide +kernel), List.mem_of_getElem? (i := 887) (by decide +kernel)⟩
theorem lw_p56 : lw_okq (⟨"SortBenchModel", "two", "(II)V"⟩, 26) := ⟨⟨by decide +kernel, by decide +kernel⟩, List.mem_of_getElem? (i := 706) (by decide +kernel), List.mem_of_getElem? (i := 890) (by decide +kernel), List.mem_of_getElem? (i := 891) (by decide +kernel)⟩
theorem lw_p57 : lw_okq (⟨"SortBenchModel", "equals", "(II)I"⟩, 26) := ⟨⟨by decide +kernel, by decide +kernel⟩, List.mem_of_getElem? (i := 706) (by decide +kernel), List.mem_of_getElem? (i := 894) (by decide +kernel), List.mem_of_getElem? (i := 895) (by decide +kernel)⟩
theorem lw_p58 : lw_okq (⟨"SortBenchModel", "part", "(II)I"⟩, 26) := ⟨⟨by decide +kernel, by decide +kernel⟩, List.mem_of_getElem? (i := 706) (by decide +kernel), List.mem_of_getElem? (i := 898) (by decide +kernel), List.mem_of_getElem? (i := 899) (by decide +kernel)⟩
theorem lw_p59 : lw_okq (⟨"SortBenchModel", "shake", "(III)V"⟩, 26) := ⟨⟨by decide +kernel, by decide +kernel⟩, List.mem_of_getElem? (i := 706) (by decide +kernel), List.mem_of_getElem? (i := 902) (by decide +kernel), List.mem_of_getElem? (i := 903) (by decide +kernel)⟩
theorem lw_p60 : lw_okq (⟨"SortBenchModel", "runs", "()V"⟩, 26) := ⟨⟨by decide +kernel, by decide +kernel⟩, List.mem_of_getElem? (i := 706) (by decide +kernel), List.mem_of_getElem? (i := 906) (by decide +kernel), List.mem_of_getElem? (i := 907) (by decide +kernel)⟩
theorem lw_p61 : lw_okq (⟨"SortBenchModel", "run", "(I)I"⟩, 26) := ⟨⟨by decide +kernel, by decide +kernel⟩, List.mem_of_getElem? (i := 706) (by decide +kernel), List.mem_of_getElem? (i := 910) (by decide +kernel), List.mem_of_getElem? (i := 911) (by decide +kernel)⟩
theorem lw_p62 : lw_okq (⟨"SortBenchModel", "turnRow", "(II)V"⟩, 26) := ⟨⟨by decide +kernel, by decide +kernel⟩, List.mem_of_getElem? (i := 706) (by decide +kernel), List.mem_of_getElem? (i := 914) (by decide +kernel), List.mem_of_getElem? (i := 915) (by decide +kernel)⟩
theorem lw_p63 : lw_okq (⟨"SortBenchModel", "byHalves", "(III)V"⟩, 26) := ⟨⟨by decide +kernel, by decide +kernel⟩, List.mem_of_getElem? (i := 706) (by decide +kernel), List.mem_of_getElem? (i := 918) (by decide +kernel), List.mem_of_getElem? (i := 919) (by decide +kernel)⟩
def lw_privs_4 : List (MethodName × Nat) := [(⟨"SortBenchModel", "heap", "(II)V"⟩, 26), (⟨"SortBenchModel", "sink", "(III)V"⟩, 26), (⟨"SortBenchModel", "swap", "(II)V"⟩, 26), (⟨"SortBenchModel", "quick", "(I)V"⟩, 26), (⟨"SortBenchModel", "wait", "(III)V"⟩, 26), (⟨"SortBenchModel", "range", "(III)V"⟩, 26), (⟨"SortBenchModel", "choose", "(II)V"⟩, 26), (⟨"SortBenchModel", "three", "(III)V"⟩, 26), (⟨"SortBenchModel", "two", "(II)V"⟩, 26), (⟨"SortBenchModel", "equals", "(II)I"⟩, 26), (⟨"SortBenchModel", "part", "(II)I"⟩, 26), (⟨"SortBenchModel", "shake", "(III)V"⟩, 26), (⟨"SortBenchModel", "runs", "()V"⟩, 26), (⟨"SortBenchModel", "run", "(I)I"⟩, 26), (⟨"SortBenchModel", "turnRow", "(II)V"⟩, 26), (⟨"SortBenchModel", "byHalves", "(III)V"⟩, 26)]
theorem lw_r4 : ∀ q ∈ lw_privs_4, lw_okq q := List.forall_mem_cons.mpr ⟨lw_p48, List.forall_mem_cons.mpr ⟨lw_p49, List.forall_mem_cons.mpr ⟨lw_p50, List.forall_mem_cons.mpr ⟨lw_p51, List.forall_mem_cons.mpr ⟨lw_p52, List.forall_mem_cons.mpr ⟨lw_p53, List.forall_mem_cons.mpr ⟨lw_p54, List.forall_mem_cons.mpr ⟨lw_p55, List.forall_mem_cons.mpr ⟨lw_p56, List.forall_mem_cons.mpr ⟨lw_p57, List.forall_mem_cons.mpr ⟨lw_p58, List.forall_mem_cons.mpr ⟨lw_p59, List.forall_mem_cons.mpr ⟨lw_p60, List.forall_mem_cons.mpr ⟨lw_p61, List.forall_mem_cons.mpr ⟨lw_p62, List.forall_mem_cons.mpr ⟨lw_p63, fun _ h => absurd h List.not_mem_nil⟩⟩⟩⟩⟩⟩⟩⟩⟩⟩⟩⟩⟩⟩⟩⟩
theorem lw_p64 : lw_okq (⟨"SortBenchModel", "settle", "()V"⟩, 26) := ⟨⟨by decide +kernel, by decide +kernel⟩, List.mem_of_getElem? (i := 706) (by decide +kernel), List.mem_of_getElem? (i := 922) (by decide +kernel), List.mem_of_getElem? (i := 923) (by decide +kernel)⟩
theorem lw_p65 : lw_okq (⟨"SortBenchModel", "width", "(I)I"⟩, 26) := ⟨⟨by decide +kernel, by decide +kernel⟩, List.mem_of_getElem? (i := 706) (by decide +kernel), List.mem_of_getElem? (i := 926) (by decide +kernel), List.mem_of_getElem? (i := 927) (by decide +kernel)⟩
theorem lw_p66 : lw_okq (⟨"SortBenchModel", "merge", "(I)V"⟩, 26) := ⟨⟨by decide +kernel, by decide +kernel⟩, List.mem_of_getElem? (i := 706) (by decide +kernel), List.mem_of_getElem? (i := 930) (by decide +kernel), List.mem_of_getElem? (i := 931) (by decide +kernel)⟩
theorem lw_p67 : lw_okq (⟨"SortBenchModel", "steps", "()V"⟩, 26) := ⟨⟨by decide +kernel, by decide +kernel⟩, List.mem_of_getElem? (i := 706) (by decide +kernel), List.mem_of_getElem? (i := 934) (by decide +kernel), List.mem_of_getElem? (i := 935) (by decide +kernel)⟩
def lw_privs_5 : List (MethodName × Nat) := [(⟨"SortBenchModel", "settle", "()V"⟩, 26), (⟨"SortBenchModel", "width", "(I)I"⟩, 26), (⟨"SortBenchModel", "merge", "(I)V"⟩, 26), (⟨"SortBenchModel", "steps", "()V"⟩, 26)]
theorem lw_r5 : ∀ q ∈ lw_privs_5, lw_okq q := List.forall_mem_cons.mpr ⟨lw_p64, List.forall_mem_cons.mpr ⟨lw_p65, List.forall_mem_cons.mpr ⟨lw_p66, List.forall_mem_cons.mpr ⟨lw_p67, fun _ h => absurd h List.not_mem_nil⟩⟩⟩⟩
def lw_privs : List (MethodName × Nat) := lw_privs_1 ++ (lw_privs_2 ++ (lw_privs_3 ++ (lw_privs_4 ++ (lw_privs_5))))
def lw_tbl : List Cond := k2_sels lw_privs ++ tables_1
theorem lw_privs_ok : ∀ q ∈ lw_privs, lw_okq q := by
  show ∀ q ∈ lw_privs_1 ++ (lw_privs_2 ++ (lw_privs_3 ++ (lw_privs_4 ++ (lw_privs_5)))), lw_okq q
  exact List.forall_mem_append.mpr ⟨lw_r1, List.forall_mem_append.mpr ⟨lw_r2, List.forall_mem_append.mpr ⟨lw_r3, List.forall_mem_append.mpr ⟨lw_r4, lw_r5⟩⟩⟩⟩
end
section
/-! ===== BEGIN printed: names, fields, word lists, decode rows ===== -/
def RX0 : String := "SortBench$Heap"
def TX0 : u_T := fun k => match k with
  | _ => ("SortBench$Way", "row", "LSortBench$Row;", true)
def tyX0 : Nat → FieldType := fun k => match k with
  | _ => .object "SortBench$Row"
abbrev wsX00 : List Cond := u_ws RX0 TX0 1
theorem nmX0 : ∀ a, a < 1 → ∀ b, b < 1 → a ≠ b → (TX0 a).2.1 ≠ (TX0 b).2.1 := by decide +kernel
theorem tyX0_ok : ∀ k, k < 1 → parseFieldDescriptor (TX0 k).2.2.1 = some (tyX0 k) := by decide +kernel
abbrev cX0_init : ByteArray := prog_2_method_1_code
def yX0_init : MethodName := ⟨RX0, "<init>", "(LSortBench$Row;)V"⟩
abbrev cX0_arrange : ByteArray := prog_2_method_2_code
def yX0_arrange : MethodName := ⟨RX0, "arrange", "()V"⟩
abbrev cX0_arrangeRange : ByteArray := prog_2_method_3_code
def yX0_arrangeRange : MethodName := ⟨RX0, "arrangeRange", "(II)V"⟩
abbrev cX0_sink : ByteArray := prog_2_method_4_code
def yX0_sink : MethodName := ⟨RX0, "sink", "(III)V"⟩
def RX1 : String := "SortBench$Inserting"
def TX1 : u_T := fun k => match k with
  | _ => ("SortBench$Way", "row", "LSortBench$Row;", true)
def tyX1 : Nat → FieldType := fun k => match k with
  | _ => .object "SortBench$Row"
abbrev wsX10 : List Cond := u_ws RX1 TX1 1
theorem nmX1 : ∀ a, a < 1 → ∀ b, b < 1 → a ≠ b → (TX1 a).2.1 ≠ (TX1 b).2.1 := by decide +kernel
theorem tyX1_ok : ∀ k, k < 1 → parseFieldDescriptor (TX1 k).2.2.1 = some (tyX1 k) := by decide +kernel
abbrev cX1_init : ByteArray := prog_3_method_1_code
def yX1_init : MethodName := ⟨RX1, "<init>", "(LSortBench$Row;)V"⟩
abbrev cX1_arrange : ByteArray := prog_3_method_2_code
def yX1_arrange : MethodName := ⟨RX1, "arrange", "()V"⟩
abbrev cX1_guarded : ByteArray := prog_3_method_3_code
def yX1_guarded : MethodName := ⟨RX1, "guarded", "(II)V"⟩
abbrev cX1_unguarded : ByteArray := prog_3_method_4_code
def yX1_unguarded : MethodName := ⟨RX1, "unguarded", "(II)V"⟩
abbrev cX1_partly : ByteArray := prog_3_method_5_code
def yX1_partly : MethodName := ⟨RX1, "partly", "(II)Z"⟩
abbrev cX1_insert : ByteArray := prog_3_method_6_code
def yX1_insert : MethodName := ⟨RX1, "insert", "(II)I"⟩
def RX2 : String := "SortBench$Quick"
def TX2 : u_T := fun k => match k with
  | 0 => ("SortBench$Way", "row", "LSortBench$Row;", true)
  | 1 => ("SortBench$Quick", "inserting", "LSortBench$Inserting;", true)
  | 2 => ("SortBench$Quick", "heap", "LSortBench$Heap;", true)
  | 3 => ("SortBench$Quick", "waitingFrom", "[I", true)
  | 4 => ("SortBench$Quick", "waitingTo", "[I", true)
  | 5 => ("SortBench$Quick", "waitingBudget", "[I", true)
  | 6 => ("SortBench$Quick", "waiting", "I", false)
  | 7 => ("SortBench$Quick", "from", "I", false)
  | 8 => ("SortBench$Quick", "to", "I", false)
  | 9 => ("SortBench$Quick", "budget", "I", false)
  | 10 => ("SortBench$Quick", "first", "Z", false)
  | 11 => ("SortBench$Quick", "middle", "I", false)
  | 12 => ("SortBench$Quick", "wasParted", "Z", false)
  | 13 => ("SortBench$Quick", "falls", "J", false)
  | _ => ("SortBench$Quick", "parted", "J", false)
def tyX2 : Nat → FieldType := fun k => match k with
  | 0 => .object "SortBench$Row"
  | 1 => .object "SortBench$Inserting"
  | 2 => .object "SortBench$Heap"
  | 3 => .array .int
  | 4 => .array .int
  | 5 => .array .int
  | 6 => .int
  | 7 => .int
  | 8 => .int
  | 9 => .int
  | 10 => .boolean
  | 11 => .int
  | 12 => .boolean
  | 13 => .long
  | _ => .long
abbrev wsX20 : List Cond := u_ws RX2 TX2 15
theorem nmX2 : ∀ a, a < 15 → ∀ b, b < 15 → a ≠ b → (TX2 a).2.1 ≠ (TX2 b).2.1 := by decide +kernel
theorem tyX2_ok : ∀ k, k < 15 → parseFieldDescriptor (TX2 k).2.2.1 = some (tyX2 k) := by decide +kernel
abbrev cX2_init : ByteArray := prog_4_method_1_code
def yX2_init : MethodName := ⟨RX2, "<init>", "(LSortBench$Row;LSortBench$Inserting;LSortBench$Heap;)V"⟩
abbrev cX2_falls : ByteArray := prog_4_method_2_code
def yX2_falls : MethodName := ⟨RX2, "falls", "()J"⟩
abbrev cX2_parted : ByteArray := prog_4_method_3_code
def yX2_parted : MethodName := ⟨RX2, "parted", "()J"⟩
abbrev cX2_arrange : ByteArray := prog_4_method_4_code
def yX2_arrange : MethodName := ⟨RX2, "arrange", "()V"⟩
abbrev cX2_takeWhole : ByteArray := prog_4_method_5_code
def yX2_takeWhole : MethodName := ⟨RX2, "takeWhole", "()V"⟩
abbrev cX2_takeWaiting : ByteArray := prog_4_method_6_code
def yX2_takeWaiting : MethodName := ⟨RX2, "takeWaiting", "()Z"⟩
abbrev cX2_goLeft : ByteArray := prog_4_method_7_code
def yX2_goLeft : MethodName := ⟨RX2, "goLeft", "()V"⟩
abbrev cX2_finishSmall : ByteArray := prog_4_method_8_code
def yX2_finishSmall : MethodName := ⟨RX2, "finishSmall", "()V"⟩
abbrev cX2_choosePivot : ByteArray := prog_4_method_9_code
def yX2_choosePivot : MethodName := ⟨RX2, "choosePivot", "(IZ)V"⟩
abbrev cX2_three : ByteArray := prog_4_method_10_code
def yX2_three : MethodName := ⟨RX2, "three", "(III)V"⟩
abbrev cX2_two : ByteArray := prog_4_method_11_code
def yX2_two : MethodName := ⟨RX2, "two", "(II)V"⟩
abbrev cX2_moveEqualLeft : ByteArray := prog_4_method_12_code
def yX2_moveEqualLeft : MethodName := ⟨RX2, "moveEqualLeft", "()I"⟩
abbrev cX2_part : ByteArray := prog_4_method_13_code
def yX2_part : MethodName := ⟨RX2, "part", "()V"⟩
abbrev cX2_upWhileLess : ByteArray := prog_4_method_14_code
def yX2_upWhileLess : MethodName := ⟨RX2, "upWhileLess", "(II)I"⟩
abbrev cX2_upTillGreater : ByteArray := prog_4_method_15_code
def yX2_upTillGreater : MethodName := ⟨RX2, "upTillGreater", "(II)I"⟩
abbrev cX2_downWhileGreater : ByteArray := prog_4_method_16_code
def yX2_downWhileGreater : MethodName := ⟨RX2, "downWhileGreater", "(II)I"⟩
abbrev cX2_downTillLess : ByteArray := prog_4_method_17_code
def yX2_downTillLess : MethodName := ⟨RX2, "downTillLess", "(II)I"⟩
abbrev cX2_isDoneWhenParted : ByteArray := prog_4_method_18_code
def yX2_isDoneWhenParted : MethodName := ⟨RX2, "isDoneWhenParted", "(I)Z"⟩
abbrev cX2_breakPatterns : ByteArray := prog_4_method_19_code
def yX2_breakPatterns : MethodName := ⟨RX2, "breakPatterns", "(II)V"⟩
def RX3 : String := "SortBench$Row"
def TX3 : u_T := fun k => match k with
  | 0 => ("SortBench$Row", "numbers", "[I", true)
  | 1 => ("SortBench$Row", "things", "[I", true)
  | 2 => ("SortBench$Row", "size", "I", false)
  | 3 => ("SortBench$Row", "ordering", "I", false)
  | 4 => ("SortBench$Row", "asked", "J", false)
  | 5 => ("SortBench$Row", "adversary", "Z", false)
  | 6 => ("SortBench$Row", "candidate", "I", false)
  | _ => ("SortBench$Row", "settled", "I", false)
def tyX3 : Nat → FieldType := fun k => match k with
  | 0 => .array .int
  | 1 => .array .int
  | 2 => .int
  | 3 => .int
  | 4 => .long
  | 5 => .boolean
  | 6 => .int
  | _ => .int
abbrev wsX30 : List Cond := u_ws RX3 TX3 8
theorem nmX3 : ∀ a, a < 8 → ∀ b, b < 8 → a ≠ b → (TX3 a).2.1 ≠ (TX3 b).2.1 := by decide +kernel
theorem tyX3_ok : ∀ k, k < 8 → parseFieldDescriptor (TX3 k).2.2.1 = some (tyX3 k) := by decide +kernel
abbrev cX3_init : ByteArray := prog_5_method_1_code
def yX3_init : MethodName := ⟨RX3, "<init>", "()V"⟩
abbrev cX3_size : ByteArray := prog_5_method_2_code
def yX3_size : MethodName := ⟨RX3, "size", "()I"⟩
abbrev cX3_ordering : ByteArray := prog_5_method_3_code
def yX3_ordering : MethodName := ⟨RX3, "ordering", "()I"⟩
abbrev cX3_setOrdering : ByteArray := prog_5_method_4_code
def yX3_setOrdering : MethodName := ⟨RX3, "setOrdering", "(I)V"⟩
abbrev cX3_asked : ByteArray := prog_5_method_5_code
def yX3_asked : MethodName := ⟨RX3, "asked", "()J"⟩
abbrev cX3_empty : ByteArray := prog_5_method_6_code
def yX3_empty : MethodName := ⟨RX3, "empty", "()V"⟩
abbrev cX3_append : ByteArray := prog_5_method_7_code
def yX3_append : MethodName := ⟨RX3, "append", "(I)V"⟩
abbrev cX3_at : ByteArray := prog_5_method_8_code
def yX3_at : MethodName := ⟨RX3, "at", "(I)I"⟩
abbrev cX3_set : ByteArray := prog_5_method_9_code
def yX3_set : MethodName := ⟨RX3, "set", "(II)V"⟩
abbrev cX3_numberOf : ByteArray := prog_5_method_10_code
def yX3_numberOf : MethodName := ⟨RX3, "numberOf", "(I)I"⟩
abbrev cX3_swap : ByteArray := prog_5_method_11_code
def yX3_swap : MethodName := ⟨RX3, "swap", "(II)V"⟩
abbrev cX3_reverse : ByteArray := prog_5_method_12_code
def yX3_reverse : MethodName := ⟨RX3, "reverse", "(II)V"⟩
abbrev cX3_keyFor : ByteArray := prog_5_method_13_code
def yX3_keyFor : MethodName := ⟨RX3, "keyFor", "(J)J"⟩
abbrev cX3_less : ByteArray := prog_5_method_14_code
def yX3_less : MethodName := ⟨RX3, "less", "(II)Z"⟩
abbrev cX3_beginAdversary : ByteArray := prog_5_method_15_code
def yX3_beginAdversary : MethodName := ⟨RX3, "beginAdversary", "(I)V"⟩
abbrev cX3_endAdversary : ByteArray := prog_5_method_16_code
def yX3_endAdversary : MethodName := ⟨RX3, "endAdversary", "()V"⟩
abbrev cX3_settle : ByteArray := prog_5_method_17_code
def yX3_settle : MethodName := ⟨RX3, "settle", "(II)V"⟩
def RX4 : String := "SortBench$Runs"
def TX4 : u_T := fun k => match k with
  | 0 => ("SortBench$Way", "row", "LSortBench$Row;", true)
  | 1 => ("SortBench$Runs", "begins", "[I", true)
  | 2 => ("SortBench$Runs", "sizes", "[I", true)
  | 3 => ("SortBench$Runs", "spare", "[I", true)
  | 4 => ("SortBench$Runs", "height", "I", false)
  | 5 => ("SortBench$Runs", "piled", "J", false)
  | _ => ("SortBench$Runs", "merged", "J", false)
def tyX4 : Nat → FieldType := fun k => match k with
  | 0 => .object "SortBench$Row"
  | 1 => .array .int
  | 2 => .array .int
  | 3 => .array .int
  | 4 => .int
  | 5 => .long
  | _ => .long
abbrev wsX40 : List Cond := u_ws RX4 TX4 7
theorem nmX4 : ∀ a, a < 7 → ∀ b, b < 7 → a ≠ b → (TX4 a).2.1 ≠ (TX4 b).2.1 := by decide +kernel
theorem tyX4_ok : ∀ k, k < 7 → parseFieldDescriptor (TX4 k).2.2.1 = some (tyX4 k) := by decide +kernel
abbrev cX4_init : ByteArray := prog_6_method_1_code
def yX4_init : MethodName := ⟨RX4, "<init>", "(LSortBench$Row;)V"⟩
abbrev cX4_piled : ByteArray := prog_6_method_2_code
def yX4_piled : MethodName := ⟨RX4, "piled", "()J"⟩
abbrev cX4_merged : ByteArray := prog_6_method_3_code
def yX4_merged : MethodName := ⟨RX4, "merged", "()J"⟩
abbrev cX4_arrange : ByteArray := prog_6_method_4_code
def yX4_arrange : MethodName := ⟨RX4, "arrange", "()V"⟩
abbrev cX4_findRun : ByteArray := prog_6_method_5_code
def yX4_findRun : MethodName := ⟨RX4, "findRun", "(II)I"⟩
abbrev cX4_lengthen : ByteArray := prog_6_method_6_code
def yX4_lengthen : MethodName := ⟨RX4, "lengthen", "(III)I"⟩
abbrev cX4_insertByHalves : ByteArray := prog_6_method_7_code
def yX4_insertByHalves : MethodName := ⟨RX4, "insertByHalves", "(II)V"⟩
abbrev cX4_pileUp : ByteArray := prog_6_method_8_code
def yX4_pileUp : MethodName := ⟨RX4, "pileUp", "(II)V"⟩
abbrev cX4_sizeAt : ByteArray := prog_6_method_9_code
def yX4_sizeAt : MethodName := ⟨RX4, "sizeAt", "(I)I"⟩
abbrev cX4_beginAt : ByteArray := prog_6_method_10_code
def yX4_beginAt : MethodName := ⟨RX4, "beginAt", "(I)I"⟩
abbrev cX4_mergeWhileFlat : ByteArray := prog_6_method_11_code
def yX4_mergeWhileFlat : MethodName := ⟨RX4, "mergeWhileFlat", "()V"⟩
abbrev cX4_mergeAll : ByteArray := prog_6_method_12_code
def yX4_mergeAll : MethodName := ⟨RX4, "mergeAll", "()V"⟩
abbrev cX4_isFlat : ByteArray := prog_6_method_13_code
def yX4_isFlat : MethodName := ⟨RX4, "isFlat", "(I)Z"⟩
abbrev cX4_lesserSide : ByteArray := prog_6_method_14_code
def yX4_lesserSide : MethodName := ⟨RX4, "lesserSide", "(I)I"⟩
abbrev cX4_mergeAt : ByteArray := prog_6_method_15_code
def yX4_mergeAt : MethodName := ⟨RX4, "mergeAt", "(I)V"⟩
abbrev cX4_merge : ByteArray := prog_6_method_16_code
def yX4_merge : MethodName := ⟨RX4, "merge", "(III)V"⟩
def RX5 : String := "SortBench$Steps"
def TX5 : u_T := fun k => match k with
  | _ => ("SortBench$Way", "row", "LSortBench$Row;", true)
def tyX5 : Nat → FieldType := fun k => match k with
  | _ => .object "SortBench$Row"
abbrev wsX50 : List Cond := u_ws RX5 TX5 1
theorem nmX5 : ∀ a, a < 1 → ∀ b, b < 1 → a ≠ b → (TX5 a).2.1 ≠ (TX5 b).2.1 := by decide +kernel
theorem tyX5_ok : ∀ k, k < 1 → parseFieldDescriptor (TX5 k).2.2.1 = some (tyX5 k) := by decide +kernel
abbrev cX5_init : ByteArray := prog_7_method_1_code
def yX5_init : MethodName := ⟨RX5, "<init>", "(LSortBench$Row;)V"⟩
abbrev cX5_arrange : ByteArray := prog_7_method_2_code
def yX5_arrange : MethodName := ⟨RX5, "arrange", "()V"⟩
abbrev cX5_stepDown : ByteArray := prog_7_method_3_code
def yX5_stepDown : MethodName := ⟨RX5, "stepDown", "(II)V"⟩
def RX6 : String := "SortBench$Way"
def TX6 : u_T := fun k => match k with
  | _ => ("", "", "", false)
def tyX6 : Nat → FieldType := fun k => match k with
  | _ => .int
abbrev wsX60 : List Cond := u_ws RX6 TX6 0
theorem nmX6 : ∀ a, a < 0 → ∀ b, b < 0 → a ≠ b → (TX6 a).2.1 ≠ (TX6 b).2.1 := by decide +kernel
theorem tyX6_ok : ∀ k, k < 0 → parseFieldDescriptor (TX6 k).2.2.1 = some (tyX6 k) := by decide +kernel
abbrev cX6_init : ByteArray := prog_8_method_1_code
def yX6_init : MethodName := ⟨RX6, "<init>", "(LSortBench$Row;)V"⟩
def RX7 : String := "SortBench"
def TX7 : u_T := fun k => match k with
  | 0 => ("SortBench", "row", "LSortBench$Row;", true)
  | 1 => ("SortBench", "inserting", "LSortBench$Inserting;", true)
  | 2 => ("SortBench", "heap", "LSortBench$Heap;", true)
  | 3 => ("SortBench", "quick", "LSortBench$Quick;", true)
  | 4 => ("SortBench", "runs", "LSortBench$Runs;", true)
  | 5 => ("SortBench", "steps", "LSortBench$Steps;", true)
  | 6 => ("SortBench", "askedBefore", "J", false)
  | 7 => ("SortBench", "fallsBefore", "J", false)
  | 8 => ("SortBench", "latestAsked", "J", false)
  | _ => ("SortBench", "latestFalls", "J", false)
def tyX7 : Nat → FieldType := fun k => match k with
  | 0 => .object "SortBench$Row"
  | 1 => .object "SortBench$Inserting"
  | 2 => .object "SortBench$Heap"
  | 3 => .object "SortBench$Quick"
  | 4 => .object "SortBench$Runs"
  | 5 => .object "SortBench$Steps"
  | 6 => .long
  | 7 => .long
  | 8 => .long
  | _ => .long
abbrev wsX70 : List Cond := u_ws RX7 TX7 10
theorem nmX7 : ∀ a, a < 10 → ∀ b, b < 10 → a ≠ b → (TX7 a).2.1 ≠ (TX7 b).2.1 := by decide +kernel
theorem tyX7_ok : ∀ k, k < 10 → parseFieldDescriptor (TX7 k).2.2.1 = some (tyX7 k) := by decide +kernel
abbrev cX7_init : ByteArray := prog_1_method_1_code
def yX7_init : MethodName := ⟨RX7, "<init>", "()V"⟩
abbrev cX7_put : ByteArray := prog_1_method_2_code
def yX7_put : MethodName := ⟨RX7, "put", "(I)I"⟩
abbrev cX7_more : ByteArray := prog_1_method_3_code
def yX7_more : MethodName := ⟨RX7, "more", "(JII)I"⟩
abbrev cX7_line : ByteArray := prog_1_method_4_code
def yX7_line : MethodName := ⟨RX7, "line", "(IIII)I"⟩
abbrev cX7_exchange : ByteArray := prog_1_method_5_code
def yX7_exchange : MethodName := ⟨RX7, "exchange", "(II)V"⟩
abbrev cX7_turn : ByteArray := prog_1_method_6_code
def yX7_turn : MethodName := ⟨RX7, "turn", "(II)V"⟩
abbrev cX7_order : ByteArray := prog_1_method_7_code
def yX7_order : MethodName := ⟨RX7, "order", "(I)I"⟩
abbrev cX7_sort : ByteArray := prog_1_method_8_code
def yX7_sort : MethodName := ⟨RX7, "sort", "(I)I"⟩
abbrev cX7_kill : ByteArray := prog_1_method_9_code
def yX7_kill : MethodName := ⟨RX7, "kill", "(II)I"⟩
abbrev cX7_get : ByteArray := prog_1_method_10_code
def yX7_get : MethodName := ⟨RX7, "get", "(I)I"⟩
abbrev cX7_tag : ByteArray := prog_1_method_11_code
def yX7_tag : MethodName := ⟨RX7, "tag", "(I)I"⟩
abbrev cX7_is : ByteArray := prog_1_method_12_code
def yX7_is : MethodName := ⟨RX7, "is", "(I)Z"⟩
abbrev cX7_count : ByteArray := prog_1_method_13_code
def yX7_count : MethodName := ⟨RX7, "count", "(I)J"⟩
abbrev cX7_clear : ByteArray := prog_1_method_14_code
def yX7_clear : MethodName := ⟨RX7, "clear", "()I"⟩
abbrev cX7_checkPlace : ByteArray := prog_1_method_15_code
def yX7_checkPlace : MethodName := ⟨RX7, "checkPlace", "(I)V"⟩
abbrev cX7_checkChoice : ByteArray := prog_1_method_16_code
def yX7_checkChoice : MethodName := ⟨RX7, "checkChoice", "(II)V"⟩
abbrev cX7_checkAmount : ByteArray := prog_1_method_17_code
def yX7_checkAmount : MethodName := ⟨RX7, "checkAmount", "(I)V"⟩
abbrev cX7_checkRoom : ByteArray := prog_1_method_18_code
def yX7_checkRoom : MethodName := ⟨RX7, "checkRoom", "(I)V"⟩
abbrev cX7_wayOf : ByteArray := prog_1_method_19_code
def yX7_wayOf : MethodName := ⟨RX7, "wayOf", "(I)LSortBench$Way;"⟩
abbrev cX7_startCounting : ByteArray := prog_1_method_20_code
def yX7_startCounting : MethodName := ⟨RX7, "startCounting", "()V"⟩
abbrev cX7_stopCounting : ByteArray := prog_1_method_21_code
def yX7_stopCounting : MethodName := ⟨RX7, "stopCounting", "()I"⟩
abbrev cX7_follows : ByteArray := prog_1_method_22_code
def yX7_follows : MethodName := ⟨RX7, "follows", "(III)Z"⟩
def RX8 : String := "SortBenchModel"
def TX8 : u_T := fun k => match k with
  | 0 => ("SortBenchModel", "thrown", "I", false)
  | 1 => ("SortBenchModel", "size", "I", false)
  | 2 => ("SortBenchModel", "numbers", "[I", true)
  | 3 => ("SortBenchModel", "tags", "[I", true)
  | 4 => ("SortBenchModel", "settled", "[I", true)
  | 5 => ("SortBenchModel", "adverse", "Z", false)
  | 6 => ("SortBenchModel", "candidate", "I", false)
  | 7 => ("SortBenchModel", "next", "I", false)
  | 8 => ("SortBenchModel", "order", "I", false)
  | 9 => ("SortBenchModel", "row", "[I", true)
  | 10 => ("SortBenchModel", "other", "[I", true)
  | 11 => ("SortBenchModel", "compared", "J", false)
  | 12 => ("SortBenchModel", "latest", "J", false)
  | 13 => ("SortBenchModel", "falls", "J", false)
  | 14 => ("SortBenchModel", "fallsNow", "J", false)
  | 15 => ("SortBenchModel", "parted", "J", false)
  | 16 => ("SortBenchModel", "piled", "J", false)
  | 17 => ("SortBenchModel", "merged", "J", false)
  | 18 => ("SortBenchModel", "begins", "[I", true)
  | 19 => ("SortBenchModel", "ends", "[I", true)
  | 20 => ("SortBenchModel", "pile", "I", false)
  | 21 => ("SortBenchModel", "waitFrom", "[I", true)
  | 22 => ("SortBenchModel", "waitTo", "[I", true)
  | 23 => ("SortBenchModel", "waitBudget", "[I", true)
  | 24 => ("SortBenchModel", "waiting", "I", false)
  | _ => ("SortBenchModel", "wasParted", "Z", false)
def tyX8 : Nat → FieldType := fun k => match k with
  | 0 => .int
  | 1 => .int
  | 2 => .array .int
  | 3 => .array .int
  | 4 => .array .int
  | 5 => .boolean
  | 6 => .int
  | 7 => .int
  | 8 => .int
  | 9 => .array .int
  | 10 => .array .int
  | 11 => .long
  | 12 => .long
  | 13 => .long
  | 14 => .long
  | 15 => .long
  | 16 => .long
  | 17 => .long
  | 18 => .array .int
  | 19 => .array .int
  | 20 => .int
  | 21 => .array .int
  | 22 => .array .int
  | 23 => .array .int
  | 24 => .int
  | _ => .boolean
abbrev wsX80 : List Cond := u_ws RX8 TX8 26
theorem nmX8 : ∀ a, a < 26 → ∀ b, b < 26 → a ≠ b → (TX8 a).2.1 ≠ (TX8 b).2.1 := by decide +kernel
theorem tyX8_ok : ∀ k, k < 26 → parseFieldDescriptor (TX8 k).2.2.1 = some (tyX8 k) := by decide +kernel
abbrev cX8_init : ByteArray := prog_10_method_1_code
def yX8_init : MethodName := ⟨RX8, "<init>", "()V"⟩
abbrev cX8_thrown : ByteArray := prog_10_method_2_code
def yX8_thrown : MethodName := ⟨RX8, "thrown", "()I"⟩
abbrev cX8_put : ByteArray := prog_10_method_3_code
def yX8_put : MethodName := ⟨RX8, "put", "(I)I"⟩
abbrev cX8_add : ByteArray := prog_10_method_4_code
def yX8_add : MethodName := ⟨RX8, "add", "(I)V"⟩
abbrev cX8_more : ByteArray := prog_10_method_5_code
def yX8_more : MethodName := ⟨RX8, "more", "(JII)I"⟩
abbrev cX8_line : ByteArray := prog_10_method_6_code
def yX8_line : MethodName := ⟨RX8, "line", "(IIII)I"⟩
abbrev cX8_isPlace : ByteArray := prog_10_method_7_code
def yX8_isPlace : MethodName := ⟨RX8, "isPlace", "(I)Z"⟩
abbrev cX8_swapThings : ByteArray := prog_10_method_8_code
def yX8_swapThings : MethodName := ⟨RX8, "swapThings", "(II)V"⟩
abbrev cX8_exchange : ByteArray := prog_10_method_9_code
def yX8_exchange : MethodName := ⟨RX8, "exchange", "(II)V"⟩
abbrev cX8_turn : ByteArray := prog_10_method_10_code
def yX8_turn : MethodName := ⟨RX8, "turn", "(II)V"⟩
abbrev cX8_order : ByteArray := prog_10_method_11_code
def yX8_order : MethodName := ⟨RX8, "order", "(I)I"⟩
abbrev cX8_key : ByteArray := prog_10_method_12_code
def yX8_key : MethodName := ⟨RX8, "key", "(I)J"⟩
abbrev cX8_less : ByteArray := prog_10_method_13_code
def yX8_less : MethodName := ⟨RX8, "less", "(II)Z"⟩
abbrev cX8_lessAt : ByteArray := prog_10_method_14_code
def yX8_lessAt : MethodName := ⟨RX8, "lessAt", "(II)Z"⟩
abbrev cX8_swap : ByteArray := prog_10_method_15_code
def yX8_swap : MethodName := ⟨RX8, "swap", "(II)V"⟩
abbrev cX8_insert : ByteArray := prog_10_method_16_code
def yX8_insert : MethodName := ⟨RX8, "insert", "(IIZZ)Z"⟩
abbrev cX8_sink : ByteArray := prog_10_method_17_code
def yX8_sink : MethodName := ⟨RX8, "sink", "(III)V"⟩
abbrev cX8_heap : ByteArray := prog_10_method_18_code
def yX8_heap : MethodName := ⟨RX8, "heap", "(II)V"⟩
abbrev cX8_two : ByteArray := prog_10_method_19_code
def yX8_two : MethodName := ⟨RX8, "two", "(II)V"⟩
abbrev cX8_three : ByteArray := prog_10_method_20_code
def yX8_three : MethodName := ⟨RX8, "three", "(III)V"⟩
abbrev cX8_equals : ByteArray := prog_10_method_21_code
def yX8_equals : MethodName := ⟨RX8, "equals", "(II)I"⟩
abbrev cX8_part : ByteArray := prog_10_method_22_code
def yX8_part : MethodName := ⟨RX8, "part", "(II)I"⟩
abbrev cX8_shake : ByteArray := prog_10_method_23_code
def yX8_shake : MethodName := ⟨RX8, "shake", "(III)V"⟩
abbrev cX8_choose : ByteArray := prog_10_method_24_code
def yX8_choose : MethodName := ⟨RX8, "choose", "(II)V"⟩
abbrev cX8_quick : ByteArray := prog_10_method_25_code
def yX8_quick : MethodName := ⟨RX8, "quick", "(I)V"⟩
abbrev cX8_wait : ByteArray := prog_10_method_26_code
def yX8_wait : MethodName := ⟨RX8, "wait", "(III)V"⟩
abbrev cX8_range : ByteArray := prog_10_method_27_code
def yX8_range : MethodName := ⟨RX8, "range", "(III)V"⟩
abbrev cX8_turnRow : ByteArray := prog_10_method_28_code
def yX8_turnRow : MethodName := ⟨RX8, "turnRow", "(II)V"⟩
abbrev cX8_run : ByteArray := prog_10_method_29_code
def yX8_run : MethodName := ⟨RX8, "run", "(I)I"⟩
abbrev cX8_byHalves : ByteArray := prog_10_method_30_code
def yX8_byHalves : MethodName := ⟨RX8, "byHalves", "(III)V"⟩
abbrev cX8_merge : ByteArray := prog_10_method_31_code
def yX8_merge : MethodName := ⟨RX8, "merge", "(I)V"⟩
abbrev cX8_width : ByteArray := prog_10_method_32_code
def yX8_width : MethodName := ⟨RX8, "width", "(I)I"⟩
abbrev cX8_settle : ByteArray := prog_10_method_33_code
def yX8_settle : MethodName := ⟨RX8, "settle", "()V"⟩
abbrev cX8_runs : ByteArray := prog_10_method_34_code
def yX8_runs : MethodName := ⟨RX8, "runs", "()V"⟩
abbrev cX8_gap : ByteArray := prog_10_method_35_code
def yX8_gap : MethodName := ⟨RX8, "gap", "(I)I"⟩
abbrev cX8_steps : ByteArray := prog_10_method_36_code
def yX8_steps : MethodName := ⟨RX8, "steps", "()V"⟩
abbrev cX8_work : ByteArray := prog_10_method_37_code
def yX8_work : MethodName := ⟨RX8, "work", "(I)I"⟩
abbrev cX8_sort : ByteArray := prog_10_method_38_code
def yX8_sort : MethodName := ⟨RX8, "sort", "(I)I"⟩
abbrev cX8_kill : ByteArray := prog_10_method_39_code
def yX8_kill : MethodName := ⟨RX8, "kill", "(II)I"⟩
abbrev cX8_get : ByteArray := prog_10_method_40_code
def yX8_get : MethodName := ⟨RX8, "get", "(I)I"⟩
abbrev cX8_tag : ByteArray := prog_10_method_41_code
def yX8_tag : MethodName := ⟨RX8, "tag", "(I)I"⟩
abbrev cX8_is : ByteArray := prog_10_method_42_code
def yX8_is : MethodName := ⟨RX8, "is", "(I)Z"⟩
abbrev cX8_count : ByteArray := prog_10_method_43_code
def yX8_count : MethodName := ⟨RX8, "count", "(I)J"⟩
abbrev cX8_clear : ByteArray := prog_10_method_44_code
def yX8_clear : MethodName := ⟨RX8, "clear", "()I"⟩
def RJ9 : String := "java/lang/Math"
def TJ9 : u_T := fun k => match k with
  | _ => ("", "", "", false)
def tyJ9 : Nat → FieldType := fun k => match k with
  | _ => .int
abbrev wsJ90 : List Cond := u_ws RJ9 TJ9 0
theorem nmJ9 : ∀ a, a < 0 → ∀ b, b < 0 → a ≠ b → (TJ9 a).2.1 ≠ (TJ9 b).2.1 := by decide +kernel
theorem tyJ9_ok : ∀ k, k < 0 → parseFieldDescriptor (TJ9 k).2.2.1 = some (tyJ9 k) := by decide +kernel
abbrev cJ9_max_7cf53 : ByteArray := prog_14_method_65_code
def yJ9_max_7cf53 : MethodName := ⟨RJ9, "max", "(II)I"⟩
abbrev cJ9_min_7cf53 : ByteArray := prog_14_method_69_code
def yJ9_min_7cf53 : MethodName := ⟨RJ9, "min", "(II)I"⟩
def RJ0 : String := "java/lang/String"
def TJ0 : u_T := fun k => match k with
  | _ => ("", "", "", false)
def tyJ0 : Nat → FieldType := fun k => match k with
  | _ => .int
abbrev wsJ00 : List Cond := u_ws RJ0 TJ0 0
theorem nmJ0 : ∀ a, a < 0 → ∀ b, b < 0 → a ≠ b → (TJ0 a).2.1 ≠ (TJ0 b).2.1 := by decide +kernel
theorem tyJ0_ok : ∀ k, k < 0 → parseFieldDescriptor (TJ0 k).2.2.1 = some (tyJ0 k) := by decide +kernel
def RL : String := "SortBenchLaw"
abbrev cL_put : ByteArray := method_3_code
def yL_put : MethodName := ⟨RL, "put", "(LSortBench;I[J)I"⟩
abbrev cL_more : ByteArray := method_4_code
def yL_more : MethodName := ⟨RL, "more", "(LSortBench;JII[J)I"⟩
abbrev cL_line : ByteArray := method_5_code
def yL_line : MethodName := ⟨RL, "line", "(LSortBench;IIII[J)I"⟩
abbrev cL_exchange : ByteArray := method_6_code
def yL_exchange : MethodName := ⟨RL, "exchange", "(LSortBench;II)I"⟩
abbrev cL_turn : ByteArray := method_7_code
def yL_turn : MethodName := ⟨RL, "turn", "(LSortBench;II)I"⟩
abbrev cL_order : ByteArray := method_8_code
def yL_order : MethodName := ⟨RL, "order", "(LSortBench;I[J)I"⟩
abbrev cL_sort : ByteArray := method_9_code
def yL_sort : MethodName := ⟨RL, "sort", "(LSortBench;I[J)I"⟩
abbrev cL_kill : ByteArray := method_10_code
def yL_kill : MethodName := ⟨RL, "kill", "(LSortBench;II[J)I"⟩
abbrev cL_get : ByteArray := method_11_code
def yL_get : MethodName := ⟨RL, "get", "(LSortBench;I[J)I"⟩
abbrev cL_tag : ByteArray := method_12_code
def yL_tag : MethodName := ⟨RL, "tag", "(LSortBench;I[J)I"⟩
abbrev cL_is : ByteArray := method_13_code
def yL_is : MethodName := ⟨RL, "is", "(LSortBench;I[J)I"⟩
abbrev cL_count : ByteArray := method_14_code
def yL_count : MethodName := ⟨RL, "count", "(LSortBench;I[J)I"⟩
abbrev cL_law : ByteArray := code
def yL_law : MethodName := ⟨RL, "law", "([I)Z"⟩
end
