section
-- ===== PART A: goes FIRST, ahead of the names: the tables' words, and 'selects' of the private methods out of them =====
/-- a private method of a class that the tables say can be made, by its rows of tables_1 -/
def lw_okq (q : MethodName × Nat) : Prop := (q.1.cls ≠ "java/lang/invoke/MethodHandle" ∧ q.1.cls ≠ "java/lang/invoke/VarHandle") ∧ Cond.instantiable q.1.cls q.2 ∈ tables_1 ∧ Cond.privateMethod q.1 ∈ tables_1 ∧ Cond.instanceMethod q.1 ∈ tables_1
theorem lw_p0 : lw_okq (⟨"PictureMachine$Display", "hasRow", "()Z"⟩, 14) := ⟨⟨by decide +kernel, by decide +kernel⟩, List.mem_of_getElem? (i := 148) (by decide +kernel), List.mem_of_getElem? (i := 346) (by decide +kernel), List.mem_of_getElem? (i := 347) (by decide +kernel)⟩
theorem lw_p1 : lw_okq (⟨"PictureMachine$Display", "mode", "()I"⟩, 14) := ⟨⟨by decide +kernel, by decide +kernel⟩, List.mem_of_getElem? (i := 148) (by decide +kernel), List.mem_of_getElem? (i := 350) (by decide +kernel), List.mem_of_getElem? (i := 351) (by decide +kernel)⟩
theorem lw_p2 : lw_okq (⟨"java/lang/Throwable", "fillInStackTrace", "(I)Ljava/lang/Throwable;"⟩, 6) := ⟨⟨by decide +kernel, by decide +kernel⟩, List.mem_of_getElem? (i := 412) (by decide +kernel), List.mem_of_getElem? (i := 410) (by decide +kernel), List.mem_of_getElem? (i := 411) (by decide +kernel)⟩
theorem lw_p3 : lw_okq (⟨"PictureMachine$Drive", "storeSector", "()V"⟩, 10) := ⟨⟨by decide +kernel, by decide +kernel⟩, List.mem_of_getElem? (i := 83) (by decide +kernel), List.mem_of_getElem? (i := 475) (by decide +kernel), List.mem_of_getElem? (i := 476) (by decide +kernel)⟩
theorem lw_p4 : lw_okq (⟨"PictureMachine$Drive", "answer", "(I)V"⟩, 10) := ⟨⟨by decide +kernel, by decide +kernel⟩, List.mem_of_getElem? (i := 83) (by decide +kernel), List.mem_of_getElem? (i := 482) (by decide +kernel), List.mem_of_getElem? (i := 483) (by decide +kernel)⟩
theorem lw_p5 : lw_okq (⟨"PictureMachine$Drive", "obeyCommand", "()V"⟩, 10) := ⟨⟨by decide +kernel, by decide +kernel⟩, List.mem_of_getElem? (i := 83) (by decide +kernel), List.mem_of_getElem? (i := 492) (by decide +kernel), List.mem_of_getElem? (i := 493) (by decide +kernel)⟩
theorem lw_p6 : lw_okq (⟨"PictureMachine", "passCycle", "()Z"⟩, 2) := ⟨⟨by decide +kernel, by decide +kernel⟩, List.mem_of_getElem? (i := 19) (by decide +kernel), List.mem_of_getElem? (i := 536) (by decide +kernel), List.mem_of_getElem? (i := 537) (by decide +kernel)⟩
theorem lw_p7 : lw_okq (⟨"PictureMachine$Display", "beginLine", "(I)V"⟩, 14) := ⟨⟨by decide +kernel, by decide +kernel⟩, List.mem_of_getElem? (i := 148) (by decide +kernel), List.mem_of_getElem? (i := 544) (by decide +kernel), List.mem_of_getElem? (i := 545) (by decide +kernel)⟩
theorem lw_p8 : lw_okq (⟨"PictureMachine$Display", "fetchShape", "(II)Z"⟩, 14) := ⟨⟨by decide +kernel, by decide +kernel⟩, List.mem_of_getElem? (i := 148) (by decide +kernel), List.mem_of_getElem? (i := 548) (by decide +kernel), List.mem_of_getElem? (i := 549) (by decide +kernel)⟩
theorem lw_p9 : lw_okq (⟨"PictureMachine$Display", "requestNmis", "(I)V"⟩, 14) := ⟨⟨by decide +kernel, by decide +kernel⟩, List.mem_of_getElem? (i := 148) (by decide +kernel), List.mem_of_getElem? (i := 553) (by decide +kernel), List.mem_of_getElem? (i := 554) (by decide +kernel)⟩
theorem lw_p10 : lw_okq (⟨"PictureMachine$Display", "requestNmi", "(I)V"⟩, 14) := ⟨⟨by decide +kernel, by decide +kernel⟩, List.mem_of_getElem? (i := 148) (by decide +kernel), List.mem_of_getElem? (i := 557) (by decide +kernel), List.mem_of_getElem? (i := 558) (by decide +kernel)⟩
theorem lw_p11 : lw_okq (⟨"PictureMachine$Display", "isOn", "()Z"⟩, 14) := ⟨⟨by decide +kernel, by decide +kernel⟩, List.mem_of_getElem? (i := 148) (by decide +kernel), List.mem_of_getElem? (i := 564) (by decide +kernel), List.mem_of_getElem? (i := 565) (by decide +kernel)⟩
theorem lw_p12 : lw_okq (⟨"PictureMachine$Display", "isInMarkedLastRow", "()Z"⟩, 14) := ⟨⟨by decide +kernel, by decide +kernel⟩, List.mem_of_getElem? (i := 148) (by decide +kernel), List.mem_of_getElem? (i := 568) (by decide +kernel), List.mem_of_getElem? (i := 569) (by decide +kernel)⟩
theorem lw_p13 : lw_okq (⟨"PictureMachine$Display", "fetchForLine", "(I)Z"⟩, 14) := ⟨⟨by decide +kernel, by decide +kernel⟩, List.mem_of_getElem? (i := 148) (by decide +kernel), List.mem_of_getElem? (i := 572) (by decide +kernel), List.mem_of_getElem? (i := 573) (by decide +kernel)⟩
theorem lw_p14 : lw_okq (⟨"PictureMachine$Display", "beginModeLine", "()Z"⟩, 14) := ⟨⟨by decide +kernel, by decide +kernel⟩, List.mem_of_getElem? (i := 148) (by decide +kernel), List.mem_of_getElem? (i := 576) (by decide +kernel), List.mem_of_getElem? (i := 577) (by decide +kernel)⟩
theorem lw_p15 : lw_okq (⟨"PictureMachine$Display", "nextOfList", "()I"⟩, 14) := ⟨⟨by decide +kernel, by decide +kernel⟩, List.mem_of_getElem? (i := 148) (by decide +kernel), List.mem_of_getElem? (i := 580) (by decide +kernel), List.mem_of_getElem? (i := 581) (by decide +kernel)⟩
def lw_privs_1 : List (MethodName × Nat) := [(⟨"PictureMachine$Display", "hasRow", "()Z"⟩, 14), (⟨"PictureMachine$Display", "mode", "()I"⟩, 14), (⟨"java/lang/Throwable", "fillInStackTrace", "(I)Ljava/lang/Throwable;"⟩, 6), (⟨"PictureMachine$Drive", "storeSector", "()V"⟩, 10), (⟨"PictureMachine$Drive", "answer", "(I)V"⟩, 10), (⟨"PictureMachine$Drive", "obeyCommand", "()V"⟩, 10), (⟨"PictureMachine", "passCycle", "()Z"⟩, 2), (⟨"PictureMachine$Display", "beginLine", "(I)V"⟩, 14), (⟨"PictureMachine$Display", "fetchShape", "(II)Z"⟩, 14), (⟨"PictureMachine$Display", "requestNmis", "(I)V"⟩, 14), (⟨"PictureMachine$Display", "requestNmi", "(I)V"⟩, 14), (⟨"PictureMachine$Display", "isOn", "()Z"⟩, 14), (⟨"PictureMachine$Display", "isInMarkedLastRow", "()Z"⟩, 14), (⟨"PictureMachine$Display", "fetchForLine", "(I)Z"⟩, 14), (⟨"PictureMachine$Display", "beginModeLine", "()Z"⟩, 14), (⟨"PictureMachine$Display", "nextOfList", "()I"⟩, 14)]
theorem lw_r1 : ∀ q ∈ lw_privs_1, lw_okq q := List.forall_mem_cons.mpr ⟨lw_p0, List.forall_mem_cons.mpr ⟨lw_p1, List.forall_mem_cons.mpr ⟨lw_p2, List.forall_mem_cons.mpr ⟨lw_p3, List.forall_mem_cons.mpr ⟨lw_p4, List.forall_mem_cons.mpr ⟨lw_p5, List.forall_mem_cons.mpr ⟨lw_p6, List.forall_mem_cons.mpr ⟨lw_p7, List.forall_mem_cons.mpr ⟨lw_p8, List.forall_mem_cons.mpr ⟨lw_p9, List.forall_mem_cons.mpr ⟨lw_p10, List.forall_mem_cons.mpr ⟨lw_p11, List.forall_mem_cons.mpr ⟨lw_p12, List.forall_mem_cons.mpr ⟨lw_p13, List.forall_mem_cons.mpr ⟨lw_p14, List.forall_mem_cons.mpr ⟨lw_p15, fun _ h => absurd h List.not_mem_nil⟩⟩⟩⟩⟩⟩⟩⟩⟩⟩⟩⟩⟩⟩⟩⟩
theorem lw_p16 : lw_okq (⟨"PictureMachine$Display", "rowsOfMode", "()I"⟩, 14) := ⟨⟨by decide +kernel, by decide +kernel⟩, List.mem_of_getElem? (i := 148) (by decide +kernel), List.mem_of_getElem? (i := 587) (by decide +kernel), List.mem_of_getElem? (i := 588) (by decide +kernel)⟩
theorem lw_p17 : lw_okq (⟨"PictureMachine$Display", "modeHasData", "()Z"⟩, 14) := ⟨⟨by decide +kernel, by decide +kernel⟩, List.mem_of_getElem? (i := 148) (by decide +kernel), List.mem_of_getElem? (i := 591) (by decide +kernel), List.mem_of_getElem? (i := 592) (by decide +kernel)⟩
theorem lw_p18 : lw_okq (⟨"PictureMachine$Display", "fetchAddress", "(Z)Z"⟩, 14) := ⟨⟨by decide +kernel, by decide +kernel⟩, List.mem_of_getElem? (i := 148) (by decide +kernel), List.mem_of_getElem? (i := 595) (by decide +kernel), List.mem_of_getElem? (i := 596) (by decide +kernel)⟩
theorem lw_p19 : lw_okq (⟨"PictureMachine$Display", "fetchData", "(I)Z"⟩, 14) := ⟨⟨by decide +kernel, by decide +kernel⟩, List.mem_of_getElem? (i := 148) (by decide +kernel), List.mem_of_getElem? (i := 599) (by decide +kernel), List.mem_of_getElem? (i := 600) (by decide +kernel)⟩
theorem lw_p20 : lw_okq (⟨"PictureMachine$Display", "fetchLetterRow", "(I)Z"⟩, 14) := ⟨⟨by decide +kernel, by decide +kernel⟩, List.mem_of_getElem? (i := 148) (by decide +kernel), List.mem_of_getElem? (i := 603) (by decide +kernel), List.mem_of_getElem? (i := 604) (by decide +kernel)⟩
theorem lw_p21 : lw_okq (⟨"PictureMachine$Processor", "begin", "()V"⟩, 13) := ⟨⟨by decide +kernel, by decide +kernel⟩, List.mem_of_getElem? (i := 267) (by decide +kernel), List.mem_of_getElem? (i := 611) (by decide +kernel), List.mem_of_getElem? (i := 612) (by decide +kernel)⟩
theorem lw_p22 : lw_okq (⟨"PictureMachine$Processor", "enterNmi", "()V"⟩, 13) := ⟨⟨by decide +kernel, by decide +kernel⟩, List.mem_of_getElem? (i := 267) (by decide +kernel), List.mem_of_getElem? (i := 631) (by decide +kernel), List.mem_of_getElem? (i := 632) (by decide +kernel)⟩
theorem lw_p23 : lw_okq (⟨"PictureMachine$Processor", "pushPlace", "(I)V"⟩, 13) := ⟨⟨by decide +kernel, by decide +kernel⟩, List.mem_of_getElem? (i := 267) (by decide +kernel), List.mem_of_getElem? (i := 635) (by decide +kernel), List.mem_of_getElem? (i := 636) (by decide +kernel)⟩
theorem lw_p24 : lw_okq (⟨"PictureMachine$Processor", "push", "(I)V"⟩, 13) := ⟨⟨by decide +kernel, by decide +kernel⟩, List.mem_of_getElem? (i := 267) (by decide +kernel), List.mem_of_getElem? (i := 639) (by decide +kernel), List.mem_of_getElem? (i := 640) (by decide +kernel)⟩
theorem lw_p25 : lw_okq (⟨"PictureMachine$Processor", "perform", "()V"⟩, 13) := ⟨⟨by decide +kernel, by decide +kernel⟩, List.mem_of_getElem? (i := 267) (by decide +kernel), List.mem_of_getElem? (i := 646) (by decide +kernel), List.mem_of_getElem? (i := 647) (by decide +kernel)⟩
theorem lw_p26 : lw_okq (⟨"PictureMachine$Processor", "nextByte", "()I"⟩, 13) := ⟨⟨by decide +kernel, by decide +kernel⟩, List.mem_of_getElem? (i := 267) (by decide +kernel), List.mem_of_getElem? (i := 650) (by decide +kernel), List.mem_of_getElem? (i := 651) (by decide +kernel)⟩
theorem lw_p27 : lw_okq (⟨"PictureMachine$Processor", "result", "(I)I"⟩, 13) := ⟨⟨by decide +kernel, by decide +kernel⟩, List.mem_of_getElem? (i := 267) (by decide +kernel), List.mem_of_getElem? (i := 654) (by decide +kernel), List.mem_of_getElem? (i := 655) (by decide +kernel)⟩
theorem lw_p28 : lw_okq (⟨"PictureMachine$Processor", "nextAddress", "()I"⟩, 13) := ⟨⟨by decide +kernel, by decide +kernel⟩, List.mem_of_getElem? (i := 267) (by decide +kernel), List.mem_of_getElem? (i := 658) (by decide +kernel), List.mem_of_getElem? (i := 659) (by decide +kernel)⟩
theorem lw_p29 : lw_okq (⟨"PictureMachine$Processor", "add", "(I)V"⟩, 13) := ⟨⟨by decide +kernel, by decide +kernel⟩, List.mem_of_getElem? (i := 267) (by decide +kernel), List.mem_of_getElem? (i := 663) (by decide +kernel), List.mem_of_getElem? (i := 664) (by decide +kernel)⟩
theorem lw_p30 : lw_okq (⟨"PictureMachine$Processor", "compare", "(II)V"⟩, 13) := ⟨⟨by decide +kernel, by decide +kernel⟩, List.mem_of_getElem? (i := 267) (by decide +kernel), List.mem_of_getElem? (i := 667) (by decide +kernel), List.mem_of_getElem? (i := 668) (by decide +kernel)⟩
theorem lw_p31 : lw_okq (⟨"PictureMachine$Processor", "change", "(II)V"⟩, 13) := ⟨⟨by decide +kernel, by decide +kernel⟩, List.mem_of_getElem? (i := 267) (by decide +kernel), List.mem_of_getElem? (i := 671) (by decide +kernel), List.mem_of_getElem? (i := 672) (by decide +kernel)⟩
def lw_privs_2 : List (MethodName × Nat) := [(⟨"PictureMachine$Display", "rowsOfMode", "()I"⟩, 14), (⟨"PictureMachine$Display", "modeHasData", "()Z"⟩, 14), (⟨"PictureMachine$Display", "fetchAddress", "(Z)Z"⟩, 14), (⟨"PictureMachine$Display", "fetchData", "(I)Z"⟩, 14), (⟨"PictureMachine$Display", "fetchLetterRow", "(I)Z"⟩, 14), (⟨"PictureMachine$Processor", "begin", "()V"⟩, 13), (⟨"PictureMachine$Processor", "enterNmi", "()V"⟩, 13), (⟨"PictureMachine$Processor", "pushPlace", "(I)V"⟩, 13), (⟨"PictureMachine$Processor", "push", "(I)V"⟩, 13), (⟨"PictureMachine$Processor", "perform", "()V"⟩, 13), (⟨"PictureMachine$Processor", "nextByte", "()I"⟩, 13), (⟨"PictureMachine$Processor", "result", "(I)I"⟩, 13), (⟨"PictureMachine$Processor", "nextAddress", "()I"⟩, 13), (⟨"PictureMachine$Processor", "add", "(I)V"⟩, 13), (⟨"PictureMachine$Processor", "compare", "(II)V"⟩, 13), (⟨"PictureMachine$Processor", "change", "(II)V"⟩, 13)]
theorem lw_r2 : ∀ q ∈ lw_privs_2, lw_okq q := List.forall_mem_cons.mpr ⟨lw_p16, List.forall_mem_cons.mpr ⟨lw_p17, List.forall_mem_cons.mpr ⟨lw_p18, List.forall_mem_cons.mpr ⟨lw_p19, List.forall_mem_cons.mpr ⟨lw_p20, List.forall_mem_cons.mpr ⟨lw_p21, List.forall_mem_cons.mpr ⟨lw_p22, List.forall_mem_cons.mpr ⟨lw_p23, List.forall_mem_cons.mpr ⟨lw_p24, List.forall_mem_cons.mpr ⟨lw_p25, List.forall_mem_cons.mpr ⟨lw_p26, List.forall_mem_cons.mpr ⟨lw_p27, List.forall_mem_cons.mpr ⟨lw_p28, List.forall_mem_cons.mpr ⟨lw_p29, List.forall_mem_cons.mpr ⟨lw_p30, List.forall_mem_cons.mpr ⟨lw_p31, fun _ h => absurd h List.not_mem_nil⟩⟩⟩⟩⟩⟩⟩⟩⟩⟩⟩⟩⟩⟩⟩⟩
theorem lw_p32 : lw_okq (⟨"PictureMachine$Processor", "pull", "()I"⟩, 13) := ⟨⟨by decide +kernel, by decide +kernel⟩, List.mem_of_getElem? (i := 267) (by decide +kernel), List.mem_of_getElem? (i := 675) (by decide +kernel), List.mem_of_getElem? (i := 676) (by decide +kernel)⟩
theorem lw_p33 : lw_okq (⟨"PictureMachine$Processor", "branchIf", "(Z)V"⟩, 13) := ⟨⟨by decide +kernel, by decide +kernel⟩, List.mem_of_getElem? (i := 267) (by decide +kernel), List.mem_of_getElem? (i := 679) (by decide +kernel), List.mem_of_getElem? (i := 680) (by decide +kernel)⟩
theorem lw_p34 : lw_okq (⟨"PictureMachine$Processor", "callPart", "(I)V"⟩, 13) := ⟨⟨by decide +kernel, by decide +kernel⟩, List.mem_of_getElem? (i := 267) (by decide +kernel), List.mem_of_getElem? (i := 683) (by decide +kernel), List.mem_of_getElem? (i := 684) (by decide +kernel)⟩
theorem lw_p35 : lw_okq (⟨"PictureMachine$Processor", "pullPlace", "()I"⟩, 13) := ⟨⟨by decide +kernel, by decide +kernel⟩, List.mem_of_getElem? (i := 267) (by decide +kernel), List.mem_of_getElem? (i := 687) (by decide +kernel), List.mem_of_getElem? (i := 688) (by decide +kernel)⟩
theorem lw_p36 : lw_okq (⟨"PictureMachine$Processor", "returnFromNmi", "()V"⟩, 13) := ⟨⟨by decide +kernel, by decide +kernel⟩, List.mem_of_getElem? (i := 267) (by decide +kernel), List.mem_of_getElem? (i := 691) (by decide +kernel), List.mem_of_getElem? (i := 692) (by decide +kernel)⟩
theorem lw_p37 : lw_okq (⟨"PictureMachine$Processor", "jam", "()V"⟩, 13) := ⟨⟨by decide +kernel, by decide +kernel⟩, List.mem_of_getElem? (i := 267) (by decide +kernel), List.mem_of_getElem? (i := 695) (by decide +kernel), List.mem_of_getElem? (i := 696) (by decide +kernel)⟩
theorem lw_p38 : lw_okq (⟨"PictureMachine", "endLine", "(I)V"⟩, 2) := ⟨⟨by decide +kernel, by decide +kernel⟩, List.mem_of_getElem? (i := 19) (by decide +kernel), List.mem_of_getElem? (i := 703) (by decide +kernel), List.mem_of_getElem? (i := 704) (by decide +kernel)⟩
theorem lw_p39 : lw_okq (⟨"PictureMachine$Picture", "drawnDot", "(II)I"⟩, 5) := ⟨⟨by decide +kernel, by decide +kernel⟩, List.mem_of_getElem? (i := 202) (by decide +kernel), List.mem_of_getElem? (i := 719) (by decide +kernel), List.mem_of_getElem? (i := 720) (by decide +kernel)⟩
theorem lw_p40 : lw_okq (⟨"PictureMachine$Picture", "covers", "(II)Z"⟩, 5) := ⟨⟨by decide +kernel, by decide +kernel⟩, List.mem_of_getElem? (i := 202) (by decide +kernel), List.mem_of_getElem? (i := 723) (by decide +kernel), List.mem_of_getElem? (i := 724) (by decide +kernel)⟩
theorem lw_p41 : lw_okq (⟨"PictureMachine$Picture", "collide", "(II)V"⟩, 5) := ⟨⟨by decide +kernel, by decide +kernel⟩, List.mem_of_getElem? (i := 202) (by decide +kernel), List.mem_of_getElem? (i := 727) (by decide +kernel), List.mem_of_getElem? (i := 728) (by decide +kernel)⟩
theorem lw_p42 : lw_okq (⟨"PictureMachineModel", "fails", "()I"⟩, 49) := ⟨⟨by decide +kernel, by decide +kernel⟩, List.mem_of_getElem? (i := 770) (by decide +kernel), List.mem_of_getElem? (i := 935) (by decide +kernel), List.mem_of_getElem? (i := 936) (by decide +kernel)⟩
theorem lw_p43 : lw_okq (⟨"PictureMachineModel", "tick", "()Z"⟩, 49) := ⟨⟨by decide +kernel, by decide +kernel⟩, List.mem_of_getElem? (i := 770) (by decide +kernel), List.mem_of_getElem? (i := 939) (by decide +kernel), List.mem_of_getElem? (i := 940) (by decide +kernel)⟩
theorem lw_p44 : lw_okq (⟨"PictureMachineModel", "displays", "()Z"⟩, 49) := ⟨⟨by decide +kernel, by decide +kernel⟩, List.mem_of_getElem? (i := 770) (by decide +kernel), List.mem_of_getElem? (i := 943) (by decide +kernel), List.mem_of_getElem? (i := 944) (by decide +kernel)⟩
theorem lw_p45 : lw_okq (⟨"PictureMachineModel", "asks", "()V"⟩, 49) := ⟨⟨by decide +kernel, by decide +kernel⟩, List.mem_of_getElem? (i := 770) (by decide +kernel), List.mem_of_getElem? (i := 947) (by decide +kernel), List.mem_of_getElem? (i := 948) (by decide +kernel)⟩
theorem lw_p46 : lw_okq (⟨"PictureMachineModel", "isPicture", "()Z"⟩, 49) := ⟨⟨by decide +kernel, by decide +kernel⟩, List.mem_of_getElem? (i := 770) (by decide +kernel), List.mem_of_getElem? (i := 951) (by decide +kernel), List.mem_of_getElem? (i := 952) (by decide +kernel)⟩
theorem lw_p47 : lw_okq (⟨"PictureMachineModel", "control", "(I)Z"⟩, 49) := ⟨⟨by decide +kernel, by decide +kernel⟩, List.mem_of_getElem? (i := 770) (by decide +kernel), List.mem_of_getElem? (i := 955) (by decide +kernel), List.mem_of_getElem? (i := 956) (by decide +kernel)⟩
def lw_privs_3 : List (MethodName × Nat) := [(⟨"PictureMachine$Processor", "pull", "()I"⟩, 13), (⟨"PictureMachine$Processor", "branchIf", "(Z)V"⟩, 13), (⟨"PictureMachine$Processor", "callPart", "(I)V"⟩, 13), (⟨"PictureMachine$Processor", "pullPlace", "()I"⟩, 13), (⟨"PictureMachine$Processor", "returnFromNmi", "()V"⟩, 13), (⟨"PictureMachine$Processor", "jam", "()V"⟩, 13), (⟨"PictureMachine", "endLine", "(I)V"⟩, 2), (⟨"PictureMachine$Picture", "drawnDot", "(II)I"⟩, 5), (⟨"PictureMachine$Picture", "covers", "(II)Z"⟩, 5), (⟨"PictureMachine$Picture", "collide", "(II)V"⟩, 5), (⟨"PictureMachineModel", "fails", "()I"⟩, 49), (⟨"PictureMachineModel", "tick", "()Z"⟩, 49), (⟨"PictureMachineModel", "displays", "()Z"⟩, 49), (⟨"PictureMachineModel", "asks", "()V"⟩, 49), (⟨"PictureMachineModel", "isPicture", "()Z"⟩, 49), (⟨"PictureMachineModel", "control", "(I)Z"⟩, 49)]
theorem lw_r3 : ∀ q ∈ lw_privs_3, lw_okq q := List.forall_mem_cons.mpr ⟨lw_p32, List.forall_mem_cons.mpr ⟨lw_p33, List.forall_mem_cons.mpr ⟨lw_p34, List.forall_mem_cons.mpr ⟨lw_p35, List.forall_mem_cons.mpr ⟨lw_p36, List.forall_mem_cons.mpr ⟨lw_p37, List.forall_mem_cons.mpr ⟨lw_p38, List.forall_mem_cons.mpr ⟨lw_p39, List.forall_mem_cons.mpr ⟨lw_p40, List.forall_mem_cons.mpr ⟨lw_p41, List.forall_mem_cons.mpr ⟨lw_p42, List.forall_mem_cons.mpr ⟨lw_p43, List.forall_mem_cons.mpr ⟨lw_p44, List.forall_mem_cons.mpr ⟨lw_p45, List.forall_mem_cons.mpr ⟨lw_p46, List.forall_mem_cons.mpr ⟨lw_p47, fun _ h => absurd h List.not_mem_nil⟩⟩⟩⟩⟩⟩⟩⟩⟩⟩⟩⟩⟩⟩⟩⟩
theorem lw_p48 : lw_okq (⟨"PictureMachineModel", "hasRows", "()Z"⟩, 49) := ⟨⟨by decide +kernel, by decide +kernel⟩, List.mem_of_getElem? (i := 770) (by decide +kernel), List.mem_of_getElem? (i := 959) (by decide +kernel), List.mem_of_getElem? (i := 960) (by decide +kernel)⟩
theorem lw_p49 : lw_okq (⟨"PictureMachineModel", "fetch", "(I)I"⟩, 49) := ⟨⟨by decide +kernel, by decide +kernel⟩, List.mem_of_getElem? (i := 770) (by decide +kernel), List.mem_of_getElem? (i := 963) (by decide +kernel), List.mem_of_getElem? (i := 964) (by decide +kernel)⟩
theorem lw_p50 : lw_okq (⟨"PictureMachineModel", "fetches", "()Z"⟩, 49) := ⟨⟨by decide +kernel, by decide +kernel⟩, List.mem_of_getElem? (i := 770) (by decide +kernel), List.mem_of_getElem? (i := 967) (by decide +kernel), List.mem_of_getElem? (i := 968) (by decide +kernel)⟩
theorem lw_p51 : lw_okq (⟨"PictureMachineModel", "begin", "(I)V"⟩, 49) := ⟨⟨by decide +kernel, by decide +kernel⟩, List.mem_of_getElem? (i := 770) (by decide +kernel), List.mem_of_getElem? (i := 971) (by decide +kernel), List.mem_of_getElem? (i := 972) (by decide +kernel)⟩
theorem lw_p52 : lw_okq (⟨"PictureMachineModel", "addressed", "()Z"⟩, 49) := ⟨⟨by decide +kernel, by decide +kernel⟩, List.mem_of_getElem? (i := 770) (by decide +kernel), List.mem_of_getElem? (i := 978) (by decide +kernel), List.mem_of_getElem? (i := 979) (by decide +kernel)⟩
theorem lw_p53 : lw_okq (⟨"PictureMachineModel", "steps", "()Z"⟩, 49) := ⟨⟨by decide +kernel, by decide +kernel⟩, List.mem_of_getElem? (i := 770) (by decide +kernel), List.mem_of_getElem? (i := 982) (by decide +kernel), List.mem_of_getElem? (i := 983) (by decide +kernel)⟩
theorem lw_p54 : lw_okq (⟨"PictureMachineModel", "read", "(I)I"⟩, 49) := ⟨⟨by decide +kernel, by decide +kernel⟩, List.mem_of_getElem? (i := 770) (by decide +kernel), List.mem_of_getElem? (i := 986) (by decide +kernel), List.mem_of_getElem? (i := 987) (by decide +kernel)⟩
theorem lw_p55 : lw_okq (⟨"PictureMachineModel", "readRegister", "(I)I"⟩, 49) := ⟨⟨by decide +kernel, by decide +kernel⟩, List.mem_of_getElem? (i := 770) (by decide +kernel), List.mem_of_getElem? (i := 990) (by decide +kernel), List.mem_of_getElem? (i := 991) (by decide +kernel)⟩
theorem lw_p56 : lw_okq (⟨"PictureMachineModel", "interrupt", "()V"⟩, 49) := ⟨⟨by decide +kernel, by decide +kernel⟩, List.mem_of_getElem? (i := 770) (by decide +kernel), List.mem_of_getElem? (i := 1003) (by decide +kernel), List.mem_of_getElem? (i := 1004) (by decide +kernel)⟩
theorem lw_p57 : lw_okq (⟨"PictureMachineModel", "push", "(I)V"⟩, 49) := ⟨⟨by decide +kernel, by decide +kernel⟩, List.mem_of_getElem? (i := 770) (by decide +kernel), List.mem_of_getElem? (i := 1007) (by decide +kernel), List.mem_of_getElem? (i := 1008) (by decide +kernel)⟩
theorem lw_p58 : lw_okq (⟨"PictureMachineModel", "flags", "()I"⟩, 49) := ⟨⟨by decide +kernel, by decide +kernel⟩, List.mem_of_getElem? (i := 770) (by decide +kernel), List.mem_of_getElem? (i := 1011) (by decide +kernel), List.mem_of_getElem? (i := 1012) (by decide +kernel)⟩
theorem lw_p59 : lw_okq (⟨"PictureMachineModel", "execute", "()V"⟩, 49) := ⟨⟨by decide +kernel, by decide +kernel⟩, List.mem_of_getElem? (i := 770) (by decide +kernel), List.mem_of_getElem? (i := 1015) (by decide +kernel), List.mem_of_getElem? (i := 1016) (by decide +kernel)⟩
theorem lw_p60 : lw_okq (⟨"PictureMachineModel", "go", "(III)V"⟩, 49) := ⟨⟨by decide +kernel, by decide +kernel⟩, List.mem_of_getElem? (i := 770) (by decide +kernel), List.mem_of_getElem? (i := 1019) (by decide +kernel), List.mem_of_getElem? (i := 1020) (by decide +kernel)⟩
theorem lw_p61 : lw_okq (⟨"PictureMachineModel", "isTaken", "()Z"⟩, 49) := ⟨⟨by decide +kernel, by decide +kernel⟩, List.mem_of_getElem? (i := 770) (by decide +kernel), List.mem_of_getElem? (i := 1023) (by decide +kernel), List.mem_of_getElem? (i := 1024) (by decide +kernel)⟩
theorem lw_p62 : lw_okq (⟨"PictureMachineModel", "pull", "()I"⟩, 49) := ⟨⟨by decide +kernel, by decide +kernel⟩, List.mem_of_getElem? (i := 770) (by decide +kernel), List.mem_of_getElem? (i := 1027) (by decide +kernel), List.mem_of_getElem? (i := 1028) (by decide +kernel)⟩
theorem lw_p63 : lw_okq (⟨"PictureMachineModel", "comeBack", "(I)V"⟩, 49) := ⟨⟨by decide +kernel, by decide +kernel⟩, List.mem_of_getElem? (i := 770) (by decide +kernel), List.mem_of_getElem? (i := 1031) (by decide +kernel), List.mem_of_getElem? (i := 1032) (by decide +kernel)⟩
def lw_privs_4 : List (MethodName × Nat) := [(⟨"PictureMachineModel", "hasRows", "()Z"⟩, 49), (⟨"PictureMachineModel", "fetch", "(I)I"⟩, 49), (⟨"PictureMachineModel", "fetches", "()Z"⟩, 49), (⟨"PictureMachineModel", "begin", "(I)V"⟩, 49), (⟨"PictureMachineModel", "addressed", "()Z"⟩, 49), (⟨"PictureMachineModel", "steps", "()Z"⟩, 49), (⟨"PictureMachineModel", "read", "(I)I"⟩, 49), (⟨"PictureMachineModel", "readRegister", "(I)I"⟩, 49), (⟨"PictureMachineModel", "interrupt", "()V"⟩, 49), (⟨"PictureMachineModel", "push", "(I)V"⟩, 49), (⟨"PictureMachineModel", "flags", "()I"⟩, 49), (⟨"PictureMachineModel", "execute", "()V"⟩, 49), (⟨"PictureMachineModel", "go", "(III)V"⟩, 49), (⟨"PictureMachineModel", "isTaken", "()Z"⟩, 49), (⟨"PictureMachineModel", "pull", "()I"⟩, 49), (⟨"PictureMachineModel", "comeBack", "(I)V"⟩, 49)]
theorem lw_r4 : ∀ q ∈ lw_privs_4, lw_okq q := List.forall_mem_cons.mpr ⟨lw_p48, List.forall_mem_cons.mpr ⟨lw_p49, List.forall_mem_cons.mpr ⟨lw_p50, List.forall_mem_cons.mpr ⟨lw_p51, List.forall_mem_cons.mpr ⟨lw_p52, List.forall_mem_cons.mpr ⟨lw_p53, List.forall_mem_cons.mpr ⟨lw_p54, List.forall_mem_cons.mpr ⟨lw_p55, List.forall_mem_cons.mpr ⟨lw_p56, List.forall_mem_cons.mpr ⟨lw_p57, List.forall_mem_cons.mpr ⟨lw_p58, List.forall_mem_cons.mpr ⟨lw_p59, List.forall_mem_cons.mpr ⟨lw_p60, List.forall_mem_cons.mpr ⟨lw_p61, List.forall_mem_cons.mpr ⟨lw_p62, List.forall_mem_cons.mpr ⟨lw_p63, fun _ h => absurd h List.not_mem_nil⟩⟩⟩⟩⟩⟩⟩⟩⟩⟩⟩⟩⟩⟩⟩⟩
theorem lw_p64 : lw_okq (⟨"PictureMachineModel", "store", "(II)V"⟩, 49) := ⟨⟨by decide +kernel, by decide +kernel⟩, List.mem_of_getElem? (i := 770) (by decide +kernel), List.mem_of_getElem? (i := 1035) (by decide +kernel), List.mem_of_getElem? (i := 1036) (by decide +kernel)⟩
theorem lw_p65 : lw_okq (⟨"PictureMachineModel", "change", "(II)V"⟩, 49) := ⟨⟨by decide +kernel, by decide +kernel⟩, List.mem_of_getElem? (i := 770) (by decide +kernel), List.mem_of_getElem? (i := 1039) (by decide +kernel), List.mem_of_getElem? (i := 1040) (by decide +kernel)⟩
theorem lw_p66 : lw_okq (⟨"PictureMachineModel", "sent", "(I)V"⟩, 49) := ⟨⟨by decide +kernel, by decide +kernel⟩, List.mem_of_getElem? (i := 770) (by decide +kernel), List.mem_of_getElem? (i := 1043) (by decide +kernel), List.mem_of_getElem? (i := 1044) (by decide +kernel)⟩
theorem lw_p67 : lw_okq (⟨"PictureMachineModel", "command", "()V"⟩, 49) := ⟨⟨by decide +kernel, by decide +kernel⟩, List.mem_of_getElem? (i := 770) (by decide +kernel), List.mem_of_getElem? (i := 1047) (by decide +kernel), List.mem_of_getElem? (i := 1048) (by decide +kernel)⟩
theorem lw_p68 : lw_okq (⟨"PictureMachineModel", "sumOf", "(I)I"⟩, 49) := ⟨⟨by decide +kernel, by decide +kernel⟩, List.mem_of_getElem? (i := 770) (by decide +kernel), List.mem_of_getElem? (i := 1051) (by decide +kernel), List.mem_of_getElem? (i := 1052) (by decide +kernel)⟩
theorem lw_p69 : lw_okq (⟨"PictureMachineModel", "answer", "(I)V"⟩, 49) := ⟨⟨by decide +kernel, by decide +kernel⟩, List.mem_of_getElem? (i := 770) (by decide +kernel), List.mem_of_getElem? (i := 1058) (by decide +kernel), List.mem_of_getElem? (i := 1059) (by decide +kernel)⟩
theorem lw_p70 : lw_okq (⟨"PictureMachineModel", "set", "(I)I"⟩, 49) := ⟨⟨by decide +kernel, by decide +kernel⟩, List.mem_of_getElem? (i := 770) (by decide +kernel), List.mem_of_getElem? (i := 1062) (by decide +kernel), List.mem_of_getElem? (i := 1063) (by decide +kernel)⟩
theorem lw_p71 : lw_okq (⟨"PictureMachineModel", "use", "(II)V"⟩, 49) := ⟨⟨by decide +kernel, by decide +kernel⟩, List.mem_of_getElem? (i := 770) (by decide +kernel), List.mem_of_getElem? (i := 1066) (by decide +kernel), List.mem_of_getElem? (i := 1067) (by decide +kernel)⟩
theorem lw_p72 : lw_okq (⟨"PictureMachineModel", "sum", "(I)I"⟩, 49) := ⟨⟨by decide +kernel, by decide +kernel⟩, List.mem_of_getElem? (i := 770) (by decide +kernel), List.mem_of_getElem? (i := 1070) (by decide +kernel), List.mem_of_getElem? (i := 1071) (by decide +kernel)⟩
theorem lw_p73 : lw_okq (⟨"PictureMachineModel", "compare", "(II)V"⟩, 49) := ⟨⟨by decide +kernel, by decide +kernel⟩, List.mem_of_getElem? (i := 770) (by decide +kernel), List.mem_of_getElem? (i := 1074) (by decide +kernel), List.mem_of_getElem? (i := 1075) (by decide +kernel)⟩
theorem lw_p74 : lw_okq (⟨"PictureMachineModel", "alter", "(I)V"⟩, 49) := ⟨⟨by decide +kernel, by decide +kernel⟩, List.mem_of_getElem? (i := 770) (by decide +kernel), List.mem_of_getElem? (i := 1078) (by decide +kernel), List.mem_of_getElem? (i := 1079) (by decide +kernel)⟩
theorem lw_p75 : lw_okq (⟨"PictureMachineModel", "draw", "()V"⟩, 49) := ⟨⟨by decide +kernel, by decide +kernel⟩, List.mem_of_getElem? (i := 770) (by decide +kernel), List.mem_of_getElem? (i := 1082) (by decide +kernel), List.mem_of_getElem? (i := 1083) (by decide +kernel)⟩
theorem lw_p76 : lw_okq (⟨"PictureMachineModel", "numberOf", "(I)I"⟩, 49) := ⟨⟨by decide +kernel, by decide +kernel⟩, List.mem_of_getElem? (i := 770) (by decide +kernel), List.mem_of_getElem? (i := 1086) (by decide +kernel), List.mem_of_getElem? (i := 1087) (by decide +kernel)⟩
theorem lw_p77 : lw_okq (⟨"PictureMachineModel", "isCovered", "(II)Z"⟩, 49) := ⟨⟨by decide +kernel, by decide +kernel⟩, List.mem_of_getElem? (i := 770) (by decide +kernel), List.mem_of_getElem? (i := 1090) (by decide +kernel), List.mem_of_getElem? (i := 1091) (by decide +kernel)⟩
theorem lw_p78 : lw_okq (⟨"PictureMachineModel", "deliver", "()V"⟩, 49) := ⟨⟨by decide +kernel, by decide +kernel⟩, List.mem_of_getElem? (i := 770) (by decide +kernel), List.mem_of_getElem? (i := 1094) (by decide +kernel), List.mem_of_getElem? (i := 1095) (by decide +kernel)⟩
def lw_privs_5 : List (MethodName × Nat) := [(⟨"PictureMachineModel", "store", "(II)V"⟩, 49), (⟨"PictureMachineModel", "change", "(II)V"⟩, 49), (⟨"PictureMachineModel", "sent", "(I)V"⟩, 49), (⟨"PictureMachineModel", "command", "()V"⟩, 49), (⟨"PictureMachineModel", "sumOf", "(I)I"⟩, 49), (⟨"PictureMachineModel", "answer", "(I)V"⟩, 49), (⟨"PictureMachineModel", "set", "(I)I"⟩, 49), (⟨"PictureMachineModel", "use", "(II)V"⟩, 49), (⟨"PictureMachineModel", "sum", "(I)I"⟩, 49), (⟨"PictureMachineModel", "compare", "(II)V"⟩, 49), (⟨"PictureMachineModel", "alter", "(I)V"⟩, 49), (⟨"PictureMachineModel", "draw", "()V"⟩, 49), (⟨"PictureMachineModel", "numberOf", "(I)I"⟩, 49), (⟨"PictureMachineModel", "isCovered", "(II)Z"⟩, 49), (⟨"PictureMachineModel", "deliver", "()V"⟩, 49)]
theorem lw_r5 : ∀ q ∈ lw_privs_5, lw_okq q := List.forall_mem_cons.mpr ⟨lw_p64, List.forall_mem_cons.mpr ⟨lw_p65, List.forall_mem_cons.mpr ⟨lw_p66, List.forall_mem_cons.mpr ⟨lw_p67, List.forall_mem_cons.mpr ⟨lw_p68, List.forall_mem_cons.mpr ⟨lw_p69, List.forall_mem_cons.mpr ⟨lw_p70, List.forall_mem_cons.mpr ⟨lw_p71, List.forall_mem_cons.mpr ⟨lw_p72, List.forall_mem_cons.mpr ⟨lw_p73, List.forall_mem_cons.mpr ⟨lw_p74, List.forall_mem_cons.mpr ⟨lw_p75, List.forall_mem_cons.mpr ⟨lw_p76, List.forall_mem_cons.mpr ⟨lw_p77, List.forall_mem_cons.mpr ⟨lw_p78, fun _ h => absurd h List.not_mem_nil⟩⟩⟩⟩⟩⟩⟩⟩⟩⟩⟩⟩⟩⟩⟩
def lw_privs : List (MethodName × Nat) := lw_privs_1 ++ (lw_privs_2 ++ (lw_privs_3 ++ (lw_privs_4 ++ (lw_privs_5))))
def lw_tbl : List Cond := k2_sels lw_privs ++ tables_1
theorem lw_privs_ok : ∀ q ∈ lw_privs, lw_okq q := by
  show ∀ q ∈ lw_privs_1 ++ (lw_privs_2 ++ (lw_privs_3 ++ (lw_privs_4 ++ (lw_privs_5)))), lw_okq q
  exact List.forall_mem_append.mpr ⟨lw_r1, List.forall_mem_append.mpr ⟨lw_r2, List.forall_mem_append.mpr ⟨lw_r3, List.forall_mem_append.mpr ⟨lw_r4, lw_r5⟩⟩⟩⟩
end
section
/-! ===== the words that every contract carries: all good words of the tables, in one list ===== -/
def al : List Cond := lw_tbl.filter goodWord
theorem al_in {w : Cond} (h : w ∈ tables_1) (hg : goodWord w = true) : w ∈ al := List.mem_filter.mpr ⟨List.mem_append_right _ h, hg⟩
theorem al_sel {q : MethodName × Nat} (h : q ∈ lw_privs) (hg : goodWord (Cond.selects q.1.cls q.1 q.1) = true) : Cond.selects q.1.cls q.1 q.1 ∈ al := List.mem_filter.mpr ⟨List.mem_append_left _ (List.mem_map.mpr ⟨q, h, rfl⟩), hg⟩
theorem al_good {ws : List Cond} (h : ∀ w ∈ ws, w ∈ al) : GoodIn al ws := fun w hw => ⟨h w hw, good_of_word (List.mem_filter.mp (h w hw)).2⟩
theorem al_code {c0 : Cond} (h : c0 ∈ al) : GoodIn al (c0 :: al) := al_good (fun w hw => by
  rcases List.mem_cons.mp hw with e | e
  · rw [e]; exact h
  · exact e)
/-! the words on nest mates, which a state carries -/
def isNw : Cond → Bool
  | .fieldLinkNest .. => true
  | .methodLinkNest .. => true
  | _ => false
def nw : List Cond := tables_1.filter isNw
theorem nw_in {w : Cond} (h : w ∈ tables_1) (hg : isNw w = true) : w ∈ nw := List.mem_filter.mpr ⟨h, hg⟩
def NW (U : State) : Prop := ∀ w ∈ nw, va_Nw w U
theorem NW.warm {s U : State} (hW : s.WarmedH U.vm) (h : NW s) : NW U := by
  intro w hw
  have hn := (List.mem_filter.mp hw).2
  have hz := h w hw
  cases w <;> first | exact va_Nw.warmF hW hz | exact va_Nw.warmM hW hz | (exfalso; revert hn; decide) | (exfalso; simp [isNw] at hn)
theorem NW.same {s U : State} (e : s.vm = U.vm) (h : NW s) : NW U := by
  intro w hw
  have hn := (List.mem_filter.mp hw).2
  have hz := h w hw
  cases w <;> first | exact va_Nw.same rfl e hz | (exfalso; revert hn; decide) | (exfalso; simp [isNw] at hn)

theorem ck_1 {w : Cond} (h : w ∈ tables_1_1) : w ∈ tables_1 := List.mem_append_left _ h
theorem ck_2 {w : Cond} (h : w ∈ tables_1_2) : w ∈ tables_1 := List.mem_append_right _ (List.mem_append_left _ h)
theorem ck_3 {w : Cond} (h : w ∈ tables_1_3) : w ∈ tables_1 := List.mem_append_right _ (List.mem_append_right _ (List.mem_append_left _ h))
theorem ck_4 {w : Cond} (h : w ∈ tables_1_4) : w ∈ tables_1 := List.mem_append_right _ (List.mem_append_right _ (List.mem_append_right _ (List.mem_append_left _ h)))
theorem ck_5 {w : Cond} (h : w ∈ tables_1_5) : w ∈ tables_1 := List.mem_append_right _ (List.mem_append_right _ (List.mem_append_right _ (List.mem_append_right _ (h))))
abbrev R_Pm : String := "PictureMachine"
def T_Pm : u_T := fun k => match k with
  | 0 => ("PictureMachine", "board", "LPictureMachine$Board;", true)
  | _ => ("PictureMachine", "mainProcessor", "LPictureMachine$Processor;", true)
def ft_Pm : Nat → FieldType := fun k => match k with
  | 0 => .object "PictureMachine$Board"
  | _ => .object "PictureMachine$Processor"
theorem n_Pm : ∀ a, a < 2 → ∀ b, b < 2 → a ≠ b → (T_Pm a).2.1 ≠ (T_Pm b).2.1 := by decide +kernel
theorem ft_Pm_ok : ∀ k, k < 2 → parseFieldDescriptor (T_Pm k).2.2.1 = some (ft_Pm k) := by decide +kernel
abbrev R_Bd : String := "PictureMachine$Board"
def T_Bd : u_T := fun k => match k with
  | 0 => ("PictureMachine$Board", "clock", "LPictureMachine$Clock;", true)
  | 1 => ("PictureMachine$Board", "wires", "LPictureMachine$Wires;", true)
  | 2 => ("PictureMachine$Board", "memory", "LPictureMachine$Memory;", true)
  | 3 => ("PictureMachine$Board", "written", "[I", true)
  | 4 => ("PictureMachine$Board", "chance", "LPictureMachine$Chance;", true)
  | 5 => ("PictureMachine$Board", "display", "LPictureMachine$Display;", true)
  | 6 => ("PictureMachine$Board", "picture", "LPictureMachine$Picture;", true)
  | 7 => ("PictureMachine$Board", "drive", "LPictureMachine$Drive;", true)
  | _ => ("PictureMachine$Board", "stickValue", "I", false)
def ft_Bd : Nat → FieldType := fun k => match k with
  | 0 => .object "PictureMachine$Clock"
  | 1 => .object "PictureMachine$Wires"
  | 2 => .object "PictureMachine$Memory"
  | 3 => .array .int
  | 4 => .object "PictureMachine$Chance"
  | 5 => .object "PictureMachine$Display"
  | 6 => .object "PictureMachine$Picture"
  | 7 => .object "PictureMachine$Drive"
  | _ => .int
theorem n_Bd : ∀ a, a < 9 → ∀ b, b < 9 → a ≠ b → (T_Bd a).2.1 ≠ (T_Bd b).2.1 := by decide +kernel
theorem ft_Bd_ok : ∀ k, k < 9 → parseFieldDescriptor (T_Bd k).2.2.1 = some (ft_Bd k) := by decide +kernel
abbrev R_Ck : String := "PictureMachine$Clock"
def T_Ck : u_T := fun k => match k with
  | 0 => ("PictureMachine$Clock", "frame", "I", false)
  | 1 => ("PictureMachine$Clock", "line", "I", false)
  | _ => ("PictureMachine$Clock", "cycle", "I", false)
def ft_Ck : Nat → FieldType := fun k => match k with
  | 0 => .int
  | 1 => .int
  | _ => .int
theorem n_Ck : ∀ a, a < 3 → ∀ b, b < 3 → a ≠ b → (T_Ck a).2.1 ≠ (T_Ck b).2.1 := by decide +kernel
theorem ft_Ck_ok : ∀ k, k < 3 → parseFieldDescriptor (T_Ck k).2.2.1 = some (ft_Ck k) := by decide +kernel
abbrev R_Wi : String := "PictureMachine$Wires"
def T_Wi : u_T := fun k => match k with
  | 0 => ("PictureMachine$Wires", "held", "Z", false)
  | _ => ("PictureMachine$Wires", "nmiRequested", "Z", false)
def ft_Wi : Nat → FieldType := fun k => match k with
  | 0 => .boolean
  | _ => .boolean
theorem n_Wi : ∀ a, a < 2 → ∀ b, b < 2 → a ≠ b → (T_Wi a).2.1 ≠ (T_Wi b).2.1 := by decide +kernel
theorem ft_Wi_ok : ∀ k, k < 2 → parseFieldDescriptor (T_Wi k).2.2.1 = some (ft_Wi k) := by decide +kernel
abbrev R_Me : String := "PictureMachine$Memory"
def T_Me : u_T := fun k => match k with
  | _ => ("PictureMachine$Memory", "bytes", "[I", true)
def ft_Me : Nat → FieldType := fun k => match k with
  | _ => .array .int
theorem n_Me : ∀ a, a < 1 → ∀ b, b < 1 → a ≠ b → (T_Me a).2.1 ≠ (T_Me b).2.1 := by decide +kernel
theorem ft_Me_ok : ∀ k, k < 1 → parseFieldDescriptor (T_Me k).2.2.1 = some (ft_Me k) := by decide +kernel
abbrev R_Ch : String := "PictureMachine$Chance"
def T_Ch : u_T := fun k => match k with
  | 0 => ("PictureMachine$Chance", "written", "[I", true)
  | 1 => ("PictureMachine$Chance", "row", "I", false)
  | 2 => ("PictureMachine$Chance", "timer", "I", false)
  | _ => ("PictureMachine$Chance", "sign", "I", false)
def ft_Ch : Nat → FieldType := fun k => match k with
  | 0 => .array .int
  | 1 => .int
  | 2 => .int
  | _ => .int
theorem n_Ch : ∀ a, a < 4 → ∀ b, b < 4 → a ≠ b → (T_Ch a).2.1 ≠ (T_Ch b).2.1 := by decide +kernel
theorem ft_Ch_ok : ∀ k, k < 4 → parseFieldDescriptor (T_Ch k).2.2.1 = some (ft_Ch k) := by decide +kernel
abbrev R_Ds : String := "PictureMachine$Display"
def T_Ds : u_T := fun k => match k with
  | 0 => ("PictureMachine$Display", "memory", "LPictureMachine$Memory;", true)
  | 1 => ("PictureMachine$Display", "written", "[I", true)
  | 2 => ("PictureMachine$Display", "wires", "LPictureMachine$Wires;", true)
  | 3 => ("PictureMachine$Display", "data", "[I", true)
  | 4 => ("PictureMachine$Display", "letterRows", "[I", true)
  | 5 => ("PictureMachine$Display", "causes", "I", false)
  | 6 => ("PictureMachine$Display", "listPlace", "I", false)
  | 7 => ("PictureMachine$Display", "dataPlace", "I", false)
  | 8 => ("PictureMachine$Display", "modeByte", "I", false)
  | 9 => ("PictureMachine$Display", "rows", "I", false)
  | 10 => ("PictureMachine$Display", "rowsDone", "I", false)
  | 11 => ("PictureMachine$Display", "rests", "Z", false)
  | 12 => ("PictureMachine$Display", "addressSaid", "Z", false)
  | _ => ("PictureMachine$Display", "lowerByte", "I", false)
def ft_Ds : Nat → FieldType := fun k => match k with
  | 0 => .object "PictureMachine$Memory"
  | 1 => .array .int
  | 2 => .object "PictureMachine$Wires"
  | 3 => .array .int
  | 4 => .array .int
  | 5 => .int
  | 6 => .int
  | 7 => .int
  | 8 => .int
  | 9 => .int
  | 10 => .int
  | 11 => .boolean
  | 12 => .boolean
  | _ => .int
theorem n_Ds : ∀ a, a < 14 → ∀ b, b < 14 → a ≠ b → (T_Ds a).2.1 ≠ (T_Ds b).2.1 := by decide +kernel
theorem ft_Ds_ok : ∀ k, k < 14 → parseFieldDescriptor (T_Ds k).2.2.1 = some (ft_Ds k) := by decide +kernel
abbrev R_Pc : String := "PictureMachine$Picture"
def T_Pc : u_T := fun k => match k with
  | 0 => ("PictureMachine$Picture", "display", "LPictureMachine$Display;", true)
  | 1 => ("PictureMachine$Picture", "written", "[I", true)
  | 2 => ("PictureMachine$Picture", "dots", "[I", true)
  | 3 => ("PictureMachine$Picture", "collisions", "[I", true)
  | _ => ("PictureMachine$Picture", "met", "Z", false)
def ft_Pc : Nat → FieldType := fun k => match k with
  | 0 => .object "PictureMachine$Display"
  | 1 => .array .int
  | 2 => .array .int
  | 3 => .array .int
  | _ => .boolean
theorem n_Pc : ∀ a, a < 5 → ∀ b, b < 5 → a ≠ b → (T_Pc a).2.1 ≠ (T_Pc b).2.1 := by decide +kernel
theorem ft_Pc_ok : ∀ k, k < 5 → parseFieldDescriptor (T_Pc k).2.2.1 = some (ft_Pc k) := by decide +kernel
abbrev R_Dr : String := "PictureMachine$Drive"
def T_Dr : u_T := fun k => match k with
  | 0 => ("PictureMachine$Drive", "bytes", "[I", true)
  | 1 => ("PictureMachine$Drive", "gathered", "[I", true)
  | 2 => ("PictureMachine$Drive", "answers", "[I", true)
  | 3 => ("PictureMachine$Drive", "gatheredCount", "I", false)
  | 4 => ("PictureMachine$Drive", "gathersSector", "Z", false)
  | 5 => ("PictureMachine$Drive", "sectorToStore", "I", false)
  | 6 => ("PictureMachine$Drive", "firstAnswer", "I", false)
  | 7 => ("PictureMachine$Drive", "waiting", "I", false)
  | 8 => ("PictureMachine$Drive", "cameIn", "Z", false)
  | _ => ("PictureMachine$Drive", "incoming", "I", false)
def ft_Dr : Nat → FieldType := fun k => match k with
  | 0 => .array .int
  | 1 => .array .int
  | 2 => .array .int
  | 3 => .int
  | 4 => .boolean
  | 5 => .int
  | 6 => .int
  | 7 => .int
  | 8 => .boolean
  | _ => .int
theorem n_Dr : ∀ a, a < 10 → ∀ b, b < 10 → a ≠ b → (T_Dr a).2.1 ≠ (T_Dr b).2.1 := by decide +kernel
theorem ft_Dr_ok : ∀ k, k < 10 → parseFieldDescriptor (T_Dr k).2.2.1 = some (ft_Dr k) := by decide +kernel
abbrev R_Pr : String := "PictureMachine$Processor"
def T_Pr : u_T := fun k => match k with
  | 0 => ("PictureMachine$Processor", "board", "LPictureMachine$Board;", true)
  | 1 => ("PictureMachine$Processor", "pc", "I", false)
  | 2 => ("PictureMachine$Processor", "a", "I", false)
  | 3 => ("PictureMachine$Processor", "x", "I", false)
  | 4 => ("PictureMachine$Processor", "y", "I", false)
  | 5 => ("PictureMachine$Processor", "s", "I", false)
  | 6 => ("PictureMachine$Processor", "negative", "Z", false)
  | 7 => ("PictureMachine$Processor", "zero", "Z", false)
  | 8 => ("PictureMachine$Processor", "carry", "Z", false)
  | 9 => ("PictureMachine$Processor", "jammed", "Z", false)
  | 10 => ("PictureMachine$Processor", "entersNmi", "Z", false)
  | 11 => ("PictureMachine$Processor", "code", "I", false)
  | _ => ("PictureMachine$Processor", "cyclesLeft", "I", false)
def ft_Pr : Nat → FieldType := fun k => match k with
  | 0 => .object "PictureMachine$Board"
  | 1 => .int
  | 2 => .int
  | 3 => .int
  | 4 => .int
  | 5 => .int
  | 6 => .boolean
  | 7 => .boolean
  | 8 => .boolean
  | 9 => .boolean
  | 10 => .boolean
  | 11 => .int
  | _ => .int
theorem n_Pr : ∀ a, a < 13 → ∀ b, b < 13 → a ≠ b → (T_Pr a).2.1 ≠ (T_Pr b).2.1 := by decide +kernel
theorem ft_Pr_ok : ∀ k, k < 13 → parseFieldDescriptor (T_Pr k).2.2.1 = some (ft_Pr k) := by decide +kernel
abbrev R_Mo : String := "PictureMachineModel"
def T_Mo : u_T := fun k => match k with
  | 0 => ("PictureMachineModel", "code", "I", false)
  | 1 => ("PictureMachineModel", "memory", "[I", true)
  | 2 => ("PictureMachineModel", "registers", "[I", true)
  | 3 => ("PictureMachineModel", "frame", "I", false)
  | 4 => ("PictureMachineModel", "line", "I", false)
  | 5 => ("PictureMachineModel", "cycle", "I", false)
  | 6 => ("PictureMachineModel", "a", "I", false)
  | 7 => ("PictureMachineModel", "x", "I", false)
  | 8 => ("PictureMachineModel", "y", "I", false)
  | 9 => ("PictureMachineModel", "s", "I", false)
  | 10 => ("PictureMachineModel", "pc", "I", false)
  | 11 => ("PictureMachineModel", "negative", "Z", false)
  | 12 => ("PictureMachineModel", "zero", "Z", false)
  | 13 => ("PictureMachineModel", "carry", "Z", false)
  | 14 => ("PictureMachineModel", "jammed", "Z", false)
  | 15 => ("PictureMachineModel", "held", "Z", false)
  | 16 => ("PictureMachineModel", "requested", "Z", false)
  | 17 => ("PictureMachineModel", "interrupts", "Z", false)
  | 18 => ("PictureMachineModel", "left", "I", false)
  | 19 => ("PictureMachineModel", "present", "I", false)
  | 20 => ("PictureMachineModel", "list", "I", false)
  | 21 => ("PictureMachineModel", "data", "I", false)
  | 22 => ("PictureMachineModel", "there", "Z", false)
  | 23 => ("PictureMachineModel", "rests", "Z", false)
  | 24 => ("PictureMachineModel", "willRest", "Z", false)
  | 25 => ("PictureMachineModel", "marked", "Z", false)
  | 26 => ("PictureMachineModel", "said", "Z", false)
  | 27 => ("PictureMachineModel", "mode", "I", false)
  | 28 => ("PictureMachineModel", "row", "I", false)
  | 29 => ("PictureMachineModel", "rows", "I", false)
  | 30 => ("PictureMachineModel", "lower", "I", false)
  | 31 => ("PictureMachineModel", "bytes", "[I", true)
  | 32 => ("PictureMachineModel", "letters", "[I", true)
  | 33 => ("PictureMachineModel", "causes", "I", false)
  | 34 => ("PictureMachineModel", "hits", "[I", true)
  | 35 => ("PictureMachineModel", "met", "I", false)
  | 36 => ("PictureMachineModel", "shown", "[I", true)
  | 37 => ("PictureMachineModel", "chance", "I", false)
  | 38 => ("PictureMachineModel", "timer", "I", false)
  | 39 => ("PictureMachineModel", "sign", "I", false)
  | 40 => ("PictureMachineModel", "stick", "I", false)
  | 41 => ("PictureMachineModel", "sectors", "[I", true)
  | 42 => ("PictureMachineModel", "gathered", "[I", true)
  | 43 => ("PictureMachineModel", "gathers", "I", false)
  | 44 => ("PictureMachineModel", "target", "I", false)
  | 45 => ("PictureMachineModel", "answers", "[I", true)
  | 46 => ("PictureMachineModel", "waiting", "I", false)
  | 47 => ("PictureMachineModel", "came", "Z", false)
  | _ => ("PictureMachineModel", "arrived", "I", false)
def ft_Mo : Nat → FieldType := fun k => match k with
  | 0 => .int
  | 1 => .array .int
  | 2 => .array .int
  | 3 => .int
  | 4 => .int
  | 5 => .int
  | 6 => .int
  | 7 => .int
  | 8 => .int
  | 9 => .int
  | 10 => .int
  | 11 => .boolean
  | 12 => .boolean
  | 13 => .boolean
  | 14 => .boolean
  | 15 => .boolean
  | 16 => .boolean
  | 17 => .boolean
  | 18 => .int
  | 19 => .int
  | 20 => .int
  | 21 => .int
  | 22 => .boolean
  | 23 => .boolean
  | 24 => .boolean
  | 25 => .boolean
  | 26 => .boolean
  | 27 => .int
  | 28 => .int
  | 29 => .int
  | 30 => .int
  | 31 => .array .int
  | 32 => .array .int
  | 33 => .int
  | 34 => .array .int
  | 35 => .int
  | 36 => .array .int
  | 37 => .int
  | 38 => .int
  | 39 => .int
  | 40 => .int
  | 41 => .array .int
  | 42 => .array .int
  | 43 => .int
  | 44 => .int
  | 45 => .array .int
  | 46 => .int
  | 47 => .boolean
  | _ => .int
theorem n_Mo : ∀ a, a < 49 → ∀ b, b < 49 → a ≠ b → (T_Mo a).2.1 ≠ (T_Mo b).2.1 := by decide +kernel
theorem ft_Mo_ok : ∀ k, k < 49 → parseFieldDescriptor (T_Mo k).2.2.1 = some (ft_Mo k) := by decide +kernel
abbrev vwCl : List vw_C := [(R_Pm, T_Pm, 2), (R_Bd, T_Bd, 9), (R_Ck, T_Ck, 3), (R_Wi, T_Wi, 2), (R_Me, T_Me, 1), (R_Ch, T_Ch, 4), (R_Ds, T_Ds, 14), (R_Pc, T_Pc, 5), (R_Dr, T_Dr, 10), (R_Pr, T_Pr, 13), (R_Mo, T_Mo, 49)]
abbrev b_Pm_init : ByteArray := prog_1_method_1_code
def y_Pm_init : MethodName := ⟨"PictureMachine", "<init>", "()V"⟩
abbrev b_Pm_poke : ByteArray := prog_1_method_2_code
def y_Pm_poke : MethodName := ⟨"PictureMachine", "poke", "(II)V"⟩
abbrev b_Pm_peek : ByteArray := prog_1_method_3_code
def y_Pm_peek : MethodName := ⟨"PictureMachine", "peek", "(I)I"⟩
abbrev b_Pm_write : ByteArray := prog_1_method_4_code
def y_Pm_write : MethodName := ⟨"PictureMachine", "write", "(II)V"⟩
abbrev b_Pm_disk : ByteArray := prog_1_method_5_code
def y_Pm_disk : MethodName := ⟨"PictureMachine", "disk", "(III)V"⟩
abbrev b_Pm_sector : ByteArray := prog_1_method_6_code
def y_Pm_sector : MethodName := ⟨"PictureMachine", "sector", "(II)I"⟩
abbrev b_Pm_stick : ByteArray := prog_1_method_7_code
def y_Pm_stick : MethodName := ⟨"PictureMachine", "stick", "(I)V"⟩
abbrev b_Pm_run : ByteArray := prog_1_method_8_code
def y_Pm_run : MethodName := ⟨"PictureMachine", "run", "(I)I"⟩
abbrev b_Pm_dot : ByteArray := prog_1_method_9_code
def y_Pm_dot : MethodName := ⟨"PictureMachine", "dot", "(II)I"⟩
abbrev b_Pm_processor : ByteArray := prog_1_method_10_code
def y_Pm_processor : MethodName := ⟨"PictureMachine", "processor", "(I)I"⟩
abbrev b_Pm_state : ByteArray := prog_1_method_11_code
def y_Pm_state : MethodName := ⟨"PictureMachine", "state", "(I)I"⟩
abbrev b_Pm_passCycle : ByteArray := prog_1_method_12_code
def y_Pm_passCycle : MethodName := ⟨"PictureMachine", "passCycle", "()Z"⟩
abbrev b_Pm_endLine : ByteArray := prog_1_method_13_code
def y_Pm_endLine : MethodName := ⟨"PictureMachine", "endLine", "(I)V"⟩
abbrev b_Pm_need : ByteArray := prog_1_method_14_code
def y_Pm_need : MethodName := ⟨"PictureMachine", "need", "(Z)V"⟩
abbrev b_Pm_isMemory : ByteArray := prog_1_method_15_code
def y_Pm_isMemory : MethodName := ⟨"PictureMachine", "isMemory", "(I)Z"⟩
abbrev b_Pm_isByte : ByteArray := prog_1_method_16_code
def y_Pm_isByte : MethodName := ⟨"PictureMachine", "isByte", "(I)Z"⟩
abbrev b_Pm_isPlaceOnDisk : ByteArray := prog_1_method_17_code
def y_Pm_isPlaceOnDisk : MethodName := ⟨"PictureMachine", "isPlaceOnDisk", "(II)Z"⟩
abbrev b_Pm_isShownLine : ByteArray := prog_1_method_18_code
def y_Pm_isShownLine : MethodName := ⟨"PictureMachine", "isShownLine", "(I)Z"⟩
abbrev b_Pm_bit : ByteArray := prog_1_method_19_code
def y_Pm_bit : MethodName := ⟨"PictureMachine", "bit", "(Z)I"⟩
abbrev b_Bd_init : ByteArray := prog_2_method_1_code
def y_Bd_init : MethodName := ⟨"PictureMachine$Board", "<init>", "()V"⟩
abbrev b_Bd_load : ByteArray := prog_2_method_2_code
def y_Bd_load : MethodName := ⟨"PictureMachine$Board", "load", "(I)I"⟩
abbrev b_Bd_store : ByteArray := prog_2_method_3_code
def y_Bd_store : MethodName := ⟨"PictureMachine$Board", "store", "(II)V"⟩
abbrev b_Ck_init : ByteArray := prog_4_method_1_code
def y_Ck_init : MethodName := ⟨"PictureMachine$Clock", "<init>", "()V"⟩
abbrev b_Ck_moveOn : ByteArray := prog_4_method_2_code
def y_Ck_moveOn : MethodName := ⟨"PictureMachine$Clock", "moveOn", "()V"⟩
abbrev b_Wi_init : ByteArray := prog_10_method_1_code
def y_Wi_init : MethodName := ⟨"PictureMachine$Wires", "<init>", "()V"⟩
abbrev b_Me_init : ByteArray := prog_7_method_1_code
def y_Me_init : MethodName := ⟨"PictureMachine$Memory", "<init>", "()V"⟩
abbrev b_Me_at : ByteArray := prog_7_method_2_code
def y_Me_at : MethodName := ⟨"PictureMachine$Memory", "at", "(I)I"⟩
abbrev b_Me_put : ByteArray := prog_7_method_3_code
def y_Me_put : MethodName := ⟨"PictureMachine$Memory", "put", "(II)V"⟩
abbrev b_Ch_init : ByteArray := prog_3_method_1_code
def y_Ch_init : MethodName := ⟨"PictureMachine$Chance", "<init>", "([I)V"⟩
abbrev b_Ch_passCycle : ByteArray := prog_3_method_2_code
def y_Ch_passCycle : MethodName := ⟨"PictureMachine$Chance", "passCycle", "()V"⟩
abbrev b_Ch_startTimer : ByteArray := prog_3_method_3_code
def y_Ch_startTimer : MethodName := ⟨"PictureMachine$Chance", "startTimer", "()V"⟩
abbrev b_Ch_takeSign : ByteArray := prog_3_method_4_code
def y_Ch_takeSign : MethodName := ⟨"PictureMachine$Chance", "takeSign", "()I"⟩
abbrev b_Ds_init : ByteArray := prog_5_method_1_code
def y_Ds_init : MethodName := ⟨"PictureMachine$Display", "<init>", "(LPictureMachine$Memory;[ILPictureMachine$Wires;)V"⟩
abbrev b_Ds_passCycle : ByteArray := prog_5_method_2_code
def y_Ds_passCycle : MethodName := ⟨"PictureMachine$Display", "passCycle", "(II)Z"⟩
abbrev b_Ds_finishRow : ByteArray := prog_5_method_3_code
def y_Ds_finishRow : MethodName := ⟨"PictureMachine$Display", "finishRow", "()V"⟩
abbrev b_Ds_shownByte : ByteArray := prog_5_method_4_code
def y_Ds_shownByte : MethodName := ⟨"PictureMachine$Display", "shownByte", "(I)I"⟩
abbrev b_Ds_presentMode : ByteArray := prog_5_method_5_code
def y_Ds_presentMode : MethodName := ⟨"PictureMachine$Display", "presentMode", "()I"⟩
abbrev b_Ds_rowsDoneOfPresent : ByteArray := prog_5_method_6_code
def y_Ds_rowsDoneOfPresent : MethodName := ⟨"PictureMachine$Display", "rowsDoneOfPresent", "()I"⟩
abbrev b_Ds_isOn : ByteArray := prog_5_method_7_code
def y_Ds_isOn : MethodName := ⟨"PictureMachine$Display", "isOn", "()Z"⟩
abbrev b_Ds_hasRow : ByteArray := prog_5_method_8_code
def y_Ds_hasRow : MethodName := ⟨"PictureMachine$Display", "hasRow", "()Z"⟩
abbrev b_Ds_mode : ByteArray := prog_5_method_9_code
def y_Ds_mode : MethodName := ⟨"PictureMachine$Display", "mode", "()I"⟩
abbrev b_Ds_modeHasData : ByteArray := prog_5_method_10_code
def y_Ds_modeHasData : MethodName := ⟨"PictureMachine$Display", "modeHasData", "()Z"⟩
abbrev b_Ds_beginLine : ByteArray := prog_5_method_11_code
def y_Ds_beginLine : MethodName := ⟨"PictureMachine$Display", "beginLine", "(I)V"⟩
abbrev b_Ds_fetchShape : ByteArray := prog_5_method_12_code
def y_Ds_fetchShape : MethodName := ⟨"PictureMachine$Display", "fetchShape", "(II)Z"⟩
abbrev b_Ds_requestNmis : ByteArray := prog_5_method_13_code
def y_Ds_requestNmis : MethodName := ⟨"PictureMachine$Display", "requestNmis", "(I)V"⟩
abbrev b_Ds_isInMarkedLastRow : ByteArray := prog_5_method_14_code
def y_Ds_isInMarkedLastRow : MethodName := ⟨"PictureMachine$Display", "isInMarkedLastRow", "()Z"⟩
abbrev b_Ds_requestNmi : ByteArray := prog_5_method_15_code
def y_Ds_requestNmi : MethodName := ⟨"PictureMachine$Display", "requestNmi", "(I)V"⟩
abbrev b_Ds_fetchForLine : ByteArray := prog_5_method_16_code
def y_Ds_fetchForLine : MethodName := ⟨"PictureMachine$Display", "fetchForLine", "(I)Z"⟩
abbrev b_Ds_beginModeLine : ByteArray := prog_5_method_17_code
def y_Ds_beginModeLine : MethodName := ⟨"PictureMachine$Display", "beginModeLine", "()Z"⟩
abbrev b_Ds_rowsOfMode : ByteArray := prog_5_method_18_code
def y_Ds_rowsOfMode : MethodName := ⟨"PictureMachine$Display", "rowsOfMode", "()I"⟩
abbrev b_Ds_fetchAddress : ByteArray := prog_5_method_19_code
def y_Ds_fetchAddress : MethodName := ⟨"PictureMachine$Display", "fetchAddress", "(Z)Z"⟩
abbrev b_Ds_fetchData : ByteArray := prog_5_method_20_code
def y_Ds_fetchData : MethodName := ⟨"PictureMachine$Display", "fetchData", "(I)Z"⟩
abbrev b_Ds_fetchLetterRow : ByteArray := prog_5_method_21_code
def y_Ds_fetchLetterRow : MethodName := ⟨"PictureMachine$Display", "fetchLetterRow", "(I)Z"⟩
abbrev b_Ds_nextOfList : ByteArray := prog_5_method_22_code
def y_Ds_nextOfList : MethodName := ⟨"PictureMachine$Display", "nextOfList", "()I"⟩
abbrev b_Ds_movedOn : ByteArray := prog_5_method_23_code
def y_Ds_movedOn : MethodName := ⟨"PictureMachine$Display", "movedOn", "(I)I"⟩
abbrev b_Pc_init : ByteArray := prog_8_method_1_code
def y_Pc_init : MethodName := ⟨"PictureMachine$Picture", "<init>", "(LPictureMachine$Display;[I)V"⟩
abbrev b_Pc_dotAt : ByteArray := prog_8_method_2_code
def y_Pc_dotAt : MethodName := ⟨"PictureMachine$Picture", "dotAt", "(II)I"⟩
abbrev b_Pc_forgetCollisions : ByteArray := prog_8_method_3_code
def y_Pc_forgetCollisions : MethodName := ⟨"PictureMachine$Picture", "forgetCollisions", "()V"⟩
abbrev b_Pc_drawLine : ByteArray := prog_8_method_4_code
def y_Pc_drawLine : MethodName := ⟨"PictureMachine$Picture", "drawLine", "(I)V"⟩
abbrev b_Pc_firstDotOf : ByteArray := prog_8_method_5_code
def y_Pc_firstDotOf : MethodName := ⟨"PictureMachine$Picture", "firstDotOf", "(I)I"⟩
abbrev b_Pc_drawnDot : ByteArray := prog_8_method_6_code
def y_Pc_drawnDot : MethodName := ⟨"PictureMachine$Picture", "drawnDot", "(II)I"⟩
abbrev b_Pc_collide : ByteArray := prog_8_method_7_code
def y_Pc_collide : MethodName := ⟨"PictureMachine$Picture", "collide", "(II)V"⟩
abbrev b_Pc_covers : ByteArray := prog_8_method_8_code
def y_Pc_covers : MethodName := ⟨"PictureMachine$Picture", "covers", "(II)Z"⟩
abbrev b_Dr_init : ByteArray := prog_6_method_1_code
def y_Dr_init : MethodName := ⟨"PictureMachine$Drive", "<init>", "()V"⟩
abbrev b_Dr_byteOf : ByteArray := prog_6_method_2_code
def y_Dr_byteOf : MethodName := ⟨"PictureMachine$Drive", "byteOf", "(II)I"⟩
abbrev b_Dr_putByte : ByteArray := prog_6_method_3_code
def y_Dr_putByte : MethodName := ⟨"PictureMachine$Drive", "putByte", "(III)V"⟩
abbrev b_Dr_gather : ByteArray := prog_6_method_4_code
def y_Dr_gather : MethodName := ⟨"PictureMachine$Drive", "gather", "(I)V"⟩
abbrev b_Dr_sendAnswer : ByteArray := prog_6_method_5_code
def y_Dr_sendAnswer : MethodName := ⟨"PictureMachine$Drive", "sendAnswer", "()V"⟩
abbrev b_Dr_takeByte : ByteArray := prog_6_method_6_code
def y_Dr_takeByte : MethodName := ⟨"PictureMachine$Drive", "takeByte", "()I"⟩
abbrev b_Dr_obeyCommand : ByteArray := prog_6_method_7_code
def y_Dr_obeyCommand : MethodName := ⟨"PictureMachine$Drive", "obeyCommand", "()V"⟩
abbrev b_Dr_storeSector : ByteArray := prog_6_method_8_code
def y_Dr_storeSector : MethodName := ⟨"PictureMachine$Drive", "storeSector", "()V"⟩
abbrev b_Dr_answer : ByteArray := prog_6_method_9_code
def y_Dr_answer : MethodName := ⟨"PictureMachine$Drive", "answer", "(I)V"⟩
abbrev b_Dr_firstByteOf : ByteArray := prog_6_method_10_code
def y_Dr_firstByteOf : MethodName := ⟨"PictureMachine$Drive", "firstByteOf", "(I)I"⟩
abbrev b_Dr_sum : ByteArray := prog_6_method_11_code
def y_Dr_sum : MethodName := ⟨"PictureMachine$Drive", "sum", "([III)I"⟩
abbrev b_Pr_init : ByteArray := prog_9_method_1_code
def y_Pr_init : MethodName := ⟨"PictureMachine$Processor", "<init>", "(LPictureMachine$Board;)V"⟩
abbrev b_Pr_flags : ByteArray := prog_9_method_2_code
def y_Pr_flags : MethodName := ⟨"PictureMachine$Processor", "flags", "()I"⟩
abbrev b_Pr_passCycle : ByteArray := prog_9_method_3_code
def y_Pr_passCycle : MethodName := ⟨"PictureMachine$Processor", "passCycle", "()Z"⟩
abbrev b_Pr_begin : ByteArray := prog_9_method_4_code
def y_Pr_begin : MethodName := ⟨"PictureMachine$Processor", "begin", "()V"⟩
abbrev b_Pr_cyclesOf : ByteArray := prog_9_method_5_code
def y_Pr_cyclesOf : MethodName := ⟨"PictureMachine$Processor", "cyclesOf", "(I)I"⟩
abbrev b_Pr_enterNmi : ByteArray := prog_9_method_6_code
def y_Pr_enterNmi : MethodName := ⟨"PictureMachine$Processor", "enterNmi", "()V"⟩
abbrev b_Pr_perform : ByteArray := prog_9_method_7_code
def y_Pr_perform : MethodName := ⟨"PictureMachine$Processor", "perform", "()V"⟩
abbrev b_Pr_jam : ByteArray := prog_9_method_8_code
def y_Pr_jam : MethodName := ⟨"PictureMachine$Processor", "jam", "()V"⟩
abbrev b_Pr_nextByte : ByteArray := prog_9_method_9_code
def y_Pr_nextByte : MethodName := ⟨"PictureMachine$Processor", "nextByte", "()I"⟩
abbrev b_Pr_nextAddress : ByteArray := prog_9_method_10_code
def y_Pr_nextAddress : MethodName := ⟨"PictureMachine$Processor", "nextAddress", "()I"⟩
abbrev b_Pr_result : ByteArray := prog_9_method_11_code
def y_Pr_result : MethodName := ⟨"PictureMachine$Processor", "result", "(I)I"⟩
abbrev b_Pr_add : ByteArray := prog_9_method_12_code
def y_Pr_add : MethodName := ⟨"PictureMachine$Processor", "add", "(I)V"⟩
abbrev b_Pr_compare : ByteArray := prog_9_method_13_code
def y_Pr_compare : MethodName := ⟨"PictureMachine$Processor", "compare", "(II)V"⟩
abbrev b_Pr_change : ByteArray := prog_9_method_14_code
def y_Pr_change : MethodName := ⟨"PictureMachine$Processor", "change", "(II)V"⟩
abbrev b_Pr_branchIf : ByteArray := prog_9_method_15_code
def y_Pr_branchIf : MethodName := ⟨"PictureMachine$Processor", "branchIf", "(Z)V"⟩
abbrev b_Pr_callPart : ByteArray := prog_9_method_16_code
def y_Pr_callPart : MethodName := ⟨"PictureMachine$Processor", "callPart", "(I)V"⟩
abbrev b_Pr_returnFromNmi : ByteArray := prog_9_method_17_code
def y_Pr_returnFromNmi : MethodName := ⟨"PictureMachine$Processor", "returnFromNmi", "()V"⟩
abbrev b_Pr_push : ByteArray := prog_9_method_18_code
def y_Pr_push : MethodName := ⟨"PictureMachine$Processor", "push", "(I)V"⟩
abbrev b_Pr_pushPlace : ByteArray := prog_9_method_19_code
def y_Pr_pushPlace : MethodName := ⟨"PictureMachine$Processor", "pushPlace", "(I)V"⟩
abbrev b_Pr_pull : ByteArray := prog_9_method_20_code
def y_Pr_pull : MethodName := ⟨"PictureMachine$Processor", "pull", "()I"⟩
abbrev b_Pr_pullPlace : ByteArray := prog_9_method_21_code
def y_Pr_pullPlace : MethodName := ⟨"PictureMachine$Processor", "pullPlace", "()I"⟩
abbrev b_Mo_init : ByteArray := prog_12_method_1_code
def y_Mo_init : MethodName := ⟨"PictureMachineModel", "<init>", "()V"⟩
abbrev b_Mo_thrown : ByteArray := prog_12_method_2_code
def y_Mo_thrown : MethodName := ⟨"PictureMachineModel", "thrown", "()I"⟩
abbrev b_Mo_in : ByteArray := prog_12_method_3_code
def y_Mo_in : MethodName := ⟨"PictureMachineModel", "in", "(III)Z"⟩
abbrev b_Mo_isByte : ByteArray := prog_12_method_4_code
def y_Mo_isByte : MethodName := ⟨"PictureMachineModel", "isByte", "(I)Z"⟩
abbrev b_Mo_fails : ByteArray := prog_12_method_5_code
def y_Mo_fails : MethodName := ⟨"PictureMachineModel", "fails", "()I"⟩
abbrev b_Mo_control : ByteArray := prog_12_method_6_code
def y_Mo_control : MethodName := ⟨"PictureMachineModel", "control", "(I)Z"⟩
abbrev b_Mo_fetch : ByteArray := prog_12_method_7_code
def y_Mo_fetch : MethodName := ⟨"PictureMachineModel", "fetch", "(I)I"⟩
abbrev b_Mo_read : ByteArray := prog_12_method_8_code
def y_Mo_read : MethodName := ⟨"PictureMachineModel", "read", "(I)I"⟩
abbrev b_Mo_readRegister : ByteArray := prog_12_method_9_code
def y_Mo_readRegister : MethodName := ⟨"PictureMachineModel", "readRegister", "(I)I"⟩
abbrev b_Mo_store : ByteArray := prog_12_method_10_code
def y_Mo_store : MethodName := ⟨"PictureMachineModel", "store", "(II)V"⟩
abbrev b_Mo_change : ByteArray := prog_12_method_11_code
def y_Mo_change : MethodName := ⟨"PictureMachineModel", "change", "(II)V"⟩
abbrev b_Mo_summed : ByteArray := prog_12_method_12_code
def y_Mo_summed : MethodName := ⟨"PictureMachineModel", "summed", "(II)I"⟩
abbrev b_Mo_answer : ByteArray := prog_12_method_13_code
def y_Mo_answer : MethodName := ⟨"PictureMachineModel", "answer", "(I)V"⟩
abbrev b_Mo_sumOf : ByteArray := prog_12_method_14_code
def y_Mo_sumOf : MethodName := ⟨"PictureMachineModel", "sumOf", "(I)I"⟩
abbrev b_Mo_sent : ByteArray := prog_12_method_15_code
def y_Mo_sent : MethodName := ⟨"PictureMachineModel", "sent", "(I)V"⟩
abbrev b_Mo_command : ByteArray := prog_12_method_16_code
def y_Mo_command : MethodName := ⟨"PictureMachineModel", "command", "()V"⟩
abbrev b_Mo_deliver : ByteArray := prog_12_method_17_code
def y_Mo_deliver : MethodName := ⟨"PictureMachineModel", "deliver", "()V"⟩
abbrev b_Mo_coded : ByteArray := prog_12_method_18_code
def y_Mo_coded : MethodName := ⟨"PictureMachineModel", "coded", "(III)I"⟩
abbrev b_Mo_meaning : ByteArray := prog_12_method_19_code
def y_Mo_meaning : MethodName := ⟨"PictureMachineModel", "meaning", "(I)I"⟩
abbrev b_Mo_single : ByteArray := prog_12_method_20_code
def y_Mo_single : MethodName := ⟨"PictureMachineModel", "single", "(I)I"⟩
abbrev b_Mo_push : ByteArray := prog_12_method_21_code
def y_Mo_push : MethodName := ⟨"PictureMachineModel", "push", "(I)V"⟩
abbrev b_Mo_pull : ByteArray := prog_12_method_22_code
def y_Mo_pull : MethodName := ⟨"PictureMachineModel", "pull", "()I"⟩
abbrev b_Mo_flags : ByteArray := prog_12_method_23_code
def y_Mo_flags : MethodName := ⟨"PictureMachineModel", "flags", "()I"⟩
abbrev b_Mo_set : ByteArray := prog_12_method_24_code
def y_Mo_set : MethodName := ⟨"PictureMachineModel", "set", "(I)I"⟩
abbrev b_Mo_sum : ByteArray := prog_12_method_25_code
def y_Mo_sum : MethodName := ⟨"PictureMachineModel", "sum", "(I)I"⟩
abbrev b_Mo_compare : ByteArray := prog_12_method_26_code
def y_Mo_compare : MethodName := ⟨"PictureMachineModel", "compare", "(II)V"⟩
abbrev b_Mo_interrupt : ByteArray := prog_12_method_27_code
def y_Mo_interrupt : MethodName := ⟨"PictureMachineModel", "interrupt", "()V"⟩
abbrev b_Mo_steps : ByteArray := prog_12_method_28_code
def y_Mo_steps : MethodName := ⟨"PictureMachineModel", "steps", "()Z"⟩
abbrev b_Mo_execute : ByteArray := prog_12_method_29_code
def y_Mo_execute : MethodName := ⟨"PictureMachineModel", "execute", "()V"⟩
abbrev b_Mo_use : ByteArray := prog_12_method_30_code
def y_Mo_use : MethodName := ⟨"PictureMachineModel", "use", "(II)V"⟩
abbrev b_Mo_alter : ByteArray := prog_12_method_31_code
def y_Mo_alter : MethodName := ⟨"PictureMachineModel", "alter", "(I)V"⟩
abbrev b_Mo_isTaken : ByteArray := prog_12_method_32_code
def y_Mo_isTaken : MethodName := ⟨"PictureMachineModel", "isTaken", "()Z"⟩
abbrev b_Mo_go : ByteArray := prog_12_method_33_code
def y_Mo_go : MethodName := ⟨"PictureMachineModel", "go", "(III)V"⟩
abbrev b_Mo_comeBack : ByteArray := prog_12_method_34_code
def y_Mo_comeBack : MethodName := ⟨"PictureMachineModel", "comeBack", "(I)V"⟩
abbrev b_Mo_moved : ByteArray := prog_12_method_35_code
def y_Mo_moved : MethodName := ⟨"PictureMachineModel", "moved", "(I)I"⟩
abbrev b_Mo_isPicture : ByteArray := prog_12_method_36_code
def y_Mo_isPicture : MethodName := ⟨"PictureMachineModel", "isPicture", "()Z"⟩
abbrev b_Mo_hasRows : ByteArray := prog_12_method_37_code
def y_Mo_hasRows : MethodName := ⟨"PictureMachineModel", "hasRows", "()Z"⟩
abbrev b_Mo_displays : ByteArray := prog_12_method_38_code
def y_Mo_displays : MethodName := ⟨"PictureMachineModel", "displays", "()Z"⟩
abbrev b_Mo_asks : ByteArray := prog_12_method_39_code
def y_Mo_asks : MethodName := ⟨"PictureMachineModel", "asks", "()V"⟩
abbrev b_Mo_fetches : ByteArray := prog_12_method_40_code
def y_Mo_fetches : MethodName := ⟨"PictureMachineModel", "fetches", "()Z"⟩
abbrev b_Mo_begin : ByteArray := prog_12_method_41_code
def y_Mo_begin : MethodName := ⟨"PictureMachineModel", "begin", "(I)V"⟩
abbrev b_Mo_addressed : ByteArray := prog_12_method_42_code
def y_Mo_addressed : MethodName := ⟨"PictureMachineModel", "addressed", "()Z"⟩
abbrev b_Mo_numberOf : ByteArray := prog_12_method_43_code
def y_Mo_numberOf : MethodName := ⟨"PictureMachineModel", "numberOf", "(I)I"⟩
abbrev b_Mo_isCovered : ByteArray := prog_12_method_44_code
def y_Mo_isCovered : MethodName := ⟨"PictureMachineModel", "isCovered", "(II)Z"⟩
abbrev b_Mo_draw : ByteArray := prog_12_method_45_code
def y_Mo_draw : MethodName := ⟨"PictureMachineModel", "draw", "()V"⟩
abbrev b_Mo_tick : ByteArray := prog_12_method_46_code
def y_Mo_tick : MethodName := ⟨"PictureMachineModel", "tick", "()Z"⟩
abbrev b_Mo_run : ByteArray := prog_12_method_47_code
def y_Mo_run : MethodName := ⟨"PictureMachineModel", "run", "(I)I"⟩
abbrev b_Mo_poke : ByteArray := prog_12_method_48_code
def y_Mo_poke : MethodName := ⟨"PictureMachineModel", "poke", "(II)V"⟩
abbrev b_Mo_peek : ByteArray := prog_12_method_49_code
def y_Mo_peek : MethodName := ⟨"PictureMachineModel", "peek", "(I)I"⟩
abbrev b_Mo_write : ByteArray := prog_12_method_50_code
def y_Mo_write : MethodName := ⟨"PictureMachineModel", "write", "(II)V"⟩
abbrev b_Mo_isPlace : ByteArray := prog_12_method_51_code
def y_Mo_isPlace : MethodName := ⟨"PictureMachineModel", "isPlace", "(II)Z"⟩
abbrev b_Mo_disk : ByteArray := prog_12_method_52_code
def y_Mo_disk : MethodName := ⟨"PictureMachineModel", "disk", "(III)V"⟩
abbrev b_Mo_sector : ByteArray := prog_12_method_53_code
def y_Mo_sector : MethodName := ⟨"PictureMachineModel", "sector", "(II)I"⟩
abbrev b_Mo_stick : ByteArray := prog_12_method_54_code
def y_Mo_stick : MethodName := ⟨"PictureMachineModel", "stick", "(I)V"⟩
abbrev b_Mo_dot : ByteArray := prog_12_method_55_code
def y_Mo_dot : MethodName := ⟨"PictureMachineModel", "dot", "(II)I"⟩
abbrev b_Mo_processor : ByteArray := prog_12_method_56_code
def y_Mo_processor : MethodName := ⟨"PictureMachineModel", "processor", "(I)I"⟩
abbrev b_Mo_state : ByteArray := prog_12_method_57_code
def y_Mo_state : MethodName := ⟨"PictureMachineModel", "state", "(I)I"⟩
end
section
theorem m_0 : (Jvm.Cond.initialized "PictureMachineLaw") ∈ al := al_in (ck_1 (List.mem_of_getElem? (i := 0) (by decide +kernel))) (by decide)
theorem m_1 : (Jvm.Cond.initialized "PictureMachine") ∈ al := al_in (ck_1 (List.mem_of_getElem? (i := 1) (by decide +kernel))) (by decide)
theorem m_2 : (Jvm.Cond.initialized "PictureMachine$Board") ∈ al := al_in (ck_1 (List.mem_of_getElem? (i := 2) (by decide +kernel))) (by decide)
theorem m_3 : (Jvm.Cond.initialized "PictureMachine$Clock") ∈ al := al_in (ck_1 (List.mem_of_getElem? (i := 3) (by decide +kernel))) (by decide)
theorem m_4 : (Jvm.Cond.initialized "PictureMachine$Wires") ∈ al := al_in (ck_1 (List.mem_of_getElem? (i := 4) (by decide +kernel))) (by decide)
theorem m_5 : (Jvm.Cond.initialized "PictureMachine$Memory") ∈ al := al_in (ck_1 (List.mem_of_getElem? (i := 5) (by decide +kernel))) (by decide)
theorem m_6 : (Jvm.Cond.initialized "PictureMachine$Drive") ∈ al := al_in (ck_1 (List.mem_of_getElem? (i := 6) (by decide +kernel))) (by decide)
theorem m_7 : (Jvm.Cond.initialized "PictureMachine$Chance") ∈ al := al_in (ck_1 (List.mem_of_getElem? (i := 7) (by decide +kernel))) (by decide)
theorem m_8 : (Jvm.Cond.initialized "PictureMachine$Display") ∈ al := al_in (ck_1 (List.mem_of_getElem? (i := 8) (by decide +kernel))) (by decide)
theorem m_9 : (Jvm.Cond.initialized "PictureMachine$Picture") ∈ al := al_in (ck_1 (List.mem_of_getElem? (i := 9) (by decide +kernel))) (by decide)
theorem m_10 : (Jvm.Cond.initialized "PictureMachine$Processor") ∈ al := al_in (ck_1 (List.mem_of_getElem? (i := 10) (by decide +kernel))) (by decide)
theorem m_11 : (Jvm.Cond.initialized "PictureMachineModel") ∈ al := al_in (ck_1 (List.mem_of_getElem? (i := 11) (by decide +kernel))) (by decide)
theorem m_12 : (Jvm.Cond.initialized "java/lang/Throwable") ∈ al := al_in (ck_1 (List.mem_of_getElem? (i := 12) (by decide +kernel))) (by decide)
theorem m_13 : (Jvm.Cond.initialized "java/lang/Exception") ∈ al := al_in (ck_1 (List.mem_of_getElem? (i := 13) (by decide +kernel))) (by decide)
theorem m_14 : (Jvm.Cond.initialized "java/lang/RuntimeException") ∈ al := al_in (ck_1 (List.mem_of_getElem? (i := 14) (by decide +kernel))) (by decide)
theorem m_15 : (Jvm.Cond.initialized "java/lang/IllegalArgumentException") ∈ al := al_in (ck_1 (List.mem_of_getElem? (i := 15) (by decide +kernel))) (by decide)
theorem m_16 : (Jvm.Cond.initialized "java/lang/System") ∈ al := al_in (ck_1 (List.mem_of_getElem? (i := 16) (by decide +kernel))) (by decide)
theorem m_17 : (Jvm.Cond.initialized "java/lang/IndexOutOfBoundsException") ∈ al := al_in (ck_1 (List.mem_of_getElem? (i := 17) (by decide +kernel))) (by decide)
theorem m_18 : (Jvm.Cond.classLink "PictureMachineLaw" (8 : Nat) "PictureMachine") ∈ al := al_in (ck_1 (List.mem_of_getElem? (i := 18) (by decide +kernel))) (by decide)
theorem m_19 : (Jvm.Cond.instantiable "PictureMachine" (2 : Nat)) ∈ al := al_in (ck_1 (List.mem_of_getElem? (i := 19) (by decide +kernel))) (by decide)
theorem m_20 : (Jvm.Cond.methodLink "PictureMachineLaw" (42 : Nat) ({ cls := "PictureMachine", name := "<init>", desc := "()V" } : Jvm.MethodName)) ∈ al := al_in (ck_1 (List.mem_of_getElem? (i := 20) (by decide +kernel))) (by decide)
theorem m_21 : (Jvm.Cond.instanceMethod ({ cls := "PictureMachine", name := "<init>", desc := "()V" } : Jvm.MethodName)) ∈ al := al_in (ck_1 (List.mem_of_getElem? (i := 21) (by decide +kernel))) (by decide)
theorem m_22 : (Jvm.Cond.code ({ cls := "PictureMachine", name := "<init>", desc := "()V" } : Jvm.MethodName) prog_1_method_1_code (1 : Nat) (Option.none : Option Jvm.ClassFile.FieldType)) ∈ al := al_in (ck_1 (List.mem_of_getElem? (i := 22) rfl)) (by decide)
theorem m_23 : (Jvm.Cond.methodLink "PictureMachine" (1 : Nat) ({ cls := "java/lang/Object", name := "<init>", desc := "()V" } : Jvm.MethodName)) ∈ al := al_in (ck_1 (List.mem_of_getElem? (i := 23) (by decide +kernel))) (by decide)
theorem m_24 : (Jvm.Cond.instanceMethod ({ cls := "java/lang/Object", name := "<init>", desc := "()V" } : Jvm.MethodName)) ∈ al := al_in (ck_1 (List.mem_of_getElem? (i := 24) (by decide +kernel))) (by decide)
theorem m_25 : (Jvm.Cond.code ({ cls := "java/lang/Object", name := "<init>", desc := "()V" } : Jvm.MethodName) object_method_1_code (1 : Nat) (Option.none : Option Jvm.ClassFile.FieldType)) ∈ al := al_in (ck_1 (List.mem_of_getElem? (i := 25) rfl)) (by decide)
theorem m_26 : (Jvm.Cond.classLink "PictureMachine" (7 : Nat) "PictureMachine$Board") ∈ al := al_in (ck_1 (List.mem_of_getElem? (i := 26) (by decide +kernel))) (by decide)
theorem m_27 : (Jvm.Cond.instantiable "PictureMachine$Board" (9 : Nat)) ∈ al := al_in (ck_1 (List.mem_of_getElem? (i := 27) (by decide +kernel))) (by decide)
theorem m_28 : (Jvm.Cond.methodLink "PictureMachine" (9 : Nat) ({ cls := "PictureMachine$Board", name := "<init>", desc := "()V" } : Jvm.MethodName)) ∈ al := al_in (ck_1 (List.mem_of_getElem? (i := 28) (by decide +kernel))) (by decide)
theorem m_29 : (Jvm.Cond.instanceMethod ({ cls := "PictureMachine$Board", name := "<init>", desc := "()V" } : Jvm.MethodName)) ∈ al := al_in (ck_1 (List.mem_of_getElem? (i := 29) (by decide +kernel))) (by decide)
theorem m_30 : (Jvm.Cond.code ({ cls := "PictureMachine$Board", name := "<init>", desc := "()V" } : Jvm.MethodName) prog_2_method_1_code (1 : Nat) (Option.none : Option Jvm.ClassFile.FieldType)) ∈ al := al_in (ck_1 (List.mem_of_getElem? (i := 30) rfl)) (by decide)
theorem m_31 : (Jvm.Cond.methodLink "PictureMachine$Board" (3 : Nat) ({ cls := "java/lang/Object", name := "<init>", desc := "()V" } : Jvm.MethodName)) ∈ al := al_in (ck_1 (List.mem_of_getElem? (i := 31) (by decide +kernel))) (by decide)
theorem m_32 : (Jvm.Cond.classLink "PictureMachine$Board" (9 : Nat) "PictureMachine$Clock") ∈ al := al_in (ck_1 (List.mem_of_getElem? (i := 32) (by decide +kernel))) (by decide)
theorem m_33 : (Jvm.Cond.instantiable "PictureMachine$Clock" (3 : Nat)) ∈ al := al_in (ck_1 (List.mem_of_getElem? (i := 33) (by decide +kernel))) (by decide)
theorem m_34 : (Jvm.Cond.methodLinkNest "PictureMachine$Board" (11 : Nat) ({ cls := "PictureMachine$Clock", name := "<init>", desc := "()V" } : Jvm.MethodName) "PictureMachine") ∈ nw := nw_in (ck_1 (List.mem_of_getElem? (i := 34) (by decide +kernel))) (by decide)
theorem m_35 : (Jvm.Cond.instanceMethod ({ cls := "PictureMachine$Clock", name := "<init>", desc := "()V" } : Jvm.MethodName)) ∈ al := al_in (ck_1 (List.mem_of_getElem? (i := 35) (by decide +kernel))) (by decide)
theorem m_36 : (Jvm.Cond.code ({ cls := "PictureMachine$Clock", name := "<init>", desc := "()V" } : Jvm.MethodName) prog_4_method_1_code (1 : Nat) (Option.none : Option Jvm.ClassFile.FieldType)) ∈ al := al_in (ck_1 (List.mem_of_getElem? (i := 36) rfl)) (by decide)
theorem m_37 : (Jvm.Cond.methodLink "PictureMachine$Clock" (3 : Nat) ({ cls := "java/lang/Object", name := "<init>", desc := "()V" } : Jvm.MethodName)) ∈ al := al_in (ck_1 (List.mem_of_getElem? (i := 37) (by decide +kernel))) (by decide)
theorem m_38 : (Jvm.Cond.fieldLink "PictureMachine$Clock" (18 : Nat) "PictureMachine$Clock" "frame" "I") ∈ al := al_in (ck_1 (List.mem_of_getElem? (i := 38) (by decide +kernel))) (by decide)
theorem m_39 : (Jvm.Cond.fieldLinkNest "PictureMachine" (140 : Nat) "PictureMachine$Clock" "frame" "I" "PictureMachine") ∈ nw := nw_in (ck_1 (List.mem_of_getElem? (i := 39) (by decide +kernel))) (by decide)
theorem m_40 : (Jvm.Cond.fieldLink "PictureMachine$Clock" (15 : Nat) "PictureMachine$Clock" "line" "I") ∈ al := al_in (ck_1 (List.mem_of_getElem? (i := 40) (by decide +kernel))) (by decide)
theorem m_41 : (Jvm.Cond.fieldLinkNest "PictureMachine$Board" (73 : Nat) "PictureMachine$Clock" "line" "I" "PictureMachine") ∈ nw := nw_in (ck_1 (List.mem_of_getElem? (i := 41) (by decide +kernel))) (by decide)
theorem m_42 : (Jvm.Cond.fieldLinkNest "PictureMachine" (145 : Nat) "PictureMachine$Clock" "line" "I" "PictureMachine") ∈ nw := nw_in (ck_1 (List.mem_of_getElem? (i := 42) (by decide +kernel))) (by decide)
theorem m_43 : (Jvm.Cond.fieldLink "PictureMachine$Clock" (9 : Nat) "PictureMachine$Clock" "cycle" "I") ∈ al := al_in (ck_1 (List.mem_of_getElem? (i := 43) (by decide +kernel))) (by decide)
theorem m_44 : (Jvm.Cond.fieldLinkNest "PictureMachine" (148 : Nat) "PictureMachine$Clock" "cycle" "I" "PictureMachine") ∈ nw := nw_in (ck_1 (List.mem_of_getElem? (i := 44) (by decide +kernel))) (by decide)
theorem m_52 : (Jvm.Cond.classLink "PictureMachine$Board" (18 : Nat) "PictureMachine$Wires") ∈ al := al_in (ck_1 (List.mem_of_getElem? (i := 52) (by decide +kernel))) (by decide)
theorem m_53 : (Jvm.Cond.instantiable "PictureMachine$Wires" (2 : Nat)) ∈ al := al_in (ck_1 (List.mem_of_getElem? (i := 53) (by decide +kernel))) (by decide)
theorem m_54 : (Jvm.Cond.methodLinkNest "PictureMachine$Board" (20 : Nat) ({ cls := "PictureMachine$Wires", name := "<init>", desc := "()V" } : Jvm.MethodName) "PictureMachine") ∈ nw := nw_in (ck_1 (List.mem_of_getElem? (i := 54) (by decide +kernel))) (by decide)
theorem m_55 : (Jvm.Cond.instanceMethod ({ cls := "PictureMachine$Wires", name := "<init>", desc := "()V" } : Jvm.MethodName)) ∈ al := al_in (ck_1 (List.mem_of_getElem? (i := 55) (by decide +kernel))) (by decide)
theorem m_56 : (Jvm.Cond.code ({ cls := "PictureMachine$Wires", name := "<init>", desc := "()V" } : Jvm.MethodName) prog_10_method_1_code (1 : Nat) (Option.none : Option Jvm.ClassFile.FieldType)) ∈ al := al_in (ck_1 (List.mem_of_getElem? (i := 56) rfl)) (by decide)
theorem m_57 : (Jvm.Cond.methodLink "PictureMachine$Wires" (1 : Nat) ({ cls := "java/lang/Object", name := "<init>", desc := "()V" } : Jvm.MethodName)) ∈ al := al_in (ck_1 (List.mem_of_getElem? (i := 57) (by decide +kernel))) (by decide)
theorem m_58 : (Jvm.Cond.fieldLinkNest "PictureMachine$Display" (40 : Nat) "PictureMachine$Wires" "held" "Z" "PictureMachine") ∈ nw := nw_in (ck_1 (List.mem_of_getElem? (i := 58) (by decide +kernel))) (by decide)
theorem m_59 : (Jvm.Cond.fieldLinkNest "PictureMachine$Processor" (41 : Nat) "PictureMachine$Wires" "held" "Z" "PictureMachine") ∈ nw := nw_in (ck_1 (List.mem_of_getElem? (i := 59) (by decide +kernel))) (by decide)
theorem m_60 : (Jvm.Cond.fieldLinkNest "PictureMachine$Board" (107 : Nat) "PictureMachine$Wires" "held" "Z" "PictureMachine") ∈ nw := nw_in (ck_1 (List.mem_of_getElem? (i := 60) (by decide +kernel))) (by decide)
theorem m_61 : (Jvm.Cond.fieldLinkNest "PictureMachine" (125 : Nat) "PictureMachine$Wires" "held" "Z" "PictureMachine") ∈ nw := nw_in (ck_1 (List.mem_of_getElem? (i := 61) (by decide +kernel))) (by decide)
theorem m_62 : (Jvm.Cond.fieldLinkNest "PictureMachine$Processor" (61 : Nat) "PictureMachine$Wires" "nmiRequested" "Z" "PictureMachine") ∈ nw := nw_in (ck_1 (List.mem_of_getElem? (i := 62) (by decide +kernel))) (by decide)
theorem m_63 : (Jvm.Cond.fieldLinkNest "PictureMachine" (130 : Nat) "PictureMachine$Wires" "nmiRequested" "Z" "PictureMachine") ∈ nw := nw_in (ck_1 (List.mem_of_getElem? (i := 63) (by decide +kernel))) (by decide)
theorem m_64 : (Jvm.Cond.fieldLinkNest "PictureMachine$Display" (101 : Nat) "PictureMachine$Wires" "nmiRequested" "Z" "PictureMachine") ∈ nw := nw_in (ck_1 (List.mem_of_getElem? (i := 64) (by decide +kernel))) (by decide)
theorem m_70 : (Jvm.Cond.classLink "PictureMachine$Board" (25 : Nat) "PictureMachine$Memory") ∈ al := al_in (ck_1 (List.mem_of_getElem? (i := 70) (by decide +kernel))) (by decide)
theorem m_71 : (Jvm.Cond.instantiable "PictureMachine$Memory" (1 : Nat)) ∈ al := al_in (ck_1 (List.mem_of_getElem? (i := 71) (by decide +kernel))) (by decide)
theorem m_72 : (Jvm.Cond.methodLinkNest "PictureMachine$Board" (27 : Nat) ({ cls := "PictureMachine$Memory", name := "<init>", desc := "()V" } : Jvm.MethodName) "PictureMachine") ∈ nw := nw_in (ck_1 (List.mem_of_getElem? (i := 72) (by decide +kernel))) (by decide)
theorem m_73 : (Jvm.Cond.instanceMethod ({ cls := "PictureMachine$Memory", name := "<init>", desc := "()V" } : Jvm.MethodName)) ∈ al := al_in (ck_1 (List.mem_of_getElem? (i := 73) (by decide +kernel))) (by decide)
theorem m_74 : (Jvm.Cond.code ({ cls := "PictureMachine$Memory", name := "<init>", desc := "()V" } : Jvm.MethodName) prog_7_method_1_code (1 : Nat) (Option.none : Option Jvm.ClassFile.FieldType)) ∈ al := al_in (ck_1 (List.mem_of_getElem? (i := 74) rfl)) (by decide)
theorem m_75 : (Jvm.Cond.methodLink "PictureMachine$Memory" (3 : Nat) ({ cls := "java/lang/Object", name := "<init>", desc := "()V" } : Jvm.MethodName)) ∈ al := al_in (ck_1 (List.mem_of_getElem? (i := 75) (by decide +kernel))) (by decide)
theorem m_76 : (Jvm.Cond.fieldLink "PictureMachine$Memory" (9 : Nat) "PictureMachine$Memory" "bytes" "[I") ∈ al := al_in (ck_1 (List.mem_of_getElem? (i := 76) (by decide +kernel))) (by decide)
theorem m_77 : (Jvm.Cond.fieldLinkNest "PictureMachine$Board" (70 : Nat) "PictureMachine$Memory" "bytes" "[I" "PictureMachine") ∈ nw := nw_in (ck_1 (List.mem_of_getElem? (i := 77) (by decide +kernel))) (by decide)
theorem m_81 : (Jvm.Cond.arrayClass Jvm.ClassFile.FieldType.int) ∈ al := al_in (ck_1 (List.mem_of_getElem? (i := 81) (by decide +kernel))) (by decide)
theorem m_82 : (Jvm.Cond.classLink "PictureMachine$Board" (36 : Nat) "PictureMachine$Drive") ∈ al := al_in (ck_1 (List.mem_of_getElem? (i := 82) (by decide +kernel))) (by decide)
theorem m_83 : (Jvm.Cond.instantiable "PictureMachine$Drive" (10 : Nat)) ∈ al := al_in (ck_1 (List.mem_of_getElem? (i := 83) (by decide +kernel))) (by decide)
theorem m_84 : (Jvm.Cond.methodLinkNest "PictureMachine$Board" (38 : Nat) ({ cls := "PictureMachine$Drive", name := "<init>", desc := "()V" } : Jvm.MethodName) "PictureMachine") ∈ nw := nw_in (ck_1 (List.mem_of_getElem? (i := 84) (by decide +kernel))) (by decide)
theorem m_85 : (Jvm.Cond.instanceMethod ({ cls := "PictureMachine$Drive", name := "<init>", desc := "()V" } : Jvm.MethodName)) ∈ al := al_in (ck_1 (List.mem_of_getElem? (i := 85) (by decide +kernel))) (by decide)
theorem m_86 : (Jvm.Cond.code ({ cls := "PictureMachine$Drive", name := "<init>", desc := "()V" } : Jvm.MethodName) prog_6_method_1_code (1 : Nat) (Option.none : Option Jvm.ClassFile.FieldType)) ∈ al := al_in (ck_1 (List.mem_of_getElem? (i := 86) rfl)) (by decide)
theorem m_87 : (Jvm.Cond.methodLink "PictureMachine$Drive" (3 : Nat) ({ cls := "java/lang/Object", name := "<init>", desc := "()V" } : Jvm.MethodName)) ∈ al := al_in (ck_1 (List.mem_of_getElem? (i := 87) (by decide +kernel))) (by decide)
theorem m_88 : (Jvm.Cond.fieldLink "PictureMachine$Drive" (9 : Nat) "PictureMachine$Drive" "bytes" "[I") ∈ al := al_in (ck_1 (List.mem_of_getElem? (i := 88) (by decide +kernel))) (by decide)
theorem m_89 : (Jvm.Cond.fieldLink "PictureMachine$Drive" (15 : Nat) "PictureMachine$Drive" "gathered" "[I") ∈ al := al_in (ck_1 (List.mem_of_getElem? (i := 89) (by decide +kernel))) (by decide)
theorem m_90 : (Jvm.Cond.fieldLink "PictureMachine$Drive" (18 : Nat) "PictureMachine$Drive" "answers" "[I") ∈ al := al_in (ck_1 (List.mem_of_getElem? (i := 90) (by decide +kernel))) (by decide)
theorem m_91 : (Jvm.Cond.fieldLink "PictureMachine$Drive" (29 : Nat) "PictureMachine$Drive" "gatheredCount" "I") ∈ al := al_in (ck_1 (List.mem_of_getElem? (i := 91) (by decide +kernel))) (by decide)
theorem m_92 : (Jvm.Cond.fieldLinkNest "PictureMachine" (206 : Nat) "PictureMachine$Drive" "gatheredCount" "I" "PictureMachine") ∈ nw := nw_in (ck_1 (List.mem_of_getElem? (i := 92) (by decide +kernel))) (by decide)
theorem m_93 : (Jvm.Cond.fieldLink "PictureMachine$Drive" (32 : Nat) "PictureMachine$Drive" "gathersSector" "Z") ∈ al := al_in (ck_1 (List.mem_of_getElem? (i := 93) (by decide +kernel))) (by decide)
theorem m_94 : (Jvm.Cond.fieldLinkNest "PictureMachine" (209 : Nat) "PictureMachine$Drive" "gathersSector" "Z" "PictureMachine") ∈ nw := nw_in (ck_1 (List.mem_of_getElem? (i := 94) (by decide +kernel))) (by decide)
theorem m_95 : (Jvm.Cond.fieldLink "PictureMachine$Drive" (21 : Nat) "PictureMachine$Drive" "sectorToStore" "I") ∈ al := al_in (ck_1 (List.mem_of_getElem? (i := 95) (by decide +kernel))) (by decide)
theorem m_96 : (Jvm.Cond.fieldLink "PictureMachine$Drive" (48 : Nat) "PictureMachine$Drive" "firstAnswer" "I") ∈ al := al_in (ck_1 (List.mem_of_getElem? (i := 96) (by decide +kernel))) (by decide)
theorem m_97 : (Jvm.Cond.fieldLink "PictureMachine$Drive" (45 : Nat) "PictureMachine$Drive" "waiting" "I") ∈ al := al_in (ck_1 (List.mem_of_getElem? (i := 97) (by decide +kernel))) (by decide)
theorem m_98 : (Jvm.Cond.fieldLinkNest "PictureMachine" (203 : Nat) "PictureMachine$Drive" "waiting" "I" "PictureMachine") ∈ nw := nw_in (ck_1 (List.mem_of_getElem? (i := 98) (by decide +kernel))) (by decide)
theorem m_99 : (Jvm.Cond.fieldLinkNest "PictureMachine$Board" (101 : Nat) "PictureMachine$Drive" "cameIn" "Z" "PictureMachine") ∈ nw := nw_in (ck_1 (List.mem_of_getElem? (i := 99) (by decide +kernel))) (by decide)
theorem m_100 : (Jvm.Cond.fieldLink "PictureMachine$Drive" (42 : Nat) "PictureMachine$Drive" "cameIn" "Z") ∈ al := al_in (ck_1 (List.mem_of_getElem? (i := 100) (by decide +kernel))) (by decide)
theorem m_101 : (Jvm.Cond.fieldLinkNest "PictureMachine" (200 : Nat) "PictureMachine$Drive" "cameIn" "Z" "PictureMachine") ∈ nw := nw_in (ck_1 (List.mem_of_getElem? (i := 101) (by decide +kernel))) (by decide)
theorem m_102 : (Jvm.Cond.fieldLink "PictureMachine$Drive" (51 : Nat) "PictureMachine$Drive" "incoming" "I") ∈ al := al_in (ck_1 (List.mem_of_getElem? (i := 102) (by decide +kernel))) (by decide)
theorem m_124 : (Jvm.Cond.classLink "PictureMachine$Board" (43 : Nat) "PictureMachine$Chance") ∈ al := al_in (ck_1 (List.mem_of_getElem? (i := 124) (by decide +kernel))) (by decide)
theorem m_125 : (Jvm.Cond.instantiable "PictureMachine$Chance" (4 : Nat)) ∈ al := al_in (ck_1 (List.mem_of_getElem? (i := 125) (by decide +kernel))) (by decide)
theorem m_126 : (Jvm.Cond.methodLink "PictureMachine$Board" (45 : Nat) ({ cls := "PictureMachine$Chance", name := "<init>", desc := "([I)V" } : Jvm.MethodName)) ∈ al := al_in (ck_1 (List.mem_of_getElem? (i := 126) (by decide +kernel))) (by decide)
theorem m_127 : (Jvm.Cond.instanceMethod ({ cls := "PictureMachine$Chance", name := "<init>", desc := "([I)V" } : Jvm.MethodName)) ∈ al := al_in (ck_1 (List.mem_of_getElem? (i := 127) (by decide +kernel))) (by decide)
theorem m_128 : (Jvm.Cond.code ({ cls := "PictureMachine$Chance", name := "<init>", desc := "([I)V" } : Jvm.MethodName) prog_3_method_1_code (2 : Nat) (Option.none : Option Jvm.ClassFile.FieldType)) ∈ al := al_in (ck_1 (List.mem_of_getElem? (i := 128) rfl)) (by decide)
theorem m_129 : (Jvm.Cond.methodLink "PictureMachine$Chance" (3 : Nat) ({ cls := "java/lang/Object", name := "<init>", desc := "()V" } : Jvm.MethodName)) ∈ al := al_in (ck_1 (List.mem_of_getElem? (i := 129) (by decide +kernel))) (by decide)
theorem m_130 : (Jvm.Cond.fieldLink "PictureMachine$Chance" (15 : Nat) "PictureMachine$Chance" "written" "[I") ∈ al := al_in (ck_1 (List.mem_of_getElem? (i := 130) (by decide +kernel))) (by decide)
theorem m_131 : (Jvm.Cond.fieldLink "PictureMachine$Chance" (9 : Nat) "PictureMachine$Chance" "row" "I") ∈ al := al_in (ck_1 (List.mem_of_getElem? (i := 131) (by decide +kernel))) (by decide)
theorem m_132 : (Jvm.Cond.fieldLinkNest "PictureMachine$Board" (91 : Nat) "PictureMachine$Chance" "row" "I" "PictureMachine") ∈ nw := nw_in (ck_1 (List.mem_of_getElem? (i := 132) (by decide +kernel))) (by decide)
theorem m_133 : (Jvm.Cond.fieldLinkNest "PictureMachine" (189 : Nat) "PictureMachine$Chance" "row" "I" "PictureMachine") ∈ nw := nw_in (ck_1 (List.mem_of_getElem? (i := 133) (by decide +kernel))) (by decide)
theorem m_134 : (Jvm.Cond.fieldLink "PictureMachine$Chance" (19 : Nat) "PictureMachine$Chance" "timer" "I") ∈ al := al_in (ck_1 (List.mem_of_getElem? (i := 134) (by decide +kernel))) (by decide)
theorem m_135 : (Jvm.Cond.fieldLinkNest "PictureMachine" (194 : Nat) "PictureMachine$Chance" "timer" "I" "PictureMachine") ∈ nw := nw_in (ck_1 (List.mem_of_getElem? (i := 135) (by decide +kernel))) (by decide)
theorem m_136 : (Jvm.Cond.fieldLink "PictureMachine$Chance" (22 : Nat) "PictureMachine$Chance" "sign" "I") ∈ al := al_in (ck_1 (List.mem_of_getElem? (i := 136) (by decide +kernel))) (by decide)
theorem m_137 : (Jvm.Cond.fieldLinkNest "PictureMachine" (197 : Nat) "PictureMachine$Chance" "sign" "I" "PictureMachine") ∈ nw := nw_in (ck_1 (List.mem_of_getElem? (i := 137) (by decide +kernel))) (by decide)
theorem m_147 : (Jvm.Cond.classLink "PictureMachine$Board" (52 : Nat) "PictureMachine$Display") ∈ al := al_in (ck_1 (List.mem_of_getElem? (i := 147) (by decide +kernel))) (by decide)
theorem m_148 : (Jvm.Cond.instantiable "PictureMachine$Display" (14 : Nat)) ∈ al := al_in (ck_1 (List.mem_of_getElem? (i := 148) (by decide +kernel))) (by decide)
theorem m_149 : (Jvm.Cond.methodLink "PictureMachine$Board" (54 : Nat) ({ cls := "PictureMachine$Display", name := "<init>", desc := "(LPictureMachine$Memory;[ILPictureMachine$Wires;)V" } : Jvm.MethodName)) ∈ al := al_in (ck_1 (List.mem_of_getElem? (i := 149) (by decide +kernel))) (by decide)
theorem m_150 : (Jvm.Cond.instanceMethod ({ cls := "PictureMachine$Display", name := "<init>", desc := "(LPictureMachine$Memory;[ILPictureMachine$Wires;)V" } : Jvm.MethodName)) ∈ al := al_in (ck_1 (List.mem_of_getElem? (i := 150) (by decide +kernel))) (by decide)
theorem m_151 : (Jvm.Cond.code ({ cls := "PictureMachine$Display", name := "<init>", desc := "(LPictureMachine$Memory;[ILPictureMachine$Wires;)V" } : Jvm.MethodName) prog_5_method_1_code (4 : Nat) (Option.none : Option Jvm.ClassFile.FieldType)) ∈ al := al_in (ck_1 (List.mem_of_getElem? (i := 151) rfl)) (by decide)
theorem m_152 : (Jvm.Cond.methodLink "PictureMachine$Display" (3 : Nat) ({ cls := "java/lang/Object", name := "<init>", desc := "()V" } : Jvm.MethodName)) ∈ al := al_in (ck_1 (List.mem_of_getElem? (i := 152) (by decide +kernel))) (by decide)
theorem m_153 : (Jvm.Cond.fieldLink "PictureMachine$Display" (18 : Nat) "PictureMachine$Display" "memory" "LPictureMachine$Memory;") ∈ al := al_in (ck_1 (List.mem_of_getElem? (i := 153) (by decide +kernel))) (by decide)
theorem m_154 : (Jvm.Cond.fieldLink "PictureMachine$Display" (22 : Nat) "PictureMachine$Display" "written" "[I") ∈ al := al_in (ck_1 (List.mem_of_getElem? (i := 154) (by decide +kernel))) (by decide)
theorem m_155 : (Jvm.Cond.fieldLink "PictureMachine$Display" (25 : Nat) "PictureMachine$Display" "wires" "LPictureMachine$Wires;") ∈ al := al_in (ck_1 (List.mem_of_getElem? (i := 155) (by decide +kernel))) (by decide)
theorem m_156 : (Jvm.Cond.fieldLink "PictureMachine$Display" (9 : Nat) "PictureMachine$Display" "data" "[I") ∈ al := al_in (ck_1 (List.mem_of_getElem? (i := 156) (by decide +kernel))) (by decide)
theorem m_157 : (Jvm.Cond.fieldLink "PictureMachine$Display" (15 : Nat) "PictureMachine$Display" "letterRows" "[I") ∈ al := al_in (ck_1 (List.mem_of_getElem? (i := 157) (by decide +kernel))) (by decide)
theorem m_158 : (Jvm.Cond.fieldLinkNest "PictureMachine$Board" (77 : Nat) "PictureMachine$Display" "causes" "I" "PictureMachine") ∈ nw := nw_in (ck_1 (List.mem_of_getElem? (i := 158) (by decide +kernel))) (by decide)
theorem m_159 : (Jvm.Cond.fieldLinkNest "PictureMachine" (176 : Nat) "PictureMachine$Display" "causes" "I" "PictureMachine") ∈ nw := nw_in (ck_1 (List.mem_of_getElem? (i := 159) (by decide +kernel))) (by decide)
theorem m_160 : (Jvm.Cond.fieldLink "PictureMachine$Display" (98 : Nat) "PictureMachine$Display" "causes" "I") ∈ al := al_in (ck_1 (List.mem_of_getElem? (i := 160) (by decide +kernel))) (by decide)
theorem m_161 : (Jvm.Cond.fieldLink "PictureMachine$Display" (83 : Nat) "PictureMachine$Display" "listPlace" "I") ∈ al := al_in (ck_1 (List.mem_of_getElem? (i := 161) (by decide +kernel))) (by decide)
theorem m_162 : (Jvm.Cond.fieldLinkNest "PictureMachine" (155 : Nat) "PictureMachine$Display" "listPlace" "I" "PictureMachine") ∈ nw := nw_in (ck_1 (List.mem_of_getElem? (i := 162) (by decide +kernel))) (by decide)
theorem m_163 : (Jvm.Cond.fieldLinkNest "PictureMachine" (160 : Nat) "PictureMachine$Display" "dataPlace" "I" "PictureMachine") ∈ nw := nw_in (ck_1 (List.mem_of_getElem? (i := 163) (by decide +kernel))) (by decide)
theorem m_164 : (Jvm.Cond.fieldLink "PictureMachine$Display" (126 : Nat) "PictureMachine$Display" "dataPlace" "I") ∈ al := al_in (ck_1 (List.mem_of_getElem? (i := 164) (by decide +kernel))) (by decide)
theorem m_165 : (Jvm.Cond.fieldLink "PictureMachine$Display" (68 : Nat) "PictureMachine$Display" "modeByte" "I") ∈ al := al_in (ck_1 (List.mem_of_getElem? (i := 165) (by decide +kernel))) (by decide)
theorem m_166 : (Jvm.Cond.fieldLink "PictureMachine$Display" (77 : Nat) "PictureMachine$Display" "rows" "I") ∈ al := al_in (ck_1 (List.mem_of_getElem? (i := 166) (by decide +kernel))) (by decide)
theorem m_167 : (Jvm.Cond.fieldLink "PictureMachine$Display" (60 : Nat) "PictureMachine$Display" "rowsDone" "I") ∈ al := al_in (ck_1 (List.mem_of_getElem? (i := 167) (by decide +kernel))) (by decide)
theorem m_168 : (Jvm.Cond.fieldLink "PictureMachine$Display" (71 : Nat) "PictureMachine$Display" "rests" "Z") ∈ al := al_in (ck_1 (List.mem_of_getElem? (i := 168) (by decide +kernel))) (by decide)
theorem m_169 : (Jvm.Cond.fieldLinkNest "PictureMachine" (163 : Nat) "PictureMachine$Display" "rests" "Z" "PictureMachine") ∈ nw := nw_in (ck_1 (List.mem_of_getElem? (i := 169) (by decide +kernel))) (by decide)
theorem m_170 : (Jvm.Cond.fieldLink "PictureMachine$Display" (80 : Nat) "PictureMachine$Display" "addressSaid" "Z") ∈ al := al_in (ck_1 (List.mem_of_getElem? (i := 170) (by decide +kernel))) (by decide)
theorem m_171 : (Jvm.Cond.fieldLink "PictureMachine$Display" (123 : Nat) "PictureMachine$Display" "lowerByte" "I") ∈ al := al_in (ck_1 (List.mem_of_getElem? (i := 171) (by decide +kernel))) (by decide)
theorem m_201 : (Jvm.Cond.classLink "PictureMachine$Board" (61 : Nat) "PictureMachine$Picture") ∈ al := al_in (ck_1 (List.mem_of_getElem? (i := 201) (by decide +kernel))) (by decide)
theorem m_202 : (Jvm.Cond.instantiable "PictureMachine$Picture" (5 : Nat)) ∈ al := al_in (ck_1 (List.mem_of_getElem? (i := 202) (by decide +kernel))) (by decide)
theorem m_203 : (Jvm.Cond.methodLink "PictureMachine$Board" (63 : Nat) ({ cls := "PictureMachine$Picture", name := "<init>", desc := "(LPictureMachine$Display;[I)V" } : Jvm.MethodName)) ∈ al := al_in (ck_1 (List.mem_of_getElem? (i := 203) (by decide +kernel))) (by decide)
theorem m_204 : (Jvm.Cond.instanceMethod ({ cls := "PictureMachine$Picture", name := "<init>", desc := "(LPictureMachine$Display;[I)V" } : Jvm.MethodName)) ∈ al := al_in (ck_1 (List.mem_of_getElem? (i := 204) (by decide +kernel))) (by decide)
theorem m_205 : (Jvm.Cond.code ({ cls := "PictureMachine$Picture", name := "<init>", desc := "(LPictureMachine$Display;[I)V" } : Jvm.MethodName) prog_8_method_1_code (3 : Nat) (Option.none : Option Jvm.ClassFile.FieldType)) ∈ al := al_in (ck_1 (List.mem_of_getElem? (i := 205) rfl)) (by decide)
theorem m_206 : (Jvm.Cond.methodLink "PictureMachine$Picture" (3 : Nat) ({ cls := "java/lang/Object", name := "<init>", desc := "()V" } : Jvm.MethodName)) ∈ al := al_in (ck_1 (List.mem_of_getElem? (i := 206) (by decide +kernel))) (by decide)
theorem m_207 : (Jvm.Cond.fieldLink "PictureMachine$Picture" (18 : Nat) "PictureMachine$Picture" "display" "LPictureMachine$Display;") ∈ al := al_in (ck_1 (List.mem_of_getElem? (i := 207) (by decide +kernel))) (by decide)
theorem m_208 : (Jvm.Cond.fieldLink "PictureMachine$Picture" (22 : Nat) "PictureMachine$Picture" "written" "[I") ∈ al := al_in (ck_1 (List.mem_of_getElem? (i := 208) (by decide +kernel))) (by decide)
theorem m_209 : (Jvm.Cond.fieldLink "PictureMachine$Picture" (9 : Nat) "PictureMachine$Picture" "dots" "[I") ∈ al := al_in (ck_1 (List.mem_of_getElem? (i := 209) (by decide +kernel))) (by decide)
theorem m_210 : (Jvm.Cond.fieldLink "PictureMachine$Picture" (15 : Nat) "PictureMachine$Picture" "collisions" "[I") ∈ al := al_in (ck_1 (List.mem_of_getElem? (i := 210) (by decide +kernel))) (by decide)
theorem m_211 : (Jvm.Cond.fieldLinkNest "PictureMachine$Board" (80 : Nat) "PictureMachine$Picture" "collisions" "[I" "PictureMachine") ∈ nw := nw_in (ck_1 (List.mem_of_getElem? (i := 211) (by decide +kernel))) (by decide)
theorem m_212 : (Jvm.Cond.fieldLinkNest "PictureMachine" (179 : Nat) "PictureMachine$Picture" "collisions" "[I" "PictureMachine") ∈ nw := nw_in (ck_1 (List.mem_of_getElem? (i := 212) (by decide +kernel))) (by decide)
theorem m_213 : (Jvm.Cond.fieldLinkNest "PictureMachine$Board" (83 : Nat) "PictureMachine$Picture" "met" "Z" "PictureMachine") ∈ nw := nw_in (ck_1 (List.mem_of_getElem? (i := 213) (by decide +kernel))) (by decide)
theorem m_214 : (Jvm.Cond.fieldLink "PictureMachine$Picture" (29 : Nat) "PictureMachine$Picture" "met" "Z") ∈ al := al_in (ck_1 (List.mem_of_getElem? (i := 214) (by decide +kernel))) (by decide)
theorem m_215 : (Jvm.Cond.fieldLinkNest "PictureMachine" (182 : Nat) "PictureMachine$Picture" "met" "Z" "PictureMachine") ∈ nw := nw_in (ck_1 (List.mem_of_getElem? (i := 215) (by decide +kernel))) (by decide)
theorem m_227 : (Jvm.Cond.fieldLink "PictureMachine$Board" (12 : Nat) "PictureMachine$Board" "clock" "LPictureMachine$Clock;") ∈ al := al_in (ck_1 (List.mem_of_getElem? (i := 227) (by decide +kernel))) (by decide)
theorem m_228 : (Jvm.Cond.fieldLinkNest "PictureMachine" (136 : Nat) "PictureMachine$Board" "clock" "LPictureMachine$Clock;" "PictureMachine") ∈ nw := nw_in (ck_1 (List.mem_of_getElem? (i := 228) (by decide +kernel))) (by decide)
theorem m_229 : (Jvm.Cond.fieldLink "PictureMachine$Board" (21 : Nat) "PictureMachine$Board" "wires" "LPictureMachine$Wires;") ∈ al := al_in (ck_1 (List.mem_of_getElem? (i := 229) (by decide +kernel))) (by decide)
theorem m_230 : (Jvm.Cond.fieldLinkNest "PictureMachine$Processor" (35 : Nat) "PictureMachine$Board" "wires" "LPictureMachine$Wires;" "PictureMachine") ∈ nw := nw_in (ck_1 (List.mem_of_getElem? (i := 230) (by decide +kernel))) (by decide)
theorem m_231 : (Jvm.Cond.fieldLinkNest "PictureMachine" (121 : Nat) "PictureMachine$Board" "wires" "LPictureMachine$Wires;" "PictureMachine") ∈ nw := nw_in (ck_1 (List.mem_of_getElem? (i := 231) (by decide +kernel))) (by decide)
theorem m_232 : (Jvm.Cond.fieldLink "PictureMachine$Board" (28 : Nat) "PictureMachine$Board" "memory" "LPictureMachine$Memory;") ∈ al := al_in (ck_1 (List.mem_of_getElem? (i := 232) (by decide +kernel))) (by decide)
theorem m_233 : (Jvm.Cond.fieldLinkNest "PictureMachine" (36 : Nat) "PictureMachine$Board" "memory" "LPictureMachine$Memory;" "PictureMachine") ∈ nw := nw_in (ck_1 (List.mem_of_getElem? (i := 233) (by decide +kernel))) (by decide)
theorem m_234 : (Jvm.Cond.fieldLinkNest "PictureMachine$Processor" (85 : Nat) "PictureMachine$Board" "memory" "LPictureMachine$Memory;" "PictureMachine") ∈ nw := nw_in (ck_1 (List.mem_of_getElem? (i := 234) (by decide +kernel))) (by decide)
theorem m_235 : (Jvm.Cond.fieldLink "PictureMachine$Board" (32 : Nat) "PictureMachine$Board" "written" "[I") ∈ al := al_in (ck_1 (List.mem_of_getElem? (i := 235) (by decide +kernel))) (by decide)
theorem m_236 : (Jvm.Cond.fieldLinkNest "PictureMachine" (172 : Nat) "PictureMachine$Board" "written" "[I" "PictureMachine") ∈ nw := nw_in (ck_1 (List.mem_of_getElem? (i := 236) (by decide +kernel))) (by decide)
theorem m_237 : (Jvm.Cond.fieldLink "PictureMachine$Board" (48 : Nat) "PictureMachine$Board" "chance" "LPictureMachine$Chance;") ∈ al := al_in (ck_1 (List.mem_of_getElem? (i := 237) (by decide +kernel))) (by decide)
theorem m_238 : (Jvm.Cond.fieldLinkNest "PictureMachine" (185 : Nat) "PictureMachine$Board" "chance" "LPictureMachine$Chance;" "PictureMachine") ∈ nw := nw_in (ck_1 (List.mem_of_getElem? (i := 238) (by decide +kernel))) (by decide)
theorem m_239 : (Jvm.Cond.fieldLink "PictureMachine$Board" (57 : Nat) "PictureMachine$Board" "display" "LPictureMachine$Display;") ∈ al := al_in (ck_1 (List.mem_of_getElem? (i := 239) (by decide +kernel))) (by decide)
theorem m_240 : (Jvm.Cond.fieldLinkNest "PictureMachine" (151 : Nat) "PictureMachine$Board" "display" "LPictureMachine$Display;" "PictureMachine") ∈ nw := nw_in (ck_2 (List.mem_of_getElem? (i := 0) (by decide +kernel))) (by decide)
theorem m_241 : (Jvm.Cond.fieldLink "PictureMachine$Board" (66 : Nat) "PictureMachine$Board" "picture" "LPictureMachine$Picture;") ∈ al := al_in (ck_2 (List.mem_of_getElem? (i := 1) (by decide +kernel))) (by decide)
theorem m_242 : (Jvm.Cond.fieldLinkNest "PictureMachine" (85 : Nat) "PictureMachine$Board" "picture" "LPictureMachine$Picture;" "PictureMachine") ∈ nw := nw_in (ck_2 (List.mem_of_getElem? (i := 2) (by decide +kernel))) (by decide)
theorem m_243 : (Jvm.Cond.fieldLink "PictureMachine$Board" (39 : Nat) "PictureMachine$Board" "drive" "LPictureMachine$Drive;") ∈ al := al_in (ck_2 (List.mem_of_getElem? (i := 3) (by decide +kernel))) (by decide)
theorem m_244 : (Jvm.Cond.fieldLinkNest "PictureMachine" (57 : Nat) "PictureMachine$Board" "drive" "LPictureMachine$Drive;" "PictureMachine") ∈ nw := nw_in (ck_2 (List.mem_of_getElem? (i := 4) (by decide +kernel))) (by decide)
theorem m_245 : (Jvm.Cond.fieldLink "PictureMachine$Board" (104 : Nat) "PictureMachine$Board" "stickValue" "I") ∈ al := al_in (ck_2 (List.mem_of_getElem? (i := 5) (by decide +kernel))) (by decide)
theorem m_246 : (Jvm.Cond.fieldLinkNest "PictureMachine" (71 : Nat) "PictureMachine$Board" "stickValue" "I" "PictureMachine") ∈ nw := nw_in (ck_2 (List.mem_of_getElem? (i := 6) (by decide +kernel))) (by decide)
theorem m_266 : (Jvm.Cond.classLink "PictureMachine" (16 : Nat) "PictureMachine$Processor") ∈ al := al_in (ck_2 (List.mem_of_getElem? (i := 26) (by decide +kernel))) (by decide)
theorem m_267 : (Jvm.Cond.instantiable "PictureMachine$Processor" (13 : Nat)) ∈ al := al_in (ck_2 (List.mem_of_getElem? (i := 27) (by decide +kernel))) (by decide)
theorem m_268 : (Jvm.Cond.methodLink "PictureMachine" (18 : Nat) ({ cls := "PictureMachine$Processor", name := "<init>", desc := "(LPictureMachine$Board;)V" } : Jvm.MethodName)) ∈ al := al_in (ck_2 (List.mem_of_getElem? (i := 28) (by decide +kernel))) (by decide)
theorem m_269 : (Jvm.Cond.instanceMethod ({ cls := "PictureMachine$Processor", name := "<init>", desc := "(LPictureMachine$Board;)V" } : Jvm.MethodName)) ∈ al := al_in (ck_2 (List.mem_of_getElem? (i := 29) (by decide +kernel))) (by decide)
theorem m_270 : (Jvm.Cond.code ({ cls := "PictureMachine$Processor", name := "<init>", desc := "(LPictureMachine$Board;)V" } : Jvm.MethodName) prog_9_method_1_code (2 : Nat) (Option.none : Option Jvm.ClassFile.FieldType)) ∈ al := al_in (ck_2 (List.mem_of_getElem? (i := 30) rfl)) (by decide)
theorem m_271 : (Jvm.Cond.methodLink "PictureMachine$Processor" (3 : Nat) ({ cls := "java/lang/Object", name := "<init>", desc := "()V" } : Jvm.MethodName)) ∈ al := al_in (ck_2 (List.mem_of_getElem? (i := 31) (by decide +kernel))) (by decide)
theorem m_272 : (Jvm.Cond.fieldLink "PictureMachine$Processor" (18 : Nat) "PictureMachine$Processor" "board" "LPictureMachine$Board;") ∈ al := al_in (ck_2 (List.mem_of_getElem? (i := 32) (by decide +kernel))) (by decide)
theorem m_273 : (Jvm.Cond.fieldLink "PictureMachine$Processor" (9 : Nat) "PictureMachine$Processor" "pc" "I") ∈ al := al_in (ck_2 (List.mem_of_getElem? (i := 33) (by decide +kernel))) (by decide)
theorem m_274 : (Jvm.Cond.fieldLinkNest "PictureMachine" (94 : Nat) "PictureMachine$Processor" "pc" "I" "PictureMachine") ∈ nw := nw_in (ck_2 (List.mem_of_getElem? (i := 34) (by decide +kernel))) (by decide)
theorem m_275 : (Jvm.Cond.fieldLink "PictureMachine$Processor" (100 : Nat) "PictureMachine$Processor" "a" "I") ∈ al := al_in (ck_2 (List.mem_of_getElem? (i := 35) (by decide +kernel))) (by decide)
theorem m_276 : (Jvm.Cond.fieldLinkNest "PictureMachine" (97 : Nat) "PictureMachine$Processor" "a" "I" "PictureMachine") ∈ nw := nw_in (ck_2 (List.mem_of_getElem? (i := 36) (by decide +kernel))) (by decide)
theorem m_277 : (Jvm.Cond.fieldLink "PictureMachine$Processor" (106 : Nat) "PictureMachine$Processor" "x" "I") ∈ al := al_in (ck_2 (List.mem_of_getElem? (i := 37) (by decide +kernel))) (by decide)
theorem m_278 : (Jvm.Cond.fieldLinkNest "PictureMachine" (100 : Nat) "PictureMachine$Processor" "x" "I" "PictureMachine") ∈ nw := nw_in (ck_2 (List.mem_of_getElem? (i := 38) (by decide +kernel))) (by decide)
theorem m_279 : (Jvm.Cond.fieldLink "PictureMachine$Processor" (109 : Nat) "PictureMachine$Processor" "y" "I") ∈ al := al_in (ck_2 (List.mem_of_getElem? (i := 39) (by decide +kernel))) (by decide)
theorem m_280 : (Jvm.Cond.fieldLinkNest "PictureMachine" (103 : Nat) "PictureMachine$Processor" "y" "I" "PictureMachine") ∈ nw := nw_in (ck_2 (List.mem_of_getElem? (i := 40) (by decide +kernel))) (by decide)
theorem m_281 : (Jvm.Cond.fieldLink "PictureMachine$Processor" (15 : Nat) "PictureMachine$Processor" "s" "I") ∈ al := al_in (ck_2 (List.mem_of_getElem? (i := 41) (by decide +kernel))) (by decide)
theorem m_282 : (Jvm.Cond.fieldLinkNest "PictureMachine" (106 : Nat) "PictureMachine$Processor" "s" "I" "PictureMachine") ∈ nw := nw_in (ck_2 (List.mem_of_getElem? (i := 42) (by decide +kernel))) (by decide)
theorem m_283 : (Jvm.Cond.fieldLink "PictureMachine$Processor" (22 : Nat) "PictureMachine$Processor" "negative" "Z") ∈ al := al_in (ck_2 (List.mem_of_getElem? (i := 43) (by decide +kernel))) (by decide)
theorem m_284 : (Jvm.Cond.fieldLink "PictureMachine$Processor" (26 : Nat) "PictureMachine$Processor" "zero" "Z") ∈ al := al_in (ck_2 (List.mem_of_getElem? (i := 44) (by decide +kernel))) (by decide)
theorem m_285 : (Jvm.Cond.fieldLink "PictureMachine$Processor" (29 : Nat) "PictureMachine$Processor" "carry" "Z") ∈ al := al_in (ck_2 (List.mem_of_getElem? (i := 45) (by decide +kernel))) (by decide)
theorem m_286 : (Jvm.Cond.fieldLink "PictureMachine$Processor" (32 : Nat) "PictureMachine$Processor" "jammed" "Z") ∈ al := al_in (ck_2 (List.mem_of_getElem? (i := 46) (by decide +kernel))) (by decide)
theorem m_287 : (Jvm.Cond.fieldLinkNest "PictureMachine" (113 : Nat) "PictureMachine$Processor" "jammed" "Z" "PictureMachine") ∈ nw := nw_in (ck_2 (List.mem_of_getElem? (i := 47) (by decide +kernel))) (by decide)
theorem m_288 : (Jvm.Cond.fieldLink "PictureMachine$Processor" (52 : Nat) "PictureMachine$Processor" "entersNmi" "Z") ∈ al := al_in (ck_2 (List.mem_of_getElem? (i := 48) (by decide +kernel))) (by decide)
theorem m_289 : (Jvm.Cond.fieldLink "PictureMachine$Processor" (68 : Nat) "PictureMachine$Processor" "code" "I") ∈ al := al_in (ck_2 (List.mem_of_getElem? (i := 49) (by decide +kernel))) (by decide)
theorem m_290 : (Jvm.Cond.fieldLink "PictureMachine$Processor" (46 : Nat) "PictureMachine$Processor" "cyclesLeft" "I") ∈ al := al_in (ck_2 (List.mem_of_getElem? (i := 50) (by decide +kernel))) (by decide)
theorem m_291 : (Jvm.Cond.fieldLinkNest "PictureMachine" (133 : Nat) "PictureMachine$Processor" "cyclesLeft" "I" "PictureMachine") ∈ nw := nw_in (ck_2 (List.mem_of_getElem? (i := 51) (by decide +kernel))) (by decide)
theorem m_319 : (Jvm.Cond.fieldLink "PictureMachine" (10 : Nat) "PictureMachine" "board" "LPictureMachine$Board;") ∈ al := al_in (ck_2 (List.mem_of_getElem? (i := 79) (by decide +kernel))) (by decide)
theorem m_320 : (Jvm.Cond.fieldLink "PictureMachine" (21 : Nat) "PictureMachine" "mainProcessor" "LPictureMachine$Processor;") ∈ al := al_in (ck_2 (List.mem_of_getElem? (i := 80) (by decide +kernel))) (by decide)
theorem m_326 : (Jvm.Cond.methodLink "PictureMachineLaw" (81 : Nat) ({ cls := "PictureMachine", name := "processor", desc := "(I)I" } : Jvm.MethodName)) ∈ al := al_in (ck_2 (List.mem_of_getElem? (i := 86) (by decide +kernel))) (by decide)
theorem m_327 : (Jvm.Cond.instanceMethod ({ cls := "PictureMachine", name := "processor", desc := "(I)I" } : Jvm.MethodName)) ∈ al := al_in (ck_2 (List.mem_of_getElem? (i := 87) (by decide +kernel))) (by decide)
theorem m_328 : (Jvm.Cond.selects "PictureMachine" ({ cls := "PictureMachine", name := "processor", desc := "(I)I" } : Jvm.MethodName) ({ cls := "PictureMachine", name := "processor", desc := "(I)I" } : Jvm.MethodName)) ∈ al := al_in (ck_2 (List.mem_of_getElem? (i := 88) (by decide +kernel))) (by decide)
theorem m_329 : (Jvm.Cond.code ({ cls := "PictureMachine", name := "processor", desc := "(I)I" } : Jvm.MethodName) prog_1_method_10_code (2 : Nat) (Option.some Jvm.ClassFile.FieldType.int)) ∈ al := al_in (ck_2 (List.mem_of_getElem? (i := 89) rfl)) (by decide)
theorem m_330 : (Jvm.Cond.methodLink "PictureMachine" (109 : Nat) ({ cls := "PictureMachine$Processor", name := "flags", desc := "()I" } : Jvm.MethodName)) ∈ al := al_in (ck_2 (List.mem_of_getElem? (i := 90) (by decide +kernel))) (by decide)
theorem m_331 : (Jvm.Cond.instanceMethod ({ cls := "PictureMachine$Processor", name := "flags", desc := "()I" } : Jvm.MethodName)) ∈ al := al_in (ck_2 (List.mem_of_getElem? (i := 91) (by decide +kernel))) (by decide)
theorem m_332 : (Jvm.Cond.selects "PictureMachine$Processor" ({ cls := "PictureMachine$Processor", name := "flags", desc := "()I" } : Jvm.MethodName) ({ cls := "PictureMachine$Processor", name := "flags", desc := "()I" } : Jvm.MethodName)) ∈ al := al_in (ck_2 (List.mem_of_getElem? (i := 92) (by decide +kernel))) (by decide)
theorem m_333 : (Jvm.Cond.code ({ cls := "PictureMachine$Processor", name := "flags", desc := "()I" } : Jvm.MethodName) prog_9_method_2_code (1 : Nat) (Option.some Jvm.ClassFile.FieldType.int)) ∈ al := al_in (ck_2 (List.mem_of_getElem? (i := 93) rfl)) (by decide)
theorem m_334 : (Jvm.Cond.methodLink "PictureMachine" (117 : Nat) ({ cls := "PictureMachine", name := "bit", desc := "(Z)I" } : Jvm.MethodName)) ∈ al := al_in (ck_2 (List.mem_of_getElem? (i := 94) (by decide +kernel))) (by decide)
theorem m_335 : (Jvm.Cond.static ({ cls := "PictureMachine", name := "bit", desc := "(Z)I" } : Jvm.MethodName)) ∈ al := al_in (ck_2 (List.mem_of_getElem? (i := 95) (by decide +kernel))) (by decide)
theorem m_336 : (Jvm.Cond.code ({ cls := "PictureMachine", name := "bit", desc := "(Z)I" } : Jvm.MethodName) prog_1_method_19_code (1 : Nat) (Option.some Jvm.ClassFile.FieldType.int)) ∈ al := al_in (ck_2 (List.mem_of_getElem? (i := 96) rfl)) (by decide)
theorem m_337 : (Jvm.Cond.methodLink "PictureMachineLaw" (85 : Nat) ({ cls := "PictureMachine", name := "state", desc := "(I)I" } : Jvm.MethodName)) ∈ al := al_in (ck_2 (List.mem_of_getElem? (i := 97) (by decide +kernel))) (by decide)
theorem m_338 : (Jvm.Cond.instanceMethod ({ cls := "PictureMachine", name := "state", desc := "(I)I" } : Jvm.MethodName)) ∈ al := al_in (ck_2 (List.mem_of_getElem? (i := 98) (by decide +kernel))) (by decide)
theorem m_339 : (Jvm.Cond.selects "PictureMachine" ({ cls := "PictureMachine", name := "state", desc := "(I)I" } : Jvm.MethodName) ({ cls := "PictureMachine", name := "state", desc := "(I)I" } : Jvm.MethodName)) ∈ al := al_in (ck_2 (List.mem_of_getElem? (i := 99) (by decide +kernel))) (by decide)
theorem m_340 : (Jvm.Cond.code ({ cls := "PictureMachine", name := "state", desc := "(I)I" } : Jvm.MethodName) prog_1_method_11_code (2 : Nat) (Option.some Jvm.ClassFile.FieldType.int)) ∈ al := al_in (ck_2 (List.mem_of_getElem? (i := 100) rfl)) (by decide)
theorem m_341 : (Jvm.Cond.methodLink "PictureMachine" (166 : Nat) ({ cls := "PictureMachine$Display", name := "presentMode", desc := "()I" } : Jvm.MethodName)) ∈ al := al_in (ck_2 (List.mem_of_getElem? (i := 101) (by decide +kernel))) (by decide)
theorem m_342 : (Jvm.Cond.instanceMethod ({ cls := "PictureMachine$Display", name := "presentMode", desc := "()I" } : Jvm.MethodName)) ∈ al := al_in (ck_2 (List.mem_of_getElem? (i := 102) (by decide +kernel))) (by decide)
theorem m_343 : (Jvm.Cond.selects "PictureMachine$Display" ({ cls := "PictureMachine$Display", name := "presentMode", desc := "()I" } : Jvm.MethodName) ({ cls := "PictureMachine$Display", name := "presentMode", desc := "()I" } : Jvm.MethodName)) ∈ al := al_in (ck_2 (List.mem_of_getElem? (i := 103) (by decide +kernel))) (by decide)
theorem m_344 : (Jvm.Cond.code ({ cls := "PictureMachine$Display", name := "presentMode", desc := "()I" } : Jvm.MethodName) prog_5_method_5_code (1 : Nat) (Option.some Jvm.ClassFile.FieldType.int)) ∈ al := al_in (ck_2 (List.mem_of_getElem? (i := 104) rfl)) (by decide)
theorem m_345 : (Jvm.Cond.methodLink "PictureMachine$Display" (57 : Nat) ({ cls := "PictureMachine$Display", name := "hasRow", desc := "()Z" } : Jvm.MethodName)) ∈ al := al_in (ck_2 (List.mem_of_getElem? (i := 105) (by decide +kernel))) (by decide)
theorem m_347 : (Jvm.Cond.instanceMethod ({ cls := "PictureMachine$Display", name := "hasRow", desc := "()Z" } : Jvm.MethodName)) ∈ al := al_in (ck_2 (List.mem_of_getElem? (i := 107) (by decide +kernel))) (by decide)
theorem m_348 : (Jvm.Cond.code ({ cls := "PictureMachine$Display", name := "hasRow", desc := "()Z" } : Jvm.MethodName) prog_5_method_8_code (1 : Nat) (Option.some Jvm.ClassFile.FieldType.boolean)) ∈ al := al_in (ck_2 (List.mem_of_getElem? (i := 108) rfl)) (by decide)
theorem m_349 : (Jvm.Cond.methodLink "PictureMachine$Display" (64 : Nat) ({ cls := "PictureMachine$Display", name := "mode", desc := "()I" } : Jvm.MethodName)) ∈ al := al_in (ck_2 (List.mem_of_getElem? (i := 109) (by decide +kernel))) (by decide)
theorem m_351 : (Jvm.Cond.instanceMethod ({ cls := "PictureMachine$Display", name := "mode", desc := "()I" } : Jvm.MethodName)) ∈ al := al_in (ck_2 (List.mem_of_getElem? (i := 111) (by decide +kernel))) (by decide)
theorem m_352 : (Jvm.Cond.code ({ cls := "PictureMachine$Display", name := "mode", desc := "()I" } : Jvm.MethodName) prog_5_method_9_code (1 : Nat) (Option.some Jvm.ClassFile.FieldType.int)) ∈ al := al_in (ck_2 (List.mem_of_getElem? (i := 112) rfl)) (by decide)
theorem m_353 : (Jvm.Cond.methodLink "PictureMachine" (169 : Nat) ({ cls := "PictureMachine$Display", name := "rowsDoneOfPresent", desc := "()I" } : Jvm.MethodName)) ∈ al := al_in (ck_2 (List.mem_of_getElem? (i := 113) (by decide +kernel))) (by decide)
theorem m_354 : (Jvm.Cond.instanceMethod ({ cls := "PictureMachine$Display", name := "rowsDoneOfPresent", desc := "()I" } : Jvm.MethodName)) ∈ al := al_in (ck_2 (List.mem_of_getElem? (i := 114) (by decide +kernel))) (by decide)
theorem m_355 : (Jvm.Cond.selects "PictureMachine$Display" ({ cls := "PictureMachine$Display", name := "rowsDoneOfPresent", desc := "()I" } : Jvm.MethodName) ({ cls := "PictureMachine$Display", name := "rowsDoneOfPresent", desc := "()I" } : Jvm.MethodName)) ∈ al := al_in (ck_2 (List.mem_of_getElem? (i := 115) (by decide +kernel))) (by decide)
theorem m_356 : (Jvm.Cond.code ({ cls := "PictureMachine$Display", name := "rowsDoneOfPresent", desc := "()I" } : Jvm.MethodName) prog_5_method_6_code (1 : Nat) (Option.some Jvm.ClassFile.FieldType.int)) ∈ al := al_in (ck_2 (List.mem_of_getElem? (i := 116) rfl)) (by decide)
theorem m_357 : (Jvm.Cond.methodLink "PictureMachineLaw" (46 : Nat) ({ cls := "PictureMachineLaw", name := "poke", desc := "(LPictureMachine;II)I" } : Jvm.MethodName)) ∈ al := al_in (ck_2 (List.mem_of_getElem? (i := 117) (by decide +kernel))) (by decide)
theorem m_358 : (Jvm.Cond.static ({ cls := "PictureMachineLaw", name := "poke", desc := "(LPictureMachine;II)I" } : Jvm.MethodName)) ∈ al := al_in (ck_2 (List.mem_of_getElem? (i := 118) (by decide +kernel))) (by decide)
theorem m_359 : (Jvm.Cond.codeWith ({ cls := "PictureMachineLaw", name := "poke", desc := "(LPictureMachine;II)I" } : Jvm.MethodName) method_3_code (4 : Nat) (Option.some Jvm.ClassFile.FieldType.int) [((0 : Nat), (6 : Nat), (9 : Nat), (13 : Nat))]) ∈ al := al_in (ck_2 (List.mem_of_getElem? (i := 119) rfl)) (by decide)
theorem m_360 : (Jvm.Cond.classLink "PictureMachineLaw" (13 : Nat) "java/lang/IllegalArgumentException") ∈ al := al_in (ck_2 (List.mem_of_getElem? (i := 120) (by decide +kernel))) (by decide)
theorem m_361 : (Jvm.Cond.methodLink "PictureMachineLaw" (7 : Nat) ({ cls := "PictureMachine", name := "poke", desc := "(II)V" } : Jvm.MethodName)) ∈ al := al_in (ck_2 (List.mem_of_getElem? (i := 121) (by decide +kernel))) (by decide)
theorem m_362 : (Jvm.Cond.instanceMethod ({ cls := "PictureMachine", name := "poke", desc := "(II)V" } : Jvm.MethodName)) ∈ al := al_in (ck_2 (List.mem_of_getElem? (i := 122) (by decide +kernel))) (by decide)
theorem m_363 : (Jvm.Cond.selects "PictureMachine" ({ cls := "PictureMachine", name := "poke", desc := "(II)V" } : Jvm.MethodName) ({ cls := "PictureMachine", name := "poke", desc := "(II)V" } : Jvm.MethodName)) ∈ al := al_in (ck_2 (List.mem_of_getElem? (i := 123) (by decide +kernel))) (by decide)
theorem m_364 : (Jvm.Cond.code ({ cls := "PictureMachine", name := "poke", desc := "(II)V" } : Jvm.MethodName) prog_1_method_2_code (3 : Nat) (Option.none : Option Jvm.ClassFile.FieldType)) ∈ al := al_in (ck_2 (List.mem_of_getElem? (i := 124) rfl)) (by decide)
theorem m_365 : (Jvm.Cond.methodLink "PictureMachine" (25 : Nat) ({ cls := "PictureMachine", name := "isMemory", desc := "(I)Z" } : Jvm.MethodName)) ∈ al := al_in (ck_2 (List.mem_of_getElem? (i := 125) (by decide +kernel))) (by decide)
theorem m_366 : (Jvm.Cond.static ({ cls := "PictureMachine", name := "isMemory", desc := "(I)Z" } : Jvm.MethodName)) ∈ al := al_in (ck_2 (List.mem_of_getElem? (i := 126) (by decide +kernel))) (by decide)
theorem m_367 : (Jvm.Cond.code ({ cls := "PictureMachine", name := "isMemory", desc := "(I)Z" } : Jvm.MethodName) prog_1_method_15_code (1 : Nat) (Option.some Jvm.ClassFile.FieldType.boolean)) ∈ al := al_in (ck_2 (List.mem_of_getElem? (i := 127) rfl)) (by decide)
theorem m_368 : (Jvm.Cond.methodLink "PictureMachine" (29 : Nat) ({ cls := "PictureMachine", name := "isByte", desc := "(I)Z" } : Jvm.MethodName)) ∈ al := al_in (ck_2 (List.mem_of_getElem? (i := 128) (by decide +kernel))) (by decide)
theorem m_369 : (Jvm.Cond.static ({ cls := "PictureMachine", name := "isByte", desc := "(I)Z" } : Jvm.MethodName)) ∈ al := al_in (ck_2 (List.mem_of_getElem? (i := 129) (by decide +kernel))) (by decide)
theorem m_370 : (Jvm.Cond.code ({ cls := "PictureMachine", name := "isByte", desc := "(I)Z" } : Jvm.MethodName) prog_1_method_16_code (1 : Nat) (Option.some Jvm.ClassFile.FieldType.boolean)) ∈ al := al_in (ck_2 (List.mem_of_getElem? (i := 130) rfl)) (by decide)
theorem m_371 : (Jvm.Cond.methodLink "PictureMachine" (32 : Nat) ({ cls := "PictureMachine", name := "need", desc := "(Z)V" } : Jvm.MethodName)) ∈ al := al_in (ck_2 (List.mem_of_getElem? (i := 131) (by decide +kernel))) (by decide)
theorem m_372 : (Jvm.Cond.static ({ cls := "PictureMachine", name := "need", desc := "(Z)V" } : Jvm.MethodName)) ∈ al := al_in (ck_2 (List.mem_of_getElem? (i := 132) (by decide +kernel))) (by decide)
theorem m_373 : (Jvm.Cond.code ({ cls := "PictureMachine", name := "need", desc := "(Z)V" } : Jvm.MethodName) prog_1_method_14_code (1 : Nat) (Option.none : Option Jvm.ClassFile.FieldType)) ∈ al := al_in (ck_2 (List.mem_of_getElem? (i := 133) rfl)) (by decide)
theorem m_374 : (Jvm.Cond.classLink "PictureMachine" (233 : Nat) "java/lang/IllegalArgumentException") ∈ al := al_in (ck_2 (List.mem_of_getElem? (i := 134) (by decide +kernel))) (by decide)
theorem m_375 : (Jvm.Cond.instantiable "java/lang/IllegalArgumentException" (6 : Nat)) ∈ al := al_in (ck_2 (List.mem_of_getElem? (i := 135) (by decide +kernel))) (by decide)
theorem m_383 : (Jvm.Cond.selects "java/lang/IllegalArgumentException" ({ cls := "java/lang/Throwable", name := "fillInStackTrace", desc := "(I)Ljava/lang/Throwable;" } : Jvm.MethodName) ({ cls := "java/lang/Throwable", name := "fillInStackTrace", desc := "(I)Ljava/lang/Throwable;" } : Jvm.MethodName)) ∈ al := al_in (ck_2 (List.mem_of_getElem? (i := 143) (by decide +kernel))) (by decide)
theorem m_384 : (Jvm.Cond.selects "java/lang/IllegalArgumentException" ({ cls := "java/lang/Throwable", name := "fillInStackTrace", desc := "()Ljava/lang/Throwable;" } : Jvm.MethodName) ({ cls := "java/lang/Throwable", name := "fillInStackTrace", desc := "()Ljava/lang/Throwable;" } : Jvm.MethodName)) ∈ al := al_in (ck_2 (List.mem_of_getElem? (i := 144) (by decide +kernel))) (by decide)
theorem m_395 : (Jvm.Cond.fieldLink "java/lang/Throwable" (198 : Nat) "java/lang/Throwable" "backtrace" "Ljava/lang/Object;") ∈ al := al_in (ck_2 (List.mem_of_getElem? (i := 155) (by decide +kernel))) (by decide)
theorem m_397 : (Jvm.Cond.instanceMethod ({ cls := "java/lang/Throwable", name := "<init>", desc := "()V" } : Jvm.MethodName)) ∈ al := al_in (ck_2 (List.mem_of_getElem? (i := 157) (by decide +kernel))) (by decide)
theorem m_398 : (Jvm.Cond.code ({ cls := "java/lang/Throwable", name := "<init>", desc := "()V" } : Jvm.MethodName) prog_18_method_1_code (1 : Nat) (Option.none : Option Jvm.ClassFile.FieldType)) ∈ al := al_in (ck_2 (List.mem_of_getElem? (i := 158) rfl)) (by decide)
theorem m_399 : (Jvm.Cond.methodLink "java/lang/Throwable" (1 : Nat) ({ cls := "java/lang/Object", name := "<init>", desc := "()V" } : Jvm.MethodName)) ∈ al := al_in (ck_2 (List.mem_of_getElem? (i := 159) (by decide +kernel))) (by decide)
theorem m_400 : (Jvm.Cond.fieldLink "java/lang/Throwable" (13 : Nat) "java/lang/Throwable" "UNASSIGNED_STACK" "[Ljava/lang/StackTraceElement;") ∈ al := al_in (ck_2 (List.mem_of_getElem? (i := 160) (by decide +kernel))) (by decide)
theorem m_402 : (Jvm.Cond.fieldLink "java/lang/Throwable" (20 : Nat) "java/lang/Throwable" "SUPPRESSED_SENTINEL" "Ljava/util/List;") ∈ al := al_in (ck_2 (List.mem_of_getElem? (i := 162) (by decide +kernel))) (by decide)
theorem m_404 : (Jvm.Cond.methodLink "java/lang/Throwable" (27 : Nat) ({ cls := "java/lang/Throwable", name := "fillInStackTrace", desc := "()Ljava/lang/Throwable;" } : Jvm.MethodName)) ∈ al := al_in (ck_2 (List.mem_of_getElem? (i := 164) (by decide +kernel))) (by decide)
theorem m_405 : (Jvm.Cond.instanceMethod ({ cls := "java/lang/Throwable", name := "fillInStackTrace", desc := "()Ljava/lang/Throwable;" } : Jvm.MethodName)) ∈ al := al_in (ck_2 (List.mem_of_getElem? (i := 165) (by decide +kernel))) (by decide)
theorem m_407 : (Jvm.Cond.selects "java/lang/IndexOutOfBoundsException" ({ cls := "java/lang/Throwable", name := "fillInStackTrace", desc := "()Ljava/lang/Throwable;" } : Jvm.MethodName) ({ cls := "java/lang/Throwable", name := "fillInStackTrace", desc := "()Ljava/lang/Throwable;" } : Jvm.MethodName)) ∈ al := al_in (ck_2 (List.mem_of_getElem? (i := 167) (by decide +kernel))) (by decide)
theorem m_409 : (Jvm.Cond.methodLink "java/lang/Throwable" (202 : Nat) ({ cls := "java/lang/Throwable", name := "fillInStackTrace", desc := "(I)Ljava/lang/Throwable;" } : Jvm.MethodName)) ∈ al := al_in (ck_2 (List.mem_of_getElem? (i := 169) (by decide +kernel))) (by decide)
theorem m_411 : (Jvm.Cond.instanceMethod ({ cls := "java/lang/Throwable", name := "fillInStackTrace", desc := "(I)Ljava/lang/Throwable;" } : Jvm.MethodName)) ∈ al := al_in (ck_2 (List.mem_of_getElem? (i := 171) (by decide +kernel))) (by decide)
theorem m_412 : (Jvm.Cond.instantiable "java/lang/Throwable" (6 : Nat)) ∈ al := al_in (ck_2 (List.mem_of_getElem? (i := 172) (by decide +kernel))) (by decide)
theorem m_413 : (Jvm.Cond.native ({ cls := "java/lang/Throwable", name := "fillInStackTrace", desc := "(I)Ljava/lang/Throwable;" } : Jvm.MethodName)) ∈ al := al_in (ck_2 (List.mem_of_getElem? (i := 173) (by decide +kernel))) (by decide)
theorem m_414 : (Jvm.Cond.methodLink "PictureMachine" (235 : Nat) ({ cls := "java/lang/IllegalArgumentException", name := "<init>", desc := "()V" } : Jvm.MethodName)) ∈ al := al_in (ck_2 (List.mem_of_getElem? (i := 174) (by decide +kernel))) (by decide)
theorem m_415 : (Jvm.Cond.instanceMethod ({ cls := "java/lang/IllegalArgumentException", name := "<init>", desc := "()V" } : Jvm.MethodName)) ∈ al := al_in (ck_2 (List.mem_of_getElem? (i := 175) (by decide +kernel))) (by decide)
theorem m_416 : (Jvm.Cond.code ({ cls := "java/lang/IllegalArgumentException", name := "<init>", desc := "()V" } : Jvm.MethodName) prog_14_method_1_code (1 : Nat) (Option.none : Option Jvm.ClassFile.FieldType)) ∈ al := al_in (ck_2 (List.mem_of_getElem? (i := 176) rfl)) (by decide)
theorem m_417 : (Jvm.Cond.methodLink "java/lang/IllegalArgumentException" (1 : Nat) ({ cls := "java/lang/RuntimeException", name := "<init>", desc := "()V" } : Jvm.MethodName)) ∈ al := al_in (ck_2 (List.mem_of_getElem? (i := 177) (by decide +kernel))) (by decide)
theorem m_418 : (Jvm.Cond.instanceMethod ({ cls := "java/lang/RuntimeException", name := "<init>", desc := "()V" } : Jvm.MethodName)) ∈ al := al_in (ck_2 (List.mem_of_getElem? (i := 178) (by decide +kernel))) (by decide)
theorem m_419 : (Jvm.Cond.code ({ cls := "java/lang/RuntimeException", name := "<init>", desc := "()V" } : Jvm.MethodName) prog_16_method_1_code (1 : Nat) (Option.none : Option Jvm.ClassFile.FieldType)) ∈ al := al_in (ck_2 (List.mem_of_getElem? (i := 179) rfl)) (by decide)
theorem m_420 : (Jvm.Cond.methodLink "java/lang/RuntimeException" (1 : Nat) ({ cls := "java/lang/Exception", name := "<init>", desc := "()V" } : Jvm.MethodName)) ∈ al := al_in (ck_2 (List.mem_of_getElem? (i := 180) (by decide +kernel))) (by decide)
theorem m_421 : (Jvm.Cond.instanceMethod ({ cls := "java/lang/Exception", name := "<init>", desc := "()V" } : Jvm.MethodName)) ∈ al := al_in (ck_2 (List.mem_of_getElem? (i := 181) (by decide +kernel))) (by decide)
theorem m_422 : (Jvm.Cond.code ({ cls := "java/lang/Exception", name := "<init>", desc := "()V" } : Jvm.MethodName) prog_13_method_1_code (1 : Nat) (Option.none : Option Jvm.ClassFile.FieldType)) ∈ al := al_in (ck_2 (List.mem_of_getElem? (i := 182) rfl)) (by decide)
theorem m_423 : (Jvm.Cond.methodLink "java/lang/Exception" (1 : Nat) ({ cls := "java/lang/Throwable", name := "<init>", desc := "()V" } : Jvm.MethodName)) ∈ al := al_in (ck_2 (List.mem_of_getElem? (i := 183) (by decide +kernel))) (by decide)
theorem m_424 : (Jvm.Cond.fieldLink "java/lang/Throwable" (198 : Nat) "java/lang/Throwable" "backtrace" "Ljava/lang/Object;") ∈ al := al_in (ck_2 (List.mem_of_getElem? (i := 184) (by decide +kernel))) (by decide)
theorem m_425 : (Jvm.Cond.fieldLink "java/lang/Throwable" (7 : Nat) "java/lang/Throwable" "cause" "Ljava/lang/Throwable;") ∈ al := al_in (ck_2 (List.mem_of_getElem? (i := 185) (by decide +kernel))) (by decide)
theorem m_426 : (Jvm.Cond.fieldLink "java/lang/Throwable" (17 : Nat) "java/lang/Throwable" "stackTrace" "[Ljava/lang/StackTraceElement;") ∈ al := al_in (ck_2 (List.mem_of_getElem? (i := 186) (by decide +kernel))) (by decide)
theorem m_427 : (Jvm.Cond.fieldLink "java/lang/Throwable" (24 : Nat) "java/lang/Throwable" "suppressedExceptions" "Ljava/util/List;") ∈ al := al_in (ck_2 (List.mem_of_getElem? (i := 187) (by decide +kernel))) (by decide)
theorem m_436 : (Jvm.Cond.methodLink "PictureMachine" (40 : Nat) ({ cls := "PictureMachine$Memory", name := "put", desc := "(II)V" } : Jvm.MethodName)) ∈ al := al_in (ck_2 (List.mem_of_getElem? (i := 196) (by decide +kernel))) (by decide)
theorem m_437 : (Jvm.Cond.instanceMethod ({ cls := "PictureMachine$Memory", name := "put", desc := "(II)V" } : Jvm.MethodName)) ∈ al := al_in (ck_2 (List.mem_of_getElem? (i := 197) (by decide +kernel))) (by decide)
theorem m_438 : (Jvm.Cond.selects "PictureMachine$Memory" ({ cls := "PictureMachine$Memory", name := "put", desc := "(II)V" } : Jvm.MethodName) ({ cls := "PictureMachine$Memory", name := "put", desc := "(II)V" } : Jvm.MethodName)) ∈ al := al_in (ck_2 (List.mem_of_getElem? (i := 198) (by decide +kernel))) (by decide)
theorem m_439 : (Jvm.Cond.code ({ cls := "PictureMachine$Memory", name := "put", desc := "(II)V" } : Jvm.MethodName) prog_7_method_3_code (4 : Nat) (Option.none : Option Jvm.ClassFile.FieldType)) ∈ al := al_in (ck_2 (List.mem_of_getElem? (i := 199) rfl)) (by decide)
theorem m_440 : (Jvm.Cond.methodLink "PictureMachineLaw" (56 : Nat) ({ cls := "PictureMachineLaw", name := "peek", desc := "(LPictureMachine;I[J)I" } : Jvm.MethodName)) ∈ al := al_in (ck_2 (List.mem_of_getElem? (i := 200) (by decide +kernel))) (by decide)
theorem m_441 : (Jvm.Cond.static ({ cls := "PictureMachineLaw", name := "peek", desc := "(LPictureMachine;I[J)I" } : Jvm.MethodName)) ∈ al := al_in (ck_2 (List.mem_of_getElem? (i := 201) (by decide +kernel))) (by decide)
theorem m_442 : (Jvm.Cond.codeWith ({ cls := "PictureMachineLaw", name := "peek", desc := "(LPictureMachine;I[J)I" } : Jvm.MethodName) method_4_code (4 : Nat) (Option.some Jvm.ClassFile.FieldType.int) [((0 : Nat), (9 : Nat), (12 : Nat), (13 : Nat))]) ∈ al := al_in (ck_2 (List.mem_of_getElem? (i := 202) rfl)) (by decide)
theorem m_443 : (Jvm.Cond.methodLink "PictureMachineLaw" (15 : Nat) ({ cls := "PictureMachine", name := "peek", desc := "(I)I" } : Jvm.MethodName)) ∈ al := al_in (ck_2 (List.mem_of_getElem? (i := 203) (by decide +kernel))) (by decide)
theorem m_444 : (Jvm.Cond.instanceMethod ({ cls := "PictureMachine", name := "peek", desc := "(I)I" } : Jvm.MethodName)) ∈ al := al_in (ck_2 (List.mem_of_getElem? (i := 204) (by decide +kernel))) (by decide)
theorem m_445 : (Jvm.Cond.selects "PictureMachine" ({ cls := "PictureMachine", name := "peek", desc := "(I)I" } : Jvm.MethodName) ({ cls := "PictureMachine", name := "peek", desc := "(I)I" } : Jvm.MethodName)) ∈ al := al_in (ck_2 (List.mem_of_getElem? (i := 205) (by decide +kernel))) (by decide)
theorem m_446 : (Jvm.Cond.code ({ cls := "PictureMachine", name := "peek", desc := "(I)I" } : Jvm.MethodName) prog_1_method_3_code (2 : Nat) (Option.some Jvm.ClassFile.FieldType.int)) ∈ al := al_in (ck_2 (List.mem_of_getElem? (i := 206) rfl)) (by decide)
theorem m_447 : (Jvm.Cond.methodLink "PictureMachine" (46 : Nat) ({ cls := "PictureMachine$Memory", name := "at", desc := "(I)I" } : Jvm.MethodName)) ∈ al := al_in (ck_2 (List.mem_of_getElem? (i := 207) (by decide +kernel))) (by decide)
theorem m_448 : (Jvm.Cond.instanceMethod ({ cls := "PictureMachine$Memory", name := "at", desc := "(I)I" } : Jvm.MethodName)) ∈ al := al_in (ck_2 (List.mem_of_getElem? (i := 208) (by decide +kernel))) (by decide)
theorem m_449 : (Jvm.Cond.selects "PictureMachine$Memory" ({ cls := "PictureMachine$Memory", name := "at", desc := "(I)I" } : Jvm.MethodName) ({ cls := "PictureMachine$Memory", name := "at", desc := "(I)I" } : Jvm.MethodName)) ∈ al := al_in (ck_2 (List.mem_of_getElem? (i := 209) (by decide +kernel))) (by decide)
theorem m_450 : (Jvm.Cond.code ({ cls := "PictureMachine$Memory", name := "at", desc := "(I)I" } : Jvm.MethodName) prog_7_method_2_code (3 : Nat) (Option.some Jvm.ClassFile.FieldType.int)) ∈ al := al_in (ck_2 (List.mem_of_getElem? (i := 210) rfl)) (by decide)
theorem m_451 : (Jvm.Cond.methodLink "PictureMachineLaw" (60 : Nat) ({ cls := "PictureMachineLaw", name := "write", desc := "(LPictureMachine;II)I" } : Jvm.MethodName)) ∈ al := al_in (ck_2 (List.mem_of_getElem? (i := 211) (by decide +kernel))) (by decide)
theorem m_452 : (Jvm.Cond.static ({ cls := "PictureMachineLaw", name := "write", desc := "(LPictureMachine;II)I" } : Jvm.MethodName)) ∈ al := al_in (ck_2 (List.mem_of_getElem? (i := 212) (by decide +kernel))) (by decide)
theorem m_453 : (Jvm.Cond.codeWith ({ cls := "PictureMachineLaw", name := "write", desc := "(LPictureMachine;II)I" } : Jvm.MethodName) method_5_code (4 : Nat) (Option.some Jvm.ClassFile.FieldType.int) [((0 : Nat), (6 : Nat), (9 : Nat), (13 : Nat))]) ∈ al := al_in (ck_2 (List.mem_of_getElem? (i := 213) rfl)) (by decide)
theorem m_454 : (Jvm.Cond.methodLink "PictureMachineLaw" (19 : Nat) ({ cls := "PictureMachine", name := "write", desc := "(II)V" } : Jvm.MethodName)) ∈ al := al_in (ck_2 (List.mem_of_getElem? (i := 214) (by decide +kernel))) (by decide)
theorem m_455 : (Jvm.Cond.instanceMethod ({ cls := "PictureMachine", name := "write", desc := "(II)V" } : Jvm.MethodName)) ∈ al := al_in (ck_2 (List.mem_of_getElem? (i := 215) (by decide +kernel))) (by decide)
theorem m_456 : (Jvm.Cond.selects "PictureMachine" ({ cls := "PictureMachine", name := "write", desc := "(II)V" } : Jvm.MethodName) ({ cls := "PictureMachine", name := "write", desc := "(II)V" } : Jvm.MethodName)) ∈ al := al_in (ck_2 (List.mem_of_getElem? (i := 216) (by decide +kernel))) (by decide)
theorem m_457 : (Jvm.Cond.code ({ cls := "PictureMachine", name := "write", desc := "(II)V" } : Jvm.MethodName) prog_1_method_4_code (3 : Nat) (Option.none : Option Jvm.ClassFile.FieldType)) ∈ al := al_in (ck_2 (List.mem_of_getElem? (i := 217) rfl)) (by decide)
theorem m_458 : (Jvm.Cond.methodLink "PictureMachine" (50 : Nat) ({ cls := "PictureMachine$Board", name := "store", desc := "(II)V" } : Jvm.MethodName)) ∈ al := al_in (ck_2 (List.mem_of_getElem? (i := 218) (by decide +kernel))) (by decide)
theorem m_459 : (Jvm.Cond.instanceMethod ({ cls := "PictureMachine$Board", name := "store", desc := "(II)V" } : Jvm.MethodName)) ∈ al := al_in (ck_2 (List.mem_of_getElem? (i := 219) (by decide +kernel))) (by decide)
theorem m_460 : (Jvm.Cond.selects "PictureMachine$Board" ({ cls := "PictureMachine$Board", name := "store", desc := "(II)V" } : Jvm.MethodName) ({ cls := "PictureMachine$Board", name := "store", desc := "(II)V" } : Jvm.MethodName)) ∈ al := al_in (ck_2 (List.mem_of_getElem? (i := 220) (by decide +kernel))) (by decide)
theorem m_461 : (Jvm.Cond.code ({ cls := "PictureMachine$Board", name := "store", desc := "(II)V" } : Jvm.MethodName) prog_2_method_3_code (5 : Nat) (Option.none : Option Jvm.ClassFile.FieldType)) ∈ al := al_in (ck_2 (List.mem_of_getElem? (i := 221) rfl)) (by decide)
theorem m_462 : (Jvm.Cond.methodLink "PictureMachine$Board" (110 : Nat) ({ cls := "PictureMachine$Picture", name := "forgetCollisions", desc := "()V" } : Jvm.MethodName)) ∈ al := al_in (ck_2 (List.mem_of_getElem? (i := 222) (by decide +kernel))) (by decide)
theorem m_463 : (Jvm.Cond.instanceMethod ({ cls := "PictureMachine$Picture", name := "forgetCollisions", desc := "()V" } : Jvm.MethodName)) ∈ al := al_in (ck_2 (List.mem_of_getElem? (i := 223) (by decide +kernel))) (by decide)
theorem m_464 : (Jvm.Cond.selects "PictureMachine$Picture" ({ cls := "PictureMachine$Picture", name := "forgetCollisions", desc := "()V" } : Jvm.MethodName) ({ cls := "PictureMachine$Picture", name := "forgetCollisions", desc := "()V" } : Jvm.MethodName)) ∈ al := al_in (ck_2 (List.mem_of_getElem? (i := 224) (by decide +kernel))) (by decide)
theorem m_465 : (Jvm.Cond.code ({ cls := "PictureMachine$Picture", name := "forgetCollisions", desc := "()V" } : Jvm.MethodName) prog_8_method_3_code (1 : Nat) (Option.none : Option Jvm.ClassFile.FieldType)) ∈ al := al_in (ck_2 (List.mem_of_getElem? (i := 225) rfl)) (by decide)
theorem m_466 : (Jvm.Cond.methodLink "PictureMachine$Board" (113 : Nat) ({ cls := "PictureMachine$Chance", name := "startTimer", desc := "()V" } : Jvm.MethodName)) ∈ al := al_in (ck_2 (List.mem_of_getElem? (i := 226) (by decide +kernel))) (by decide)
theorem m_467 : (Jvm.Cond.instanceMethod ({ cls := "PictureMachine$Chance", name := "startTimer", desc := "()V" } : Jvm.MethodName)) ∈ al := al_in (ck_2 (List.mem_of_getElem? (i := 227) (by decide +kernel))) (by decide)
theorem m_468 : (Jvm.Cond.selects "PictureMachine$Chance" ({ cls := "PictureMachine$Chance", name := "startTimer", desc := "()V" } : Jvm.MethodName) ({ cls := "PictureMachine$Chance", name := "startTimer", desc := "()V" } : Jvm.MethodName)) ∈ al := al_in (ck_2 (List.mem_of_getElem? (i := 228) (by decide +kernel))) (by decide)
theorem m_469 : (Jvm.Cond.code ({ cls := "PictureMachine$Chance", name := "startTimer", desc := "()V" } : Jvm.MethodName) prog_3_method_3_code (1 : Nat) (Option.none : Option Jvm.ClassFile.FieldType)) ∈ al := al_in (ck_2 (List.mem_of_getElem? (i := 229) rfl)) (by decide)
theorem m_470 : (Jvm.Cond.methodLink "PictureMachine$Board" (116 : Nat) ({ cls := "PictureMachine$Drive", name := "gather", desc := "(I)V" } : Jvm.MethodName)) ∈ al := al_in (ck_2 (List.mem_of_getElem? (i := 230) (by decide +kernel))) (by decide)
theorem m_471 : (Jvm.Cond.instanceMethod ({ cls := "PictureMachine$Drive", name := "gather", desc := "(I)V" } : Jvm.MethodName)) ∈ al := al_in (ck_2 (List.mem_of_getElem? (i := 231) (by decide +kernel))) (by decide)
theorem m_472 : (Jvm.Cond.selects "PictureMachine$Drive" ({ cls := "PictureMachine$Drive", name := "gather", desc := "(I)V" } : Jvm.MethodName) ({ cls := "PictureMachine$Drive", name := "gather", desc := "(I)V" } : Jvm.MethodName)) ∈ al := al_in (ck_2 (List.mem_of_getElem? (i := 232) (by decide +kernel))) (by decide)
theorem m_473 : (Jvm.Cond.code ({ cls := "PictureMachine$Drive", name := "gather", desc := "(I)V" } : Jvm.MethodName) prog_6_method_4_code (3 : Nat) (Option.none : Option Jvm.ClassFile.FieldType)) ∈ al := al_in (ck_2 (List.mem_of_getElem? (i := 233) rfl)) (by decide)
theorem m_474 : (Jvm.Cond.methodLink "PictureMachine$Drive" (36 : Nat) ({ cls := "PictureMachine$Drive", name := "storeSector", desc := "()V" } : Jvm.MethodName)) ∈ al := al_in (ck_2 (List.mem_of_getElem? (i := 234) (by decide +kernel))) (by decide)
theorem m_476 : (Jvm.Cond.instanceMethod ({ cls := "PictureMachine$Drive", name := "storeSector", desc := "()V" } : Jvm.MethodName)) ∈ al := al_in (ck_2 (List.mem_of_getElem? (i := 236) (by decide +kernel))) (by decide)
theorem m_477 : (Jvm.Cond.code ({ cls := "PictureMachine$Drive", name := "storeSector", desc := "()V" } : Jvm.MethodName) prog_6_method_8_code (1 : Nat) (Option.none : Option Jvm.ClassFile.FieldType)) ∈ al := al_in (ck_2 (List.mem_of_getElem? (i := 237) rfl)) (by decide)
theorem m_478 : (Jvm.Cond.methodLink "PictureMachine$Drive" (54 : Nat) ({ cls := "PictureMachine$Drive", name := "sum", desc := "([III)I" } : Jvm.MethodName)) ∈ al := al_in (ck_2 (List.mem_of_getElem? (i := 238) (by decide +kernel))) (by decide)
theorem m_479 : (Jvm.Cond.static ({ cls := "PictureMachine$Drive", name := "sum", desc := "([III)I" } : Jvm.MethodName)) ∈ al := al_in (ck_2 (List.mem_of_getElem? (i := 239) (by decide +kernel))) (by decide)
theorem m_480 : (Jvm.Cond.code ({ cls := "PictureMachine$Drive", name := "sum", desc := "([III)I" } : Jvm.MethodName) prog_6_method_11_code (5 : Nat) (Option.some Jvm.ClassFile.FieldType.int)) ∈ al := al_in (ck_3 (List.mem_of_getElem? (i := 0) rfl)) (by decide)
theorem m_481 : (Jvm.Cond.methodLink "PictureMachine$Drive" (62 : Nat) ({ cls := "PictureMachine$Drive", name := "answer", desc := "(I)V" } : Jvm.MethodName)) ∈ al := al_in (ck_3 (List.mem_of_getElem? (i := 1) (by decide +kernel))) (by decide)
theorem m_483 : (Jvm.Cond.instanceMethod ({ cls := "PictureMachine$Drive", name := "answer", desc := "(I)V" } : Jvm.MethodName)) ∈ al := al_in (ck_3 (List.mem_of_getElem? (i := 3) (by decide +kernel))) (by decide)
theorem m_484 : (Jvm.Cond.code ({ cls := "PictureMachine$Drive", name := "answer", desc := "(I)V" } : Jvm.MethodName) prog_6_method_9_code (2 : Nat) (Option.none : Option Jvm.ClassFile.FieldType)) ∈ al := al_in (ck_3 (List.mem_of_getElem? (i := 4) rfl)) (by decide)
theorem m_485 : (Jvm.Cond.methodLink "PictureMachine$Drive" (25 : Nat) ({ cls := "PictureMachine$Drive", name := "firstByteOf", desc := "(I)I" } : Jvm.MethodName)) ∈ al := al_in (ck_3 (List.mem_of_getElem? (i := 5) (by decide +kernel))) (by decide)
theorem m_486 : (Jvm.Cond.static ({ cls := "PictureMachine$Drive", name := "firstByteOf", desc := "(I)I" } : Jvm.MethodName)) ∈ al := al_in (ck_3 (List.mem_of_getElem? (i := 6) (by decide +kernel))) (by decide)
theorem m_487 : (Jvm.Cond.code ({ cls := "PictureMachine$Drive", name := "firstByteOf", desc := "(I)I" } : Jvm.MethodName) prog_6_method_10_code (1 : Nat) (Option.some Jvm.ClassFile.FieldType.int)) ∈ al := al_in (ck_3 (List.mem_of_getElem? (i := 7) rfl)) (by decide)
theorem m_488 : (Jvm.Cond.methodLink "PictureMachine$Drive" (66 : Nat) ({ cls := "java/lang/System", name := "arraycopy", desc := "(Ljava/lang/Object;ILjava/lang/Object;II)V" } : Jvm.MethodName)) ∈ al := al_in (ck_3 (List.mem_of_getElem? (i := 8) (by decide +kernel))) (by decide)
theorem m_489 : (Jvm.Cond.static ({ cls := "java/lang/System", name := "arraycopy", desc := "(Ljava/lang/Object;ILjava/lang/Object;II)V" } : Jvm.MethodName)) ∈ al := al_in (ck_3 (List.mem_of_getElem? (i := 9) (by decide +kernel))) (by decide)
theorem m_490 : (Jvm.Cond.native ({ cls := "java/lang/System", name := "arraycopy", desc := "(Ljava/lang/Object;ILjava/lang/Object;II)V" } : Jvm.MethodName)) ∈ al := al_in (ck_3 (List.mem_of_getElem? (i := 10) (by decide +kernel))) (by decide)
theorem m_491 : (Jvm.Cond.methodLink "PictureMachine$Drive" (39 : Nat) ({ cls := "PictureMachine$Drive", name := "obeyCommand", desc := "()V" } : Jvm.MethodName)) ∈ al := al_in (ck_3 (List.mem_of_getElem? (i := 11) (by decide +kernel))) (by decide)
theorem m_493 : (Jvm.Cond.instanceMethod ({ cls := "PictureMachine$Drive", name := "obeyCommand", desc := "()V" } : Jvm.MethodName)) ∈ al := al_in (ck_3 (List.mem_of_getElem? (i := 13) (by decide +kernel))) (by decide)
theorem m_494 : (Jvm.Cond.code ({ cls := "PictureMachine$Drive", name := "obeyCommand", desc := "()V" } : Jvm.MethodName) prog_6_method_7_code (4 : Nat) (Option.none : Option Jvm.ClassFile.FieldType)) ∈ al := al_in (ck_3 (List.mem_of_getElem? (i := 14) rfl)) (by decide)
theorem m_495 : (Jvm.Cond.methodLinkNest "PictureMachine$Drive" (58 : Nat) ({ cls := "PictureMachine", name := "isPlaceOnDisk", desc := "(II)Z" } : Jvm.MethodName) "PictureMachine") ∈ nw := nw_in (ck_3 (List.mem_of_getElem? (i := 15) (by decide +kernel))) (by decide)
theorem m_496 : (Jvm.Cond.static ({ cls := "PictureMachine", name := "isPlaceOnDisk", desc := "(II)Z" } : Jvm.MethodName)) ∈ al := al_in (ck_3 (List.mem_of_getElem? (i := 16) (by decide +kernel))) (by decide)
theorem m_497 : (Jvm.Cond.code ({ cls := "PictureMachine", name := "isPlaceOnDisk", desc := "(II)Z" } : Jvm.MethodName) prog_1_method_17_code (2 : Nat) (Option.some Jvm.ClassFile.FieldType.boolean)) ∈ al := al_in (ck_3 (List.mem_of_getElem? (i := 17) rfl)) (by decide)
theorem m_498 : (Jvm.Cond.methodLink "PictureMachineLaw" (63 : Nat) ({ cls := "PictureMachineLaw", name := "disk", desc := "(LPictureMachine;III)I" } : Jvm.MethodName)) ∈ al := al_in (ck_3 (List.mem_of_getElem? (i := 18) (by decide +kernel))) (by decide)
theorem m_499 : (Jvm.Cond.static ({ cls := "PictureMachineLaw", name := "disk", desc := "(LPictureMachine;III)I" } : Jvm.MethodName)) ∈ al := al_in (ck_3 (List.mem_of_getElem? (i := 19) (by decide +kernel))) (by decide)
theorem m_500 : (Jvm.Cond.codeWith ({ cls := "PictureMachineLaw", name := "disk", desc := "(LPictureMachine;III)I" } : Jvm.MethodName) method_6_code (5 : Nat) (Option.some Jvm.ClassFile.FieldType.int) [((0 : Nat), (7 : Nat), (10 : Nat), (13 : Nat))]) ∈ al := al_in (ck_3 (List.mem_of_getElem? (i := 20) rfl)) (by decide)
theorem m_501 : (Jvm.Cond.methodLink "PictureMachineLaw" (22 : Nat) ({ cls := "PictureMachine", name := "disk", desc := "(III)V" } : Jvm.MethodName)) ∈ al := al_in (ck_3 (List.mem_of_getElem? (i := 21) (by decide +kernel))) (by decide)
theorem m_502 : (Jvm.Cond.instanceMethod ({ cls := "PictureMachine", name := "disk", desc := "(III)V" } : Jvm.MethodName)) ∈ al := al_in (ck_3 (List.mem_of_getElem? (i := 22) (by decide +kernel))) (by decide)
theorem m_503 : (Jvm.Cond.selects "PictureMachine" ({ cls := "PictureMachine", name := "disk", desc := "(III)V" } : Jvm.MethodName) ({ cls := "PictureMachine", name := "disk", desc := "(III)V" } : Jvm.MethodName)) ∈ al := al_in (ck_3 (List.mem_of_getElem? (i := 23) (by decide +kernel))) (by decide)
theorem m_504 : (Jvm.Cond.code ({ cls := "PictureMachine", name := "disk", desc := "(III)V" } : Jvm.MethodName) prog_1_method_5_code (4 : Nat) (Option.none : Option Jvm.ClassFile.FieldType)) ∈ al := al_in (ck_3 (List.mem_of_getElem? (i := 24) rfl)) (by decide)
theorem m_505 : (Jvm.Cond.methodLink "PictureMachine" (53 : Nat) ({ cls := "PictureMachine", name := "isPlaceOnDisk", desc := "(II)Z" } : Jvm.MethodName)) ∈ al := al_in (ck_3 (List.mem_of_getElem? (i := 25) (by decide +kernel))) (by decide)
theorem m_506 : (Jvm.Cond.methodLink "PictureMachine" (61 : Nat) ({ cls := "PictureMachine$Drive", name := "putByte", desc := "(III)V" } : Jvm.MethodName)) ∈ al := al_in (ck_3 (List.mem_of_getElem? (i := 26) (by decide +kernel))) (by decide)
theorem m_507 : (Jvm.Cond.instanceMethod ({ cls := "PictureMachine$Drive", name := "putByte", desc := "(III)V" } : Jvm.MethodName)) ∈ al := al_in (ck_3 (List.mem_of_getElem? (i := 27) (by decide +kernel))) (by decide)
theorem m_508 : (Jvm.Cond.selects "PictureMachine$Drive" ({ cls := "PictureMachine$Drive", name := "putByte", desc := "(III)V" } : Jvm.MethodName) ({ cls := "PictureMachine$Drive", name := "putByte", desc := "(III)V" } : Jvm.MethodName)) ∈ al := al_in (ck_3 (List.mem_of_getElem? (i := 28) (by decide +kernel))) (by decide)
theorem m_509 : (Jvm.Cond.code ({ cls := "PictureMachine$Drive", name := "putByte", desc := "(III)V" } : Jvm.MethodName) prog_6_method_3_code (4 : Nat) (Option.none : Option Jvm.ClassFile.FieldType)) ∈ al := al_in (ck_3 (List.mem_of_getElem? (i := 29) rfl)) (by decide)
theorem m_510 : (Jvm.Cond.methodLink "PictureMachineLaw" (67 : Nat) ({ cls := "PictureMachineLaw", name := "sector", desc := "(LPictureMachine;II[J)I" } : Jvm.MethodName)) ∈ al := al_in (ck_3 (List.mem_of_getElem? (i := 30) (by decide +kernel))) (by decide)
theorem m_511 : (Jvm.Cond.static ({ cls := "PictureMachineLaw", name := "sector", desc := "(LPictureMachine;II[J)I" } : Jvm.MethodName)) ∈ al := al_in (ck_3 (List.mem_of_getElem? (i := 31) (by decide +kernel))) (by decide)
theorem m_512 : (Jvm.Cond.codeWith ({ cls := "PictureMachineLaw", name := "sector", desc := "(LPictureMachine;II[J)I" } : Jvm.MethodName) method_7_code (5 : Nat) (Option.some Jvm.ClassFile.FieldType.int) [((0 : Nat), (10 : Nat), (13 : Nat), (13 : Nat))]) ∈ al := al_in (ck_3 (List.mem_of_getElem? (i := 32) rfl)) (by decide)
theorem m_513 : (Jvm.Cond.methodLink "PictureMachineLaw" (26 : Nat) ({ cls := "PictureMachine", name := "sector", desc := "(II)I" } : Jvm.MethodName)) ∈ al := al_in (ck_3 (List.mem_of_getElem? (i := 33) (by decide +kernel))) (by decide)
theorem m_514 : (Jvm.Cond.instanceMethod ({ cls := "PictureMachine", name := "sector", desc := "(II)I" } : Jvm.MethodName)) ∈ al := al_in (ck_3 (List.mem_of_getElem? (i := 34) (by decide +kernel))) (by decide)
theorem m_515 : (Jvm.Cond.selects "PictureMachine" ({ cls := "PictureMachine", name := "sector", desc := "(II)I" } : Jvm.MethodName) ({ cls := "PictureMachine", name := "sector", desc := "(II)I" } : Jvm.MethodName)) ∈ al := al_in (ck_3 (List.mem_of_getElem? (i := 35) (by decide +kernel))) (by decide)
theorem m_516 : (Jvm.Cond.code ({ cls := "PictureMachine", name := "sector", desc := "(II)I" } : Jvm.MethodName) prog_1_method_6_code (3 : Nat) (Option.some Jvm.ClassFile.FieldType.int)) ∈ al := al_in (ck_3 (List.mem_of_getElem? (i := 36) rfl)) (by decide)
theorem m_517 : (Jvm.Cond.methodLink "PictureMachine" (67 : Nat) ({ cls := "PictureMachine$Drive", name := "byteOf", desc := "(II)I" } : Jvm.MethodName)) ∈ al := al_in (ck_3 (List.mem_of_getElem? (i := 37) (by decide +kernel))) (by decide)
theorem m_518 : (Jvm.Cond.instanceMethod ({ cls := "PictureMachine$Drive", name := "byteOf", desc := "(II)I" } : Jvm.MethodName)) ∈ al := al_in (ck_3 (List.mem_of_getElem? (i := 38) (by decide +kernel))) (by decide)
theorem m_519 : (Jvm.Cond.selects "PictureMachine$Drive" ({ cls := "PictureMachine$Drive", name := "byteOf", desc := "(II)I" } : Jvm.MethodName) ({ cls := "PictureMachine$Drive", name := "byteOf", desc := "(II)I" } : Jvm.MethodName)) ∈ al := al_in (ck_3 (List.mem_of_getElem? (i := 39) (by decide +kernel))) (by decide)
theorem m_520 : (Jvm.Cond.code ({ cls := "PictureMachine$Drive", name := "byteOf", desc := "(II)I" } : Jvm.MethodName) prog_6_method_2_code (3 : Nat) (Option.some Jvm.ClassFile.FieldType.int)) ∈ al := al_in (ck_3 (List.mem_of_getElem? (i := 40) rfl)) (by decide)
theorem m_521 : (Jvm.Cond.methodLink "PictureMachineLaw" (71 : Nat) ({ cls := "PictureMachineLaw", name := "stick", desc := "(LPictureMachine;I)I" } : Jvm.MethodName)) ∈ al := al_in (ck_3 (List.mem_of_getElem? (i := 41) (by decide +kernel))) (by decide)
theorem m_522 : (Jvm.Cond.static ({ cls := "PictureMachineLaw", name := "stick", desc := "(LPictureMachine;I)I" } : Jvm.MethodName)) ∈ al := al_in (ck_3 (List.mem_of_getElem? (i := 42) (by decide +kernel))) (by decide)
theorem m_523 : (Jvm.Cond.codeWith ({ cls := "PictureMachineLaw", name := "stick", desc := "(LPictureMachine;I)I" } : Jvm.MethodName) method_8_code (3 : Nat) (Option.some Jvm.ClassFile.FieldType.int) [((0 : Nat), (5 : Nat), (8 : Nat), (13 : Nat))]) ∈ al := al_in (ck_3 (List.mem_of_getElem? (i := 43) rfl)) (by decide)
theorem m_524 : (Jvm.Cond.methodLink "PictureMachineLaw" (30 : Nat) ({ cls := "PictureMachine", name := "stick", desc := "(I)V" } : Jvm.MethodName)) ∈ al := al_in (ck_3 (List.mem_of_getElem? (i := 44) (by decide +kernel))) (by decide)
theorem m_525 : (Jvm.Cond.instanceMethod ({ cls := "PictureMachine", name := "stick", desc := "(I)V" } : Jvm.MethodName)) ∈ al := al_in (ck_3 (List.mem_of_getElem? (i := 45) (by decide +kernel))) (by decide)
theorem m_526 : (Jvm.Cond.selects "PictureMachine" ({ cls := "PictureMachine", name := "stick", desc := "(I)V" } : Jvm.MethodName) ({ cls := "PictureMachine", name := "stick", desc := "(I)V" } : Jvm.MethodName)) ∈ al := al_in (ck_3 (List.mem_of_getElem? (i := 46) (by decide +kernel))) (by decide)
theorem m_527 : (Jvm.Cond.code ({ cls := "PictureMachine", name := "stick", desc := "(I)V" } : Jvm.MethodName) prog_1_method_7_code (2 : Nat) (Option.none : Option Jvm.ClassFile.FieldType)) ∈ al := al_in (ck_3 (List.mem_of_getElem? (i := 47) rfl)) (by decide)
theorem m_528 : (Jvm.Cond.methodLink "PictureMachineLaw" (75 : Nat) ({ cls := "PictureMachineLaw", name := "run", desc := "(LPictureMachine;I[J)I" } : Jvm.MethodName)) ∈ al := al_in (ck_3 (List.mem_of_getElem? (i := 48) (by decide +kernel))) (by decide)
theorem m_529 : (Jvm.Cond.static ({ cls := "PictureMachineLaw", name := "run", desc := "(LPictureMachine;I[J)I" } : Jvm.MethodName)) ∈ al := al_in (ck_3 (List.mem_of_getElem? (i := 49) (by decide +kernel))) (by decide)
theorem m_530 : (Jvm.Cond.codeWith ({ cls := "PictureMachineLaw", name := "run", desc := "(LPictureMachine;I[J)I" } : Jvm.MethodName) method_9_code (4 : Nat) (Option.some Jvm.ClassFile.FieldType.int) [((0 : Nat), (9 : Nat), (12 : Nat), (13 : Nat))]) ∈ al := al_in (ck_3 (List.mem_of_getElem? (i := 50) rfl)) (by decide)
theorem m_531 : (Jvm.Cond.methodLink "PictureMachineLaw" (34 : Nat) ({ cls := "PictureMachine", name := "run", desc := "(I)I" } : Jvm.MethodName)) ∈ al := al_in (ck_3 (List.mem_of_getElem? (i := 51) (by decide +kernel))) (by decide)
theorem m_532 : (Jvm.Cond.instanceMethod ({ cls := "PictureMachine", name := "run", desc := "(I)I" } : Jvm.MethodName)) ∈ al := al_in (ck_3 (List.mem_of_getElem? (i := 52) (by decide +kernel))) (by decide)
theorem m_533 : (Jvm.Cond.selects "PictureMachine" ({ cls := "PictureMachine", name := "run", desc := "(I)I" } : Jvm.MethodName) ({ cls := "PictureMachine", name := "run", desc := "(I)I" } : Jvm.MethodName)) ∈ al := al_in (ck_3 (List.mem_of_getElem? (i := 53) (by decide +kernel))) (by decide)
theorem m_534 : (Jvm.Cond.code ({ cls := "PictureMachine", name := "run", desc := "(I)I" } : Jvm.MethodName) prog_1_method_8_code (4 : Nat) (Option.some Jvm.ClassFile.FieldType.int)) ∈ al := al_in (ck_3 (List.mem_of_getElem? (i := 54) rfl)) (by decide)
theorem m_535 : (Jvm.Cond.methodLink "PictureMachine" (75 : Nat) ({ cls := "PictureMachine", name := "passCycle", desc := "()Z" } : Jvm.MethodName)) ∈ al := al_in (ck_3 (List.mem_of_getElem? (i := 55) (by decide +kernel))) (by decide)
theorem m_537 : (Jvm.Cond.instanceMethod ({ cls := "PictureMachine", name := "passCycle", desc := "()Z" } : Jvm.MethodName)) ∈ al := al_in (ck_3 (List.mem_of_getElem? (i := 57) (by decide +kernel))) (by decide)
theorem m_538 : (Jvm.Cond.code ({ cls := "PictureMachine", name := "passCycle", desc := "()Z" } : Jvm.MethodName) prog_1_method_12_code (5 : Nat) (Option.some Jvm.ClassFile.FieldType.boolean)) ∈ al := al_in (ck_3 (List.mem_of_getElem? (i := 58) rfl)) (by decide)
theorem m_539 : (Jvm.Cond.methodLink "PictureMachine" (212 : Nat) ({ cls := "PictureMachine$Display", name := "passCycle", desc := "(II)Z" } : Jvm.MethodName)) ∈ al := al_in (ck_3 (List.mem_of_getElem? (i := 59) (by decide +kernel))) (by decide)
theorem m_540 : (Jvm.Cond.instanceMethod ({ cls := "PictureMachine$Display", name := "passCycle", desc := "(II)Z" } : Jvm.MethodName)) ∈ al := al_in (ck_3 (List.mem_of_getElem? (i := 60) (by decide +kernel))) (by decide)
theorem m_541 : (Jvm.Cond.selects "PictureMachine$Display" ({ cls := "PictureMachine$Display", name := "passCycle", desc := "(II)Z" } : Jvm.MethodName) ({ cls := "PictureMachine$Display", name := "passCycle", desc := "(II)Z" } : Jvm.MethodName)) ∈ al := al_in (ck_3 (List.mem_of_getElem? (i := 61) (by decide +kernel))) (by decide)
theorem m_542 : (Jvm.Cond.code ({ cls := "PictureMachine$Display", name := "passCycle", desc := "(II)Z" } : Jvm.MethodName) prog_5_method_2_code (3 : Nat) (Option.some Jvm.ClassFile.FieldType.boolean)) ∈ al := al_in (ck_3 (List.mem_of_getElem? (i := 62) rfl)) (by decide)
theorem m_543 : (Jvm.Cond.methodLink "PictureMachine$Display" (29 : Nat) ({ cls := "PictureMachine$Display", name := "beginLine", desc := "(I)V" } : Jvm.MethodName)) ∈ al := al_in (ck_3 (List.mem_of_getElem? (i := 63) (by decide +kernel))) (by decide)
theorem m_545 : (Jvm.Cond.instanceMethod ({ cls := "PictureMachine$Display", name := "beginLine", desc := "(I)V" } : Jvm.MethodName)) ∈ al := al_in (ck_3 (List.mem_of_getElem? (i := 65) (by decide +kernel))) (by decide)
theorem m_546 : (Jvm.Cond.code ({ cls := "PictureMachine$Display", name := "beginLine", desc := "(I)V" } : Jvm.MethodName) prog_5_method_11_code (2 : Nat) (Option.none : Option Jvm.ClassFile.FieldType)) ∈ al := al_in (ck_3 (List.mem_of_getElem? (i := 66) rfl)) (by decide)
theorem m_547 : (Jvm.Cond.methodLink "PictureMachine$Display" (33 : Nat) ({ cls := "PictureMachine$Display", name := "fetchShape", desc := "(II)Z" } : Jvm.MethodName)) ∈ al := al_in (ck_3 (List.mem_of_getElem? (i := 67) (by decide +kernel))) (by decide)
theorem m_549 : (Jvm.Cond.instanceMethod ({ cls := "PictureMachine$Display", name := "fetchShape", desc := "(II)Z" } : Jvm.MethodName)) ∈ al := al_in (ck_3 (List.mem_of_getElem? (i := 69) (by decide +kernel))) (by decide)
theorem m_550 : (Jvm.Cond.code ({ cls := "PictureMachine$Display", name := "fetchShape", desc := "(II)Z" } : Jvm.MethodName) prog_5_method_12_code (3 : Nat) (Option.some Jvm.ClassFile.FieldType.boolean)) ∈ al := al_in (ck_3 (List.mem_of_getElem? (i := 70) rfl)) (by decide)
theorem m_551 : (Jvm.Cond.methodLink "PictureMachine$Display" (86 : Nat) ({ cls := "PictureMachine$Memory", name := "at", desc := "(I)I" } : Jvm.MethodName)) ∈ al := al_in (ck_3 (List.mem_of_getElem? (i := 71) (by decide +kernel))) (by decide)
theorem m_552 : (Jvm.Cond.methodLink "PictureMachine$Display" (37 : Nat) ({ cls := "PictureMachine$Display", name := "requestNmis", desc := "(I)V" } : Jvm.MethodName)) ∈ al := al_in (ck_3 (List.mem_of_getElem? (i := 72) (by decide +kernel))) (by decide)
theorem m_554 : (Jvm.Cond.instanceMethod ({ cls := "PictureMachine$Display", name := "requestNmis", desc := "(I)V" } : Jvm.MethodName)) ∈ al := al_in (ck_3 (List.mem_of_getElem? (i := 74) (by decide +kernel))) (by decide)
theorem m_555 : (Jvm.Cond.code ({ cls := "PictureMachine$Display", name := "requestNmis", desc := "(I)V" } : Jvm.MethodName) prog_5_method_13_code (2 : Nat) (Option.none : Option Jvm.ClassFile.FieldType)) ∈ al := al_in (ck_3 (List.mem_of_getElem? (i := 75) rfl)) (by decide)
theorem m_556 : (Jvm.Cond.methodLink "PictureMachine$Display" (92 : Nat) ({ cls := "PictureMachine$Display", name := "requestNmi", desc := "(I)V" } : Jvm.MethodName)) ∈ al := al_in (ck_3 (List.mem_of_getElem? (i := 76) (by decide +kernel))) (by decide)
theorem m_558 : (Jvm.Cond.instanceMethod ({ cls := "PictureMachine$Display", name := "requestNmi", desc := "(I)V" } : Jvm.MethodName)) ∈ al := al_in (ck_3 (List.mem_of_getElem? (i := 78) (by decide +kernel))) (by decide)
theorem m_559 : (Jvm.Cond.code ({ cls := "PictureMachine$Display", name := "requestNmi", desc := "(I)V" } : Jvm.MethodName) prog_5_method_15_code (2 : Nat) (Option.none : Option Jvm.ClassFile.FieldType)) ∈ al := al_in (ck_3 (List.mem_of_getElem? (i := 79) rfl)) (by decide)
theorem m_560 : (Jvm.Cond.methodLinkNest "PictureMachine$Display" (46 : Nat) ({ cls := "PictureMachine", name := "isShownLine", desc := "(I)Z" } : Jvm.MethodName) "PictureMachine") ∈ nw := nw_in (ck_3 (List.mem_of_getElem? (i := 80) (by decide +kernel))) (by decide)
theorem m_561 : (Jvm.Cond.static ({ cls := "PictureMachine", name := "isShownLine", desc := "(I)Z" } : Jvm.MethodName)) ∈ al := al_in (ck_3 (List.mem_of_getElem? (i := 81) (by decide +kernel))) (by decide)
theorem m_562 : (Jvm.Cond.code ({ cls := "PictureMachine", name := "isShownLine", desc := "(I)Z" } : Jvm.MethodName) prog_1_method_18_code (1 : Nat) (Option.some Jvm.ClassFile.FieldType.boolean)) ∈ al := al_in (ck_3 (List.mem_of_getElem? (i := 82) rfl)) (by decide)
theorem m_563 : (Jvm.Cond.methodLink "PictureMachine$Display" (50 : Nat) ({ cls := "PictureMachine$Display", name := "isOn", desc := "()Z" } : Jvm.MethodName)) ∈ al := al_in (ck_3 (List.mem_of_getElem? (i := 83) (by decide +kernel))) (by decide)
theorem m_565 : (Jvm.Cond.instanceMethod ({ cls := "PictureMachine$Display", name := "isOn", desc := "()Z" } : Jvm.MethodName)) ∈ al := al_in (ck_3 (List.mem_of_getElem? (i := 85) (by decide +kernel))) (by decide)
theorem m_566 : (Jvm.Cond.code ({ cls := "PictureMachine$Display", name := "isOn", desc := "()Z" } : Jvm.MethodName) prog_5_method_7_code (1 : Nat) (Option.some Jvm.ClassFile.FieldType.boolean)) ∈ al := al_in (ck_3 (List.mem_of_getElem? (i := 86) rfl)) (by decide)
theorem m_567 : (Jvm.Cond.methodLink "PictureMachine$Display" (95 : Nat) ({ cls := "PictureMachine$Display", name := "isInMarkedLastRow", desc := "()Z" } : Jvm.MethodName)) ∈ al := al_in (ck_3 (List.mem_of_getElem? (i := 87) (by decide +kernel))) (by decide)
theorem m_569 : (Jvm.Cond.instanceMethod ({ cls := "PictureMachine$Display", name := "isInMarkedLastRow", desc := "()Z" } : Jvm.MethodName)) ∈ al := al_in (ck_3 (List.mem_of_getElem? (i := 89) (by decide +kernel))) (by decide)
theorem m_570 : (Jvm.Cond.code ({ cls := "PictureMachine$Display", name := "isInMarkedLastRow", desc := "()Z" } : Jvm.MethodName) prog_5_method_14_code (1 : Nat) (Option.some Jvm.ClassFile.FieldType.boolean)) ∈ al := al_in (ck_3 (List.mem_of_getElem? (i := 90) rfl)) (by decide)
theorem m_571 : (Jvm.Cond.methodLink "PictureMachine$Display" (54 : Nat) ({ cls := "PictureMachine$Display", name := "fetchForLine", desc := "(I)Z" } : Jvm.MethodName)) ∈ al := al_in (ck_3 (List.mem_of_getElem? (i := 91) (by decide +kernel))) (by decide)
theorem m_573 : (Jvm.Cond.instanceMethod ({ cls := "PictureMachine$Display", name := "fetchForLine", desc := "(I)Z" } : Jvm.MethodName)) ∈ al := al_in (ck_3 (List.mem_of_getElem? (i := 93) (by decide +kernel))) (by decide)
theorem m_574 : (Jvm.Cond.code ({ cls := "PictureMachine$Display", name := "fetchForLine", desc := "(I)Z" } : Jvm.MethodName) prog_5_method_16_code (3 : Nat) (Option.some Jvm.ClassFile.FieldType.boolean)) ∈ al := al_in (ck_3 (List.mem_of_getElem? (i := 94) rfl)) (by decide)
theorem m_575 : (Jvm.Cond.methodLink "PictureMachine$Display" (104 : Nat) ({ cls := "PictureMachine$Display", name := "beginModeLine", desc := "()Z" } : Jvm.MethodName)) ∈ al := al_in (ck_3 (List.mem_of_getElem? (i := 95) (by decide +kernel))) (by decide)
theorem m_577 : (Jvm.Cond.instanceMethod ({ cls := "PictureMachine$Display", name := "beginModeLine", desc := "()Z" } : Jvm.MethodName)) ∈ al := al_in (ck_3 (List.mem_of_getElem? (i := 97) (by decide +kernel))) (by decide)
theorem m_578 : (Jvm.Cond.code ({ cls := "PictureMachine$Display", name := "beginModeLine", desc := "()Z" } : Jvm.MethodName) prog_5_method_17_code (1 : Nat) (Option.some Jvm.ClassFile.FieldType.boolean)) ∈ al := al_in (ck_3 (List.mem_of_getElem? (i := 98) rfl)) (by decide)
theorem m_579 : (Jvm.Cond.methodLink "PictureMachine$Display" (117 : Nat) ({ cls := "PictureMachine$Display", name := "nextOfList", desc := "()I" } : Jvm.MethodName)) ∈ al := al_in (ck_3 (List.mem_of_getElem? (i := 99) (by decide +kernel))) (by decide)
theorem m_581 : (Jvm.Cond.instanceMethod ({ cls := "PictureMachine$Display", name := "nextOfList", desc := "()I" } : Jvm.MethodName)) ∈ al := al_in (ck_3 (List.mem_of_getElem? (i := 101) (by decide +kernel))) (by decide)
theorem m_582 : (Jvm.Cond.code ({ cls := "PictureMachine$Display", name := "nextOfList", desc := "()I" } : Jvm.MethodName) prog_5_method_22_code (2 : Nat) (Option.some Jvm.ClassFile.FieldType.int)) ∈ al := al_in (ck_3 (List.mem_of_getElem? (i := 102) rfl)) (by decide)
theorem m_583 : (Jvm.Cond.methodLink "PictureMachine$Display" (129 : Nat) ({ cls := "PictureMachine$Display", name := "movedOn", desc := "(I)I" } : Jvm.MethodName)) ∈ al := al_in (ck_3 (List.mem_of_getElem? (i := 103) (by decide +kernel))) (by decide)
theorem m_584 : (Jvm.Cond.static ({ cls := "PictureMachine$Display", name := "movedOn", desc := "(I)I" } : Jvm.MethodName)) ∈ al := al_in (ck_3 (List.mem_of_getElem? (i := 104) (by decide +kernel))) (by decide)
theorem m_585 : (Jvm.Cond.code ({ cls := "PictureMachine$Display", name := "movedOn", desc := "(I)I" } : Jvm.MethodName) prog_5_method_23_code (1 : Nat) (Option.some Jvm.ClassFile.FieldType.int)) ∈ al := al_in (ck_3 (List.mem_of_getElem? (i := 105) rfl)) (by decide)
theorem m_586 : (Jvm.Cond.methodLink "PictureMachine$Display" (120 : Nat) ({ cls := "PictureMachine$Display", name := "rowsOfMode", desc := "()I" } : Jvm.MethodName)) ∈ al := al_in (ck_3 (List.mem_of_getElem? (i := 106) (by decide +kernel))) (by decide)
theorem m_588 : (Jvm.Cond.instanceMethod ({ cls := "PictureMachine$Display", name := "rowsOfMode", desc := "()I" } : Jvm.MethodName)) ∈ al := al_in (ck_3 (List.mem_of_getElem? (i := 108) (by decide +kernel))) (by decide)
theorem m_589 : (Jvm.Cond.code ({ cls := "PictureMachine$Display", name := "rowsOfMode", desc := "()I" } : Jvm.MethodName) prog_5_method_18_code (1 : Nat) (Option.some Jvm.ClassFile.FieldType.int)) ∈ al := al_in (ck_3 (List.mem_of_getElem? (i := 109) rfl)) (by decide)
theorem m_590 : (Jvm.Cond.methodLink "PictureMachine$Display" (74 : Nat) ({ cls := "PictureMachine$Display", name := "modeHasData", desc := "()Z" } : Jvm.MethodName)) ∈ al := al_in (ck_3 (List.mem_of_getElem? (i := 110) (by decide +kernel))) (by decide)
theorem m_592 : (Jvm.Cond.instanceMethod ({ cls := "PictureMachine$Display", name := "modeHasData", desc := "()Z" } : Jvm.MethodName)) ∈ al := al_in (ck_3 (List.mem_of_getElem? (i := 112) (by decide +kernel))) (by decide)
theorem m_593 : (Jvm.Cond.code ({ cls := "PictureMachine$Display", name := "modeHasData", desc := "()Z" } : Jvm.MethodName) prog_5_method_10_code (1 : Nat) (Option.some Jvm.ClassFile.FieldType.boolean)) ∈ al := al_in (ck_3 (List.mem_of_getElem? (i := 113) rfl)) (by decide)
theorem m_594 : (Jvm.Cond.methodLink "PictureMachine$Display" (107 : Nat) ({ cls := "PictureMachine$Display", name := "fetchAddress", desc := "(Z)Z" } : Jvm.MethodName)) ∈ al := al_in (ck_3 (List.mem_of_getElem? (i := 114) (by decide +kernel))) (by decide)
theorem m_596 : (Jvm.Cond.instanceMethod ({ cls := "PictureMachine$Display", name := "fetchAddress", desc := "(Z)Z" } : Jvm.MethodName)) ∈ al := al_in (ck_3 (List.mem_of_getElem? (i := 116) (by decide +kernel))) (by decide)
theorem m_597 : (Jvm.Cond.code ({ cls := "PictureMachine$Display", name := "fetchAddress", desc := "(Z)Z" } : Jvm.MethodName) prog_5_method_19_code (4 : Nat) (Option.some Jvm.ClassFile.FieldType.boolean)) ∈ al := al_in (ck_3 (List.mem_of_getElem? (i := 117) rfl)) (by decide)
theorem m_598 : (Jvm.Cond.methodLink "PictureMachine$Display" (111 : Nat) ({ cls := "PictureMachine$Display", name := "fetchData", desc := "(I)Z" } : Jvm.MethodName)) ∈ al := al_in (ck_3 (List.mem_of_getElem? (i := 118) (by decide +kernel))) (by decide)
theorem m_600 : (Jvm.Cond.instanceMethod ({ cls := "PictureMachine$Display", name := "fetchData", desc := "(I)Z" } : Jvm.MethodName)) ∈ al := al_in (ck_3 (List.mem_of_getElem? (i := 120) (by decide +kernel))) (by decide)
theorem m_601 : (Jvm.Cond.code ({ cls := "PictureMachine$Display", name := "fetchData", desc := "(I)Z" } : Jvm.MethodName) prog_5_method_20_code (2 : Nat) (Option.some Jvm.ClassFile.FieldType.boolean)) ∈ al := al_in (ck_3 (List.mem_of_getElem? (i := 121) rfl)) (by decide)
theorem m_602 : (Jvm.Cond.methodLink "PictureMachine$Display" (114 : Nat) ({ cls := "PictureMachine$Display", name := "fetchLetterRow", desc := "(I)Z" } : Jvm.MethodName)) ∈ al := al_in (ck_3 (List.mem_of_getElem? (i := 122) (by decide +kernel))) (by decide)
theorem m_604 : (Jvm.Cond.instanceMethod ({ cls := "PictureMachine$Display", name := "fetchLetterRow", desc := "(I)Z" } : Jvm.MethodName)) ∈ al := al_in (ck_3 (List.mem_of_getElem? (i := 124) (by decide +kernel))) (by decide)
theorem m_605 : (Jvm.Cond.code ({ cls := "PictureMachine$Display", name := "fetchLetterRow", desc := "(I)Z" } : Jvm.MethodName) prog_5_method_21_code (2 : Nat) (Option.some Jvm.ClassFile.FieldType.boolean)) ∈ al := al_in (ck_3 (List.mem_of_getElem? (i := 125) rfl)) (by decide)
theorem m_606 : (Jvm.Cond.methodLink "PictureMachine" (214 : Nat) ({ cls := "PictureMachine$Processor", name := "passCycle", desc := "()Z" } : Jvm.MethodName)) ∈ al := al_in (ck_3 (List.mem_of_getElem? (i := 126) (by decide +kernel))) (by decide)
theorem m_607 : (Jvm.Cond.instanceMethod ({ cls := "PictureMachine$Processor", name := "passCycle", desc := "()Z" } : Jvm.MethodName)) ∈ al := al_in (ck_3 (List.mem_of_getElem? (i := 127) (by decide +kernel))) (by decide)
theorem m_608 : (Jvm.Cond.selects "PictureMachine$Processor" ({ cls := "PictureMachine$Processor", name := "passCycle", desc := "()Z" } : Jvm.MethodName) ({ cls := "PictureMachine$Processor", name := "passCycle", desc := "()Z" } : Jvm.MethodName)) ∈ al := al_in (ck_3 (List.mem_of_getElem? (i := 128) (by decide +kernel))) (by decide)
theorem m_609 : (Jvm.Cond.code ({ cls := "PictureMachine$Processor", name := "passCycle", desc := "()Z" } : Jvm.MethodName) prog_9_method_3_code (1 : Nat) (Option.some Jvm.ClassFile.FieldType.boolean)) ∈ al := al_in (ck_3 (List.mem_of_getElem? (i := 129) rfl)) (by decide)
theorem m_610 : (Jvm.Cond.methodLink "PictureMachine$Processor" (49 : Nat) ({ cls := "PictureMachine$Processor", name := "begin", desc := "()V" } : Jvm.MethodName)) ∈ al := al_in (ck_3 (List.mem_of_getElem? (i := 130) (by decide +kernel))) (by decide)
theorem m_612 : (Jvm.Cond.instanceMethod ({ cls := "PictureMachine$Processor", name := "begin", desc := "()V" } : Jvm.MethodName)) ∈ al := al_in (ck_3 (List.mem_of_getElem? (i := 132) (by decide +kernel))) (by decide)
theorem m_613 : (Jvm.Cond.code ({ cls := "PictureMachine$Processor", name := "begin", desc := "()V" } : Jvm.MethodName) prog_9_method_4_code (1 : Nat) (Option.none : Option Jvm.ClassFile.FieldType)) ∈ al := al_in (ck_3 (List.mem_of_getElem? (i := 133) rfl)) (by decide)
theorem m_614 : (Jvm.Cond.methodLink "PictureMachine$Processor" (64 : Nat) ({ cls := "PictureMachine$Board", name := "load", desc := "(I)I" } : Jvm.MethodName)) ∈ al := al_in (ck_3 (List.mem_of_getElem? (i := 134) (by decide +kernel))) (by decide)
theorem m_615 : (Jvm.Cond.instanceMethod ({ cls := "PictureMachine$Board", name := "load", desc := "(I)I" } : Jvm.MethodName)) ∈ al := al_in (ck_3 (List.mem_of_getElem? (i := 135) (by decide +kernel))) (by decide)
theorem m_616 : (Jvm.Cond.selects "PictureMachine$Board" ({ cls := "PictureMachine$Board", name := "load", desc := "(I)I" } : Jvm.MethodName) ({ cls := "PictureMachine$Board", name := "load", desc := "(I)I" } : Jvm.MethodName)) ∈ al := al_in (ck_3 (List.mem_of_getElem? (i := 136) (by decide +kernel))) (by decide)
theorem m_617 : (Jvm.Cond.code ({ cls := "PictureMachine$Board", name := "load", desc := "(I)I" } : Jvm.MethodName) prog_2_method_2_code (3 : Nat) (Option.some Jvm.ClassFile.FieldType.int)) ∈ al := al_in (ck_3 (List.mem_of_getElem? (i := 137) rfl)) (by decide)
theorem m_618 : (Jvm.Cond.methodLinkNest "PictureMachine$Board" (87 : Nat) ({ cls := "PictureMachine", name := "bit", desc := "(Z)I" } : Jvm.MethodName) "PictureMachine") ∈ nw := nw_in (ck_3 (List.mem_of_getElem? (i := 138) (by decide +kernel))) (by decide)
theorem m_619 : (Jvm.Cond.methodLink "PictureMachine$Board" (94 : Nat) ({ cls := "PictureMachine$Chance", name := "takeSign", desc := "()I" } : Jvm.MethodName)) ∈ al := al_in (ck_3 (List.mem_of_getElem? (i := 139) (by decide +kernel))) (by decide)
theorem m_620 : (Jvm.Cond.instanceMethod ({ cls := "PictureMachine$Chance", name := "takeSign", desc := "()I" } : Jvm.MethodName)) ∈ al := al_in (ck_3 (List.mem_of_getElem? (i := 140) (by decide +kernel))) (by decide)
theorem m_621 : (Jvm.Cond.selects "PictureMachine$Chance" ({ cls := "PictureMachine$Chance", name := "takeSign", desc := "()I" } : Jvm.MethodName) ({ cls := "PictureMachine$Chance", name := "takeSign", desc := "()I" } : Jvm.MethodName)) ∈ al := al_in (ck_3 (List.mem_of_getElem? (i := 141) (by decide +kernel))) (by decide)
theorem m_622 : (Jvm.Cond.code ({ cls := "PictureMachine$Chance", name := "takeSign", desc := "()I" } : Jvm.MethodName) prog_3_method_4_code (2 : Nat) (Option.some Jvm.ClassFile.FieldType.int)) ∈ al := al_in (ck_3 (List.mem_of_getElem? (i := 142) rfl)) (by decide)
theorem m_623 : (Jvm.Cond.methodLink "PictureMachine$Board" (98 : Nat) ({ cls := "PictureMachine$Drive", name := "takeByte", desc := "()I" } : Jvm.MethodName)) ∈ al := al_in (ck_3 (List.mem_of_getElem? (i := 143) (by decide +kernel))) (by decide)
theorem m_624 : (Jvm.Cond.instanceMethod ({ cls := "PictureMachine$Drive", name := "takeByte", desc := "()I" } : Jvm.MethodName)) ∈ al := al_in (ck_3 (List.mem_of_getElem? (i := 144) (by decide +kernel))) (by decide)
theorem m_625 : (Jvm.Cond.selects "PictureMachine$Drive" ({ cls := "PictureMachine$Drive", name := "takeByte", desc := "()I" } : Jvm.MethodName) ({ cls := "PictureMachine$Drive", name := "takeByte", desc := "()I" } : Jvm.MethodName)) ∈ al := al_in (ck_3 (List.mem_of_getElem? (i := 145) (by decide +kernel))) (by decide)
theorem m_626 : (Jvm.Cond.code ({ cls := "PictureMachine$Drive", name := "takeByte", desc := "()I" } : Jvm.MethodName) prog_6_method_6_code (2 : Nat) (Option.some Jvm.ClassFile.FieldType.int)) ∈ al := al_in (ck_3 (List.mem_of_getElem? (i := 146) rfl)) (by decide)
theorem m_627 : (Jvm.Cond.methodLink "PictureMachine$Processor" (71 : Nat) ({ cls := "PictureMachine$Processor", name := "cyclesOf", desc := "(I)I" } : Jvm.MethodName)) ∈ al := al_in (ck_3 (List.mem_of_getElem? (i := 147) (by decide +kernel))) (by decide)
theorem m_628 : (Jvm.Cond.static ({ cls := "PictureMachine$Processor", name := "cyclesOf", desc := "(I)I" } : Jvm.MethodName)) ∈ al := al_in (ck_3 (List.mem_of_getElem? (i := 148) (by decide +kernel))) (by decide)
theorem m_629 : (Jvm.Cond.code ({ cls := "PictureMachine$Processor", name := "cyclesOf", desc := "(I)I" } : Jvm.MethodName) prog_9_method_5_code (1 : Nat) (Option.some Jvm.ClassFile.FieldType.int)) ∈ al := al_in (ck_3 (List.mem_of_getElem? (i := 149) rfl)) (by decide)
theorem m_630 : (Jvm.Cond.methodLink "PictureMachine$Processor" (55 : Nat) ({ cls := "PictureMachine$Processor", name := "enterNmi", desc := "()V" } : Jvm.MethodName)) ∈ al := al_in (ck_3 (List.mem_of_getElem? (i := 150) (by decide +kernel))) (by decide)
theorem m_632 : (Jvm.Cond.instanceMethod ({ cls := "PictureMachine$Processor", name := "enterNmi", desc := "()V" } : Jvm.MethodName)) ∈ al := al_in (ck_3 (List.mem_of_getElem? (i := 152) (by decide +kernel))) (by decide)
theorem m_633 : (Jvm.Cond.code ({ cls := "PictureMachine$Processor", name := "enterNmi", desc := "()V" } : Jvm.MethodName) prog_9_method_6_code (1 : Nat) (Option.none : Option Jvm.ClassFile.FieldType)) ∈ al := al_in (ck_3 (List.mem_of_getElem? (i := 153) rfl)) (by decide)
theorem m_634 : (Jvm.Cond.methodLink "PictureMachine$Processor" (74 : Nat) ({ cls := "PictureMachine$Processor", name := "pushPlace", desc := "(I)V" } : Jvm.MethodName)) ∈ al := al_in (ck_3 (List.mem_of_getElem? (i := 154) (by decide +kernel))) (by decide)
theorem m_636 : (Jvm.Cond.instanceMethod ({ cls := "PictureMachine$Processor", name := "pushPlace", desc := "(I)V" } : Jvm.MethodName)) ∈ al := al_in (ck_3 (List.mem_of_getElem? (i := 156) (by decide +kernel))) (by decide)
theorem m_637 : (Jvm.Cond.code ({ cls := "PictureMachine$Processor", name := "pushPlace", desc := "(I)V" } : Jvm.MethodName) prog_9_method_19_code (2 : Nat) (Option.none : Option Jvm.ClassFile.FieldType)) ∈ al := al_in (ck_3 (List.mem_of_getElem? (i := 157) rfl)) (by decide)
theorem m_638 : (Jvm.Cond.methodLink "PictureMachine$Processor" (82 : Nat) ({ cls := "PictureMachine$Processor", name := "push", desc := "(I)V" } : Jvm.MethodName)) ∈ al := al_in (ck_3 (List.mem_of_getElem? (i := 158) (by decide +kernel))) (by decide)
theorem m_640 : (Jvm.Cond.instanceMethod ({ cls := "PictureMachine$Processor", name := "push", desc := "(I)V" } : Jvm.MethodName)) ∈ al := al_in (ck_3 (List.mem_of_getElem? (i := 160) (by decide +kernel))) (by decide)
theorem m_641 : (Jvm.Cond.code ({ cls := "PictureMachine$Processor", name := "push", desc := "(I)V" } : Jvm.MethodName) prog_9_method_18_code (2 : Nat) (Option.none : Option Jvm.ClassFile.FieldType)) ∈ al := al_in (ck_3 (List.mem_of_getElem? (i := 161) rfl)) (by decide)
theorem m_642 : (Jvm.Cond.methodLink "PictureMachine$Processor" (144 : Nat) ({ cls := "PictureMachine$Memory", name := "put", desc := "(II)V" } : Jvm.MethodName)) ∈ al := al_in (ck_3 (List.mem_of_getElem? (i := 162) (by decide +kernel))) (by decide)
theorem m_643 : (Jvm.Cond.methodLink "PictureMachine$Processor" (78 : Nat) ({ cls := "PictureMachine$Processor", name := "flags", desc := "()I" } : Jvm.MethodName)) ∈ al := al_in (ck_3 (List.mem_of_getElem? (i := 163) (by decide +kernel))) (by decide)
theorem m_644 : (Jvm.Cond.methodLink "PictureMachine$Processor" (89 : Nat) ({ cls := "PictureMachine$Memory", name := "at", desc := "(I)I" } : Jvm.MethodName)) ∈ al := al_in (ck_3 (List.mem_of_getElem? (i := 164) (by decide +kernel))) (by decide)
theorem m_645 : (Jvm.Cond.methodLink "PictureMachine$Processor" (58 : Nat) ({ cls := "PictureMachine$Processor", name := "perform", desc := "()V" } : Jvm.MethodName)) ∈ al := al_in (ck_3 (List.mem_of_getElem? (i := 165) (by decide +kernel))) (by decide)
theorem m_647 : (Jvm.Cond.instanceMethod ({ cls := "PictureMachine$Processor", name := "perform", desc := "()V" } : Jvm.MethodName)) ∈ al := al_in (ck_3 (List.mem_of_getElem? (i := 167) (by decide +kernel))) (by decide)
theorem m_648 : (Jvm.Cond.code ({ cls := "PictureMachine$Processor", name := "perform", desc := "()V" } : Jvm.MethodName) prog_9_method_7_code (1 : Nat) (Option.none : Option Jvm.ClassFile.FieldType)) ∈ al := al_in (ck_3 (List.mem_of_getElem? (i := 168) rfl)) (by decide)
theorem m_649 : (Jvm.Cond.methodLink "PictureMachine$Processor" (94 : Nat) ({ cls := "PictureMachine$Processor", name := "nextByte", desc := "()I" } : Jvm.MethodName)) ∈ al := al_in (ck_3 (List.mem_of_getElem? (i := 169) (by decide +kernel))) (by decide)
theorem m_651 : (Jvm.Cond.instanceMethod ({ cls := "PictureMachine$Processor", name := "nextByte", desc := "()I" } : Jvm.MethodName)) ∈ al := al_in (ck_3 (List.mem_of_getElem? (i := 171) (by decide +kernel))) (by decide)
theorem m_652 : (Jvm.Cond.code ({ cls := "PictureMachine$Processor", name := "nextByte", desc := "()I" } : Jvm.MethodName) prog_9_method_9_code (2 : Nat) (Option.some Jvm.ClassFile.FieldType.int)) ∈ al := al_in (ck_3 (List.mem_of_getElem? (i := 172) rfl)) (by decide)
theorem m_653 : (Jvm.Cond.methodLink "PictureMachine$Processor" (97 : Nat) ({ cls := "PictureMachine$Processor", name := "result", desc := "(I)I" } : Jvm.MethodName)) ∈ al := al_in (ck_3 (List.mem_of_getElem? (i := 173) (by decide +kernel))) (by decide)
theorem m_655 : (Jvm.Cond.instanceMethod ({ cls := "PictureMachine$Processor", name := "result", desc := "(I)I" } : Jvm.MethodName)) ∈ al := al_in (ck_3 (List.mem_of_getElem? (i := 175) (by decide +kernel))) (by decide)
theorem m_656 : (Jvm.Cond.code ({ cls := "PictureMachine$Processor", name := "result", desc := "(I)I" } : Jvm.MethodName) prog_9_method_11_code (3 : Nat) (Option.some Jvm.ClassFile.FieldType.int)) ∈ al := al_in (ck_3 (List.mem_of_getElem? (i := 176) rfl)) (by decide)
theorem m_657 : (Jvm.Cond.methodLink "PictureMachine$Processor" (103 : Nat) ({ cls := "PictureMachine$Processor", name := "nextAddress", desc := "()I" } : Jvm.MethodName)) ∈ al := al_in (ck_3 (List.mem_of_getElem? (i := 177) (by decide +kernel))) (by decide)
theorem m_659 : (Jvm.Cond.instanceMethod ({ cls := "PictureMachine$Processor", name := "nextAddress", desc := "()I" } : Jvm.MethodName)) ∈ al := al_in (ck_3 (List.mem_of_getElem? (i := 179) (by decide +kernel))) (by decide)
theorem m_660 : (Jvm.Cond.code ({ cls := "PictureMachine$Processor", name := "nextAddress", desc := "()I" } : Jvm.MethodName) prog_9_method_10_code (2 : Nat) (Option.some Jvm.ClassFile.FieldType.int)) ∈ al := al_in (ck_3 (List.mem_of_getElem? (i := 180) rfl)) (by decide)
theorem m_661 : (Jvm.Cond.methodLink "PictureMachine$Processor" (112 : Nat) ({ cls := "PictureMachine$Board", name := "store", desc := "(II)V" } : Jvm.MethodName)) ∈ al := al_in (ck_3 (List.mem_of_getElem? (i := 181) (by decide +kernel))) (by decide)
theorem m_662 : (Jvm.Cond.methodLink "PictureMachine$Processor" (116 : Nat) ({ cls := "PictureMachine$Processor", name := "add", desc := "(I)V" } : Jvm.MethodName)) ∈ al := al_in (ck_3 (List.mem_of_getElem? (i := 182) (by decide +kernel))) (by decide)
theorem m_664 : (Jvm.Cond.instanceMethod ({ cls := "PictureMachine$Processor", name := "add", desc := "(I)V" } : Jvm.MethodName)) ∈ al := al_in (ck_3 (List.mem_of_getElem? (i := 184) (by decide +kernel))) (by decide)
theorem m_665 : (Jvm.Cond.code ({ cls := "PictureMachine$Processor", name := "add", desc := "(I)V" } : Jvm.MethodName) prog_9_method_12_code (3 : Nat) (Option.none : Option Jvm.ClassFile.FieldType)) ∈ al := al_in (ck_3 (List.mem_of_getElem? (i := 185) rfl)) (by decide)
theorem m_666 : (Jvm.Cond.methodLink "PictureMachine$Processor" (119 : Nat) ({ cls := "PictureMachine$Processor", name := "compare", desc := "(II)V" } : Jvm.MethodName)) ∈ al := al_in (ck_3 (List.mem_of_getElem? (i := 186) (by decide +kernel))) (by decide)
theorem m_668 : (Jvm.Cond.instanceMethod ({ cls := "PictureMachine$Processor", name := "compare", desc := "(II)V" } : Jvm.MethodName)) ∈ al := al_in (ck_3 (List.mem_of_getElem? (i := 188) (by decide +kernel))) (by decide)
theorem m_669 : (Jvm.Cond.code ({ cls := "PictureMachine$Processor", name := "compare", desc := "(II)V" } : Jvm.MethodName) prog_9_method_13_code (3 : Nat) (Option.none : Option Jvm.ClassFile.FieldType)) ∈ al := al_in (ck_3 (List.mem_of_getElem? (i := 189) rfl)) (by decide)
theorem m_670 : (Jvm.Cond.methodLink "PictureMachine$Processor" (122 : Nat) ({ cls := "PictureMachine$Processor", name := "change", desc := "(II)V" } : Jvm.MethodName)) ∈ al := al_in (ck_3 (List.mem_of_getElem? (i := 190) (by decide +kernel))) (by decide)
theorem m_672 : (Jvm.Cond.instanceMethod ({ cls := "PictureMachine$Processor", name := "change", desc := "(II)V" } : Jvm.MethodName)) ∈ al := al_in (ck_3 (List.mem_of_getElem? (i := 192) (by decide +kernel))) (by decide)
theorem m_673 : (Jvm.Cond.code ({ cls := "PictureMachine$Processor", name := "change", desc := "(II)V" } : Jvm.MethodName) prog_9_method_14_code (3 : Nat) (Option.none : Option Jvm.ClassFile.FieldType)) ∈ al := al_in (ck_3 (List.mem_of_getElem? (i := 193) rfl)) (by decide)
theorem m_674 : (Jvm.Cond.methodLink "PictureMachine$Processor" (125 : Nat) ({ cls := "PictureMachine$Processor", name := "pull", desc := "()I" } : Jvm.MethodName)) ∈ al := al_in (ck_3 (List.mem_of_getElem? (i := 194) (by decide +kernel))) (by decide)
theorem m_676 : (Jvm.Cond.instanceMethod ({ cls := "PictureMachine$Processor", name := "pull", desc := "()I" } : Jvm.MethodName)) ∈ al := al_in (ck_3 (List.mem_of_getElem? (i := 196) (by decide +kernel))) (by decide)
theorem m_677 : (Jvm.Cond.code ({ cls := "PictureMachine$Processor", name := "pull", desc := "()I" } : Jvm.MethodName) prog_9_method_20_code (1 : Nat) (Option.some Jvm.ClassFile.FieldType.int)) ∈ al := al_in (ck_3 (List.mem_of_getElem? (i := 197) rfl)) (by decide)
theorem m_678 : (Jvm.Cond.methodLink "PictureMachine$Processor" (128 : Nat) ({ cls := "PictureMachine$Processor", name := "branchIf", desc := "(Z)V" } : Jvm.MethodName)) ∈ al := al_in (ck_3 (List.mem_of_getElem? (i := 198) (by decide +kernel))) (by decide)
theorem m_680 : (Jvm.Cond.instanceMethod ({ cls := "PictureMachine$Processor", name := "branchIf", desc := "(Z)V" } : Jvm.MethodName)) ∈ al := al_in (ck_3 (List.mem_of_getElem? (i := 200) (by decide +kernel))) (by decide)
theorem m_681 : (Jvm.Cond.code ({ cls := "PictureMachine$Processor", name := "branchIf", desc := "(Z)V" } : Jvm.MethodName) prog_9_method_15_code (4 : Nat) (Option.none : Option Jvm.ClassFile.FieldType)) ∈ al := al_in (ck_3 (List.mem_of_getElem? (i := 201) rfl)) (by decide)
theorem m_682 : (Jvm.Cond.methodLink "PictureMachine$Processor" (132 : Nat) ({ cls := "PictureMachine$Processor", name := "callPart", desc := "(I)V" } : Jvm.MethodName)) ∈ al := al_in (ck_3 (List.mem_of_getElem? (i := 202) (by decide +kernel))) (by decide)
theorem m_684 : (Jvm.Cond.instanceMethod ({ cls := "PictureMachine$Processor", name := "callPart", desc := "(I)V" } : Jvm.MethodName)) ∈ al := al_in (ck_3 (List.mem_of_getElem? (i := 204) (by decide +kernel))) (by decide)
theorem m_685 : (Jvm.Cond.code ({ cls := "PictureMachine$Processor", name := "callPart", desc := "(I)V" } : Jvm.MethodName) prog_9_method_16_code (2 : Nat) (Option.none : Option Jvm.ClassFile.FieldType)) ∈ al := al_in (ck_3 (List.mem_of_getElem? (i := 205) rfl)) (by decide)
theorem m_686 : (Jvm.Cond.methodLink "PictureMachine$Processor" (135 : Nat) ({ cls := "PictureMachine$Processor", name := "pullPlace", desc := "()I" } : Jvm.MethodName)) ∈ al := al_in (ck_3 (List.mem_of_getElem? (i := 206) (by decide +kernel))) (by decide)
theorem m_688 : (Jvm.Cond.instanceMethod ({ cls := "PictureMachine$Processor", name := "pullPlace", desc := "()I" } : Jvm.MethodName)) ∈ al := al_in (ck_3 (List.mem_of_getElem? (i := 208) (by decide +kernel))) (by decide)
theorem m_689 : (Jvm.Cond.code ({ cls := "PictureMachine$Processor", name := "pullPlace", desc := "()I" } : Jvm.MethodName) prog_9_method_21_code (2 : Nat) (Option.some Jvm.ClassFile.FieldType.int)) ∈ al := al_in (ck_3 (List.mem_of_getElem? (i := 209) rfl)) (by decide)
theorem m_690 : (Jvm.Cond.methodLink "PictureMachine$Processor" (138 : Nat) ({ cls := "PictureMachine$Processor", name := "returnFromNmi", desc := "()V" } : Jvm.MethodName)) ∈ al := al_in (ck_3 (List.mem_of_getElem? (i := 210) (by decide +kernel))) (by decide)
theorem m_692 : (Jvm.Cond.instanceMethod ({ cls := "PictureMachine$Processor", name := "returnFromNmi", desc := "()V" } : Jvm.MethodName)) ∈ al := al_in (ck_3 (List.mem_of_getElem? (i := 212) (by decide +kernel))) (by decide)
theorem m_693 : (Jvm.Cond.code ({ cls := "PictureMachine$Processor", name := "returnFromNmi", desc := "()V" } : Jvm.MethodName) prog_9_method_17_code (2 : Nat) (Option.none : Option Jvm.ClassFile.FieldType)) ∈ al := al_in (ck_3 (List.mem_of_getElem? (i := 213) rfl)) (by decide)
theorem m_694 : (Jvm.Cond.methodLink "PictureMachine$Processor" (141 : Nat) ({ cls := "PictureMachine$Processor", name := "jam", desc := "()V" } : Jvm.MethodName)) ∈ al := al_in (ck_3 (List.mem_of_getElem? (i := 214) (by decide +kernel))) (by decide)
theorem m_696 : (Jvm.Cond.instanceMethod ({ cls := "PictureMachine$Processor", name := "jam", desc := "()V" } : Jvm.MethodName)) ∈ al := al_in (ck_3 (List.mem_of_getElem? (i := 216) (by decide +kernel))) (by decide)
theorem m_697 : (Jvm.Cond.code ({ cls := "PictureMachine$Processor", name := "jam", desc := "()V" } : Jvm.MethodName) prog_9_method_8_code (1 : Nat) (Option.none : Option Jvm.ClassFile.FieldType)) ∈ al := al_in (ck_3 (List.mem_of_getElem? (i := 217) rfl)) (by decide)
theorem m_698 : (Jvm.Cond.methodLink "PictureMachine" (215 : Nat) ({ cls := "PictureMachine$Chance", name := "passCycle", desc := "()V" } : Jvm.MethodName)) ∈ al := al_in (ck_3 (List.mem_of_getElem? (i := 218) (by decide +kernel))) (by decide)
theorem m_699 : (Jvm.Cond.instanceMethod ({ cls := "PictureMachine$Chance", name := "passCycle", desc := "()V" } : Jvm.MethodName)) ∈ al := al_in (ck_3 (List.mem_of_getElem? (i := 219) (by decide +kernel))) (by decide)
theorem m_700 : (Jvm.Cond.selects "PictureMachine$Chance" ({ cls := "PictureMachine$Chance", name := "passCycle", desc := "()V" } : Jvm.MethodName) ({ cls := "PictureMachine$Chance", name := "passCycle", desc := "()V" } : Jvm.MethodName)) ∈ al := al_in (ck_3 (List.mem_of_getElem? (i := 220) (by decide +kernel))) (by decide)
theorem m_701 : (Jvm.Cond.code ({ cls := "PictureMachine$Chance", name := "passCycle", desc := "()V" } : Jvm.MethodName) prog_3_method_2_code (2 : Nat) (Option.none : Option Jvm.ClassFile.FieldType)) ∈ al := al_in (ck_3 (List.mem_of_getElem? (i := 221) rfl)) (by decide)
theorem m_702 : (Jvm.Cond.methodLink "PictureMachine" (217 : Nat) ({ cls := "PictureMachine", name := "endLine", desc := "(I)V" } : Jvm.MethodName)) ∈ al := al_in (ck_3 (List.mem_of_getElem? (i := 222) (by decide +kernel))) (by decide)
theorem m_704 : (Jvm.Cond.instanceMethod ({ cls := "PictureMachine", name := "endLine", desc := "(I)V" } : Jvm.MethodName)) ∈ al := al_in (ck_3 (List.mem_of_getElem? (i := 224) (by decide +kernel))) (by decide)
theorem m_705 : (Jvm.Cond.code ({ cls := "PictureMachine", name := "endLine", desc := "(I)V" } : Jvm.MethodName) prog_1_method_13_code (2 : Nat) (Option.none : Option Jvm.ClassFile.FieldType)) ∈ al := al_in (ck_3 (List.mem_of_getElem? (i := 225) rfl)) (by decide)
theorem m_706 : (Jvm.Cond.methodLink "PictureMachine" (79 : Nat) ({ cls := "PictureMachine", name := "isShownLine", desc := "(I)Z" } : Jvm.MethodName)) ∈ al := al_in (ck_3 (List.mem_of_getElem? (i := 226) (by decide +kernel))) (by decide)
theorem m_707 : (Jvm.Cond.methodLink "PictureMachine" (224 : Nat) ({ cls := "PictureMachine$Picture", name := "drawLine", desc := "(I)V" } : Jvm.MethodName)) ∈ al := al_in (ck_3 (List.mem_of_getElem? (i := 227) (by decide +kernel))) (by decide)
theorem m_708 : (Jvm.Cond.instanceMethod ({ cls := "PictureMachine$Picture", name := "drawLine", desc := "(I)V" } : Jvm.MethodName)) ∈ al := al_in (ck_3 (List.mem_of_getElem? (i := 228) (by decide +kernel))) (by decide)
theorem m_709 : (Jvm.Cond.selects "PictureMachine$Picture" ({ cls := "PictureMachine$Picture", name := "drawLine", desc := "(I)V" } : Jvm.MethodName) ({ cls := "PictureMachine$Picture", name := "drawLine", desc := "(I)V" } : Jvm.MethodName)) ∈ al := al_in (ck_3 (List.mem_of_getElem? (i := 229) (by decide +kernel))) (by decide)
theorem m_710 : (Jvm.Cond.code ({ cls := "PictureMachine$Picture", name := "drawLine", desc := "(I)V" } : Jvm.MethodName) prog_8_method_4_code (8 : Nat) (Option.none : Option Jvm.ClassFile.FieldType)) ∈ al := al_in (ck_3 (List.mem_of_getElem? (i := 230) rfl)) (by decide)
theorem m_711 : (Jvm.Cond.methodLink "PictureMachine$Picture" (25 : Nat) ({ cls := "PictureMachine$Picture", name := "firstDotOf", desc := "(I)I" } : Jvm.MethodName)) ∈ al := al_in (ck_3 (List.mem_of_getElem? (i := 231) (by decide +kernel))) (by decide)
theorem m_712 : (Jvm.Cond.static ({ cls := "PictureMachine$Picture", name := "firstDotOf", desc := "(I)I" } : Jvm.MethodName)) ∈ al := al_in (ck_3 (List.mem_of_getElem? (i := 232) (by decide +kernel))) (by decide)
theorem m_713 : (Jvm.Cond.code ({ cls := "PictureMachine$Picture", name := "firstDotOf", desc := "(I)I" } : Jvm.MethodName) prog_8_method_5_code (1 : Nat) (Option.some Jvm.ClassFile.FieldType.int)) ∈ al := al_in (ck_3 (List.mem_of_getElem? (i := 233) rfl)) (by decide)
theorem m_714 : (Jvm.Cond.methodLink "PictureMachine$Picture" (33 : Nat) ({ cls := "PictureMachine$Display", name := "shownByte", desc := "(I)I" } : Jvm.MethodName)) ∈ al := al_in (ck_3 (List.mem_of_getElem? (i := 234) (by decide +kernel))) (by decide)
theorem m_715 : (Jvm.Cond.instanceMethod ({ cls := "PictureMachine$Display", name := "shownByte", desc := "(I)I" } : Jvm.MethodName)) ∈ al := al_in (ck_3 (List.mem_of_getElem? (i := 235) (by decide +kernel))) (by decide)
theorem m_716 : (Jvm.Cond.selects "PictureMachine$Display" ({ cls := "PictureMachine$Display", name := "shownByte", desc := "(I)I" } : Jvm.MethodName) ({ cls := "PictureMachine$Display", name := "shownByte", desc := "(I)I" } : Jvm.MethodName)) ∈ al := al_in (ck_3 (List.mem_of_getElem? (i := 236) (by decide +kernel))) (by decide)
theorem m_717 : (Jvm.Cond.code ({ cls := "PictureMachine$Display", name := "shownByte", desc := "(I)I" } : Jvm.MethodName) prog_5_method_4_code (2 : Nat) (Option.some Jvm.ClassFile.FieldType.int)) ∈ al := al_in (ck_3 (List.mem_of_getElem? (i := 237) rfl)) (by decide)
theorem m_718 : (Jvm.Cond.methodLink "PictureMachine$Picture" (38 : Nat) ({ cls := "PictureMachine$Picture", name := "drawnDot", desc := "(II)I" } : Jvm.MethodName)) ∈ al := al_in (ck_3 (List.mem_of_getElem? (i := 238) (by decide +kernel))) (by decide)
theorem m_720 : (Jvm.Cond.instanceMethod ({ cls := "PictureMachine$Picture", name := "drawnDot", desc := "(II)I" } : Jvm.MethodName)) ∈ al := al_in (ck_4 (List.mem_of_getElem? (i := 0) (by decide +kernel))) (by decide)
theorem m_721 : (Jvm.Cond.code ({ cls := "PictureMachine$Picture", name := "drawnDot", desc := "(II)I" } : Jvm.MethodName) prog_8_method_6_code (6 : Nat) (Option.some Jvm.ClassFile.FieldType.int)) ∈ al := al_in (ck_4 (List.mem_of_getElem? (i := 1) rfl)) (by decide)
theorem m_722 : (Jvm.Cond.methodLink "PictureMachine$Picture" (42 : Nat) ({ cls := "PictureMachine$Picture", name := "covers", desc := "(II)Z" } : Jvm.MethodName)) ∈ al := al_in (ck_4 (List.mem_of_getElem? (i := 2) (by decide +kernel))) (by decide)
theorem m_724 : (Jvm.Cond.instanceMethod ({ cls := "PictureMachine$Picture", name := "covers", desc := "(II)Z" } : Jvm.MethodName)) ∈ al := al_in (ck_4 (List.mem_of_getElem? (i := 4) (by decide +kernel))) (by decide)
theorem m_725 : (Jvm.Cond.code ({ cls := "PictureMachine$Picture", name := "covers", desc := "(II)Z" } : Jvm.MethodName) prog_8_method_8_code (6 : Nat) (Option.some Jvm.ClassFile.FieldType.boolean)) ∈ al := al_in (ck_4 (List.mem_of_getElem? (i := 5) rfl)) (by decide)
theorem m_726 : (Jvm.Cond.methodLink "PictureMachine$Picture" (46 : Nat) ({ cls := "PictureMachine$Picture", name := "collide", desc := "(II)V" } : Jvm.MethodName)) ∈ al := al_in (ck_4 (List.mem_of_getElem? (i := 6) (by decide +kernel))) (by decide)
theorem m_728 : (Jvm.Cond.instanceMethod ({ cls := "PictureMachine$Picture", name := "collide", desc := "(II)V" } : Jvm.MethodName)) ∈ al := al_in (ck_4 (List.mem_of_getElem? (i := 8) (by decide +kernel))) (by decide)
theorem m_729 : (Jvm.Cond.code ({ cls := "PictureMachine$Picture", name := "collide", desc := "(II)V" } : Jvm.MethodName) prog_8_method_7_code (3 : Nat) (Option.none : Option Jvm.ClassFile.FieldType)) ∈ al := al_in (ck_4 (List.mem_of_getElem? (i := 9) rfl)) (by decide)
theorem m_730 : (Jvm.Cond.methodLink "PictureMachine" (227 : Nat) ({ cls := "PictureMachine$Display", name := "finishRow", desc := "()V" } : Jvm.MethodName)) ∈ al := al_in (ck_4 (List.mem_of_getElem? (i := 10) (by decide +kernel))) (by decide)
theorem m_731 : (Jvm.Cond.instanceMethod ({ cls := "PictureMachine$Display", name := "finishRow", desc := "()V" } : Jvm.MethodName)) ∈ al := al_in (ck_4 (List.mem_of_getElem? (i := 11) (by decide +kernel))) (by decide)
theorem m_732 : (Jvm.Cond.selects "PictureMachine$Display" ({ cls := "PictureMachine$Display", name := "finishRow", desc := "()V" } : Jvm.MethodName) ({ cls := "PictureMachine$Display", name := "finishRow", desc := "()V" } : Jvm.MethodName)) ∈ al := al_in (ck_4 (List.mem_of_getElem? (i := 12) (by decide +kernel))) (by decide)
theorem m_733 : (Jvm.Cond.code ({ cls := "PictureMachine$Display", name := "finishRow", desc := "()V" } : Jvm.MethodName) prog_5_method_3_code (1 : Nat) (Option.none : Option Jvm.ClassFile.FieldType)) ∈ al := al_in (ck_4 (List.mem_of_getElem? (i := 13) rfl)) (by decide)
theorem m_734 : (Jvm.Cond.methodLink "PictureMachine" (230 : Nat) ({ cls := "PictureMachine$Drive", name := "sendAnswer", desc := "()V" } : Jvm.MethodName)) ∈ al := al_in (ck_4 (List.mem_of_getElem? (i := 14) (by decide +kernel))) (by decide)
theorem m_735 : (Jvm.Cond.instanceMethod ({ cls := "PictureMachine$Drive", name := "sendAnswer", desc := "()V" } : Jvm.MethodName)) ∈ al := al_in (ck_4 (List.mem_of_getElem? (i := 15) (by decide +kernel))) (by decide)
theorem m_736 : (Jvm.Cond.selects "PictureMachine$Drive" ({ cls := "PictureMachine$Drive", name := "sendAnswer", desc := "()V" } : Jvm.MethodName) ({ cls := "PictureMachine$Drive", name := "sendAnswer", desc := "()V" } : Jvm.MethodName)) ∈ al := al_in (ck_4 (List.mem_of_getElem? (i := 16) (by decide +kernel))) (by decide)
theorem m_737 : (Jvm.Cond.code ({ cls := "PictureMachine$Drive", name := "sendAnswer", desc := "()V" } : Jvm.MethodName) prog_6_method_5_code (1 : Nat) (Option.none : Option Jvm.ClassFile.FieldType)) ∈ al := al_in (ck_4 (List.mem_of_getElem? (i := 17) rfl)) (by decide)
theorem m_738 : (Jvm.Cond.methodLink "PictureMachine" (221 : Nat) ({ cls := "PictureMachine$Clock", name := "moveOn", desc := "()V" } : Jvm.MethodName)) ∈ al := al_in (ck_4 (List.mem_of_getElem? (i := 18) (by decide +kernel))) (by decide)
theorem m_739 : (Jvm.Cond.instanceMethod ({ cls := "PictureMachine$Clock", name := "moveOn", desc := "()V" } : Jvm.MethodName)) ∈ al := al_in (ck_4 (List.mem_of_getElem? (i := 19) (by decide +kernel))) (by decide)
theorem m_740 : (Jvm.Cond.selects "PictureMachine$Clock" ({ cls := "PictureMachine$Clock", name := "moveOn", desc := "()V" } : Jvm.MethodName) ({ cls := "PictureMachine$Clock", name := "moveOn", desc := "()V" } : Jvm.MethodName)) ∈ al := al_in (ck_4 (List.mem_of_getElem? (i := 20) (by decide +kernel))) (by decide)
theorem m_741 : (Jvm.Cond.code ({ cls := "PictureMachine$Clock", name := "moveOn", desc := "()V" } : Jvm.MethodName) prog_4_method_2_code (1 : Nat) (Option.none : Option Jvm.ClassFile.FieldType)) ∈ al := al_in (ck_4 (List.mem_of_getElem? (i := 21) rfl)) (by decide)
theorem m_742 : (Jvm.Cond.methodLink "PictureMachineLaw" (78 : Nat) ({ cls := "PictureMachineLaw", name := "dot", desc := "(LPictureMachine;II[J)I" } : Jvm.MethodName)) ∈ al := al_in (ck_4 (List.mem_of_getElem? (i := 22) (by decide +kernel))) (by decide)
theorem m_743 : (Jvm.Cond.static ({ cls := "PictureMachineLaw", name := "dot", desc := "(LPictureMachine;II[J)I" } : Jvm.MethodName)) ∈ al := al_in (ck_4 (List.mem_of_getElem? (i := 23) (by decide +kernel))) (by decide)
theorem m_744 : (Jvm.Cond.codeWith ({ cls := "PictureMachineLaw", name := "dot", desc := "(LPictureMachine;II[J)I" } : Jvm.MethodName) method_10_code (5 : Nat) (Option.some Jvm.ClassFile.FieldType.int) [((0 : Nat), (10 : Nat), (13 : Nat), (40 : Nat))]) ∈ al := al_in (ck_4 (List.mem_of_getElem? (i := 24) rfl)) (by decide)
theorem m_745 : (Jvm.Cond.classLink "PictureMachineLaw" (40 : Nat) "java/lang/IndexOutOfBoundsException") ∈ al := al_in (ck_4 (List.mem_of_getElem? (i := 25) (by decide +kernel))) (by decide)
theorem m_746 : (Jvm.Cond.methodLink "PictureMachineLaw" (37 : Nat) ({ cls := "PictureMachine", name := "dot", desc := "(II)I" } : Jvm.MethodName)) ∈ al := al_in (ck_4 (List.mem_of_getElem? (i := 26) (by decide +kernel))) (by decide)
theorem m_747 : (Jvm.Cond.instanceMethod ({ cls := "PictureMachine", name := "dot", desc := "(II)I" } : Jvm.MethodName)) ∈ al := al_in (ck_4 (List.mem_of_getElem? (i := 27) (by decide +kernel))) (by decide)
theorem m_748 : (Jvm.Cond.selects "PictureMachine" ({ cls := "PictureMachine", name := "dot", desc := "(II)I" } : Jvm.MethodName) ({ cls := "PictureMachine", name := "dot", desc := "(II)I" } : Jvm.MethodName)) ∈ al := al_in (ck_4 (List.mem_of_getElem? (i := 28) (by decide +kernel))) (by decide)
theorem m_749 : (Jvm.Cond.code ({ cls := "PictureMachine", name := "dot", desc := "(II)I" } : Jvm.MethodName) prog_1_method_9_code (3 : Nat) (Option.some Jvm.ClassFile.FieldType.int)) ∈ al := al_in (ck_4 (List.mem_of_getElem? (i := 29) rfl)) (by decide)
theorem m_750 : (Jvm.Cond.classLink "PictureMachine" (82 : Nat) "java/lang/IndexOutOfBoundsException") ∈ al := al_in (ck_4 (List.mem_of_getElem? (i := 30) (by decide +kernel))) (by decide)
theorem m_751 : (Jvm.Cond.instantiable "java/lang/IndexOutOfBoundsException" (6 : Nat)) ∈ al := al_in (ck_4 (List.mem_of_getElem? (i := 31) (by decide +kernel))) (by decide)
theorem m_753 : (Jvm.Cond.selects "java/lang/IndexOutOfBoundsException" ({ cls := "java/lang/Throwable", name := "fillInStackTrace", desc := "(I)Ljava/lang/Throwable;" } : Jvm.MethodName) ({ cls := "java/lang/Throwable", name := "fillInStackTrace", desc := "(I)Ljava/lang/Throwable;" } : Jvm.MethodName)) ∈ al := al_in (ck_4 (List.mem_of_getElem? (i := 33) (by decide +kernel))) (by decide)
theorem m_759 : (Jvm.Cond.methodLink "PictureMachine" (84 : Nat) ({ cls := "java/lang/IndexOutOfBoundsException", name := "<init>", desc := "()V" } : Jvm.MethodName)) ∈ al := al_in (ck_4 (List.mem_of_getElem? (i := 39) (by decide +kernel))) (by decide)
theorem m_760 : (Jvm.Cond.instanceMethod ({ cls := "java/lang/IndexOutOfBoundsException", name := "<init>", desc := "()V" } : Jvm.MethodName)) ∈ al := al_in (ck_4 (List.mem_of_getElem? (i := 40) (by decide +kernel))) (by decide)
theorem m_761 : (Jvm.Cond.code ({ cls := "java/lang/IndexOutOfBoundsException", name := "<init>", desc := "()V" } : Jvm.MethodName) prog_15_method_1_code (1 : Nat) (Option.none : Option Jvm.ClassFile.FieldType)) ∈ al := al_in (ck_4 (List.mem_of_getElem? (i := 41) rfl)) (by decide)
theorem m_762 : (Jvm.Cond.methodLink "java/lang/IndexOutOfBoundsException" (1 : Nat) ({ cls := "java/lang/RuntimeException", name := "<init>", desc := "()V" } : Jvm.MethodName)) ∈ al := al_in (ck_4 (List.mem_of_getElem? (i := 42) (by decide +kernel))) (by decide)
theorem m_765 : (Jvm.Cond.methodLink "PictureMachine" (89 : Nat) ({ cls := "PictureMachine$Picture", name := "dotAt", desc := "(II)I" } : Jvm.MethodName)) ∈ al := al_in (ck_4 (List.mem_of_getElem? (i := 45) (by decide +kernel))) (by decide)
theorem m_766 : (Jvm.Cond.instanceMethod ({ cls := "PictureMachine$Picture", name := "dotAt", desc := "(II)I" } : Jvm.MethodName)) ∈ al := al_in (ck_4 (List.mem_of_getElem? (i := 46) (by decide +kernel))) (by decide)
theorem m_767 : (Jvm.Cond.selects "PictureMachine$Picture" ({ cls := "PictureMachine$Picture", name := "dotAt", desc := "(II)I" } : Jvm.MethodName) ({ cls := "PictureMachine$Picture", name := "dotAt", desc := "(II)I" } : Jvm.MethodName)) ∈ al := al_in (ck_4 (List.mem_of_getElem? (i := 47) (by decide +kernel))) (by decide)
theorem m_768 : (Jvm.Cond.code ({ cls := "PictureMachine$Picture", name := "dotAt", desc := "(II)I" } : Jvm.MethodName) prog_8_method_2_code (3 : Nat) (Option.some Jvm.ClassFile.FieldType.int)) ∈ al := al_in (ck_4 (List.mem_of_getElem? (i := 48) rfl)) (by decide)
theorem m_769 : (Jvm.Cond.classLink "PictureMachineLaw" (43 : Nat) "PictureMachineModel") ∈ al := al_in (ck_4 (List.mem_of_getElem? (i := 49) (by decide +kernel))) (by decide)
theorem m_770 : (Jvm.Cond.instantiable "PictureMachineModel" (49 : Nat)) ∈ al := al_in (ck_4 (List.mem_of_getElem? (i := 50) (by decide +kernel))) (by decide)
theorem m_771 : (Jvm.Cond.methodLink "PictureMachineLaw" (45 : Nat) ({ cls := "PictureMachineModel", name := "<init>", desc := "()V" } : Jvm.MethodName)) ∈ al := al_in (ck_4 (List.mem_of_getElem? (i := 51) (by decide +kernel))) (by decide)
theorem m_772 : (Jvm.Cond.instanceMethod ({ cls := "PictureMachineModel", name := "<init>", desc := "()V" } : Jvm.MethodName)) ∈ al := al_in (ck_4 (List.mem_of_getElem? (i := 52) (by decide +kernel))) (by decide)
theorem m_773 : (Jvm.Cond.code ({ cls := "PictureMachineModel", name := "<init>", desc := "()V" } : Jvm.MethodName) prog_12_method_1_code (1 : Nat) (Option.none : Option Jvm.ClassFile.FieldType)) ∈ al := al_in (ck_4 (List.mem_of_getElem? (i := 53) rfl)) (by decide)
theorem m_774 : (Jvm.Cond.methodLink "PictureMachineModel" (1 : Nat) ({ cls := "java/lang/Object", name := "<init>", desc := "()V" } : Jvm.MethodName)) ∈ al := al_in (ck_4 (List.mem_of_getElem? (i := 54) (by decide +kernel))) (by decide)
theorem m_775 : (Jvm.Cond.fieldLink "PictureMachineModel" (47 : Nat) "PictureMachineModel" "code" "I") ∈ al := al_in (ck_4 (List.mem_of_getElem? (i := 55) (by decide +kernel))) (by decide)
theorem m_776 : (Jvm.Cond.fieldLink "PictureMachineModel" (7 : Nat) "PictureMachineModel" "memory" "[I") ∈ al := al_in (ck_4 (List.mem_of_getElem? (i := 56) (by decide +kernel))) (by decide)
theorem m_777 : (Jvm.Cond.fieldLink "PictureMachineModel" (13 : Nat) "PictureMachineModel" "registers" "[I") ∈ al := al_in (ck_4 (List.mem_of_getElem? (i := 57) (by decide +kernel))) (by decide)
theorem m_778 : (Jvm.Cond.fieldLink "PictureMachineModel" (290 : Nat) "PictureMachineModel" "frame" "I") ∈ al := al_in (ck_4 (List.mem_of_getElem? (i := 58) (by decide +kernel))) (by decide)
theorem m_779 : (Jvm.Cond.fieldLink "PictureMachineModel" (58 : Nat) "PictureMachineModel" "line" "I") ∈ al := al_in (ck_4 (List.mem_of_getElem? (i := 59) (by decide +kernel))) (by decide)
theorem m_780 : (Jvm.Cond.fieldLink "PictureMachineModel" (220 : Nat) "PictureMachineModel" "cycle" "I") ∈ al := al_in (ck_4 (List.mem_of_getElem? (i := 60) (by decide +kernel))) (by decide)
theorem m_781 : (Jvm.Cond.fieldLink "PictureMachineModel" (132 : Nat) "PictureMachineModel" "a" "I") ∈ al := al_in (ck_4 (List.mem_of_getElem? (i := 61) (by decide +kernel))) (by decide)
theorem m_782 : (Jvm.Cond.fieldLink "PictureMachineModel" (172 : Nat) "PictureMachineModel" "x" "I") ∈ al := al_in (ck_4 (List.mem_of_getElem? (i := 62) (by decide +kernel))) (by decide)
theorem m_783 : (Jvm.Cond.fieldLink "PictureMachineModel" (188 : Nat) "PictureMachineModel" "y" "I") ∈ al := al_in (ck_4 (List.mem_of_getElem? (i := 63) (by decide +kernel))) (by decide)
theorem m_784 : (Jvm.Cond.fieldLink "PictureMachineModel" (16 : Nat) "PictureMachineModel" "s" "I") ∈ al := al_in (ck_4 (List.mem_of_getElem? (i := 64) (by decide +kernel))) (by decide)
theorem m_785 : (Jvm.Cond.fieldLink "PictureMachineModel" (20 : Nat) "PictureMachineModel" "pc" "I") ∈ al := al_in (ck_4 (List.mem_of_getElem? (i := 65) (by decide +kernel))) (by decide)
theorem m_786 : (Jvm.Cond.fieldLink "PictureMachineModel" (123 : Nat) "PictureMachineModel" "negative" "Z") ∈ al := al_in (ck_4 (List.mem_of_getElem? (i := 66) (by decide +kernel))) (by decide)
theorem m_787 : (Jvm.Cond.fieldLink "PictureMachineModel" (126 : Nat) "PictureMachineModel" "zero" "Z") ∈ al := al_in (ck_4 (List.mem_of_getElem? (i := 67) (by decide +kernel))) (by decide)
theorem m_788 : (Jvm.Cond.fieldLink "PictureMachineModel" (129 : Nat) "PictureMachineModel" "carry" "Z") ∈ al := al_in (ck_4 (List.mem_of_getElem? (i := 68) (by decide +kernel))) (by decide)
theorem m_789 : (Jvm.Cond.fieldLink "PictureMachineModel" (151 : Nat) "PictureMachineModel" "jammed" "Z") ∈ al := al_in (ck_4 (List.mem_of_getElem? (i := 69) (by decide +kernel))) (by decide)
theorem m_790 : (Jvm.Cond.fieldLink "PictureMachineModel" (84 : Nat) "PictureMachineModel" "held" "Z") ∈ al := al_in (ck_4 (List.mem_of_getElem? (i := 70) (by decide +kernel))) (by decide)
theorem m_791 : (Jvm.Cond.fieldLink "PictureMachineModel" (145 : Nat) "PictureMachineModel" "requested" "Z") ∈ al := al_in (ck_4 (List.mem_of_getElem? (i := 71) (by decide +kernel))) (by decide)
theorem m_792 : (Jvm.Cond.fieldLink "PictureMachineModel" (148 : Nat) "PictureMachineModel" "interrupts" "Z") ∈ al := al_in (ck_4 (List.mem_of_getElem? (i := 72) (by decide +kernel))) (by decide)
theorem m_793 : (Jvm.Cond.fieldLink "PictureMachineModel" (154 : Nat) "PictureMachineModel" "left" "I") ∈ al := al_in (ck_4 (List.mem_of_getElem? (i := 73) (by decide +kernel))) (by decide)
theorem m_794 : (Jvm.Cond.fieldLink "PictureMachineModel" (160 : Nat) "PictureMachineModel" "present" "I") ∈ al := al_in (ck_4 (List.mem_of_getElem? (i := 74) (by decide +kernel))) (by decide)
theorem m_795 : (Jvm.Cond.fieldLink "PictureMachineModel" (223 : Nat) "PictureMachineModel" "list" "I") ∈ al := al_in (ck_4 (List.mem_of_getElem? (i := 75) (by decide +kernel))) (by decide)
theorem m_796 : (Jvm.Cond.fieldLink "PictureMachineModel" (259 : Nat) "PictureMachineModel" "data" "I") ∈ al := al_in (ck_4 (List.mem_of_getElem? (i := 76) (by decide +kernel))) (by decide)
theorem m_797 : (Jvm.Cond.fieldLink "PictureMachineModel" (211 : Nat) "PictureMachineModel" "there" "Z") ∈ al := al_in (ck_4 (List.mem_of_getElem? (i := 77) (by decide +kernel))) (by decide)
theorem m_798 : (Jvm.Cond.fieldLink "PictureMachineModel" (226 : Nat) "PictureMachineModel" "rests" "Z") ∈ al := al_in (ck_4 (List.mem_of_getElem? (i := 78) (by decide +kernel))) (by decide)
theorem m_799 : (Jvm.Cond.fieldLink "PictureMachineModel" (265 : Nat) "PictureMachineModel" "willRest" "Z") ∈ al := al_in (ck_4 (List.mem_of_getElem? (i := 79) (by decide +kernel))) (by decide)
theorem m_800 : (Jvm.Cond.fieldLink "PictureMachineModel" (247 : Nat) "PictureMachineModel" "marked" "Z") ∈ al := al_in (ck_4 (List.mem_of_getElem? (i := 80) (by decide +kernel))) (by decide)
theorem m_801 : (Jvm.Cond.fieldLink "PictureMachineModel" (229 : Nat) "PictureMachineModel" "said" "Z") ∈ al := al_in (ck_4 (List.mem_of_getElem? (i := 81) (by decide +kernel))) (by decide)
theorem m_802 : (Jvm.Cond.fieldLink "PictureMachineModel" (256 : Nat) "PictureMachineModel" "mode" "I") ∈ al := al_in (ck_4 (List.mem_of_getElem? (i := 82) (by decide +kernel))) (by decide)
theorem m_803 : (Jvm.Cond.fieldLink "PictureMachineModel" (214 : Nat) "PictureMachineModel" "row" "I") ∈ al := al_in (ck_4 (List.mem_of_getElem? (i := 83) (by decide +kernel))) (by decide)
theorem m_804 : (Jvm.Cond.fieldLink "PictureMachineModel" (217 : Nat) "PictureMachineModel" "rows" "I") ∈ al := al_in (ck_4 (List.mem_of_getElem? (i := 84) (by decide +kernel))) (by decide)
theorem m_805 : (Jvm.Cond.fieldLink "PictureMachineModel" (268 : Nat) "PictureMachineModel" "lower" "I") ∈ al := al_in (ck_4 (List.mem_of_getElem? (i := 85) (by decide +kernel))) (by decide)
theorem m_806 : (Jvm.Cond.fieldLink "PictureMachineModel" (23 : Nat) "PictureMachineModel" "bytes" "[I") ∈ al := al_in (ck_4 (List.mem_of_getElem? (i := 86) (by decide +kernel))) (by decide)
theorem m_807 : (Jvm.Cond.fieldLink "PictureMachineModel" (26 : Nat) "PictureMachineModel" "letters" "[I") ∈ al := al_in (ck_4 (List.mem_of_getElem? (i := 87) (by decide +kernel))) (by decide)
theorem m_808 : (Jvm.Cond.fieldLink "PictureMachineModel" (61 : Nat) "PictureMachineModel" "causes" "I") ∈ al := al_in (ck_4 (List.mem_of_getElem? (i := 88) (by decide +kernel))) (by decide)
theorem m_809 : (Jvm.Cond.fieldLink "PictureMachineModel" (29 : Nat) "PictureMachineModel" "hits" "[I") ∈ al := al_in (ck_4 (List.mem_of_getElem? (i := 89) (by decide +kernel))) (by decide)
theorem m_810 : (Jvm.Cond.fieldLink "PictureMachineModel" (64 : Nat) "PictureMachineModel" "met" "I") ∈ al := al_in (ck_4 (List.mem_of_getElem? (i := 90) (by decide +kernel))) (by decide)
theorem m_811 : (Jvm.Cond.fieldLink "PictureMachineModel" (32 : Nat) "PictureMachineModel" "shown" "[I") ∈ al := al_in (ck_4 (List.mem_of_getElem? (i := 91) (by decide +kernel))) (by decide)
theorem m_812 : (Jvm.Cond.fieldLink "PictureMachineModel" (35 : Nat) "PictureMachineModel" "chance" "I") ∈ al := al_in (ck_4 (List.mem_of_getElem? (i := 92) (by decide +kernel))) (by decide)
theorem m_813 : (Jvm.Cond.fieldLink "PictureMachineModel" (87 : Nat) "PictureMachineModel" "timer" "I") ∈ al := al_in (ck_4 (List.mem_of_getElem? (i := 93) (by decide +kernel))) (by decide)
theorem m_814 : (Jvm.Cond.fieldLink "PictureMachineModel" (67 : Nat) "PictureMachineModel" "sign" "I") ∈ al := al_in (ck_4 (List.mem_of_getElem? (i := 94) (by decide +kernel))) (by decide)
theorem m_815 : (Jvm.Cond.fieldLink "PictureMachineModel" (77 : Nat) "PictureMachineModel" "stick" "I") ∈ al := al_in (ck_4 (List.mem_of_getElem? (i := 95) (by decide +kernel))) (by decide)
theorem m_816 : (Jvm.Cond.fieldLink "PictureMachineModel" (38 : Nat) "PictureMachineModel" "sectors" "[I") ∈ al := al_in (ck_4 (List.mem_of_getElem? (i := 96) (by decide +kernel))) (by decide)
theorem m_817 : (Jvm.Cond.fieldLink "PictureMachineModel" (41 : Nat) "PictureMachineModel" "gathered" "[I") ∈ al := al_in (ck_4 (List.mem_of_getElem? (i := 97) (by decide +kernel))) (by decide)
theorem m_818 : (Jvm.Cond.fieldLink "PictureMachineModel" (101 : Nat) "PictureMachineModel" "gathers" "I") ∈ al := al_in (ck_4 (List.mem_of_getElem? (i := 98) (by decide +kernel))) (by decide)
theorem m_819 : (Jvm.Cond.fieldLink "PictureMachineModel" (104 : Nat) "PictureMachineModel" "target" "I") ∈ al := al_in (ck_4 (List.mem_of_getElem? (i := 99) (by decide +kernel))) (by decide)
theorem m_820 : (Jvm.Cond.fieldLink "PictureMachineModel" (44 : Nat) "PictureMachineModel" "answers" "[I") ∈ al := al_in (ck_4 (List.mem_of_getElem? (i := 100) (by decide +kernel))) (by decide)
theorem m_821 : (Jvm.Cond.fieldLink "PictureMachineModel" (94 : Nat) "PictureMachineModel" "waiting" "I") ∈ al := al_in (ck_4 (List.mem_of_getElem? (i := 101) (by decide +kernel))) (by decide)
theorem m_822 : (Jvm.Cond.fieldLink "PictureMachineModel" (70 : Nat) "PictureMachineModel" "came" "Z") ∈ al := al_in (ck_4 (List.mem_of_getElem? (i := 102) (by decide +kernel))) (by decide)
theorem m_823 : (Jvm.Cond.fieldLink "PictureMachineModel" (74 : Nat) "PictureMachineModel" "arrived" "I") ∈ al := al_in (ck_4 (List.mem_of_getElem? (i := 103) (by decide +kernel))) (by decide)
theorem m_923 : (Jvm.Cond.methodLink "PictureMachineLaw" (52 : Nat) ({ cls := "PictureMachineModel", name := "thrown", desc := "()I" } : Jvm.MethodName)) ∈ al := al_in (ck_4 (List.mem_of_getElem? (i := 203) (by decide +kernel))) (by decide)
theorem m_924 : (Jvm.Cond.instanceMethod ({ cls := "PictureMachineModel", name := "thrown", desc := "()I" } : Jvm.MethodName)) ∈ al := al_in (ck_4 (List.mem_of_getElem? (i := 204) (by decide +kernel))) (by decide)
theorem m_925 : (Jvm.Cond.selects "PictureMachineModel" ({ cls := "PictureMachineModel", name := "thrown", desc := "()I" } : Jvm.MethodName) ({ cls := "PictureMachineModel", name := "thrown", desc := "()I" } : Jvm.MethodName)) ∈ al := al_in (ck_4 (List.mem_of_getElem? (i := 205) (by decide +kernel))) (by decide)
theorem m_926 : (Jvm.Cond.code ({ cls := "PictureMachineModel", name := "thrown", desc := "()I" } : Jvm.MethodName) prog_12_method_2_code (1 : Nat) (Option.some Jvm.ClassFile.FieldType.int)) ∈ al := al_in (ck_4 (List.mem_of_getElem? (i := 206) rfl)) (by decide)
theorem m_927 : (Jvm.Cond.methodLink "PictureMachineLaw" (77 : Nat) ({ cls := "PictureMachineModel", name := "run", desc := "(I)I" } : Jvm.MethodName)) ∈ al := al_in (ck_4 (List.mem_of_getElem? (i := 207) (by decide +kernel))) (by decide)
theorem m_928 : (Jvm.Cond.instanceMethod ({ cls := "PictureMachineModel", name := "run", desc := "(I)I" } : Jvm.MethodName)) ∈ al := al_in (ck_4 (List.mem_of_getElem? (i := 208) (by decide +kernel))) (by decide)
theorem m_929 : (Jvm.Cond.selects "PictureMachineModel" ({ cls := "PictureMachineModel", name := "run", desc := "(I)I" } : Jvm.MethodName) ({ cls := "PictureMachineModel", name := "run", desc := "(I)I" } : Jvm.MethodName)) ∈ al := al_in (ck_4 (List.mem_of_getElem? (i := 209) (by decide +kernel))) (by decide)
theorem m_930 : (Jvm.Cond.code ({ cls := "PictureMachineModel", name := "run", desc := "(I)I" } : Jvm.MethodName) prog_12_method_47_code (4 : Nat) (Option.some Jvm.ClassFile.FieldType.int)) ∈ al := al_in (ck_4 (List.mem_of_getElem? (i := 210) rfl)) (by decide)
theorem m_931 : (Jvm.Cond.methodLink "PictureMachineModel" (50 : Nat) ({ cls := "PictureMachineModel", name := "in", desc := "(III)Z" } : Jvm.MethodName)) ∈ al := al_in (ck_4 (List.mem_of_getElem? (i := 211) (by decide +kernel))) (by decide)
theorem m_932 : (Jvm.Cond.static ({ cls := "PictureMachineModel", name := "in", desc := "(III)Z" } : Jvm.MethodName)) ∈ al := al_in (ck_4 (List.mem_of_getElem? (i := 212) (by decide +kernel))) (by decide)
theorem m_933 : (Jvm.Cond.code ({ cls := "PictureMachineModel", name := "in", desc := "(III)Z" } : Jvm.MethodName) prog_12_method_3_code (3 : Nat) (Option.some Jvm.ClassFile.FieldType.boolean)) ∈ al := al_in (ck_4 (List.mem_of_getElem? (i := 213) rfl)) (by decide)
theorem m_934 : (Jvm.Cond.methodLink "PictureMachineModel" (293 : Nat) ({ cls := "PictureMachineModel", name := "fails", desc := "()I" } : Jvm.MethodName)) ∈ al := al_in (ck_4 (List.mem_of_getElem? (i := 214) (by decide +kernel))) (by decide)
theorem m_936 : (Jvm.Cond.instanceMethod ({ cls := "PictureMachineModel", name := "fails", desc := "()I" } : Jvm.MethodName)) ∈ al := al_in (ck_4 (List.mem_of_getElem? (i := 216) (by decide +kernel))) (by decide)
theorem m_937 : (Jvm.Cond.code ({ cls := "PictureMachineModel", name := "fails", desc := "()I" } : Jvm.MethodName) prog_12_method_5_code (1 : Nat) (Option.some Jvm.ClassFile.FieldType.int)) ∈ al := al_in (ck_4 (List.mem_of_getElem? (i := 217) rfl)) (by decide)
theorem m_938 : (Jvm.Cond.methodLink "PictureMachineModel" (296 : Nat) ({ cls := "PictureMachineModel", name := "tick", desc := "()Z" } : Jvm.MethodName)) ∈ al := al_in (ck_4 (List.mem_of_getElem? (i := 218) (by decide +kernel))) (by decide)
theorem m_940 : (Jvm.Cond.instanceMethod ({ cls := "PictureMachineModel", name := "tick", desc := "()Z" } : Jvm.MethodName)) ∈ al := al_in (ck_4 (List.mem_of_getElem? (i := 220) (by decide +kernel))) (by decide)
theorem m_941 : (Jvm.Cond.code ({ cls := "PictureMachineModel", name := "tick", desc := "()Z" } : Jvm.MethodName) prog_12_method_46_code (4 : Nat) (Option.some Jvm.ClassFile.FieldType.boolean)) ∈ al := al_in (ck_4 (List.mem_of_getElem? (i := 221) rfl)) (by decide)
theorem m_942 : (Jvm.Cond.methodLink "PictureMachineModel" (278 : Nat) ({ cls := "PictureMachineModel", name := "displays", desc := "()Z" } : Jvm.MethodName)) ∈ al := al_in (ck_4 (List.mem_of_getElem? (i := 222) (by decide +kernel))) (by decide)
theorem m_944 : (Jvm.Cond.instanceMethod ({ cls := "PictureMachineModel", name := "displays", desc := "()Z" } : Jvm.MethodName)) ∈ al := al_in (ck_4 (List.mem_of_getElem? (i := 224) (by decide +kernel))) (by decide)
theorem m_945 : (Jvm.Cond.code ({ cls := "PictureMachineModel", name := "displays", desc := "()Z" } : Jvm.MethodName) prog_12_method_38_code (2 : Nat) (Option.some Jvm.ClassFile.FieldType.boolean)) ∈ al := al_in (ck_4 (List.mem_of_getElem? (i := 225) rfl)) (by decide)
theorem m_946 : (Jvm.Cond.methodLink "PictureMachineModel" (232 : Nat) ({ cls := "PictureMachineModel", name := "asks", desc := "()V" } : Jvm.MethodName)) ∈ al := al_in (ck_4 (List.mem_of_getElem? (i := 226) (by decide +kernel))) (by decide)
theorem m_948 : (Jvm.Cond.instanceMethod ({ cls := "PictureMachineModel", name := "asks", desc := "()V" } : Jvm.MethodName)) ∈ al := al_in (ck_4 (List.mem_of_getElem? (i := 228) (by decide +kernel))) (by decide)
theorem m_949 : (Jvm.Cond.code ({ cls := "PictureMachineModel", name := "asks", desc := "()V" } : Jvm.MethodName) prog_12_method_39_code (3 : Nat) (Option.none : Option Jvm.ClassFile.FieldType)) ∈ al := al_in (ck_4 (List.mem_of_getElem? (i := 229) rfl)) (by decide)
theorem m_950 : (Jvm.Cond.methodLink "PictureMachineModel" (238 : Nat) ({ cls := "PictureMachineModel", name := "isPicture", desc := "()Z" } : Jvm.MethodName)) ∈ al := al_in (ck_4 (List.mem_of_getElem? (i := 230) (by decide +kernel))) (by decide)
theorem m_952 : (Jvm.Cond.instanceMethod ({ cls := "PictureMachineModel", name := "isPicture", desc := "()Z" } : Jvm.MethodName)) ∈ al := al_in (ck_4 (List.mem_of_getElem? (i := 232) (by decide +kernel))) (by decide)
theorem m_953 : (Jvm.Cond.code ({ cls := "PictureMachineModel", name := "isPicture", desc := "()Z" } : Jvm.MethodName) prog_12_method_36_code (1 : Nat) (Option.some Jvm.ClassFile.FieldType.boolean)) ∈ al := al_in (ck_4 (List.mem_of_getElem? (i := 233) rfl)) (by decide)
theorem m_954 : (Jvm.Cond.methodLink "PictureMachineModel" (207 : Nat) ({ cls := "PictureMachineModel", name := "control", desc := "(I)Z" } : Jvm.MethodName)) ∈ al := al_in (ck_4 (List.mem_of_getElem? (i := 234) (by decide +kernel))) (by decide)
theorem m_956 : (Jvm.Cond.instanceMethod ({ cls := "PictureMachineModel", name := "control", desc := "(I)Z" } : Jvm.MethodName)) ∈ al := al_in (ck_4 (List.mem_of_getElem? (i := 236) (by decide +kernel))) (by decide)
theorem m_957 : (Jvm.Cond.code ({ cls := "PictureMachineModel", name := "control", desc := "(I)Z" } : Jvm.MethodName) prog_12_method_6_code (2 : Nat) (Option.some Jvm.ClassFile.FieldType.boolean)) ∈ al := al_in (ck_4 (List.mem_of_getElem? (i := 237) rfl)) (by decide)
theorem m_958 : (Jvm.Cond.methodLink "PictureMachineModel" (244 : Nat) ({ cls := "PictureMachineModel", name := "hasRows", desc := "()Z" } : Jvm.MethodName)) ∈ al := al_in (ck_4 (List.mem_of_getElem? (i := 238) (by decide +kernel))) (by decide)
theorem m_960 : (Jvm.Cond.instanceMethod ({ cls := "PictureMachineModel", name := "hasRows", desc := "()Z" } : Jvm.MethodName)) ∈ al := al_in (ck_5 (List.mem_of_getElem? (i := 0) (by decide +kernel))) (by decide)
theorem m_961 : (Jvm.Cond.code ({ cls := "PictureMachineModel", name := "hasRows", desc := "()Z" } : Jvm.MethodName) prog_12_method_37_code (1 : Nat) (Option.some Jvm.ClassFile.FieldType.boolean)) ∈ al := al_in (ck_5 (List.mem_of_getElem? (i := 1) rfl)) (by decide)
theorem m_962 : (Jvm.Cond.methodLink "PictureMachineModel" (235 : Nat) ({ cls := "PictureMachineModel", name := "fetch", desc := "(I)I" } : Jvm.MethodName)) ∈ al := al_in (ck_5 (List.mem_of_getElem? (i := 2) (by decide +kernel))) (by decide)
theorem m_964 : (Jvm.Cond.instanceMethod ({ cls := "PictureMachineModel", name := "fetch", desc := "(I)I" } : Jvm.MethodName)) ∈ al := al_in (ck_5 (List.mem_of_getElem? (i := 4) (by decide +kernel))) (by decide)
theorem m_965 : (Jvm.Cond.code ({ cls := "PictureMachineModel", name := "fetch", desc := "(I)I" } : Jvm.MethodName) prog_12_method_7_code (2 : Nat) (Option.some Jvm.ClassFile.FieldType.int)) ∈ al := al_in (ck_5 (List.mem_of_getElem? (i := 5) rfl)) (by decide)
theorem m_966 : (Jvm.Cond.methodLink "PictureMachineModel" (241 : Nat) ({ cls := "PictureMachineModel", name := "fetches", desc := "()Z" } : Jvm.MethodName)) ∈ al := al_in (ck_5 (List.mem_of_getElem? (i := 6) (by decide +kernel))) (by decide)
theorem m_968 : (Jvm.Cond.instanceMethod ({ cls := "PictureMachineModel", name := "fetches", desc := "()Z" } : Jvm.MethodName)) ∈ al := al_in (ck_5 (List.mem_of_getElem? (i := 8) (by decide +kernel))) (by decide)
theorem m_969 : (Jvm.Cond.code ({ cls := "PictureMachineModel", name := "fetches", desc := "()Z" } : Jvm.MethodName) prog_12_method_40_code (3 : Nat) (Option.some Jvm.ClassFile.FieldType.boolean)) ∈ al := al_in (ck_5 (List.mem_of_getElem? (i := 9) rfl)) (by decide)
theorem m_970 : (Jvm.Cond.methodLink "PictureMachineModel" (250 : Nat) ({ cls := "PictureMachineModel", name := "begin", desc := "(I)V" } : Jvm.MethodName)) ∈ al := al_in (ck_5 (List.mem_of_getElem? (i := 10) (by decide +kernel))) (by decide)
theorem m_972 : (Jvm.Cond.instanceMethod ({ cls := "PictureMachineModel", name := "begin", desc := "(I)V" } : Jvm.MethodName)) ∈ al := al_in (ck_5 (List.mem_of_getElem? (i := 12) (by decide +kernel))) (by decide)
theorem m_973 : (Jvm.Cond.code ({ cls := "PictureMachineModel", name := "begin", desc := "(I)V" } : Jvm.MethodName) prog_12_method_41_code (3 : Nat) (Option.none : Option Jvm.ClassFile.FieldType)) ∈ al := al_in (ck_5 (List.mem_of_getElem? (i := 13) rfl)) (by decide)
theorem m_974 : (Jvm.Cond.methodLink "PictureMachineModel" (262 : Nat) ({ cls := "PictureMachineModel", name := "moved", desc := "(I)I" } : Jvm.MethodName)) ∈ al := al_in (ck_5 (List.mem_of_getElem? (i := 14) (by decide +kernel))) (by decide)
theorem m_975 : (Jvm.Cond.static ({ cls := "PictureMachineModel", name := "moved", desc := "(I)I" } : Jvm.MethodName)) ∈ al := al_in (ck_5 (List.mem_of_getElem? (i := 15) (by decide +kernel))) (by decide)
theorem m_976 : (Jvm.Cond.code ({ cls := "PictureMachineModel", name := "moved", desc := "(I)I" } : Jvm.MethodName) prog_12_method_35_code (1 : Nat) (Option.some Jvm.ClassFile.FieldType.int)) ∈ al := al_in (ck_5 (List.mem_of_getElem? (i := 16) rfl)) (by decide)
theorem m_977 : (Jvm.Cond.methodLink "PictureMachineModel" (253 : Nat) ({ cls := "PictureMachineModel", name := "addressed", desc := "()Z" } : Jvm.MethodName)) ∈ al := al_in (ck_5 (List.mem_of_getElem? (i := 17) (by decide +kernel))) (by decide)
theorem m_979 : (Jvm.Cond.instanceMethod ({ cls := "PictureMachineModel", name := "addressed", desc := "()Z" } : Jvm.MethodName)) ∈ al := al_in (ck_5 (List.mem_of_getElem? (i := 19) (by decide +kernel))) (by decide)
theorem m_980 : (Jvm.Cond.code ({ cls := "PictureMachineModel", name := "addressed", desc := "()Z" } : Jvm.MethodName) prog_12_method_42_code (3 : Nat) (Option.some Jvm.ClassFile.FieldType.boolean)) ∈ al := al_in (ck_5 (List.mem_of_getElem? (i := 20) rfl)) (by decide)
theorem m_981 : (Jvm.Cond.methodLink "PictureMachineModel" (281 : Nat) ({ cls := "PictureMachineModel", name := "steps", desc := "()Z" } : Jvm.MethodName)) ∈ al := al_in (ck_5 (List.mem_of_getElem? (i := 21) (by decide +kernel))) (by decide)
theorem m_983 : (Jvm.Cond.instanceMethod ({ cls := "PictureMachineModel", name := "steps", desc := "()Z" } : Jvm.MethodName)) ∈ al := al_in (ck_5 (List.mem_of_getElem? (i := 23) (by decide +kernel))) (by decide)
theorem m_984 : (Jvm.Cond.code ({ cls := "PictureMachineModel", name := "steps", desc := "()Z" } : Jvm.MethodName) prog_12_method_28_code (1 : Nat) (Option.some Jvm.ClassFile.FieldType.boolean)) ∈ al := al_in (ck_5 (List.mem_of_getElem? (i := 24) rfl)) (by decide)
theorem m_985 : (Jvm.Cond.methodLink "PictureMachineModel" (157 : Nat) ({ cls := "PictureMachineModel", name := "read", desc := "(I)I" } : Jvm.MethodName)) ∈ al := al_in (ck_5 (List.mem_of_getElem? (i := 25) (by decide +kernel))) (by decide)
theorem m_987 : (Jvm.Cond.instanceMethod ({ cls := "PictureMachineModel", name := "read", desc := "(I)I" } : Jvm.MethodName)) ∈ al := al_in (ck_5 (List.mem_of_getElem? (i := 27) (by decide +kernel))) (by decide)
theorem m_988 : (Jvm.Cond.code ({ cls := "PictureMachineModel", name := "read", desc := "(I)I" } : Jvm.MethodName) prog_12_method_8_code (3 : Nat) (Option.some Jvm.ClassFile.FieldType.int)) ∈ al := al_in (ck_5 (List.mem_of_getElem? (i := 28) rfl)) (by decide)
theorem m_989 : (Jvm.Cond.methodLink "PictureMachineModel" (54 : Nat) ({ cls := "PictureMachineModel", name := "readRegister", desc := "(I)I" } : Jvm.MethodName)) ∈ al := al_in (ck_5 (List.mem_of_getElem? (i := 29) (by decide +kernel))) (by decide)
theorem m_991 : (Jvm.Cond.instanceMethod ({ cls := "PictureMachineModel", name := "readRegister", desc := "(I)I" } : Jvm.MethodName)) ∈ al := al_in (ck_5 (List.mem_of_getElem? (i := 31) (by decide +kernel))) (by decide)
theorem m_992 : (Jvm.Cond.code ({ cls := "PictureMachineModel", name := "readRegister", desc := "(I)I" } : Jvm.MethodName) prog_12_method_9_code (3 : Nat) (Option.some Jvm.ClassFile.FieldType.int)) ∈ al := al_in (ck_5 (List.mem_of_getElem? (i := 32) rfl)) (by decide)
theorem m_993 : (Jvm.Cond.methodLink "PictureMachineModel" (163 : Nat) ({ cls := "PictureMachineModel", name := "meaning", desc := "(I)I" } : Jvm.MethodName)) ∈ al := al_in (ck_5 (List.mem_of_getElem? (i := 33) (by decide +kernel))) (by decide)
theorem m_994 : (Jvm.Cond.static ({ cls := "PictureMachineModel", name := "meaning", desc := "(I)I" } : Jvm.MethodName)) ∈ al := al_in (ck_5 (List.mem_of_getElem? (i := 34) (by decide +kernel))) (by decide)
theorem m_995 : (Jvm.Cond.code ({ cls := "PictureMachineModel", name := "meaning", desc := "(I)I" } : Jvm.MethodName) prog_12_method_19_code (1 : Nat) (Option.some Jvm.ClassFile.FieldType.int)) ∈ al := al_in (ck_5 (List.mem_of_getElem? (i := 35) rfl)) (by decide)
theorem m_996 : (Jvm.Cond.methodLink "PictureMachineModel" (116 : Nat) ({ cls := "PictureMachineModel", name := "coded", desc := "(III)I" } : Jvm.MethodName)) ∈ al := al_in (ck_5 (List.mem_of_getElem? (i := 36) (by decide +kernel))) (by decide)
theorem m_997 : (Jvm.Cond.static ({ cls := "PictureMachineModel", name := "coded", desc := "(III)I" } : Jvm.MethodName)) ∈ al := al_in (ck_5 (List.mem_of_getElem? (i := 37) (by decide +kernel))) (by decide)
theorem m_998 : (Jvm.Cond.code ({ cls := "PictureMachineModel", name := "coded", desc := "(III)I" } : Jvm.MethodName) prog_12_method_18_code (3 : Nat) (Option.some Jvm.ClassFile.FieldType.int)) ∈ al := al_in (ck_5 (List.mem_of_getElem? (i := 38) rfl)) (by decide)
theorem m_999 : (Jvm.Cond.methodLink "PictureMachineModel" (120 : Nat) ({ cls := "PictureMachineModel", name := "single", desc := "(I)I" } : Jvm.MethodName)) ∈ al := al_in (ck_5 (List.mem_of_getElem? (i := 39) (by decide +kernel))) (by decide)
theorem m_1000 : (Jvm.Cond.static ({ cls := "PictureMachineModel", name := "single", desc := "(I)I" } : Jvm.MethodName)) ∈ al := al_in (ck_5 (List.mem_of_getElem? (i := 40) (by decide +kernel))) (by decide)
theorem m_1001 : (Jvm.Cond.code ({ cls := "PictureMachineModel", name := "single", desc := "(I)I" } : Jvm.MethodName) prog_12_method_20_code (1 : Nat) (Option.some Jvm.ClassFile.FieldType.int)) ∈ al := al_in (ck_5 (List.mem_of_getElem? (i := 41) rfl)) (by decide)
theorem m_1002 : (Jvm.Cond.methodLink "PictureMachineModel" (166 : Nat) ({ cls := "PictureMachineModel", name := "interrupt", desc := "()V" } : Jvm.MethodName)) ∈ al := al_in (ck_5 (List.mem_of_getElem? (i := 42) (by decide +kernel))) (by decide)
theorem m_1004 : (Jvm.Cond.instanceMethod ({ cls := "PictureMachineModel", name := "interrupt", desc := "()V" } : Jvm.MethodName)) ∈ al := al_in (ck_5 (List.mem_of_getElem? (i := 44) (by decide +kernel))) (by decide)
theorem m_1005 : (Jvm.Cond.code ({ cls := "PictureMachineModel", name := "interrupt", desc := "()V" } : Jvm.MethodName) prog_12_method_27_code (1 : Nat) (Option.none : Option Jvm.ClassFile.FieldType)) ∈ al := al_in (ck_5 (List.mem_of_getElem? (i := 45) rfl)) (by decide)
theorem m_1006 : (Jvm.Cond.methodLink "PictureMachineModel" (138 : Nat) ({ cls := "PictureMachineModel", name := "push", desc := "(I)V" } : Jvm.MethodName)) ∈ al := al_in (ck_5 (List.mem_of_getElem? (i := 46) (by decide +kernel))) (by decide)
theorem m_1008 : (Jvm.Cond.instanceMethod ({ cls := "PictureMachineModel", name := "push", desc := "(I)V" } : Jvm.MethodName)) ∈ al := al_in (ck_5 (List.mem_of_getElem? (i := 48) (by decide +kernel))) (by decide)
theorem m_1009 : (Jvm.Cond.code ({ cls := "PictureMachineModel", name := "push", desc := "(I)V" } : Jvm.MethodName) prog_12_method_21_code (2 : Nat) (Option.none : Option Jvm.ClassFile.FieldType)) ∈ al := al_in (ck_5 (List.mem_of_getElem? (i := 49) rfl)) (by decide)
theorem m_1010 : (Jvm.Cond.methodLink "PictureMachineModel" (141 : Nat) ({ cls := "PictureMachineModel", name := "flags", desc := "()I" } : Jvm.MethodName)) ∈ al := al_in (ck_5 (List.mem_of_getElem? (i := 50) (by decide +kernel))) (by decide)
theorem m_1012 : (Jvm.Cond.instanceMethod ({ cls := "PictureMachineModel", name := "flags", desc := "()I" } : Jvm.MethodName)) ∈ al := al_in (ck_5 (List.mem_of_getElem? (i := 52) (by decide +kernel))) (by decide)
theorem m_1013 : (Jvm.Cond.code ({ cls := "PictureMachineModel", name := "flags", desc := "()I" } : Jvm.MethodName) prog_12_method_23_code (1 : Nat) (Option.some Jvm.ClassFile.FieldType.int)) ∈ al := al_in (ck_5 (List.mem_of_getElem? (i := 53) rfl)) (by decide)
theorem m_1014 : (Jvm.Cond.methodLink "PictureMachineModel" (169 : Nat) ({ cls := "PictureMachineModel", name := "execute", desc := "()V" } : Jvm.MethodName)) ∈ al := al_in (ck_5 (List.mem_of_getElem? (i := 54) (by decide +kernel))) (by decide)
theorem m_1016 : (Jvm.Cond.instanceMethod ({ cls := "PictureMachineModel", name := "execute", desc := "()V" } : Jvm.MethodName)) ∈ al := al_in (ck_5 (List.mem_of_getElem? (i := 56) (by decide +kernel))) (by decide)
theorem m_1017 : (Jvm.Cond.code ({ cls := "PictureMachineModel", name := "execute", desc := "()V" } : Jvm.MethodName) prog_12_method_29_code (7 : Nat) (Option.none : Option Jvm.ClassFile.FieldType)) ∈ al := al_in (ck_5 (List.mem_of_getElem? (i := 57) rfl)) (by decide)
theorem m_1018 : (Jvm.Cond.methodLink "PictureMachineModel" (175 : Nat) ({ cls := "PictureMachineModel", name := "go", desc := "(III)V" } : Jvm.MethodName)) ∈ al := al_in (ck_5 (List.mem_of_getElem? (i := 58) (by decide +kernel))) (by decide)
theorem m_1020 : (Jvm.Cond.instanceMethod ({ cls := "PictureMachineModel", name := "go", desc := "(III)V" } : Jvm.MethodName)) ∈ al := al_in (ck_5 (List.mem_of_getElem? (i := 60) (by decide +kernel))) (by decide)
theorem m_1021 : (Jvm.Cond.code ({ cls := "PictureMachineModel", name := "go", desc := "(III)V" } : Jvm.MethodName) prog_12_method_33_code (5 : Nat) (Option.none : Option Jvm.ClassFile.FieldType)) ∈ al := al_in (ck_5 (List.mem_of_getElem? (i := 61) rfl)) (by decide)
theorem m_1022 : (Jvm.Cond.methodLink "PictureMachineModel" (200 : Nat) ({ cls := "PictureMachineModel", name := "isTaken", desc := "()Z" } : Jvm.MethodName)) ∈ al := al_in (ck_5 (List.mem_of_getElem? (i := 62) (by decide +kernel))) (by decide)
theorem m_1024 : (Jvm.Cond.instanceMethod ({ cls := "PictureMachineModel", name := "isTaken", desc := "()Z" } : Jvm.MethodName)) ∈ al := al_in (ck_5 (List.mem_of_getElem? (i := 64) (by decide +kernel))) (by decide)
theorem m_1025 : (Jvm.Cond.code ({ cls := "PictureMachineModel", name := "isTaken", desc := "()Z" } : Jvm.MethodName) prog_12_method_32_code (1 : Nat) (Option.some Jvm.ClassFile.FieldType.boolean)) ∈ al := al_in (ck_5 (List.mem_of_getElem? (i := 65) rfl)) (by decide)
theorem m_1026 : (Jvm.Cond.methodLink "PictureMachineModel" (197 : Nat) ({ cls := "PictureMachineModel", name := "pull", desc := "()I" } : Jvm.MethodName)) ∈ al := al_in (ck_5 (List.mem_of_getElem? (i := 66) (by decide +kernel))) (by decide)
theorem m_1028 : (Jvm.Cond.instanceMethod ({ cls := "PictureMachineModel", name := "pull", desc := "()I" } : Jvm.MethodName)) ∈ al := al_in (ck_5 (List.mem_of_getElem? (i := 68) (by decide +kernel))) (by decide)
theorem m_1029 : (Jvm.Cond.code ({ cls := "PictureMachineModel", name := "pull", desc := "()I" } : Jvm.MethodName) prog_12_method_22_code (1 : Nat) (Option.some Jvm.ClassFile.FieldType.int)) ∈ al := al_in (ck_5 (List.mem_of_getElem? (i := 69) rfl)) (by decide)
theorem m_1030 : (Jvm.Cond.methodLink "PictureMachineModel" (204 : Nat) ({ cls := "PictureMachineModel", name := "comeBack", desc := "(I)V" } : Jvm.MethodName)) ∈ al := al_in (ck_5 (List.mem_of_getElem? (i := 70) (by decide +kernel))) (by decide)
theorem m_1032 : (Jvm.Cond.instanceMethod ({ cls := "PictureMachineModel", name := "comeBack", desc := "(I)V" } : Jvm.MethodName)) ∈ al := al_in (ck_5 (List.mem_of_getElem? (i := 72) (by decide +kernel))) (by decide)
theorem m_1033 : (Jvm.Cond.code ({ cls := "PictureMachineModel", name := "comeBack", desc := "(I)V" } : Jvm.MethodName) prog_12_method_34_code (3 : Nat) (Option.none : Option Jvm.ClassFile.FieldType)) ∈ al := al_in (ck_5 (List.mem_of_getElem? (i := 73) rfl)) (by decide)
theorem m_1034 : (Jvm.Cond.methodLink "PictureMachineModel" (179 : Nat) ({ cls := "PictureMachineModel", name := "store", desc := "(II)V" } : Jvm.MethodName)) ∈ al := al_in (ck_5 (List.mem_of_getElem? (i := 74) (by decide +kernel))) (by decide)
theorem m_1036 : (Jvm.Cond.instanceMethod ({ cls := "PictureMachineModel", name := "store", desc := "(II)V" } : Jvm.MethodName)) ∈ al := al_in (ck_5 (List.mem_of_getElem? (i := 76) (by decide +kernel))) (by decide)
theorem m_1037 : (Jvm.Cond.code ({ cls := "PictureMachineModel", name := "store", desc := "(II)V" } : Jvm.MethodName) prog_12_method_10_code (4 : Nat) (Option.none : Option Jvm.ClassFile.FieldType)) ∈ al := al_in (ck_5 (List.mem_of_getElem? (i := 77) rfl)) (by decide)
theorem m_1038 : (Jvm.Cond.methodLink "PictureMachineModel" (80 : Nat) ({ cls := "PictureMachineModel", name := "change", desc := "(II)V" } : Jvm.MethodName)) ∈ al := al_in (ck_5 (List.mem_of_getElem? (i := 78) (by decide +kernel))) (by decide)
theorem m_1040 : (Jvm.Cond.instanceMethod ({ cls := "PictureMachineModel", name := "change", desc := "(II)V" } : Jvm.MethodName)) ∈ al := al_in (ck_5 (List.mem_of_getElem? (i := 80) (by decide +kernel))) (by decide)
theorem m_1041 : (Jvm.Cond.code ({ cls := "PictureMachineModel", name := "change", desc := "(II)V" } : Jvm.MethodName) prog_12_method_11_code (3 : Nat) (Option.none : Option Jvm.ClassFile.FieldType)) ∈ al := al_in (ck_5 (List.mem_of_getElem? (i := 81) rfl)) (by decide)
theorem m_1042 : (Jvm.Cond.methodLink "PictureMachineModel" (90 : Nat) ({ cls := "PictureMachineModel", name := "sent", desc := "(I)V" } : Jvm.MethodName)) ∈ al := al_in (ck_5 (List.mem_of_getElem? (i := 82) (by decide +kernel))) (by decide)
theorem m_1044 : (Jvm.Cond.instanceMethod ({ cls := "PictureMachineModel", name := "sent", desc := "(I)V" } : Jvm.MethodName)) ∈ al := al_in (ck_5 (List.mem_of_getElem? (i := 84) (by decide +kernel))) (by decide)
theorem m_1045 : (Jvm.Cond.code ({ cls := "PictureMachineModel", name := "sent", desc := "(I)V" } : Jvm.MethodName) prog_12_method_15_code (4 : Nat) (Option.none : Option Jvm.ClassFile.FieldType)) ∈ al := al_in (ck_5 (List.mem_of_getElem? (i := 85) rfl)) (by decide)
theorem m_1046 : (Jvm.Cond.methodLink "PictureMachineModel" (107 : Nat) ({ cls := "PictureMachineModel", name := "command", desc := "()V" } : Jvm.MethodName)) ∈ al := al_in (ck_5 (List.mem_of_getElem? (i := 86) (by decide +kernel))) (by decide)
theorem m_1048 : (Jvm.Cond.instanceMethod ({ cls := "PictureMachineModel", name := "command", desc := "()V" } : Jvm.MethodName)) ∈ al := al_in (ck_5 (List.mem_of_getElem? (i := 88) (by decide +kernel))) (by decide)
theorem m_1049 : (Jvm.Cond.code ({ cls := "PictureMachineModel", name := "command", desc := "()V" } : Jvm.MethodName) prog_12_method_16_code (4 : Nat) (Option.none : Option Jvm.ClassFile.FieldType)) ∈ al := al_in (ck_5 (List.mem_of_getElem? (i := 89) rfl)) (by decide)
theorem m_1050 : (Jvm.Cond.methodLink "PictureMachineModel" (110 : Nat) ({ cls := "PictureMachineModel", name := "sumOf", desc := "(I)I" } : Jvm.MethodName)) ∈ al := al_in (ck_5 (List.mem_of_getElem? (i := 90) (by decide +kernel))) (by decide)
theorem m_1052 : (Jvm.Cond.instanceMethod ({ cls := "PictureMachineModel", name := "sumOf", desc := "(I)I" } : Jvm.MethodName)) ∈ al := al_in (ck_5 (List.mem_of_getElem? (i := 92) (by decide +kernel))) (by decide)
theorem m_1053 : (Jvm.Cond.code ({ cls := "PictureMachineModel", name := "sumOf", desc := "(I)I" } : Jvm.MethodName) prog_12_method_14_code (4 : Nat) (Option.some Jvm.ClassFile.FieldType.int)) ∈ al := al_in (ck_5 (List.mem_of_getElem? (i := 93) rfl)) (by decide)
theorem m_1054 : (Jvm.Cond.methodLink "PictureMachineModel" (97 : Nat) ({ cls := "PictureMachineModel", name := "summed", desc := "(II)I" } : Jvm.MethodName)) ∈ al := al_in (ck_5 (List.mem_of_getElem? (i := 94) (by decide +kernel))) (by decide)
theorem m_1055 : (Jvm.Cond.static ({ cls := "PictureMachineModel", name := "summed", desc := "(II)I" } : Jvm.MethodName)) ∈ al := al_in (ck_5 (List.mem_of_getElem? (i := 95) (by decide +kernel))) (by decide)
theorem m_1056 : (Jvm.Cond.code ({ cls := "PictureMachineModel", name := "summed", desc := "(II)I" } : Jvm.MethodName) prog_12_method_12_code (2 : Nat) (Option.some Jvm.ClassFile.FieldType.int)) ∈ al := al_in (ck_5 (List.mem_of_getElem? (i := 96) rfl)) (by decide)
theorem m_1057 : (Jvm.Cond.methodLink "PictureMachineModel" (113 : Nat) ({ cls := "PictureMachineModel", name := "answer", desc := "(I)V" } : Jvm.MethodName)) ∈ al := al_in (ck_5 (List.mem_of_getElem? (i := 97) (by decide +kernel))) (by decide)
theorem m_1059 : (Jvm.Cond.instanceMethod ({ cls := "PictureMachineModel", name := "answer", desc := "(I)V" } : Jvm.MethodName)) ∈ al := al_in (ck_5 (List.mem_of_getElem? (i := 99) (by decide +kernel))) (by decide)
theorem m_1060 : (Jvm.Cond.code ({ cls := "PictureMachineModel", name := "answer", desc := "(I)V" } : Jvm.MethodName) prog_12_method_13_code (2 : Nat) (Option.none : Option Jvm.ClassFile.FieldType)) ∈ al := al_in (ck_5 (List.mem_of_getElem? (i := 100) rfl)) (by decide)
theorem m_1061 : (Jvm.Cond.methodLink "PictureMachineModel" (135 : Nat) ({ cls := "PictureMachineModel", name := "set", desc := "(I)I" } : Jvm.MethodName)) ∈ al := al_in (ck_5 (List.mem_of_getElem? (i := 101) (by decide +kernel))) (by decide)
theorem m_1063 : (Jvm.Cond.instanceMethod ({ cls := "PictureMachineModel", name := "set", desc := "(I)I" } : Jvm.MethodName)) ∈ al := al_in (ck_5 (List.mem_of_getElem? (i := 103) (by decide +kernel))) (by decide)
theorem m_1064 : (Jvm.Cond.code ({ cls := "PictureMachineModel", name := "set", desc := "(I)I" } : Jvm.MethodName) prog_12_method_24_code (2 : Nat) (Option.some Jvm.ClassFile.FieldType.int)) ∈ al := al_in (ck_5 (List.mem_of_getElem? (i := 104) rfl)) (by decide)
theorem m_1065 : (Jvm.Cond.methodLink "PictureMachineModel" (182 : Nat) ({ cls := "PictureMachineModel", name := "use", desc := "(II)V" } : Jvm.MethodName)) ∈ al := al_in (ck_5 (List.mem_of_getElem? (i := 105) (by decide +kernel))) (by decide)
theorem m_1067 : (Jvm.Cond.instanceMethod ({ cls := "PictureMachineModel", name := "use", desc := "(II)V" } : Jvm.MethodName)) ∈ al := al_in (ck_5 (List.mem_of_getElem? (i := 107) (by decide +kernel))) (by decide)
theorem m_1068 : (Jvm.Cond.code ({ cls := "PictureMachineModel", name := "use", desc := "(II)V" } : Jvm.MethodName) prog_12_method_30_code (3 : Nat) (Option.none : Option Jvm.ClassFile.FieldType)) ∈ al := al_in (ck_5 (List.mem_of_getElem? (i := 108) rfl)) (by decide)
theorem m_1069 : (Jvm.Cond.methodLink "PictureMachineModel" (191 : Nat) ({ cls := "PictureMachineModel", name := "sum", desc := "(I)I" } : Jvm.MethodName)) ∈ al := al_in (ck_5 (List.mem_of_getElem? (i := 109) (by decide +kernel))) (by decide)
theorem m_1071 : (Jvm.Cond.instanceMethod ({ cls := "PictureMachineModel", name := "sum", desc := "(I)I" } : Jvm.MethodName)) ∈ al := al_in (ck_5 (List.mem_of_getElem? (i := 111) (by decide +kernel))) (by decide)
theorem m_1072 : (Jvm.Cond.code ({ cls := "PictureMachineModel", name := "sum", desc := "(I)I" } : Jvm.MethodName) prog_12_method_25_code (3 : Nat) (Option.some Jvm.ClassFile.FieldType.int)) ∈ al := al_in (ck_5 (List.mem_of_getElem? (i := 112) rfl)) (by decide)
theorem m_1073 : (Jvm.Cond.methodLink "PictureMachineModel" (194 : Nat) ({ cls := "PictureMachineModel", name := "compare", desc := "(II)V" } : Jvm.MethodName)) ∈ al := al_in (ck_5 (List.mem_of_getElem? (i := 113) (by decide +kernel))) (by decide)
theorem m_1075 : (Jvm.Cond.instanceMethod ({ cls := "PictureMachineModel", name := "compare", desc := "(II)V" } : Jvm.MethodName)) ∈ al := al_in (ck_5 (List.mem_of_getElem? (i := 115) (by decide +kernel))) (by decide)
theorem m_1076 : (Jvm.Cond.code ({ cls := "PictureMachineModel", name := "compare", desc := "(II)V" } : Jvm.MethodName) prog_12_method_26_code (3 : Nat) (Option.none : Option Jvm.ClassFile.FieldType)) ∈ al := al_in (ck_5 (List.mem_of_getElem? (i := 116) rfl)) (by decide)
theorem m_1077 : (Jvm.Cond.methodLink "PictureMachineModel" (185 : Nat) ({ cls := "PictureMachineModel", name := "alter", desc := "(I)V" } : Jvm.MethodName)) ∈ al := al_in (ck_5 (List.mem_of_getElem? (i := 117) (by decide +kernel))) (by decide)
theorem m_1079 : (Jvm.Cond.instanceMethod ({ cls := "PictureMachineModel", name := "alter", desc := "(I)V" } : Jvm.MethodName)) ∈ al := al_in (ck_5 (List.mem_of_getElem? (i := 119) (by decide +kernel))) (by decide)
theorem m_1080 : (Jvm.Cond.code ({ cls := "PictureMachineModel", name := "alter", desc := "(I)V" } : Jvm.MethodName) prog_12_method_31_code (2 : Nat) (Option.none : Option Jvm.ClassFile.FieldType)) ∈ al := al_in (ck_5 (List.mem_of_getElem? (i := 120) rfl)) (by decide)
theorem m_1081 : (Jvm.Cond.methodLink "PictureMachineModel" (284 : Nat) ({ cls := "PictureMachineModel", name := "draw", desc := "()V" } : Jvm.MethodName)) ∈ al := al_in (ck_5 (List.mem_of_getElem? (i := 121) (by decide +kernel))) (by decide)
theorem m_1083 : (Jvm.Cond.instanceMethod ({ cls := "PictureMachineModel", name := "draw", desc := "()V" } : Jvm.MethodName)) ∈ al := al_in (ck_5 (List.mem_of_getElem? (i := 123) (by decide +kernel))) (by decide)
theorem m_1084 : (Jvm.Cond.code ({ cls := "PictureMachineModel", name := "draw", desc := "()V" } : Jvm.MethodName) prog_12_method_45_code (6 : Nat) (Option.none : Option Jvm.ClassFile.FieldType)) ∈ al := al_in (ck_5 (List.mem_of_getElem? (i := 124) rfl)) (by decide)
theorem m_1085 : (Jvm.Cond.methodLink "PictureMachineModel" (271 : Nat) ({ cls := "PictureMachineModel", name := "numberOf", desc := "(I)I" } : Jvm.MethodName)) ∈ al := al_in (ck_5 (List.mem_of_getElem? (i := 125) (by decide +kernel))) (by decide)
theorem m_1087 : (Jvm.Cond.instanceMethod ({ cls := "PictureMachineModel", name := "numberOf", desc := "(I)I" } : Jvm.MethodName)) ∈ al := al_in (ck_5 (List.mem_of_getElem? (i := 127) (by decide +kernel))) (by decide)
theorem m_1088 : (Jvm.Cond.code ({ cls := "PictureMachineModel", name := "numberOf", desc := "(I)I" } : Jvm.MethodName) prog_12_method_43_code (3 : Nat) (Option.some Jvm.ClassFile.FieldType.int)) ∈ al := al_in (ck_5 (List.mem_of_getElem? (i := 128) rfl)) (by decide)
theorem m_1089 : (Jvm.Cond.methodLink "PictureMachineModel" (274 : Nat) ({ cls := "PictureMachineModel", name := "isCovered", desc := "(II)Z" } : Jvm.MethodName)) ∈ al := al_in (ck_5 (List.mem_of_getElem? (i := 129) (by decide +kernel))) (by decide)
theorem m_1091 : (Jvm.Cond.instanceMethod ({ cls := "PictureMachineModel", name := "isCovered", desc := "(II)Z" } : Jvm.MethodName)) ∈ al := al_in (ck_5 (List.mem_of_getElem? (i := 131) (by decide +kernel))) (by decide)
theorem m_1092 : (Jvm.Cond.code ({ cls := "PictureMachineModel", name := "isCovered", desc := "(II)Z" } : Jvm.MethodName) prog_12_method_44_code (4 : Nat) (Option.some Jvm.ClassFile.FieldType.boolean)) ∈ al := al_in (ck_5 (List.mem_of_getElem? (i := 132) rfl)) (by decide)
theorem m_1093 : (Jvm.Cond.methodLink "PictureMachineModel" (287 : Nat) ({ cls := "PictureMachineModel", name := "deliver", desc := "()V" } : Jvm.MethodName)) ∈ al := al_in (ck_5 (List.mem_of_getElem? (i := 133) (by decide +kernel))) (by decide)
theorem m_1095 : (Jvm.Cond.instanceMethod ({ cls := "PictureMachineModel", name := "deliver", desc := "()V" } : Jvm.MethodName)) ∈ al := al_in (ck_5 (List.mem_of_getElem? (i := 135) (by decide +kernel))) (by decide)
theorem m_1096 : (Jvm.Cond.code ({ cls := "PictureMachineModel", name := "deliver", desc := "()V" } : Jvm.MethodName) prog_12_method_17_code (2 : Nat) (Option.none : Option Jvm.ClassFile.FieldType)) ∈ al := al_in (ck_5 (List.mem_of_getElem? (i := 136) rfl)) (by decide)
theorem m_1097 : (Jvm.Cond.methodLink "PictureMachineLaw" (51 : Nat) ({ cls := "PictureMachineModel", name := "poke", desc := "(II)V" } : Jvm.MethodName)) ∈ al := al_in (ck_5 (List.mem_of_getElem? (i := 137) (by decide +kernel))) (by decide)
theorem m_1098 : (Jvm.Cond.instanceMethod ({ cls := "PictureMachineModel", name := "poke", desc := "(II)V" } : Jvm.MethodName)) ∈ al := al_in (ck_5 (List.mem_of_getElem? (i := 138) (by decide +kernel))) (by decide)
theorem m_1099 : (Jvm.Cond.selects "PictureMachineModel" ({ cls := "PictureMachineModel", name := "poke", desc := "(II)V" } : Jvm.MethodName) ({ cls := "PictureMachineModel", name := "poke", desc := "(II)V" } : Jvm.MethodName)) ∈ al := al_in (ck_5 (List.mem_of_getElem? (i := 139) (by decide +kernel))) (by decide)
theorem m_1100 : (Jvm.Cond.code ({ cls := "PictureMachineModel", name := "poke", desc := "(II)V" } : Jvm.MethodName) prog_12_method_48_code (3 : Nat) (Option.none : Option Jvm.ClassFile.FieldType)) ∈ al := al_in (ck_5 (List.mem_of_getElem? (i := 140) rfl)) (by decide)
theorem m_1101 : (Jvm.Cond.methodLink "PictureMachineModel" (299 : Nat) ({ cls := "PictureMachineModel", name := "isByte", desc := "(I)Z" } : Jvm.MethodName)) ∈ al := al_in (ck_5 (List.mem_of_getElem? (i := 141) (by decide +kernel))) (by decide)
theorem m_1102 : (Jvm.Cond.static ({ cls := "PictureMachineModel", name := "isByte", desc := "(I)Z" } : Jvm.MethodName)) ∈ al := al_in (ck_5 (List.mem_of_getElem? (i := 142) (by decide +kernel))) (by decide)
theorem m_1103 : (Jvm.Cond.code ({ cls := "PictureMachineModel", name := "isByte", desc := "(I)Z" } : Jvm.MethodName) prog_12_method_4_code (1 : Nat) (Option.some Jvm.ClassFile.FieldType.boolean)) ∈ al := al_in (ck_5 (List.mem_of_getElem? (i := 143) rfl)) (by decide)
theorem m_1104 : (Jvm.Cond.methodLink "PictureMachineLaw" (59 : Nat) ({ cls := "PictureMachineModel", name := "peek", desc := "(I)I" } : Jvm.MethodName)) ∈ al := al_in (ck_5 (List.mem_of_getElem? (i := 144) (by decide +kernel))) (by decide)
theorem m_1105 : (Jvm.Cond.instanceMethod ({ cls := "PictureMachineModel", name := "peek", desc := "(I)I" } : Jvm.MethodName)) ∈ al := al_in (ck_5 (List.mem_of_getElem? (i := 145) (by decide +kernel))) (by decide)
theorem m_1106 : (Jvm.Cond.selects "PictureMachineModel" ({ cls := "PictureMachineModel", name := "peek", desc := "(I)I" } : Jvm.MethodName) ({ cls := "PictureMachineModel", name := "peek", desc := "(I)I" } : Jvm.MethodName)) ∈ al := al_in (ck_5 (List.mem_of_getElem? (i := 146) (by decide +kernel))) (by decide)
theorem m_1107 : (Jvm.Cond.code ({ cls := "PictureMachineModel", name := "peek", desc := "(I)I" } : Jvm.MethodName) prog_12_method_49_code (2 : Nat) (Option.some Jvm.ClassFile.FieldType.int)) ∈ al := al_in (ck_5 (List.mem_of_getElem? (i := 147) rfl)) (by decide)
theorem m_1108 : (Jvm.Cond.methodLink "PictureMachineLaw" (62 : Nat) ({ cls := "PictureMachineModel", name := "write", desc := "(II)V" } : Jvm.MethodName)) ∈ al := al_in (ck_5 (List.mem_of_getElem? (i := 148) (by decide +kernel))) (by decide)
theorem m_1109 : (Jvm.Cond.instanceMethod ({ cls := "PictureMachineModel", name := "write", desc := "(II)V" } : Jvm.MethodName)) ∈ al := al_in (ck_5 (List.mem_of_getElem? (i := 149) (by decide +kernel))) (by decide)
theorem m_1110 : (Jvm.Cond.selects "PictureMachineModel" ({ cls := "PictureMachineModel", name := "write", desc := "(II)V" } : Jvm.MethodName) ({ cls := "PictureMachineModel", name := "write", desc := "(II)V" } : Jvm.MethodName)) ∈ al := al_in (ck_5 (List.mem_of_getElem? (i := 150) (by decide +kernel))) (by decide)
theorem m_1111 : (Jvm.Cond.code ({ cls := "PictureMachineModel", name := "write", desc := "(II)V" } : Jvm.MethodName) prog_12_method_50_code (3 : Nat) (Option.none : Option Jvm.ClassFile.FieldType)) ∈ al := al_in (ck_5 (List.mem_of_getElem? (i := 151) rfl)) (by decide)
theorem m_1112 : (Jvm.Cond.methodLink "PictureMachineLaw" (66 : Nat) ({ cls := "PictureMachineModel", name := "disk", desc := "(III)V" } : Jvm.MethodName)) ∈ al := al_in (ck_5 (List.mem_of_getElem? (i := 152) (by decide +kernel))) (by decide)
theorem m_1113 : (Jvm.Cond.instanceMethod ({ cls := "PictureMachineModel", name := "disk", desc := "(III)V" } : Jvm.MethodName)) ∈ al := al_in (ck_5 (List.mem_of_getElem? (i := 153) (by decide +kernel))) (by decide)
theorem m_1114 : (Jvm.Cond.selects "PictureMachineModel" ({ cls := "PictureMachineModel", name := "disk", desc := "(III)V" } : Jvm.MethodName) ({ cls := "PictureMachineModel", name := "disk", desc := "(III)V" } : Jvm.MethodName)) ∈ al := al_in (ck_5 (List.mem_of_getElem? (i := 154) (by decide +kernel))) (by decide)
theorem m_1115 : (Jvm.Cond.code ({ cls := "PictureMachineModel", name := "disk", desc := "(III)V" } : Jvm.MethodName) prog_12_method_52_code (4 : Nat) (Option.none : Option Jvm.ClassFile.FieldType)) ∈ al := al_in (ck_5 (List.mem_of_getElem? (i := 155) rfl)) (by decide)
theorem m_1116 : (Jvm.Cond.methodLink "PictureMachineModel" (302 : Nat) ({ cls := "PictureMachineModel", name := "isPlace", desc := "(II)Z" } : Jvm.MethodName)) ∈ al := al_in (ck_5 (List.mem_of_getElem? (i := 156) (by decide +kernel))) (by decide)
theorem m_1117 : (Jvm.Cond.static ({ cls := "PictureMachineModel", name := "isPlace", desc := "(II)Z" } : Jvm.MethodName)) ∈ al := al_in (ck_5 (List.mem_of_getElem? (i := 157) (by decide +kernel))) (by decide)
theorem m_1118 : (Jvm.Cond.code ({ cls := "PictureMachineModel", name := "isPlace", desc := "(II)Z" } : Jvm.MethodName) prog_12_method_51_code (2 : Nat) (Option.some Jvm.ClassFile.FieldType.boolean)) ∈ al := al_in (ck_5 (List.mem_of_getElem? (i := 158) rfl)) (by decide)
theorem m_1119 : (Jvm.Cond.methodLink "PictureMachineLaw" (70 : Nat) ({ cls := "PictureMachineModel", name := "sector", desc := "(II)I" } : Jvm.MethodName)) ∈ al := al_in (ck_5 (List.mem_of_getElem? (i := 159) (by decide +kernel))) (by decide)
theorem m_1120 : (Jvm.Cond.instanceMethod ({ cls := "PictureMachineModel", name := "sector", desc := "(II)I" } : Jvm.MethodName)) ∈ al := al_in (ck_5 (List.mem_of_getElem? (i := 160) (by decide +kernel))) (by decide)
theorem m_1121 : (Jvm.Cond.selects "PictureMachineModel" ({ cls := "PictureMachineModel", name := "sector", desc := "(II)I" } : Jvm.MethodName) ({ cls := "PictureMachineModel", name := "sector", desc := "(II)I" } : Jvm.MethodName)) ∈ al := al_in (ck_5 (List.mem_of_getElem? (i := 161) (by decide +kernel))) (by decide)
theorem m_1122 : (Jvm.Cond.code ({ cls := "PictureMachineModel", name := "sector", desc := "(II)I" } : Jvm.MethodName) prog_12_method_53_code (3 : Nat) (Option.some Jvm.ClassFile.FieldType.int)) ∈ al := al_in (ck_5 (List.mem_of_getElem? (i := 162) rfl)) (by decide)
theorem m_1123 : (Jvm.Cond.methodLink "PictureMachineLaw" (74 : Nat) ({ cls := "PictureMachineModel", name := "stick", desc := "(I)V" } : Jvm.MethodName)) ∈ al := al_in (ck_5 (List.mem_of_getElem? (i := 163) (by decide +kernel))) (by decide)
theorem m_1124 : (Jvm.Cond.instanceMethod ({ cls := "PictureMachineModel", name := "stick", desc := "(I)V" } : Jvm.MethodName)) ∈ al := al_in (ck_5 (List.mem_of_getElem? (i := 164) (by decide +kernel))) (by decide)
theorem m_1125 : (Jvm.Cond.selects "PictureMachineModel" ({ cls := "PictureMachineModel", name := "stick", desc := "(I)V" } : Jvm.MethodName) ({ cls := "PictureMachineModel", name := "stick", desc := "(I)V" } : Jvm.MethodName)) ∈ al := al_in (ck_5 (List.mem_of_getElem? (i := 165) (by decide +kernel))) (by decide)
theorem m_1126 : (Jvm.Cond.code ({ cls := "PictureMachineModel", name := "stick", desc := "(I)V" } : Jvm.MethodName) prog_12_method_54_code (2 : Nat) (Option.none : Option Jvm.ClassFile.FieldType)) ∈ al := al_in (ck_5 (List.mem_of_getElem? (i := 166) rfl)) (by decide)
theorem m_1127 : (Jvm.Cond.methodLink "PictureMachineLaw" (80 : Nat) ({ cls := "PictureMachineModel", name := "dot", desc := "(II)I" } : Jvm.MethodName)) ∈ al := al_in (ck_5 (List.mem_of_getElem? (i := 167) (by decide +kernel))) (by decide)
theorem m_1128 : (Jvm.Cond.instanceMethod ({ cls := "PictureMachineModel", name := "dot", desc := "(II)I" } : Jvm.MethodName)) ∈ al := al_in (ck_5 (List.mem_of_getElem? (i := 168) (by decide +kernel))) (by decide)
theorem m_1129 : (Jvm.Cond.selects "PictureMachineModel" ({ cls := "PictureMachineModel", name := "dot", desc := "(II)I" } : Jvm.MethodName) ({ cls := "PictureMachineModel", name := "dot", desc := "(II)I" } : Jvm.MethodName)) ∈ al := al_in (ck_5 (List.mem_of_getElem? (i := 169) (by decide +kernel))) (by decide)
theorem m_1130 : (Jvm.Cond.code ({ cls := "PictureMachineModel", name := "dot", desc := "(II)I" } : Jvm.MethodName) prog_12_method_55_code (3 : Nat) (Option.some Jvm.ClassFile.FieldType.int)) ∈ al := al_in (ck_5 (List.mem_of_getElem? (i := 170) rfl)) (by decide)
theorem m_1131 : (Jvm.Cond.methodLink "PictureMachineLaw" (84 : Nat) ({ cls := "PictureMachineModel", name := "processor", desc := "(I)I" } : Jvm.MethodName)) ∈ al := al_in (ck_5 (List.mem_of_getElem? (i := 171) (by decide +kernel))) (by decide)
theorem m_1132 : (Jvm.Cond.instanceMethod ({ cls := "PictureMachineModel", name := "processor", desc := "(I)I" } : Jvm.MethodName)) ∈ al := al_in (ck_5 (List.mem_of_getElem? (i := 172) (by decide +kernel))) (by decide)
theorem m_1133 : (Jvm.Cond.selects "PictureMachineModel" ({ cls := "PictureMachineModel", name := "processor", desc := "(I)I" } : Jvm.MethodName) ({ cls := "PictureMachineModel", name := "processor", desc := "(I)I" } : Jvm.MethodName)) ∈ al := al_in (ck_5 (List.mem_of_getElem? (i := 173) (by decide +kernel))) (by decide)
theorem m_1134 : (Jvm.Cond.code ({ cls := "PictureMachineModel", name := "processor", desc := "(I)I" } : Jvm.MethodName) prog_12_method_56_code (2 : Nat) (Option.some Jvm.ClassFile.FieldType.int)) ∈ al := al_in (ck_5 (List.mem_of_getElem? (i := 174) rfl)) (by decide)
theorem m_1135 : (Jvm.Cond.methodLink "PictureMachineLaw" (88 : Nat) ({ cls := "PictureMachineModel", name := "state", desc := "(I)I" } : Jvm.MethodName)) ∈ al := al_in (ck_5 (List.mem_of_getElem? (i := 175) (by decide +kernel))) (by decide)
theorem m_1136 : (Jvm.Cond.instanceMethod ({ cls := "PictureMachineModel", name := "state", desc := "(I)I" } : Jvm.MethodName)) ∈ al := al_in (ck_5 (List.mem_of_getElem? (i := 176) (by decide +kernel))) (by decide)
theorem m_1137 : (Jvm.Cond.selects "PictureMachineModel" ({ cls := "PictureMachineModel", name := "state", desc := "(I)I" } : Jvm.MethodName) ({ cls := "PictureMachineModel", name := "state", desc := "(I)I" } : Jvm.MethodName)) ∈ al := al_in (ck_5 (List.mem_of_getElem? (i := 177) (by decide +kernel))) (by decide)
theorem m_1138 : (Jvm.Cond.code ({ cls := "PictureMachineModel", name := "state", desc := "(I)I" } : Jvm.MethodName) prog_12_method_57_code (2 : Nat) (Option.some Jvm.ClassFile.FieldType.int)) ∈ al := al_in (ck_5 (List.mem_of_getElem? (i := 178) rfl)) (by decide)
theorem m_1139 : (Jvm.Cond.arrayClass Jvm.ClassFile.FieldType.long) ∈ al := al_in (ck_5 (List.mem_of_getElem? (i := 179) (by decide +kernel))) (by decide)
theorem in_Pm_0 : u_lay R_Pm T_Pm 0 ∈ al := al_in (ck_2 (List.mem_of_getElem? (i := 81) (by decide +kernel))) (by decide +kernel)
theorem in_Pm_1 : u_lay R_Pm T_Pm 1 ∈ al := al_in (ck_2 (List.mem_of_getElem? (i := 83) (by decide +kernel))) (by decide +kernel)
theorem in_Pm : ∀ w ∈ u_ws R_Pm T_Pm 2, w ∈ al := by
  intro w hw
  obtain ⟨k, hk, rfl⟩ := List.mem_map.mp hw
  have hk := List.mem_range.mp hk
  match k, hk with
  | 0, _ => exact in_Pm_0
  | 1, _ => exact in_Pm_1
  | (n + 2), h => omega
theorem in_Bd_0 : u_lay R_Bd T_Bd 0 ∈ al := al_in (ck_2 (List.mem_of_getElem? (i := 7) (by decide +kernel))) (by decide +kernel)
theorem in_Bd_1 : u_lay R_Bd T_Bd 1 ∈ al := al_in (ck_2 (List.mem_of_getElem? (i := 9) (by decide +kernel))) (by decide +kernel)
theorem in_Bd_2 : u_lay R_Bd T_Bd 2 ∈ al := al_in (ck_2 (List.mem_of_getElem? (i := 11) (by decide +kernel))) (by decide +kernel)
theorem in_Bd_3 : u_lay R_Bd T_Bd 3 ∈ al := al_in (ck_2 (List.mem_of_getElem? (i := 13) (by decide +kernel))) (by decide +kernel)
theorem in_Bd_4 : u_lay R_Bd T_Bd 4 ∈ al := al_in (ck_2 (List.mem_of_getElem? (i := 15) (by decide +kernel))) (by decide +kernel)
theorem in_Bd_5 : u_lay R_Bd T_Bd 5 ∈ al := al_in (ck_2 (List.mem_of_getElem? (i := 17) (by decide +kernel))) (by decide +kernel)
theorem in_Bd_6 : u_lay R_Bd T_Bd 6 ∈ al := al_in (ck_2 (List.mem_of_getElem? (i := 19) (by decide +kernel))) (by decide +kernel)
theorem in_Bd_7 : u_lay R_Bd T_Bd 7 ∈ al := al_in (ck_2 (List.mem_of_getElem? (i := 21) (by decide +kernel))) (by decide +kernel)
theorem in_Bd_8 : u_lay R_Bd T_Bd 8 ∈ al := al_in (ck_2 (List.mem_of_getElem? (i := 23) (by decide +kernel))) (by decide +kernel)
theorem in_Bd : ∀ w ∈ u_ws R_Bd T_Bd 9, w ∈ al := by
  intro w hw
  obtain ⟨k, hk, rfl⟩ := List.mem_map.mp hw
  have hk := List.mem_range.mp hk
  match k, hk with
  | 0, _ => exact in_Bd_0
  | 1, _ => exact in_Bd_1
  | 2, _ => exact in_Bd_2
  | 3, _ => exact in_Bd_3
  | 4, _ => exact in_Bd_4
  | 5, _ => exact in_Bd_5
  | 6, _ => exact in_Bd_6
  | 7, _ => exact in_Bd_7
  | 8, _ => exact in_Bd_8
  | (n + 9), h => omega
theorem in_Ck_0 : u_lay R_Ck T_Ck 0 ∈ al := al_in (ck_1 (List.mem_of_getElem? (i := 45) (by decide +kernel))) (by decide +kernel)
theorem in_Ck_1 : u_lay R_Ck T_Ck 1 ∈ al := al_in (ck_1 (List.mem_of_getElem? (i := 47) (by decide +kernel))) (by decide +kernel)
theorem in_Ck_2 : u_lay R_Ck T_Ck 2 ∈ al := al_in (ck_1 (List.mem_of_getElem? (i := 49) (by decide +kernel))) (by decide +kernel)
theorem in_Ck : ∀ w ∈ u_ws R_Ck T_Ck 3, w ∈ al := by
  intro w hw
  obtain ⟨k, hk, rfl⟩ := List.mem_map.mp hw
  have hk := List.mem_range.mp hk
  match k, hk with
  | 0, _ => exact in_Ck_0
  | 1, _ => exact in_Ck_1
  | 2, _ => exact in_Ck_2
  | (n + 3), h => omega
theorem in_Wi_0 : u_lay R_Wi T_Wi 0 ∈ al := al_in (ck_1 (List.mem_of_getElem? (i := 65) (by decide +kernel))) (by decide +kernel)
theorem in_Wi_1 : u_lay R_Wi T_Wi 1 ∈ al := al_in (ck_1 (List.mem_of_getElem? (i := 67) (by decide +kernel))) (by decide +kernel)
theorem in_Wi : ∀ w ∈ u_ws R_Wi T_Wi 2, w ∈ al := by
  intro w hw
  obtain ⟨k, hk, rfl⟩ := List.mem_map.mp hw
  have hk := List.mem_range.mp hk
  match k, hk with
  | 0, _ => exact in_Wi_0
  | 1, _ => exact in_Wi_1
  | (n + 2), h => omega
theorem in_Me_0 : u_lay R_Me T_Me 0 ∈ al := al_in (ck_1 (List.mem_of_getElem? (i := 78) (by decide +kernel))) (by decide +kernel)
theorem in_Me : ∀ w ∈ u_ws R_Me T_Me 1, w ∈ al := by
  intro w hw
  obtain ⟨k, hk, rfl⟩ := List.mem_map.mp hw
  have hk := List.mem_range.mp hk
  match k, hk with
  | 0, _ => exact in_Me_0
  | (n + 1), h => omega
theorem in_Ch_0 : u_lay R_Ch T_Ch 0 ∈ al := al_in (ck_1 (List.mem_of_getElem? (i := 138) (by decide +kernel))) (by decide +kernel)
theorem in_Ch_1 : u_lay R_Ch T_Ch 1 ∈ al := al_in (ck_1 (List.mem_of_getElem? (i := 140) (by decide +kernel))) (by decide +kernel)
theorem in_Ch_2 : u_lay R_Ch T_Ch 2 ∈ al := al_in (ck_1 (List.mem_of_getElem? (i := 142) (by decide +kernel))) (by decide +kernel)
theorem in_Ch_3 : u_lay R_Ch T_Ch 3 ∈ al := al_in (ck_1 (List.mem_of_getElem? (i := 144) (by decide +kernel))) (by decide +kernel)
theorem in_Ch : ∀ w ∈ u_ws R_Ch T_Ch 4, w ∈ al := by
  intro w hw
  obtain ⟨k, hk, rfl⟩ := List.mem_map.mp hw
  have hk := List.mem_range.mp hk
  match k, hk with
  | 0, _ => exact in_Ch_0
  | 1, _ => exact in_Ch_1
  | 2, _ => exact in_Ch_2
  | 3, _ => exact in_Ch_3
  | (n + 4), h => omega
theorem in_Ds_0 : u_lay R_Ds T_Ds 0 ∈ al := al_in (ck_1 (List.mem_of_getElem? (i := 172) (by decide +kernel))) (by decide +kernel)
theorem in_Ds_1 : u_lay R_Ds T_Ds 1 ∈ al := al_in (ck_1 (List.mem_of_getElem? (i := 174) (by decide +kernel))) (by decide +kernel)
theorem in_Ds_2 : u_lay R_Ds T_Ds 2 ∈ al := al_in (ck_1 (List.mem_of_getElem? (i := 176) (by decide +kernel))) (by decide +kernel)
theorem in_Ds_3 : u_lay R_Ds T_Ds 3 ∈ al := al_in (ck_1 (List.mem_of_getElem? (i := 178) (by decide +kernel))) (by decide +kernel)
theorem in_Ds_4 : u_lay R_Ds T_Ds 4 ∈ al := al_in (ck_1 (List.mem_of_getElem? (i := 180) (by decide +kernel))) (by decide +kernel)
theorem in_Ds_5 : u_lay R_Ds T_Ds 5 ∈ al := al_in (ck_1 (List.mem_of_getElem? (i := 182) (by decide +kernel))) (by decide +kernel)
theorem in_Ds_6 : u_lay R_Ds T_Ds 6 ∈ al := al_in (ck_1 (List.mem_of_getElem? (i := 184) (by decide +kernel))) (by decide +kernel)
theorem in_Ds_7 : u_lay R_Ds T_Ds 7 ∈ al := al_in (ck_1 (List.mem_of_getElem? (i := 186) (by decide +kernel))) (by decide +kernel)
theorem in_Ds_8 : u_lay R_Ds T_Ds 8 ∈ al := al_in (ck_1 (List.mem_of_getElem? (i := 188) (by decide +kernel))) (by decide +kernel)
theorem in_Ds_9 : u_lay R_Ds T_Ds 9 ∈ al := al_in (ck_1 (List.mem_of_getElem? (i := 190) (by decide +kernel))) (by decide +kernel)
theorem in_Ds_10 : u_lay R_Ds T_Ds 10 ∈ al := al_in (ck_1 (List.mem_of_getElem? (i := 192) (by decide +kernel))) (by decide +kernel)
theorem in_Ds_11 : u_lay R_Ds T_Ds 11 ∈ al := al_in (ck_1 (List.mem_of_getElem? (i := 194) (by decide +kernel))) (by decide +kernel)
theorem in_Ds_12 : u_lay R_Ds T_Ds 12 ∈ al := al_in (ck_1 (List.mem_of_getElem? (i := 196) (by decide +kernel))) (by decide +kernel)
theorem in_Ds_13 : u_lay R_Ds T_Ds 13 ∈ al := al_in (ck_1 (List.mem_of_getElem? (i := 198) (by decide +kernel))) (by decide +kernel)
theorem in_Ds : ∀ w ∈ u_ws R_Ds T_Ds 14, w ∈ al := by
  intro w hw
  obtain ⟨k, hk, rfl⟩ := List.mem_map.mp hw
  have hk := List.mem_range.mp hk
  match k, hk with
  | 0, _ => exact in_Ds_0
  | 1, _ => exact in_Ds_1
  | 2, _ => exact in_Ds_2
  | 3, _ => exact in_Ds_3
  | 4, _ => exact in_Ds_4
  | 5, _ => exact in_Ds_5
  | 6, _ => exact in_Ds_6
  | 7, _ => exact in_Ds_7
  | 8, _ => exact in_Ds_8
  | 9, _ => exact in_Ds_9
  | 10, _ => exact in_Ds_10
  | 11, _ => exact in_Ds_11
  | 12, _ => exact in_Ds_12
  | 13, _ => exact in_Ds_13
  | (n + 14), h => omega
theorem in_Pc_0 : u_lay R_Pc T_Pc 0 ∈ al := al_in (ck_1 (List.mem_of_getElem? (i := 216) (by decide +kernel))) (by decide +kernel)
theorem in_Pc_1 : u_lay R_Pc T_Pc 1 ∈ al := al_in (ck_1 (List.mem_of_getElem? (i := 218) (by decide +kernel))) (by decide +kernel)
theorem in_Pc_2 : u_lay R_Pc T_Pc 2 ∈ al := al_in (ck_1 (List.mem_of_getElem? (i := 220) (by decide +kernel))) (by decide +kernel)
theorem in_Pc_3 : u_lay R_Pc T_Pc 3 ∈ al := al_in (ck_1 (List.mem_of_getElem? (i := 222) (by decide +kernel))) (by decide +kernel)
theorem in_Pc_4 : u_lay R_Pc T_Pc 4 ∈ al := al_in (ck_1 (List.mem_of_getElem? (i := 224) (by decide +kernel))) (by decide +kernel)
theorem in_Pc : ∀ w ∈ u_ws R_Pc T_Pc 5, w ∈ al := by
  intro w hw
  obtain ⟨k, hk, rfl⟩ := List.mem_map.mp hw
  have hk := List.mem_range.mp hk
  match k, hk with
  | 0, _ => exact in_Pc_0
  | 1, _ => exact in_Pc_1
  | 2, _ => exact in_Pc_2
  | 3, _ => exact in_Pc_3
  | 4, _ => exact in_Pc_4
  | (n + 5), h => omega
theorem in_Dr_0 : u_lay R_Dr T_Dr 0 ∈ al := al_in (ck_1 (List.mem_of_getElem? (i := 103) (by decide +kernel))) (by decide +kernel)
theorem in_Dr_1 : u_lay R_Dr T_Dr 1 ∈ al := al_in (ck_1 (List.mem_of_getElem? (i := 105) (by decide +kernel))) (by decide +kernel)
theorem in_Dr_2 : u_lay R_Dr T_Dr 2 ∈ al := al_in (ck_1 (List.mem_of_getElem? (i := 107) (by decide +kernel))) (by decide +kernel)
theorem in_Dr_3 : u_lay R_Dr T_Dr 3 ∈ al := al_in (ck_1 (List.mem_of_getElem? (i := 109) (by decide +kernel))) (by decide +kernel)
theorem in_Dr_4 : u_lay R_Dr T_Dr 4 ∈ al := al_in (ck_1 (List.mem_of_getElem? (i := 111) (by decide +kernel))) (by decide +kernel)
theorem in_Dr_5 : u_lay R_Dr T_Dr 5 ∈ al := al_in (ck_1 (List.mem_of_getElem? (i := 113) (by decide +kernel))) (by decide +kernel)
theorem in_Dr_6 : u_lay R_Dr T_Dr 6 ∈ al := al_in (ck_1 (List.mem_of_getElem? (i := 115) (by decide +kernel))) (by decide +kernel)
theorem in_Dr_7 : u_lay R_Dr T_Dr 7 ∈ al := al_in (ck_1 (List.mem_of_getElem? (i := 117) (by decide +kernel))) (by decide +kernel)
theorem in_Dr_8 : u_lay R_Dr T_Dr 8 ∈ al := al_in (ck_1 (List.mem_of_getElem? (i := 119) (by decide +kernel))) (by decide +kernel)
theorem in_Dr_9 : u_lay R_Dr T_Dr 9 ∈ al := al_in (ck_1 (List.mem_of_getElem? (i := 121) (by decide +kernel))) (by decide +kernel)
theorem in_Dr : ∀ w ∈ u_ws R_Dr T_Dr 10, w ∈ al := by
  intro w hw
  obtain ⟨k, hk, rfl⟩ := List.mem_map.mp hw
  have hk := List.mem_range.mp hk
  match k, hk with
  | 0, _ => exact in_Dr_0
  | 1, _ => exact in_Dr_1
  | 2, _ => exact in_Dr_2
  | 3, _ => exact in_Dr_3
  | 4, _ => exact in_Dr_4
  | 5, _ => exact in_Dr_5
  | 6, _ => exact in_Dr_6
  | 7, _ => exact in_Dr_7
  | 8, _ => exact in_Dr_8
  | 9, _ => exact in_Dr_9
  | (n + 10), h => omega
theorem in_Pr_0 : u_lay R_Pr T_Pr 0 ∈ al := al_in (ck_2 (List.mem_of_getElem? (i := 52) (by decide +kernel))) (by decide +kernel)
theorem in_Pr_1 : u_lay R_Pr T_Pr 1 ∈ al := al_in (ck_2 (List.mem_of_getElem? (i := 54) (by decide +kernel))) (by decide +kernel)
theorem in_Pr_2 : u_lay R_Pr T_Pr 2 ∈ al := al_in (ck_2 (List.mem_of_getElem? (i := 56) (by decide +kernel))) (by decide +kernel)
theorem in_Pr_3 : u_lay R_Pr T_Pr 3 ∈ al := al_in (ck_2 (List.mem_of_getElem? (i := 58) (by decide +kernel))) (by decide +kernel)
theorem in_Pr_4 : u_lay R_Pr T_Pr 4 ∈ al := al_in (ck_2 (List.mem_of_getElem? (i := 60) (by decide +kernel))) (by decide +kernel)
theorem in_Pr_5 : u_lay R_Pr T_Pr 5 ∈ al := al_in (ck_2 (List.mem_of_getElem? (i := 62) (by decide +kernel))) (by decide +kernel)
theorem in_Pr_6 : u_lay R_Pr T_Pr 6 ∈ al := al_in (ck_2 (List.mem_of_getElem? (i := 64) (by decide +kernel))) (by decide +kernel)
theorem in_Pr_7 : u_lay R_Pr T_Pr 7 ∈ al := al_in (ck_2 (List.mem_of_getElem? (i := 66) (by decide +kernel))) (by decide +kernel)
theorem in_Pr_8 : u_lay R_Pr T_Pr 8 ∈ al := al_in (ck_2 (List.mem_of_getElem? (i := 68) (by decide +kernel))) (by decide +kernel)
theorem in_Pr_9 : u_lay R_Pr T_Pr 9 ∈ al := al_in (ck_2 (List.mem_of_getElem? (i := 70) (by decide +kernel))) (by decide +kernel)
theorem in_Pr_10 : u_lay R_Pr T_Pr 10 ∈ al := al_in (ck_2 (List.mem_of_getElem? (i := 72) (by decide +kernel))) (by decide +kernel)
theorem in_Pr_11 : u_lay R_Pr T_Pr 11 ∈ al := al_in (ck_2 (List.mem_of_getElem? (i := 74) (by decide +kernel))) (by decide +kernel)
theorem in_Pr_12 : u_lay R_Pr T_Pr 12 ∈ al := al_in (ck_2 (List.mem_of_getElem? (i := 76) (by decide +kernel))) (by decide +kernel)
theorem in_Pr : ∀ w ∈ u_ws R_Pr T_Pr 13, w ∈ al := by
  intro w hw
  obtain ⟨k, hk, rfl⟩ := List.mem_map.mp hw
  have hk := List.mem_range.mp hk
  match k, hk with
  | 0, _ => exact in_Pr_0
  | 1, _ => exact in_Pr_1
  | 2, _ => exact in_Pr_2
  | 3, _ => exact in_Pr_3
  | 4, _ => exact in_Pr_4
  | 5, _ => exact in_Pr_5
  | 6, _ => exact in_Pr_6
  | 7, _ => exact in_Pr_7
  | 8, _ => exact in_Pr_8
  | 9, _ => exact in_Pr_9
  | 10, _ => exact in_Pr_10
  | 11, _ => exact in_Pr_11
  | 12, _ => exact in_Pr_12
  | (n + 13), h => omega
theorem in_Mo_0 : u_lay R_Mo T_Mo 0 ∈ al := al_in (ck_4 (List.mem_of_getElem? (i := 104) (by decide +kernel))) (by decide +kernel)
theorem in_Mo_1 : u_lay R_Mo T_Mo 1 ∈ al := al_in (ck_4 (List.mem_of_getElem? (i := 106) (by decide +kernel))) (by decide +kernel)
theorem in_Mo_2 : u_lay R_Mo T_Mo 2 ∈ al := al_in (ck_4 (List.mem_of_getElem? (i := 108) (by decide +kernel))) (by decide +kernel)
theorem in_Mo_3 : u_lay R_Mo T_Mo 3 ∈ al := al_in (ck_4 (List.mem_of_getElem? (i := 110) (by decide +kernel))) (by decide +kernel)
theorem in_Mo_4 : u_lay R_Mo T_Mo 4 ∈ al := al_in (ck_4 (List.mem_of_getElem? (i := 112) (by decide +kernel))) (by decide +kernel)
theorem in_Mo_5 : u_lay R_Mo T_Mo 5 ∈ al := al_in (ck_4 (List.mem_of_getElem? (i := 114) (by decide +kernel))) (by decide +kernel)
theorem in_Mo_6 : u_lay R_Mo T_Mo 6 ∈ al := al_in (ck_4 (List.mem_of_getElem? (i := 116) (by decide +kernel))) (by decide +kernel)
theorem in_Mo_7 : u_lay R_Mo T_Mo 7 ∈ al := al_in (ck_4 (List.mem_of_getElem? (i := 118) (by decide +kernel))) (by decide +kernel)
theorem in_Mo_8 : u_lay R_Mo T_Mo 8 ∈ al := al_in (ck_4 (List.mem_of_getElem? (i := 120) (by decide +kernel))) (by decide +kernel)
theorem in_Mo_9 : u_lay R_Mo T_Mo 9 ∈ al := al_in (ck_4 (List.mem_of_getElem? (i := 122) (by decide +kernel))) (by decide +kernel)
theorem in_Mo_10 : u_lay R_Mo T_Mo 10 ∈ al := al_in (ck_4 (List.mem_of_getElem? (i := 124) (by decide +kernel))) (by decide +kernel)
theorem in_Mo_11 : u_lay R_Mo T_Mo 11 ∈ al := al_in (ck_4 (List.mem_of_getElem? (i := 126) (by decide +kernel))) (by decide +kernel)
theorem in_Mo_12 : u_lay R_Mo T_Mo 12 ∈ al := al_in (ck_4 (List.mem_of_getElem? (i := 128) (by decide +kernel))) (by decide +kernel)
theorem in_Mo_13 : u_lay R_Mo T_Mo 13 ∈ al := al_in (ck_4 (List.mem_of_getElem? (i := 130) (by decide +kernel))) (by decide +kernel)
theorem in_Mo_14 : u_lay R_Mo T_Mo 14 ∈ al := al_in (ck_4 (List.mem_of_getElem? (i := 132) (by decide +kernel))) (by decide +kernel)
theorem in_Mo_15 : u_lay R_Mo T_Mo 15 ∈ al := al_in (ck_4 (List.mem_of_getElem? (i := 134) (by decide +kernel))) (by decide +kernel)
theorem in_Mo_16 : u_lay R_Mo T_Mo 16 ∈ al := al_in (ck_4 (List.mem_of_getElem? (i := 136) (by decide +kernel))) (by decide +kernel)
theorem in_Mo_17 : u_lay R_Mo T_Mo 17 ∈ al := al_in (ck_4 (List.mem_of_getElem? (i := 138) (by decide +kernel))) (by decide +kernel)
theorem in_Mo_18 : u_lay R_Mo T_Mo 18 ∈ al := al_in (ck_4 (List.mem_of_getElem? (i := 140) (by decide +kernel))) (by decide +kernel)
theorem in_Mo_19 : u_lay R_Mo T_Mo 19 ∈ al := al_in (ck_4 (List.mem_of_getElem? (i := 142) (by decide +kernel))) (by decide +kernel)
theorem in_Mo_20 : u_lay R_Mo T_Mo 20 ∈ al := al_in (ck_4 (List.mem_of_getElem? (i := 144) (by decide +kernel))) (by decide +kernel)
theorem in_Mo_21 : u_lay R_Mo T_Mo 21 ∈ al := al_in (ck_4 (List.mem_of_getElem? (i := 146) (by decide +kernel))) (by decide +kernel)
theorem in_Mo_22 : u_lay R_Mo T_Mo 22 ∈ al := al_in (ck_4 (List.mem_of_getElem? (i := 148) (by decide +kernel))) (by decide +kernel)
theorem in_Mo_23 : u_lay R_Mo T_Mo 23 ∈ al := al_in (ck_4 (List.mem_of_getElem? (i := 150) (by decide +kernel))) (by decide +kernel)
theorem in_Mo_24 : u_lay R_Mo T_Mo 24 ∈ al := al_in (ck_4 (List.mem_of_getElem? (i := 152) (by decide +kernel))) (by decide +kernel)
theorem in_Mo_25 : u_lay R_Mo T_Mo 25 ∈ al := al_in (ck_4 (List.mem_of_getElem? (i := 154) (by decide +kernel))) (by decide +kernel)
theorem in_Mo_26 : u_lay R_Mo T_Mo 26 ∈ al := al_in (ck_4 (List.mem_of_getElem? (i := 156) (by decide +kernel))) (by decide +kernel)
theorem in_Mo_27 : u_lay R_Mo T_Mo 27 ∈ al := al_in (ck_4 (List.mem_of_getElem? (i := 158) (by decide +kernel))) (by decide +kernel)
theorem in_Mo_28 : u_lay R_Mo T_Mo 28 ∈ al := al_in (ck_4 (List.mem_of_getElem? (i := 160) (by decide +kernel))) (by decide +kernel)
theorem in_Mo_29 : u_lay R_Mo T_Mo 29 ∈ al := al_in (ck_4 (List.mem_of_getElem? (i := 162) (by decide +kernel))) (by decide +kernel)
theorem in_Mo_30 : u_lay R_Mo T_Mo 30 ∈ al := al_in (ck_4 (List.mem_of_getElem? (i := 164) (by decide +kernel))) (by decide +kernel)
theorem in_Mo_31 : u_lay R_Mo T_Mo 31 ∈ al := al_in (ck_4 (List.mem_of_getElem? (i := 166) (by decide +kernel))) (by decide +kernel)
theorem in_Mo_32 : u_lay R_Mo T_Mo 32 ∈ al := al_in (ck_4 (List.mem_of_getElem? (i := 168) (by decide +kernel))) (by decide +kernel)
theorem in_Mo_33 : u_lay R_Mo T_Mo 33 ∈ al := al_in (ck_4 (List.mem_of_getElem? (i := 170) (by decide +kernel))) (by decide +kernel)
theorem in_Mo_34 : u_lay R_Mo T_Mo 34 ∈ al := al_in (ck_4 (List.mem_of_getElem? (i := 172) (by decide +kernel))) (by decide +kernel)
theorem in_Mo_35 : u_lay R_Mo T_Mo 35 ∈ al := al_in (ck_4 (List.mem_of_getElem? (i := 174) (by decide +kernel))) (by decide +kernel)
theorem in_Mo_36 : u_lay R_Mo T_Mo 36 ∈ al := al_in (ck_4 (List.mem_of_getElem? (i := 176) (by decide +kernel))) (by decide +kernel)
theorem in_Mo_37 : u_lay R_Mo T_Mo 37 ∈ al := al_in (ck_4 (List.mem_of_getElem? (i := 178) (by decide +kernel))) (by decide +kernel)
theorem in_Mo_38 : u_lay R_Mo T_Mo 38 ∈ al := al_in (ck_4 (List.mem_of_getElem? (i := 180) (by decide +kernel))) (by decide +kernel)
theorem in_Mo_39 : u_lay R_Mo T_Mo 39 ∈ al := al_in (ck_4 (List.mem_of_getElem? (i := 182) (by decide +kernel))) (by decide +kernel)
theorem in_Mo_40 : u_lay R_Mo T_Mo 40 ∈ al := al_in (ck_4 (List.mem_of_getElem? (i := 184) (by decide +kernel))) (by decide +kernel)
theorem in_Mo_41 : u_lay R_Mo T_Mo 41 ∈ al := al_in (ck_4 (List.mem_of_getElem? (i := 186) (by decide +kernel))) (by decide +kernel)
theorem in_Mo_42 : u_lay R_Mo T_Mo 42 ∈ al := al_in (ck_4 (List.mem_of_getElem? (i := 188) (by decide +kernel))) (by decide +kernel)
theorem in_Mo_43 : u_lay R_Mo T_Mo 43 ∈ al := al_in (ck_4 (List.mem_of_getElem? (i := 190) (by decide +kernel))) (by decide +kernel)
theorem in_Mo_44 : u_lay R_Mo T_Mo 44 ∈ al := al_in (ck_4 (List.mem_of_getElem? (i := 192) (by decide +kernel))) (by decide +kernel)
theorem in_Mo_45 : u_lay R_Mo T_Mo 45 ∈ al := al_in (ck_4 (List.mem_of_getElem? (i := 194) (by decide +kernel))) (by decide +kernel)
theorem in_Mo_46 : u_lay R_Mo T_Mo 46 ∈ al := al_in (ck_4 (List.mem_of_getElem? (i := 196) (by decide +kernel))) (by decide +kernel)
theorem in_Mo_47 : u_lay R_Mo T_Mo 47 ∈ al := al_in (ck_4 (List.mem_of_getElem? (i := 198) (by decide +kernel))) (by decide +kernel)
theorem in_Mo_48 : u_lay R_Mo T_Mo 48 ∈ al := al_in (ck_4 (List.mem_of_getElem? (i := 200) (by decide +kernel))) (by decide +kernel)
theorem in_Mo : ∀ w ∈ u_ws R_Mo T_Mo 49, w ∈ al := by
  intro w hw
  obtain ⟨k, hk, rfl⟩ := List.mem_map.mp hw
  have hk := List.mem_range.mp hk
  match k, hk with
  | 0, _ => exact in_Mo_0
  | 1, _ => exact in_Mo_1
  | 2, _ => exact in_Mo_2
  | 3, _ => exact in_Mo_3
  | 4, _ => exact in_Mo_4
  | 5, _ => exact in_Mo_5
  | 6, _ => exact in_Mo_6
  | 7, _ => exact in_Mo_7
  | 8, _ => exact in_Mo_8
  | 9, _ => exact in_Mo_9
  | 10, _ => exact in_Mo_10
  | 11, _ => exact in_Mo_11
  | 12, _ => exact in_Mo_12
  | 13, _ => exact in_Mo_13
  | 14, _ => exact in_Mo_14
  | 15, _ => exact in_Mo_15
  | 16, _ => exact in_Mo_16
  | 17, _ => exact in_Mo_17
  | 18, _ => exact in_Mo_18
  | 19, _ => exact in_Mo_19
  | 20, _ => exact in_Mo_20
  | 21, _ => exact in_Mo_21
  | 22, _ => exact in_Mo_22
  | 23, _ => exact in_Mo_23
  | 24, _ => exact in_Mo_24
  | 25, _ => exact in_Mo_25
  | 26, _ => exact in_Mo_26
  | 27, _ => exact in_Mo_27
  | 28, _ => exact in_Mo_28
  | 29, _ => exact in_Mo_29
  | 30, _ => exact in_Mo_30
  | 31, _ => exact in_Mo_31
  | 32, _ => exact in_Mo_32
  | 33, _ => exact in_Mo_33
  | 34, _ => exact in_Mo_34
  | 35, _ => exact in_Mo_35
  | 36, _ => exact in_Mo_36
  | 37, _ => exact in_Mo_37
  | 38, _ => exact in_Mo_38
  | 39, _ => exact in_Mo_39
  | 40, _ => exact in_Mo_40
  | 41, _ => exact in_Mo_41
  | 42, _ => exact in_Mo_42
  | 43, _ => exact in_Mo_43
  | 44, _ => exact in_Mo_44
  | 45, _ => exact in_Mo_45
  | 46, _ => exact in_Mo_46
  | 47, _ => exact in_Mo_47
  | 48, _ => exact in_Mo_48
  | (n + 49), h => omega
end
section
/-! ===== what a state of a system is: numbers by cell and place; the world of its cells ===== -/
abbrev Sg : Type := Nat → Nat → Int32
def st (σ : Sg) (c : Nat) (f : Nat → Int32) : Sg := fun b => cond (Nat.beq b c) f (σ b)
abbrev sf (σ : Sg) (c k : Nat) (v : Int32) : Sg := st σ c (upd (σ c) k v)
def Bx (D : va_G) (cI : ClassId) (wd : Sg → va_W) (A1 : Nat → Prop) (σ : Sg) (U : State) : Prop := va_P D vwCl (wd σ) U.heap ∧ va_K D vwCl [(cI, .int)] U ∧ va_D A1 (wd σ) ∧ NW U
def Wx (D : va_G) (cI : ClassId) (wd : Sg → va_W) (A1 A : Nat → Prop) (s : State) (H0 H : Heap) (locs : List Loc) (σ : Sg) : Prop := va_K D vwCl [(cI, .int)] s ∧ va_P D vwCl (wd σ) H ∧ va_D A1 (wd σ) ∧ va_S A H0 H locs ∧ NW s ∧ ∀ q, A1 q → A q
abbrev Px (D : va_G) (cI : ClassId) (wd : Sg → va_W) (A1 : Nat → Prop) (σ : Sg) (as : List Value) : Array Value → State → Prop := va_Pc as (Bx D cI wd A1 σ)
theorem Px_blind {D : va_G} {cI : ClassId} {wd : Sg → va_W} {A1 : Nat → Prop} {σ : Sg} {as : List Value} : FrameBlind (Px D cI wd A1 σ as) := fun a U g mk q => ⟨q.1, q.2.1, va_K.moved (u := U) (U := U.calling g mk a) (Vm.Alike.refl U.vm) q.2.2.1, q.2.2.2.1, NW.same (s := U) (U := U.calling g mk a) rfl q.2.2.2.2⟩
theorem Wx.bx {D : va_G} {cI : ClassId} {wd : Sg → va_W} {A1 A : Nat → Prop} {s : State} {H0 H : Heap} {locs : List Loc} {σ : Sg} (w : Wx D cI wd A1 A s H0 H locs σ) {U : State} (hU : U.heap = H) (hW : s.WarmedH U.vm) : Bx D cI wd A1 σ U := ⟨by rw [hU]; exact w.2.1, va_K.moved hW.alike w.1, w.2.2.1, NW.warm hW w.2.2.2.2.1⟩
theorem Wx.dA {D : va_G} {cI : ClassId} {wd : Sg → va_W} {A1 A : Nat → Prop} {s : State} {H0 H : Heap} {locs : List Loc} {σ : Sg} (w : Wx D cI wd A1 A s H0 H locs σ) : va_D A (wd σ) := w.2.2.1.weaken (fun _ q _ h => w.2.2.2.2.2 q.1 h)
/-- a contract out of a walk of the body -/
theorem Mx (l : Launch) {y : MethodName} {b : ByteArray} {mL : Nat} {ret : Option FieldType} {rm : Room} {D : va_G} {cI : ClassId} {wd : Sg → va_W} {A1 : Nat → Prop} {σ : Sg} {as : List Value} {Qc : Array Value → State → Outcome → State → Prop} (hy : plainName y.cls = true) (hent : (lg_sl as).length ≤ mL)
    (body : ∀ (p : Program) (e : Env) (s : State) (m : MethodId) (below : List Frame) (meth : Method) (c : Code) (ls : Array Slot), CallFix p m c b mL s as.toArray al y.cls → Wx D cI wd A1 A1 s s.heap s.heap [] σ → meth.sig.returnType = ret → meth.locks = false → lv_has ls mL (lv_args 0 as) →
      W p l e rm s m as.toArray below meth c s.heap [] 0 0 (MQ below Qc as.toArray s 0 0 A1) (F0 m 0 ls [])) : Met l y (Cond.code y b mL ret :: al) rm (Px D cI wd A1 σ as) Qc 0 0 A1 := by
  refine Met.ofW (cc := b) (maxL := mL) (ret := ret) hy rfl ?_
  intro p e s m args below meth c s₁ B hml hv
  obtain ⟨rfl, hP, hK, hD, hN⟩ := hv
  have hl := lv_entry as (n := mL) hent
  rw [lg_entry_eq]
  generalize (lg_sl as ++ List.replicate (mL - (lg_sl as).length) Slot.unset).toArray = ls at hl ⊢
  exact body p e s m below meth c ls ⟨B.exec, B.bytes, hml, findClass_of_methodNamed B.named, fun w h => atoms_spec (ws := Cond.code y b mL ret :: al) B.pre w (List.mem_cons_of_mem _ h)⟩ ⟨hK, hP, hD, va_S.rf, hN, fun _ h => h⟩ B.returns B.notSynchronized hl
section BX
variable {p : Program} {l : Launch} {e : Env} {R : Room} {s : State} {m : MethodId} {args : Array Value} {below : List Frame} {meth : Method} {c : Code} {H H0 : Heap} {locs : List Loc} {cells slots : Nat} {Q : State → Prop} {cc : ByteArray} {pc nL : Nat} {ls : Array Slot} {rest st0 : List Value} {own : String} {D : va_G} {cI : ClassId} {wd : Sg → va_W} {A1 A : Nat → Prop} {σ u : Sg}
/-- a cut: what holds where roads meet -/
theorem cutW {g : JFrame} {α : Type} (S : α → Heap → List Loc → Array Slot → Prop) (G : α → Array Slot → JFrame)
    (k1 : ∀ (x : α) (H1 : Heap) (locs1 : List Loc) (ls1 : Array Slot), S x H1 locs1 ls1 → W p l e R s m args below meth c H1 locs1 cells slots Q (G x ls1))
    (k2 : (∀ (x : α) (H1 : Heap) (locs1 : List Loc) (ls1 : Array Slot), S x H1 locs1 ls1 → W p l e R s m args below meth c H1 locs1 cells slots Q (G x ls1)) → W p l e R s m args below meth c H locs cells slots Q g) : W p l e R s m args below meth c H locs cells slots Q g := k2 k1
/-- ends: void, int, boolean; with a state that may have changed (R), or the same (K) -/
theorem Rv (F : CallFix p m c cc nL s args al own) (hr : meth.sig.returnType = none) (hlk : meth.locks = false) (w : Wx D cI wd A1 A1 s s.heap H locs u) {f : Sg} (hf : u = f) (hdg : decode cc pc = .ok (.return_, 1)) :
    W p l e R s m args below meth c H locs 0 0 (MQ below (va_Qv (fun u => u = f) (Bx D cI wd A1) A1) args s 0 0 A1) (F0 m pc ls []) :=
  W.vret F.1 F.2.1 hr (fun t ht hW => ⟨⟨u, rfl, hf, w.bx ht hW⟩, w.2.2.2.1.F ht⟩) w.2.2.2.1.2.2 hdg hlk
theorem Ri (F : CallFix p m c cc nL s args al own) (hr : meth.sig.returnType = some .int) (hlk : meth.locks = false) (w : Wx D cI wd A1 A1 s s.heap H locs u) {v : Int32} {f : Int32 × Sg} (hf : (v, u) = f) (hdg : decode cc pc = .ok (.ireturn, 1)) :
    W p l e R s m args below meth c H locs 0 0 (MQ below (va_Qi (fun r u => (r, u) = f) (Bx D cI wd A1) A1) args s 0 0 A1) (F0 m pc ls [.int v]) :=
  W.iret F.1 F.2.1 hr (fun t ht hW => ⟨⟨v, u, rfl, hf, w.bx ht hW⟩, w.2.2.2.1.F ht⟩) w.2.2.2.1.2.2 hdg hlk
theorem Ki (F : CallFix p m c cc nL s args al own) (hr : meth.sig.returnType = some .int) (hlk : meth.locks = false) (w : Wx D cI wd A1 A1 s s.heap H locs σ) {v f : Int32} (hf : v = f) (hdg : decode cc pc = .ok (.ireturn, 1)) :
    W p l e R s m args below meth c H locs 0 0 (MQ below (va_Qi (fun r u => r = f ∧ u = σ) (Bx D cI wd A1) A1) args s 0 0 A1) (F0 m pc ls [.int v]) :=
  W.iret F.1 F.2.1 hr (fun t ht hW => ⟨⟨v, σ, rfl, ⟨hf, rfl⟩, w.bx ht hW⟩, w.2.2.2.1.F ht⟩) w.2.2.2.1.2.2 hdg hlk
theorem nz {v : Int32} (h : v = 0 ∨ v = 1) : narrow .boolean (.int v) = .int v := by rcases h with rfl | rfl <;> rfl
theorem fz {v : Int32} (h : v = 0 ∨ v = 1) : fits .boolean (.int v) = true := by rcases h with rfl | rfl <;> rfl
theorem Rz (F : CallFix p m c cc nL s args al own) (hr : meth.sig.returnType = some .boolean) (hlk : meth.locks = false) (w : Wx D cI wd A1 A1 s s.heap H locs u) {v : Int32} (hz : v = 0 ∨ v = 1) {f : Int32 × Sg} (hf : (v, u) = f) (hdg : decode cc pc = .ok (.ireturn, 1)) :
    W p l e R s m args below meth c H locs 0 0 (MQ below (va_Qi (fun r u => (r, u) = f) (Bx D cI wd A1) A1) args s 0 0 A1) (F0 m pc ls [.int v]) :=
  W.zret F.1 F.2.1 hr (nz hz) (fun t ht hW => ⟨⟨v, u, rfl, hf, w.bx ht hW⟩, w.2.2.2.1.F ht⟩) w.2.2.2.1.2.2 hdg hlk
theorem Kz (F : CallFix p m c cc nL s args al own) (hr : meth.sig.returnType = some .boolean) (hlk : meth.locks = false) (w : Wx D cI wd A1 A1 s s.heap H locs σ) {v : Int32} (hz : v = 0 ∨ v = 1) {f : Int32} (hf : v = f) (hdg : decode cc pc = .ok (.ireturn, 1)) :
    W p l e R s m args below meth c H locs 0 0 (MQ below (va_Qi (fun r u => r = f ∧ u = σ) (Bx D cI wd A1) A1) args s 0 0 A1) (F0 m pc ls [.int v]) :=
  W.zret F.1 F.2.1 hr (nz hz) (fun t ht hW => ⟨⟨v, σ, rfl, ⟨hf, rfl⟩, w.bx ht hW⟩, w.2.2.2.1.F ht⟩) w.2.2.2.1.2.2 hdg hlk
/-- what the tables say of a method: an instance method, a static one -/
def Kv (y : MethodName) (C : String) (b : ByteArray) (mL : Nat) (ret : Option FieldType) (n : Nat) : Prop := Cond.instanceMethod y ∈ al ∧ Cond.selects C y y ∈ al ∧ Cond.initialized y.cls ∈ al ∧ Cond.code y b mL ret ∈ al ∧ (y.cls ≠ "java/lang/invoke/MethodHandle" ∧ y.cls ≠ "java/lang/invoke/VarHandle") ∧ (parseMethodDescriptor y.desc).map (fun d => d.parameters.length) = some n
def Ks (y : MethodName) (b : ByteArray) (mL : Nat) (ret : Option FieldType) (n : Nat) : Prop := Cond.static y ∈ al ∧ Cond.initialized y.cls ∈ al ∧ Cond.code y b mL ret ∈ al ∧ (y.cls ≠ "java/lang/invoke/MethodHandle" ∧ y.cls ≠ "java/lang/invoke/VarHandle") ∧ (parseMethodDescriptor y.desc).map (fun d => d.parameters.length) = some n
theorem len_of {y : MethodName} {n : Nat} (h : (parseMethodDescriptor y.desc).map (fun d => d.parameters.length) = some n) : ∀ sig, parseMethodDescriptor y.desc = some sig → n = sig.parameters.length := fun sig hs => by
  rw [hs] at h
  exact (Option.some.inj h).symm
variable {y : MethodName} {b : ByteArray} {mL n ix a : Nat} {ret : Option FieldType} {rm : Room} {As : List Value} {Qc : Array Value → State → Outcome → State → Prop}
theorem cwA {C : String} (F : CallFix p m c cc nL s args al own) (hk : Kv y C b mL ret n) (hm : Cond.methodLink own ix y ∈ al) (hR1 : rm.frames + 1 ≤ R.frames) (hR2 : 8 + (mL + 11) + rm.locals ≤ R.locals) (hrc : rm.cells = 0) (hrs : rm.slots = 0) : CallW R s args own C ix y b mL ret (Cond.code y b mL ret :: al) rm 0 0 n :=
  ⟨⟨hrc, hrs, hR1, hR2, pay_in F.2.2.2.2 (al_code hk.2.2.2.1), List.mem_cons_self, F.2.2.2.2 _ hk.2.2.2.1, F.2.2.2.2 _ hk.2.2.1, hk.2.2.2.2.1, len_of hk.2.2.2.2.2, F.2.2.2.2 _ hm⟩, F.2.2.2.2 _ hk.1, F.2.2.2.2 _ hk.2.1⟩
theorem csA (F : CallFix p m c cc nL s args al own) (hk : Ks y b mL ret n) (hm : Cond.methodLink own ix y ∈ al) (hR1 : rm.frames + 1 ≤ R.frames) (hR2 : 8 + (mL + 11) + rm.locals ≤ R.locals) (hrc : rm.cells = 0) (hrs : rm.slots = 0) : CallB R s args own ix y b mL ret (Cond.code y b mL ret :: al) rm 0 0 n ∧ (Cond.static y).before args s = true :=
  ⟨⟨hrc, hrs, hR1, hR2, pay_in F.2.2.2.2 (al_code hk.2.2.1), List.mem_cons_self, F.2.2.2.2 _ hk.2.2.1, F.2.2.2.2 _ hk.2.1, hk.2.2.2.1, len_of hk.2.2.2.2, F.2.2.2.2 _ hm⟩, F.2.2.2.2 _ hk.1⟩
theorem cnA {host : String} (F : CallFix p m c cc nL s args al own) (hN : NW s) (hk : Ks y b mL ret n) (hm : Cond.methodLinkNest own ix y host ∈ nw) (hR1 : rm.frames + 1 ≤ R.frames) (hR2 : 8 + (mL + 11) + rm.locals ≤ R.locals) (hrc : rm.cells = 0) (hrs : rm.slots = 0) : va_CN R s args own ix y host b mL ret (Cond.code y b mL ret :: al) rm 0 0 n ∧ (Cond.static y).before args s = true ∧ True :=
  ⟨⟨⟨hrc, hrs, hR1, hR2, pay_in F.2.2.2.2 (al_code hk.2.2.1), List.mem_cons_self⟩, F.2.2.2.2 _ hk.2.2.1, F.2.2.2.2 _ hk.2.1, hk.2.2.2.1, len_of hk.2.2.2.2, va_Nw.use rfl (hN _ hm)⟩, F.2.2.2.2 _ hk.1, trivial⟩
theorem preA (w : Wx D cI wd A1 A s H0 H locs σ) (q0 : Nat) {ci : Nat} {fs : List Value} {q : vw_C} (he : (wd σ)[q0]? = some (a, .inr (ci, fs))) (hc : vwCl[ci]? = some q) : PreV s H q.1 a (Px D cI wd A1 σ (.ref a :: As)) As := ⟨Px_blind, va_recv w.1 w.2.1 hc he, fun U hU hW => ⟨rfl, w.bx hU hW⟩⟩
theorem preB (w : Wx D cI wd A1 A s H0 H locs σ) : PreS s H (Px D cI wd A1 σ As) As := ⟨Px_blind, fun U hU hW => ⟨rfl, w.bx hU hW⟩⟩
/-- what comes back -/
theorem Wx.back {t : State} {H1 : Heap} {locs1 : List Loc} (w : Wx D cI wd A1 A s H0 H locs σ) (ht : t.heap = H1) (hB : Bx D cI wd A1 u t) (hS : va_S A H0 H1 locs1) : Wx D cI wd A1 A s H0 H1 locs1 u := ⟨w.1, by rw [← ht]; exact hB.1, hB.2.2.1, hS, w.2.2.2.2.1, w.2.2.2.2.2⟩
/-- calls of instance methods: C with a new state, K with the same; i an int, v nothing -/
theorem Cvi (F : CallFix p m c cc nL s args al own) (w : Wx D cI wd A1 A s H0 H locs σ) {f : Int32 × Sg} (hM : Met l y (Cond.code y b mL ret :: al) rm (Px D cI wd A1 σ (.ref a :: As)) (va_Qi (fun r u => (r, u) = f) (Bx D cI wd A1) A1) 0 0 A1) (q0 : Nat) {ci : Nat} {fs : List Value} {q : vw_C} (he : (wd σ)[q0]? = some (a, .inr (ci, fs))) (hc : vwCl[ci]? = some q) (hk : Kv y q.1 b mL ret n) (hm : Cond.methodLink own ix y ∈ al) (hR1 : rm.frames + 1 ≤ R.frames) (hR2 : 8 + (mL + 11) + rm.locals ≤ R.locals) (hrc : rm.cells = 0 ∧ rm.slots = 0) (hn : As.length = n) (hsz : ls.size = nL) (hst : st0 = As.reverse ++ .ref a :: rest) (hrm : (rest.map fun v => v.category).sum ≤ 8) (hdg : decode cc pc = .ok (.invokevirtual ix, 3)) (hcs : cells ≤ R.cells ∧ slots ≤ R.slots)
    (kk : ∀ (r : Int32) (u : Sg) (H1 : Heap) (locs1 : List Loc), r = f.1 → u = f.2 → Wx D cI wd A1 A s H0 H1 locs1 u → W p l e R s m args below meth c H1 locs1 cells slots Q (F0 m (pc + 3) ls (.int r :: rest))) : W p l e R s m args below meth c H locs cells slots Q (F0 m pc ls st0) :=
  va_calli (va_runV (As := As) (rest := rest) (b := a) F hM (cwA F hk hm hR1 hR2 hrc.1 hrc.2) (preA w q0 he hc) rfl hn hsz hst (lv_room hrm) hdg hcs) w.2.2.2.1 (fun q _ h => w.2.2.2.2.2 q h) (fun q h => w.2.2.2.2.2 q h) (fun r u t H1 locs1 ht _ hp hB _ _ hS => kk r u H1 locs1 (congrArg Prod.fst hp) (congrArg Prod.snd hp) (w.back ht hB hS))
theorem Kvi (F : CallFix p m c cc nL s args al own) (w : Wx D cI wd A1 A s H0 H locs σ) {f : Int32} (hM : Met l y (Cond.code y b mL ret :: al) rm (Px D cI wd A1 σ (.ref a :: As)) (va_Qi (fun r u => r = f ∧ u = σ) (Bx D cI wd A1) A1) 0 0 A1) (q0 : Nat) {ci : Nat} {fs : List Value} {q : vw_C} (he : (wd σ)[q0]? = some (a, .inr (ci, fs))) (hc : vwCl[ci]? = some q) (hk : Kv y q.1 b mL ret n) (hm : Cond.methodLink own ix y ∈ al) (hR1 : rm.frames + 1 ≤ R.frames) (hR2 : 8 + (mL + 11) + rm.locals ≤ R.locals) (hrc : rm.cells = 0 ∧ rm.slots = 0) (hn : As.length = n) (hsz : ls.size = nL) (hst : st0 = As.reverse ++ .ref a :: rest) (hrm : (rest.map fun v => v.category).sum ≤ 8) (hdg : decode cc pc = .ok (.invokevirtual ix, 3)) (hcs : cells ≤ R.cells ∧ slots ≤ R.slots)
    (kk : ∀ (r : Int32) (H1 : Heap) (locs1 : List Loc), r = f → Wx D cI wd A1 A s H0 H1 locs1 σ → W p l e R s m args below meth c H1 locs1 cells slots Q (F0 m (pc + 3) ls (.int r :: rest))) : W p l e R s m args below meth c H locs cells slots Q (F0 m pc ls st0) :=
  va_calli (va_runV (As := As) (rest := rest) (b := a) F hM (cwA F hk hm hR1 hR2 hrc.1 hrc.2) (preA w q0 he hc) rfl hn hsz hst (lv_room hrm) hdg hcs) w.2.2.2.1 (fun q _ h => w.2.2.2.2.2 q h) (fun q h => w.2.2.2.2.2 q h) (fun r u t H1 locs1 ht _ hp hB _ _ hS => kk r H1 locs1 hp.1 (hp.2 ▸ w.back ht hB hS))
theorem Cvv (F : CallFix p m c cc nL s args al own) (w : Wx D cI wd A1 A s H0 H locs σ) {f : Sg} (hM : Met l y (Cond.code y b mL ret :: al) rm (Px D cI wd A1 σ (.ref a :: As)) (va_Qv (fun u => u = f) (Bx D cI wd A1) A1) 0 0 A1) (q0 : Nat) {ci : Nat} {fs : List Value} {q : vw_C} (he : (wd σ)[q0]? = some (a, .inr (ci, fs))) (hc : vwCl[ci]? = some q) (hk : Kv y q.1 b mL ret n) (hm : Cond.methodLink own ix y ∈ al) (hR1 : rm.frames + 1 ≤ R.frames) (hR2 : 8 + (mL + 11) + rm.locals ≤ R.locals) (hrc : rm.cells = 0 ∧ rm.slots = 0) (hn : As.length = n) (hsz : ls.size = nL) (hst : st0 = As.reverse ++ .ref a :: rest) (hrm : (rest.map fun v => v.category).sum ≤ 8) (hdg : decode cc pc = .ok (.invokevirtual ix, 3)) (hcs : cells ≤ R.cells ∧ slots ≤ R.slots)
    (kk : ∀ (u : Sg) (H1 : Heap) (locs1 : List Loc), u = f → Wx D cI wd A1 A s H0 H1 locs1 u → W p l e R s m args below meth c H1 locs1 cells slots Q (F0 m (pc + 3) ls rest)) : W p l e R s m args below meth c H locs cells slots Q (F0 m pc ls st0) :=
  va_callv (va_runV (As := As) (rest := rest) (b := a) F hM (cwA F hk hm hR1 hR2 hrc.1 hrc.2) (preA w q0 he hc) rfl hn hsz hst (lv_room hrm) hdg hcs) w.2.2.2.1 (fun q _ h => w.2.2.2.2.2 q h) (fun q h => w.2.2.2.2.2 q h) (fun u t H1 locs1 ht _ hp hB _ _ hS => kk u H1 locs1 hp (w.back ht hB hS))
/-- calls of static methods -/
theorem Ksi (F : CallFix p m c cc nL s args al own) (w : Wx D cI wd A1 A s H0 H locs σ) {f : Int32} (hM : Met l y (Cond.code y b mL ret :: al) rm (Px D cI wd A1 σ As) (va_Qi (fun r u => r = f ∧ u = σ) (Bx D cI wd A1) A1) 0 0 A1) (hk : Ks y b mL ret n) (hm : Cond.methodLink own ix y ∈ al) (hR1 : rm.frames + 1 ≤ R.frames) (hR2 : 8 + (mL + 11) + rm.locals ≤ R.locals) (hrc : rm.cells = 0 ∧ rm.slots = 0) (hn : As.length = n) (hsz : ls.size = nL) (hst : st0 = As.reverse ++ rest) (hrm : (rest.map fun v => v.category).sum ≤ 8) (hdg : decode cc pc = .ok (.invokestatic ix, 3)) (hcs : cells ≤ R.cells ∧ slots ≤ R.slots)
    (kk : ∀ (r : Int32) (H1 : Heap) (locs1 : List Loc), r = f → Wx D cI wd A1 A s H0 H1 locs1 σ → W p l e R s m args below meth c H1 locs1 cells slots Q (F0 m (pc + 3) ls (.int r :: rest))) : W p l e R s m args below meth c H locs cells slots Q (F0 m pc ls st0) :=
  va_calli (va_runS (As := As) (rest := rest) F hM (csA F hk hm hR1 hR2 hrc.1 hrc.2) (preB w) rfl hn hsz hst (lv_room hrm) hdg hcs) w.2.2.2.1 (fun q _ h => w.2.2.2.2.2 q h) (fun q h => w.2.2.2.2.2 q h) (fun r u t H1 locs1 ht _ hp hB _ _ hS => kk r H1 locs1 hp.1 (hp.2 ▸ w.back ht hB hS))
theorem Csv (F : CallFix p m c cc nL s args al own) (w : Wx D cI wd A1 A s H0 H locs σ) {f : Sg} (hM : Met l y (Cond.code y b mL ret :: al) rm (Px D cI wd A1 σ As) (va_Qv (fun u => u = f) (Bx D cI wd A1) A1) 0 0 A1) (hk : Ks y b mL ret n) (hm : Cond.methodLink own ix y ∈ al) (hR1 : rm.frames + 1 ≤ R.frames) (hR2 : 8 + (mL + 11) + rm.locals ≤ R.locals) (hrc : rm.cells = 0 ∧ rm.slots = 0) (hn : As.length = n) (hsz : ls.size = nL) (hst : st0 = As.reverse ++ rest) (hrm : (rest.map fun v => v.category).sum ≤ 8) (hdg : decode cc pc = .ok (.invokestatic ix, 3)) (hcs : cells ≤ R.cells ∧ slots ≤ R.slots)
    (kk : ∀ (u : Sg) (H1 : Heap) (locs1 : List Loc), u = f → Wx D cI wd A1 A s H0 H1 locs1 u → W p l e R s m args below meth c H1 locs1 cells slots Q (F0 m (pc + 3) ls rest)) : W p l e R s m args below meth c H locs cells slots Q (F0 m pc ls st0) :=
  va_callv (va_runS (As := As) (rest := rest) F hM (csA F hk hm hR1 hR2 hrc.1 hrc.2) (preB w) rfl hn hsz hst (lv_room hrm) hdg hcs) w.2.2.2.1 (fun q _ h => w.2.2.2.2.2 q h) (fun q h => w.2.2.2.2.2 q h) (fun u t H1 locs1 ht _ hp hB _ _ hS => kk u H1 locs1 hp (w.back ht hB hS))
theorem KsNi {host : String} (F : CallFix p m c cc nL s args al own) (w : Wx D cI wd A1 A s H0 H locs σ) {f : Int32} (hM : Met l y (Cond.code y b mL ret :: al) rm (Px D cI wd A1 σ As) (va_Qi (fun r u => r = f ∧ u = σ) (Bx D cI wd A1) A1) 0 0 A1) (hk : Ks y b mL ret n) (hm : Cond.methodLinkNest own ix y host ∈ nw) (hR1 : rm.frames + 1 ≤ R.frames) (hR2 : 8 + (mL + 11) + rm.locals ≤ R.locals) (hrc : rm.cells = 0 ∧ rm.slots = 0) (hn : As.length = n) (hsz : ls.size = nL) (hst : st0 = As.reverse ++ rest) (hrm : (rest.map fun v => v.category).sum ≤ 8) (hdg : decode cc pc = .ok (.invokestatic ix, 3)) (hcs : cells ≤ R.cells ∧ slots ≤ R.slots)
    (kk : ∀ (r : Int32) (H1 : Heap) (locs1 : List Loc), r = f → Wx D cI wd A1 A s H0 H1 locs1 σ → W p l e R s m args below meth c H1 locs1 cells slots Q (F0 m (pc + 3) ls (.int r :: rest))) : W p l e R s m args below meth c H locs cells slots Q (F0 m pc ls st0) :=
  va_calli (va_runSN (As := As) (rest := rest) F hM (cnA F w.2.2.2.2.1 hk hm hR1 hR2 hrc.1 hrc.2) (preB w) rfl hn hsz hst (lv_room hrm) hdg hcs) w.2.2.2.1 (fun q _ h => w.2.2.2.2.2 q h) (fun q h => w.2.2.2.2.2 q h) (fun r u t H1 locs1 ht _ hp hB _ _ hS => kk r H1 locs1 hp.1 (hp.2 ▸ w.back ht hB hS))
end BX
/-! ===== static methods on numbers alone: the heap stays ===== -/
def PU (as : List Value) : Array Value → State → Prop := va_Pc as (fun _ => True)
def QU (f : Int32) : Array Value → State → Outcome → State → Prop := fun _ st o t => o = .returned (some (.int f)) ∧ t.heap = st.heap
theorem PU_blind {as : List Value} : FrameBlind (PU as) := fun _ _ _ _ q => ⟨q.1, trivial⟩
theorem Mu (l : Launch) {y : MethodName} {b : ByteArray} {mL : Nat} {ret : Option FieldType} {rm : Room} {as : List Value} {f : Int32} (hy : plainName y.cls = true) (hent : (lg_sl as).length ≤ mL)
    (body : ∀ (p : Program) (e : Env) (s : State) (m : MethodId) (below : List Frame) (meth : Method) (c : Code) (ls : Array Slot), CallFix p m c b mL s as.toArray al y.cls → meth.sig.returnType = ret → meth.locks = false → lv_has ls mL (lv_args 0 as) →
      W p l e rm s m as.toArray below meth c s.heap [] 0 0 (MQ below (QU f) as.toArray s 0 0 (fun _ => False)) (F0 m 0 ls [])) : Met l y (Cond.code y b mL ret :: al) rm (PU as) (QU f) 0 0 (fun _ => False) := by
  refine Met.ofW (cc := b) (maxL := mL) (ret := ret) hy rfl ?_
  intro p e s m args below meth c s₁ B hml hv
  obtain ⟨rfl, -⟩ := hv
  have hl := lv_entry as (n := mL) hent
  rw [lg_entry_eq]
  generalize (lg_sl as ++ List.replicate (mL - (lg_sl as).length) Slot.unset).toArray = ls at hl ⊢
  exact body p e s m below meth c ls ⟨B.exec, B.bytes, hml, findClass_of_methodNamed B.named, fun w h => atoms_spec (ws := Cond.code y b mL ret :: al) B.pre w (List.mem_cons_of_mem _ h)⟩ B.returns B.notSynchronized hl
section UX
variable {p : Program} {l : Launch} {e : Env} {R : Room} {s : State} {m : MethodId} {args : Array Value} {below : List Frame} {meth : Method} {c : Code} {H : Heap} {locs : List Loc} {cells slots : Nat} {Q : State → Prop} {cc : ByteArray} {pc nL : Nat} {ls : Array Slot} {rest st0 : List Value} {own : String}
theorem Ui (F : CallFix p m c cc nL s args al own) (w : H = s.heap ∧ locs = []) (hr : meth.sig.returnType = some .int) (hlk : meth.locks = false) {v f : Int32} (hf : v = f) (hdg : decode cc pc = .ok (.ireturn, 1)) :
    W p l e R s m args below meth c H locs 0 0 (MQ below (QU f) args s 0 0 (fun _ => False)) (F0 m pc ls [.int v]) :=
  W.iret F.1 F.2.1 hr (fun t ht hW => ⟨by rw [hf], ht.trans w.1⟩) (fun q hq => by rw [w.2] at hq; cases hq) hdg hlk
theorem Uz (F : CallFix p m c cc nL s args al own) (w : H = s.heap ∧ locs = []) (hr : meth.sig.returnType = some .boolean) (hlk : meth.locks = false) {v f : Int32} (hz : v = 0 ∨ v = 1) (hf : v = f) (hdg : decode cc pc = .ok (.ireturn, 1)) :
    W p l e R s m args below meth c H locs 0 0 (MQ below (QU f) args s 0 0 (fun _ => False)) (F0 m pc ls [.int v]) :=
  W.zret F.1 F.2.1 hr (nz hz) (fun t ht hW => ⟨by rw [hf], ht.trans w.1⟩) (fun q hq => by rw [w.2] at hq; cases hq) hdg hlk
variable {y : MethodName} {b : ByteArray} {mL n ix : Nat} {ret : Option FieldType} {rm : Room} {As : List Value} {f : Int32}
theorem Usi (F : CallFix p m c cc nL s args al own) (hM : Met l y (Cond.code y b mL ret :: al) rm (PU As) (QU f) 0 0 (fun _ => False)) (hk : Ks y b mL ret n) (hm : Cond.methodLink own ix y ∈ al) (hR1 : rm.frames + 1 ≤ R.frames) (hR2 : 8 + (mL + 11) + rm.locals ≤ R.locals) (hrc : rm.cells = 0 ∧ rm.slots = 0) (hn : As.length = n) (hsz : ls.size = nL) (hst : st0 = As.reverse ++ rest) (hrm : (rest.map fun v => v.category).sum ≤ 8) (hdg : decode cc pc = .ok (.invokestatic ix, 3)) (hcs : cells ≤ R.cells ∧ slots ≤ R.slots)
    (kk : ∀ (r : Int32), r = f → W p l e R s m args below meth c H locs cells slots Q (F0 m (pc + 3) ls (.int r :: rest))) : W p l e R s m args below meth c H locs cells slots Q (F0 m pc ls st0) := by
  intro T hT X
  obtain ⟨v, st₀, t, T', L, h0, X', hL, e1, e2, ⟨hv, ht⟩, st⟩ := va_runS (As := As) (rest := rest) F hM (csA F hk hm hR1 hR2 hrc.1 hrc.2) ⟨PU_blind, fun U _ _ => ⟨rfl, trivial⟩⟩ (g := F0 m pc ls st0) rfl hn hsz hst (lv_room hrm) hdg hcs T hT X
  cases hv
  have hL0 : L = [] := List.eq_nil_iff_forall_not_mem.mpr (fun q hq => hL q hq)
  subst hL0
  rw [List.append_nil] at X'
  obtain ⟨t2, a1, b1⟩ := kk f rfl T' (by rw [e1, ht, h0]) X'
  exact ⟨t2, st t2 a1, b1⟩
theorem UsNi {host : String} (F : CallFix p m c cc nL s args al own) (hN : NW s) (hM : Met l y (Cond.code y b mL ret :: al) rm (PU As) (QU f) 0 0 (fun _ => False)) (hk : Ks y b mL ret n) (hm : Cond.methodLinkNest own ix y host ∈ nw) (hR1 : rm.frames + 1 ≤ R.frames) (hR2 : 8 + (mL + 11) + rm.locals ≤ R.locals) (hrc : rm.cells = 0 ∧ rm.slots = 0) (hn : As.length = n) (hsz : ls.size = nL) (hst : st0 = As.reverse ++ rest) (hrm : (rest.map fun v => v.category).sum ≤ 8) (hdg : decode cc pc = .ok (.invokestatic ix, 3)) (hcs : cells ≤ R.cells ∧ slots ≤ R.slots)
    (kk : ∀ (r : Int32), r = f → W p l e R s m args below meth c H locs cells slots Q (F0 m (pc + 3) ls (.int r :: rest))) : W p l e R s m args below meth c H locs cells slots Q (F0 m pc ls st0) := by
  intro T hT X
  obtain ⟨v, st₀, t, T', L, h0, X', hL, e1, e2, ⟨hv, ht⟩, st⟩ := va_runSN (As := As) (rest := rest) F hM (cnA F hN hk hm hR1 hR2 hrc.1 hrc.2) ⟨PU_blind, fun U _ _ => ⟨rfl, trivial⟩⟩ (g := F0 m pc ls st0) rfl hn hsz hst (lv_room hrm) hdg hcs T hT X
  cases hv
  have hL0 : L = [] := List.eq_nil_iff_forall_not_mem.mpr (fun q hq => hL q hq)
  subst hL0
  rw [List.append_nil] at X'
  obtain ⟨t2, a1, b1⟩ := kk f rfl T' (by rw [e1, ht, h0]) X'
  exact ⟨t2, st t2 a1, b1⟩
end UX
/-! ===== loops: a counter that goes up ===== -/
def itr {α : Type} (f : Nat → α → α) (x : α) : Nat → α
  | 0 => x
  | j + 1 => f j (itr f x j)
theorem ci_0 (c : Int32) : c + nI 0 = c := by rw [nI_0, Int32.add_zero]
theorem ci_s (c : Int32) (j : Nat) : c + nI j + 1 = c + nI (j + 1) := by rw [nI_succ, Int32.add_assoc]
section LOOP
variable {p : Program} {l : Launch} {e : Env} {R : Room} {s : State} {m : MethodId} {args : Array Value} {below : List Frame} {meth : Method} {c : Code} {cells slots : Nat} {Q : State → Prop}
theorem loopW {α : Type} (n : Nat) (S : Nat → α → Heap → List Loc → Array Slot → Prop) (G : α → Array Slot → JFrame)
    (step : ∀ (j : Nat) (x : α) (H1 : Heap) (locs1 : List Loc) (ls1 : Array Slot), j < n → S j x H1 locs1 ls1 →
      (∀ (x' : α) (H' : Heap) (locs' : List Loc) (ls' : Array Slot), S (j + 1) x' H' locs' ls' → W p l e R s m args below meth c H' locs' cells slots Q (G x' ls')) → W p l e R s m args below meth c H1 locs1 cells slots Q (G x ls1))
    (exit : ∀ (x : α) (H1 : Heap) (locs1 : List Loc) (ls1 : Array Slot), S n x H1 locs1 ls1 → W p l e R s m args below meth c H1 locs1 cells slots Q (G x ls1)) :
    ∀ (j : Nat) (x : α) (H1 : Heap) (locs1 : List Loc) (ls1 : Array Slot), j ≤ n → S j x H1 locs1 ls1 → W p l e R s m args below meth c H1 locs1 cells slots Q (G x ls1) := by
  have key : ∀ (d j : Nat) (x : α) (H1 : Heap) (locs1 : List Loc) (ls1 : Array Slot), j + d = n → S j x H1 locs1 ls1 → W p l e R s m args below meth c H1 locs1 cells slots Q (G x ls1) := by
    intro d
    induction d with
    | zero =>
      intro j x H1 locs1 ls1 hj h
      have hj : j = n := hj
      subst hj
      exact exit x H1 locs1 ls1 h
    | succ d ih =>
      intro j x H1 locs1 ls1 hj h
      exact step j x H1 locs1 ls1 (by omega) h (fun x' H' locs' ls' h' => ih (j + 1) x' H' locs' ls' (by omega) h')
  intro j x H1 locs1 ls1 hj h
  exact key (n - j) j x H1 locs1 ls1 (by omega) h
end LOOP
end
