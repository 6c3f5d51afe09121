section
-- ===== PART A: goes FIRST, ahead of the names: the tables' words, and 'selects' of the private methods out of them =====
/-- a private method of a class that the tables say can be made, by its rows of tables_1 -/
def lw_okq (q : MethodName × Nat) : Prop := (q.1.cls ≠ "java/lang/invoke/MethodHandle" ∧ q.1.cls ≠ "java/lang/invoke/VarHandle") ∧ Cond.instantiable q.1.cls q.2 ∈ tables_1 ∧ Cond.privateMethod q.1 ∈ tables_1 ∧ Cond.instanceMethod q.1 ∈ tables_1
theorem lw_p0 : lw_okq (⟨"LaundryLoads", "found", "(I)I"⟩, 10) := ⟨⟨by decide +kernel, by decide +kernel⟩, List.mem_of_getElem? (i := 13) (by decide +kernel), List.mem_of_getElem? (i := 248) (by decide +kernel), List.mem_of_getElem? (i := 249) (by decide +kernel)⟩
theorem lw_p1 : lw_okq (⟨"LaundryLoads", "foundNothing", "(I)I"⟩, 10) := ⟨⟨by decide +kernel, by decide +kernel⟩, List.mem_of_getElem? (i := 13) (by decide +kernel), List.mem_of_getElem? (i := 257) (by decide +kernel), List.mem_of_getElem? (i := 258) (by decide +kernel)⟩
theorem lw_p2 : lw_okq (⟨"LaundryLoads$Tape", "toNextToken", "()V"⟩, 7) := ⟨⟨by decide +kernel, by decide +kernel⟩, List.mem_of_getElem? (i := 42) (by decide +kernel), List.mem_of_getElem? (i := 319) (by decide +kernel), List.mem_of_getElem? (i := 320) (by decide +kernel)⟩
theorem lw_p3 : lw_okq (⟨"LaundryLoads$Tape", "isFigure", "(I)Z"⟩, 7) := ⟨⟨by decide +kernel, by decide +kernel⟩, List.mem_of_getElem? (i := 42) (by decide +kernel), List.mem_of_getElem? (i := 323) (by decide +kernel), List.mem_of_getElem? (i := 324) (by decide +kernel)⟩
theorem lw_p4 : lw_okq (⟨"LaundryLoads$Tape", "readFigures", "()V"⟩, 7) := ⟨⟨by decide +kernel, by decide +kernel⟩, List.mem_of_getElem? (i := 42) (by decide +kernel), List.mem_of_getElem? (i := 327) (by decide +kernel), List.mem_of_getElem? (i := 328) (by decide +kernel)⟩
theorem lw_p5 : lw_okq (⟨"LaundryLoads$Tape", "readLaw", "(LLaundryLoads$Hall;)Z"⟩, 7) := ⟨⟨by decide +kernel, by decide +kernel⟩, List.mem_of_getElem? (i := 42) (by decide +kernel), List.mem_of_getElem? (i := 331) (by decide +kernel), List.mem_of_getElem? (i := 332) (by decide +kernel)⟩
theorem lw_p6 : lw_okq (⟨"LaundryLoads$Tape", "passes", "(I)Z"⟩, 7) := ⟨⟨by decide +kernel, by decide +kernel⟩, List.mem_of_getElem? (i := 42) (by decide +kernel), List.mem_of_getElem? (i := 335) (by decide +kernel), List.mem_of_getElem? (i := 336) (by decide +kernel)⟩
theorem lw_p7 : lw_okq (⟨"LaundryLoads$Tape", "failed", "(I)Z"⟩, 7) := ⟨⟨by decide +kernel, by decide +kernel⟩, List.mem_of_getElem? (i := 42) (by decide +kernel), List.mem_of_getElem? (i := 339) (by decide +kernel), List.mem_of_getElem? (i := 340) (by decide +kernel)⟩
theorem lw_p8 : lw_okq (⟨"LaundryLoads$Tape", "isNumber", "(II)Z"⟩, 7) := ⟨⟨by decide +kernel, by decide +kernel⟩, List.mem_of_getElem? (i := 42) (by decide +kernel), List.mem_of_getElem? (i := 343) (by decide +kernel), List.mem_of_getElem? (i := 344) (by decide +kernel)⟩
theorem lw_p9 : lw_okq (⟨"LaundryLoads$Tape", "takeNumber", "()I"⟩, 7) := ⟨⟨by decide +kernel, by decide +kernel⟩, List.mem_of_getElem? (i := 42) (by decide +kernel), List.mem_of_getElem? (i := 347) (by decide +kernel), List.mem_of_getElem? (i := 348) (by decide +kernel)⟩
theorem lw_p10 : lw_okq (⟨"LaundryLoads$Tape", "readMachines", "(LLaundryLoads$Hall;)Z"⟩, 7) := ⟨⟨by decide +kernel, by decide +kernel⟩, List.mem_of_getElem? (i := 42) (by decide +kernel), List.mem_of_getElem? (i := 351) (by decide +kernel), List.mem_of_getElem? (i := 352) (by decide +kernel)⟩
theorem lw_p11 : lw_okq (⟨"LaundryLoads$Tape", "readMachine", "(LLaundryLoads$Hall;)Z"⟩, 7) := ⟨⟨by decide +kernel, by decide +kernel⟩, List.mem_of_getElem? (i := 42) (by decide +kernel), List.mem_of_getElem? (i := 358) (by decide +kernel), List.mem_of_getElem? (i := 359) (by decide +kernel)⟩
theorem lw_p12 : lw_okq (⟨"LaundryLoads$Tape", "readLoads", "(LLaundryLoads$Hall;)Z"⟩, 7) := ⟨⟨by decide +kernel, by decide +kernel⟩, List.mem_of_getElem? (i := 42) (by decide +kernel), List.mem_of_getElem? (i := 366) (by decide +kernel), List.mem_of_getElem? (i := 367) (by decide +kernel)⟩
theorem lw_p13 : lw_okq (⟨"LaundryLoads$Tape", "readLoad", "(LLaundryLoads$Hall;)Z"⟩, 7) := ⟨⟨by decide +kernel, by decide +kernel⟩, List.mem_of_getElem? (i := 42) (by decide +kernel), List.mem_of_getElem? (i := 370) (by decide +kernel), List.mem_of_getElem? (i := 371) (by decide +kernel)⟩
theorem lw_p14 : lw_okq (⟨"LaundryLoads", "replaceHall", "(LLaundryLoads$Hall;)V"⟩, 10) := ⟨⟨by decide +kernel, by decide +kernel⟩, List.mem_of_getElem? (i := 13) (by decide +kernel), List.mem_of_getElem? (i := 383) (by decide +kernel), List.mem_of_getElem? (i := 384) (by decide +kernel)⟩
theorem lw_p15 : lw_okq (⟨"LaundryLoads", "beginAct", "()V"⟩, 10) := ⟨⟨by decide +kernel, by decide +kernel⟩, List.mem_of_getElem? (i := 13) (by decide +kernel), List.mem_of_getElem? (i := 418) (by decide +kernel), List.mem_of_getElem? (i := 419) (by decide +kernel)⟩
def lw_privs_1 : List (MethodName × Nat) := [(⟨"LaundryLoads", "found", "(I)I"⟩, 10), (⟨"LaundryLoads", "foundNothing", "(I)I"⟩, 10), (⟨"LaundryLoads$Tape", "toNextToken", "()V"⟩, 7), (⟨"LaundryLoads$Tape", "isFigure", "(I)Z"⟩, 7), (⟨"LaundryLoads$Tape", "readFigures", "()V"⟩, 7), (⟨"LaundryLoads$Tape", "readLaw", "(LLaundryLoads$Hall;)Z"⟩, 7), (⟨"LaundryLoads$Tape", "passes", "(I)Z"⟩, 7), (⟨"LaundryLoads$Tape", "failed", "(I)Z"⟩, 7), (⟨"LaundryLoads$Tape", "isNumber", "(II)Z"⟩, 7), (⟨"LaundryLoads$Tape", "takeNumber", "()I"⟩, 7), (⟨"LaundryLoads$Tape", "readMachines", "(LLaundryLoads$Hall;)Z"⟩, 7), (⟨"LaundryLoads$Tape", "readMachine", "(LLaundryLoads$Hall;)Z"⟩, 7), (⟨"LaundryLoads$Tape", "readLoads", "(LLaundryLoads$Hall;)Z"⟩, 7), (⟨"LaundryLoads$Tape", "readLoad", "(LLaundryLoads$Hall;)Z"⟩, 7), (⟨"LaundryLoads", "replaceHall", "(LLaundryLoads$Hall;)V"⟩, 10), (⟨"LaundryLoads", "beginAct", "()V"⟩, 10)]
theorem lw_r1 : ∀ q ∈ lw_privs_1, lw_okq q := List.forall_mem_cons.mpr ⟨lw_p0, List.forall_mem_cons.mpr ⟨lw_p1, List.forall_mem_cons.mpr ⟨lw_p2, List.forall_mem_cons.mpr ⟨lw_p3, List.forall_mem_cons.mpr ⟨lw_p4, List.forall_mem_cons.mpr ⟨lw_p5, List.forall_mem_cons.mpr ⟨lw_p6, List.forall_mem_cons.mpr ⟨lw_p7, List.forall_mem_cons.mpr ⟨lw_p8, List.forall_mem_cons.mpr ⟨lw_p9, List.forall_mem_cons.mpr ⟨lw_p10, List.forall_mem_cons.mpr ⟨lw_p11, List.forall_mem_cons.mpr ⟨lw_p12, List.forall_mem_cons.mpr ⟨lw_p13, List.forall_mem_cons.mpr ⟨lw_p14, List.forall_mem_cons.mpr ⟨lw_p15, fun _ h => absurd h List.not_mem_nil⟩⟩⟩⟩⟩⟩⟩⟩⟩⟩⟩⟩⟩⟩⟩⟩
theorem lw_p16 : lw_okq (⟨"LaundryLoads$Hall", "takeOut", "(I)V"⟩, 16) := ⟨⟨by decide +kernel, by decide +kernel⟩, List.mem_of_getElem? (i := 73) (by decide +kernel), List.mem_of_getElem? (i := 433) (by decide +kernel), List.mem_of_getElem? (i := 434) (by decide +kernel)⟩
theorem lw_p17 : lw_okq (⟨"LaundryLoads$Hall", "waitingFor", "(I)I"⟩, 16) := ⟨⟨by decide +kernel, by decide +kernel⟩, List.mem_of_getElem? (i := 73) (by decide +kernel), List.mem_of_getElem? (i := 446) (by decide +kernel), List.mem_of_getElem? (i := 447) (by decide +kernel)⟩
theorem lw_p18 : lw_okq (⟨"LaundryLoads$Hall", "putIn", "(II)V"⟩, 16) := ⟨⟨by decide +kernel, by decide +kernel⟩, List.mem_of_getElem? (i := 73) (by decide +kernel), List.mem_of_getElem? (i := 450) (by decide +kernel), List.mem_of_getElem? (i := 451) (by decide +kernel)⟩
theorem lw_p19 : lw_okq (⟨"LaundryLoads", "behind", "(I)LLaundryLoads$Hall;"⟩, 10) := ⟨⟨by decide +kernel, by decide +kernel⟩, List.mem_of_getElem? (i := 13) (by decide +kernel), List.mem_of_getElem? (i := 531) (by decide +kernel), List.mem_of_getElem? (i := 532) (by decide +kernel)⟩
theorem lw_p20 : lw_okq (⟨"LaundryLoads", "behindWithOpen", "(II)LLaundryLoads$Hall;"⟩, 10) := ⟨⟨by decide +kernel, by decide +kernel⟩, List.mem_of_getElem? (i := 13) (by decide +kernel), List.mem_of_getElem? (i := 535) (by decide +kernel), List.mem_of_getElem? (i := 536) (by decide +kernel)⟩
theorem lw_p21 : lw_okq (⟨"LaundryLoads", "asNow", "()LLaundryLoads$Hall;"⟩, 10) := ⟨⟨by decide +kernel, by decide +kernel⟩, List.mem_of_getElem? (i := 13) (by decide +kernel), List.mem_of_getElem? (i := 539) (by decide +kernel), List.mem_of_getElem? (i := 540) (by decide +kernel)⟩
theorem lw_p22 : lw_okq (⟨"LaundryLoads$Hall", "quietTicks", "(I)I"⟩, 16) := ⟨⟨by decide +kernel, by decide +kernel⟩, List.mem_of_getElem? (i := 73) (by decide +kernel), List.mem_of_getElem? (i := 548) (by decide +kernel), List.mem_of_getElem? (i := 549) (by decide +kernel)⟩
theorem lw_p23 : lw_okq (⟨"LaundryLoads$Hall", "passQuietTicks", "(I)V"⟩, 16) := ⟨⟨by decide +kernel, by decide +kernel⟩, List.mem_of_getElem? (i := 73) (by decide +kernel), List.mem_of_getElem? (i := 552) (by decide +kernel), List.mem_of_getElem? (i := 553) (by decide +kernel)⟩
theorem lw_p24 : lw_okq (⟨"LaundryLoads$Orders", "tryOne", "(LLaundryLoads$Hall;LLaundryLoads$Hall;IZ)V"⟩, 5) := ⟨⟨by decide +kernel, by decide +kernel⟩, List.mem_of_getElem? (i := 170) (by decide +kernel), List.mem_of_getElem? (i := 608) (by decide +kernel), List.mem_of_getElem? (i := 609) (by decide +kernel)⟩
theorem lw_p25 : lw_okq (⟨"LaundryLoads$Orders", "toNextOrder", "(I)Z"⟩, 5) := ⟨⟨by decide +kernel, by decide +kernel⟩, List.mem_of_getElem? (i := 170) (by decide +kernel), List.mem_of_getElem? (i := 616) (by decide +kernel), List.mem_of_getElem? (i := 617) (by decide +kernel)⟩
theorem lw_p26 : lw_okq (⟨"LaundryLoads$Orders", "swap", "(II)V"⟩, 5) := ⟨⟨by decide +kernel, by decide +kernel⟩, List.mem_of_getElem? (i := 170) (by decide +kernel), List.mem_of_getElem? (i := 620) (by decide +kernel), List.mem_of_getElem? (i := 621) (by decide +kernel)⟩
theorem lw_p27 : lw_okq (⟨"LaundryLoads", "weighShutting", "()V"⟩, 10) := ⟨⟨by decide +kernel, by decide +kernel⟩, List.mem_of_getElem? (i := 13) (by decide +kernel), List.mem_of_getElem? (i := 654) (by decide +kernel), List.mem_of_getElem? (i := 655) (by decide +kernel)⟩
theorem lw_p28 : lw_okq (⟨"LaundryLoads", "weighOpening", "()V"⟩, 10) := ⟨⟨by decide +kernel, by decide +kernel⟩, List.mem_of_getElem? (i := 13) (by decide +kernel), List.mem_of_getElem? (i := 659) (by decide +kernel), List.mem_of_getElem? (i := 660) (by decide +kernel)⟩
theorem lw_p29 : lw_okq (⟨"LaundryLoads", "fits", "(LLaundryLoads$Hall;III)Z"⟩, 10) := ⟨⟨by decide +kernel, by decide +kernel⟩, List.mem_of_getElem? (i := 13) (by decide +kernel), List.mem_of_getElem? (i := 675) (by decide +kernel), List.mem_of_getElem? (i := 676) (by decide +kernel)⟩
theorem lw_p30 : lw_okq (⟨"LaundryLoads", "casesOfStayingOpen", "(II)J"⟩, 10) := ⟨⟨by decide +kernel, by decide +kernel⟩, List.mem_of_getElem? (i := 13) (by decide +kernel), List.mem_of_getElem? (i := 688) (by decide +kernel), List.mem_of_getElem? (i := 689) (by decide +kernel)⟩
theorem lw_p31 : lw_okq (⟨"LaundryLoads$Asks", "answer", "(LLaundryLoads$Hall;III)I"⟩, 2) := ⟨⟨by decide +kernel, by decide +kernel⟩, List.mem_of_getElem? (i := 194) (by decide +kernel), List.mem_of_getElem? (i := 748) (by decide +kernel), List.mem_of_getElem? (i := 749) (by decide +kernel)⟩
def lw_privs_2 : List (MethodName × Nat) := [(⟨"LaundryLoads$Hall", "takeOut", "(I)V"⟩, 16), (⟨"LaundryLoads$Hall", "waitingFor", "(I)I"⟩, 16), (⟨"LaundryLoads$Hall", "putIn", "(II)V"⟩, 16), (⟨"LaundryLoads", "behind", "(I)LLaundryLoads$Hall;"⟩, 10), (⟨"LaundryLoads", "behindWithOpen", "(II)LLaundryLoads$Hall;"⟩, 10), (⟨"LaundryLoads", "asNow", "()LLaundryLoads$Hall;"⟩, 10), (⟨"LaundryLoads$Hall", "quietTicks", "(I)I"⟩, 16), (⟨"LaundryLoads$Hall", "passQuietTicks", "(I)V"⟩, 16), (⟨"LaundryLoads$Orders", "tryOne", "(LLaundryLoads$Hall;LLaundryLoads$Hall;IZ)V"⟩, 5), (⟨"LaundryLoads$Orders", "toNextOrder", "(I)Z"⟩, 5), (⟨"LaundryLoads$Orders", "swap", "(II)V"⟩, 5), (⟨"LaundryLoads", "weighShutting", "()V"⟩, 10), (⟨"LaundryLoads", "weighOpening", "()V"⟩, 10), (⟨"LaundryLoads", "fits", "(LLaundryLoads$Hall;III)Z"⟩, 10), (⟨"LaundryLoads", "casesOfStayingOpen", "(II)J"⟩, 10), (⟨"LaundryLoads$Asks", "answer", "(LLaundryLoads$Hall;III)I"⟩, 2)]
theorem lw_r2 : ∀ q ∈ lw_privs_2, lw_okq q := List.forall_mem_cons.mpr ⟨lw_p16, List.forall_mem_cons.mpr ⟨lw_p17, List.forall_mem_cons.mpr ⟨lw_p18, List.forall_mem_cons.mpr ⟨lw_p19, List.forall_mem_cons.mpr ⟨lw_p20, List.forall_mem_cons.mpr ⟨lw_p21, List.forall_mem_cons.mpr ⟨lw_p22, List.forall_mem_cons.mpr ⟨lw_p23, List.forall_mem_cons.mpr ⟨lw_p24, List.forall_mem_cons.mpr ⟨lw_p25, List.forall_mem_cons.mpr ⟨lw_p26, List.forall_mem_cons.mpr ⟨lw_p27, List.forall_mem_cons.mpr ⟨lw_p28, List.forall_mem_cons.mpr ⟨lw_p29, List.forall_mem_cons.mpr ⟨lw_p30, List.forall_mem_cons.mpr ⟨lw_p31, fun _ h => absurd h List.not_mem_nil⟩⟩⟩⟩⟩⟩⟩⟩⟩⟩⟩⟩⟩⟩⟩⟩
theorem lw_p32 : lw_okq (⟨"LaundryLoads$Asks", "leave", "(I)V"⟩, 2) := ⟨⟨by decide +kernel, by decide +kernel⟩, List.mem_of_getElem? (i := 194) (by decide +kernel), List.mem_of_getElem? (i := 752) (by decide +kernel), List.mem_of_getElem? (i := 753) (by decide +kernel)⟩
theorem lw_p33 : lw_okq (⟨"LaundryLoadsModel", "found", "(I)I"⟩, 30) := ⟨⟨by decide +kernel, by decide +kernel⟩, List.mem_of_getElem? (i := 772) (by decide +kernel), List.mem_of_getElem? (i := 881) (by decide +kernel), List.mem_of_getElem? (i := 882) (by decide +kernel)⟩
theorem lw_p34 : lw_okq (⟨"LaundryLoadsModel", "well", "(I)I"⟩, 30) := ⟨⟨by decide +kernel, by decide +kernel⟩, List.mem_of_getElem? (i := 772) (by decide +kernel), List.mem_of_getElem? (i := 886) (by decide +kernel), List.mem_of_getElem? (i := 887) (by decide +kernel)⟩
theorem lw_p35 : lw_okq (⟨"LaundryLoadsModel", "isPart", "(III)Z"⟩, 30) := ⟨⟨by decide +kernel, by decide +kernel⟩, List.mem_of_getElem? (i := 772) (by decide +kernel), List.mem_of_getElem? (i := 898) (by decide +kernel), List.mem_of_getElem? (i := 899) (by decide +kernel)⟩
theorem lw_p36 : lw_okq (⟨"LaundryLoadsModel", "reads", "()V"⟩, 30) := ⟨⟨by decide +kernel, by decide +kernel⟩, List.mem_of_getElem? (i := 772) (by decide +kernel), List.mem_of_getElem? (i := 915) (by decide +kernel), List.mem_of_getElem? (i := 916) (by decide +kernel)⟩
theorem lw_p37 : lw_okq (⟨"LaundryLoadsModel", "advances", "()V"⟩, 30) := ⟨⟨by decide +kernel, by decide +kernel⟩, List.mem_of_getElem? (i := 772) (by decide +kernel), List.mem_of_getElem? (i := 919) (by decide +kernel), List.mem_of_getElem? (i := 920) (by decide +kernel)⟩
theorem lw_p38 : lw_okq (⟨"LaundryLoadsModel", "letterAt", "(I)I"⟩, 30) := ⟨⟨by decide +kernel, by decide +kernel⟩, List.mem_of_getElem? (i := 772) (by decide +kernel), List.mem_of_getElem? (i := 923) (by decide +kernel), List.mem_of_getElem? (i := 924) (by decide +kernel)⟩
theorem lw_p39 : lw_okq (⟨"LaundryLoadsModel", "takes", "(II)V"⟩, 30) := ⟨⟨by decide +kernel, by decide +kernel⟩, List.mem_of_getElem? (i := 772) (by decide +kernel), List.mem_of_getElem? (i := 927) (by decide +kernel), List.mem_of_getElem? (i := 928) (by decide +kernel)⟩
theorem lw_p40 : lw_okq (⟨"LaundryLoadsModel", "isWell", "()Z"⟩, 30) := ⟨⟨by decide +kernel, by decide +kernel⟩, List.mem_of_getElem? (i := 772) (by decide +kernel), List.mem_of_getElem? (i := 931) (by decide +kernel), List.mem_of_getElem? (i := 932) (by decide +kernel)⟩
theorem lw_p41 : lw_okq (⟨"LaundryLoadsModel", "faulty", "(I)V"⟩, 30) := ⟨⟨by decide +kernel, by decide +kernel⟩, List.mem_of_getElem? (i := 772) (by decide +kernel), List.mem_of_getElem? (i := 935) (by decide +kernel), List.mem_of_getElem? (i := 936) (by decide +kernel)⟩
theorem lw_p42 : lw_okq (⟨"LaundryLoadsModel", "number", "(II)I"⟩, 30) := ⟨⟨by decide +kernel, by decide +kernel⟩, List.mem_of_getElem? (i := 772) (by decide +kernel), List.mem_of_getElem? (i := 939) (by decide +kernel), List.mem_of_getElem? (i := 940) (by decide +kernel)⟩
theorem lw_p43 : lw_okq (⟨"LaundryLoadsModel", "readsMachine", "()V"⟩, 30) := ⟨⟨by decide +kernel, by decide +kernel⟩, List.mem_of_getElem? (i := 772) (by decide +kernel), List.mem_of_getElem? (i := 946) (by decide +kernel), List.mem_of_getElem? (i := 947) (by decide +kernel)⟩
theorem lw_p44 : lw_okq (⟨"LaundryLoadsModel", "readsLoad", "()V"⟩, 30) := ⟨⟨by decide +kernel, by decide +kernel⟩, List.mem_of_getElem? (i := 772) (by decide +kernel), List.mem_of_getElem? (i := 950) (by decide +kernel), List.mem_of_getElem? (i := 951) (by decide +kernel)⟩
theorem lw_p45 : lw_okq (⟨"LaundryLoadsModel", "isNothing", "()Z"⟩, 30) := ⟨⟨by decide +kernel, by decide +kernel⟩, List.mem_of_getElem? (i := 772) (by decide +kernel), List.mem_of_getElem? (i := 968) (by decide +kernel), List.mem_of_getElem? (i := 969) (by decide +kernel)⟩
theorem lw_p46 : lw_okq (⟨"LaundryLoadsModel", "ranksByNumber", "()V"⟩, 30) := ⟨⟨by decide +kernel, by decide +kernel⟩, List.mem_of_getElem? (i := 772) (by decide +kernel), List.mem_of_getElem? (i := 972) (by decide +kernel), List.mem_of_getElem? (i := 973) (by decide +kernel)⟩
theorem lw_p47 : lw_okq (⟨"LaundryLoadsModel", "notes", "()V"⟩, 30) := ⟨⟨by decide +kernel, by decide +kernel⟩, List.mem_of_getElem? (i := 772) (by decide +kernel), List.mem_of_getElem? (i := 976) (by decide +kernel), List.mem_of_getElem? (i := 977) (by decide +kernel)⟩
def lw_privs_3 : List (MethodName × Nat) := [(⟨"LaundryLoads$Asks", "leave", "(I)V"⟩, 2), (⟨"LaundryLoadsModel", "found", "(I)I"⟩, 30), (⟨"LaundryLoadsModel", "well", "(I)I"⟩, 30), (⟨"LaundryLoadsModel", "isPart", "(III)Z"⟩, 30), (⟨"LaundryLoadsModel", "reads", "()V"⟩, 30), (⟨"LaundryLoadsModel", "advances", "()V"⟩, 30), (⟨"LaundryLoadsModel", "letterAt", "(I)I"⟩, 30), (⟨"LaundryLoadsModel", "takes", "(II)V"⟩, 30), (⟨"LaundryLoadsModel", "isWell", "()Z"⟩, 30), (⟨"LaundryLoadsModel", "faulty", "(I)V"⟩, 30), (⟨"LaundryLoadsModel", "number", "(II)I"⟩, 30), (⟨"LaundryLoadsModel", "readsMachine", "()V"⟩, 30), (⟨"LaundryLoadsModel", "readsLoad", "()V"⟩, 30), (⟨"LaundryLoadsModel", "isNothing", "()Z"⟩, 30), (⟨"LaundryLoadsModel", "ranksByNumber", "()V"⟩, 30), (⟨"LaundryLoadsModel", "notes", "()V"⟩, 30)]
theorem lw_r3 : ∀ q ∈ lw_privs_3, lw_okq q := List.forall_mem_cons.mpr ⟨lw_p32, List.forall_mem_cons.mpr ⟨lw_p33, List.forall_mem_cons.mpr ⟨lw_p34, List.forall_mem_cons.mpr ⟨lw_p35, List.forall_mem_cons.mpr ⟨lw_p36, List.forall_mem_cons.mpr ⟨lw_p37, List.forall_mem_cons.mpr ⟨lw_p38, List.forall_mem_cons.mpr ⟨lw_p39, List.forall_mem_cons.mpr ⟨lw_p40, List.forall_mem_cons.mpr ⟨lw_p41, List.forall_mem_cons.mpr ⟨lw_p42, List.forall_mem_cons.mpr ⟨lw_p43, List.forall_mem_cons.mpr ⟨lw_p44, List.forall_mem_cons.mpr ⟨lw_p45, List.forall_mem_cons.mpr ⟨lw_p46, List.forall_mem_cons.mpr ⟨lw_p47, fun _ h => absurd h List.not_mem_nil⟩⟩⟩⟩⟩⟩⟩⟩⟩⟩⟩⟩⟩⟩⟩⟩
theorem lw_p48 : lw_okq (⟨"LaundryLoadsModel", "ticksOne", "([I[I)V"⟩, 30) := ⟨⟨by decide +kernel, by decide +kernel⟩, List.mem_of_getElem? (i := 772) (by decide +kernel), List.mem_of_getElem? (i := 980) (by decide +kernel), List.mem_of_getElem? (i := 981) (by decide +kernel)⟩
theorem lw_p49 : lw_okq (⟨"LaundryLoadsModel", "comesOut", "([I[II)V"⟩, 30) := ⟨⟨by decide +kernel, by decide +kernel⟩, List.mem_of_getElem? (i := 772) (by decide +kernel), List.mem_of_getElem? (i := 984) (by decide +kernel), List.mem_of_getElem? (i := 985) (by decide +kernel)⟩
theorem lw_p50 : lw_okq (⟨"LaundryLoadsModel", "waits", "([I[II)I"⟩, 30) := ⟨⟨by decide +kernel, by decide +kernel⟩, List.mem_of_getElem? (i := 772) (by decide +kernel), List.mem_of_getElem? (i := 994) (by decide +kernel), List.mem_of_getElem? (i := 995) (by decide +kernel)⟩
theorem lw_p51 : lw_okq (⟨"LaundryLoadsModel", "howAll", "([II)I"⟩, 30) := ⟨⟨by decide +kernel, by decide +kernel⟩, List.mem_of_getElem? (i := 772) (by decide +kernel), List.mem_of_getElem? (i := 1001) (by decide +kernel), List.mem_of_getElem? (i := 1002) (by decide +kernel)⟩
theorem lw_p52 : lw_okq (⟨"LaundryLoadsModel", "isMachine", "(I)Z"⟩, 30) := ⟨⟨by decide +kernel, by decide +kernel⟩, List.mem_of_getElem? (i := 772) (by decide +kernel), List.mem_of_getElem? (i := 1009) (by decide +kernel), List.mem_of_getElem? (i := 1010) (by decide +kernel)⟩
theorem lw_p53 : lw_okq (⟨"LaundryLoadsModel", "isLoad", "(I)Z"⟩, 30) := ⟨⟨by decide +kernel, by decide +kernel⟩, List.mem_of_getElem? (i := 772) (by decide +kernel), List.mem_of_getElem? (i := 1021) (by decide +kernel), List.mem_of_getElem? (i := 1022) (by decide +kernel)⟩
theorem lw_p54 : lw_okq (⟨"LaundryLoadsModel", "withLoads", "()I"⟩, 30) := ⟨⟨by decide +kernel, by decide +kernel⟩, List.mem_of_getElem? (i := 772) (by decide +kernel), List.mem_of_getElem? (i := 1049) (by decide +kernel), List.mem_of_getElem? (i := 1050) (by decide +kernel)⟩
theorem lw_p55 : lw_okq (⟨"LaundryLoadsModel", "goesAhead", "(I)V"⟩, 30) := ⟨⟨by decide +kernel, by decide +kernel⟩, List.mem_of_getElem? (i := 772) (by decide +kernel), List.mem_of_getElem? (i := 1057) (by decide +kernel), List.mem_of_getElem? (i := 1058) (by decide +kernel)⟩
theorem lw_p56 : lw_okq (⟨"LaundryLoadsModel", "asNow", "()V"⟩, 30) := ⟨⟨by decide +kernel, by decide +kernel⟩, List.mem_of_getElem? (i := 772) (by decide +kernel), List.mem_of_getElem? (i := 1061) (by decide +kernel), List.mem_of_getElem? (i := 1062) (by decide +kernel)⟩
theorem lw_p57 : lw_okq (⟨"LaundryLoadsModel", "foretells", "(I)V"⟩, 30) := ⟨⟨by decide +kernel, by decide +kernel⟩, List.mem_of_getElem? (i := 772) (by decide +kernel), List.mem_of_getElem? (i := 1065) (by decide +kernel), List.mem_of_getElem? (i := 1066) (by decide +kernel)⟩
theorem lw_p58 : lw_okq (⟨"LaundryLoadsModel", "lateAll", "([I)I"⟩, 30) := ⟨⟨by decide +kernel, by decide +kernel⟩, List.mem_of_getElem? (i := 772) (by decide +kernel), List.mem_of_getElem? (i := 1077) (by decide +kernel), List.mem_of_getElem? (i := 1078) (by decide +kernel)⟩
theorem lw_p59 : lw_okq (⟨"LaundryLoadsModel", "isSo", "(II)Z"⟩, 30) := ⟨⟨by decide +kernel, by decide +kernel⟩, List.mem_of_getElem? (i := 772) (by decide +kernel), List.mem_of_getElem? (i := 1085) (by decide +kernel), List.mem_of_getElem? (i := 1086) (by decide +kernel)⟩
theorem lw_p60 : lw_okq (⟨"LaundryLoadsModel", "isAllDry", "()Z"⟩, 30) := ⟨⟨by decide +kernel, by decide +kernel⟩, List.mem_of_getElem? (i := 772) (by decide +kernel), List.mem_of_getElem? (i := 1093) (by decide +kernel), List.mem_of_getElem? (i := 1094) (by decide +kernel)⟩
theorem lw_p61 : lw_okq (⟨"LaundryLoadsModel", "nextOrder", "()Z"⟩, 30) := ⟨⟨by decide +kernel, by decide +kernel⟩, List.mem_of_getElem? (i := 772) (by decide +kernel), List.mem_of_getElem? (i := 1104) (by decide +kernel), List.mem_of_getElem? (i := 1105) (by decide +kernel)⟩
theorem lw_p62 : lw_okq (⟨"LaundryLoadsModel", "trades", "(II)V"⟩, 30) := ⟨⟨by decide +kernel, by decide +kernel⟩, List.mem_of_getElem? (i := 772) (by decide +kernel), List.mem_of_getElem? (i := 1108) (by decide +kernel), List.mem_of_getElem? (i := 1109) (by decide +kernel)⟩
theorem lw_p63 : lw_okq (⟨"LaundryLoadsModel", "doneAll", "()I"⟩, 30) := ⟨⟨by decide +kernel, by decide +kernel⟩, List.mem_of_getElem? (i := 772) (by decide +kernel), List.mem_of_getElem? (i := 1128) (by decide +kernel), List.mem_of_getElem? (i := 1129) (by decide +kernel)⟩
def lw_privs_4 : List (MethodName × Nat) := [(⟨"LaundryLoadsModel", "ticksOne", "([I[I)V"⟩, 30), (⟨"LaundryLoadsModel", "comesOut", "([I[II)V"⟩, 30), (⟨"LaundryLoadsModel", "waits", "([I[II)I"⟩, 30), (⟨"LaundryLoadsModel", "howAll", "([II)I"⟩, 30), (⟨"LaundryLoadsModel", "isMachine", "(I)Z"⟩, 30), (⟨"LaundryLoadsModel", "isLoad", "(I)Z"⟩, 30), (⟨"LaundryLoadsModel", "withLoads", "()I"⟩, 30), (⟨"LaundryLoadsModel", "goesAhead", "(I)V"⟩, 30), (⟨"LaundryLoadsModel", "asNow", "()V"⟩, 30), (⟨"LaundryLoadsModel", "foretells", "(I)V"⟩, 30), (⟨"LaundryLoadsModel", "lateAll", "([I)I"⟩, 30), (⟨"LaundryLoadsModel", "isSo", "(II)Z"⟩, 30), (⟨"LaundryLoadsModel", "isAllDry", "()Z"⟩, 30), (⟨"LaundryLoadsModel", "nextOrder", "()Z"⟩, 30), (⟨"LaundryLoadsModel", "trades", "(II)V"⟩, 30), (⟨"LaundryLoadsModel", "doneAll", "()I"⟩, 30)]
theorem lw_r4 : ∀ q ∈ lw_privs_4, lw_okq q := List.forall_mem_cons.mpr ⟨lw_p48, List.forall_mem_cons.mpr ⟨lw_p49, List.forall_mem_cons.mpr ⟨lw_p50, List.forall_mem_cons.mpr ⟨lw_p51, List.forall_mem_cons.mpr ⟨lw_p52, List.forall_mem_cons.mpr ⟨lw_p53, List.forall_mem_cons.mpr ⟨lw_p54, List.forall_mem_cons.mpr ⟨lw_p55, List.forall_mem_cons.mpr ⟨lw_p56, List.forall_mem_cons.mpr ⟨lw_p57, List.forall_mem_cons.mpr ⟨lw_p58, List.forall_mem_cons.mpr ⟨lw_p59, List.forall_mem_cons.mpr ⟨lw_p60, List.forall_mem_cons.mpr ⟨lw_p61, List.forall_mem_cons.mpr ⟨lw_p62, List.forall_mem_cons.mpr ⟨lw_p63, fun _ h => absurd h List.not_mem_nil⟩⟩⟩⟩⟩⟩⟩⟩⟩⟩⟩⟩⟩⟩⟩⟩
theorem lw_p64 : lw_okq (⟨"LaundryLoadsModel", "openBy", "(II)I"⟩, 30) := ⟨⟨by decide +kernel, by decide +kernel⟩, List.mem_of_getElem? (i := 772) (by decide +kernel), List.mem_of_getElem? (i := 1136) (by decide +kernel), List.mem_of_getElem? (i := 1137) (by decide +kernel)⟩
theorem lw_p65 : lw_okq (⟨"LaundryLoadsModel", "against", "(III)I"⟩, 30) := ⟨⟨by decide +kernel, by decide +kernel⟩, List.mem_of_getElem? (i := 772) (by decide +kernel), List.mem_of_getElem? (i := 1144) (by decide +kernel), List.mem_of_getElem? (i := 1145) (by decide +kernel)⟩
theorem lw_p66 : lw_okq (⟨"LaundryLoadsModel", "goesSo", "(III)Z"⟩, 30) := ⟨⟨by decide +kernel, by decide +kernel⟩, List.mem_of_getElem? (i := 772) (by decide +kernel), List.mem_of_getElem? (i := 1148) (by decide +kernel), List.mem_of_getElem? (i := 1149) (by decide +kernel)⟩
theorem lw_p67 : lw_okq (⟨"LaundryLoadsModel", "washerSize", "(I)I"⟩, 30) := ⟨⟨by decide +kernel, by decide +kernel⟩, List.mem_of_getElem? (i := 772) (by decide +kernel), List.mem_of_getElem? (i := 1195) (by decide +kernel), List.mem_of_getElem? (i := 1196) (by decide +kernel)⟩
theorem lw_p68 : lw_okq (⟨"LaundryLoadsModel", "leaves", "(I)V"⟩, 30) := ⟨⟨by decide +kernel, by decide +kernel⟩, List.mem_of_getElem? (i := 772) (by decide +kernel), List.mem_of_getElem? (i := 1199) (by decide +kernel), List.mem_of_getElem? (i := 1200) (by decide +kernel)⟩
theorem lw_p69 : lw_okq (⟨"LaundryLoadsModel", "lentRoom", "(I)I"⟩, 30) := ⟨⟨by decide +kernel, by decide +kernel⟩, List.mem_of_getElem? (i := 772) (by decide +kernel), List.mem_of_getElem? (i := 1203) (by decide +kernel), List.mem_of_getElem? (i := 1204) (by decide +kernel)⟩
theorem lw_p70 : lw_okq (⟨"LaundryLoadsModel", "washerMark", "(I)I"⟩, 30) := ⟨⟨by decide +kernel, by decide +kernel⟩, List.mem_of_getElem? (i := 772) (by decide +kernel), List.mem_of_getElem? (i := 1207) (by decide +kernel), List.mem_of_getElem? (i := 1208) (by decide +kernel)⟩
theorem lw_p71 : lw_okq (⟨"LaundryLoadsModel", "lentNumber", "(I)I"⟩, 30) := ⟨⟨by decide +kernel, by decide +kernel⟩, List.mem_of_getElem? (i := 772) (by decide +kernel), List.mem_of_getElem? (i := 1211) (by decide +kernel), List.mem_of_getElem? (i := 1212) (by decide +kernel)⟩
theorem lw_p72 : lw_okq (⟨"LaundryLoadsModel", "dryerSize", "(I)I"⟩, 30) := ⟨⟨by decide +kernel, by decide +kernel⟩, List.mem_of_getElem? (i := 772) (by decide +kernel), List.mem_of_getElem? (i := 1215) (by decide +kernel), List.mem_of_getElem? (i := 1216) (by decide +kernel)⟩
theorem lw_p73 : lw_okq (⟨"LaundryLoadsModel", "dryerMark", "(I)I"⟩, 30) := ⟨⟨by decide +kernel, by decide +kernel⟩, List.mem_of_getElem? (i := 772) (by decide +kernel), List.mem_of_getElem? (i := 1219) (by decide +kernel), List.mem_of_getElem? (i := 1220) (by decide +kernel)⟩
theorem lw_p74 : lw_okq (⟨"LaundryLoadsModel", "rowsThere", "()I"⟩, 30) := ⟨⟨by decide +kernel, by decide +kernel⟩, List.mem_of_getElem? (i := 772) (by decide +kernel), List.mem_of_getElem? (i := 1231) (by decide +kernel), List.mem_of_getElem? (i := 1232) (by decide +kernel)⟩
def lw_privs_5 : List (MethodName × Nat) := [(⟨"LaundryLoadsModel", "openBy", "(II)I"⟩, 30), (⟨"LaundryLoadsModel", "against", "(III)I"⟩, 30), (⟨"LaundryLoadsModel", "goesSo", "(III)Z"⟩, 30), (⟨"LaundryLoadsModel", "washerSize", "(I)I"⟩, 30), (⟨"LaundryLoadsModel", "leaves", "(I)V"⟩, 30), (⟨"LaundryLoadsModel", "lentRoom", "(I)I"⟩, 30), (⟨"LaundryLoadsModel", "washerMark", "(I)I"⟩, 30), (⟨"LaundryLoadsModel", "lentNumber", "(I)I"⟩, 30), (⟨"LaundryLoadsModel", "dryerSize", "(I)I"⟩, 30), (⟨"LaundryLoadsModel", "dryerMark", "(I)I"⟩, 30), (⟨"LaundryLoadsModel", "rowsThere", "()I"⟩, 30)]
theorem lw_r5 : ∀ q ∈ lw_privs_5, lw_okq q := List.forall_mem_cons.mpr ⟨lw_p64, List.forall_mem_cons.mpr ⟨lw_p65, List.forall_mem_cons.mpr ⟨lw_p66, List.forall_mem_cons.mpr ⟨lw_p67, List.forall_mem_cons.mpr ⟨lw_p68, List.forall_mem_cons.mpr ⟨lw_p69, List.forall_mem_cons.mpr ⟨lw_p70, List.forall_mem_cons.mpr ⟨lw_p71, List.forall_mem_cons.mpr ⟨lw_p72, List.forall_mem_cons.mpr ⟨lw_p73, List.forall_mem_cons.mpr ⟨lw_p74, fun _ h => absurd h List.not_mem_nil⟩⟩⟩⟩⟩⟩⟩⟩⟩⟩⟩
def lw_privs : List (MethodName × Nat) := lw_privs_1 ++ (lw_privs_2 ++ (lw_privs_3 ++ (lw_privs_4 ++ (lw_privs_5))))
def lw_tbl : List Cond := k2_sels lw_privs ++ tables_1
theorem lw_privs_ok : ∀ q ∈ lw_privs, lw_okq q := by
  show ∀ q ∈ lw_privs_1 ++ (lw_privs_2 ++ (lw_privs_3 ++ (lw_privs_4 ++ (lw_privs_5)))), lw_okq q
  exact List.forall_mem_append.mpr ⟨lw_r1, List.forall_mem_append.mpr ⟨lw_r2, List.forall_mem_append.mpr ⟨lw_r3, List.forall_mem_append.mpr ⟨lw_r4, lw_r5⟩⟩⟩⟩
end
section
def RX0 : String := "LaundryLoads$Acts"
def TX0 : u_T := fun k => match k with
  | 0 => ("LaundryLoads$Acts", "before", "[LLaundryLoads$Hall;", true)
  | 1 => ("LaundryLoads$Acts", "kept", "I", false)
  | _ => ("LaundryLoads$Acts", "newest", "I", false)
def tyX0 : Nat → FieldType := fun k => match k with
  | 0 => .array (.object "LaundryLoads$Hall")
  | 1 => .int
  | _ => .int
abbrev wsX00 : List Cond := u_ws RX0 TX0 3
theorem nmX0 : ∀ a, a < 3 → ∀ b, b < 3 → a ≠ b → (TX0 a).2.1 ≠ (TX0 b).2.1 := by decide +kernel
theorem tyX0_ok : ∀ k, k < 3 → parseFieldDescriptor (TX0 k).2.2.1 = some (tyX0 k) := by decide +kernel
abbrev cX0_init : ByteArray := prog_2_method_1_code
def yX0_init : MethodName := ⟨RX0, "<init>", "()V"⟩
abbrev cX0_keep : ByteArray := prog_2_method_2_code
def yX0_keep : MethodName := ⟨RX0, "keep", "(LLaundryLoads$Hall;)V"⟩
abbrev cX0_takeBack : ByteArray := prog_2_method_3_code
def yX0_takeBack : MethodName := ⟨RX0, "takeBack", "(LLaundryLoads$Hall;)V"⟩
def RX1 : String := "LaundryLoads$Asks"
def TX1 : u_T := fun k => match k with
  | 0 => ("LaundryLoads$Asks", "numbers", "[I", true)
  | _ => ("LaundryLoads$Asks", "traced", "I", false)
def tyX1 : Nat → FieldType := fun k => match k with
  | 0 => .array .int
  | _ => .int
abbrev wsX10 : List Cond := u_ws RX1 TX1 2
theorem nmX1 : ∀ a, a < 2 → ∀ b, b < 2 → a ≠ b → (TX1 a).2.1 ≠ (TX1 b).2.1 := by decide +kernel
theorem tyX1_ok : ∀ k, k < 2 → parseFieldDescriptor (TX1 k).2.2.1 = some (tyX1 k) := by decide +kernel
abbrev cX1_init : ByteArray := prog_3_method_1_code
def yX1_init : MethodName := ⟨RX1, "<init>", "()V"⟩
abbrev cX1_begin : ByteArray := prog_3_method_2_code
def yX1_begin : MethodName := ⟨RX1, "begin", "(LLaundryLoads$Hall;II)I"⟩
abbrev cX1_bodyFor : ByteArray := prog_3_method_3_code
def yX1_bodyFor : MethodName := ⟨RX1, "bodyFor", "(II)I"⟩
abbrev cX1_answer : ByteArray := prog_3_method_4_code
def yX1_answer : MethodName := ⟨RX1, "answer", "(LLaundryLoads$Hall;III)I"⟩
abbrev cX1_leave : ByteArray := prog_3_method_5_code
def yX1_leave : MethodName := ⟨RX1, "leave", "(I)V"⟩
def RX2 : String := "LaundryLoads$Hall"
def TX2 : u_T := fun k => match k with
  | 0 => ("LaundryLoads$Hall", "power", "I", false)
  | 1 => ("LaundryLoads$Hall", "tick", "I", false)
  | 2 => ("LaundryLoads$Hall", "machines", "I", false)
  | 3 => ("LaundryLoads$Hall", "loads", "I", false)
  | 4 => ("LaundryLoads$Hall", "openBits", "I", false)
  | 5 => ("LaundryLoads$Hall", "kinds", "[I", true)
  | 6 => ("LaundryLoads$Hall", "rooms", "[I", true)
  | 7 => ("LaundryLoads$Hall", "slows", "[I", true)
  | 8 => ("LaundryLoads$Hall", "holds", "[I", true)
  | 9 => ("LaundryLoads$Hall", "left", "[I", true)
  | 10 => ("LaundryLoads$Hall", "done", "[I", true)
  | 11 => ("LaundryLoads$Hall", "sizes", "[I", true)
  | 12 => ("LaundryLoads$Hall", "dues", "[I", true)
  | 13 => ("LaundryLoads$Hall", "hows", "[I", true)
  | 14 => ("LaundryLoads$Hall", "ends", "[I", true)
  | _ => ("LaundryLoads$Hall", "ranks", "[I", true)
def tyX2 : Nat → FieldType := fun k => match k with
  | 0 => .int
  | 1 => .int
  | 2 => .int
  | 3 => .int
  | 4 => .int
  | 5 => .array .int
  | 6 => .array .int
  | 7 => .array .int
  | 8 => .array .int
  | 9 => .array .int
  | 10 => .array .int
  | 11 => .array .int
  | 12 => .array .int
  | 13 => .array .int
  | 14 => .array .int
  | _ => .array .int
abbrev wsX20 : List Cond := u_ws RX2 TX2 16
theorem nmX2 : ∀ a, a < 16 → ∀ b, b < 16 → a ≠ b → (TX2 a).2.1 ≠ (TX2 b).2.1 := by decide +kernel
theorem tyX2_ok : ∀ k, k < 16 → parseFieldDescriptor (TX2 k).2.2.1 = some (tyX2 k) := by decide +kernel
abbrev cX2_init : ByteArray := prog_4_method_1_code
def yX2_init : MethodName := ⟨RX2, "<init>", "()V"⟩
abbrev cX2_clear : ByteArray := prog_4_method_2_code
def yX2_clear : MethodName := ⟨RX2, "clear", "()V"⟩
abbrev cX2_become : ByteArray := prog_4_method_3_code
def yX2_become : MethodName := ⟨RX2, "become", "(LLaundryLoads$Hall;)V"⟩
abbrev cX2_addMachine : ByteArray := prog_4_method_4_code
def yX2_addMachine : MethodName := ⟨RX2, "addMachine", "(III)V"⟩
abbrev cX2_addLoad : ByteArray := prog_4_method_5_code
def yX2_addLoad : MethodName := ⟨RX2, "addLoad", "(II)V"⟩
abbrev cX2_isNone : ByteArray := prog_4_method_6_code
def yX2_isNone : MethodName := ⟨RX2, "isNone", "()Z"⟩
abbrev cX2_hasMachine : ByteArray := prog_4_method_7_code
def yX2_hasMachine : MethodName := ⟨RX2, "hasMachine", "(I)Z"⟩
abbrev cX2_hasLoad : ByteArray := prog_4_method_8_code
def yX2_hasLoad : MethodName := ⟨RX2, "hasLoad", "(I)Z"⟩
abbrev cX2_isOpen : ByteArray := prog_4_method_9_code
def yX2_isOpen : MethodName := ⟨RX2, "isOpen", "(I)Z"⟩
abbrev cX2_turn : ByteArray := prog_4_method_10_code
def yX2_turn : MethodName := ⟨RX2, "turn", "(I)V"⟩
abbrev cX2_dirty : ByteArray := prog_4_method_11_code
def yX2_dirty : MethodName := ⟨RX2, "dirty", "(II)V"⟩
abbrev cX2_alter : ByteArray := prog_4_method_12_code
def yX2_alter : MethodName := ⟨RX2, "alter", "(III)V"⟩
abbrev cX2_washes : ByteArray := prog_4_method_13_code
def yX2_washes : MethodName := ⟨RX2, "washes", "(I)Z"⟩
abbrev cX2_lastsWith : ByteArray := prog_4_method_14_code
def yX2_lastsWith : MethodName := ⟨RX2, "lastsWith", "(II)I"⟩
abbrev cX2_passTick : ByteArray := prog_4_method_15_code
def yX2_passTick : MethodName := ⟨RX2, "passTick", "()V"⟩
abbrev cX2_passTicks : ByteArray := prog_4_method_16_code
def yX2_passTicks : MethodName := ⟨RX2, "passTicks", "(I)V"⟩
abbrev cX2_quietTicks : ByteArray := prog_4_method_17_code
def yX2_quietTicks : MethodName := ⟨RX2, "quietTicks", "(I)I"⟩
abbrev cX2_passQuietTicks : ByteArray := prog_4_method_18_code
def yX2_passQuietTicks : MethodName := ⟨RX2, "passQuietTicks", "(I)V"⟩
abbrev cX2_takeOut : ByteArray := prog_4_method_19_code
def yX2_takeOut : MethodName := ⟨RX2, "takeOut", "(I)V"⟩
abbrev cX2_putIn : ByteArray := prog_4_method_20_code
def yX2_putIn : MethodName := ⟨RX2, "putIn", "(II)V"⟩
abbrev cX2_waitingFor : ByteArray := prog_4_method_21_code
def yX2_waitingFor : MethodName := ⟨RX2, "waitingFor", "(I)I"⟩
abbrev cX2_draw : ByteArray := prog_4_method_22_code
def yX2_draw : MethodName := ⟨RX2, "draw", "(I)V"⟩
abbrev cX2_loadIn : ByteArray := prog_4_method_23_code
def yX2_loadIn : MethodName := ⟨RX2, "loadIn", "(I)I"⟩
abbrev cX2_isWashed : ByteArray := prog_4_method_24_code
def yX2_isWashed : MethodName := ⟨RX2, "isWashed", "(I)Z"⟩
abbrev cX2_lateOf : ByteArray := prog_4_method_25_code
def yX2_lateOf : MethodName := ⟨RX2, "lateOf", "(I)I"⟩
abbrev cX2_lateOfAll : ByteArray := prog_4_method_26_code
def yX2_lateOfAll : MethodName := ⟨RX2, "lateOfAll", "()I"⟩
abbrev cX2_whichAre : ByteArray := prog_4_method_27_code
def yX2_whichAre : MethodName := ⟨RX2, "whichAre", "(I)I"⟩
abbrev cX2_howManyAre : ByteArray := prog_4_method_28_code
def yX2_howManyAre : MethodName := ⟨RX2, "howManyAre", "(I)I"⟩
abbrev cX2_isAllDry : ByteArray := prog_4_method_29_code
def yX2_isAllDry : MethodName := ⟨RX2, "isAllDry", "()Z"⟩
abbrev cX2_busyBits : ByteArray := prog_4_method_30_code
def yX2_busyBits : MethodName := ⟨RX2, "busyBits", "()I"⟩
abbrev cX2_doneOfAll : ByteArray := prog_4_method_31_code
def yX2_doneOfAll : MethodName := ⟨RX2, "doneOfAll", "()I"⟩
abbrev cX2_sizeOfAll : ByteArray := prog_4_method_32_code
def yX2_sizeOfAll : MethodName := ⟨RX2, "sizeOfAll", "(I)I"⟩
def RX3 : String := "LaundryLoads$Orders"
def TX3 : u_T := fun k => match k with
  | 0 => ("LaundryLoads$Orders", "best", "[I", true)
  | 1 => ("LaundryLoads$Orders", "bestLate", "I", false)
  | 2 => ("LaundryLoads$Orders", "bestDry", "I", false)
  | 3 => ("LaundryLoads$Orders", "foundFor", "I", false)
  | _ => ("LaundryLoads$Orders", "tried", "[I", true)
def tyX3 : Nat → FieldType := fun k => match k with
  | 0 => .array .int
  | 1 => .int
  | 2 => .int
  | 3 => .int
  | _ => .array .int
abbrev wsX30 : List Cond := u_ws RX3 TX3 5
theorem nmX3 : ∀ a, a < 5 → ∀ b, b < 5 → a ≠ b → (TX3 a).2.1 ≠ (TX3 b).2.1 := by decide +kernel
theorem tyX3_ok : ∀ k, k < 5 → parseFieldDescriptor (TX3 k).2.2.1 = some (tyX3 k) := by decide +kernel
abbrev cX3_init : ByteArray := prog_5_method_1_code
def yX3_init : MethodName := ⟨RX3, "<init>", "()V"⟩
abbrev cX3_forget : ByteArray := prog_5_method_2_code
def yX3_forget : MethodName := ⟨RX3, "forget", "()V"⟩
abbrev cX3_find : ByteArray := prog_5_method_3_code
def yX3_find : MethodName := ⟨RX3, "find", "(LLaundryLoads$Hall;LLaundryLoads$Hall;I)V"⟩
abbrev cX3_tryOne : ByteArray := prog_5_method_4_code
def yX3_tryOne : MethodName := ⟨RX3, "tryOne", "(LLaundryLoads$Hall;LLaundryLoads$Hall;IZ)V"⟩
abbrev cX3_toNextOrder : ByteArray := prog_5_method_5_code
def yX3_toNextOrder : MethodName := ⟨RX3, "toNextOrder", "(I)Z"⟩
abbrev cX3_swap : ByteArray := prog_5_method_6_code
def yX3_swap : MethodName := ⟨RX3, "swap", "(II)V"⟩
def RX4 : String := "LaundryLoads$Rows"
def TX4 : u_T := fun k => match k with
  | 0 => ("LaundryLoads$Rows", "lanes", "[I", true)
  | 1 => ("LaundryLoads$Rows", "lengths", "[I", true)
  | _ => ("LaundryLoads$Rows", "items", "[[I", true)
def tyX4 : Nat → FieldType := fun k => match k with
  | 0 => .array .int
  | 1 => .array .int
  | _ => .array (.array .int)
abbrev wsX40 : List Cond := u_ws RX4 TX4 3
theorem nmX4 : ∀ a, a < 3 → ∀ b, b < 3 → a ≠ b → (TX4 a).2.1 ≠ (TX4 b).2.1 := by decide +kernel
theorem tyX4_ok : ∀ k, k < 3 → parseFieldDescriptor (TX4 k).2.2.1 = some (tyX4 k) := by decide +kernel
abbrev cX4_init : ByteArray := prog_6_method_1_code
def yX4_init : MethodName := ⟨RX4, "<init>", "()V"⟩
abbrev cX4_isOne : ByteArray := prog_6_method_2_code
def yX4_isOne : MethodName := ⟨RX4, "isOne", "(I)Z"⟩
abbrev cX4_isMissing : ByteArray := prog_6_method_3_code
def yX4_isMissing : MethodName := ⟨RX4, "isMissing", "(I)Z"⟩
abbrev cX4_hasPlaces : ByteArray := prog_6_method_4_code
def yX4_hasPlaces : MethodName := ⟨RX4, "hasPlaces", "(III)Z"⟩
abbrev cX4_findingOf : ByteArray := prog_6_method_5_code
def yX4_findingOf : MethodName := ⟨RX4, "findingOf", "(III)I"⟩
abbrev cX4_make : ByteArray := prog_6_method_6_code
def yX4_make : MethodName := ⟨RX4, "make", "(III)V"⟩
abbrev cX4_put : ByteArray := prog_6_method_7_code
def yX4_put : MethodName := ⟨RX4, "put", "(III)I"⟩
abbrev cX4_remove : ByteArray := prog_6_method_8_code
def yX4_remove : MethodName := ⟨RX4, "remove", "(I)I"⟩
abbrev cX4_howMany : ByteArray := prog_6_method_9_code
def yX4_howMany : MethodName := ⟨RX4, "howMany", "()I"⟩
def RX5 : String := "LaundryLoads$Tape"
def TX5 : u_T := fun k => match k with
  | 0 => ("LaundryLoads$Tape", "bytes", "[I", true)
  | 1 => ("LaundryLoads$Tape", "length", "I", false)
  | 2 => ("LaundryLoads$Tape", "token", "I", false)
  | 3 => ("LaundryLoads$Tape", "place", "I", false)
  | 4 => ("LaundryLoads$Tape", "next", "I", false)
  | 5 => ("LaundryLoads$Tape", "number", "I", false)
  | _ => ("LaundryLoads$Tape", "latestFault", "I", false)
def tyX5 : Nat → FieldType := fun k => match k with
  | 0 => .array .int
  | 1 => .int
  | 2 => .int
  | 3 => .int
  | 4 => .int
  | 5 => .int
  | _ => .int
abbrev wsX50 : List Cond := u_ws RX5 TX5 7
theorem nmX5 : ∀ a, a < 7 → ∀ b, b < 7 → a ≠ b → (TX5 a).2.1 ≠ (TX5 b).2.1 := by decide +kernel
theorem tyX5_ok : ∀ k, k < 7 → parseFieldDescriptor (TX5 k).2.2.1 = some (tyX5 k) := by decide +kernel
abbrev cX5_init : ByteArray := prog_7_method_1_code
def yX5_init : MethodName := ⟨RX5, "<init>", "()V"⟩
abbrev cX5_takeIn : ByteArray := prog_7_method_2_code
def yX5_takeIn : MethodName := ⟨RX5, "takeIn", "(I)Z"⟩
abbrev cX5_readInto : ByteArray := prog_7_method_3_code
def yX5_readInto : MethodName := ⟨RX5, "readInto", "(LLaundryLoads$Hall;)Z"⟩
abbrev cX5_readLaw : ByteArray := prog_7_method_4_code
def yX5_readLaw : MethodName := ⟨RX5, "readLaw", "(LLaundryLoads$Hall;)Z"⟩
abbrev cX5_readMachines : ByteArray := prog_7_method_5_code
def yX5_readMachines : MethodName := ⟨RX5, "readMachines", "(LLaundryLoads$Hall;)Z"⟩
abbrev cX5_readMachine : ByteArray := prog_7_method_6_code
def yX5_readMachine : MethodName := ⟨RX5, "readMachine", "(LLaundryLoads$Hall;)Z"⟩
abbrev cX5_readLoads : ByteArray := prog_7_method_7_code
def yX5_readLoads : MethodName := ⟨RX5, "readLoads", "(LLaundryLoads$Hall;)Z"⟩
abbrev cX5_readLoad : ByteArray := prog_7_method_8_code
def yX5_readLoad : MethodName := ⟨RX5, "readLoad", "(LLaundryLoads$Hall;)Z"⟩
abbrev cX5_kindOfLetter : ByteArray := prog_7_method_9_code
def yX5_kindOfLetter : MethodName := ⟨RX5, "kindOfLetter", "(I)I"⟩
abbrev cX5_failed : ByteArray := prog_7_method_10_code
def yX5_failed : MethodName := ⟨RX5, "failed", "(I)Z"⟩
abbrev cX5_passes : ByteArray := prog_7_method_11_code
def yX5_passes : MethodName := ⟨RX5, "passes", "(I)Z"⟩
abbrev cX5_isNumber : ByteArray := prog_7_method_12_code
def yX5_isNumber : MethodName := ⟨RX5, "isNumber", "(II)Z"⟩
abbrev cX5_takeNumber : ByteArray := prog_7_method_13_code
def yX5_takeNumber : MethodName := ⟨RX5, "takeNumber", "()I"⟩
abbrev cX5_toNextToken : ByteArray := prog_7_method_14_code
def yX5_toNextToken : MethodName := ⟨RX5, "toNextToken", "()V"⟩
abbrev cX5_readFigures : ByteArray := prog_7_method_15_code
def yX5_readFigures : MethodName := ⟨RX5, "readFigures", "()V"⟩
abbrev cX5_isFigure : ByteArray := prog_7_method_16_code
def yX5_isFigure : MethodName := ⟨RX5, "isFigure", "(I)Z"⟩
def RX6 : String := "LaundryLoads"
def TX6 : u_T := fun k => match k with
  | 0 => ("LaundryLoads", "rows", "LLaundryLoads$Rows;", true)
  | 1 => ("LaundryLoads", "tape", "LLaundryLoads$Tape;", true)
  | 2 => ("LaundryLoads", "hall", "LLaundryLoads$Hall;", true)
  | 3 => ("LaundryLoads", "guess", "LLaundryLoads$Hall;", true)
  | 4 => ("LaundryLoads", "acts", "LLaundryLoads$Acts;", true)
  | 5 => ("LaundryLoads", "images", "[LLaundryLoads$Hall;", true)
  | 6 => ("LaundryLoads", "orders", "LLaundryLoads$Orders;", true)
  | 7 => ("LaundryLoads", "asks", "LLaundryLoads$Asks;", true)
  | 8 => ("LaundryLoads", "dryByOpen", "[I", true)
  | _ => ("LaundryLoads", "latestFinding", "I", false)
def tyX6 : Nat → FieldType := fun k => match k with
  | 0 => .object "LaundryLoads$Rows"
  | 1 => .object "LaundryLoads$Tape"
  | 2 => .object "LaundryLoads$Hall"
  | 3 => .object "LaundryLoads$Hall"
  | 4 => .object "LaundryLoads$Acts"
  | 5 => .array (.object "LaundryLoads$Hall")
  | 6 => .object "LaundryLoads$Orders"
  | 7 => .object "LaundryLoads$Asks"
  | 8 => .array .int
  | _ => .int
abbrev wsX60 : List Cond := u_ws RX6 TX6 10
theorem nmX6 : ∀ a, a < 10 → ∀ b, b < 10 → a ≠ b → (TX6 a).2.1 ≠ (TX6 b).2.1 := by decide +kernel
theorem tyX6_ok : ∀ k, k < 10 → parseFieldDescriptor (TX6 k).2.2.1 = some (tyX6 k) := by decide +kernel
abbrev cX6_init : ByteArray := prog_1_method_1_code
def yX6_init : MethodName := ⟨RX6, "<init>", "()V"⟩
abbrev cX6_row : ByteArray := prog_1_method_2_code
def yX6_row : MethodName := ⟨RX6, "row", "(III)I"⟩
abbrev cX6_set : ByteArray := prog_1_method_3_code
def yX6_set : MethodName := ⟨RX6, "set", "(III)I"⟩
abbrev cX6_copy : ByteArray := prog_1_method_4_code
def yX6_copy : MethodName := ⟨RX6, "copy", "(IIIII)I"⟩
abbrev cX6_drop : ByteArray := prog_1_method_5_code
def yX6_drop : MethodName := ⟨RX6, "drop", "(I)I"⟩
abbrev cX6_found : ByteArray := prog_1_method_6_code
def yX6_found : MethodName := ⟨RX6, "found", "(I)I"⟩
abbrev cX6_foundNothing : ByteArray := prog_1_method_7_code
def yX6_foundNothing : MethodName := ⟨RX6, "foundNothing", "(I)I"⟩
abbrev cX6_feed : ByteArray := prog_1_method_8_code
def yX6_feed : MethodName := ⟨RX6, "feed", "(I)I"⟩
abbrev cX6_launderette : ByteArray := prog_1_method_9_code
def yX6_launderette : MethodName := ⟨RX6, "launderette", "()I"⟩
abbrev cX6_fault : ByteArray := prog_1_method_10_code
def yX6_fault : MethodName := ⟨RX6, "fault", "()I"⟩
abbrev cX6_undo : ByteArray := prog_1_method_11_code
def yX6_undo : MethodName := ⟨RX6, "undo", "()I"⟩
abbrev cX6_beginAct : ByteArray := prog_1_method_12_code
def yX6_beginAct : MethodName := ⟨RX6, "beginAct", "()V"⟩
abbrev cX6_replaceHall : ByteArray := prog_1_method_13_code
def yX6_replaceHall : MethodName := ⟨RX6, "replaceHall", "(LLaundryLoads$Hall;)V"⟩
abbrev cX6_ticks : ByteArray := prog_1_method_14_code
def yX6_ticks : MethodName := ⟨RX6, "ticks", "(I)I"⟩
abbrev cX6_shut : ByteArray := prog_1_method_15_code
def yX6_shut : MethodName := ⟨RX6, "shut", "(I)I"⟩
abbrev cX6_power : ByteArray := prog_1_method_16_code
def yX6_power : MethodName := ⟨RX6, "power", "(I)I"⟩
abbrev cX6_due : ByteArray := prog_1_method_17_code
def yX6_due : MethodName := ⟨RX6, "due", "(II)I"⟩
abbrev cX6_again : ByteArray := prog_1_method_18_code
def yX6_again : MethodName := ⟨RX6, "again", "(II)I"⟩
abbrev cX6_machine : ByteArray := prog_1_method_19_code
def yX6_machine : MethodName := ⟨RX6, "machine", "(II)I"⟩
abbrev cX6_load : ByteArray := prog_1_method_20_code
def yX6_load : MethodName := ⟨RX6, "load", "(II)I"⟩
abbrev cX6_lasts : ByteArray := prog_1_method_21_code
def yX6_lasts : MethodName := ⟨RX6, "lasts", "(II)I"⟩
abbrev cX6_stand : ByteArray := prog_1_method_22_code
def yX6_stand : MethodName := ⟨RX6, "stand", "(I)I"⟩
abbrev cX6_ahead : ByteArray := prog_1_method_23_code
def yX6_ahead : MethodName := ⟨RX6, "ahead", "(III)I"⟩
abbrev cX6_inside : ByteArray := prog_1_method_24_code
def yX6_inside : MethodName := ⟨RX6, "inside", "(III)I"⟩
abbrev cX6_all : ByteArray := prog_1_method_25_code
def yX6_all : MethodName := ⟨RX6, "all", "(II)I"⟩
abbrev cX6_when : ByteArray := prog_1_method_26_code
def yX6_when : MethodName := ⟨RX6, "when", "(II)I"⟩
abbrev cX6_over : ByteArray := prog_1_method_27_code
def yX6_over : MethodName := ⟨RX6, "over", "()I"⟩
abbrev cX6_order : ByteArray := prog_1_method_28_code
def yX6_order : MethodName := ⟨RX6, "order", "(II)I"⟩
abbrev cX6_need : ByteArray := prog_1_method_29_code
def yX6_need : MethodName := ⟨RX6, "need", "(I)I"⟩
abbrev cX6_open : ByteArray := prog_1_method_30_code
def yX6_open : MethodName := ⟨RX6, "open", "(II)I"⟩
abbrev cX6_fills : ByteArray := prog_1_method_31_code
def yX6_fills : MethodName := ⟨RX6, "fills", "(II)I"⟩
abbrev cX6_share : ByteArray := prog_1_method_32_code
def yX6_share : MethodName := ⟨RX6, "share", "(II)I"⟩
abbrev cX6_byTurns : ByteArray := prog_1_method_33_code
def yX6_byTurns : MethodName := ⟨RX6, "byTurns", "(II)I"⟩
abbrev cX6_weighShutting : ByteArray := prog_1_method_34_code
def yX6_weighShutting : MethodName := ⟨RX6, "weighShutting", "()V"⟩
abbrev cX6_weighOpening : ByteArray := prog_1_method_35_code
def yX6_weighOpening : MethodName := ⟨RX6, "weighOpening", "()V"⟩
abbrev cX6_who : ByteArray := prog_1_method_36_code
def yX6_who : MethodName := ⟨RX6, "who", "(IIIII)I"⟩
abbrev cX6_sizes : ByteArray := prog_1_method_37_code
def yX6_sizes : MethodName := ⟨RX6, "sizes", "(IIII)I"⟩
abbrev cX6_breaks : ByteArray := prog_1_method_38_code
def yX6_breaks : MethodName := ⟨RX6, "breaks", "(IIII)J"⟩
abbrev cX6_casesOfStayingOpen : ByteArray := prog_1_method_39_code
def yX6_casesOfStayingOpen : MethodName := ⟨RX6, "casesOfStayingOpen", "(II)J"⟩
abbrev cX6_greatestDivisor : ByteArray := prog_1_method_40_code
def yX6_greatestDivisor : MethodName := ⟨RX6, "greatestDivisor", "(JJ)J"⟩
abbrev cX6_drawn : ByteArray := prog_1_method_41_code
def yX6_drawn : MethodName := ⟨RX6, "drawn", "(III)I"⟩
abbrev cX6_image : ByteArray := prog_1_method_42_code
def yX6_image : MethodName := ⟨RX6, "image", "(I)I"⟩
abbrev cX6_restore : ByteArray := prog_1_method_43_code
def yX6_restore : MethodName := ⟨RX6, "restore", "(I)I"⟩
abbrev cX6_isPlanned : ByteArray := prog_1_method_44_code
def yX6_isPlanned : MethodName := ⟨RX6, "isPlanned", "(I)Z"⟩
abbrev cX6_isTold : ByteArray := prog_1_method_45_code
def yX6_isTold : MethodName := ⟨RX6, "isTold", "(I)Z"⟩
abbrev cX6_asNow : ByteArray := prog_1_method_46_code
def yX6_asNow : MethodName := ⟨RX6, "asNow", "()LLaundryLoads$Hall;"⟩
abbrev cX6_behind : ByteArray := prog_1_method_47_code
def yX6_behind : MethodName := ⟨RX6, "behind", "(I)LLaundryLoads$Hall;"⟩
abbrev cX6_behindWithOpen : ByteArray := prog_1_method_48_code
def yX6_behindWithOpen : MethodName := ⟨RX6, "behindWithOpen", "(II)LLaundryLoads$Hall;"⟩
abbrev cX6_fits : ByteArray := prog_1_method_49_code
def yX6_fits : MethodName := ⟨RX6, "fits", "(LLaundryLoads$Hall;III)Z"⟩
abbrev cX6_kind : ByteArray := prog_1_method_50_code
def yX6_kind : MethodName := ⟨RX6, "kind", "(I)I"⟩
abbrev cX6_as : ByteArray := prog_1_method_51_code
def yX6_as : MethodName := ⟨RX6, "as", "(II)I"⟩
abbrev cX6_isOfKind : ByteArray := prog_1_method_52_code
def yX6_isOfKind : MethodName := ⟨RX6, "isOfKind", "(II)Z"⟩
abbrev cX6_ask : ByteArray := prog_1_method_53_code
def yX6_ask : MethodName := ⟨RX6, "ask", "(II)I"⟩
abbrev cX6_trace : ByteArray := prog_1_method_54_code
def yX6_trace : MethodName := ⟨RX6, "trace", "(I)I"⟩
abbrev cX6_count : ByteArray := prog_1_method_55_code
def yX6_count : MethodName := ⟨RX6, "count", "(I)I"⟩
abbrev cX6_status : ByteArray := prog_1_method_56_code
def yX6_status : MethodName := ⟨RX6, "status", "()I"⟩
def RX7 : String := "LaundryLoadsModel"
def TX7 : u_T := fun k => match k with
  | 0 => ("LaundryLoadsModel", "thrown", "I", false)
  | 1 => ("LaundryLoadsModel", "rows", "[I", true)
  | 2 => ("LaundryLoadsModel", "lane", "[I", true)
  | 3 => ("LaundryLoadsModel", "rowSize", "[I", true)
  | 4 => ("LaundryLoadsModel", "statusLast", "I", false)
  | 5 => ("LaundryLoadsModel", "tape", "[I", true)
  | 6 => ("LaundryLoadsModel", "taped", "I", false)
  | 7 => ("LaundryLoadsModel", "next", "I", false)
  | 8 => ("LaundryLoadsModel", "begun", "I", false)
  | 9 => ("LaundryLoadsModel", "token", "I", false)
  | 10 => ("LaundryLoadsModel", "value", "I", false)
  | 11 => ("LaundryLoadsModel", "kindOfFault", "I", false)
  | 12 => ("LaundryLoadsModel", "faultPlace", "I", false)
  | 13 => ("LaundryLoadsModel", "faultLast", "I", false)
  | 14 => ("LaundryLoadsModel", "draft", "[I", true)
  | 15 => ("LaundryLoadsModel", "draftNow", "[I", true)
  | 16 => ("LaundryLoadsModel", "d", "[I", true)
  | 17 => ("LaundryLoadsModel", "s", "[I", true)
  | 18 => ("LaundryLoadsModel", "e", "[I", true)
  | 19 => ("LaundryLoadsModel", "w", "[I", true)
  | 20 => ("LaundryLoadsModel", "rank", "[I", true)
  | 21 => ("LaundryLoadsModel", "cameDry", "I", false)
  | 22 => ("LaundryLoadsModel", "undos", "[I", true)
  | 23 => ("LaundryLoadsModel", "undoMany", "I", false)
  | 24 => ("LaundryLoadsModel", "kept", "[I", true)
  | 25 => ("LaundryLoadsModel", "isKept", "[Z", true)
  | 26 => ("LaundryLoadsModel", "traced", "[I", true)
  | 27 => ("LaundryLoadsModel", "traceMany", "I", false)
  | 28 => ("LaundryLoadsModel", "value6", "[I", true)
  | _ => ("LaundryLoadsModel", "best", "[I", true)
def tyX7 : Nat → FieldType := fun k => match k with
  | 0 => .int
  | 1 => .array .int
  | 2 => .array .int
  | 3 => .array .int
  | 4 => .int
  | 5 => .array .int
  | 6 => .int
  | 7 => .int
  | 8 => .int
  | 9 => .int
  | 10 => .int
  | 11 => .int
  | 12 => .int
  | 13 => .int
  | 14 => .array .int
  | 15 => .array .int
  | 16 => .array .int
  | 17 => .array .int
  | 18 => .array .int
  | 19 => .array .int
  | 20 => .array .int
  | 21 => .int
  | 22 => .array .int
  | 23 => .int
  | 24 => .array .int
  | 25 => .array .boolean
  | 26 => .array .int
  | 27 => .int
  | 28 => .array .int
  | _ => .array .int
abbrev wsX70 : List Cond := u_ws RX7 TX7 30
theorem nmX7 : ∀ a, a < 30 → ∀ b, b < 30 → a ≠ b → (TX7 a).2.1 ≠ (TX7 b).2.1 := by decide +kernel
theorem tyX7_ok : ∀ k, k < 30 → parseFieldDescriptor (TX7 k).2.2.1 = some (tyX7 k) := by decide +kernel
abbrev cX7_init : ByteArray := prog_9_method_1_code
def yX7_init : MethodName := ⟨RX7, "<init>", "()V"⟩
abbrev cX7_in : ByteArray := prog_9_method_3_code
def yX7_in : MethodName := ⟨RX7, "in", "(III)Z"⟩
abbrev cX7_has : ByteArray := prog_9_method_4_code
def yX7_has : MethodName := ⟨RX7, "has", "(II)Z"⟩
abbrev cX7_ones : ByteArray := prog_9_method_5_code
def yX7_ones : MethodName := ⟨RX7, "ones", "(I)I"⟩
abbrev cX7_found : ByteArray := prog_9_method_6_code
def yX7_found : MethodName := ⟨RX7, "found", "(I)I"⟩
abbrev cX7_well : ByteArray := prog_9_method_7_code
def yX7_well : MethodName := ⟨RX7, "well", "(I)I"⟩
abbrev cX7_isRow : ByteArray := prog_9_method_8_code
def yX7_isRow : MethodName := ⟨RX7, "isRow", "(I)Z"⟩
abbrev cX7_row : ByteArray := prog_9_method_9_code
def yX7_row : MethodName := ⟨RX7, "row", "(III)I"⟩
abbrev cX7_set : ByteArray := prog_9_method_10_code
def yX7_set : MethodName := ⟨RX7, "set", "(III)I"⟩
abbrev cX7_isPart : ByteArray := prog_9_method_11_code
def yX7_isPart : MethodName := ⟨RX7, "isPart", "(III)Z"⟩
abbrev cX7_copy : ByteArray := prog_9_method_12_code
def yX7_copy : MethodName := ⟨RX7, "copy", "(IIIII)I"⟩
abbrev cX7_drop : ByteArray := prog_9_method_13_code
def yX7_drop : MethodName := ⟨RX7, "drop", "(I)I"⟩
abbrev cX7_feed : ByteArray := prog_9_method_14_code
def yX7_feed : MethodName := ⟨RX7, "feed", "(I)I"⟩
abbrev cX7_letterAt : ByteArray := prog_9_method_15_code
def yX7_letterAt : MethodName := ⟨RX7, "letterAt", "(I)I"⟩
abbrev cX7_advances : ByteArray := prog_9_method_16_code
def yX7_advances : MethodName := ⟨RX7, "advances", "()V"⟩
abbrev cX7_isWell : ByteArray := prog_9_method_17_code
def yX7_isWell : MethodName := ⟨RX7, "isWell", "()Z"⟩
abbrev cX7_faulty : ByteArray := prog_9_method_18_code
def yX7_faulty : MethodName := ⟨RX7, "faulty", "(I)V"⟩
abbrev cX7_number : ByteArray := prog_9_method_19_code
def yX7_number : MethodName := ⟨RX7, "number", "(II)I"⟩
abbrev cX7_takes : ByteArray := prog_9_method_20_code
def yX7_takes : MethodName := ⟨RX7, "takes", "(II)V"⟩
abbrev cX7_kindOf : ByteArray := prog_9_method_21_code
def yX7_kindOf : MethodName := ⟨RX7, "kindOf", "(I)I"⟩
abbrev cX7_readsMachine : ByteArray := prog_9_method_22_code
def yX7_readsMachine : MethodName := ⟨RX7, "readsMachine", "()V"⟩
abbrev cX7_readsLoad : ByteArray := prog_9_method_23_code
def yX7_readsLoad : MethodName := ⟨RX7, "readsLoad", "()V"⟩
abbrev cX7_reads : ByteArray := prog_9_method_24_code
def yX7_reads : MethodName := ⟨RX7, "reads", "()V"⟩
abbrev cX7_launderette : ByteArray := prog_9_method_25_code
def yX7_launderette : MethodName := ⟨RX7, "launderette", "()I"⟩
abbrev cX7_fault : ByteArray := prog_9_method_26_code
def yX7_fault : MethodName := ⟨RX7, "fault", "()I"⟩
abbrev cX7_isNothing : ByteArray := prog_9_method_27_code
def yX7_isNothing : MethodName := ⟨RX7, "isNothing", "()Z"⟩
abbrev cX7_isMachine : ByteArray := prog_9_method_28_code
def yX7_isMachine : MethodName := ⟨RX7, "isMachine", "(I)Z"⟩
abbrev cX7_isLoad : ByteArray := prog_9_method_29_code
def yX7_isLoad : MethodName := ⟨RX7, "isLoad", "(I)Z"⟩
abbrev cX7_washes : ByteArray := prog_9_method_30_code
def yX7_washes : MethodName := ⟨RX7, "washes", "(I)Z"⟩
abbrev cX7_lastsOf : ByteArray := prog_9_method_31_code
def yX7_lastsOf : MethodName := ⟨RX7, "lastsOf", "([I[III)I"⟩
abbrev cX7_comesOut : ByteArray := prog_9_method_32_code
def yX7_comesOut : MethodName := ⟨RX7, "comesOut", "([I[II)V"⟩
abbrev cX7_waits : ByteArray := prog_9_method_33_code
def yX7_waits : MethodName := ⟨RX7, "waits", "([I[II)I"⟩
abbrev cX7_ticksOne : ByteArray := prog_9_method_34_code
def yX7_ticksOne : MethodName := ⟨RX7, "ticksOne", "([I[I)V"⟩
abbrev cX7_ranksByNumber : ByteArray := prog_9_method_35_code
def yX7_ranksByNumber : MethodName := ⟨RX7, "ranksByNumber", "()V"⟩
abbrev cX7_asNow : ByteArray := prog_9_method_36_code
def yX7_asNow : MethodName := ⟨RX7, "asNow", "()V"⟩
abbrev cX7_foretells : ByteArray := prog_9_method_37_code
def yX7_foretells : MethodName := ⟨RX7, "foretells", "(I)V"⟩
abbrev cX7_goesAhead : ByteArray := prog_9_method_38_code
def yX7_goesAhead : MethodName := ⟨RX7, "goesAhead", "(I)V"⟩
abbrev cX7_lateOf : ByteArray := prog_9_method_39_code
def yX7_lateOf : MethodName := ⟨RX7, "lateOf", "([II)I"⟩
abbrev cX7_lateAll : ByteArray := prog_9_method_40_code
def yX7_lateAll : MethodName := ⟨RX7, "lateAll", "([I)I"⟩
abbrev cX7_howAll : ByteArray := prog_9_method_41_code
def yX7_howAll : MethodName := ⟨RX7, "howAll", "([II)I"⟩
abbrev cX7_isAllDry : ByteArray := prog_9_method_42_code
def yX7_isAllDry : MethodName := ⟨RX7, "isAllDry", "()Z"⟩
abbrev cX7_notes : ByteArray := prog_9_method_43_code
def yX7_notes : MethodName := ⟨RX7, "notes", "()V"⟩
abbrev cX7_undo : ByteArray := prog_9_method_44_code
def yX7_undo : MethodName := ⟨RX7, "undo", "()I"⟩
abbrev cX7_ticks : ByteArray := prog_9_method_45_code
def yX7_ticks : MethodName := ⟨RX7, "ticks", "(I)I"⟩
abbrev cX7_shut : ByteArray := prog_9_method_46_code
def yX7_shut : MethodName := ⟨RX7, "shut", "(I)I"⟩
abbrev cX7_power : ByteArray := prog_9_method_47_code
def yX7_power : MethodName := ⟨RX7, "power", "(I)I"⟩
abbrev cX7_due : ByteArray := prog_9_method_48_code
def yX7_due : MethodName := ⟨RX7, "due", "(II)I"⟩
abbrev cX7_again : ByteArray := prog_9_method_49_code
def yX7_again : MethodName := ⟨RX7, "again", "(II)I"⟩
abbrev cX7_machine : ByteArray := prog_9_method_50_code
def yX7_machine : MethodName := ⟨RX7, "machine", "(II)I"⟩
abbrev cX7_load : ByteArray := prog_9_method_51_code
def yX7_load : MethodName := ⟨RX7, "load", "(II)I"⟩
abbrev cX7_lasts : ByteArray := prog_9_method_52_code
def yX7_lasts : MethodName := ⟨RX7, "lasts", "(II)I"⟩
abbrev cX7_withLoads : ByteArray := prog_9_method_53_code
def yX7_withLoads : MethodName := ⟨RX7, "withLoads", "()I"⟩
abbrev cX7_stand : ByteArray := prog_9_method_54_code
def yX7_stand : MethodName := ⟨RX7, "stand", "(I)I"⟩
abbrev cX7_ahead : ByteArray := prog_9_method_55_code
def yX7_ahead : MethodName := ⟨RX7, "ahead", "(III)I"⟩
abbrev cX7_inside : ByteArray := prog_9_method_56_code
def yX7_inside : MethodName := ⟨RX7, "inside", "(III)I"⟩
abbrev cX7_all : ByteArray := prog_9_method_57_code
def yX7_all : MethodName := ⟨RX7, "all", "(II)I"⟩
abbrev cX7_isSo : ByteArray := prog_9_method_58_code
def yX7_isSo : MethodName := ⟨RX7, "isSo", "(II)Z"⟩
abbrev cX7_when : ByteArray := prog_9_method_59_code
def yX7_when : MethodName := ⟨RX7, "when", "(II)I"⟩
abbrev cX7_over : ByteArray := prog_9_method_60_code
def yX7_over : MethodName := ⟨RX7, "over", "()I"⟩
abbrev cX7_trades : ByteArray := prog_9_method_61_code
def yX7_trades : MethodName := ⟨RX7, "trades", "(II)V"⟩
abbrev cX7_nextOrder : ByteArray := prog_9_method_62_code
def yX7_nextOrder : MethodName := ⟨RX7, "nextOrder", "()Z"⟩
abbrev cX7_order : ByteArray := prog_9_method_63_code
def yX7_order : MethodName := ⟨RX7, "order", "(II)I"⟩
abbrev cX7_need : ByteArray := prog_9_method_64_code
def yX7_need : MethodName := ⟨RX7, "need", "(I)I"⟩
abbrev cX7_open : ByteArray := prog_9_method_65_code
def yX7_open : MethodName := ⟨RX7, "open", "(II)I"⟩
abbrev cX7_fills : ByteArray := prog_9_method_66_code
def yX7_fills : MethodName := ⟨RX7, "fills", "(II)I"⟩
abbrev cX7_doneAll : ByteArray := prog_9_method_67_code
def yX7_doneAll : MethodName := ⟨RX7, "doneAll", "()I"⟩
abbrev cX7_share : ByteArray := prog_9_method_68_code
def yX7_share : MethodName := ⟨RX7, "share", "(II)I"⟩
abbrev cX7_openBy : ByteArray := prog_9_method_69_code
def yX7_openBy : MethodName := ⟨RX7, "openBy", "(II)I"⟩
abbrev cX7_byTurns : ByteArray := prog_9_method_70_code
def yX7_byTurns : MethodName := ⟨RX7, "byTurns", "(II)I"⟩
abbrev cX7_against : ByteArray := prog_9_method_71_code
def yX7_against : MethodName := ⟨RX7, "against", "(III)I"⟩
abbrev cX7_goesSo : ByteArray := prog_9_method_72_code
def yX7_goesSo : MethodName := ⟨RX7, "goesSo", "(III)Z"⟩
abbrev cX7_who : ByteArray := prog_9_method_73_code
def yX7_who : MethodName := ⟨RX7, "who", "(IIIII)I"⟩
abbrev cX7_sizes : ByteArray := prog_9_method_74_code
def yX7_sizes : MethodName := ⟨RX7, "sizes", "(IIII)I"⟩
abbrev cX7_gcd : ByteArray := prog_9_method_75_code
def yX7_gcd : MethodName := ⟨RX7, "gcd", "(JJ)J"⟩
abbrev cX7_raised : ByteArray := prog_9_method_76_code
def yX7_raised : MethodName := ⟨RX7, "raised", "(JI)J"⟩
abbrev cX7_breaks : ByteArray := prog_9_method_77_code
def yX7_breaks : MethodName := ⟨RX7, "breaks", "(IIII)J"⟩
abbrev cX7_drawn : ByteArray := prog_9_method_78_code
def yX7_drawn : MethodName := ⟨RX7, "drawn", "(III)I"⟩
abbrev cX7_image : ByteArray := prog_9_method_79_code
def yX7_image : MethodName := ⟨RX7, "image", "(I)I"⟩
abbrev cX7_restore : ByteArray := prog_9_method_80_code
def yX7_restore : MethodName := ⟨RX7, "restore", "(I)I"⟩
abbrev cX7_kind : ByteArray := prog_9_method_81_code
def yX7_kind : MethodName := ⟨RX7, "kind", "(I)I"⟩
abbrev cX7_as : ByteArray := prog_9_method_82_code
def yX7_as : MethodName := ⟨RX7, "as", "(II)I"⟩
abbrev cX7_leaves : ByteArray := prog_9_method_83_code
def yX7_leaves : MethodName := ⟨RX7, "leaves", "(I)V"⟩
abbrev cX7_lentRoom : ByteArray := prog_9_method_84_code
def yX7_lentRoom : MethodName := ⟨RX7, "lentRoom", "(I)I"⟩
abbrev cX7_lentNumber : ByteArray := prog_9_method_85_code
def yX7_lentNumber : MethodName := ⟨RX7, "lentNumber", "(I)I"⟩
abbrev cX7_washerMark : ByteArray := prog_9_method_86_code
def yX7_washerMark : MethodName := ⟨RX7, "washerMark", "(I)I"⟩
abbrev cX7_washerSize : ByteArray := prog_9_method_87_code
def yX7_washerSize : MethodName := ⟨RX7, "washerSize", "(I)I"⟩
abbrev cX7_dryerSize : ByteArray := prog_9_method_88_code
def yX7_dryerSize : MethodName := ⟨RX7, "dryerSize", "(I)I"⟩
abbrev cX7_dryerMark : ByteArray := prog_9_method_89_code
def yX7_dryerMark : MethodName := ⟨RX7, "dryerMark", "(I)I"⟩
abbrev cX7_ask : ByteArray := prog_9_method_90_code
def yX7_ask : MethodName := ⟨RX7, "ask", "(II)I"⟩
abbrev cX7_trace : ByteArray := prog_9_method_91_code
def yX7_trace : MethodName := ⟨RX7, "trace", "(I)I"⟩
abbrev cX7_rowsThere : ByteArray := prog_9_method_92_code
def yX7_rowsThere : MethodName := ⟨RX7, "rowsThere", "()I"⟩
abbrev cX7_count : ByteArray := prog_9_method_93_code
def yX7_count : MethodName := ⟨RX7, "count", "(I)I"⟩
abbrev cX7_status : ByteArray := prog_9_method_94_code
def yX7_status : MethodName := ⟨RX7, "status", "()I"⟩
def RJ6 : String := "java/lang/Integer"
def TJ6 : u_T := fun k => match k with
  | _ => ("", "", "", false)
def tyJ6 : Nat → FieldType := fun k => match k with
  | _ => .int
abbrev wsJ60 : List Cond := u_ws RJ6 TJ6 0
theorem nmJ6 : ∀ a, a < 0 → ∀ b, b < 0 → a ≠ b → (TJ6 a).2.1 ≠ (TJ6 b).2.1 := by decide +kernel
theorem tyJ6_ok : ∀ k, k < 0 → parseFieldDescriptor (TJ6 k).2.2.1 = some (tyJ6 k) := by decide +kernel
abbrev cJ6_bitCount_0f7a4 : ByteArray := prog_10_method_49_code
def yJ6_bitCount_0f7a4 : MethodName := ⟨RJ6, "bitCount", "(I)I"⟩
def RJ9 : String := "java/lang/Math"
def TJ9 : u_T := fun k => match k with
  | _ => ("", "", "", false)
def tyJ9 : Nat → FieldType := fun k => match k with
  | _ => .int
abbrev wsJ90 : List Cond := u_ws RJ9 TJ9 0
theorem nmJ9 : ∀ a, a < 0 → ∀ b, b < 0 → a ≠ b → (TJ9 a).2.1 ≠ (TJ9 b).2.1 := by decide +kernel
theorem tyJ9_ok : ∀ k, k < 0 → parseFieldDescriptor (TJ9 k).2.2.1 = some (tyJ9 k) := by decide +kernel
abbrev cJ9_max_7cf53 : ByteArray := prog_11_method_65_code
def yJ9_max_7cf53 : MethodName := ⟨RJ9, "max", "(II)I"⟩
abbrev cJ9_max_f86c9 : ByteArray := prog_11_method_66_code
def yJ9_max_f86c9 : MethodName := ⟨RJ9, "max", "(JJ)J"⟩
abbrev cJ9_min_7cf53 : ByteArray := prog_11_method_69_code
def yJ9_min_7cf53 : MethodName := ⟨RJ9, "min", "(II)I"⟩
def RJ10 : String := "java/lang/System"
def TJ10 : u_T := fun k => match k with
  | _ => ("", "", "", false)
def tyJ10 : Nat → FieldType := fun k => match k with
  | _ => .int
abbrev wsJ100 : List Cond := u_ws RJ10 TJ10 0
theorem nmJ10 : ∀ a, a < 0 → ∀ b, b < 0 → a ≠ b → (TJ10 a).2.1 ≠ (TJ10 b).2.1 := by decide +kernel
theorem tyJ10_ok : ∀ k, k < 0 → parseFieldDescriptor (TJ10 k).2.2.1 = some (tyJ10 k) := by decide +kernel
def RL : String := "LaundryLoadsLaw"
abbrev cL_law : ByteArray := code
def yL_law : MethodName := ⟨RL, "law", "([I)Z"⟩
abbrev vwCl : List vw_C := [(RX0, TX0, 3), (RX1, TX1, 2), (RX2, TX2, 16), (RX3, TX3, 5), (RX4, TX4, 3), (RX5, TX5, 7), (RX6, TX6, 10), (RX7, TX7, 30)]
end
section
/-! THE JUDGEMENT Gd: the machine at a frame of one of our methods, over a heap told as a list of cells by their numbers -/
abbrev Hp : Type := List (Nat × List Value)
abbrev Meth : Type := MethodName × ByteArray × Nat × Option FieldType
def TT : List Cond := lw_tbl.filter goodWord
theorem tt_of {w : Cond} (i : Nat) (h : lw_tbl[i]? = some w) (hg : goodWord w = true) : w ∈ TT := List.mem_filter.mpr ⟨List.mem_of_getElem? h, hg⟩
theorem tt_good : GoodIn TT TT := fun w h => ⟨h, good_of_word (List.mem_filter.mp h).2⟩
/-- words that a warmed machine keeps by laws of their own -/
def NW : List Cond := [.methodLinkNest RX6 9 yX4_init RX6, .methodLinkNest RX6 18 yX5_init RX6, .methodLinkNest RX6 25 yX2_init RX6, .methodLinkNest RX0 17 yX2_init RX6, .methodLinkNest RX6 46 yX3_init RX6, .methodLinkNest RX6 53 yX1_init RX6, .fieldLinkNest RX1 32 RX6 "NEAREST" "[I" RX6, .fieldLinkNest RX1 35 RX6 "SIZE_BODIES" "[I" RX6, .fieldLinkNest RX1 38 RX6 "MARK_BODIES" "[I" RX6]
def Nx (U : State) : Prop := (∀ w ∈ NW, va_Nw w U) ∧ va_AO RX2 U ∧ va_Nw (.arrayOver (.array .int)) U
abbrev Dc (cc : ByteArray) (pc : Nat) (i : Instr) (n pc' : Nat) : Prop := decode cc pc = .ok (i, n) ∧ pc + n = pc'
/-- where a cell lies: the ones that the law makes from B on, the static rows apart -/
def ad (B : Nat) (S : Nat → Nat) (i : Nat) : Nat := if i < 1000000 then B + i else S (i - 1000000)
def cv (B : Nat) (S : Nat → Nat) (v : Value) : Value := match v with
  | .ref i => .ref (ad B S i)
  | w => w
def iv (v : Value) : Int32 := match v with
  | .int x => x
  | _ => 0
def rv (B : Nat) (S : Nat → Nat) (v : Value) : Option Nat := match v with
  | .ref i => some (ad B S i)
  | _ => none
def ce (B : Nat) (S : Nat → Nat) (cy : Nat → ClassId) (q : Nat × List Value) : va_E :=
  if q.1 < 8 then .inr (q.1, q.2.map (cv B S)) else if q.1 < 10 then .inl (cy q.1, q.2.length, .inl (fun j => iv (q.2.getD j .null)))
  else .inl (cy q.1, q.2.length, .inr (.inr (.inr (.inr (fun j => rv B S (q.2.getD j .null))))))
def wO (B : Nat) (S : Nat → Nat) (cy : Nat → ClassId) (hp : Hp) : va_W := hp.mapIdx (fun i q => (B + i, ce B S cy q))
def tyl (cy : Nat → ClassId) : List (ClassId × FieldType) := [(cy 8, .int), (cy 9, .boolean), (cy 10, .object RX2), (cy 11, .array .int)]
def Wd (B : Nat) (S : Nat → Nat) (D : va_G) (cy : Nat → ClassId) (hp : Hp) (U : State) (H : Heap) : Prop :=
  hp.length ≤ 1000000 ∧ va_P D vwCl (wO B S cy hp) H ∧ va_K D vwCl (tyl cy) U
def sN (j : Nat) : String := if j = 0 then "NEAREST" else if j = 1 then "SIZE_BODIES" else "MARK_BODIES"
def sT (j k : Nat) : Int32 := ([[-1, 0, 1, 1, 0, 4], [10, 11, 12, 0, 13, 14], [20, 21, 24, 22, 23, 0]] : List (List Int32)).getD j [] |>.getD k 0
def Sd (B : Nat) (S : Nat → Nat) (U : State) (H : Heap) : Prop := ∀ j : Nat, j < 3 → va_Z RX6 (sN j) "[I" (.ref (S j)) (fun q => B ≤ q) U H ∧ va_T .int (S j) 6 (fun k => .int (sT j k)) (fun q => B ≤ q) U H
def Cx (M : Meth) (p : Program) (s : State) (m : MethodId) (args : Array Value) (meth : Method) (c : Code) (B : Nat) (S : Nat → Nat) : Prop :=
  p.tables.exec = Jvm.exec ∧ c.code = M.2.1 ∧ meth.sig.returnType = M.2.2.2 ∧ c.maxLocals = M.2.2.1 ∧ s.vm.findClass M.1.cls = some m.cls ∧ (∀ w ∈ TT, w.before args s = true) ∧ meth.locks = false ∧ meth.name = M.1.name ∧ Sd B S s s.heap ∧ Nx s ∧ B ≤ s.heap.size
def Lh (M : Meth) (B : Nat) (S : Nat → Nat) (ls : Array Slot) (L : List (Option Value)) : Prop := ls.size = M.2.2.1 ∧ L.length = M.2.2.1 ∧ lv_wf ls ∧ ∀ (i : Nat) (v : Value), L[i]? = some (some v) → ls[i]? = some (.val (cv B S v))
def Qm (B : Nat) (S : Nat → Nat) (D : va_G) (cy : Nat → ClassId) (P : Option Value → Hp → Prop) : Array Value → State → Outcome → State → Prop := fun _ st oc t =>
  (∃ (v : Option Value) (hp' : Hp), oc = .returned (v.map (cv B S)) ∧ P v hp' ∧ Wd B S D cy hp' t t.heap) ∧ va_F (fun q => B ≤ q) st t
def Rm (d mc ms : Nat) : Room := { frames := d, cells := mc, slots := ms, locals := 100 * d }
def wM (M : Meth) : List Cond := .code M.1 M.2.1 M.2.2.1 M.2.2.2 :: TT
def Gd (M : Meth) (d mc ms pc : Nat) (L : List (Option Value)) (st : List Value) (hp : Hp) (nc ns : Nat) (P : Option Value → Hp → Prop) : Prop :=
  ∀ (l : Launch) (p : Program) (e : Env) (s : State) (m : MethodId) (args : Array Value) (below : List Frame) (meth : Method) (c : Code) (B : Nat) (S : Nat → Nat) (D : va_G) (cy : Nat → ClassId) (H : Heap) (locs : List Loc) (ls : Array Slot),
    Cx M p s m args meth c B S → s.heap.size + nc = B + hp.length → Wd B S D cy hp s H → va_S (fun q => B ≤ q) s.heap H locs → Lh M B S ls L →
    W p l e (Rm d mc ms) s m args below meth c H locs nc ns (MQ below (Qm B S D cy P) args s mc ms (fun q => B ≤ q)) (F0 m pc ls (st.map (cv B S)))
def Mt (M : Meth) (d mc ms : Nat) (As : List Value) (hp : Hp) (P : Option Value → Hp → Prop) : Prop :=
  ∀ (l : Launch) (B : Nat) (S : Nat → Nat) (D : va_G) (cy : Nat → ClassId), Met l M.1 (wM M) (Rm d mc ms) (va_Pc (As.map (cv B S)) (fun U => U.heap.size = B + hp.length ∧ Wd B S D cy hp U U.heap ∧ Sd B S U U.heap ∧ Nx U)) (Qm B S D cy P) mc ms (fun q => B ≤ q)
/-! what is kept -/
theorem aoa_moved {u U : State} (hvm : u.vm.Alike U.vm) (h : va_Nw (.arrayOver (.array .int)) u) : va_Nw (.arrayOver (.array .int)) U := by
  unfold va_Nw Cond.before Cond.holds at h ⊢
  simp only [Cond.value, beq_iff_eq] at h ⊢
  cases hc : u.vm.findClass (FieldType.array .int).toString with
  | none => simp [hc] at h
  | some comp =>
    simp only [hc, Option.bind_some, Option.bind_eq_some_iff, Option.map_eq_some_iff] at h
    obtain ⟨c, hi, k, hk, hb⟩ := h
    obtain ⟨k', hk', he⟩ := hvm.2.2 _ _ hk
    have hi2 : (U.vm.classes.findIdx? fun (x : Class) => match x.kind with | .array component _ => component == comp | _ => false) = some c := (va_idx_bare U.vm comp).symm.trans (by
      rw [hvm.bare_eq]
      exact (va_idx_bare u.vm comp).trans hi)
    have hkk : k'.kind = k.kind := by rw [he]
    have f1 : U.vm.findClass (FieldType.array .int).toString = some comp := by rw [hvm.findClass]; exact hc
    rw [f1, Option.bind_some]
    refine (congrArg (fun o : Option Nat => o.bind (fun c => (U.vm.classes[c]?).map fun (k : Class) => match k.kind with | .array _ ty => decide (ty = FieldType.array .int) && decide (U.vm.findClass ("[" ++ (FieldType.array .int).toString) = some c) | _ => false)) hi2).trans ?_
    rw [Option.bind_some, hk', Option.map_some, hkk, hvm.findClass]
    exact congrArg some hb
theorem nx_warm {s U : State} (hW : s.WarmedH U.vm) (h : Nx s) : Nx U := by
  refine ⟨fun w hw => ?_, h.2.1.moved hW.alike, ?_⟩
  · have h1 := h.1 w hw
    simp only [NW, List.mem_cons, List.not_mem_nil, or_false] at hw
    rcases hw with rfl | rfl | rfl | rfl | rfl | rfl | rfl | rfl | rfl
    · exact h1.warmM hW
    · exact h1.warmM hW
    · exact h1.warmM hW
    · exact h1.warmM hW
    · exact h1.warmM hW
    · exact h1.warmM hW
    · exact h1.warmF hW
    · exact h1.warmF hW
    · exact h1.warmF hW
  · exact aoa_moved hW.alike h.2.2
theorem nx_same {s U : State} (h : s.vm = U.vm) (hN : Nx s) : Nx U := by
  refine ⟨fun w hw => ?_, va_AO.moved (by rw [h]; exact Vm.Alike.refl _) hN.2.1, aoa_moved (by rw [h]; exact Vm.Alike.refl _) hN.2.2⟩
  have h1 := hN.1 w hw
  simp only [NW, List.mem_cons, List.not_mem_nil, or_false] at hw
  rcases hw with rfl | rfl | rfl | rfl | rfl | rfl | rfl | rfl | rfl <;> exact va_Nw.same rfl h h1
theorem sd_kept {B : Nat} {S : Nat → Nat} {U : State} {H H1 : Heap} (h : Sd B S U H) (hq : ∀ a : Nat, a < H.size → ¬ B ≤ a → H1[a]? = H[a]?) : Sd B S U H1 := fun j hj => ⟨(h j hj).1.kept hq, (h j hj).2.kept hq⟩
theorem sd_moved {B : Nat} {S : Nat → Nat} {u U : State} {H : Heap} (hvm : u.vm.Alike U.vm) (h : Sd B S u H) : Sd B S U H := fun j hj => ⟨va_Z.moved hvm (h j hj).1, va_T.moved hvm (h j hj).2⟩
theorem ad_lt {B : Nat} {S : Nat → Nat} {i : Nat} (h : i < 1000000) : ad B S i = B + i := if_pos h
theorem wO_at {B : Nat} {S : Nat → Nat} {cy : Nat → ClassId} {hp : Hp} {i : Nat} {q : Nat × List Value} (h : hp[i]? = some q) : (wO B S cy hp)[i]? = some (B + i, ce B S cy q) := by
  unfold wO
  rw [List.getElem?_mapIdx, h]
  rfl
theorem wO_back {B : Nat} {S : Nat → Nat} {cy : Nat → ClassId} {hp : Hp} {i : Nat} {x : Nat × va_E} (h : (wO B S cy hp)[i]? = some x) : ∃ q, hp[i]? = some q ∧ x = (B + i, ce B S cy q) := by
  unfold wO at h
  rw [List.getElem?_mapIdx] at h
  cases hi : hp[i]? with
  | none => rw [hi] at h; cases h
  | some q => rw [hi] at h; exact ⟨q, rfl, (Option.some.inj h).symm⟩
theorem wO_D {B : Nat} {S : Nat → Nat} {cy : Nat → ClassId} {hp : Hp} : va_D (fun q => B ≤ q) (wO B S cy hp) := by
  refine ⟨fun i j x y hi hj h => ?_, fun k x hx => ?_⟩
  · obtain ⟨q, -, rfl⟩ := wO_back hi
    obtain ⟨q', -, rfl⟩ := wO_back hj
    have h' : B + i = B + j := h
    omega
  · obtain ⟨q, -, rfl⟩ := wO_back hx
    exact Nat.le_add_right B k
theorem wd_le {B : Nat} {S : Nat → Nat} {D : va_G} {cy : Nat → ClassId} {hp : Hp} {U : State} {H : Heap} (h : Wd B S D cy hp U H) (hB : B ≤ H.size) : B + hp.length ≤ H.size := by
  rcases Nat.eq_zero_or_pos hp.length with h0 | h0
  · omega
  · have hx : hp[hp.length - 1]? = some (hp[hp.length - 1]'(by omega)) := List.getElem?_eq_getElem (by omega)
    have := (h.2.1 _ _ (wO_at hx)).lt
    have h2 : B + (hp.length - 1) < H.size := this
    omega
theorem wO_set {B : Nat} {S : Nat → Nat} {cy : Nat → ClassId} {hp : Hp} {i : Nat} {q : Nat × List Value} : (wO B S cy hp).set i (B + i, ce B S cy q) = wO B S cy (hp.set i q) := by
  apply List.ext_getElem?
  intro j
  unfold wO
  rw [List.getElem?_mapIdx]
  by_cases h : i = j
  · subst h
    by_cases hl : i < hp.length
    · rw [List.getElem?_set_self (by rw [List.length_mapIdx]; exact hl), List.getElem?_set_self hl]
      rfl
    · rw [List.getElem?_eq_none (by rw [List.length_set, List.length_mapIdx]; omega), List.getElem?_eq_none (by rw [List.length_set]; omega)]
      rfl
  · rw [List.getElem?_set_ne h, List.getElem?_set_ne h, List.getElem?_mapIdx]
theorem wO_push {B : Nat} {S : Nat → Nat} {cy : Nat → ClassId} {hp : Hp} {q : Nat × List Value} : wO B S cy hp ++ [(B + hp.length, ce B S cy q)] = wO B S cy (hp ++ [q]) := by
  unfold wO
  rw [List.mapIdx_append]
  simp
/-! the entry of a method -/
def leA (vs : List Value) : List (Option Value) := match vs with
  | [] => []
  | v :: vs => if v.category = 2 then some v :: none :: leA vs else some v :: leA vs
def Le (n : Nat) (vs : List Value) : List (Option Value) := leA vs ++ List.replicate (n - (leA vs).length) none
theorem cv_cat (B : Nat) (S : Nat → Nat) (v : Value) : (cv B S v).category = v.category := by cases v <;> rfl
theorem leA_len (B : Nat) (S : Nat → Nat) : ∀ vs : List Value, (lg_sl (vs.map (cv B S))).length = (leA vs).length
  | [] => rfl
  | v :: vs => by
    have ih := leA_len B S vs
    unfold lg_sl at ih ⊢
    rw [List.map_cons, List.flatMap_cons, List.length_append, ih, cv_cat, show leA (v :: vs) = if v.category = 2 then some v :: none :: leA vs else some v :: leA vs from rfl]
    by_cases h : v.category = 2
    · rw [if_pos h, if_pos h]
      simp only [List.length_cons, List.length_nil]
      omega
    · rw [if_neg h, if_neg h]
      simp only [List.length_cons, List.length_nil]
      omega
theorem leA_in (B : Nat) (S : Nat → Nat) : ∀ (vs : List Value) (b j : Nat) (v : Value), (leA vs)[j]? = some (some v) → (b + j, cv B S v) ∈ lv_args b (vs.map (cv B S))
  | [], b, j, v, h => by simp [leA] at h
  | w :: vs, b, j, v, h => by
    rw [List.map_cons, lv_args, cv_cat]
    unfold leA at h
    by_cases hc : w.category = 2
    · rw [if_pos hc] at h
      rw [if_pos hc]
      match j, h with
      | 0, h =>
        simp only [List.getElem?_cons_zero, Option.some.injEq] at h
        rw [← h]
        exact List.mem_cons_self
      | 1, h => simp at h
      | j + 2, h =>
        simp only [List.getElem?_cons_succ] at h
        have := leA_in B S vs (b + 2) j v h
        rw [show b + (j + 2) = b + 2 + j by omega]
        exact List.mem_cons_of_mem _ this
    · rw [if_neg hc] at h
      rw [if_neg hc]
      match j, h with
      | 0, h =>
        simp only [List.getElem?_cons_zero, Option.some.injEq] at h
        rw [← h]
        exact List.mem_cons_self
      | j + 1, h =>
        simp only [List.getElem?_cons_succ] at h
        have := leA_in B S vs (b + 1) j v h
        rw [show b + (j + 1) = b + 1 + j by omega]
        exact List.mem_cons_of_mem _ this
theorem Mt.of {M : Meth} {d mc ms : Nat} {As : List Value} {hp : Hp} {P : Option Value → Hp → Prop} (L : List (Option Value)) (hy : plainName M.1.cls = true) (hn : Nat.ble (leA As).length M.2.2.1 = true) (hL : Le M.2.2.1 As = L) (k : Gd M d mc ms 0 L [] hp 0 0 P) : Mt M d mc ms As hp P := by
  intro l B S D cy
  refine Met.ofW (cc := M.2.1) (maxL := M.2.2.1) (ret := M.2.2.2) hy rfl ?_
  intro p e s m args below meth c s₁ Bd hml hv
  obtain ⟨rfl, hz, hWd, hSd, hNx⟩ := hv
  have hts := atoms_spec (ws := wM M) Bd.pre
  have hle := Nat.le_of_ble_eq_true hn
  have C : Cx M p s m _ meth c B S := ⟨Bd.exec, Bd.bytes, Bd.returns, hml, findClass_of_methodNamed Bd.named, fun w hw => hts w (List.mem_cons_of_mem _ hw), Bd.notSynchronized, (name_of_methodNamed Bd.named Bd.method).1, hSd, hNx, by omega⟩
  have hl := lv_entry (As.map (cv B S)) (n := M.2.2.1) (by rw [leA_len]; exact hle)
  rw [lg_entry_eq]
  refine k l p e s m _ below meth c B S D cy s.heap [] _ C hz hWd va_S.rf ⟨hl.1, ?_, hl.2.1, fun i v h => ?_⟩
  · rw [← hL]
    unfold Le
    rw [List.length_append, List.length_replicate]
    omega
  · refine hl.2.2 (i, cv B S v) ?_
    have h2 := leA_in B S As 0 i v
    rw [Nat.zero_add] at h2
    refine h2 ?_
    rw [← hL] at h
    unfold Le at h
    by_cases hi : i < (leA As).length
    · rw [List.getElem?_append_left hi] at h
      exact h
    · rw [List.getElem?_append_right (by omega), List.getElem?_replicate] at h
      split at h
      · cases h
      · cases h
section Rules
variable {M : Meth} {d mc ms pc pc' : Nat} {L : List (Option Value)} {st : List Value} {hp : Hp} {nc ns : Nat} {P : Option Value → Hp → Prop}
theorem g_iadd {x y : Int32} (hd : Dc M.2.1 pc .iadd 1 pc')  (k : Gd M d mc ms pc' L (.int (x + y) :: st) hp nc ns P) : Gd M d mc ms pc L (.int y :: .int x :: st) hp nc ns P := by
  obtain ⟨h1, rfl⟩ := hd
  exact fun l p e s m args below meth c B S D cy H locs ls C hZ hW hS hL => lv_iadd C.1 C.2.1 h1 (k l p e s m args below meth c B S D cy H locs ls C hZ hW hS hL)
theorem g_isub {x y : Int32} (hd : Dc M.2.1 pc .isub 1 pc')  (k : Gd M d mc ms pc' L (.int (x - y) :: st) hp nc ns P) : Gd M d mc ms pc L (.int y :: .int x :: st) hp nc ns P := by
  obtain ⟨h1, rfl⟩ := hd
  exact fun l p e s m args below meth c B S D cy H locs ls C hZ hW hS hL => lv_isub C.1 C.2.1 h1 (k l p e s m args below meth c B S D cy H locs ls C hZ hW hS hL)
theorem g_imul {x y : Int32} (hd : Dc M.2.1 pc .imul 1 pc')  (k : Gd M d mc ms pc' L (.int (x * y) :: st) hp nc ns P) : Gd M d mc ms pc L (.int y :: .int x :: st) hp nc ns P := by
  obtain ⟨h1, rfl⟩ := hd
  exact fun l p e s m args below meth c B S D cy H locs ls C hZ hW hS hL => lv_imul C.1 C.2.1 h1 (k l p e s m args below meth c B S D cy H locs ls C hZ hW hS hL)
theorem g_iand {x y : Int32} (hd : Dc M.2.1 pc .iand 1 pc')  (k : Gd M d mc ms pc' L (.int (x &&& y) :: st) hp nc ns P) : Gd M d mc ms pc L (.int y :: .int x :: st) hp nc ns P := by
  obtain ⟨h1, rfl⟩ := hd
  exact fun l p e s m args below meth c B S D cy H locs ls C hZ hW hS hL => lv_iand C.1 C.2.1 h1 (k l p e s m args below meth c B S D cy H locs ls C hZ hW hS hL)
theorem g_ior {x y : Int32} (hd : Dc M.2.1 pc .ior 1 pc')  (k : Gd M d mc ms pc' L (.int (x ||| y) :: st) hp nc ns P) : Gd M d mc ms pc L (.int y :: .int x :: st) hp nc ns P := by
  obtain ⟨h1, rfl⟩ := hd
  exact fun l p e s m args below meth c B S D cy H locs ls C hZ hW hS hL => lv_ior C.1 C.2.1 h1 (k l p e s m args below meth c B S D cy H locs ls C hZ hW hS hL)
theorem g_ixor {x y : Int32} (hd : Dc M.2.1 pc .ixor 1 pc')  (k : Gd M d mc ms pc' L (.int (x ^^^ y) :: st) hp nc ns P) : Gd M d mc ms pc L (.int y :: .int x :: st) hp nc ns P := by
  obtain ⟨h1, rfl⟩ := hd
  exact fun l p e s m args below meth c B S D cy H locs ls C hZ hW hS hL => lv_ixor C.1 C.2.1 h1 (k l p e s m args below meth c B S D cy H locs ls C hZ hW hS hL)
theorem g_ishl {x y : Int32} (hd : Dc M.2.1 pc .ishl 1 pc')  (k : Gd M d mc ms pc' L (.int (x <<< (y &&& 31)) :: st) hp nc ns P) : Gd M d mc ms pc L (.int y :: .int x :: st) hp nc ns P := by
  obtain ⟨h1, rfl⟩ := hd
  exact fun l p e s m args below meth c B S D cy H locs ls C hZ hW hS hL => lv_ishl C.1 C.2.1 h1 (k l p e s m args below meth c B S D cy H locs ls C hZ hW hS hL)
theorem g_ishr {x y : Int32} (hd : Dc M.2.1 pc .ishr 1 pc')  (k : Gd M d mc ms pc' L (.int (x >>> (y &&& 31)) :: st) hp nc ns P) : Gd M d mc ms pc L (.int y :: .int x :: st) hp nc ns P := by
  obtain ⟨h1, rfl⟩ := hd
  exact fun l p e s m args below meth c B S D cy H locs ls C hZ hW hS hL => lv_ishr C.1 C.2.1 h1 (k l p e s m args below meth c B S D cy H locs ls C hZ hW hS hL)
theorem g_iushr {x y : Int32} (hd : Dc M.2.1 pc .iushr 1 pc')  (k : Gd M d mc ms pc' L (.int (x.toUInt32 >>> (y.toUInt32 &&& Int32.toUInt32 31)).toInt32 :: st) hp nc ns P) : Gd M d mc ms pc L (.int y :: .int x :: st) hp nc ns P := by
  obtain ⟨h1, rfl⟩ := hd
  exact fun l p e s m args below meth c B S D cy H locs ls C hZ hW hS hL => lv_iushr C.1 C.2.1 h1 rfl (k l p e s m args below meth c B S D cy H locs ls C hZ hW hS hL)
theorem g_idiv {x y : Int32} (hd : Dc M.2.1 pc .idiv 1 pc') (hne : ¬ y = 0) (k : Gd M d mc ms pc' L (.int (x / y) :: st) hp nc ns P) : Gd M d mc ms pc L (.int y :: .int x :: st) hp nc ns P := by
  obtain ⟨h1, rfl⟩ := hd
  exact fun l p e s m args below meth c B S D cy H locs ls C hZ hW hS hL => lv_idiv C.1 C.2.1 h1 hne (k l p e s m args below meth c B S D cy H locs ls C hZ hW hS hL)
theorem g_irem {x y : Int32} (hd : Dc M.2.1 pc .irem 1 pc') (hne : ¬ y = 0) (k : Gd M d mc ms pc' L (.int (x - x / y * y) :: st) hp nc ns P) : Gd M d mc ms pc L (.int y :: .int x :: st) hp nc ns P := by
  obtain ⟨h1, rfl⟩ := hd
  exact fun l p e s m args below meth c B S D cy H locs ls C hZ hW hS hL => lv_irem C.1 C.2.1 h1 hne (k l p e s m args below meth c B S D cy H locs ls C hZ hW hS hL)
theorem g_ldiv {x y : Int64} (hd : Dc M.2.1 pc .ldiv 1 pc') (hne : ¬ y = 0) (k : Gd M d mc ms pc' L (.long (x / y) :: st) hp nc ns P) : Gd M d mc ms pc L (.long y :: .long x :: st) hp nc ns P := by
  obtain ⟨h1, rfl⟩ := hd
  exact fun l p e s m args below meth c B S D cy H locs ls C hZ hW hS hL => lv_ldiv C.1 C.2.1 h1 hne (k l p e s m args below meth c B S D cy H locs ls C hZ hW hS hL)
theorem g_lrem {x y : Int64} (hd : Dc M.2.1 pc .lrem 1 pc') (hne : ¬ y = 0) (k : Gd M d mc ms pc' L (.long (x - x / y * y) :: st) hp nc ns P) : Gd M d mc ms pc L (.long y :: .long x :: st) hp nc ns P := by
  obtain ⟨h1, rfl⟩ := hd
  exact fun l p e s m args below meth c B S D cy H locs ls C hZ hW hS hL => lv_lrem C.1 C.2.1 h1 hne (k l p e s m args below meth c B S D cy H locs ls C hZ hW hS hL)
theorem g_ladd {x y : Int64} (hd : Dc M.2.1 pc .ladd 1 pc')  (k : Gd M d mc ms pc' L (.long (x + y) :: st) hp nc ns P) : Gd M d mc ms pc L (.long y :: .long x :: st) hp nc ns P := by
  obtain ⟨h1, rfl⟩ := hd
  exact fun l p e s m args below meth c B S D cy H locs ls C hZ hW hS hL => lv_ladd C.1 C.2.1 h1 (k l p e s m args below meth c B S D cy H locs ls C hZ hW hS hL)
theorem g_lsub {x y : Int64} (hd : Dc M.2.1 pc .lsub 1 pc')  (k : Gd M d mc ms pc' L (.long (x - y) :: st) hp nc ns P) : Gd M d mc ms pc L (.long y :: .long x :: st) hp nc ns P := by
  obtain ⟨h1, rfl⟩ := hd
  exact fun l p e s m args below meth c B S D cy H locs ls C hZ hW hS hL => lv_lsub C.1 C.2.1 h1 (k l p e s m args below meth c B S D cy H locs ls C hZ hW hS hL)
theorem g_lmul {x y : Int64} (hd : Dc M.2.1 pc .lmul 1 pc')  (k : Gd M d mc ms pc' L (.long (x * y) :: st) hp nc ns P) : Gd M d mc ms pc L (.long y :: .long x :: st) hp nc ns P := by
  obtain ⟨h1, rfl⟩ := hd
  exact fun l p e s m args below meth c B S D cy H locs ls C hZ hW hS hL => lv_lmul C.1 C.2.1 h1 (k l p e s m args below meth c B S D cy H locs ls C hZ hW hS hL)
theorem g_lcmp {x y : Int64} (hd : Dc M.2.1 pc .lcmp 1 pc')  (k : Gd M d mc ms pc' L (.int (lg_cmp x y) :: st) hp nc ns P) : Gd M d mc ms pc L (.long y :: .long x :: st) hp nc ns P := by
  obtain ⟨h1, rfl⟩ := hd
  exact fun l p e s m args below meth c B S D cy H locs ls C hZ hW hS hL => W.lcmp C.1 C.2.1 h1 (k l p e s m args below meth c B S D cy H locs ls C hZ hW hS hL)
theorem g_ineg {x : Int32} (hd : Dc M.2.1 pc .ineg 1 pc')  (k : Gd M d mc ms pc' L (.int (-x) :: st) hp nc ns P) : Gd M d mc ms pc L (.int x :: st) hp nc ns P := by
  obtain ⟨h1, rfl⟩ := hd
  exact fun l p e s m args below meth c B S D cy H locs ls C hZ hW hS hL => lv_ineg C.1 C.2.1 h1 (k l p e s m args below meth c B S D cy H locs ls C hZ hW hS hL)
theorem g_i2l {x : Int32} (hd : Dc M.2.1 pc .i2l 1 pc')  (k : Gd M d mc ms pc' L (.long x.toInt64 :: st) hp nc ns P) : Gd M d mc ms pc L (.int x :: st) hp nc ns P := by
  obtain ⟨h1, rfl⟩ := hd
  exact fun l p e s m args below meth c B S D cy H locs ls C hZ hW hS hL => lv_i2l C.1 C.2.1 h1 rfl (k l p e s m args below meth c B S D cy H locs ls C hZ hW hS hL)
theorem g_l2i {x : Int64} (hd : Dc M.2.1 pc .l2i 1 pc')  (k : Gd M d mc ms pc' L (.int x.toInt32 :: st) hp nc ns P) : Gd M d mc ms pc L (.long x :: st) hp nc ns P := by
  obtain ⟨h1, rfl⟩ := hd
  exact fun l p e s m args below meth c B S D cy H locs ls C hZ hW hS hL => lv_l2i C.1 C.2.1 h1 rfl (k l p e s m args below meth c B S D cy H locs ls C hZ hW hS hL)
theorem g_i2b {x : Int32} (hd : Dc M.2.1 pc .i2b 1 pc')  (k : Gd M d mc ms pc' L (.int x.toInt8.toInt32 :: st) hp nc ns P) : Gd M d mc ms pc L (.int x :: st) hp nc ns P := by
  obtain ⟨h1, rfl⟩ := hd
  exact fun l p e s m args below meth c B S D cy H locs ls C hZ hW hS hL => lv_i2b C.1 C.2.1 h1 rfl (k l p e s m args below meth c B S D cy H locs ls C hZ hW hS hL)
theorem g_i2s {x : Int32} (hd : Dc M.2.1 pc .i2s 1 pc')  (k : Gd M d mc ms pc' L (.int x.toInt16.toInt32 :: st) hp nc ns P) : Gd M d mc ms pc L (.int x :: st) hp nc ns P := by
  obtain ⟨h1, rfl⟩ := hd
  exact fun l p e s m args below meth c B S D cy H locs ls C hZ hW hS hL => lv_i2s C.1 C.2.1 h1 rfl (k l p e s m args below meth c B S D cy H locs ls C hZ hW hS hL)
theorem g_iconst {n : Int} {v : Int32} (hd : Dc M.2.1 pc (.iconst n) 1 pc') (hv : Int32.ofInt n = v) (k : Gd M d mc ms pc' L (.int v :: st) hp nc ns P) : Gd M d mc ms pc L st hp nc ns P := by
  obtain ⟨h1, rfl⟩ := hd
  exact fun l p e s m args below meth c B S D cy H locs ls C hZ hW hS hL => lv_iconst C.1 C.2.1 h1 hv (k l p e s m args below meth c B S D cy H locs ls C hZ hW hS hL)
theorem g_bipush {n : Int} {v : Int32} (hd : Dc M.2.1 pc (.bipush n) 2 pc') (hv : (Int8.ofInt n).toInt32 = v) (k : Gd M d mc ms pc' L (.int v :: st) hp nc ns P) : Gd M d mc ms pc L st hp nc ns P := by
  obtain ⟨h1, rfl⟩ := hd
  exact fun l p e s m args below meth c B S D cy H locs ls C hZ hW hS hL => lv_bipush C.1 C.2.1 h1 hv (k l p e s m args below meth c B S D cy H locs ls C hZ hW hS hL)
theorem g_sipush {n : Int} {v : Int32} (hd : Dc M.2.1 pc (.sipush n) 3 pc') (hv : (Int16.ofInt n).toInt32 = v) (k : Gd M d mc ms pc' L (.int v :: st) hp nc ns P) : Gd M d mc ms pc L st hp nc ns P := by
  obtain ⟨h1, rfl⟩ := hd
  exact fun l p e s m args below meth c B S D cy H locs ls C hZ hW hS hL => lv_sipush C.1 C.2.1 h1 hv (k l p e s m args below meth c B S D cy H locs ls C hZ hW hS hL)
theorem g_lconst {n : Fin 2} {v : Int64} (hd : Dc M.2.1 pc (.lconst n) 1 pc') (hv : Int64.ofNat (n : Nat) = v) (k : Gd M d mc ms pc' L (.long v :: st) hp nc ns P) : Gd M d mc ms pc L st hp nc ns P := by
  obtain ⟨h1, rfl⟩ := hd
  exact fun l p e s m args below meth c B S D cy H locs ls C hZ hW hS hL => lv_lconst C.1 C.2.1 h1 hv (k l p e s m args below meth c B S D cy H locs ls C hZ hW hS hL)
theorem g_iload_n {i : Fin 4} {x : Int32} (hd : Dc M.2.1 pc (.iload_n i) 1 pc') (hl : L[(i : Nat)]? = some (some (.int x))) (k : Gd M d mc ms pc' L (.int x :: st) hp nc ns P) : Gd M d mc ms pc L st hp nc ns P := by
  obtain ⟨h1, rfl⟩ := hd
  exact fun l p e s m args below meth c B S D cy H locs ls C hZ hW hS hL => lv_iload_n C.1 C.2.1 h1 rfl (hL.2.2.2 _ _ hl) (k l p e s m args below meth c B S D cy H locs ls C hZ hW hS hL)
theorem g_iload {i : Nat} {x : Int32} (hd : Dc M.2.1 pc (.iload i) 2 pc') (hl : L[i]? = some (some (.int x))) (k : Gd M d mc ms pc' L (.int x :: st) hp nc ns P) : Gd M d mc ms pc L st hp nc ns P := by
  obtain ⟨h1, rfl⟩ := hd
  exact fun l p e s m args below meth c B S D cy H locs ls C hZ hW hS hL => lv_iload C.1 C.2.1 h1 (hL.2.2.2 _ _ hl) (k l p e s m args below meth c B S D cy H locs ls C hZ hW hS hL)
theorem g_lload_n {i : Fin 4} {x : Int64} (hd : Dc M.2.1 pc (.lload_n i) 1 pc') (hl : L[(i : Nat)]? = some (some (.long x))) (k : Gd M d mc ms pc' L (.long x :: st) hp nc ns P) : Gd M d mc ms pc L st hp nc ns P := by
  obtain ⟨h1, rfl⟩ := hd
  exact fun l p e s m args below meth c B S D cy H locs ls C hZ hW hS hL => lv_lload_n C.1 C.2.1 h1 rfl (hL.2.2.2 _ _ hl) (k l p e s m args below meth c B S D cy H locs ls C hZ hW hS hL)
theorem g_lload {i : Nat} {x : Int64} (hd : Dc M.2.1 pc (.lload i) 2 pc') (hl : L[i]? = some (some (.long x))) (k : Gd M d mc ms pc' L (.long x :: st) hp nc ns P) : Gd M d mc ms pc L st hp nc ns P := by
  obtain ⟨h1, rfl⟩ := hd
  exact fun l p e s m args below meth c B S D cy H locs ls C hZ hW hS hL => lv_lload C.1 C.2.1 h1 (hL.2.2.2 _ _ hl) (k l p e s m args below meth c B S D cy H locs ls C hZ hW hS hL)
theorem g_aload_n {i : Fin 4} {x : Nat} (hd : Dc M.2.1 pc (.aload_n i) 1 pc') (hl : L[(i : Nat)]? = some (some (.ref x))) (k : Gd M d mc ms pc' L (.ref x :: st) hp nc ns P) : Gd M d mc ms pc L st hp nc ns P := by
  obtain ⟨h1, rfl⟩ := hd
  exact fun l p e s m args below meth c B S D cy H locs ls C hZ hW hS hL => lv_aload_n C.1 C.2.1 h1 rfl (hL.2.2.2 _ _ hl) (k l p e s m args below meth c B S D cy H locs ls C hZ hW hS hL)
theorem g_aload {i : Nat} {x : Nat} (hd : Dc M.2.1 pc (.aload i) 2 pc') (hl : L[i]? = some (some (.ref x))) (k : Gd M d mc ms pc' L (.ref x :: st) hp nc ns P) : Gd M d mc ms pc L st hp nc ns P := by
  obtain ⟨h1, rfl⟩ := hd
  exact fun l p e s m args below meth c B S D cy H locs ls C hZ hW hS hL => lv_aload C.1 C.2.1 h1 (hL.2.2.2 _ _ hl) (k l p e s m args below meth c B S D cy H locs ls C hZ hW hS hL)
theorem g_dup {v : Value} (hd : Dc M.2.1 pc .dup 1 pc') (hc : v.category = 1) (k : Gd M d mc ms pc' L (v :: v :: st) hp nc ns P) : Gd M d mc ms pc L (v :: st) hp nc ns P := by
  obtain ⟨h1, rfl⟩ := hd
  exact fun l p e s m args below meth c B S D cy H locs ls C hZ hW hS hL => lv_dup C.1 C.2.1 h1 ((cv_cat B S v).trans hc) (k l p e s m args below meth c B S D cy H locs ls C hZ hW hS hL)
theorem g_dup2 {v w : Value} (hd : Dc M.2.1 pc .dup2 1 pc') (hc : v.category = 1) (hc2 : w.category = 1) (k : Gd M d mc ms pc' L (v :: w :: v :: w :: st) hp nc ns P) : Gd M d mc ms pc L (v :: w :: st) hp nc ns P := by
  obtain ⟨h1, rfl⟩ := hd
  exact fun l p e s m args below meth c B S D cy H locs ls C hZ hW hS hL => lv_dup2_11 C.1 C.2.1 h1 ((cv_cat B S v).trans hc) ((cv_cat B S w).trans hc2) (k l p e s m args below meth c B S D cy H locs ls C hZ hW hS hL)
abbrev Dq (cc : ByteArray) (pc : Nat) (i : Int → Instr) (tgt pc' : Nat) : Prop := decode cc pc = .ok (i ((tgt : Int) - (pc : Int)), 3) ∧ pc + 3 = pc'
theorem tgt_ok (pc tgt : Nat) : (pc : Int) + ((tgt : Int) - (pc : Int)) = (tgt : Int) := by omega
theorem g_if_eq {x : Int32} {tgt : Nat} (hd : Dq M.2.1 pc (.ifCond .eq) tgt pc') (kt : x = 0 → Gd M d mc ms tgt L st hp nc ns P) (kf : ¬ x = 0 → Gd M d mc ms pc' L st hp nc ns P) : Gd M d mc ms pc L (.int x :: st) hp nc ns P := by
  obtain ⟨h1, rfl⟩ := hd
  exact fun l p e s m args below meth c B S D cy H locs ls C hZ hW hS hL => lv_if_eq C.1 C.2.1 h1 (tgt_ok pc tgt) (fun q => kt q l p e s m args below meth c B S D cy H locs ls C hZ hW hS hL) (fun q => kf q l p e s m args below meth c B S D cy H locs ls C hZ hW hS hL)
theorem g_icmp_eq {x y : Int32} {tgt : Nat} (hd : Dq M.2.1 pc (.if_icmp .eq) tgt pc') (kt : x = y → Gd M d mc ms tgt L st hp nc ns P) (kf : ¬ x = y → Gd M d mc ms pc' L st hp nc ns P) : Gd M d mc ms pc L (.int y :: .int x :: st) hp nc ns P := by
  obtain ⟨h1, rfl⟩ := hd
  exact fun l p e s m args below meth c B S D cy H locs ls C hZ hW hS hL => lv_icmp_eq C.1 C.2.1 h1 (tgt_ok pc tgt) (fun q => kt q l p e s m args below meth c B S D cy H locs ls C hZ hW hS hL) (fun q => kf q l p e s m args below meth c B S D cy H locs ls C hZ hW hS hL)
theorem g_if_ne {x : Int32} {tgt : Nat} (hd : Dq M.2.1 pc (.ifCond .ne) tgt pc') (kt : ¬ x = 0 → Gd M d mc ms tgt L st hp nc ns P) (kf : x = 0 → Gd M d mc ms pc' L st hp nc ns P) : Gd M d mc ms pc L (.int x :: st) hp nc ns P := by
  obtain ⟨h1, rfl⟩ := hd
  exact fun l p e s m args below meth c B S D cy H locs ls C hZ hW hS hL => lv_if_ne C.1 C.2.1 h1 (tgt_ok pc tgt) (fun q => kt q l p e s m args below meth c B S D cy H locs ls C hZ hW hS hL) (fun q => kf q l p e s m args below meth c B S D cy H locs ls C hZ hW hS hL)
theorem g_icmp_ne {x y : Int32} {tgt : Nat} (hd : Dq M.2.1 pc (.if_icmp .ne) tgt pc') (kt : ¬ x = y → Gd M d mc ms tgt L st hp nc ns P) (kf : x = y → Gd M d mc ms pc' L st hp nc ns P) : Gd M d mc ms pc L (.int y :: .int x :: st) hp nc ns P := by
  obtain ⟨h1, rfl⟩ := hd
  exact fun l p e s m args below meth c B S D cy H locs ls C hZ hW hS hL => lv_icmp_ne C.1 C.2.1 h1 (tgt_ok pc tgt) (fun q => kt q l p e s m args below meth c B S D cy H locs ls C hZ hW hS hL) (fun q => kf q l p e s m args below meth c B S D cy H locs ls C hZ hW hS hL)
theorem g_if_lt {x : Int32} {tgt : Nat} (hd : Dq M.2.1 pc (.ifCond .lt) tgt pc') (kt : x < 0 → Gd M d mc ms tgt L st hp nc ns P) (kf : ¬ x < 0 → Gd M d mc ms pc' L st hp nc ns P) : Gd M d mc ms pc L (.int x :: st) hp nc ns P := by
  obtain ⟨h1, rfl⟩ := hd
  exact fun l p e s m args below meth c B S D cy H locs ls C hZ hW hS hL => lv_if_lt C.1 C.2.1 h1 (tgt_ok pc tgt) (fun q => kt q l p e s m args below meth c B S D cy H locs ls C hZ hW hS hL) (fun q => kf q l p e s m args below meth c B S D cy H locs ls C hZ hW hS hL)
theorem g_icmp_lt {x y : Int32} {tgt : Nat} (hd : Dq M.2.1 pc (.if_icmp .lt) tgt pc') (kt : x < y → Gd M d mc ms tgt L st hp nc ns P) (kf : ¬ x < y → Gd M d mc ms pc' L st hp nc ns P) : Gd M d mc ms pc L (.int y :: .int x :: st) hp nc ns P := by
  obtain ⟨h1, rfl⟩ := hd
  exact fun l p e s m args below meth c B S D cy H locs ls C hZ hW hS hL => lv_icmp_lt C.1 C.2.1 h1 (tgt_ok pc tgt) (fun q => kt q l p e s m args below meth c B S D cy H locs ls C hZ hW hS hL) (fun q => kf q l p e s m args below meth c B S D cy H locs ls C hZ hW hS hL)
theorem g_if_ge {x : Int32} {tgt : Nat} (hd : Dq M.2.1 pc (.ifCond .ge) tgt pc') (kt : 0 ≤ x → Gd M d mc ms tgt L st hp nc ns P) (kf : ¬ 0 ≤ x → Gd M d mc ms pc' L st hp nc ns P) : Gd M d mc ms pc L (.int x :: st) hp nc ns P := by
  obtain ⟨h1, rfl⟩ := hd
  exact fun l p e s m args below meth c B S D cy H locs ls C hZ hW hS hL => lv_if_ge C.1 C.2.1 h1 (tgt_ok pc tgt) (fun q => kt q l p e s m args below meth c B S D cy H locs ls C hZ hW hS hL) (fun q => kf q l p e s m args below meth c B S D cy H locs ls C hZ hW hS hL)
theorem g_icmp_ge {x y : Int32} {tgt : Nat} (hd : Dq M.2.1 pc (.if_icmp .ge) tgt pc') (kt : y ≤ x → Gd M d mc ms tgt L st hp nc ns P) (kf : ¬ y ≤ x → Gd M d mc ms pc' L st hp nc ns P) : Gd M d mc ms pc L (.int y :: .int x :: st) hp nc ns P := by
  obtain ⟨h1, rfl⟩ := hd
  exact fun l p e s m args below meth c B S D cy H locs ls C hZ hW hS hL => lv_icmp_ge C.1 C.2.1 h1 (tgt_ok pc tgt) (fun q => kt q l p e s m args below meth c B S D cy H locs ls C hZ hW hS hL) (fun q => kf q l p e s m args below meth c B S D cy H locs ls C hZ hW hS hL)
theorem g_if_gt {x : Int32} {tgt : Nat} (hd : Dq M.2.1 pc (.ifCond .gt) tgt pc') (kt : 0 < x → Gd M d mc ms tgt L st hp nc ns P) (kf : ¬ 0 < x → Gd M d mc ms pc' L st hp nc ns P) : Gd M d mc ms pc L (.int x :: st) hp nc ns P := by
  obtain ⟨h1, rfl⟩ := hd
  exact fun l p e s m args below meth c B S D cy H locs ls C hZ hW hS hL => lv_if_gt C.1 C.2.1 h1 (tgt_ok pc tgt) (fun q => kt q l p e s m args below meth c B S D cy H locs ls C hZ hW hS hL) (fun q => kf q l p e s m args below meth c B S D cy H locs ls C hZ hW hS hL)
theorem g_icmp_gt {x y : Int32} {tgt : Nat} (hd : Dq M.2.1 pc (.if_icmp .gt) tgt pc') (kt : y < x → Gd M d mc ms tgt L st hp nc ns P) (kf : ¬ y < x → Gd M d mc ms pc' L st hp nc ns P) : Gd M d mc ms pc L (.int y :: .int x :: st) hp nc ns P := by
  obtain ⟨h1, rfl⟩ := hd
  exact fun l p e s m args below meth c B S D cy H locs ls C hZ hW hS hL => lv_icmp_gt C.1 C.2.1 h1 (tgt_ok pc tgt) (fun q => kt q l p e s m args below meth c B S D cy H locs ls C hZ hW hS hL) (fun q => kf q l p e s m args below meth c B S D cy H locs ls C hZ hW hS hL)
theorem g_if_le {x : Int32} {tgt : Nat} (hd : Dq M.2.1 pc (.ifCond .le) tgt pc') (kt : x ≤ 0 → Gd M d mc ms tgt L st hp nc ns P) (kf : ¬ x ≤ 0 → Gd M d mc ms pc' L st hp nc ns P) : Gd M d mc ms pc L (.int x :: st) hp nc ns P := by
  obtain ⟨h1, rfl⟩ := hd
  exact fun l p e s m args below meth c B S D cy H locs ls C hZ hW hS hL => lv_if_le C.1 C.2.1 h1 (tgt_ok pc tgt) (fun q => kt q l p e s m args below meth c B S D cy H locs ls C hZ hW hS hL) (fun q => kf q l p e s m args below meth c B S D cy H locs ls C hZ hW hS hL)
theorem g_icmp_le {x y : Int32} {tgt : Nat} (hd : Dq M.2.1 pc (.if_icmp .le) tgt pc') (kt : x ≤ y → Gd M d mc ms tgt L st hp nc ns P) (kf : ¬ x ≤ y → Gd M d mc ms pc' L st hp nc ns P) : Gd M d mc ms pc L (.int y :: .int x :: st) hp nc ns P := by
  obtain ⟨h1, rfl⟩ := hd
  exact fun l p e s m args below meth c B S D cy H locs ls C hZ hW hS hL => lv_icmp_le C.1 C.2.1 h1 (tgt_ok pc tgt) (fun q => kt q l p e s m args below meth c B S D cy H locs ls C hZ hW hS hL) (fun q => kf q l p e s m args below meth c B S D cy H locs ls C hZ hW hS hL)
theorem g_goto {tgt : Nat} (hd : Dq M.2.1 pc .goto tgt pc') (k : Gd M d mc ms tgt L st hp nc ns P) : Gd M d mc ms pc L st hp nc ns P := by
  obtain ⟨h1, -⟩ := hd
  exact fun l p e s m args below meth c B S D cy H locs ls C hZ hW hS hL => lv_goto C.1 C.2.1 h1 (tgt_ok pc tgt) (k l p e s m args below meth c B S D cy H locs ls C hZ hW hS hL)
theorem g_tableIn {dflt lo hi off : Int} {offs : Array Int} {len tgt : Nat} {x : Int32} (hd : decode M.2.1 pc = .ok (.tableswitch dflt lo hi offs, len)) (h1 : ¬ x.toInt < lo) (h2 : ¬ hi < x.toInt) (ho : offs[(x.toInt - lo).toNat]? = some off) (ht : (pc : Int) + off = (tgt : Int)) (k : Gd M d mc ms tgt L st hp nc ns P) : Gd M d mc ms pc L (.int x :: st) hp nc ns P :=
  fun l p e s m args below meth c B S D cy H locs ls C hZ hW hS hL => lv_tableIn C.1 C.2.1 hd h1 h2 ho ht (k l p e s m args below meth c B S D cy H locs ls C hZ hW hS hL)
theorem g_tableOut {dflt lo hi : Int} {offs : Array Int} {len tgt : Nat} {x : Int32} (hd : decode M.2.1 pc = .ok (.tableswitch dflt lo hi offs, len)) (h : x.toInt < lo ∨ hi < x.toInt) (ht : (pc : Int) + dflt = (tgt : Int)) (k : Gd M d mc ms tgt L st hp nc ns P) : Gd M d mc ms pc L (.int x :: st) hp nc ns P :=
  fun l p e s m args below meth c B S D cy H locs ls C hZ hW hS hL => lv_tableOut C.1 C.2.1 hd h ht (k l p e s m args below meth c B S D cy H locs ls C hZ hW hS hL)
theorem g_lookup {dflt off : Int} {ps : Array (Int × Int)} {len tgt : Nat} {x : Int32} (hd : decode M.2.1 pc = .ok (.lookupswitch dflt ps, len)) (hp0 : (ps.toList.zip (ps.toList.drop 1)).all (fun (a, next) => a.1 < next.1) = true) (ho : Op.lookupswitch.offset ps.toList dflt x.toInt = off) (ht : (pc : Int) + off = (tgt : Int)) (k : Gd M d mc ms tgt L st hp nc ns P) : Gd M d mc ms pc L (.int x :: st) hp nc ns P :=
  fun l p e s m args below meth c B S D cy H locs ls C hZ hW hS hL => lv_lookup C.1 C.2.1 hd hp0 ho ht (k l p e s m args below meth c B S D cy H locs ls C hZ hW hS hL)
theorem g_ldc {i : Nat} {v : Int32} (hd : Dc M.2.1 pc (.ldc i) 2 pc') (hc : Cond.constant M.1.cls i v ∈ TT) (k : Gd M d mc ms pc' L (.int v :: st) hp nc ns P) : Gd M d mc ms pc L st hp nc ns P := by
  obtain ⟨h1, rfl⟩ := hd
  exact fun l p e s m args below meth c B S D cy H locs ls C hZ hW hS hL => lv_ldc C.1 C.2.1 C.2.2.2.2.1 (C.2.2.2.2.2.1 _ hc) h1 (k l p e s m args below meth c B S D cy H locs ls C hZ hW hS hL)
theorem g_ldcw {i : Nat} {v : Int32} (hd : Dc M.2.1 pc (.ldc_w i) 3 pc') (hc : Cond.constant M.1.cls i v ∈ TT) (k : Gd M d mc ms pc' L (.int v :: st) hp nc ns P) : Gd M d mc ms pc L st hp nc ns P := by
  obtain ⟨h1, rfl⟩ := hd
  exact fun l p e s m args below meth c B S D cy H locs ls C hZ hW hS hL => lv_ldcw C.1 C.2.1 C.2.2.2.2.1 (C.2.2.2.2.2.1 _ hc) h1 (k l p e s m args below meth c B S D cy H locs ls C hZ hW hS hL)
theorem g_ldc2 {i : Nat} {v : Int64} (hd : Dc M.2.1 pc (.ldc2_w i) 3 pc') (hc : Cond.constantLong M.1.cls i v ∈ TT) (k : Gd M d mc ms pc' L (.long v :: st) hp nc ns P) : Gd M d mc ms pc L st hp nc ns P := by
  obtain ⟨h1, rfl⟩ := hd
  exact fun l p e s m args below meth c B S D cy H locs ls C hZ hW hS hL => lv_ldc2 C.1 C.2.1 C.2.2.2.2.1 (C.2.2.2.2.2.1 _ hc) h1 (k l p e s m args below meth c B S D cy H locs ls C hZ hW hS hL)
/-- no long lies just below a place -/
def nlong (L : List (Option Value)) (i : Nat) : Bool := match i with
  | 0 => true
  | i + 1 => match L[i]? with
    | some (some v) => v.category != 2
    | _ => true
def prL (B : Nat) (S : Nat → Nat) (L : List (Option Value)) : List (Nat × Value) := (List.range L.length).filterMap (fun i => match L[i]? with
  | some (some v) => some (i, cv B S v)
  | _ => none)
theorem prL_in {B : Nat} {S : Nat → Nat} {L : List (Option Value)} {i : Nat} {v : Value} (h : L[i]? = some (some v)) : (i, cv B S v) ∈ prL B S L := by
  refine List.mem_filterMap.mpr ⟨i, List.mem_range.mpr (List.getElem?_eq_some_iff.mp h).1, ?_⟩
  rw [h]
theorem prL_has {M : Meth} {B : Nat} {S : Nat → Nat} {ls : Array Slot} {L : List (Option Value)} (h : Lh M B S ls L) : lv_has ls M.2.2.1 (prL B S L) := by
  refine ⟨h.1, h.2.2.1, fun q hq => ?_⟩
  obtain ⟨i, -, hi⟩ := List.mem_filterMap.mp hq
  cases hL : L[i]? with
  | none => rw [hL] at hi; cases hi
  | some o =>
    cases o with
    | none => rw [hL] at hi; cases hi
    | some v =>
      rw [hL] at hi
      cases hi
      exact h.2.2.2 i v hL
theorem lh_set1 {M : Meth} {B : Nat} {S : Nat → Nat} {ls : Array Slot} {L : List (Option Value)} {i : Nat} {v : Value} (hl : L.length = M.2.2.1) (hn : nlong L i = true) (h : lv_has ls M.2.2.1 ((i, cv B S v) :: (prL B S L).filter (fun q => !(q.1 == i) && !(q.1 + 1 == i && q.2.category == 2)))) : Lh M B S ls (L.set i (some v)) := by
  refine ⟨h.1, by rw [List.length_set]; exact hl, h.2.1, fun j w hj => ?_⟩
  by_cases hij : i = j
  · subst hij
    have hlt : i < L.length := by
      have := (List.getElem?_eq_some_iff.mp hj).1
      rw [List.length_set] at this
      exact this
    rw [List.getElem?_set_self hlt] at hj
    cases hj
    exact h.2.2 (i, cv B S v) List.mem_cons_self
  · rw [List.getElem?_set_ne hij] at hj
    refine h.2.2 (j, cv B S w) (List.mem_cons_of_mem _ (List.mem_filter.mpr ⟨prL_in hj, ?_⟩))
    have e1 : (j == i) = false := by simp; omega
    have e2 : (j + 1 == i && (cv B S w).category == 2) = false := by
      rw [cv_cat]
      by_cases hj1 : j + 1 = i
      · subst hj1
        simp only [nlong, hj] at hn
        simpa using hn
      · have : (j + 1 == i) = false := by simpa using hj1
        rw [this]
        rfl
    show (!(j == i) && !(j + 1 == i && (cv B S w).category == 2)) = true
    rw [e1, e2]
    rfl
theorem lh_set2 {M : Meth} {B : Nat} {S : Nat → Nat} {ls : Array Slot} {L : List (Option Value)} {i : Nat} {v : Value} (hl : L.length = M.2.2.1) (hn : nlong L i = true) (hi : i + 1 < M.2.2.1) (h : lv_has ls M.2.2.1 ((i, cv B S v) :: (prL B S L).filter (fun q => !(q.1 == i) && (!(q.1 == i + 1) && !(q.1 + 1 == i && q.2.category == 2))))) : Lh M B S ls ((L.set i (some v)).set (i + 1) none) := by
  refine ⟨h.1, by rw [List.length_set, List.length_set]; exact hl, h.2.1, fun j w hj => ?_⟩
  by_cases h2 : i + 1 = j
  · subst h2
    rw [List.getElem?_set_self (by rw [List.length_set, hl]; exact hi)] at hj
    cases hj
  · rw [List.getElem?_set_ne h2] at hj
    by_cases hij : i = j
    · subst hij
      rw [List.getElem?_set_self (by omega)] at hj
      cases hj
      exact h.2.2 (i, cv B S v) List.mem_cons_self
    · rw [List.getElem?_set_ne hij] at hj
      refine h.2.2 (j, cv B S w) (List.mem_cons_of_mem _ (List.mem_filter.mpr ⟨prL_in hj, ?_⟩))
      have e1 : (j == i) = false := by simp; omega
      have e3 : (j == i + 1) = false := by simp; omega
      have e2 : (j + 1 == i && (cv B S w).category == 2) = false := by
        rw [cv_cat]
        by_cases hj1 : j + 1 = i
        · subst hj1
          simp only [nlong, hj] at hn
          simpa using hn
        · have : (j + 1 == i) = false := by simpa using hj1
          rw [this]
          rfl
      show (!(j == i) && (!(j == i + 1) && !(j + 1 == i && (cv B S w).category == 2))) = true
      rw [e1, e2, e3]
      rfl
theorem Nat.lt_of_ble_eq_true' {a b : Nat} (h : Nat.ble (a + 1) b = true) : a < b := Nat.le_of_ble_eq_true h
theorem g_istore_n {i : Fin 4} {x : Int32} (hd : Dc M.2.1 pc (.istore_n i) 1 pc') (hi : Nat.ble ((i : Nat) + 1) M.2.2.1 = true) (hn : nlong L i = true) (k : Gd M d mc ms pc' (L.set i (some (.int x))) st hp nc ns P) : Gd M d mc ms pc L (.int x :: st) hp nc ns P := by
  obtain ⟨h1, rfl⟩ := hd
  exact fun l p e s m args below meth c B S D cy H locs ls C hZ hW hS hL => lv_istore_n C.1 C.2.1 h1 rfl (prL_has hL) (Nat.lt_of_ble_eq_true' hi) rfl (fun ls' h' => k l p e s m args below meth c B S D cy H locs ls' C hZ hW hS (lh_set1 hL.2.1 hn h'))
theorem g_istore {i : Nat} {x : Int32} (hd : Dc M.2.1 pc (.istore i) 2 pc') (hi : Nat.ble (i + 1) M.2.2.1 = true) (hn : nlong L i = true) (k : Gd M d mc ms pc' (L.set i (some (.int x))) st hp nc ns P) : Gd M d mc ms pc L (.int x :: st) hp nc ns P := by
  obtain ⟨h1, rfl⟩ := hd
  exact fun l p e s m args below meth c B S D cy H locs ls C hZ hW hS hL => lv_istore C.1 C.2.1 h1 (prL_has hL) (Nat.lt_of_ble_eq_true' hi) rfl (fun ls' h' => k l p e s m args below meth c B S D cy H locs ls' C hZ hW hS (lh_set1 hL.2.1 hn h'))
theorem g_astore_n {i : Fin 4} {x : Nat} (hd : Dc M.2.1 pc (.astore_n i) 1 pc') (hi : Nat.ble ((i : Nat) + 1) M.2.2.1 = true) (hn : nlong L i = true) (k : Gd M d mc ms pc' (L.set i (some (.ref x))) st hp nc ns P) : Gd M d mc ms pc L (.ref x :: st) hp nc ns P := by
  obtain ⟨h1, rfl⟩ := hd
  exact fun l p e s m args below meth c B S D cy H locs ls C hZ hW hS hL => lv_astore_n C.1 C.2.1 h1 rfl (prL_has hL) (Nat.lt_of_ble_eq_true' hi) rfl (fun ls' h' => k l p e s m args below meth c B S D cy H locs ls' C hZ hW hS (lh_set1 hL.2.1 hn h'))
theorem g_astore {i : Nat} {x : Nat} (hd : Dc M.2.1 pc (.astore i) 2 pc') (hi : Nat.ble (i + 1) M.2.2.1 = true) (hn : nlong L i = true) (k : Gd M d mc ms pc' (L.set i (some (.ref x))) st hp nc ns P) : Gd M d mc ms pc L (.ref x :: st) hp nc ns P := by
  obtain ⟨h1, rfl⟩ := hd
  exact fun l p e s m args below meth c B S D cy H locs ls C hZ hW hS hL => lv_astore C.1 C.2.1 h1 (prL_has hL) (Nat.lt_of_ble_eq_true' hi) rfl (fun ls' h' => k l p e s m args below meth c B S D cy H locs ls' C hZ hW hS (lh_set1 hL.2.1 hn h'))
theorem g_lstore_n {i : Fin 4} {x : Int64} (hd : Dc M.2.1 pc (.lstore_n i) 1 pc') (hi : Nat.ble ((i : Nat) + 1 + 1) M.2.2.1 = true) (hn : nlong L i = true) (k : Gd M d mc ms pc' ((L.set i (some (.long x))).set (i + 1) none) st hp nc ns P) : Gd M d mc ms pc L (.long x :: st) hp nc ns P := by
  obtain ⟨h1, rfl⟩ := hd
  exact fun l p e s m args below meth c B S D cy H locs ls C hZ hW hS hL => lv_lstore_n C.1 C.2.1 h1 rfl (prL_has hL) (Nat.lt_of_ble_eq_true' hi) rfl (fun ls' h' => k l p e s m args below meth c B S D cy H locs ls' C hZ hW hS (lh_set2 hL.2.1 hn (Nat.lt_of_ble_eq_true' hi) h'))
theorem g_lstore {i : Nat} {x : Int64} (hd : Dc M.2.1 pc (.lstore i) 2 pc') (hi : Nat.ble (i + 1 + 1) M.2.2.1 = true) (hn : nlong L i = true) (k : Gd M d mc ms pc' ((L.set i (some (.long x))).set (i + 1) none) st hp nc ns P) : Gd M d mc ms pc L (.long x :: st) hp nc ns P := by
  obtain ⟨h1, rfl⟩ := hd
  exact fun l p e s m args below meth c B S D cy H locs ls C hZ hW hS hL => lv_lstore C.1 C.2.1 h1 (prL_has hL) (Nat.lt_of_ble_eq_true' hi) rfl (fun ls' h' => k l p e s m args below meth c B S D cy H locs ls' C hZ hW hS (lh_set2 hL.2.1 hn (Nat.lt_of_ble_eq_true' hi) h'))
theorem g_iinc {i : Nat} {n : Int} {x v : Int32} (hd : Dc M.2.1 pc (.iinc i n) 3 pc') (hi : Nat.ble (i + 1) M.2.2.1 = true) (hn : nlong L i = true) (hl : L[i]? = some (some (.int x))) (hv : x + Int32.ofInt n = v) (k : Gd M d mc ms pc' (L.set i (some (.int v))) st hp nc ns P) : Gd M d mc ms pc L st hp nc ns P := by
  obtain ⟨h1, rfl⟩ := hd
  refine fun l p e s m args below meth c B S D cy H locs ls C hZ hW hS hL => ?_
  obtain ⟨kk, hk⟩ := List.getElem?_of_mem (prL_in (B := B) (S := S) hl)
  exact lv_iinc C.1 C.2.1 h1 (prL_has hL) hk hv (Nat.lt_of_ble_eq_true' hi) rfl (fun ls' h' => k l p e s m args below meth c B S D cy H locs ls' C hZ hW hS (lh_set1 (v := .int v) hL.2.1 hn h'))
theorem g_iret {x : Int32} (hd : Dc M.2.1 pc .ireturn 1 pc') (hr : M.2.2.2 = some .int) (h1 : nc ≤ mc) (h2 : ns ≤ ms) (hP : P (some (.int x)) hp) : Gd M d mc ms pc L [.int x] hp nc ns P := by
  refine fun l p e s m args below meth c B S D cy H locs ls C hZ hW hS hL => ?_
  refine W.widen h1 h2 ?_
  exact W.iret C.1 C.2.1 (C.2.2.1.trans hr) (fun t ht hWm => ⟨⟨some (.int x), hp, rfl, hP, hW.1, by rw [ht]; exact hW.2.1, va_K.moved hWm.alike hW.2.2⟩, hS.F ht⟩) hS.2.2 hd.1 C.2.2.2.2.2.2.1
theorem g_zret {x : Int32} (hd : Dc M.2.1 pc .ireturn 1 pc') (hr : M.2.2.2 = some .boolean) (hx : narrow .boolean (.int x) = .int x) (h1 : nc ≤ mc) (h2 : ns ≤ ms) (hP : P (some (.int x)) hp) : Gd M d mc ms pc L [.int x] hp nc ns P := by
  refine fun l p e s m args below meth c B S D cy H locs ls C hZ hW hS hL => ?_
  refine W.widen h1 h2 ?_
  exact W.zret C.1 C.2.1 (C.2.2.1.trans hr) hx (fun t ht hWm => ⟨⟨some (.int x), hp, rfl, hP, hW.1, by rw [ht]; exact hW.2.1, va_K.moved hWm.alike hW.2.2⟩, hS.F ht⟩) hS.2.2 hd.1 C.2.2.2.2.2.2.1
theorem g_lret {x : Int64} (hd : Dc M.2.1 pc .lreturn 1 pc') (hr : M.2.2.2 = some .long) (h1 : nc ≤ mc) (h2 : ns ≤ ms) (hP : P (some (.long x)) hp) : Gd M d mc ms pc L [.long x] hp nc ns P := by
  refine fun l p e s m args below meth c B S D cy H locs ls C hZ hW hS hL => ?_
  refine W.widen h1 h2 ?_
  exact W.lret C.1 C.2.1 (C.2.2.1.trans hr) (fun t ht hWm => ⟨⟨some (.long x), hp, rfl, hP, hW.1, by rw [ht]; exact hW.2.1, va_K.moved hWm.alike hW.2.2⟩, hS.F ht⟩) hS.2.2 hd.1 C.2.2.2.2.2.2.1
theorem g_aret {x : Nat} {rt : FieldType} (hd : Dc M.2.1 pc .areturn 1 pc') (hr : M.2.2.2 = some rt) (hrt : (∃ n, rt = .object n) ∨ ∃ t, rt = .array t) (h1 : nc ≤ mc) (h2 : ns ≤ ms) (hP : P (some (.ref x)) hp) : Gd M d mc ms pc L [.ref x] hp nc ns P := by
  refine fun l p e s m args below meth c B S D cy H locs ls C hZ hW hS hL => ?_
  refine W.widen h1 h2 ?_
  exact W.aret C.1 C.2.1 (C.2.2.1.trans hr) hrt (Or.inr ⟨_, rfl⟩) (fun t ht hWm => ⟨⟨some (.ref x), hp, rfl, hP, hW.1, by rw [ht]; exact hW.2.1, va_K.moved hWm.alike hW.2.2⟩, hS.F ht⟩) hS.2.2 hd.1 C.2.2.2.2.2.2.1
theorem g_vret (hd : Dc M.2.1 pc .return_ 1 pc') (hr : M.2.2.2 = none) (h1 : nc ≤ mc) (h2 : ns ≤ ms) (hP : P none hp) : Gd M d mc ms pc L [] hp nc ns P := by
  refine fun l p e s m args below meth c B S D cy H locs ls C hZ hW hS hL => ?_
  refine W.widen h1 h2 ?_
  exact W.vret C.1 C.2.1 (C.2.2.1.trans hr) (fun t ht hWm => ⟨⟨none, hp, rfl, hP, hW.1, by rw [ht]; exact hW.2.1, va_K.moved hWm.alike hW.2.2⟩, hS.F ht⟩) hS.2.2 hd.1 C.2.2.2.2.2.2.1
end Rules
end
section
theorem ciw0 : ∀ w ∈ u_ws RX0 TX0 3, w ∈ TT := fun w hw => by
  obtain ⟨k, hk, rfl⟩ := List.mem_map.mp hw
  have hk := List.mem_range.mp hk
  match k, hk with
  | 0, _ => exact tt_of 237 (by decide +kernel) rfl
  | 1, _ => exact tt_of 239 (by decide +kernel) rfl
  | 2, _ => exact tt_of 241 (by decide +kernel) rfl
  | k + 3, h => exact absurd h (by omega)
theorem ciw1 : ∀ w ∈ u_ws RX1 TX1 2, w ∈ TT := fun w hw => by
  obtain ⟨k, hk, rfl⟩ := List.mem_map.mp hw
  have hk := List.mem_range.mp hk
  match k, hk with
  | 0, _ => exact tt_of 278 (by decide +kernel) rfl
  | 1, _ => exact tt_of 280 (by decide +kernel) rfl
  | k + 2, h => exact absurd h (by omega)
theorem ciw2 : ∀ w ∈ u_ws RX2 TX2 16, w ∈ TT := fun w hw => by
  obtain ⟨k, hk, rfl⟩ := List.mem_map.mp hw
  have hk := List.mem_range.mp hk
  match k, hk with
  | 0, _ => exact tt_of 191 (by decide +kernel) rfl
  | 1, _ => exact tt_of 193 (by decide +kernel) rfl
  | 2, _ => exact tt_of 195 (by decide +kernel) rfl
  | 3, _ => exact tt_of 197 (by decide +kernel) rfl
  | 4, _ => exact tt_of 199 (by decide +kernel) rfl
  | 5, _ => exact tt_of 201 (by decide +kernel) rfl
  | 6, _ => exact tt_of 203 (by decide +kernel) rfl
  | 7, _ => exact tt_of 205 (by decide +kernel) rfl
  | 8, _ => exact tt_of 207 (by decide +kernel) rfl
  | 9, _ => exact tt_of 209 (by decide +kernel) rfl
  | 10, _ => exact tt_of 211 (by decide +kernel) rfl
  | 11, _ => exact tt_of 213 (by decide +kernel) rfl
  | 12, _ => exact tt_of 215 (by decide +kernel) rfl
  | 13, _ => exact tt_of 217 (by decide +kernel) rfl
  | 14, _ => exact tt_of 219 (by decide +kernel) rfl
  | 15, _ => exact tt_of 221 (by decide +kernel) rfl
  | k + 16, h => exact absurd h (by omega)
theorem ciw3 : ∀ w ∈ u_ws RX3 TX3 5, w ∈ TT := fun w hw => by
  obtain ⟨k, hk, rfl⟩ := List.mem_map.mp hw
  have hk := List.mem_range.mp hk
  match k, hk with
  | 0, _ => exact tt_of 257 (by decide +kernel) rfl
  | 1, _ => exact tt_of 259 (by decide +kernel) rfl
  | 2, _ => exact tt_of 261 (by decide +kernel) rfl
  | 3, _ => exact tt_of 263 (by decide +kernel) rfl
  | 4, _ => exact tt_of 265 (by decide +kernel) rfl
  | k + 5, h => exact absurd h (by omega)
theorem ciw4 : ∀ w ∈ u_ws RX4 TX4 3, w ∈ TT := fun w hw => by
  obtain ⟨k, hk, rfl⟩ := List.mem_map.mp hw
  have hk := List.mem_range.mp hk
  match k, hk with
  | 0, _ => exact tt_of 108 (by decide +kernel) rfl
  | 1, _ => exact tt_of 110 (by decide +kernel) rfl
  | 2, _ => exact tt_of 112 (by decide +kernel) rfl
  | k + 3, h => exact absurd h (by omega)
theorem ciw5 : ∀ w ∈ u_ws RX5 TX5 7, w ∈ TT := fun w hw => by
  obtain ⟨k, hk, rfl⟩ := List.mem_map.mp hw
  have hk := List.mem_range.mp hk
  match k, hk with
  | 0, _ => exact tt_of 132 (by decide +kernel) rfl
  | 1, _ => exact tt_of 134 (by decide +kernel) rfl
  | 2, _ => exact tt_of 136 (by decide +kernel) rfl
  | 3, _ => exact tt_of 138 (by decide +kernel) rfl
  | 4, _ => exact tt_of 140 (by decide +kernel) rfl
  | 5, _ => exact tt_of 142 (by decide +kernel) rfl
  | 6, _ => exact tt_of 144 (by decide +kernel) rfl
  | k + 7, h => exact absurd h (by omega)
theorem ciw6 : ∀ w ∈ u_ws RX6 TX6 10, w ∈ TT := fun w hw => by
  obtain ⟨k, hk, rfl⟩ := List.mem_map.mp hw
  have hk := List.mem_range.mp hk
  match k, hk with
  | 0, _ => exact tt_of 293 (by decide +kernel) rfl
  | 1, _ => exact tt_of 295 (by decide +kernel) rfl
  | 2, _ => exact tt_of 297 (by decide +kernel) rfl
  | 3, _ => exact tt_of 299 (by decide +kernel) rfl
  | 4, _ => exact tt_of 301 (by decide +kernel) rfl
  | 5, _ => exact tt_of 303 (by decide +kernel) rfl
  | 6, _ => exact tt_of 305 (by decide +kernel) rfl
  | 7, _ => exact tt_of 307 (by decide +kernel) rfl
  | 8, _ => exact tt_of 309 (by decide +kernel) rfl
  | 9, _ => exact tt_of 311 (by decide +kernel) rfl
  | k + 10, h => exact absurd h (by omega)
theorem ciw7 : ∀ w ∈ u_ws RX7 TX7 30, w ∈ TT := fun w hw => by
  obtain ⟨k, hk, rfl⟩ := List.mem_map.mp hw
  have hk := List.mem_range.mp hk
  match k, hk with
  | 0, _ => exact tt_of 882 (by decide +kernel) rfl
  | 1, _ => exact tt_of 884 (by decide +kernel) rfl
  | 2, _ => exact tt_of 886 (by decide +kernel) rfl
  | 3, _ => exact tt_of 888 (by decide +kernel) rfl
  | 4, _ => exact tt_of 890 (by decide +kernel) rfl
  | 5, _ => exact tt_of 892 (by decide +kernel) rfl
  | 6, _ => exact tt_of 894 (by decide +kernel) rfl
  | 7, _ => exact tt_of 896 (by decide +kernel) rfl
  | 8, _ => exact tt_of 898 (by decide +kernel) rfl
  | 9, _ => exact tt_of 900 (by decide +kernel) rfl
  | 10, _ => exact tt_of 902 (by decide +kernel) rfl
  | 11, _ => exact tt_of 904 (by decide +kernel) rfl
  | 12, _ => exact tt_of 906 (by decide +kernel) rfl
  | 13, _ => exact tt_of 908 (by decide +kernel) rfl
  | 14, _ => exact tt_of 910 (by decide +kernel) rfl
  | 15, _ => exact tt_of 912 (by decide +kernel) rfl
  | 16, _ => exact tt_of 914 (by decide +kernel) rfl
  | 17, _ => exact tt_of 916 (by decide +kernel) rfl
  | 18, _ => exact tt_of 918 (by decide +kernel) rfl
  | 19, _ => exact tt_of 920 (by decide +kernel) rfl
  | 20, _ => exact tt_of 922 (by decide +kernel) rfl
  | 21, _ => exact tt_of 924 (by decide +kernel) rfl
  | 22, _ => exact tt_of 926 (by decide +kernel) rfl
  | 23, _ => exact tt_of 928 (by decide +kernel) rfl
  | 24, _ => exact tt_of 930 (by decide +kernel) rfl
  | 25, _ => exact tt_of 932 (by decide +kernel) rfl
  | 26, _ => exact tt_of 934 (by decide +kernel) rfl
  | 27, _ => exact tt_of 936 (by decide +kernel) rfl
  | 28, _ => exact tt_of 938 (by decide +kernel) rfl
  | 29, _ => exact tt_of 940 (by decide +kernel) rfl
  | k + 30, h => exact absurd h (by omega)
def CI (ci : Nat) (C : String) (T : u_T) (N : Nat) : Prop := vwCl[ci]? = some (C, T, N) ∧ ci < 8 ∧ (∀ w ∈ u_ws C T N, w ∈ TT) ∧ (∃ ty0 : Nat → FieldType, ∀ k, k < N → parseFieldDescriptor (T k).2.2.1 = some (ty0 k)) ∧ ∀ a, a < N → ∀ b, b < N → a ≠ b → (T a).2.1 ≠ (T b).2.1
theorem ci0 : CI 0 RX0 TX0 3 := ⟨rfl, by decide, ciw0, ⟨tyX0, tyX0_ok⟩, nmX0⟩
theorem ci1 : CI 1 RX1 TX1 2 := ⟨rfl, by decide, ciw1, ⟨tyX1, tyX1_ok⟩, nmX1⟩
theorem ci2 : CI 2 RX2 TX2 16 := ⟨rfl, by decide, ciw2, ⟨tyX2, tyX2_ok⟩, nmX2⟩
theorem ci3 : CI 3 RX3 TX3 5 := ⟨rfl, by decide, ciw3, ⟨tyX3, tyX3_ok⟩, nmX3⟩
theorem ci4 : CI 4 RX4 TX4 3 := ⟨rfl, by decide, ciw4, ⟨tyX4, tyX4_ok⟩, nmX4⟩
theorem ci5 : CI 5 RX5 TX5 7 := ⟨rfl, by decide, ciw5, ⟨tyX5, tyX5_ok⟩, nmX5⟩
theorem ci6 : CI 6 RX6 TX6 10 := ⟨rfl, by decide, ciw6, ⟨tyX6, tyX6_ok⟩, nmX6⟩
theorem ci7 : CI 7 RX7 TX7 30 := ⟨rfl, by decide, ciw7, ⟨tyX7, tyX7_ok⟩, nmX7⟩
/-- a field that an instruction of a class names: its class, its place, whether it is final, its type -/
def FL (own : String) (idx ci k : Nat) (fin : Bool) (ty : FieldType) : Prop := ∃ (C : String) (T : u_T) (N : Nat), CI ci C T N ∧ k < N ∧ (T k).1 = C ∧ Cond.fieldLink own idx C (T k).2.1 (T k).2.2.1 ∈ TT ∧ (T k).2.2.2 = fin ∧ parseFieldDescriptor (T k).2.2.1 = some ty
section Rules
variable {M : Meth} {d mc ms pc pc' : Nat} {L : List (Option Value)} {st : List Value} {hp : Hp} {nc ns : Nat} {P : Option Value → Hp → Prop}
theorem stk_ref {B : Nat} {S : Nat → Nat} {o : Nat} (h : o < 1000000) : cv B S (.ref o) = .ref (B + o) := by
  show Value.ref (ad B S o) = _
  rw [ad_lt h]
theorem ce_obj {B : Nat} {S : Nat → Nat} {cy : Nat → ClassId} {ci : Nat} {vs : List Value} (h : ci < 8) : ce B S cy (ci, vs) = .inr (ci, vs.map (cv B S)) := if_pos h
theorem ce_int {B : Nat} {S : Nat → Nat} {cy : Nat → ClassId} {t : Nat} {vs : List Value} (h : ¬ t < 8) (h2 : t < 10) : ce B S cy (t, vs) = .inl (cy t, vs.length, .inl (fun j => iv (vs.getD j .null))) := by
  unfold ce
  rw [if_neg h, if_pos h2]
theorem ce_ref {B : Nat} {S : Nat → Nat} {cy : Nat → ClassId} {t : Nat} {vs : List Value} (h : ¬ t < 10) : ce B S cy (t, vs) = .inl (cy t, vs.length, .inr (.inr (.inr (.inr (fun j => rv B S (vs.getD j .null)))))) := by
  unfold ce
  rw [if_neg (by omega), if_neg h]
theorem wd_lt {B : Nat} {S : Nat → Nat} {D : va_G} {cy : Nat → ClassId} {U : State} {H : Heap} {o : Nat} {q : Nat × List Value} (hW : Wd B S D cy hp U H) (ho : hp[o]? = some q) : o < 1000000 := Nat.lt_of_lt_of_le (List.getElem?_eq_some_iff.mp ho).1 hW.1
theorem g_get {idx ci kf o : Nat} {fin : Bool} {ty : FieldType} {vs : List Value} {v : Value} (hd : Dc M.2.1 pc (.getfield idx) 3 pc') (hf : FL M.1.cls idx ci kf fin ty) (ho : hp[o]? = some (ci, vs)) (hv : vs[kf]? = some v) (k : Gd M d mc ms pc' L (v :: st) hp nc ns P) : Gd M d mc ms pc L (.ref o :: st) hp nc ns P := by
  obtain ⟨h1, rfl⟩ := hd
  obtain ⟨CC, TC, N, ⟨hcl, hci, hin, -, -⟩, hk, hdec, hlk, -, -⟩ := hf
  refine fun l p e s m args below meth c B S D cy H locs ls C hZ hW hS hL => ?_
  rw [List.map_cons, stk_ref (wd_lt hW ho)]
  refine va_get (C := CC) (T := TC) (N := N) C.1 C.2.1 C.2.2.2.2.2.1 hin C.2.2.2.2.1 hW.2.2 hW.2.1 o ((wO_at ho).trans (by rw [ce_obj hci])) hcl kf hk (C.2.2.2.2.2.1 _ hlk) (fun x hx => by rw [← hdec]; exact hx) (v := cv B S v) (by rw [List.getElem?_map, hv]; rfl) h1 ?_
  exact k l p e s m args below meth c B S D cy H locs ls C hZ hW hS hL
theorem g_put {idx ci kf o : Nat} {ty : FieldType} {vs : List Value} {v : Value} (hd : Dc M.2.1 pc (.putfield idx) 3 pc') (hf : FL M.1.cls idx ci kf false ty) (ho : hp[o]? = some (ci, vs)) (hv : kf < vs.length) (hn : ∀ (B : Nat) (S : Nat → Nat), narrow ty (cv B S v) = cv B S v ∧ fits ty (cv B S v) = true) (k : Gd M d mc ms pc' L st (hp.set o (ci, vs.set kf v)) nc ns P) : Gd M d mc ms pc L (v :: .ref o :: st) hp nc ns P := by
  obtain ⟨h1, rfl⟩ := hd
  obtain ⟨CC, TC, N, ⟨hcl, hci, hin, ⟨ty0, hty⟩, hnm⟩, hk, hdec, hlk, hfin, hdd⟩ := hf
  refine fun l p e s m args below meth c B S D cy H locs ls C hZ hW hS hL => ?_
  rw [List.map_cons, List.map_cons, stk_ref (wd_lt hW ho)]
  refine va_put (C := CC) (T := TC) (N := N) C.1 C.2.1 C.2.2.2.2.2.1 hin ty0 hty hnm C.2.2.2.2.1 hW.2.2 hW.2.1 wO_D hS o ((wO_at ho).trans (by rw [ce_obj hci])) hcl kf hk (C.2.2.2.2.2.1 _ hlk) (fun x hx => by rw [← hdec]; exact hx) hfin hdd (hn B S).1 (hn B S).2 (by rw [List.length_map]; exact hv) h1 (fun H1 locs1 hP1 hD1 hS1 => ?_)
  have e0 : (wO B S cy hp).set o (B + o, .inr (ci, (vs.map (cv B S)).set kf (cv B S v))) = wO B S cy (hp.set o (ci, vs.set kf v)) := by
    rw [← wO_set, ce_obj hci, List.map_set]
  rw [e0] at hP1
  exact k l p e s m args below meth c B S D cy H1 locs1 ls C (by rw [List.length_set]; exact hZ) ⟨by rw [List.length_set]; exact hW.1, hP1, hW.2.2⟩ hS1 hL
end Rules
end
section
section Rules
variable {M : Meth} {d mc ms pc pc' : Nat} {L : List (Option Value)} {st : List Value} {hp : Hp} {nc ns : Nat} {P : Option Value → Hp → Prop}
theorem in_of {i : Int32} {vs : List Value} {v : Value} (h0 : ¬ i < 0) (hv : vs[i.toNatClampNeg]? = some v) : vp_in i vs.length := by
  intro h
  rcases h with h | h
  · exact h0 h
  · exact absurd (List.getElem?_eq_some_iff.mp hv).1 (by omega)
theorem getD_of {vs : List Value} {j : Nat} {v : Value} (hv : vs[j]? = some v) : vs.getD j .null = v := by
  rw [List.getD_eq_getElem?_getD, hv]
  rfl
theorem upd_set {vs : List Value} {j : Nat} (x : Int32) (hj : j < vs.length) : (fun q => iv ((vs.set j (.int x)).getD q .null)) = upd (fun q => iv (vs.getD q .null)) j x := by
  funext q
  unfold upd
  by_cases h : q = j
  · subst h
    rw [if_pos rfl, List.getD_eq_getElem?_getD, List.getElem?_set_self hj]
    rfl
  · rw [if_neg h, List.getD_eq_getElem?_getD, List.getElem?_set_ne (fun e => h e.symm), ← List.getD_eq_getElem?_getD]
theorem g_iald {o : Nat} {i x : Int32} {vs : List Value} (hd : Dc M.2.1 pc .iaload 1 pc') (ho : hp[o]? = some (8, vs)) (h0 : ¬ i < 0) (hv : vs[i.toNatClampNeg]? = some (.int x)) (k : Gd M d mc ms pc' L (.int x :: st) hp nc ns P) : Gd M d mc ms pc L (.int i :: .ref o :: st) hp nc ns P := by
  obtain ⟨h1, rfl⟩ := hd
  refine fun l p e s m args below meth c B S D cy H locs ls C hZ hW hS hL => ?_
  rw [List.map_cons, List.map_cons, stk_ref (wd_lt hW ho)]
  refine va_iald C.1 C.2.1 hW.2.2 hW.2.1 o 0 ((wO_at ho).trans (by rw [ce_int (by decide) (by decide)])) rfl (in_of h0 hv) h1 ?_
  have e0 : iv (vs.getD i.toNatClampNeg .null) = x := by rw [getD_of hv]; rfl
  rw [e0]
  exact k l p e s m args below meth c B S D cy H locs ls C hZ hW hS hL
theorem g_zald {o : Nat} {i x : Int32} {vs : List Value} (hd : Dc M.2.1 pc .baload 1 pc') (ho : hp[o]? = some (9, vs)) (h0 : ¬ i < 0) (hv : vs[i.toNatClampNeg]? = some (.int x)) (k : Gd M d mc ms pc' L (.int x :: st) hp nc ns P) : Gd M d mc ms pc L (.int i :: .ref o :: st) hp nc ns P := by
  obtain ⟨h1, rfl⟩ := hd
  refine fun l p e s m args below meth c B S D cy H locs ls C hZ hW hS hL => ?_
  rw [List.map_cons, List.map_cons, stk_ref (wd_lt hW ho)]
  refine va_zald C.1 C.2.1 hW.2.2 hW.2.1 o 1 ((wO_at ho).trans (by rw [ce_int (by decide) (by decide)])) rfl (in_of h0 hv) h1 ?_
  have e0 : iv (vs.getD i.toNatClampNeg .null) = x := by rw [getD_of hv]; rfl
  rw [e0]
  exact k l p e s m args below meth c B S D cy H locs ls C hZ hW hS hL
theorem g_iast {o : Nat} {i x : Int32} {vs : List Value} (hd : Dc M.2.1 pc .iastore 1 pc') (ho : hp[o]? = some (8, vs)) (h0 : vp_in i vs.length) (k : Gd M d mc ms pc' L st (hp.set o (8, vs.set i.toNatClampNeg (.int x))) nc ns P) : Gd M d mc ms pc L (.int x :: .int i :: .ref o :: st) hp nc ns P := by
  obtain ⟨h1, rfl⟩ := hd
  refine fun l p e s m args below meth c B S D cy H locs ls C hZ hW hS hL => ?_
  rw [List.map_cons, List.map_cons, List.map_cons, stk_ref (wd_lt hW ho)]
  refine va_iast C.1 C.2.1 hW.2.2 hW.2.1 wO_D hS o 0 ((wO_at ho).trans (by rw [ce_int (by decide) (by decide)])) rfl h0 h1 (fun H1 locs1 hP1 hD1 hS1 => ?_)
  have e0 : (wO B S cy hp).set o (B + o, .inl (cy 8, vs.length, .inl (upd (fun j => iv (vs.getD j .null)) i.toNatClampNeg x))) = wO B S cy (hp.set o (8, vs.set i.toNatClampNeg (.int x))) := by
    rw [← wO_set, ce_int (by decide) (by decide), List.length_set, upd_set _ (Nat.not_le.mp fun q => h0 (Or.inr q))]
  rw [e0] at hP1
  exact k l p e s m args below meth c B S D cy H1 locs1 ls C (by rw [List.length_set]; exact hZ) ⟨by rw [List.length_set]; exact hW.1, hP1, hW.2.2⟩ hS1 hL
theorem g_zast {o : Nat} {i x : Int32} {vs : List Value} (hd : Dc M.2.1 pc .bastore 1 pc') (ho : hp[o]? = some (9, vs)) (h0 : vp_in i vs.length) (k : Gd M d mc ms pc' L st (hp.set o (9, vs.set i.toNatClampNeg (.int (vp_nar .boolean x)))) nc ns P) : Gd M d mc ms pc L (.int x :: .int i :: .ref o :: st) hp nc ns P := by
  obtain ⟨h1, rfl⟩ := hd
  refine fun l p e s m args below meth c B S D cy H locs ls C hZ hW hS hL => ?_
  rw [List.map_cons, List.map_cons, List.map_cons, stk_ref (wd_lt hW ho)]
  refine va_zast C.1 C.2.1 hW.2.2 hW.2.1 wO_D hS o 1 ((wO_at ho).trans (by rw [ce_int (by decide) (by decide)])) rfl h0 h1 (fun H1 locs1 hP1 hD1 hS1 => ?_)
  have e0 : (wO B S cy hp).set o (B + o, .inl (cy 9, vs.length, .inl (upd (fun j => iv (vs.getD j .null)) i.toNatClampNeg (vp_nar .boolean x)))) = wO B S cy (hp.set o (9, vs.set i.toNatClampNeg (.int (vp_nar .boolean x)))) := by
    rw [← wO_set, ce_int (by decide) (by decide), List.length_set, upd_set _ (Nat.not_le.mp fun q => h0 (Or.inr q))]
  rw [e0] at hP1
  exact k l p e s m args below meth c B S D cy H1 locs1 ls C (by rw [List.length_set]; exact hZ) ⟨by rw [List.length_set]; exact hW.1, hP1, hW.2.2⟩ hS1 hL
theorem g_aaldH {o x : Nat} {i : Int32} {vs : List Value} (hd : Dc M.2.1 pc .aaload 1 pc') (ho : hp[o]? = some (10, vs)) (h0 : ¬ i < 0) (hv : vs[i.toNatClampNeg]? = some (.ref x)) (k : Gd M d mc ms pc' L (.ref x :: st) hp nc ns P) : Gd M d mc ms pc L (.int i :: .ref o :: st) hp nc ns P := by
  obtain ⟨h1, rfl⟩ := hd
  refine fun l p e s m args below meth c B S D cy H locs ls C hZ hW hS hL => ?_
  rw [List.map_cons, List.map_cons, stk_ref (wd_lt hW ho)]
  have hin := in_of h0 hv
  have hlt : i.toNatClampNeg < vs.length := Nat.not_le.mp fun q => hin (Or.inr q)
  have hcell : H[B + o]? = some (vp_cell (cy 10) (vs.length, .inr (.inr (.inr (.inr (fun j => rv B S (vs.getD j .null))))))) := by
    have h9 := hW.2.1 o _ (wO_at ho)
    rw [ce_ref (by decide)] at h9
    exact h9
  refine W.aald (v := .ref (ad B S x)) (ty := .object RX2) C.1 C.2.1 hcell ((hW.2.2.2 2 _ rfl).1 vs.length (fun j => va_rf (rv B S (vs.getD j .null)))) rfl (fun q => by cases q) (by show ¬ (i < 0 ∨ (arrV _ _ _).slots.size ≤ _); rw [arrV_size]; exact hin) (by show (arrV _ _ _).slots[_]? = _; rw [arrV_read _ _ hlt]; show some (va_rf (rv B S (vs.getD i.toNatClampNeg .null))) = _; rw [getD_of hv]; rfl) rfl rfl h1 ?_
  exact k l p e s m args below meth c B S D cy H locs ls C hZ hW hS hL
theorem g_aaldI {o x : Nat} {i : Int32} {vs : List Value} (hd : Dc M.2.1 pc .aaload 1 pc') (ho : hp[o]? = some (11, vs)) (h0 : ¬ i < 0) (hv : vs[i.toNatClampNeg]? = some (.ref x)) (k : Gd M d mc ms pc' L (.ref x :: st) hp nc ns P) : Gd M d mc ms pc L (.int i :: .ref o :: st) hp nc ns P := by
  obtain ⟨h1, rfl⟩ := hd
  refine fun l p e s m args below meth c B S D cy H locs ls C hZ hW hS hL => ?_
  rw [List.map_cons, List.map_cons, stk_ref (wd_lt hW ho)]
  have hin := in_of h0 hv
  have hlt : i.toNatClampNeg < vs.length := Nat.not_le.mp fun q => hin (Or.inr q)
  have hcell : H[B + o]? = some (vp_cell (cy 11) (vs.length, .inr (.inr (.inr (.inr (fun j => rv B S (vs.getD j .null))))))) := by
    have h9 := hW.2.1 o _ (wO_at ho)
    rw [ce_ref (by decide)] at h9
    exact h9
  refine W.aald (v := .ref (ad B S x)) (ty := .array .int) C.1 C.2.1 hcell ((hW.2.2.2 3 _ rfl).1 vs.length (fun j => va_rf (rv B S (vs.getD j .null)))) rfl (fun q => by cases q) (by show ¬ (i < 0 ∨ (arrV _ _ _).slots.size ≤ _); rw [arrV_size]; exact hin) (by show (arrV _ _ _).slots[_]? = _; rw [arrV_read _ _ hlt]; show some (va_rf (rv B S (vs.getD i.toNatClampNeg .null))) = _; rw [getD_of hv]; rfl) rfl rfl h1 ?_
  exact k l p e s m args below meth c B S D cy H locs ls C hZ hW hS hL
theorem g_gets {idx j : Nat} (hd : Dc M.2.1 pc (.getstatic idx) 3 pc') (hj : j < 3) (hl : Cond.fieldLink M.1.cls idx RX6 (sN j) "[I" ∈ TT) (k : Gd M d mc ms pc' L (.ref (1000000 + j) :: st) hp nc ns P) : Gd M d mc ms pc L st hp nc ns P := by
  obtain ⟨h1, rfl⟩ := hd
  refine fun l p e s m args below meth c B S D cy H locs ls C hZ hW hS hL => ?_
  have e0 : ad B S (1000000 + j) = S j := by
    unfold ad
    rw [if_neg (by omega), Nat.add_sub_cancel_left]
  have kk := k l p e s m args below meth c B S D cy H locs ls C hZ hW hS hL
  rw [List.map_cons, show cv B S (.ref (1000000 + j)) = .ref (S j) from congrArg Value.ref e0] at kk
  exact va_gets C.1 C.2.1 (C.2.2.2.2.2.2.2.2.1 j hj).1 hS C.2.2.2.2.1 (C.2.2.2.2.2.1 _ hl) (fun x hx => hx) h1 kk
theorem g_getsN {idx j : Nat} (hd : Dc M.2.1 pc (.getstatic idx) 3 pc') (hj : j < 3) (hl : Cond.fieldLinkNest M.1.cls idx RX6 (sN j) "[I" RX6 ∈ NW) (k : Gd M d mc ms pc' L (.ref (1000000 + j) :: st) hp nc ns P) : Gd M d mc ms pc L st hp nc ns P := by
  obtain ⟨h1, rfl⟩ := hd
  refine fun l p e s m args below meth c B S D cy H locs ls C hZ hW hS hL => ?_
  have e0 : ad B S (1000000 + j) = S j := by
    unfold ad
    rw [if_neg (by omega), Nat.add_sub_cancel_left]
  have kk := k l p e s m args below meth c B S D cy H locs ls C hZ hW hS hL
  rw [List.map_cons, show cv B S (.ref (1000000 + j)) = .ref (S j) from congrArg Value.ref e0] at kk
  exact va_getsN C.1 C.2.1 (C.2.2.2.2.2.2.2.2.1 j hj).1 hS C.2.2.2.2.1 (va_Nw.use rfl (C.2.2.2.2.2.2.2.2.2.1.1 _ hl)) (fun x hx => hx) h1 kk
theorem g_tald {j : Nat} {i : Int32} (hd : Dc M.2.1 pc .iaload 1 pc') (hj : j < 3) (h0 : vp_in i 6) (k : Gd M d mc ms pc' L (.int (sT j i.toNatClampNeg) :: st) hp nc ns P) : Gd M d mc ms pc L (.int i :: .ref (1000000 + j) :: st) hp nc ns P := by
  obtain ⟨h1, rfl⟩ := hd
  refine fun l p e s m args below meth c B S D cy H locs ls C hZ hW hS hL => ?_
  have e0 : ad B S (1000000 + j) = S j := by
    unfold ad
    rw [if_neg (by omega), Nat.add_sub_cancel_left]
  rw [List.map_cons, List.map_cons, show cv B S (.ref (1000000 + j)) = .ref (S j) from congrArg Value.ref e0]
  exact va_ti C.1 C.2.1 (C.2.2.2.2.2.2.2.2.1 j hj).2 hS h0 rfl h1 (k l p e s m args below meth c B S D cy H locs ls C hZ hW hS hL)
theorem g_tlen {j : Nat} (hd : Dc M.2.1 pc .arraylength 1 pc') (hj : j < 3) (k : Gd M d mc ms pc' L (.int 6 :: st) hp nc ns P) : Gd M d mc ms pc L (.ref (1000000 + j) :: st) hp nc ns P := by
  obtain ⟨h1, rfl⟩ := hd
  refine fun l p e s m args below meth c B S D cy H locs ls C hZ hW hS hL => ?_
  have e0 : ad B S (1000000 + j) = S j := by
    unfold ad
    rw [if_neg (by omega), Nat.add_sub_cancel_left]
  rw [List.map_cons, show cv B S (.ref (1000000 + j)) = .ref (S j) from congrArg Value.ref e0]
  exact va_tlen C.1 C.2.1 (C.2.2.2.2.2.2.2.2.1 j hj).2 hS (by decide) h1 (k l p e s m args below meth c B S D cy H locs ls C hZ hW hS hL)
def cpyV (vs ws : List Value) (sp dp n : Nat) : List Value := (List.range ws.length).map (fun j => if dp ≤ j ∧ j < dp + n then vs.getD (sp + (j - dp)) .null else ws.getD j .null)
theorem cpyV_len (vs ws : List Value) (sp dp n : Nat) : (cpyV vs ws sp dp n).length = ws.length := by
  unfold cpyV
  rw [List.length_map, List.length_range]
theorem cpyV_iv (vs ws : List Value) (sp dp n : Nat) (h : dp + n ≤ ws.length) : (fun j => iv ((cpyV vs ws sp dp n).getD j .null)) = va_cpy (fun j => iv (vs.getD j .null)) (fun j => iv (ws.getD j .null)) sp dp n := by
  funext j
  unfold cpyV va_cpy
  rw [List.getD_eq_getElem?_getD, List.getElem?_map]
  by_cases hj : j < ws.length
  · rw [List.getElem?_range hj]
    by_cases hc : dp ≤ j ∧ j < dp + n
    · simp [hc]
    · simp [hc]
  · rw [List.getElem?_eq_none (by rw [List.length_range]; omega), if_neg (by omega)]
    show _ = iv (ws.getD j .null)
    rw [List.getD_eq_getElem?_getD, List.getElem?_eq_none (by omega)]
    rfl
def ACopy (own : String) (idx : Nat) : Prop := Cond.methodLink own idx arraycopyName ∈ TT ∧ Cond.native arraycopyName ∈ TT ∧ Cond.static arraycopyName ∈ TT ∧ Cond.initialized "java/lang/System" ∈ TT
theorem g_copy {idx a b : Nat} {sp dp n : Int32} {vs ws : List Value} (hd : Dc M.2.1 pc (.invokestatic idx) 3 pc') (hc : ACopy M.1.cls idx) (ha : hp[a]? = some (8, vs)) (hb : hp[b]? = some (8, ws)) (h1 : ¬ sp < 0) (h2 : ¬ dp < 0) (h3 : ¬ n < 0) (h4 : sp.toNatClampNeg + n.toNatClampNeg ≤ vs.length) (h5 : dp.toNatClampNeg + n.toNatClampNeg ≤ ws.length) (hd1 : 1 ≤ d) (hst : (st.map fun v => v.category).sum ≤ 8)
    (k : Gd M d mc ms pc' L st (hp.set b (8, cpyV vs ws sp.toNatClampNeg dp.toNatClampNeg n.toNatClampNeg)) nc ns P) : Gd M d mc ms pc L (.int n :: .int dp :: .ref b :: .int sp :: .ref a :: st) hp nc ns P := by
  obtain ⟨h0, rfl⟩ := hd
  refine fun l p e s m args below meth c B S D cy H locs ls C hZ hW hS hL => ?_
  simp only [List.map_cons]
  rw [stk_ref (wd_lt hW ha), stk_ref (wd_lt hW hb)]
  have hst2 : ((st.map (cv B S)).map fun v => v.category).sum ≤ 8 := by
    rw [List.map_map]
    have e : ((fun v : Value => v.category) ∘ cv B S) = fun v => v.category := funext fun v => cv_cat B S v
    rw [e]
    exact hst
  have hlo : ((st.map (cv B S)).map fun v => v.category).sum + (nativeFrameWords "java/lang/System" "arraycopy" 5 + 11) ≤ (Rm d mc ms).locals := by
    have h9 : nativeFrameWords "java/lang/System" "arraycopy" 5 + 11 ≤ 60 := by decide
    show _ ≤ 100 * d
    omega
  refine va_copyi C.1 C.2.1 (C.2.2.2.1.trans hL.1.symm) C.2.2.2.2.1 (C.2.2.2.2.2.1 _ hc.1) (C.2.2.2.2.2.1 _ hc.2.1) (C.2.2.2.2.2.1 _ hc.2.2.1) (C.2.2.2.2.2.1 _ hc.2.2.2) hW.2.2 hW.2.1 wO_D hS a b 0 0 ((wO_at ha).trans (by rw [ce_int (by decide) (by decide)])) ((wO_at hb).trans (by rw [ce_int (by decide) (by decide)])) rfl rfl rfl h1 h2 h3 h4 h5 (fun i _ => rfl) hd1 hlo h0 (fun H1 locs1 hP1 hD1 hS1 => ?_)
  have e0 : (wO B S cy hp).set b (B + b, .inl (cy 8, ws.length, .inl (va_cpy (fun j => iv (vs.getD j .null)) (fun j => iv (ws.getD j .null)) sp.toNatClampNeg dp.toNatClampNeg n.toNatClampNeg))) = wO B S cy (hp.set b (8, cpyV vs ws sp.toNatClampNeg dp.toNatClampNeg n.toNatClampNeg)) := by
    rw [← wO_set, ce_int (by decide) (by decide), cpyV_len, cpyV_iv _ _ _ _ _ h5]
  rw [e0] at hP1
  exact k l p e s m args below meth c B S D cy H1 locs1 ls C (by rw [List.length_set]; exact hZ) ⟨by rw [List.length_set]; exact hW.1, hP1, hW.2.2⟩ hS1 hL
def CLc (N : Meth) (n : Nat) : Prop := Cond.initialized N.1.cls ∈ TT ∧ Cond.code N.1 N.2.1 N.2.2.1 N.2.2.2 ∈ TT ∧ (N.1.cls ≠ "java/lang/invoke/MethodHandle" ∧ N.1.cls ≠ "java/lang/invoke/VarHandle" ∧ (parseMethodDescriptor N.1.desc).map (fun d => d.parameters.length) = some n) ∧ N.2.2.1 ≤ 60
def CLV (own : String) (idx : Nat) (N : Meth) (n : Nat) : Prop := Cond.methodLink own idx N.1 ∈ TT ∧ Cond.instanceMethod N.1 ∈ TT ∧ Cond.selects N.1.cls N.1 N.1 ∈ TT ∧ CLc N n
def CLS (own : String) (idx : Nat) (N : Meth) (n : Nat) : Prop := Cond.methodLink own idx N.1 ∈ TT ∧ Cond.static N.1 ∈ TT ∧ CLc N n
def CLI (own : String) (idx : Nat) (N : Meth) (n : Nat) : Prop := Cond.methodLink own idx N.1 ∈ TT ∧ Cond.instanceMethod N.1 ∈ TT ∧ N.1.name = "<init>" ∧ N.2.2.2 = none ∧ CLc N n
def CLJ (own : String) (idx : Nat) (N : Meth) (n : Nat) : Prop := Cond.methodLinkNest own idx N.1 RX6 ∈ NW ∧ Cond.instanceMethod N.1 ∈ TT ∧ N.1.name = "<init>" ∧ N.2.2.2 = none ∧ CLc N n
theorem goodM {N : Meth} {n : Nat} (h : CLc N n) : GoodIn TT (wM N) := fun w hw => by
  rcases List.mem_cons.mp hw with rfl | hw
  · exact tt_good _ h.2.1
  · exact tt_good w hw
theorem stW {B : Nat} {S : Nat → Nat} {st : List Value} {m : MethodId} {pc : Nat} {ls : Array Slot} {r : List Value} (hst : (st.map fun v => v.category).sum ≤ 8) : 2 * (F0 m pc ls r).monitorRoom + ((st.map (cv B S)).map fun v => v.category).sum ≤ 8 := by
  refine lv_room ?_
  rw [List.map_map]
  have e : ((fun v : Value => v.category) ∘ cv B S) = fun v => v.category := funext fun v => cv_cat B S v
  rw [e]
  exact hst
theorem blindM {B : Nat} {S : Nat → Nat} {D : va_G} {cy : Nat → ClassId} {hp : Hp} {As : List Value} : FrameBlind (va_Pc As (fun U => U.heap.size = B + hp.length ∧ Wd B S D cy hp U U.heap ∧ Sd B S U U.heap ∧ Nx U)) := fun a U g mk q =>
  ⟨q.1, q.2.1, ⟨q.2.2.1.1, q.2.2.1.2.1, va_K.moved (u := U) (U := U.calling g mk a) (Vm.Alike.refl U.vm) q.2.2.1.2.2⟩, sd_moved (u := U) (U := U.calling g mk a) (Vm.Alike.refl U.vm) q.2.2.2.1, nx_same (s := U) (U := U.calling g mk a) rfl q.2.2.2.2⟩
/-- behind a call -/
theorem behind_call {mc' ms' : Nat} {P' : Option Value → Hp → Prop} {l : Launch} {p : Program} {e : Env} {s : State} {m : MethodId} {args : Array Value} {below : List Frame} {meth : Method} {c : Code} {B : Nat} {S : Nat → Nat} {D : va_G} {cy : Nat → ClassId} {H : Heap} {locs : List Loc} {ls : Array Slot} {a : Array Value} {stk : List Value}
    (C : Cx M p s m args meth c B S) (hZ : s.heap.size + nc = B + hp.length) (hW : Wd B S D cy hp s H) (hS : va_S (fun q => B ≤ q) s.heap H locs) (hL : Lh M B S ls L)
    (hlen : ∀ v hp', P' v hp' → hp'.length = hp.length + mc') (k : ∀ v hp', P' v hp' → Gd M d mc ms (pc + 3) L (v.toList ++ st) hp' (nc + mc') (ns + ms') P)
    (hr : va_Run p l e (Rm d mc ms) s m args below meth c H locs nc ns mc' ms' (F0 m pc ls stk) (st.map (cv B S)) (Qm B S D cy P' a) (fun q => B ≤ q)) :
    W p l e (Rm d mc ms) s m args below meth c H locs nc ns (MQ below (Qm B S D cy P) args s mc ms (fun q => B ≤ q)) (F0 m pc ls stk) := by
  intro T hT X
  obtain ⟨v, st₀, t, T', Lc, h0, X', hLc, e1, e2, ⟨⟨v', hp', hv, hP', hWd'⟩, hz, hk⟩, stp⟩ := hr T hT X
  cases hv
  rw [h0] at hz hk
  have kk := k v' hp' hP' l p e s m args below meth c B S D cy T'.heap (locs ++ Lc) ls C (by rw [hlen v' hp' hP']; omega) ⟨hWd'.1, by rw [e1]; exact hWd'.2.1, hW.2.2⟩ ⟨Nat.le_trans hS.1 (by rw [e1]; exact hz), fun q h1 h2 => by rw [e1, hk q (Nat.lt_of_lt_of_le h1 hS.1) h2]; exact hS.2.1 q h1 h2, fun q hq => by
      rcases List.mem_append.mp hq with h | h
      · exact hS.2.2 q h
      · exact hLc q h⟩ hL
  obtain ⟨t2, a1, b1⟩ := kk T' rfl X'
  refine ⟨t2, stp t2 ?_, b1⟩
  have e3 : (v'.map (cv B S)).toList ++ st.map (cv B S) = (v'.toList ++ st).map (cv B S) := by cases v' <;> simp
  rw [e3]
  exact a1
theorem g_callV {N : Meth} {idx n d' mc' ms' o ci : Nat} {As vs : List Value} {P' : Option Value → Hp → Prop} {q : vw_C} (hd : Dc M.2.1 pc (.invokevirtual idx) 3 pc') (hc : CLV M.1.cls idx N n) (hN : Mt N d' mc' ms' (.ref o :: As) hp P') (ho : hp[o]? = some (ci, vs)) (hci : ci < 8) (hq : vwCl[ci]? = some q) (hq1 : q.1 = N.1.cls) (hn : As.length = n) (hst : (st.map fun v => v.category).sum ≤ 8) (hd' : d' + 1 ≤ d) (hmc : nc + mc' ≤ mc) (hms : ns + ms' ≤ ms) (hlen : ∀ v hp', P' v hp' → hp'.length = hp.length + mc') (k : ∀ v hp', P' v hp' → Gd M d mc ms pc' L (v.toList ++ st) hp' (nc + mc') (ns + ms') P) : Gd M d mc ms pc L (As.reverse ++ .ref o :: st) hp nc ns P := by
  obtain ⟨h1, rfl⟩ := hd
  refine fun l p e s m args below meth c B S D cy H locs ls C hZ hW hS hL => ?_
  intro T hT X
  have hsz : H.size = B + hp.length := by
    have g1 := X.heapSize
    rw [hT] at g1
    have g2 := wd_le hW (Nat.le_trans C.2.2.2.2.2.2.2.2.2.2 hS.1)
    omega
  refine behind_call C hZ hW hS hL hlen k (va_runV (As := As.map (cv B S)) (C := N.1.cls) (b := B + o) (bytes := N.2.1) (maxL := N.2.2.1) (ret := N.2.2.2) (n := n) ⟨C.1, C.2.1, C.2.2.2.1, C.2.2.2.2.1, C.2.2.2.2.2.1⟩ (hN l B S D cy) ⟨callB_of n C.2.2.2.2.2.1 (goodM hc.2.2.2) rfl rfl rfl (C.2.2.2.2.2.1 _ hc.2.2.2.1) (C.2.2.2.2.2.1 _ hc.1) hc.2.2.2.2.2.1 ⟨hd', by show 8 + (N.2.2.1 + 11) + 100 * d' ≤ 100 * d; have := hc.2.2.2.2.2.2; omega⟩, C.2.2.2.2.2.1 _ hc.2.1, C.2.2.2.2.2.1 _ hc.2.2.1⟩ ⟨blindM, ?_, ?_⟩ rfl (by rw [List.length_map]; exact hn) hL.1 ?_ (stW hst) h1 ⟨hmc, hms⟩) T hT X
  · obtain ⟨cell, g1, g2, g3⟩ := va_recv hW.2.2 hW.2.1 (q := q) (ci := ci) (q0 := o) (a := B + o) hq ((wO_at ho).trans (by rw [ce_obj hci]))
    exact ⟨cell, g1, g2, by rw [← hq1]; exact g3⟩
  · exact fun U hU hWm => ⟨by rw [List.map_cons, stk_ref (wd_lt hW ho)], by rw [hU]; exact hsz, ⟨hW.1, by rw [hU]; exact hW.2.1, va_K.moved hWm.alike hW.2.2⟩, sd_moved hWm.alike (by rw [hU]; exact sd_kept C.2.2.2.2.2.2.2.2.1 hS.2.1), nx_warm hWm C.2.2.2.2.2.2.2.2.2.1⟩
  · show ((As.reverse ++ .ref o :: st).map (cv B S)) = _
    rw [List.map_append, List.map_reverse, List.map_cons, stk_ref (wd_lt hW ho)]
theorem g_callS {N : Meth} {idx n d' mc' ms' : Nat} {As : List Value} {P' : Option Value → Hp → Prop} (hd : Dc M.2.1 pc (.invokestatic idx) 3 pc') (hc : CLS M.1.cls idx N n) (hN : Mt N d' mc' ms' As hp P') (hn : As.length = n) (hst : (st.map fun v => v.category).sum ≤ 8) (hd' : d' + 1 ≤ d) (hmc : nc + mc' ≤ mc) (hms : ns + ms' ≤ ms) (hlen : ∀ v hp', P' v hp' → hp'.length = hp.length + mc') (k : ∀ v hp', P' v hp' → Gd M d mc ms pc' L (v.toList ++ st) hp' (nc + mc') (ns + ms') P) : Gd M d mc ms pc L (As.reverse ++ st) hp nc ns P := by
  obtain ⟨h1, rfl⟩ := hd
  refine fun l p e s m args below meth c B S D cy H locs ls C hZ hW hS hL => ?_
  intro T hT X
  have hsz : H.size = B + hp.length := by
    have g1 := X.heapSize
    rw [hT] at g1
    have g2 := wd_le hW (Nat.le_trans C.2.2.2.2.2.2.2.2.2.2 hS.1)
    omega
  refine behind_call C hZ hW hS hL hlen k (va_runS (As := As.map (cv B S)) (bytes := N.2.1) (maxL := N.2.2.1) (ret := N.2.2.2) (n := n) ⟨C.1, C.2.1, C.2.2.2.1, C.2.2.2.2.1, C.2.2.2.2.2.1⟩ (hN l B S D cy) ⟨callB_of n C.2.2.2.2.2.1 (goodM hc.2.2) rfl rfl rfl (C.2.2.2.2.2.1 _ hc.2.2.1) (C.2.2.2.2.2.1 _ hc.1) hc.2.2.2.2.1 ⟨hd', by show 8 + (N.2.2.1 + 11) + 100 * d' ≤ 100 * d; have := hc.2.2.2.2.2; omega⟩, C.2.2.2.2.2.1 _ hc.2.1⟩ ⟨blindM, ?_⟩ rfl (by rw [List.length_map]; exact hn) hL.1 ?_ (stW hst) h1 ⟨hmc, hms⟩) T hT X
  · exact fun U hU hWm => ⟨rfl, by rw [hU]; exact hsz, ⟨hW.1, by rw [hU]; exact hW.2.1, va_K.moved hWm.alike hW.2.2⟩, sd_moved hWm.alike (by rw [hU]; exact sd_kept C.2.2.2.2.2.2.2.2.1 hS.2.1), nx_warm hWm C.2.2.2.2.2.2.2.2.2.1⟩
  · show ((As.reverse ++ st).map (cv B S)) = _
    rw [List.map_append, List.map_reverse]
theorem g_callI {N : Meth} {idx n d' mc' ms' o : Nat} {As : List Value} {P' : Option Value → Hp → Prop} {q : Nat × List Value} (hd : Dc M.2.1 pc (.invokespecial idx) 3 pc') (hc : CLI M.1.cls idx N n) (hN : Mt N d' mc' ms' (.ref o :: As) hp P') (ho : hp[o]? = some q) (hn : As.length = n) (hst : (st.map fun v => v.category).sum ≤ 8) (hd' : d' + 1 ≤ d) (hmc : nc + mc' ≤ mc) (hms : ns + ms' ≤ ms) (hlen : ∀ v hp', P' v hp' → hp'.length = hp.length + mc') (k : ∀ v hp', P' v hp' → Gd M d mc ms pc' L (v.toList ++ st) hp' (nc + mc') (ns + ms') P) : Gd M d mc ms pc L (As.reverse ++ .ref o :: st) hp nc ns P := by
  obtain ⟨h1, rfl⟩ := hd
  refine fun l p e s m args below meth c B S D cy H locs ls C hZ hW hS hL => ?_
  intro T hT X
  have hsz : H.size = B + hp.length := by
    have g1 := X.heapSize
    rw [hT] at g1
    have g2 := wd_le hW (Nat.le_trans C.2.2.2.2.2.2.2.2.2.2 hS.1)
    omega
  refine behind_call C hZ hW hS hL hlen k (va_runI (As := As.map (cv B S)) (b := B + o) (bytes := N.2.1) (maxL := N.2.2.1) (n := n) ⟨C.1, C.2.1, C.2.2.2.1, C.2.2.2.2.1, C.2.2.2.2.2.1⟩ (hN l B S D cy) ⟨callB_of n C.2.2.2.2.2.1 (goodM hc.2.2.2.2) (by rw [wM, hc.2.2.2.1]) rfl rfl (C.2.2.2.2.2.1 _ hc.2.2.2.2.1) (C.2.2.2.2.2.1 _ hc.1) hc.2.2.2.2.2.2.1 ⟨hd', by show 8 + (N.2.2.1 + 11) + 100 * d' ≤ 100 * d; have := hc.2.2.2.2.2.2.2; omega⟩, hc.2.2.1, C.2.2.2.2.2.1 _ hc.2.1⟩ ⟨blindM, ?_⟩ rfl (by rw [List.length_map]; exact hn) hL.1 ?_ (stW hst) h1 ⟨hmc, hms⟩) T hT X
  · exact fun U hU hWm => ⟨by rw [List.map_cons, stk_ref (wd_lt hW ho)], by rw [hU]; exact hsz, ⟨hW.1, by rw [hU]; exact hW.2.1, va_K.moved hWm.alike hW.2.2⟩, sd_moved hWm.alike (by rw [hU]; exact sd_kept C.2.2.2.2.2.2.2.2.1 hS.2.1), nx_warm hWm C.2.2.2.2.2.2.2.2.2.1⟩
  · show ((As.reverse ++ .ref o :: st).map (cv B S)) = _
    rw [List.map_append, List.map_reverse, List.map_cons, stk_ref (wd_lt hW ho)]
theorem g_callJ {N : Meth} {idx n d' mc' ms' o : Nat} {As : List Value} {P' : Option Value → Hp → Prop} {q : Nat × List Value} (hd : Dc M.2.1 pc (.invokespecial idx) 3 pc') (hc : CLJ M.1.cls idx N n) (hN : Mt N d' mc' ms' (.ref o :: As) hp P') (ho : hp[o]? = some q) (hn : As.length = n) (hst : (st.map fun v => v.category).sum ≤ 8) (hd' : d' + 1 ≤ d) (hmc : nc + mc' ≤ mc) (hms : ns + ms' ≤ ms) (hlen : ∀ v hp', P' v hp' → hp'.length = hp.length + mc') (k : ∀ v hp', P' v hp' → Gd M d mc ms pc' L (v.toList ++ st) hp' (nc + mc') (ns + ms') P) : Gd M d mc ms pc L (As.reverse ++ .ref o :: st) hp nc ns P := by
  obtain ⟨h1, rfl⟩ := hd
  refine fun l p e s m args below meth c B S D cy H locs ls C hZ hW hS hL => ?_
  intro T hT X
  have hsz : H.size = B + hp.length := by
    have g1 := X.heapSize
    rw [hT] at g1
    have g2 := wd_le hW (Nat.le_trans C.2.2.2.2.2.2.2.2.2.2 hS.1)
    omega
  refine behind_call C hZ hW hS hL hlen k (va_runIN (As := As.map (cv B S)) (b := B + o) (bytes := N.2.1) (maxL := N.2.2.1) (n := n) (host := RX6) ⟨C.1, C.2.1, C.2.2.2.1, C.2.2.2.2.1, C.2.2.2.2.2.1⟩ (hN l B S D cy) ⟨va_cnB n C.2.2.2.2.2.1 (goodM hc.2.2.2.2) (by rw [wM, hc.2.2.2.1]) rfl rfl (C.2.2.2.2.2.2.2.2.2.1.1 _ hc.1) (C.2.2.2.2.2.1 _ hc.2.2.2.2.1) hc.2.2.2.2.2.2.1 ⟨hd', by show 8 + (N.2.2.1 + 11) + 100 * d' ≤ 100 * d; have := hc.2.2.2.2.2.2.2; omega⟩, hc.2.2.1, C.2.2.2.2.2.1 _ hc.2.1⟩ ⟨blindM, ?_⟩ rfl (by rw [List.length_map]; exact hn) hL.1 ?_ (stW hst) h1 ⟨hmc, hms⟩) T hT X
  · exact fun U hU hWm => ⟨by rw [List.map_cons, stk_ref (wd_lt hW ho)], by rw [hU]; exact hsz, ⟨hW.1, by rw [hU]; exact hW.2.1, va_K.moved hWm.alike hW.2.2⟩, sd_moved hWm.alike (by rw [hU]; exact sd_kept C.2.2.2.2.2.2.2.2.1 hS.2.1), nx_warm hWm C.2.2.2.2.2.2.2.2.2.1⟩
  · show ((As.reverse ++ .ref o :: st).map (cv B S)) = _
    rw [List.map_append, List.map_reverse, List.map_cons, stk_ref (wd_lt hW ho)]
end Rules
end
section
abbrev M_X6_init : Meth := (yX6_init, cX6_init, 2, none)
abbrev M_X4_init : Meth := (yX4_init, cX4_init, 1, none)
abbrev M_X5_init : Meth := (yX5_init, cX5_init, 1, none)
abbrev M_X2_init : Meth := (yX2_init, cX2_init, 1, none)
abbrev M_X0_init : Meth := (yX0_init, cX0_init, 2, none)
abbrev M_X3_init : Meth := (yX3_init, cX3_init, 1, none)
abbrev M_X1_init : Meth := (yX1_init, cX1_init, 1, none)
abbrev M_X6_row : Meth := (yX6_row, cX6_row, 4, (some .int))
abbrev M_X4_isOne : Meth := (yX4_isOne, cX4_isOne, 1, (some .boolean))
abbrev M_X6_found : Meth := (yX6_found, cX6_found, 2, (some .int))
abbrev M_X4_make : Meth := (yX4_make, cX4_make, 5, none)
abbrev M_X6_foundNothing : Meth := (yX6_foundNothing, cX6_foundNothing, 2, (some .int))
abbrev M_X6_set : Meth := (yX6_set, cX6_set, 5, (some .int))
abbrev M_X4_findingOf : Meth := (yX4_findingOf, cX4_findingOf, 4, (some .int))
abbrev M_X4_isMissing : Meth := (yX4_isMissing, cX4_isMissing, 2, (some .boolean))
abbrev M_X4_hasPlaces : Meth := (yX4_hasPlaces, cX4_hasPlaces, 4, (some .boolean))
abbrev M_X4_put : Meth := (yX4_put, cX4_put, 5, (some .int))
abbrev M_X6_copy : Meth := (yX6_copy, cX6_copy, 6, (some .int))
abbrev M_X6_drop : Meth := (yX6_drop, cX6_drop, 2, (some .int))
abbrev M_X4_remove : Meth := (yX4_remove, cX4_remove, 2, (some .int))
abbrev M_X6_feed : Meth := (yX6_feed, cX6_feed, 2, (some .int))
abbrev M_X5_takeIn : Meth := (yX5_takeIn, cX5_takeIn, 2, (some .boolean))
abbrev M_X6_launderette : Meth := (yX6_launderette, cX6_launderette, 2, (some .int))
abbrev M_X5_readInto : Meth := (yX5_readInto, cX5_readInto, 2, (some .boolean))
abbrev M_X2_clear : Meth := (yX2_clear, cX2_clear, 1, none)
abbrev M_X5_toNextToken : Meth := (yX5_toNextToken, cX5_toNextToken, 1, none)
abbrev M_X5_isFigure : Meth := (yX5_isFigure, cX5_isFigure, 2, (some .boolean))
abbrev M_X5_readFigures : Meth := (yX5_readFigures, cX5_readFigures, 1, none)
abbrev M_X5_readLaw : Meth := (yX5_readLaw, cX5_readLaw, 2, (some .boolean))
abbrev M_X5_passes : Meth := (yX5_passes, cX5_passes, 2, (some .boolean))
abbrev M_X5_failed : Meth := (yX5_failed, cX5_failed, 2, (some .boolean))
abbrev M_X5_isNumber : Meth := (yX5_isNumber, cX5_isNumber, 3, (some .boolean))
abbrev M_X5_takeNumber : Meth := (yX5_takeNumber, cX5_takeNumber, 2, (some .int))
abbrev M_X5_readMachines : Meth := (yX5_readMachines, cX5_readMachines, 3, (some .boolean))
abbrev M_X5_kindOfLetter : Meth := (yX5_kindOfLetter, cX5_kindOfLetter, 1, (some .int))
abbrev M_X5_readMachine : Meth := (yX5_readMachine, cX5_readMachine, 4, (some .boolean))
abbrev M_X2_addMachine : Meth := (yX2_addMachine, cX2_addMachine, 4, none)
abbrev M_X5_readLoads : Meth := (yX5_readLoads, cX5_readLoads, 3, (some .boolean))
abbrev M_X5_readLoad : Meth := (yX5_readLoad, cX5_readLoad, 3, (some .boolean))
abbrev M_X2_addLoad : Meth := (yX2_addLoad, cX2_addLoad, 3, none)
abbrev M_X2_dirty : Meth := (yX2_dirty, cX2_dirty, 3, none)
abbrev M_X6_replaceHall : Meth := (yX6_replaceHall, cX6_replaceHall, 2, none)
abbrev M_X2_become : Meth := (yX2_become, cX2_become, 2, none)
abbrev M_X3_forget : Meth := (yX3_forget, cX3_forget, 1, none)
abbrev M_X6_fault : Meth := (yX6_fault, cX6_fault, 1, (some .int))
abbrev M_X6_undo : Meth := (yX6_undo, cX6_undo, 1, (some .int))
abbrev M_X0_takeBack : Meth := (yX0_takeBack, cX0_takeBack, 2, none)
abbrev M_X6_ticks : Meth := (yX6_ticks, cX6_ticks, 3, (some .int))
abbrev M_X2_isNone : Meth := (yX2_isNone, cX2_isNone, 1, (some .boolean))
abbrev M_X6_beginAct : Meth := (yX6_beginAct, cX6_beginAct, 1, none)
abbrev M_X0_keep : Meth := (yX0_keep, cX0_keep, 2, none)
abbrev M_J9_min_7cf53 : Meth := (yJ9_min_7cf53, cJ9_min_7cf53, 2, (some .int))
abbrev M_X2_passTick : Meth := (yX2_passTick, cX2_passTick, 4, none)
abbrev M_X2_takeOut : Meth := (yX2_takeOut, cX2_takeOut, 3, none)
abbrev M_X2_washes : Meth := (yX2_washes, cX2_washes, 2, (some .boolean))
abbrev M_X2_isOpen : Meth := (yX2_isOpen, cX2_isOpen, 2, (some .boolean))
abbrev M_X2_waitingFor : Meth := (yX2_waitingFor, cX2_waitingFor, 6, (some .int))
abbrev M_X2_putIn : Meth := (yX2_putIn, cX2_putIn, 3, none)
abbrev M_X2_lastsWith : Meth := (yX2_lastsWith, cX2_lastsWith, 5, (some .int))
abbrev M_J9_max_7cf53 : Meth := (yJ9_max_7cf53, cJ9_max_7cf53, 2, (some .int))
abbrev M_X2_whichAre : Meth := (yX2_whichAre, cX2_whichAre, 4, (some .int))
abbrev M_X6_shut : Meth := (yX6_shut, cX6_shut, 2, (some .int))
abbrev M_X2_hasMachine : Meth := (yX2_hasMachine, cX2_hasMachine, 2, (some .boolean))
abbrev M_X2_turn : Meth := (yX2_turn, cX2_turn, 2, none)
abbrev M_X6_power : Meth := (yX6_power, cX6_power, 3, (some .int))
abbrev M_X6_due : Meth := (yX6_due, cX6_due, 4, (some .int))
abbrev M_X2_hasLoad : Meth := (yX2_hasLoad, cX2_hasLoad, 2, (some .boolean))
abbrev M_X6_again : Meth := (yX6_again, cX6_again, 3, (some .int))
abbrev M_X6_machine : Meth := (yX6_machine, cX6_machine, 3, (some .int))
abbrev M_X2_loadIn : Meth := (yX2_loadIn, cX2_loadIn, 2, (some .int))
abbrev M_X6_load : Meth := (yX6_load, cX6_load, 3, (some .int))
abbrev M_X2_lateOf : Meth := (yX2_lateOf, cX2_lateOf, 3, (some .int))
abbrev M_X6_lasts : Meth := (yX6_lasts, cX6_lasts, 3, (some .int))
abbrev M_X6_stand : Meth := (yX6_stand, cX6_stand, 2, (some .int))
abbrev M_X2_busyBits : Meth := (yX2_busyBits, cX2_busyBits, 3, (some .int))
abbrev M_X6_ahead : Meth := (yX6_ahead, cX6_ahead, 5, (some .int))
abbrev M_X6_behind : Meth := (yX6_behind, cX6_behind, 2, (some (.object "LaundryLoads$Hall")))
abbrev M_X6_behindWithOpen : Meth := (yX6_behindWithOpen, cX6_behindWithOpen, 4, (some (.object "LaundryLoads$Hall")))
abbrev M_X6_asNow : Meth := (yX6_asNow, cX6_asNow, 1, (some (.object "LaundryLoads$Hall")))
abbrev M_X2_passTicks : Meth := (yX2_passTicks, cX2_passTicks, 4, none)
abbrev M_X2_quietTicks : Meth := (yX2_quietTicks, cX2_quietTicks, 4, (some .int))
abbrev M_X2_passQuietTicks : Meth := (yX2_passQuietTicks, cX2_passQuietTicks, 3, none)
abbrev M_X6_inside : Meth := (yX6_inside, cX6_inside, 5, (some .int))
abbrev M_X6_all : Meth := (yX6_all, cX6_all, 4, (some .int))
abbrev M_X2_lateOfAll : Meth := (yX2_lateOfAll, cX2_lateOfAll, 3, (some .int))
abbrev M_X6_when : Meth := (yX6_when, cX6_when, 6, (some .int))
abbrev M_X2_isWashed : Meth := (yX2_isWashed, cX2_isWashed, 2, (some .boolean))
abbrev M_X6_over : Meth := (yX6_over, cX6_over, 3, (some .int))
abbrev M_X2_isAllDry : Meth := (yX2_isAllDry, cX2_isAllDry, 1, (some .boolean))
abbrev M_X2_howManyAre : Meth := (yX2_howManyAre, cX2_howManyAre, 2, (some .int))
abbrev M_J6_bitCount_0f7a4 : Meth := (yJ6_bitCount_0f7a4, cJ6_bitCount_0f7a4, 1, (some .int))
abbrev M_X6_order : Meth := (yX6_order, cX6_order, 3, (some .int))
abbrev M_X6_isPlanned : Meth := (yX6_isPlanned, cX6_isPlanned, 1, (some .boolean))
abbrev M_X3_find : Meth := (yX3_find, cX3_find, 6, none)
abbrev M_X3_tryOne : Meth := (yX3_tryOne, cX3_tryOne, 7, none)
abbrev M_X3_toNextOrder : Meth := (yX3_toNextOrder, cX3_toNextOrder, 6, (some .boolean))
abbrev M_X3_swap : Meth := (yX3_swap, cX3_swap, 4, none)
abbrev M_X6_need : Meth := (yX6_need, cX6_need, 4, (some .int))
abbrev M_X6_open : Meth := (yX6_open, cX6_open, 7, (some .int))
abbrev M_X6_fills : Meth := (yX6_fills, cX6_fills, 8, (some .int))
abbrev M_X2_sizeOfAll : Meth := (yX2_sizeOfAll, cX2_sizeOfAll, 4, (some .int))
abbrev M_X6_share : Meth := (yX6_share, cX6_share, 7, (some .int))
abbrev M_X2_doneOfAll : Meth := (yX2_doneOfAll, cX2_doneOfAll, 3, (some .int))
abbrev M_X6_byTurns : Meth := (yX6_byTurns, cX6_byTurns, 4, (some .int))
abbrev M_X6_weighShutting : Meth := (yX6_weighShutting, cX6_weighShutting, 3, none)
abbrev M_X6_weighOpening : Meth := (yX6_weighOpening, cX6_weighOpening, 3, none)
abbrev M_X6_who : Meth := (yX6_who, cX6_who, 12, (some .int))
abbrev M_X6_isTold : Meth := (yX6_isTold, cX6_isTold, 1, (some .boolean))
abbrev M_X2_alter : Meth := (yX2_alter, cX2_alter, 4, none)
abbrev M_X6_fits : Meth := (yX6_fits, cX6_fits, 6, (some .boolean))
abbrev M_X6_sizes : Meth := (yX6_sizes, cX6_sizes, 9, (some .int))
abbrev M_X6_breaks : Meth := (yX6_breaks, cX6_breaks, 11, (some .long))
abbrev M_X6_casesOfStayingOpen : Meth := (yX6_casesOfStayingOpen, cX6_casesOfStayingOpen, 6, (some .long))
abbrev M_X6_greatestDivisor : Meth := (yX6_greatestDivisor, cX6_greatestDivisor, 11, (some .long))
abbrev M_J9_max_f86c9 : Meth := (yJ9_max_f86c9, cJ9_max_f86c9, 4, (some .long))
abbrev M_X6_drawn : Meth := (yX6_drawn, cX6_drawn, 10, (some .int))
abbrev M_X2_draw : Meth := (yX2_draw, cX2_draw, 3, none)
abbrev M_X6_image : Meth := (yX6_image, cX6_image, 2, (some .int))
abbrev M_X6_restore : Meth := (yX6_restore, cX6_restore, 2, (some .int))
abbrev M_X6_kind : Meth := (yX6_kind, cX6_kind, 2, (some .int))
abbrev M_X6_as : Meth := (yX6_as, cX6_as, 3, (some .int))
abbrev M_X6_isOfKind : Meth := (yX6_isOfKind, cX6_isOfKind, 4, (some .boolean))
abbrev M_X6_ask : Meth := (yX6_ask, cX6_ask, 3, (some .int))
abbrev M_X1_begin : Meth := (yX1_begin, cX1_begin, 4, (some .int))
abbrev M_X1_bodyFor : Meth := (yX1_bodyFor, cX1_bodyFor, 5, (some .int))
abbrev M_X1_answer : Meth := (yX1_answer, cX1_answer, 6, (some .int))
abbrev M_X1_leave : Meth := (yX1_leave, cX1_leave, 2, none)
abbrev M_X6_trace : Meth := (yX6_trace, cX6_trace, 2, (some .int))
abbrev M_X6_count : Meth := (yX6_count, cX6_count, 2, (some .int))
abbrev M_X4_howMany : Meth := (yX4_howMany, cX4_howMany, 3, (some .int))
abbrev M_X6_status : Meth := (yX6_status, cX6_status, 1, (some .int))
abbrev M_X7_init : Meth := (yX7_init, cX7_init, 2, none)
abbrev M_X7_row : Meth := (yX7_row, cX7_row, 5, (some .int))
abbrev M_X7_isRow : Meth := (yX7_isRow, cX7_isRow, 1, (some .boolean))
abbrev M_X7_in : Meth := (yX7_in, cX7_in, 3, (some .boolean))
abbrev M_X7_found : Meth := (yX7_found, cX7_found, 2, (some .int))
abbrev M_X7_well : Meth := (yX7_well, cX7_well, 2, (some .int))
abbrev M_X7_set : Meth := (yX7_set, cX7_set, 5, (some .int))
abbrev M_X7_copy : Meth := (yX7_copy, cX7_copy, 10, (some .int))
abbrev M_X7_isPart : Meth := (yX7_isPart, cX7_isPart, 4, (some .boolean))
abbrev M_X7_drop : Meth := (yX7_drop, cX7_drop, 3, (some .int))
abbrev M_X7_feed : Meth := (yX7_feed, cX7_feed, 2, (some .int))
abbrev M_X7_launderette : Meth := (yX7_launderette, cX7_launderette, 2, (some .int))
abbrev M_X7_reads : Meth := (yX7_reads, cX7_reads, 3, none)
abbrev M_X7_advances : Meth := (yX7_advances, cX7_advances, 2, none)
abbrev M_X7_letterAt : Meth := (yX7_letterAt, cX7_letterAt, 2, (some .int))
abbrev M_X7_takes : Meth := (yX7_takes, cX7_takes, 3, none)
abbrev M_X7_isWell : Meth := (yX7_isWell, cX7_isWell, 1, (some .boolean))
abbrev M_X7_faulty : Meth := (yX7_faulty, cX7_faulty, 2, none)
abbrev M_X7_number : Meth := (yX7_number, cX7_number, 4, (some .int))
abbrev M_X7_kindOf : Meth := (yX7_kindOf, cX7_kindOf, 1, (some .int))
abbrev M_X7_readsMachine : Meth := (yX7_readsMachine, cX7_readsMachine, 2, none)
abbrev M_X7_readsLoad : Meth := (yX7_readsLoad, cX7_readsLoad, 2, none)
abbrev M_X7_fault : Meth := (yX7_fault, cX7_fault, 1, (some .int))
abbrev M_X7_undo : Meth := (yX7_undo, cX7_undo, 2, (some .int))
abbrev M_X7_ticks : Meth := (yX7_ticks, cX7_ticks, 3, (some .int))
abbrev M_X7_isNothing : Meth := (yX7_isNothing, cX7_isNothing, 1, (some .boolean))
abbrev M_X7_ranksByNumber : Meth := (yX7_ranksByNumber, cX7_ranksByNumber, 2, none)
abbrev M_X7_notes : Meth := (yX7_notes, cX7_notes, 2, none)
abbrev M_X7_ticksOne : Meth := (yX7_ticksOne, cX7_ticksOne, 6, none)
abbrev M_X7_comesOut : Meth := (yX7_comesOut, cX7_comesOut, 6, none)
abbrev M_X7_washes : Meth := (yX7_washes, cX7_washes, 1, (some .boolean))
abbrev M_X7_has : Meth := (yX7_has, cX7_has, 2, (some .boolean))
abbrev M_X7_waits : Meth := (yX7_waits, cX7_waits, 6, (some .int))
abbrev M_X7_lastsOf : Meth := (yX7_lastsOf, cX7_lastsOf, 8, (some .int))
abbrev M_X7_howAll : Meth := (yX7_howAll, cX7_howAll, 5, (some .int))
abbrev M_X7_shut : Meth := (yX7_shut, cX7_shut, 2, (some .int))
abbrev M_X7_isMachine : Meth := (yX7_isMachine, cX7_isMachine, 2, (some .boolean))
abbrev M_X7_power : Meth := (yX7_power, cX7_power, 3, (some .int))
abbrev M_X7_due : Meth := (yX7_due, cX7_due, 4, (some .int))
abbrev M_X7_isLoad : Meth := (yX7_isLoad, cX7_isLoad, 2, (some .boolean))
abbrev M_X7_again : Meth := (yX7_again, cX7_again, 3, (some .int))
abbrev M_X7_machine : Meth := (yX7_machine, cX7_machine, 3, (some .int))
abbrev M_X7_load : Meth := (yX7_load, cX7_load, 3, (some .int))
abbrev M_X7_lateOf : Meth := (yX7_lateOf, cX7_lateOf, 3, (some .int))
abbrev M_X7_lasts : Meth := (yX7_lasts, cX7_lasts, 3, (some .int))
abbrev M_X7_stand : Meth := (yX7_stand, cX7_stand, 2, (some .int))
abbrev M_X7_withLoads : Meth := (yX7_withLoads, cX7_withLoads, 3, (some .int))
abbrev M_X7_ahead : Meth := (yX7_ahead, cX7_ahead, 4, (some .int))
abbrev M_X7_goesAhead : Meth := (yX7_goesAhead, cX7_goesAhead, 2, none)
abbrev M_X7_asNow : Meth := (yX7_asNow, cX7_asNow, 2, none)
abbrev M_X7_foretells : Meth := (yX7_foretells, cX7_foretells, 3, none)
abbrev M_X7_inside : Meth := (yX7_inside, cX7_inside, 5, (some .int))
abbrev M_X7_all : Meth := (yX7_all, cX7_all, 3, (some .int))
abbrev M_X7_lateAll : Meth := (yX7_lateAll, cX7_lateAll, 4, (some .int))
abbrev M_X7_when : Meth := (yX7_when, cX7_when, 4, (some .int))
abbrev M_X7_isSo : Meth := (yX7_isSo, cX7_isSo, 4, (some .boolean))
abbrev M_X7_over : Meth := (yX7_over, cX7_over, 2, (some .int))
abbrev M_X7_isAllDry : Meth := (yX7_isAllDry, cX7_isAllDry, 1, (some .boolean))
abbrev M_X7_order : Meth := (yX7_order, cX7_order, 9, (some .int))
abbrev M_X7_ones : Meth := (yX7_ones, cX7_ones, 3, (some .int))
abbrev M_X7_nextOrder : Meth := (yX7_nextOrder, cX7_nextOrder, 6, (some .boolean))
abbrev M_X7_trades : Meth := (yX7_trades, cX7_trades, 4, none)
abbrev M_X7_need : Meth := (yX7_need, cX7_need, 3, (some .int))
abbrev M_X7_open : Meth := (yX7_open, cX7_open, 5, (some .int))
abbrev M_X7_fills : Meth := (yX7_fills, cX7_fills, 10, (some .int))
abbrev M_X7_share : Meth := (yX7_share, cX7_share, 7, (some .int))
abbrev M_X7_doneAll : Meth := (yX7_doneAll, cX7_doneAll, 3, (some .int))
abbrev M_X7_byTurns : Meth := (yX7_byTurns, cX7_byTurns, 10, (some .int))
abbrev M_X7_openBy : Meth := (yX7_openBy, cX7_openBy, 8, (some .int))
abbrev M_X7_who : Meth := (yX7_who, cX7_who, 10, (some .int))
abbrev M_X7_against : Meth := (yX7_against, cX7_against, 4, (some .int))
abbrev M_X7_goesSo : Meth := (yX7_goesSo, cX7_goesSo, 5, (some .boolean))
abbrev M_X7_sizes : Meth := (yX7_sizes, cX7_sizes, 8, (some .int))
abbrev M_X7_breaks : Meth := (yX7_breaks, cX7_breaks, 12, (some .long))
abbrev M_X7_raised : Meth := (yX7_raised, cX7_raised, 6, (some .long))
abbrev M_X7_gcd : Meth := (yX7_gcd, cX7_gcd, 10, (some .long))
abbrev M_X7_drawn : Meth := (yX7_drawn, cX7_drawn, 10, (some .int))
abbrev M_X7_image : Meth := (yX7_image, cX7_image, 3, (some .int))
abbrev M_X7_restore : Meth := (yX7_restore, cX7_restore, 3, (some .int))
abbrev M_X7_kind : Meth := (yX7_kind, cX7_kind, 2, (some .int))
abbrev M_X7_as : Meth := (yX7_as, cX7_as, 5, (some .int))
abbrev M_X7_ask : Meth := (yX7_ask, cX7_ask, 4, (some .int))
abbrev M_X7_washerSize : Meth := (yX7_washerSize, cX7_washerSize, 5, (some .int))
abbrev M_X7_leaves : Meth := (yX7_leaves, cX7_leaves, 2, none)
abbrev M_X7_lentRoom : Meth := (yX7_lentRoom, cX7_lentRoom, 2, (some .int))
abbrev M_X7_washerMark : Meth := (yX7_washerMark, cX7_washerMark, 4, (some .int))
abbrev M_X7_lentNumber : Meth := (yX7_lentNumber, cX7_lentNumber, 2, (some .int))
abbrev M_X7_dryerSize : Meth := (yX7_dryerSize, cX7_dryerSize, 4, (some .int))
abbrev M_X7_dryerMark : Meth := (yX7_dryerMark, cX7_dryerMark, 3, (some .int))
abbrev M_X7_trace : Meth := (yX7_trace, cX7_trace, 2, (some .int))
abbrev M_X7_count : Meth := (yX7_count, cX7_count, 2, (some .int))
abbrev M_X7_rowsThere : Meth := (yX7_rowsThere, cX7_rowsThere, 3, (some .int))
abbrev M_X7_status : Meth := (yX7_status, cX7_status, 1, (some .int))
theorem fl_6_10 : FL RX6 10 6 0 true (.object "LaundryLoads$Rows") := ⟨RX6, TX6, 10, ci6, by decide, rfl, tt_of 283 (by decide +kernel) rfl, rfl, by decide +kernel⟩
theorem fl_6_19 : FL RX6 19 6 1 true (.object "LaundryLoads$Tape") := ⟨RX6, TX6, 10, ci6, by decide, rfl, tt_of 284 (by decide +kernel) rfl, rfl, by decide +kernel⟩
theorem fl_6_26 : FL RX6 26 6 2 true (.object "LaundryLoads$Hall") := ⟨RX6, TX6, 10, ci6, by decide, rfl, tt_of 285 (by decide +kernel) rfl, rfl, by decide +kernel⟩
theorem fl_6_30 : FL RX6 30 6 3 true (.object "LaundryLoads$Hall") := ⟨RX6, TX6, 10, ci6, by decide, rfl, tt_of 286 (by decide +kernel) rfl, rfl, by decide +kernel⟩
theorem fl_6_36 : FL RX6 36 6 4 true (.object "LaundryLoads$Acts") := ⟨RX6, TX6, 10, ci6, by decide, rfl, tt_of 287 (by decide +kernel) rfl, rfl, by decide +kernel⟩
theorem fl_6_40 : FL RX6 40 6 5 true (.array (.object "LaundryLoads$Hall")) := ⟨RX6, TX6, 10, ci6, by decide, rfl, tt_of 288 (by decide +kernel) rfl, rfl, by decide +kernel⟩
theorem fl_6_47 : FL RX6 47 6 6 true (.object "LaundryLoads$Orders") := ⟨RX6, TX6, 10, ci6, by decide, rfl, tt_of 289 (by decide +kernel) rfl, rfl, by decide +kernel⟩
theorem fl_6_54 : FL RX6 54 6 7 true (.object "LaundryLoads$Asks") := ⟨RX6, TX6, 10, ci6, by decide, rfl, tt_of 290 (by decide +kernel) rfl, rfl, by decide +kernel⟩
theorem fl_6_58 : FL RX6 58 6 8 true (.array .int) := ⟨RX6, TX6, 10, ci6, by decide, rfl, tt_of 291 (by decide +kernel) rfl, rfl, by decide +kernel⟩
theorem fl_6_88 : FL RX6 88 4 0 true (.array .int) := ⟨RX4, TX4, 3, ci4, by decide, rfl, tt_of 104 (by decide +kernel) rfl, rfl, by decide +kernel⟩
theorem fl_6_95 : FL RX6 95 4 2 true (.array (.array .int)) := ⟨RX4, TX4, 3, ci4, by decide, rfl, tt_of 107 (by decide +kernel) rfl, rfl, by decide +kernel⟩
theorem fl_6_108 : FL RX6 108 6 9 false .int := ⟨RX6, TX6, 10, ci6, by decide, rfl, tt_of 292 (by decide +kernel) rfl, rfl, by decide +kernel⟩
theorem fl_6_116 : FL RX6 116 5 1 false .int := ⟨RX5, TX5, 7, ci5, by decide, rfl, tt_of 124 (by decide +kernel) rfl, rfl, by decide +kernel⟩
theorem fl_6_125 : FL RX6 125 5 3 false .int := ⟨RX5, TX5, 7, ci5, by decide, rfl, tt_of 126 (by decide +kernel) rfl, rfl, by decide +kernel⟩
theorem fl_6_132 : FL RX6 132 2 2 false .int := ⟨RX2, TX2, 16, ci2, by decide, rfl, tt_of 160 (by decide +kernel) rfl, rfl, by decide +kernel⟩
theorem fl_6_135 : FL RX6 135 5 6 false .int := ⟨RX5, TX5, 7, ci5, by decide, rfl, tt_of 131 (by decide +kernel) rfl, rfl, by decide +kernel⟩
theorem fl_6_138 : FL RX6 138 0 1 false .int := ⟨RX0, TX0, 3, ci0, by decide, rfl, tt_of 235 (by decide +kernel) rfl, rfl, by decide +kernel⟩
theorem fl_6_158 : FL RX6 158 2 1 false .int := ⟨RX2, TX2, 16, ci2, by decide, rfl, tt_of 157 (by decide +kernel) rfl, rfl, by decide +kernel⟩
theorem fl_6_180 : FL RX6 180 2 0 false .int := ⟨RX2, TX2, 16, ci2, by decide, rfl, tt_of 155 (by decide +kernel) rfl, rfl, by decide +kernel⟩
theorem fl_6_186 : FL RX6 186 2 12 true (.array .int) := ⟨RX2, TX2, 16, ci2, by decide, rfl, tt_of 184 (by decide +kernel) rfl, rfl, by decide +kernel⟩
theorem fl_6_189 : FL RX6 189 2 13 true (.array .int) := ⟨RX2, TX2, 16, ci2, by decide, rfl, tt_of 186 (by decide +kernel) rfl, rfl, by decide +kernel⟩
theorem fl_6_196 : FL RX6 196 2 6 true (.array .int) := ⟨RX2, TX2, 16, ci2, by decide, rfl, tt_of 172 (by decide +kernel) rfl, rfl, by decide +kernel⟩
theorem fl_6_199 : FL RX6 199 2 7 true (.array .int) := ⟨RX2, TX2, 16, ci2, by decide, rfl, tt_of 174 (by decide +kernel) rfl, rfl, by decide +kernel⟩
theorem fl_6_205 : FL RX6 205 2 9 true (.array .int) := ⟨RX2, TX2, 16, ci2, by decide, rfl, tt_of 177 (by decide +kernel) rfl, rfl, by decide +kernel⟩
theorem fl_6_208 : FL RX6 208 2 10 true (.array .int) := ⟨RX2, TX2, 16, ci2, by decide, rfl, tt_of 180 (by decide +kernel) rfl, rfl, by decide +kernel⟩
theorem fl_6_214 : FL RX6 214 2 11 true (.array .int) := ⟨RX2, TX2, 16, ci2, by decide, rfl, tt_of 182 (by decide +kernel) rfl, rfl, by decide +kernel⟩
theorem fl_6_217 : FL RX6 217 2 14 true (.array .int) := ⟨RX2, TX2, 16, ci2, by decide, rfl, tt_of 188 (by decide +kernel) rfl, rfl, by decide +kernel⟩
theorem fl_6_228 : FL RX6 228 2 4 false .int := ⟨RX2, TX2, 16, ci2, by decide, rfl, tt_of 166 (by decide +kernel) rfl, rfl, by decide +kernel⟩
theorem fl_6_259 : FL RX6 259 3 1 false .int := ⟨RX3, TX3, 5, ci3, by decide, rfl, tt_of 253 (by decide +kernel) rfl, rfl, by decide +kernel⟩
theorem fl_6_262 : FL RX6 262 2 3 false .int := ⟨RX2, TX2, 16, ci2, by decide, rfl, tt_of 164 (by decide +kernel) rfl, rfl, by decide +kernel⟩
theorem fl_6_265 : FL RX6 265 3 0 true (.array .int) := ⟨RX3, TX3, 5, ci3, by decide, rfl, tt_of 251 (by decide +kernel) rfl, rfl, by decide +kernel⟩
theorem fl_6_335 : FL RX6 335 2 5 true (.array .int) := ⟨RX2, TX2, 16, ci2, by decide, rfl, tt_of 169 (by decide +kernel) rfl, rfl, by decide +kernel⟩
theorem fl_6_349 : FL RX6 349 1 1 false .int := ⟨RX1, TX1, 2, ci1, by decide, rfl, tt_of 277 (by decide +kernel) rfl, rfl, by decide +kernel⟩
theorem fl_6_352 : FL RX6 352 1 0 true (.array .int) := ⟨RX1, TX1, 2, ci1, by decide, rfl, tt_of 275 (by decide +kernel) rfl, rfl, by decide +kernel⟩
theorem fl_0_11 : FL RX0 11 0 0 true (.array (.object "LaundryLoads$Hall")) := ⟨RX0, TX0, 3, ci0, by decide, rfl, tt_of 233 (by decide +kernel) rfl, rfl, by decide +kernel⟩
theorem fl_0_18 : FL RX0 18 0 2 false .int := ⟨RX0, TX0, 3, ci0, by decide, rfl, tt_of 236 (by decide +kernel) rfl, rfl, by decide +kernel⟩
theorem fl_0_26 : FL RX0 26 0 1 false .int := ⟨RX0, TX0, 3, ci0, by decide, rfl, tt_of 234 (by decide +kernel) rfl, rfl, by decide +kernel⟩
theorem fl_1_11 : FL RX1 11 1 0 true (.array .int) := ⟨RX1, TX1, 2, ci1, by decide, rfl, tt_of 274 (by decide +kernel) rfl, rfl, by decide +kernel⟩
theorem fl_1_15 : FL RX1 15 1 1 false .int := ⟨RX1, TX1, 2, ci1, by decide, rfl, tt_of 276 (by decide +kernel) rfl, rfl, by decide +kernel⟩
theorem fl_1_19 : FL RX1 19 2 5 true (.array .int) := ⟨RX2, TX2, 16, ci2, by decide, rfl, tt_of 168 (by decide +kernel) rfl, rfl, by decide +kernel⟩
theorem fl_1_45 : FL RX1 45 2 6 true (.array .int) := ⟨RX2, TX2, 16, ci2, by decide, rfl, tt_of 171 (by decide +kernel) rfl, rfl, by decide +kernel⟩
theorem fl_1_48 : FL RX1 48 2 10 true (.array .int) := ⟨RX2, TX2, 16, ci2, by decide, rfl, tt_of 179 (by decide +kernel) rfl, rfl, by decide +kernel⟩
theorem fl_2_9 : FL RX2 9 2 5 true (.array .int) := ⟨RX2, TX2, 16, ci2, by decide, rfl, tt_of 167 (by decide +kernel) rfl, rfl, by decide +kernel⟩
theorem fl_2_15 : FL RX2 15 2 6 true (.array .int) := ⟨RX2, TX2, 16, ci2, by decide, rfl, tt_of 170 (by decide +kernel) rfl, rfl, by decide +kernel⟩
theorem fl_2_18 : FL RX2 18 2 7 true (.array .int) := ⟨RX2, TX2, 16, ci2, by decide, rfl, tt_of 173 (by decide +kernel) rfl, rfl, by decide +kernel⟩
theorem fl_2_21 : FL RX2 21 2 8 true (.array .int) := ⟨RX2, TX2, 16, ci2, by decide, rfl, tt_of 175 (by decide +kernel) rfl, rfl, by decide +kernel⟩
theorem fl_2_24 : FL RX2 24 2 9 true (.array .int) := ⟨RX2, TX2, 16, ci2, by decide, rfl, tt_of 176 (by decide +kernel) rfl, rfl, by decide +kernel⟩
theorem fl_2_27 : FL RX2 27 2 10 true (.array .int) := ⟨RX2, TX2, 16, ci2, by decide, rfl, tt_of 178 (by decide +kernel) rfl, rfl, by decide +kernel⟩
theorem fl_2_30 : FL RX2 30 2 11 true (.array .int) := ⟨RX2, TX2, 16, ci2, by decide, rfl, tt_of 181 (by decide +kernel) rfl, rfl, by decide +kernel⟩
theorem fl_2_33 : FL RX2 33 2 12 true (.array .int) := ⟨RX2, TX2, 16, ci2, by decide, rfl, tt_of 183 (by decide +kernel) rfl, rfl, by decide +kernel⟩
theorem fl_2_36 : FL RX2 36 2 13 true (.array .int) := ⟨RX2, TX2, 16, ci2, by decide, rfl, tt_of 185 (by decide +kernel) rfl, rfl, by decide +kernel⟩
theorem fl_2_39 : FL RX2 39 2 14 true (.array .int) := ⟨RX2, TX2, 16, ci2, by decide, rfl, tt_of 187 (by decide +kernel) rfl, rfl, by decide +kernel⟩
theorem fl_2_42 : FL RX2 42 2 15 true (.array .int) := ⟨RX2, TX2, 16, ci2, by decide, rfl, tt_of 189 (by decide +kernel) rfl, rfl, by decide +kernel⟩
theorem fl_2_45 : FL RX2 45 2 0 false .int := ⟨RX2, TX2, 16, ci2, by decide, rfl, tt_of 153 (by decide +kernel) rfl, rfl, by decide +kernel⟩
theorem fl_2_49 : FL RX2 49 2 1 false .int := ⟨RX2, TX2, 16, ci2, by decide, rfl, tt_of 156 (by decide +kernel) rfl, rfl, by decide +kernel⟩
theorem fl_2_52 : FL RX2 52 2 2 false .int := ⟨RX2, TX2, 16, ci2, by decide, rfl, tt_of 158 (by decide +kernel) rfl, rfl, by decide +kernel⟩
theorem fl_2_55 : FL RX2 55 2 3 false .int := ⟨RX2, TX2, 16, ci2, by decide, rfl, tt_of 161 (by decide +kernel) rfl, rfl, by decide +kernel⟩
theorem fl_2_58 : FL RX2 58 2 4 false .int := ⟨RX2, TX2, 16, ci2, by decide, rfl, tt_of 165 (by decide +kernel) rfl, rfl, by decide +kernel⟩
theorem fl_3_9 : FL RX3 9 3 0 true (.array .int) := ⟨RX3, TX3, 5, ci3, by decide, rfl, tt_of 250 (by decide +kernel) rfl, rfl, by decide +kernel⟩
theorem fl_3_15 : FL RX3 15 3 4 true (.array .int) := ⟨RX3, TX3, 5, ci3, by decide, rfl, tt_of 256 (by decide +kernel) rfl, rfl, by decide +kernel⟩
theorem fl_3_18 : FL RX3 18 3 3 false .int := ⟨RX3, TX3, 5, ci3, by decide, rfl, tt_of 255 (by decide +kernel) rfl, rfl, by decide +kernel⟩
theorem fl_3_22 : FL RX3 22 2 15 true (.array .int) := ⟨RX2, TX2, 16, ci2, by decide, rfl, tt_of 190 (by decide +kernel) rfl, rfl, by decide +kernel⟩
theorem fl_3_41 : FL RX3 41 3 1 false .int := ⟨RX3, TX3, 5, ci3, by decide, rfl, tt_of 252 (by decide +kernel) rfl, rfl, by decide +kernel⟩
theorem fl_3_44 : FL RX3 44 3 2 false .int := ⟨RX3, TX3, 5, ci3, by decide, rfl, tt_of 254 (by decide +kernel) rfl, rfl, by decide +kernel⟩
theorem fl_3_47 : FL RX3 47 2 3 false .int := ⟨RX2, TX2, 16, ci2, by decide, rfl, tt_of 162 (by decide +kernel) rfl, rfl, by decide +kernel⟩
theorem fl_4_11 : FL RX4 11 4 0 true (.array .int) := ⟨RX4, TX4, 3, ci4, by decide, rfl, tt_of 103 (by decide +kernel) rfl, rfl, by decide +kernel⟩
theorem fl_4_15 : FL RX4 15 4 1 true (.array .int) := ⟨RX4, TX4, 3, ci4, by decide, rfl, tt_of 105 (by decide +kernel) rfl, rfl, by decide +kernel⟩
theorem fl_4_20 : FL RX4 20 4 2 true (.array (.array .int)) := ⟨RX4, TX4, 3, ci4, by decide, rfl, tt_of 106 (by decide +kernel) rfl, rfl, by decide +kernel⟩
theorem fl_5_11 : FL RX5 11 5 0 true (.array .int) := ⟨RX5, TX5, 7, ci5, by decide, rfl, tt_of 122 (by decide +kernel) rfl, rfl, by decide +kernel⟩
theorem fl_5_15 : FL RX5 15 5 1 false .int := ⟨RX5, TX5, 7, ci5, by decide, rfl, tt_of 123 (by decide +kernel) rfl, rfl, by decide +kernel⟩
theorem fl_5_24 : FL RX5 24 5 4 false .int := ⟨RX5, TX5, 7, ci5, by decide, rfl, tt_of 128 (by decide +kernel) rfl, rfl, by decide +kernel⟩
theorem fl_5_52 : FL RX5 52 2 0 false .int := ⟨RX2, TX2, 16, ci2, by decide, rfl, tt_of 154 (by decide +kernel) rfl, rfl, by decide +kernel⟩
theorem fl_5_55 : FL RX5 55 5 2 false .int := ⟨RX5, TX5, 7, ci5, by decide, rfl, tt_of 125 (by decide +kernel) rfl, rfl, by decide +kernel⟩
theorem fl_5_68 : FL RX5 68 2 2 false .int := ⟨RX2, TX2, 16, ci2, by decide, rfl, tt_of 159 (by decide +kernel) rfl, rfl, by decide +kernel⟩
theorem fl_5_78 : FL RX5 78 2 3 false .int := ⟨RX2, TX2, 16, ci2, by decide, rfl, tt_of 163 (by decide +kernel) rfl, rfl, by decide +kernel⟩
theorem fl_5_85 : FL RX5 85 5 6 false .int := ⟨RX5, TX5, 7, ci5, by decide, rfl, tt_of 130 (by decide +kernel) rfl, rfl, by decide +kernel⟩
theorem fl_5_88 : FL RX5 88 5 5 false .int := ⟨RX5, TX5, 7, ci5, by decide, rfl, tt_of 129 (by decide +kernel) rfl, rfl, by decide +kernel⟩
theorem fl_5_91 : FL RX5 91 5 3 false .int := ⟨RX5, TX5, 7, ci5, by decide, rfl, tt_of 127 (by decide +kernel) rfl, rfl, by decide +kernel⟩
theorem fl_7_7 : FL RX7 7 7 1 true (.array .int) := ⟨RX7, TX7, 30, ci7, by decide, rfl, tt_of 853 (by decide +kernel) rfl, rfl, by decide +kernel⟩
theorem fl_7_13 : FL RX7 13 7 2 true (.array .int) := ⟨RX7, TX7, 30, ci7, by decide, rfl, tt_of 854 (by decide +kernel) rfl, rfl, by decide +kernel⟩
theorem fl_7_16 : FL RX7 16 7 3 true (.array .int) := ⟨RX7, TX7, 30, ci7, by decide, rfl, tt_of 855 (by decide +kernel) rfl, rfl, by decide +kernel⟩
theorem fl_7_19 : FL RX7 19 7 5 true (.array .int) := ⟨RX7, TX7, 30, ci7, by decide, rfl, tt_of 857 (by decide +kernel) rfl, rfl, by decide +kernel⟩
theorem fl_7_22 : FL RX7 22 7 14 true (.array .int) := ⟨RX7, TX7, 30, ci7, by decide, rfl, tt_of 866 (by decide +kernel) rfl, rfl, by decide +kernel⟩
theorem fl_7_25 : FL RX7 25 7 15 true (.array .int) := ⟨RX7, TX7, 30, ci7, by decide, rfl, tt_of 867 (by decide +kernel) rfl, rfl, by decide +kernel⟩
theorem fl_7_28 : FL RX7 28 7 16 true (.array .int) := ⟨RX7, TX7, 30, ci7, by decide, rfl, tt_of 868 (by decide +kernel) rfl, rfl, by decide +kernel⟩
theorem fl_7_31 : FL RX7 31 7 17 true (.array .int) := ⟨RX7, TX7, 30, ci7, by decide, rfl, tt_of 869 (by decide +kernel) rfl, rfl, by decide +kernel⟩
theorem fl_7_34 : FL RX7 34 7 18 true (.array .int) := ⟨RX7, TX7, 30, ci7, by decide, rfl, tt_of 870 (by decide +kernel) rfl, rfl, by decide +kernel⟩
theorem fl_7_37 : FL RX7 37 7 19 true (.array .int) := ⟨RX7, TX7, 30, ci7, by decide, rfl, tt_of 871 (by decide +kernel) rfl, rfl, by decide +kernel⟩
theorem fl_7_40 : FL RX7 40 7 20 true (.array .int) := ⟨RX7, TX7, 30, ci7, by decide, rfl, tt_of 872 (by decide +kernel) rfl, rfl, by decide +kernel⟩
theorem fl_7_43 : FL RX7 43 7 22 true (.array .int) := ⟨RX7, TX7, 30, ci7, by decide, rfl, tt_of 874 (by decide +kernel) rfl, rfl, by decide +kernel⟩
theorem fl_7_46 : FL RX7 46 7 24 true (.array .int) := ⟨RX7, TX7, 30, ci7, by decide, rfl, tt_of 876 (by decide +kernel) rfl, rfl, by decide +kernel⟩
theorem fl_7_49 : FL RX7 49 7 25 true (.array .boolean) := ⟨RX7, TX7, 30, ci7, by decide, rfl, tt_of 877 (by decide +kernel) rfl, rfl, by decide +kernel⟩
theorem fl_7_53 : FL RX7 53 7 26 true (.array .int) := ⟨RX7, TX7, 30, ci7, by decide, rfl, tt_of 878 (by decide +kernel) rfl, rfl, by decide +kernel⟩
theorem fl_7_56 : FL RX7 56 7 28 true (.array .int) := ⟨RX7, TX7, 30, ci7, by decide, rfl, tt_of 880 (by decide +kernel) rfl, rfl, by decide +kernel⟩
theorem fl_7_59 : FL RX7 59 7 29 true (.array .int) := ⟨RX7, TX7, 30, ci7, by decide, rfl, tt_of 881 (by decide +kernel) rfl, rfl, by decide +kernel⟩
theorem fl_7_62 : FL RX7 62 7 0 false .int := ⟨RX7, TX7, 30, ci7, by decide, rfl, tt_of 852 (by decide +kernel) rfl, rfl, by decide +kernel⟩
theorem fl_7_66 : FL RX7 66 7 4 false .int := ⟨RX7, TX7, 30, ci7, by decide, rfl, tt_of 856 (by decide +kernel) rfl, rfl, by decide +kernel⟩
theorem fl_7_89 : FL RX7 89 7 6 false .int := ⟨RX7, TX7, 30, ci7, by decide, rfl, tt_of 858 (by decide +kernel) rfl, rfl, by decide +kernel⟩
theorem fl_7_93 : FL RX7 93 7 7 false .int := ⟨RX7, TX7, 30, ci7, by decide, rfl, tt_of 859 (by decide +kernel) rfl, rfl, by decide +kernel⟩
theorem fl_7_96 : FL RX7 96 7 8 false .int := ⟨RX7, TX7, 30, ci7, by decide, rfl, tt_of 860 (by decide +kernel) rfl, rfl, by decide +kernel⟩
theorem fl_7_102 : FL RX7 102 7 10 false .int := ⟨RX7, TX7, 30, ci7, by decide, rfl, tt_of 862 (by decide +kernel) rfl, rfl, by decide +kernel⟩
theorem fl_7_105 : FL RX7 105 7 9 false .int := ⟨RX7, TX7, 30, ci7, by decide, rfl, tt_of 861 (by decide +kernel) rfl, rfl, by decide +kernel⟩
theorem fl_7_108 : FL RX7 108 7 11 false .int := ⟨RX7, TX7, 30, ci7, by decide, rfl, tt_of 863 (by decide +kernel) rfl, rfl, by decide +kernel⟩
theorem fl_7_115 : FL RX7 115 7 12 false .int := ⟨RX7, TX7, 30, ci7, by decide, rfl, tt_of 864 (by decide +kernel) rfl, rfl, by decide +kernel⟩
theorem fl_7_145 : FL RX7 145 7 13 false .int := ⟨RX7, TX7, 30, ci7, by decide, rfl, tt_of 865 (by decide +kernel) rfl, rfl, by decide +kernel⟩
theorem fl_7_149 : FL RX7 149 7 23 false .int := ⟨RX7, TX7, 30, ci7, by decide, rfl, tt_of 875 (by decide +kernel) rfl, rfl, by decide +kernel⟩
theorem fl_7_155 : FL RX7 155 7 21 false .int := ⟨RX7, TX7, 30, ci7, by decide, rfl, tt_of 873 (by decide +kernel) rfl, rfl, by decide +kernel⟩
theorem fl_7_264 : FL RX7 264 7 27 false .int := ⟨RX7, TX7, 30, ci7, by decide, rfl, tt_of 879 (by decide +kernel) rfl, rfl, by decide +kernel⟩
theorem cc_X6_init : CLc M_X6_init 0 := ⟨tt_of 76 (by decide +kernel) rfl, tt_of 91 (by decide +kernel) rfl, ⟨by decide +kernel, by decide +kernel, by decide +kernel⟩, by decide⟩
theorem cc_X4_init : CLc M_X4_init 0 := ⟨tt_of 77 (by decide +kernel) rfl, tt_of 99 (by decide +kernel) rfl, ⟨by decide +kernel, by decide +kernel, by decide +kernel⟩, by decide⟩
theorem cc_X5_init : CLc M_X5_init 0 := ⟨tt_of 78 (by decide +kernel) rfl, tt_of 120 (by decide +kernel) rfl, ⟨by decide +kernel, by decide +kernel, by decide +kernel⟩, by decide⟩
theorem cc_X2_init : CLc M_X2_init 0 := ⟨tt_of 79 (by decide +kernel) rfl, tt_of 151 (by decide +kernel) rfl, ⟨by decide +kernel, by decide +kernel, by decide +kernel⟩, by decide⟩
theorem cc_X0_init : CLc M_X0_init 0 := ⟨tt_of 80 (by decide +kernel) rfl, tt_of 228 (by decide +kernel) rfl, ⟨by decide +kernel, by decide +kernel, by decide +kernel⟩, by decide⟩
theorem cc_X3_init : CLc M_X3_init 0 := ⟨tt_of 81 (by decide +kernel) rfl, tt_of 248 (by decide +kernel) rfl, ⟨by decide +kernel, by decide +kernel, by decide +kernel⟩, by decide⟩
theorem cc_X1_init : CLc M_X1_init 0 := ⟨tt_of 82 (by decide +kernel) rfl, tt_of 272 (by decide +kernel) rfl, ⟨by decide +kernel, by decide +kernel, by decide +kernel⟩, by decide⟩
theorem cc_X6_row : CLc M_X6_row 3 := ⟨tt_of 76 (by decide +kernel) rfl, tt_of 317 (by decide +kernel) rfl, ⟨by decide +kernel, by decide +kernel, by decide +kernel⟩, by decide⟩
theorem cc_X4_isOne : CLc M_X4_isOne 1 := ⟨tt_of 77 (by decide +kernel) rfl, tt_of 320 (by decide +kernel) rfl, ⟨by decide +kernel, by decide +kernel, by decide +kernel⟩, by decide⟩
theorem cc_X6_found : CLc M_X6_found 1 := ⟨tt_of 76 (by decide +kernel) rfl, tt_of 325 (by decide +kernel) rfl, ⟨by decide +kernel, by decide +kernel, by decide +kernel⟩, by decide⟩
theorem cc_X4_make : CLc M_X4_make 3 := ⟨tt_of 77 (by decide +kernel) rfl, tt_of 330 (by decide +kernel) rfl, ⟨by decide +kernel, by decide +kernel, by decide +kernel⟩, by decide⟩
theorem cc_X6_foundNothing : CLc M_X6_foundNothing 1 := ⟨tt_of 76 (by decide +kernel) rfl, tt_of 334 (by decide +kernel) rfl, ⟨by decide +kernel, by decide +kernel, by decide +kernel⟩, by decide⟩
theorem cc_X6_set : CLc M_X6_set 3 := ⟨tt_of 76 (by decide +kernel) rfl, tt_of 338 (by decide +kernel) rfl, ⟨by decide +kernel, by decide +kernel, by decide +kernel⟩, by decide⟩
theorem cc_X4_findingOf : CLc M_X4_findingOf 3 := ⟨tt_of 77 (by decide +kernel) rfl, tt_of 342 (by decide +kernel) rfl, ⟨by decide +kernel, by decide +kernel, by decide +kernel⟩, by decide⟩
theorem cc_X4_isMissing : CLc M_X4_isMissing 1 := ⟨tt_of 77 (by decide +kernel) rfl, tt_of 346 (by decide +kernel) rfl, ⟨by decide +kernel, by decide +kernel, by decide +kernel⟩, by decide⟩
theorem cc_X4_hasPlaces : CLc M_X4_hasPlaces 3 := ⟨tt_of 77 (by decide +kernel) rfl, tt_of 350 (by decide +kernel) rfl, ⟨by decide +kernel, by decide +kernel, by decide +kernel⟩, by decide⟩
theorem cc_X4_put : CLc M_X4_put 3 := ⟨tt_of 77 (by decide +kernel) rfl, tt_of 354 (by decide +kernel) rfl, ⟨by decide +kernel, by decide +kernel, by decide +kernel⟩, by decide⟩
theorem cc_X6_copy : CLc M_X6_copy 5 := ⟨tt_of 76 (by decide +kernel) rfl, tt_of 358 (by decide +kernel) rfl, ⟨by decide +kernel, by decide +kernel, by decide +kernel⟩, by decide⟩
theorem cc_X6_drop : CLc M_X6_drop 1 := ⟨tt_of 76 (by decide +kernel) rfl, tt_of 367 (by decide +kernel) rfl, ⟨by decide +kernel, by decide +kernel, by decide +kernel⟩, by decide⟩
theorem cc_X4_remove : CLc M_X4_remove 1 := ⟨tt_of 77 (by decide +kernel) rfl, tt_of 371 (by decide +kernel) rfl, ⟨by decide +kernel, by decide +kernel, by decide +kernel⟩, by decide⟩
theorem cc_X6_feed : CLc M_X6_feed 1 := ⟨tt_of 76 (by decide +kernel) rfl, tt_of 375 (by decide +kernel) rfl, ⟨by decide +kernel, by decide +kernel, by decide +kernel⟩, by decide⟩
theorem cc_X5_takeIn : CLc M_X5_takeIn 1 := ⟨tt_of 78 (by decide +kernel) rfl, tt_of 379 (by decide +kernel) rfl, ⟨by decide +kernel, by decide +kernel, by decide +kernel⟩, by decide⟩
theorem cc_X6_launderette : CLc M_X6_launderette 0 := ⟨tt_of 76 (by decide +kernel) rfl, tt_of 384 (by decide +kernel) rfl, ⟨by decide +kernel, by decide +kernel, by decide +kernel⟩, by decide⟩
theorem cc_X5_readInto : CLc M_X5_readInto 1 := ⟨tt_of 78 (by decide +kernel) rfl, tt_of 388 (by decide +kernel) rfl, ⟨by decide +kernel, by decide +kernel, by decide +kernel⟩, by decide⟩
theorem cc_X2_clear : CLc M_X2_clear 0 := ⟨tt_of 79 (by decide +kernel) rfl, tt_of 392 (by decide +kernel) rfl, ⟨by decide +kernel, by decide +kernel, by decide +kernel⟩, by decide⟩
theorem cc_X5_toNextToken : CLc M_X5_toNextToken 0 := ⟨tt_of 78 (by decide +kernel) rfl, tt_of 396 (by decide +kernel) rfl, ⟨by decide +kernel, by decide +kernel, by decide +kernel⟩, by decide⟩
theorem cc_X5_isFigure : CLc M_X5_isFigure 1 := ⟨tt_of 78 (by decide +kernel) rfl, tt_of 400 (by decide +kernel) rfl, ⟨by decide +kernel, by decide +kernel, by decide +kernel⟩, by decide⟩
theorem cc_X5_readFigures : CLc M_X5_readFigures 0 := ⟨tt_of 78 (by decide +kernel) rfl, tt_of 404 (by decide +kernel) rfl, ⟨by decide +kernel, by decide +kernel, by decide +kernel⟩, by decide⟩
theorem cc_X5_readLaw : CLc M_X5_readLaw 1 := ⟨tt_of 78 (by decide +kernel) rfl, tt_of 408 (by decide +kernel) rfl, ⟨by decide +kernel, by decide +kernel, by decide +kernel⟩, by decide⟩
theorem cc_X5_passes : CLc M_X5_passes 1 := ⟨tt_of 78 (by decide +kernel) rfl, tt_of 412 (by decide +kernel) rfl, ⟨by decide +kernel, by decide +kernel, by decide +kernel⟩, by decide⟩
theorem cc_X5_failed : CLc M_X5_failed 1 := ⟨tt_of 78 (by decide +kernel) rfl, tt_of 416 (by decide +kernel) rfl, ⟨by decide +kernel, by decide +kernel, by decide +kernel⟩, by decide⟩
theorem cc_X5_isNumber : CLc M_X5_isNumber 2 := ⟨tt_of 78 (by decide +kernel) rfl, tt_of 420 (by decide +kernel) rfl, ⟨by decide +kernel, by decide +kernel, by decide +kernel⟩, by decide⟩
theorem cc_X5_takeNumber : CLc M_X5_takeNumber 0 := ⟨tt_of 78 (by decide +kernel) rfl, tt_of 424 (by decide +kernel) rfl, ⟨by decide +kernel, by decide +kernel, by decide +kernel⟩, by decide⟩
theorem cc_X5_readMachines : CLc M_X5_readMachines 1 := ⟨tt_of 78 (by decide +kernel) rfl, tt_of 428 (by decide +kernel) rfl, ⟨by decide +kernel, by decide +kernel, by decide +kernel⟩, by decide⟩
theorem cc_X5_kindOfLetter : CLc M_X5_kindOfLetter 1 := ⟨tt_of 78 (by decide +kernel) rfl, tt_of 431 (by decide +kernel) rfl, ⟨by decide +kernel, by decide +kernel, by decide +kernel⟩, by decide⟩
theorem cc_X5_readMachine : CLc M_X5_readMachine 1 := ⟨tt_of 78 (by decide +kernel) rfl, tt_of 435 (by decide +kernel) rfl, ⟨by decide +kernel, by decide +kernel, by decide +kernel⟩, by decide⟩
theorem cc_X2_addMachine : CLc M_X2_addMachine 3 := ⟨tt_of 79 (by decide +kernel) rfl, tt_of 439 (by decide +kernel) rfl, ⟨by decide +kernel, by decide +kernel, by decide +kernel⟩, by decide⟩
theorem cc_X5_readLoads : CLc M_X5_readLoads 1 := ⟨tt_of 78 (by decide +kernel) rfl, tt_of 443 (by decide +kernel) rfl, ⟨by decide +kernel, by decide +kernel, by decide +kernel⟩, by decide⟩
theorem cc_X5_readLoad : CLc M_X5_readLoad 1 := ⟨tt_of 78 (by decide +kernel) rfl, tt_of 447 (by decide +kernel) rfl, ⟨by decide +kernel, by decide +kernel, by decide +kernel⟩, by decide⟩
theorem cc_X2_addLoad : CLc M_X2_addLoad 2 := ⟨tt_of 79 (by decide +kernel) rfl, tt_of 451 (by decide +kernel) rfl, ⟨by decide +kernel, by decide +kernel, by decide +kernel⟩, by decide⟩
theorem cc_X2_dirty : CLc M_X2_dirty 2 := ⟨tt_of 79 (by decide +kernel) rfl, tt_of 455 (by decide +kernel) rfl, ⟨by decide +kernel, by decide +kernel, by decide +kernel⟩, by decide⟩
theorem cc_X6_replaceHall : CLc M_X6_replaceHall 1 := ⟨tt_of 76 (by decide +kernel) rfl, tt_of 460 (by decide +kernel) rfl, ⟨by decide +kernel, by decide +kernel, by decide +kernel⟩, by decide⟩
theorem cc_X2_become : CLc M_X2_become 1 := ⟨tt_of 79 (by decide +kernel) rfl, tt_of 464 (by decide +kernel) rfl, ⟨by decide +kernel, by decide +kernel, by decide +kernel⟩, by decide⟩
theorem cc_X3_forget : CLc M_X3_forget 0 := ⟨tt_of 81 (by decide +kernel) rfl, tt_of 469 (by decide +kernel) rfl, ⟨by decide +kernel, by decide +kernel, by decide +kernel⟩, by decide⟩
theorem cc_X6_fault : CLc M_X6_fault 0 := ⟨tt_of 76 (by decide +kernel) rfl, tt_of 473 (by decide +kernel) rfl, ⟨by decide +kernel, by decide +kernel, by decide +kernel⟩, by decide⟩
theorem cc_X6_undo : CLc M_X6_undo 0 := ⟨tt_of 76 (by decide +kernel) rfl, tt_of 477 (by decide +kernel) rfl, ⟨by decide +kernel, by decide +kernel, by decide +kernel⟩, by decide⟩
theorem cc_X0_takeBack : CLc M_X0_takeBack 1 := ⟨tt_of 80 (by decide +kernel) rfl, tt_of 482 (by decide +kernel) rfl, ⟨by decide +kernel, by decide +kernel, by decide +kernel⟩, by decide⟩
theorem cc_X6_ticks : CLc M_X6_ticks 1 := ⟨tt_of 76 (by decide +kernel) rfl, tt_of 487 (by decide +kernel) rfl, ⟨by decide +kernel, by decide +kernel, by decide +kernel⟩, by decide⟩
theorem cc_X2_isNone : CLc M_X2_isNone 0 := ⟨tt_of 79 (by decide +kernel) rfl, tt_of 491 (by decide +kernel) rfl, ⟨by decide +kernel, by decide +kernel, by decide +kernel⟩, by decide⟩
theorem cc_X6_beginAct : CLc M_X6_beginAct 0 := ⟨tt_of 76 (by decide +kernel) rfl, tt_of 495 (by decide +kernel) rfl, ⟨by decide +kernel, by decide +kernel, by decide +kernel⟩, by decide⟩
theorem cc_X0_keep : CLc M_X0_keep 1 := ⟨tt_of 80 (by decide +kernel) rfl, tt_of 499 (by decide +kernel) rfl, ⟨by decide +kernel, by decide +kernel, by decide +kernel⟩, by decide⟩
theorem cc_J9_min_7cf53 : CLc M_J9_min_7cf53 2 := ⟨tt_of 85 (by decide +kernel) rfl, tt_of 502 (by decide +kernel) rfl, ⟨by decide +kernel, by decide +kernel, by decide +kernel⟩, by decide⟩
theorem cc_X2_passTick : CLc M_X2_passTick 0 := ⟨tt_of 79 (by decide +kernel) rfl, tt_of 506 (by decide +kernel) rfl, ⟨by decide +kernel, by decide +kernel, by decide +kernel⟩, by decide⟩
theorem cc_X2_takeOut : CLc M_X2_takeOut 1 := ⟨tt_of 79 (by decide +kernel) rfl, tt_of 510 (by decide +kernel) rfl, ⟨by decide +kernel, by decide +kernel, by decide +kernel⟩, by decide⟩
theorem cc_X2_washes : CLc M_X2_washes 1 := ⟨tt_of 79 (by decide +kernel) rfl, tt_of 514 (by decide +kernel) rfl, ⟨by decide +kernel, by decide +kernel, by decide +kernel⟩, by decide⟩
theorem cc_X2_isOpen : CLc M_X2_isOpen 1 := ⟨tt_of 79 (by decide +kernel) rfl, tt_of 519 (by decide +kernel) rfl, ⟨by decide +kernel, by decide +kernel, by decide +kernel⟩, by decide⟩
theorem cc_X2_waitingFor : CLc M_X2_waitingFor 1 := ⟨tt_of 79 (by decide +kernel) rfl, tt_of 523 (by decide +kernel) rfl, ⟨by decide +kernel, by decide +kernel, by decide +kernel⟩, by decide⟩
theorem cc_X2_putIn : CLc M_X2_putIn 2 := ⟨tt_of 79 (by decide +kernel) rfl, tt_of 527 (by decide +kernel) rfl, ⟨by decide +kernel, by decide +kernel, by decide +kernel⟩, by decide⟩
theorem cc_X2_lastsWith : CLc M_X2_lastsWith 2 := ⟨tt_of 79 (by decide +kernel) rfl, tt_of 531 (by decide +kernel) rfl, ⟨by decide +kernel, by decide +kernel, by decide +kernel⟩, by decide⟩
theorem cc_J9_max_7cf53 : CLc M_J9_max_7cf53 2 := ⟨tt_of 85 (by decide +kernel) rfl, tt_of 534 (by decide +kernel) rfl, ⟨by decide +kernel, by decide +kernel, by decide +kernel⟩, by decide⟩
theorem cc_X2_whichAre : CLc M_X2_whichAre 1 := ⟨tt_of 79 (by decide +kernel) rfl, tt_of 538 (by decide +kernel) rfl, ⟨by decide +kernel, by decide +kernel, by decide +kernel⟩, by decide⟩
theorem cc_X6_shut : CLc M_X6_shut 1 := ⟨tt_of 76 (by decide +kernel) rfl, tt_of 542 (by decide +kernel) rfl, ⟨by decide +kernel, by decide +kernel, by decide +kernel⟩, by decide⟩
theorem cc_X2_hasMachine : CLc M_X2_hasMachine 1 := ⟨tt_of 79 (by decide +kernel) rfl, tt_of 546 (by decide +kernel) rfl, ⟨by decide +kernel, by decide +kernel, by decide +kernel⟩, by decide⟩
theorem cc_X2_turn : CLc M_X2_turn 1 := ⟨tt_of 79 (by decide +kernel) rfl, tt_of 550 (by decide +kernel) rfl, ⟨by decide +kernel, by decide +kernel, by decide +kernel⟩, by decide⟩
theorem cc_X6_power : CLc M_X6_power 1 := ⟨tt_of 76 (by decide +kernel) rfl, tt_of 555 (by decide +kernel) rfl, ⟨by decide +kernel, by decide +kernel, by decide +kernel⟩, by decide⟩
theorem cc_X6_due : CLc M_X6_due 2 := ⟨tt_of 76 (by decide +kernel) rfl, tt_of 559 (by decide +kernel) rfl, ⟨by decide +kernel, by decide +kernel, by decide +kernel⟩, by decide⟩
theorem cc_X2_hasLoad : CLc M_X2_hasLoad 1 := ⟨tt_of 79 (by decide +kernel) rfl, tt_of 563 (by decide +kernel) rfl, ⟨by decide +kernel, by decide +kernel, by decide +kernel⟩, by decide⟩
theorem cc_X6_again : CLc M_X6_again 2 := ⟨tt_of 76 (by decide +kernel) rfl, tt_of 567 (by decide +kernel) rfl, ⟨by decide +kernel, by decide +kernel, by decide +kernel⟩, by decide⟩
theorem cc_X6_machine : CLc M_X6_machine 2 := ⟨tt_of 76 (by decide +kernel) rfl, tt_of 572 (by decide +kernel) rfl, ⟨by decide +kernel, by decide +kernel, by decide +kernel⟩, by decide⟩
theorem cc_X2_loadIn : CLc M_X2_loadIn 1 := ⟨tt_of 79 (by decide +kernel) rfl, tt_of 576 (by decide +kernel) rfl, ⟨by decide +kernel, by decide +kernel, by decide +kernel⟩, by decide⟩
theorem cc_X6_load : CLc M_X6_load 2 := ⟨tt_of 76 (by decide +kernel) rfl, tt_of 582 (by decide +kernel) rfl, ⟨by decide +kernel, by decide +kernel, by decide +kernel⟩, by decide⟩
theorem cc_X2_lateOf : CLc M_X2_lateOf 1 := ⟨tt_of 79 (by decide +kernel) rfl, tt_of 587 (by decide +kernel) rfl, ⟨by decide +kernel, by decide +kernel, by decide +kernel⟩, by decide⟩
theorem cc_X6_lasts : CLc M_X6_lasts 2 := ⟨tt_of 76 (by decide +kernel) rfl, tt_of 591 (by decide +kernel) rfl, ⟨by decide +kernel, by decide +kernel, by decide +kernel⟩, by decide⟩
theorem cc_X6_stand : CLc M_X6_stand 1 := ⟨tt_of 76 (by decide +kernel) rfl, tt_of 596 (by decide +kernel) rfl, ⟨by decide +kernel, by decide +kernel, by decide +kernel⟩, by decide⟩
theorem cc_X2_busyBits : CLc M_X2_busyBits 0 := ⟨tt_of 79 (by decide +kernel) rfl, tt_of 600 (by decide +kernel) rfl, ⟨by decide +kernel, by decide +kernel, by decide +kernel⟩, by decide⟩
theorem cc_X6_ahead : CLc M_X6_ahead 3 := ⟨tt_of 76 (by decide +kernel) rfl, tt_of 604 (by decide +kernel) rfl, ⟨by decide +kernel, by decide +kernel, by decide +kernel⟩, by decide⟩
theorem cc_X6_behind : CLc M_X6_behind 1 := ⟨tt_of 76 (by decide +kernel) rfl, tt_of 608 (by decide +kernel) rfl, ⟨by decide +kernel, by decide +kernel, by decide +kernel⟩, by decide⟩
theorem cc_X6_behindWithOpen : CLc M_X6_behindWithOpen 2 := ⟨tt_of 76 (by decide +kernel) rfl, tt_of 612 (by decide +kernel) rfl, ⟨by decide +kernel, by decide +kernel, by decide +kernel⟩, by decide⟩
theorem cc_X6_asNow : CLc M_X6_asNow 0 := ⟨tt_of 76 (by decide +kernel) rfl, tt_of 616 (by decide +kernel) rfl, ⟨by decide +kernel, by decide +kernel, by decide +kernel⟩, by decide⟩
theorem cc_X2_passTicks : CLc M_X2_passTicks 1 := ⟨tt_of 79 (by decide +kernel) rfl, tt_of 620 (by decide +kernel) rfl, ⟨by decide +kernel, by decide +kernel, by decide +kernel⟩, by decide⟩
theorem cc_X2_quietTicks : CLc M_X2_quietTicks 1 := ⟨tt_of 79 (by decide +kernel) rfl, tt_of 625 (by decide +kernel) rfl, ⟨by decide +kernel, by decide +kernel, by decide +kernel⟩, by decide⟩
theorem cc_X2_passQuietTicks : CLc M_X2_passQuietTicks 1 := ⟨tt_of 79 (by decide +kernel) rfl, tt_of 629 (by decide +kernel) rfl, ⟨by decide +kernel, by decide +kernel, by decide +kernel⟩, by decide⟩
theorem cc_X6_inside : CLc M_X6_inside 3 := ⟨tt_of 76 (by decide +kernel) rfl, tt_of 633 (by decide +kernel) rfl, ⟨by decide +kernel, by decide +kernel, by decide +kernel⟩, by decide⟩
theorem cc_X6_all : CLc M_X6_all 2 := ⟨tt_of 76 (by decide +kernel) rfl, tt_of 637 (by decide +kernel) rfl, ⟨by decide +kernel, by decide +kernel, by decide +kernel⟩, by decide⟩
theorem cc_X2_lateOfAll : CLc M_X2_lateOfAll 0 := ⟨tt_of 79 (by decide +kernel) rfl, tt_of 641 (by decide +kernel) rfl, ⟨by decide +kernel, by decide +kernel, by decide +kernel⟩, by decide⟩
theorem cc_X6_when : CLc M_X6_when 2 := ⟨tt_of 76 (by decide +kernel) rfl, tt_of 646 (by decide +kernel) rfl, ⟨by decide +kernel, by decide +kernel, by decide +kernel⟩, by decide⟩
theorem cc_X2_isWashed : CLc M_X2_isWashed 1 := ⟨tt_of 79 (by decide +kernel) rfl, tt_of 650 (by decide +kernel) rfl, ⟨by decide +kernel, by decide +kernel, by decide +kernel⟩, by decide⟩
theorem cc_X6_over : CLc M_X6_over 0 := ⟨tt_of 76 (by decide +kernel) rfl, tt_of 654 (by decide +kernel) rfl, ⟨by decide +kernel, by decide +kernel, by decide +kernel⟩, by decide⟩
theorem cc_X2_isAllDry : CLc M_X2_isAllDry 0 := ⟨tt_of 79 (by decide +kernel) rfl, tt_of 658 (by decide +kernel) rfl, ⟨by decide +kernel, by decide +kernel, by decide +kernel⟩, by decide⟩
theorem cc_X2_howManyAre : CLc M_X2_howManyAre 1 := ⟨tt_of 79 (by decide +kernel) rfl, tt_of 662 (by decide +kernel) rfl, ⟨by decide +kernel, by decide +kernel, by decide +kernel⟩, by decide⟩
theorem cc_J6_bitCount_0f7a4 : CLc M_J6_bitCount_0f7a4 1 := ⟨tt_of 86 (by decide +kernel) rfl, tt_of 666 (by decide +kernel) rfl, ⟨by decide +kernel, by decide +kernel, by decide +kernel⟩, by decide⟩
theorem cc_X6_order : CLc M_X6_order 2 := ⟨tt_of 76 (by decide +kernel) rfl, tt_of 673 (by decide +kernel) rfl, ⟨by decide +kernel, by decide +kernel, by decide +kernel⟩, by decide⟩
theorem cc_X6_isPlanned : CLc M_X6_isPlanned 1 := ⟨tt_of 76 (by decide +kernel) rfl, tt_of 676 (by decide +kernel) rfl, ⟨by decide +kernel, by decide +kernel, by decide +kernel⟩, by decide⟩
theorem cc_X3_find : CLc M_X3_find 3 := ⟨tt_of 81 (by decide +kernel) rfl, tt_of 680 (by decide +kernel) rfl, ⟨by decide +kernel, by decide +kernel, by decide +kernel⟩, by decide⟩
theorem cc_X3_tryOne : CLc M_X3_tryOne 4 := ⟨tt_of 81 (by decide +kernel) rfl, tt_of 685 (by decide +kernel) rfl, ⟨by decide +kernel, by decide +kernel, by decide +kernel⟩, by decide⟩
theorem cc_X3_toNextOrder : CLc M_X3_toNextOrder 1 := ⟨tt_of 81 (by decide +kernel) rfl, tt_of 693 (by decide +kernel) rfl, ⟨by decide +kernel, by decide +kernel, by decide +kernel⟩, by decide⟩
theorem cc_X3_swap : CLc M_X3_swap 2 := ⟨tt_of 81 (by decide +kernel) rfl, tt_of 697 (by decide +kernel) rfl, ⟨by decide +kernel, by decide +kernel, by decide +kernel⟩, by decide⟩
theorem cc_X6_need : CLc M_X6_need 1 := ⟨tt_of 76 (by decide +kernel) rfl, tt_of 701 (by decide +kernel) rfl, ⟨by decide +kernel, by decide +kernel, by decide +kernel⟩, by decide⟩
theorem cc_X6_open : CLc M_X6_open 2 := ⟨tt_of 76 (by decide +kernel) rfl, tt_of 705 (by decide +kernel) rfl, ⟨by decide +kernel, by decide +kernel, by decide +kernel⟩, by decide⟩
theorem cc_X6_fills : CLc M_X6_fills 2 := ⟨tt_of 76 (by decide +kernel) rfl, tt_of 710 (by decide +kernel) rfl, ⟨by decide +kernel, by decide +kernel, by decide +kernel⟩, by decide⟩
theorem cc_X2_sizeOfAll : CLc M_X2_sizeOfAll 1 := ⟨tt_of 79 (by decide +kernel) rfl, tt_of 714 (by decide +kernel) rfl, ⟨by decide +kernel, by decide +kernel, by decide +kernel⟩, by decide⟩
theorem cc_X6_share : CLc M_X6_share 2 := ⟨tt_of 76 (by decide +kernel) rfl, tt_of 718 (by decide +kernel) rfl, ⟨by decide +kernel, by decide +kernel, by decide +kernel⟩, by decide⟩
theorem cc_X2_doneOfAll : CLc M_X2_doneOfAll 0 := ⟨tt_of 79 (by decide +kernel) rfl, tt_of 722 (by decide +kernel) rfl, ⟨by decide +kernel, by decide +kernel, by decide +kernel⟩, by decide⟩
theorem cc_X6_byTurns : CLc M_X6_byTurns 2 := ⟨tt_of 76 (by decide +kernel) rfl, tt_of 726 (by decide +kernel) rfl, ⟨by decide +kernel, by decide +kernel, by decide +kernel⟩, by decide⟩
theorem cc_X6_weighShutting : CLc M_X6_weighShutting 0 := ⟨tt_of 76 (by decide +kernel) rfl, tt_of 731 (by decide +kernel) rfl, ⟨by decide +kernel, by decide +kernel, by decide +kernel⟩, by decide⟩
theorem cc_X6_weighOpening : CLc M_X6_weighOpening 0 := ⟨tt_of 76 (by decide +kernel) rfl, tt_of 736 (by decide +kernel) rfl, ⟨by decide +kernel, by decide +kernel, by decide +kernel⟩, by decide⟩
theorem cc_X6_who : CLc M_X6_who 5 := ⟨tt_of 76 (by decide +kernel) rfl, tt_of 741 (by decide +kernel) rfl, ⟨by decide +kernel, by decide +kernel, by decide +kernel⟩, by decide⟩
theorem cc_X6_isTold : CLc M_X6_isTold 1 := ⟨tt_of 76 (by decide +kernel) rfl, tt_of 744 (by decide +kernel) rfl, ⟨by decide +kernel, by decide +kernel, by decide +kernel⟩, by decide⟩
theorem cc_X2_alter : CLc M_X2_alter 3 := ⟨tt_of 79 (by decide +kernel) rfl, tt_of 748 (by decide +kernel) rfl, ⟨by decide +kernel, by decide +kernel, by decide +kernel⟩, by decide⟩
theorem cc_X6_fits : CLc M_X6_fits 4 := ⟨tt_of 76 (by decide +kernel) rfl, tt_of 752 (by decide +kernel) rfl, ⟨by decide +kernel, by decide +kernel, by decide +kernel⟩, by decide⟩
theorem cc_X6_sizes : CLc M_X6_sizes 4 := ⟨tt_of 76 (by decide +kernel) rfl, tt_of 756 (by decide +kernel) rfl, ⟨by decide +kernel, by decide +kernel, by decide +kernel⟩, by decide⟩
theorem cc_X6_breaks : CLc M_X6_breaks 4 := ⟨tt_of 76 (by decide +kernel) rfl, tt_of 760 (by decide +kernel) rfl, ⟨by decide +kernel, by decide +kernel, by decide +kernel⟩, by decide⟩
theorem cc_X6_casesOfStayingOpen : CLc M_X6_casesOfStayingOpen 2 := ⟨tt_of 76 (by decide +kernel) rfl, tt_of 765 (by decide +kernel) rfl, ⟨by decide +kernel, by decide +kernel, by decide +kernel⟩, by decide⟩
theorem cc_X6_greatestDivisor : CLc M_X6_greatestDivisor 2 := ⟨tt_of 76 (by decide +kernel) rfl, tt_of 769 (by decide +kernel) rfl, ⟨by decide +kernel, by decide +kernel, by decide +kernel⟩, by decide⟩
theorem cc_J9_max_f86c9 : CLc M_J9_max_f86c9 2 := ⟨tt_of 85 (by decide +kernel) rfl, tt_of 772 (by decide +kernel) rfl, ⟨by decide +kernel, by decide +kernel, by decide +kernel⟩, by decide⟩
theorem cc_X6_drawn : CLc M_X6_drawn 3 := ⟨tt_of 76 (by decide +kernel) rfl, tt_of 776 (by decide +kernel) rfl, ⟨by decide +kernel, by decide +kernel, by decide +kernel⟩, by decide⟩
theorem cc_X2_draw : CLc M_X2_draw 1 := ⟨tt_of 79 (by decide +kernel) rfl, tt_of 783 (by decide +kernel) rfl, ⟨by decide +kernel, by decide +kernel, by decide +kernel⟩, by decide⟩
theorem cc_X6_image : CLc M_X6_image 1 := ⟨tt_of 76 (by decide +kernel) rfl, tt_of 788 (by decide +kernel) rfl, ⟨by decide +kernel, by decide +kernel, by decide +kernel⟩, by decide⟩
theorem cc_X6_restore : CLc M_X6_restore 1 := ⟨tt_of 76 (by decide +kernel) rfl, tt_of 792 (by decide +kernel) rfl, ⟨by decide +kernel, by decide +kernel, by decide +kernel⟩, by decide⟩
theorem cc_X6_kind : CLc M_X6_kind 1 := ⟨tt_of 76 (by decide +kernel) rfl, tt_of 796 (by decide +kernel) rfl, ⟨by decide +kernel, by decide +kernel, by decide +kernel⟩, by decide⟩
theorem cc_X6_as : CLc M_X6_as 2 := ⟨tt_of 76 (by decide +kernel) rfl, tt_of 800 (by decide +kernel) rfl, ⟨by decide +kernel, by decide +kernel, by decide +kernel⟩, by decide⟩
theorem cc_X6_isOfKind : CLc M_X6_isOfKind 2 := ⟨tt_of 76 (by decide +kernel) rfl, tt_of 803 (by decide +kernel) rfl, ⟨by decide +kernel, by decide +kernel, by decide +kernel⟩, by decide⟩
theorem cc_X6_ask : CLc M_X6_ask 2 := ⟨tt_of 76 (by decide +kernel) rfl, tt_of 809 (by decide +kernel) rfl, ⟨by decide +kernel, by decide +kernel, by decide +kernel⟩, by decide⟩
theorem cc_X1_begin : CLc M_X1_begin 3 := ⟨tt_of 82 (by decide +kernel) rfl, tt_of 813 (by decide +kernel) rfl, ⟨by decide +kernel, by decide +kernel, by decide +kernel⟩, by decide⟩
theorem cc_X1_bodyFor : CLc M_X1_bodyFor 2 := ⟨tt_of 82 (by decide +kernel) rfl, tt_of 816 (by decide +kernel) rfl, ⟨by decide +kernel, by decide +kernel, by decide +kernel⟩, by decide⟩
theorem cc_X1_answer : CLc M_X1_answer 4 := ⟨tt_of 82 (by decide +kernel) rfl, tt_of 825 (by decide +kernel) rfl, ⟨by decide +kernel, by decide +kernel, by decide +kernel⟩, by decide⟩
theorem cc_X1_leave : CLc M_X1_leave 1 := ⟨tt_of 82 (by decide +kernel) rfl, tt_of 829 (by decide +kernel) rfl, ⟨by decide +kernel, by decide +kernel, by decide +kernel⟩, by decide⟩
theorem cc_X6_trace : CLc M_X6_trace 1 := ⟨tt_of 76 (by decide +kernel) rfl, tt_of 833 (by decide +kernel) rfl, ⟨by decide +kernel, by decide +kernel, by decide +kernel⟩, by decide⟩
theorem cc_X6_count : CLc M_X6_count 1 := ⟨tt_of 76 (by decide +kernel) rfl, tt_of 837 (by decide +kernel) rfl, ⟨by decide +kernel, by decide +kernel, by decide +kernel⟩, by decide⟩
theorem cc_X4_howMany : CLc M_X4_howMany 0 := ⟨tt_of 77 (by decide +kernel) rfl, tt_of 841 (by decide +kernel) rfl, ⟨by decide +kernel, by decide +kernel, by decide +kernel⟩, by decide⟩
theorem cc_X6_status : CLc M_X6_status 0 := ⟨tt_of 76 (by decide +kernel) rfl, tt_of 845 (by decide +kernel) rfl, ⟨by decide +kernel, by decide +kernel, by decide +kernel⟩, by decide⟩
theorem cc_X7_init : CLc M_X7_init 0 := ⟨tt_of 83 (by decide +kernel) rfl, tt_of 850 (by decide +kernel) rfl, ⟨by decide +kernel, by decide +kernel, by decide +kernel⟩, by decide⟩
theorem cc_X7_row : CLc M_X7_row 3 := ⟨tt_of 83 (by decide +kernel) rfl, tt_of 947 (by decide +kernel) rfl, ⟨by decide +kernel, by decide +kernel, by decide +kernel⟩, by decide⟩
theorem cc_X7_isRow : CLc M_X7_isRow 1 := ⟨tt_of 83 (by decide +kernel) rfl, tt_of 950 (by decide +kernel) rfl, ⟨by decide +kernel, by decide +kernel, by decide +kernel⟩, by decide⟩
theorem cc_X7_in : CLc M_X7_in 3 := ⟨tt_of 83 (by decide +kernel) rfl, tt_of 953 (by decide +kernel) rfl, ⟨by decide +kernel, by decide +kernel, by decide +kernel⟩, by decide⟩
theorem cc_X7_found : CLc M_X7_found 1 := ⟨tt_of 83 (by decide +kernel) rfl, tt_of 958 (by decide +kernel) rfl, ⟨by decide +kernel, by decide +kernel, by decide +kernel⟩, by decide⟩
theorem cc_X7_well : CLc M_X7_well 1 := ⟨tt_of 83 (by decide +kernel) rfl, tt_of 963 (by decide +kernel) rfl, ⟨by decide +kernel, by decide +kernel, by decide +kernel⟩, by decide⟩
theorem cc_X7_set : CLc M_X7_set 3 := ⟨tt_of 83 (by decide +kernel) rfl, tt_of 967 (by decide +kernel) rfl, ⟨by decide +kernel, by decide +kernel, by decide +kernel⟩, by decide⟩
theorem cc_X7_copy : CLc M_X7_copy 5 := ⟨tt_of 83 (by decide +kernel) rfl, tt_of 971 (by decide +kernel) rfl, ⟨by decide +kernel, by decide +kernel, by decide +kernel⟩, by decide⟩
theorem cc_X7_isPart : CLc M_X7_isPart 3 := ⟨tt_of 83 (by decide +kernel) rfl, tt_of 975 (by decide +kernel) rfl, ⟨by decide +kernel, by decide +kernel, by decide +kernel⟩, by decide⟩
theorem cc_X7_drop : CLc M_X7_drop 1 := ⟨tt_of 83 (by decide +kernel) rfl, tt_of 979 (by decide +kernel) rfl, ⟨by decide +kernel, by decide +kernel, by decide +kernel⟩, by decide⟩
theorem cc_X7_feed : CLc M_X7_feed 1 := ⟨tt_of 83 (by decide +kernel) rfl, tt_of 983 (by decide +kernel) rfl, ⟨by decide +kernel, by decide +kernel, by decide +kernel⟩, by decide⟩
theorem cc_X7_launderette : CLc M_X7_launderette 0 := ⟨tt_of 83 (by decide +kernel) rfl, tt_of 988 (by decide +kernel) rfl, ⟨by decide +kernel, by decide +kernel, by decide +kernel⟩, by decide⟩
theorem cc_X7_reads : CLc M_X7_reads 0 := ⟨tt_of 83 (by decide +kernel) rfl, tt_of 992 (by decide +kernel) rfl, ⟨by decide +kernel, by decide +kernel, by decide +kernel⟩, by decide⟩
theorem cc_X7_advances : CLc M_X7_advances 0 := ⟨tt_of 83 (by decide +kernel) rfl, tt_of 996 (by decide +kernel) rfl, ⟨by decide +kernel, by decide +kernel, by decide +kernel⟩, by decide⟩
theorem cc_X7_letterAt : CLc M_X7_letterAt 1 := ⟨tt_of 83 (by decide +kernel) rfl, tt_of 1000 (by decide +kernel) rfl, ⟨by decide +kernel, by decide +kernel, by decide +kernel⟩, by decide⟩
theorem cc_X7_takes : CLc M_X7_takes 2 := ⟨tt_of 83 (by decide +kernel) rfl, tt_of 1004 (by decide +kernel) rfl, ⟨by decide +kernel, by decide +kernel, by decide +kernel⟩, by decide⟩
theorem cc_X7_isWell : CLc M_X7_isWell 0 := ⟨tt_of 83 (by decide +kernel) rfl, tt_of 1008 (by decide +kernel) rfl, ⟨by decide +kernel, by decide +kernel, by decide +kernel⟩, by decide⟩
theorem cc_X7_faulty : CLc M_X7_faulty 1 := ⟨tt_of 83 (by decide +kernel) rfl, tt_of 1012 (by decide +kernel) rfl, ⟨by decide +kernel, by decide +kernel, by decide +kernel⟩, by decide⟩
theorem cc_X7_number : CLc M_X7_number 2 := ⟨tt_of 83 (by decide +kernel) rfl, tt_of 1016 (by decide +kernel) rfl, ⟨by decide +kernel, by decide +kernel, by decide +kernel⟩, by decide⟩
theorem cc_X7_kindOf : CLc M_X7_kindOf 1 := ⟨tt_of 83 (by decide +kernel) rfl, tt_of 1019 (by decide +kernel) rfl, ⟨by decide +kernel, by decide +kernel, by decide +kernel⟩, by decide⟩
theorem cc_X7_readsMachine : CLc M_X7_readsMachine 0 := ⟨tt_of 83 (by decide +kernel) rfl, tt_of 1023 (by decide +kernel) rfl, ⟨by decide +kernel, by decide +kernel, by decide +kernel⟩, by decide⟩
theorem cc_X7_readsLoad : CLc M_X7_readsLoad 0 := ⟨tt_of 83 (by decide +kernel) rfl, tt_of 1027 (by decide +kernel) rfl, ⟨by decide +kernel, by decide +kernel, by decide +kernel⟩, by decide⟩
theorem cc_X7_fault : CLc M_X7_fault 0 := ⟨tt_of 83 (by decide +kernel) rfl, tt_of 1032 (by decide +kernel) rfl, ⟨by decide +kernel, by decide +kernel, by decide +kernel⟩, by decide⟩
theorem cc_X7_undo : CLc M_X7_undo 0 := ⟨tt_of 83 (by decide +kernel) rfl, tt_of 1036 (by decide +kernel) rfl, ⟨by decide +kernel, by decide +kernel, by decide +kernel⟩, by decide⟩
theorem cc_X7_ticks : CLc M_X7_ticks 1 := ⟨tt_of 83 (by decide +kernel) rfl, tt_of 1041 (by decide +kernel) rfl, ⟨by decide +kernel, by decide +kernel, by decide +kernel⟩, by decide⟩
theorem cc_X7_isNothing : CLc M_X7_isNothing 0 := ⟨tt_of 83 (by decide +kernel) rfl, tt_of 1045 (by decide +kernel) rfl, ⟨by decide +kernel, by decide +kernel, by decide +kernel⟩, by decide⟩
theorem cc_X7_ranksByNumber : CLc M_X7_ranksByNumber 0 := ⟨tt_of 83 (by decide +kernel) rfl, tt_of 1049 (by decide +kernel) rfl, ⟨by decide +kernel, by decide +kernel, by decide +kernel⟩, by decide⟩
theorem cc_X7_notes : CLc M_X7_notes 0 := ⟨tt_of 83 (by decide +kernel) rfl, tt_of 1053 (by decide +kernel) rfl, ⟨by decide +kernel, by decide +kernel, by decide +kernel⟩, by decide⟩
theorem cc_X7_ticksOne : CLc M_X7_ticksOne 2 := ⟨tt_of 83 (by decide +kernel) rfl, tt_of 1057 (by decide +kernel) rfl, ⟨by decide +kernel, by decide +kernel, by decide +kernel⟩, by decide⟩
theorem cc_X7_comesOut : CLc M_X7_comesOut 3 := ⟨tt_of 83 (by decide +kernel) rfl, tt_of 1061 (by decide +kernel) rfl, ⟨by decide +kernel, by decide +kernel, by decide +kernel⟩, by decide⟩
theorem cc_X7_washes : CLc M_X7_washes 1 := ⟨tt_of 83 (by decide +kernel) rfl, tt_of 1064 (by decide +kernel) rfl, ⟨by decide +kernel, by decide +kernel, by decide +kernel⟩, by decide⟩
theorem cc_X7_has : CLc M_X7_has 2 := ⟨tt_of 83 (by decide +kernel) rfl, tt_of 1067 (by decide +kernel) rfl, ⟨by decide +kernel, by decide +kernel, by decide +kernel⟩, by decide⟩
theorem cc_X7_waits : CLc M_X7_waits 3 := ⟨tt_of 83 (by decide +kernel) rfl, tt_of 1071 (by decide +kernel) rfl, ⟨by decide +kernel, by decide +kernel, by decide +kernel⟩, by decide⟩
theorem cc_X7_lastsOf : CLc M_X7_lastsOf 4 := ⟨tt_of 83 (by decide +kernel) rfl, tt_of 1074 (by decide +kernel) rfl, ⟨by decide +kernel, by decide +kernel, by decide +kernel⟩, by decide⟩
theorem cc_X7_howAll : CLc M_X7_howAll 2 := ⟨tt_of 83 (by decide +kernel) rfl, tt_of 1078 (by decide +kernel) rfl, ⟨by decide +kernel, by decide +kernel, by decide +kernel⟩, by decide⟩
theorem cc_X7_shut : CLc M_X7_shut 1 := ⟨tt_of 83 (by decide +kernel) rfl, tt_of 1082 (by decide +kernel) rfl, ⟨by decide +kernel, by decide +kernel, by decide +kernel⟩, by decide⟩
theorem cc_X7_isMachine : CLc M_X7_isMachine 1 := ⟨tt_of 83 (by decide +kernel) rfl, tt_of 1086 (by decide +kernel) rfl, ⟨by decide +kernel, by decide +kernel, by decide +kernel⟩, by decide⟩
theorem cc_X7_power : CLc M_X7_power 1 := ⟨tt_of 83 (by decide +kernel) rfl, tt_of 1090 (by decide +kernel) rfl, ⟨by decide +kernel, by decide +kernel, by decide +kernel⟩, by decide⟩
theorem cc_X7_due : CLc M_X7_due 2 := ⟨tt_of 83 (by decide +kernel) rfl, tt_of 1094 (by decide +kernel) rfl, ⟨by decide +kernel, by decide +kernel, by decide +kernel⟩, by decide⟩
theorem cc_X7_isLoad : CLc M_X7_isLoad 1 := ⟨tt_of 83 (by decide +kernel) rfl, tt_of 1098 (by decide +kernel) rfl, ⟨by decide +kernel, by decide +kernel, by decide +kernel⟩, by decide⟩
theorem cc_X7_again : CLc M_X7_again 2 := ⟨tt_of 83 (by decide +kernel) rfl, tt_of 1102 (by decide +kernel) rfl, ⟨by decide +kernel, by decide +kernel, by decide +kernel⟩, by decide⟩
theorem cc_X7_machine : CLc M_X7_machine 2 := ⟨tt_of 83 (by decide +kernel) rfl, tt_of 1106 (by decide +kernel) rfl, ⟨by decide +kernel, by decide +kernel, by decide +kernel⟩, by decide⟩
theorem cc_X7_load : CLc M_X7_load 2 := ⟨tt_of 83 (by decide +kernel) rfl, tt_of 1111 (by decide +kernel) rfl, ⟨by decide +kernel, by decide +kernel, by decide +kernel⟩, by decide⟩
theorem cc_X7_lateOf : CLc M_X7_lateOf 2 := ⟨tt_of 83 (by decide +kernel) rfl, tt_of 1114 (by decide +kernel) rfl, ⟨by decide +kernel, by decide +kernel, by decide +kernel⟩, by decide⟩
theorem cc_X7_lasts : CLc M_X7_lasts 2 := ⟨tt_of 83 (by decide +kernel) rfl, tt_of 1118 (by decide +kernel) rfl, ⟨by decide +kernel, by decide +kernel, by decide +kernel⟩, by decide⟩
theorem cc_X7_stand : CLc M_X7_stand 1 := ⟨tt_of 83 (by decide +kernel) rfl, tt_of 1122 (by decide +kernel) rfl, ⟨by decide +kernel, by decide +kernel, by decide +kernel⟩, by decide⟩
theorem cc_X7_withLoads : CLc M_X7_withLoads 0 := ⟨tt_of 83 (by decide +kernel) rfl, tt_of 1126 (by decide +kernel) rfl, ⟨by decide +kernel, by decide +kernel, by decide +kernel⟩, by decide⟩
theorem cc_X7_ahead : CLc M_X7_ahead 3 := ⟨tt_of 83 (by decide +kernel) rfl, tt_of 1130 (by decide +kernel) rfl, ⟨by decide +kernel, by decide +kernel, by decide +kernel⟩, by decide⟩
theorem cc_X7_goesAhead : CLc M_X7_goesAhead 1 := ⟨tt_of 83 (by decide +kernel) rfl, tt_of 1134 (by decide +kernel) rfl, ⟨by decide +kernel, by decide +kernel, by decide +kernel⟩, by decide⟩
theorem cc_X7_asNow : CLc M_X7_asNow 0 := ⟨tt_of 83 (by decide +kernel) rfl, tt_of 1138 (by decide +kernel) rfl, ⟨by decide +kernel, by decide +kernel, by decide +kernel⟩, by decide⟩
theorem cc_X7_foretells : CLc M_X7_foretells 1 := ⟨tt_of 83 (by decide +kernel) rfl, tt_of 1142 (by decide +kernel) rfl, ⟨by decide +kernel, by decide +kernel, by decide +kernel⟩, by decide⟩
theorem cc_X7_inside : CLc M_X7_inside 3 := ⟨tt_of 83 (by decide +kernel) rfl, tt_of 1146 (by decide +kernel) rfl, ⟨by decide +kernel, by decide +kernel, by decide +kernel⟩, by decide⟩
theorem cc_X7_all : CLc M_X7_all 2 := ⟨tt_of 83 (by decide +kernel) rfl, tt_of 1150 (by decide +kernel) rfl, ⟨by decide +kernel, by decide +kernel, by decide +kernel⟩, by decide⟩
theorem cc_X7_lateAll : CLc M_X7_lateAll 1 := ⟨tt_of 83 (by decide +kernel) rfl, tt_of 1154 (by decide +kernel) rfl, ⟨by decide +kernel, by decide +kernel, by decide +kernel⟩, by decide⟩
theorem cc_X7_when : CLc M_X7_when 2 := ⟨tt_of 83 (by decide +kernel) rfl, tt_of 1158 (by decide +kernel) rfl, ⟨by decide +kernel, by decide +kernel, by decide +kernel⟩, by decide⟩
theorem cc_X7_isSo : CLc M_X7_isSo 2 := ⟨tt_of 83 (by decide +kernel) rfl, tt_of 1162 (by decide +kernel) rfl, ⟨by decide +kernel, by decide +kernel, by decide +kernel⟩, by decide⟩
theorem cc_X7_over : CLc M_X7_over 0 := ⟨tt_of 83 (by decide +kernel) rfl, tt_of 1166 (by decide +kernel) rfl, ⟨by decide +kernel, by decide +kernel, by decide +kernel⟩, by decide⟩
theorem cc_X7_isAllDry : CLc M_X7_isAllDry 0 := ⟨tt_of 83 (by decide +kernel) rfl, tt_of 1170 (by decide +kernel) rfl, ⟨by decide +kernel, by decide +kernel, by decide +kernel⟩, by decide⟩
theorem cc_X7_order : CLc M_X7_order 2 := ⟨tt_of 83 (by decide +kernel) rfl, tt_of 1174 (by decide +kernel) rfl, ⟨by decide +kernel, by decide +kernel, by decide +kernel⟩, by decide⟩
theorem cc_X7_ones : CLc M_X7_ones 1 := ⟨tt_of 83 (by decide +kernel) rfl, tt_of 1177 (by decide +kernel) rfl, ⟨by decide +kernel, by decide +kernel, by decide +kernel⟩, by decide⟩
theorem cc_X7_nextOrder : CLc M_X7_nextOrder 0 := ⟨tt_of 83 (by decide +kernel) rfl, tt_of 1181 (by decide +kernel) rfl, ⟨by decide +kernel, by decide +kernel, by decide +kernel⟩, by decide⟩
theorem cc_X7_trades : CLc M_X7_trades 2 := ⟨tt_of 83 (by decide +kernel) rfl, tt_of 1185 (by decide +kernel) rfl, ⟨by decide +kernel, by decide +kernel, by decide +kernel⟩, by decide⟩
theorem cc_X7_need : CLc M_X7_need 1 := ⟨tt_of 83 (by decide +kernel) rfl, tt_of 1189 (by decide +kernel) rfl, ⟨by decide +kernel, by decide +kernel, by decide +kernel⟩, by decide⟩
theorem cc_X7_open : CLc M_X7_open 2 := ⟨tt_of 83 (by decide +kernel) rfl, tt_of 1193 (by decide +kernel) rfl, ⟨by decide +kernel, by decide +kernel, by decide +kernel⟩, by decide⟩
theorem cc_X7_fills : CLc M_X7_fills 2 := ⟨tt_of 83 (by decide +kernel) rfl, tt_of 1197 (by decide +kernel) rfl, ⟨by decide +kernel, by decide +kernel, by decide +kernel⟩, by decide⟩
theorem cc_X7_share : CLc M_X7_share 2 := ⟨tt_of 83 (by decide +kernel) rfl, tt_of 1201 (by decide +kernel) rfl, ⟨by decide +kernel, by decide +kernel, by decide +kernel⟩, by decide⟩
theorem cc_X7_doneAll : CLc M_X7_doneAll 0 := ⟨tt_of 83 (by decide +kernel) rfl, tt_of 1205 (by decide +kernel) rfl, ⟨by decide +kernel, by decide +kernel, by decide +kernel⟩, by decide⟩
theorem cc_X7_byTurns : CLc M_X7_byTurns 2 := ⟨tt_of 83 (by decide +kernel) rfl, tt_of 1209 (by decide +kernel) rfl, ⟨by decide +kernel, by decide +kernel, by decide +kernel⟩, by decide⟩
theorem cc_X7_openBy : CLc M_X7_openBy 2 := ⟨tt_of 83 (by decide +kernel) rfl, tt_of 1213 (by decide +kernel) rfl, ⟨by decide +kernel, by decide +kernel, by decide +kernel⟩, by decide⟩
theorem cc_X7_who : CLc M_X7_who 5 := ⟨tt_of 83 (by decide +kernel) rfl, tt_of 1217 (by decide +kernel) rfl, ⟨by decide +kernel, by decide +kernel, by decide +kernel⟩, by decide⟩
theorem cc_X7_against : CLc M_X7_against 3 := ⟨tt_of 83 (by decide +kernel) rfl, tt_of 1221 (by decide +kernel) rfl, ⟨by decide +kernel, by decide +kernel, by decide +kernel⟩, by decide⟩
theorem cc_X7_goesSo : CLc M_X7_goesSo 3 := ⟨tt_of 83 (by decide +kernel) rfl, tt_of 1225 (by decide +kernel) rfl, ⟨by decide +kernel, by decide +kernel, by decide +kernel⟩, by decide⟩
theorem cc_X7_sizes : CLc M_X7_sizes 4 := ⟨tt_of 83 (by decide +kernel) rfl, tt_of 1229 (by decide +kernel) rfl, ⟨by decide +kernel, by decide +kernel, by decide +kernel⟩, by decide⟩
theorem cc_X7_breaks : CLc M_X7_breaks 4 := ⟨tt_of 83 (by decide +kernel) rfl, tt_of 1233 (by decide +kernel) rfl, ⟨by decide +kernel, by decide +kernel, by decide +kernel⟩, by decide⟩
theorem cc_X7_raised : CLc M_X7_raised 2 := ⟨tt_of 83 (by decide +kernel) rfl, tt_of 1237 (by decide +kernel) rfl, ⟨by decide +kernel, by decide +kernel, by decide +kernel⟩, by decide⟩
theorem cc_X7_gcd : CLc M_X7_gcd 2 := ⟨tt_of 83 (by decide +kernel) rfl, tt_of 1241 (by decide +kernel) rfl, ⟨by decide +kernel, by decide +kernel, by decide +kernel⟩, by decide⟩
theorem cc_X7_drawn : CLc M_X7_drawn 3 := ⟨tt_of 83 (by decide +kernel) rfl, tt_of 1245 (by decide +kernel) rfl, ⟨by decide +kernel, by decide +kernel, by decide +kernel⟩, by decide⟩
theorem cc_X7_image : CLc M_X7_image 1 := ⟨tt_of 83 (by decide +kernel) rfl, tt_of 1252 (by decide +kernel) rfl, ⟨by decide +kernel, by decide +kernel, by decide +kernel⟩, by decide⟩
theorem cc_X7_restore : CLc M_X7_restore 1 := ⟨tt_of 83 (by decide +kernel) rfl, tt_of 1256 (by decide +kernel) rfl, ⟨by decide +kernel, by decide +kernel, by decide +kernel⟩, by decide⟩
theorem cc_X7_kind : CLc M_X7_kind 1 := ⟨tt_of 83 (by decide +kernel) rfl, tt_of 1260 (by decide +kernel) rfl, ⟨by decide +kernel, by decide +kernel, by decide +kernel⟩, by decide⟩
theorem cc_X7_as : CLc M_X7_as 2 := ⟨tt_of 83 (by decide +kernel) rfl, tt_of 1264 (by decide +kernel) rfl, ⟨by decide +kernel, by decide +kernel, by decide +kernel⟩, by decide⟩
theorem cc_X7_ask : CLc M_X7_ask 2 := ⟨tt_of 83 (by decide +kernel) rfl, tt_of 1268 (by decide +kernel) rfl, ⟨by decide +kernel, by decide +kernel, by decide +kernel⟩, by decide⟩
theorem cc_X7_washerSize : CLc M_X7_washerSize 1 := ⟨tt_of 83 (by decide +kernel) rfl, tt_of 1272 (by decide +kernel) rfl, ⟨by decide +kernel, by decide +kernel, by decide +kernel⟩, by decide⟩
theorem cc_X7_leaves : CLc M_X7_leaves 1 := ⟨tt_of 83 (by decide +kernel) rfl, tt_of 1276 (by decide +kernel) rfl, ⟨by decide +kernel, by decide +kernel, by decide +kernel⟩, by decide⟩
theorem cc_X7_lentRoom : CLc M_X7_lentRoom 1 := ⟨tt_of 83 (by decide +kernel) rfl, tt_of 1280 (by decide +kernel) rfl, ⟨by decide +kernel, by decide +kernel, by decide +kernel⟩, by decide⟩
theorem cc_X7_washerMark : CLc M_X7_washerMark 1 := ⟨tt_of 83 (by decide +kernel) rfl, tt_of 1284 (by decide +kernel) rfl, ⟨by decide +kernel, by decide +kernel, by decide +kernel⟩, by decide⟩
theorem cc_X7_lentNumber : CLc M_X7_lentNumber 1 := ⟨tt_of 83 (by decide +kernel) rfl, tt_of 1288 (by decide +kernel) rfl, ⟨by decide +kernel, by decide +kernel, by decide +kernel⟩, by decide⟩
theorem cc_X7_dryerSize : CLc M_X7_dryerSize 1 := ⟨tt_of 83 (by decide +kernel) rfl, tt_of 1292 (by decide +kernel) rfl, ⟨by decide +kernel, by decide +kernel, by decide +kernel⟩, by decide⟩
theorem cc_X7_dryerMark : CLc M_X7_dryerMark 1 := ⟨tt_of 83 (by decide +kernel) rfl, tt_of 1296 (by decide +kernel) rfl, ⟨by decide +kernel, by decide +kernel, by decide +kernel⟩, by decide⟩
theorem cc_X7_trace : CLc M_X7_trace 1 := ⟨tt_of 83 (by decide +kernel) rfl, tt_of 1300 (by decide +kernel) rfl, ⟨by decide +kernel, by decide +kernel, by decide +kernel⟩, by decide⟩
theorem cc_X7_count : CLc M_X7_count 1 := ⟨tt_of 83 (by decide +kernel) rfl, tt_of 1304 (by decide +kernel) rfl, ⟨by decide +kernel, by decide +kernel, by decide +kernel⟩, by decide⟩
theorem cc_X7_rowsThere : CLc M_X7_rowsThere 0 := ⟨tt_of 83 (by decide +kernel) rfl, tt_of 1308 (by decide +kernel) rfl, ⟨by decide +kernel, by decide +kernel, by decide +kernel⟩, by decide⟩
theorem cc_X7_status : CLc M_X7_status 0 := ⟨tt_of 83 (by decide +kernel) rfl, tt_of 1312 (by decide +kernel) rfl, ⟨by decide +kernel, by decide +kernel, by decide +kernel⟩, by decide⟩
theorem cl_6_35 : CLI RX6 35 M_X0_init 0 := ⟨tt_of 226 (by decide +kernel) rfl, tt_of 227 (by decide +kernel) rfl, rfl, rfl, cc_X0_init⟩
theorem cl_6_62 : CLS RX6 62 M_X4_isOne 1 := ⟨tt_of 318 (by decide +kernel) rfl, tt_of 319 (by decide +kernel) rfl, cc_X4_isOne⟩
theorem cl_6_67 : CLV RX6 67 M_X6_found 1 := ⟨tt_of 322 (by decide +kernel) rfl, tt_of 324 (by decide +kernel) rfl, tt_of 0 (by decide +kernel) rfl, cc_X6_found⟩
theorem cl_6_71 : CLV RX6 71 M_X4_make 3 := ⟨tt_of 327 (by decide +kernel) rfl, tt_of 328 (by decide +kernel) rfl, tt_of 329 (by decide +kernel) rfl, cc_X4_make⟩
theorem cl_6_75 : CLV RX6 75 M_X6_foundNothing 1 := ⟨tt_of 331 (by decide +kernel) rfl, tt_of 333 (by decide +kernel) rfl, tt_of 1 (by decide +kernel) rfl, cc_X6_foundNothing⟩
theorem cl_6_78 : CLV RX6 78 M_X4_findingOf 3 := ⟨tt_of 339 (by decide +kernel) rfl, tt_of 340 (by decide +kernel) rfl, tt_of 341 (by decide +kernel) rfl, cc_X4_findingOf⟩
theorem cl_6_82 : CLV RX6 82 M_X4_put 3 := ⟨tt_of 351 (by decide +kernel) rfl, tt_of 352 (by decide +kernel) rfl, tt_of 353 (by decide +kernel) rfl, cc_X4_put⟩
theorem cl_6_85 : CLV RX6 85 M_X4_isMissing 1 := ⟨tt_of 359 (by decide +kernel) rfl, tt_of 344 (by decide +kernel) rfl, tt_of 345 (by decide +kernel) rfl, cc_X4_isMissing⟩
theorem cl_6_91 : CLV RX6 91 M_X4_hasPlaces 3 := ⟨tt_of 360 (by decide +kernel) rfl, tt_of 348 (by decide +kernel) rfl, tt_of 349 (by decide +kernel) rfl, cc_X4_hasPlaces⟩
theorem cl_6_105 : CLV RX6 105 M_X4_remove 1 := ⟨tt_of 368 (by decide +kernel) rfl, tt_of 369 (by decide +kernel) rfl, tt_of 370 (by decide +kernel) rfl, cc_X4_remove⟩
theorem cl_6_113 : CLV RX6 113 M_X5_takeIn 1 := ⟨tt_of 376 (by decide +kernel) rfl, tt_of 377 (by decide +kernel) rfl, tt_of 378 (by decide +kernel) rfl, cc_X5_takeIn⟩
theorem cl_6_120 : CLV RX6 120 M_X5_readInto 1 := ⟨tt_of 385 (by decide +kernel) rfl, tt_of 386 (by decide +kernel) rfl, tt_of 387 (by decide +kernel) rfl, cc_X5_readInto⟩
theorem cl_6_128 : CLV RX6 128 M_X6_replaceHall 1 := ⟨tt_of 457 (by decide +kernel) rfl, tt_of 459 (by decide +kernel) rfl, tt_of 14 (by decide +kernel) rfl, cc_X6_replaceHall⟩
theorem cl_6_142 : CLV RX6 142 M_X0_takeBack 1 := ⟨tt_of 479 (by decide +kernel) rfl, tt_of 480 (by decide +kernel) rfl, tt_of 481 (by decide +kernel) rfl, cc_X0_takeBack⟩
theorem cl_6_145 : CLV RX6 145 M_X3_forget 0 := ⟨tt_of 466 (by decide +kernel) rfl, tt_of 467 (by decide +kernel) rfl, tt_of 468 (by decide +kernel) rfl, cc_X3_forget⟩
theorem cl_6_148 : CLV RX6 148 M_X0_keep 1 := ⟨tt_of 496 (by decide +kernel) rfl, tt_of 497 (by decide +kernel) rfl, tt_of 498 (by decide +kernel) rfl, cc_X0_keep⟩
theorem cl_6_151 : CLV RX6 151 M_X2_become 1 := ⟨tt_of 461 (by decide +kernel) rfl, tt_of 462 (by decide +kernel) rfl, tt_of 463 (by decide +kernel) rfl, cc_X2_become⟩
theorem cl_6_154 : CLV RX6 154 M_X2_isNone 0 := ⟨tt_of 488 (by decide +kernel) rfl, tt_of 489 (by decide +kernel) rfl, tt_of 490 (by decide +kernel) rfl, cc_X2_isNone⟩
theorem cl_6_161 : CLV RX6 161 M_X6_beginAct 0 := ⟨tt_of 492 (by decide +kernel) rfl, tt_of 494 (by decide +kernel) rfl, tt_of 15 (by decide +kernel) rfl, cc_X6_beginAct⟩
theorem cl_6_164 : CLV RX6 164 M_X2_passTick 0 := ⟨tt_of 503 (by decide +kernel) rfl, tt_of 504 (by decide +kernel) rfl, tt_of 505 (by decide +kernel) rfl, cc_X2_passTick⟩
theorem cl_6_167 : CLV RX6 167 M_X2_whichAre 1 := ⟨tt_of 535 (by decide +kernel) rfl, tt_of 536 (by decide +kernel) rfl, tt_of 537 (by decide +kernel) rfl, cc_X2_whichAre⟩
theorem cl_6_170 : CLV RX6 170 M_X2_hasMachine 1 := ⟨tt_of 543 (by decide +kernel) rfl, tt_of 544 (by decide +kernel) rfl, tt_of 545 (by decide +kernel) rfl, cc_X2_hasMachine⟩
theorem cl_6_173 : CLV RX6 173 M_X2_turn 1 := ⟨tt_of 547 (by decide +kernel) rfl, tt_of 548 (by decide +kernel) rfl, tt_of 549 (by decide +kernel) rfl, cc_X2_turn⟩
theorem cl_6_177 : CLV RX6 177 M_X2_isOpen 1 := ⟨tt_of 551 (by decide +kernel) rfl, tt_of 517 (by decide +kernel) rfl, tt_of 518 (by decide +kernel) rfl, cc_X2_isOpen⟩
theorem cl_6_183 : CLV RX6 183 M_X2_hasLoad 1 := ⟨tt_of 560 (by decide +kernel) rfl, tt_of 561 (by decide +kernel) rfl, tt_of 562 (by decide +kernel) rfl, cc_X2_hasLoad⟩
theorem cl_6_192 : CLV RX6 192 M_X2_dirty 2 := ⟨tt_of 568 (by decide +kernel) rfl, tt_of 453 (by decide +kernel) rfl, tt_of 454 (by decide +kernel) rfl, cc_X2_dirty⟩
theorem cl_6_202 : CLV RX6 202 M_X2_loadIn 1 := ⟨tt_of 573 (by decide +kernel) rfl, tt_of 574 (by decide +kernel) rfl, tt_of 575 (by decide +kernel) rfl, cc_X2_loadIn⟩
theorem cl_6_211 : CLV RX6 211 M_X2_washes 1 := ⟨tt_of 578 (by decide +kernel) rfl, tt_of 512 (by decide +kernel) rfl, tt_of 513 (by decide +kernel) rfl, cc_X2_washes⟩
theorem cl_6_221 : CLV RX6 221 M_X2_lateOf 1 := ⟨tt_of 584 (by decide +kernel) rfl, tt_of 585 (by decide +kernel) rfl, tt_of 586 (by decide +kernel) rfl, cc_X2_lateOf⟩
theorem cl_6_224 : CLV RX6 224 M_X2_lastsWith 2 := ⟨tt_of 592 (by decide +kernel) rfl, tt_of 529 (by decide +kernel) rfl, tt_of 530 (by decide +kernel) rfl, cc_X2_lastsWith⟩
theorem cl_6_231 : CLV RX6 231 M_X2_busyBits 0 := ⟨tt_of 597 (by decide +kernel) rfl, tt_of 598 (by decide +kernel) rfl, tt_of 599 (by decide +kernel) rfl, cc_X2_busyBits⟩
theorem cl_6_235 : CLV RX6 235 M_X6_behind 1 := ⟨tt_of 605 (by decide +kernel) rfl, tt_of 607 (by decide +kernel) rfl, tt_of 19 (by decide +kernel) rfl, cc_X6_behind⟩
theorem cl_6_239 : CLV RX6 239 M_X2_lateOfAll 0 := ⟨tt_of 638 (by decide +kernel) rfl, tt_of 639 (by decide +kernel) rfl, tt_of 640 (by decide +kernel) rfl, cc_X2_lateOfAll⟩
theorem cl_6_242 : CLV RX6 242 M_X6_asNow 0 := ⟨tt_of 613 (by decide +kernel) rfl, tt_of 615 (by decide +kernel) rfl, tt_of 21 (by decide +kernel) rfl, cc_X6_asNow⟩
theorem cl_6_246 : CLV RX6 246 M_X2_isWashed 1 := ⟨tt_of 647 (by decide +kernel) rfl, tt_of 648 (by decide +kernel) rfl, tt_of 649 (by decide +kernel) rfl, cc_X2_isWashed⟩
theorem cl_6_249 : CLV RX6 249 M_X2_isAllDry 0 := ⟨tt_of 655 (by decide +kernel) rfl, tt_of 656 (by decide +kernel) rfl, tt_of 657 (by decide +kernel) rfl, cc_X2_isAllDry⟩
theorem cl_6_252 : CLS RX6 252 M_X6_isPlanned 1 := ⟨tt_of 674 (by decide +kernel) rfl, tt_of 675 (by decide +kernel) rfl, cc_X6_isPlanned⟩
theorem cl_6_255 : CLV RX6 255 M_X3_find 3 := ⟨tt_of 677 (by decide +kernel) rfl, tt_of 678 (by decide +kernel) rfl, tt_of 679 (by decide +kernel) rfl, cc_X3_find⟩
theorem cl_6_268 : CLV RX6 268 M_X2_passTicks 1 := ⟨tt_of 617 (by decide +kernel) rfl, tt_of 618 (by decide +kernel) rfl, tt_of 619 (by decide +kernel) rfl, cc_X2_passTicks⟩
theorem cl_6_271 : CLS RX6 271 M_J6_bitCount_0f7a4 1 := ⟨tt_of 706 (by decide +kernel) rfl, tt_of 665 (by decide +kernel) rfl, cc_J6_bitCount_0f7a4⟩
theorem cl_6_276 : CLV RX6 276 M_X6_behindWithOpen 2 := ⟨tt_of 609 (by decide +kernel) rfl, tt_of 611 (by decide +kernel) rfl, tt_of 20 (by decide +kernel) rfl, cc_X6_behindWithOpen⟩
theorem cl_6_280 : CLV RX6 280 M_X2_sizeOfAll 1 := ⟨tt_of 711 (by decide +kernel) rfl, tt_of 712 (by decide +kernel) rfl, tt_of 713 (by decide +kernel) rfl, cc_X2_sizeOfAll⟩
theorem cl_6_283 : CLV RX6 283 M_X2_doneOfAll 0 := ⟨tt_of 719 (by decide +kernel) rfl, tt_of 720 (by decide +kernel) rfl, tt_of 721 (by decide +kernel) rfl, cc_X2_doneOfAll⟩
theorem cl_6_286 : CLV RX6 286 M_X2_howManyAre 1 := ⟨tt_of 727 (by decide +kernel) rfl, tt_of 660 (by decide +kernel) rfl, tt_of 661 (by decide +kernel) rfl, cc_X2_howManyAre⟩
theorem cl_6_289 : CLV RX6 289 M_X6_weighShutting 0 := ⟨tt_of 728 (by decide +kernel) rfl, tt_of 730 (by decide +kernel) rfl, tt_of 27 (by decide +kernel) rfl, cc_X6_weighShutting⟩
theorem cl_6_292 : CLV RX6 292 M_X6_weighOpening 0 := ⟨tt_of 733 (by decide +kernel) rfl, tt_of 735 (by decide +kernel) rfl, tt_of 28 (by decide +kernel) rfl, cc_X6_weighOpening⟩
theorem cl_6_295 : CLS RX6 295 M_J9_min_7cf53 2 := ⟨tt_of 732 (by decide +kernel) rfl, tt_of 501 (by decide +kernel) rfl, cc_J9_min_7cf53⟩
theorem cl_6_300 : CLS RX6 300 M_J9_max_7cf53 2 := ⟨tt_of 737 (by decide +kernel) rfl, tt_of 533 (by decide +kernel) rfl, cc_J9_max_7cf53⟩
theorem cl_6_303 : CLS RX6 303 M_X6_isTold 1 := ⟨tt_of 742 (by decide +kernel) rfl, tt_of 743 (by decide +kernel) rfl, cc_X6_isTold⟩
theorem cl_6_306 : CLV RX6 306 M_X2_alter 3 := ⟨tt_of 745 (by decide +kernel) rfl, tt_of 746 (by decide +kernel) rfl, tt_of 747 (by decide +kernel) rfl, cc_X2_alter⟩
theorem cl_6_309 : CLV RX6 309 M_X6_fits 4 := ⟨tt_of 749 (by decide +kernel) rfl, tt_of 751 (by decide +kernel) rfl, tt_of 29 (by decide +kernel) rfl, cc_X6_fits⟩
theorem cl_6_315 : CLV RX6 315 M_X6_casesOfStayingOpen 2 := ⟨tt_of 762 (by decide +kernel) rfl, tt_of 764 (by decide +kernel) rfl, tt_of 30 (by decide +kernel) rfl, cc_X6_casesOfStayingOpen⟩
theorem cl_6_321 : CLS RX6 321 M_X6_greatestDivisor 2 := ⟨tt_of 767 (by decide +kernel) rfl, tt_of 768 (by decide +kernel) rfl, cc_X6_greatestDivisor⟩
theorem cl_6_325 : CLS RX6 325 M_J9_max_f86c9 2 := ⟨tt_of 770 (by decide +kernel) rfl, tt_of 771 (by decide +kernel) rfl, cc_J9_max_f86c9⟩
theorem cl_6_332 : CLV RX6 332 M_X2_draw 1 := ⟨tt_of 780 (by decide +kernel) rfl, tt_of 781 (by decide +kernel) rfl, tt_of 782 (by decide +kernel) rfl, cc_X2_draw⟩
theorem cl_6_338 : CLS RX6 338 M_X6_isOfKind 2 := ⟨tt_of 801 (by decide +kernel) rfl, tt_of 802 (by decide +kernel) rfl, cc_X6_isOfKind⟩
theorem cl_6_345 : CLV RX6 345 M_X1_begin 3 := ⟨tt_of 810 (by decide +kernel) rfl, tt_of 811 (by decide +kernel) rfl, tt_of 812 (by decide +kernel) rfl, cc_X1_begin⟩
theorem cl_6_355 : CLV RX6 355 M_X4_howMany 0 := ⟨tt_of 838 (by decide +kernel) rfl, tt_of 839 (by decide +kernel) rfl, tt_of 840 (by decide +kernel) rfl, cc_X4_howMany⟩
theorem cl_0_22 : CLV RX0 22 M_X2_become 1 := ⟨tt_of 483 (by decide +kernel) rfl, tt_of 462 (by decide +kernel) rfl, tt_of 463 (by decide +kernel) rfl, cc_X2_become⟩
theorem cl_0_29 : CLS RX0 29 M_J9_min_7cf53 2 := ⟨tt_of 500 (by decide +kernel) rfl, tt_of 501 (by decide +kernel) rfl, cc_J9_min_7cf53⟩
theorem cl_1_24 : CLS RX1 24 M_X1_bodyFor 2 := ⟨tt_of 814 (by decide +kernel) rfl, tt_of 815 (by decide +kernel) rfl, cc_X1_bodyFor⟩
theorem cl_1_28 : CLV RX1 28 M_X1_answer 4 := ⟨tt_of 822 (by decide +kernel) rfl, tt_of 824 (by decide +kernel) rfl, tt_of 31 (by decide +kernel) rfl, cc_X1_answer⟩
theorem cl_1_41 : CLV RX1 41 M_X1_leave 1 := ⟨tt_of 826 (by decide +kernel) rfl, tt_of 828 (by decide +kernel) rfl, tt_of 32 (by decide +kernel) rfl, cc_X1_leave⟩
theorem cl_2_67 : CLV RX2 67 M_X2_dirty 2 := ⟨tt_of 452 (by decide +kernel) rfl, tt_of 453 (by decide +kernel) rfl, tt_of 454 (by decide +kernel) rfl, cc_X2_dirty⟩
theorem cl_2_71 : CLS RX2 71 M_J9_max_7cf53 2 := ⟨tt_of 532 (by decide +kernel) rfl, tt_of 533 (by decide +kernel) rfl, cc_J9_max_7cf53⟩
theorem cl_2_77 : CLV RX2 77 M_X2_takeOut 1 := ⟨tt_of 507 (by decide +kernel) rfl, tt_of 509 (by decide +kernel) rfl, tt_of 16 (by decide +kernel) rfl, cc_X2_takeOut⟩
theorem cl_2_81 : CLV RX2 81 M_X2_isOpen 1 := ⟨tt_of 516 (by decide +kernel) rfl, tt_of 517 (by decide +kernel) rfl, tt_of 518 (by decide +kernel) rfl, cc_X2_isOpen⟩
theorem cl_2_85 : CLV RX2 85 M_X2_waitingFor 1 := ⟨tt_of 520 (by decide +kernel) rfl, tt_of 522 (by decide +kernel) rfl, tt_of 17 (by decide +kernel) rfl, cc_X2_waitingFor⟩
theorem cl_2_89 : CLV RX2 89 M_X2_putIn 2 := ⟨tt_of 524 (by decide +kernel) rfl, tt_of 526 (by decide +kernel) rfl, tt_of 18 (by decide +kernel) rfl, cc_X2_putIn⟩
theorem cl_2_92 : CLV RX2 92 M_X2_passTick 0 := ⟨tt_of 621 (by decide +kernel) rfl, tt_of 504 (by decide +kernel) rfl, tt_of 505 (by decide +kernel) rfl, cc_X2_passTick⟩
theorem cl_2_95 : CLV RX2 95 M_X2_quietTicks 1 := ⟨tt_of 622 (by decide +kernel) rfl, tt_of 624 (by decide +kernel) rfl, tt_of 22 (by decide +kernel) rfl, cc_X2_quietTicks⟩
theorem cl_2_98 : CLV RX2 98 M_X2_passQuietTicks 1 := ⟨tt_of 626 (by decide +kernel) rfl, tt_of 628 (by decide +kernel) rfl, tt_of 23 (by decide +kernel) rfl, cc_X2_passQuietTicks⟩
theorem cl_2_101 : CLS RX2 101 M_J9_min_7cf53 2 := ⟨tt_of 515 (by decide +kernel) rfl, tt_of 501 (by decide +kernel) rfl, cc_J9_min_7cf53⟩
theorem cl_2_104 : CLV RX2 104 M_X2_washes 1 := ⟨tt_of 511 (by decide +kernel) rfl, tt_of 512 (by decide +kernel) rfl, tt_of 513 (by decide +kernel) rfl, cc_X2_washes⟩
theorem cl_2_107 : CLV RX2 107 M_X2_lastsWith 2 := ⟨tt_of 528 (by decide +kernel) rfl, tt_of 529 (by decide +kernel) rfl, tt_of 530 (by decide +kernel) rfl, cc_X2_lastsWith⟩
theorem cl_2_110 : CLV RX2 110 M_X2_turn 1 := ⟨tt_of 784 (by decide +kernel) rfl, tt_of 548 (by decide +kernel) rfl, tt_of 549 (by decide +kernel) rfl, cc_X2_turn⟩
theorem cl_2_114 : CLV RX2 114 M_X2_lateOf 1 := ⟨tt_of 642 (by decide +kernel) rfl, tt_of 585 (by decide +kernel) rfl, tt_of 586 (by decide +kernel) rfl, cc_X2_lateOf⟩
theorem cl_2_117 : CLV RX2 117 M_X2_whichAre 1 := ⟨tt_of 663 (by decide +kernel) rfl, tt_of 536 (by decide +kernel) rfl, tt_of 537 (by decide +kernel) rfl, cc_X2_whichAre⟩
theorem cl_2_120 : CLS RX2 120 M_J6_bitCount_0f7a4 1 := ⟨tt_of 664 (by decide +kernel) rfl, tt_of 665 (by decide +kernel) rfl, cc_J6_bitCount_0f7a4⟩
theorem cl_2_125 : CLV RX2 125 M_X2_howManyAre 1 := ⟨tt_of 659 (by decide +kernel) rfl, tt_of 660 (by decide +kernel) rfl, tt_of 661 (by decide +kernel) rfl, cc_X2_howManyAre⟩
theorem cl_3_33 : CLV RX3 33 M_X3_tryOne 4 := ⟨tt_of 682 (by decide +kernel) rfl, tt_of 684 (by decide +kernel) rfl, tt_of 24 (by decide +kernel) rfl, cc_X3_tryOne⟩
theorem cl_3_37 : CLV RX3 37 M_X2_lateOfAll 0 := ⟨tt_of 688 (by decide +kernel) rfl, tt_of 639 (by decide +kernel) rfl, tt_of 640 (by decide +kernel) rfl, cc_X2_lateOfAll⟩
theorem cl_3_50 : CLV RX3 50 M_X3_toNextOrder 1 := ⟨tt_of 690 (by decide +kernel) rfl, tt_of 692 (by decide +kernel) rfl, tt_of 25 (by decide +kernel) rfl, cc_X3_toNextOrder⟩
theorem cl_3_54 : CLV RX3 54 M_X2_become 1 := ⟨tt_of 686 (by decide +kernel) rfl, tt_of 462 (by decide +kernel) rfl, tt_of 463 (by decide +kernel) rfl, cc_X2_become⟩
theorem cl_3_58 : CLV RX3 58 M_X2_passTicks 1 := ⟨tt_of 687 (by decide +kernel) rfl, tt_of 618 (by decide +kernel) rfl, tt_of 619 (by decide +kernel) rfl, cc_X2_passTicks⟩
theorem cl_3_62 : CLV RX3 62 M_X2_howManyAre 1 := ⟨tt_of 689 (by decide +kernel) rfl, tt_of 660 (by decide +kernel) rfl, tt_of 661 (by decide +kernel) rfl, cc_X2_howManyAre⟩
theorem cl_3_66 : CLV RX3 66 M_X3_swap 2 := ⟨tt_of 694 (by decide +kernel) rfl, tt_of 696 (by decide +kernel) rfl, tt_of 26 (by decide +kernel) rfl, cc_X3_swap⟩
theorem cl_4_23 : CLV RX4 23 M_X4_isMissing 1 := ⟨tt_of 343 (by decide +kernel) rfl, tt_of 344 (by decide +kernel) rfl, tt_of 345 (by decide +kernel) rfl, cc_X4_isMissing⟩
theorem cl_4_27 : CLV RX4 27 M_X4_hasPlaces 3 := ⟨tt_of 347 (by decide +kernel) rfl, tt_of 348 (by decide +kernel) rfl, tt_of 349 (by decide +kernel) rfl, cc_X4_hasPlaces⟩
theorem cl_5_19 : CLV RX5 19 M_X2_clear 0 := ⟨tt_of 389 (by decide +kernel) rfl, tt_of 390 (by decide +kernel) rfl, tt_of 391 (by decide +kernel) rfl, cc_X2_clear⟩
theorem cl_5_27 : CLV RX5 27 M_X5_toNextToken 0 := ⟨tt_of 393 (by decide +kernel) rfl, tt_of 395 (by decide +kernel) rfl, tt_of 2 (by decide +kernel) rfl, cc_X5_toNextToken⟩
theorem cl_5_30 : CLV RX5 30 M_X5_readLaw 1 := ⟨tt_of 405 (by decide +kernel) rfl, tt_of 407 (by decide +kernel) rfl, tt_of 5 (by decide +kernel) rfl, cc_X5_readLaw⟩
theorem cl_5_34 : CLV RX5 34 M_X5_readMachines 1 := ⟨tt_of 425 (by decide +kernel) rfl, tt_of 427 (by decide +kernel) rfl, tt_of 10 (by decide +kernel) rfl, cc_X5_readMachines⟩
theorem cl_5_37 : CLV RX5 37 M_X5_readLoads 1 := ⟨tt_of 440 (by decide +kernel) rfl, tt_of 442 (by decide +kernel) rfl, tt_of 12 (by decide +kernel) rfl, cc_X5_readLoads⟩
theorem cl_5_40 : CLV RX5 40 M_X5_passes 1 := ⟨tt_of 409 (by decide +kernel) rfl, tt_of 411 (by decide +kernel) rfl, tt_of 6 (by decide +kernel) rfl, cc_X5_passes⟩
theorem cl_5_44 : CLV RX5 44 M_X5_isNumber 2 := ⟨tt_of 417 (by decide +kernel) rfl, tt_of 419 (by decide +kernel) rfl, tt_of 8 (by decide +kernel) rfl, cc_X5_isNumber⟩
theorem cl_5_48 : CLV RX5 48 M_X5_takeNumber 0 := ⟨tt_of 421 (by decide +kernel) rfl, tt_of 423 (by decide +kernel) rfl, tt_of 9 (by decide +kernel) rfl, cc_X5_takeNumber⟩
theorem cl_5_58 : CLS RX5 58 M_X5_kindOfLetter 1 := ⟨tt_of 429 (by decide +kernel) rfl, tt_of 430 (by decide +kernel) rfl, cc_X5_kindOfLetter⟩
theorem cl_5_62 : CLV RX5 62 M_X5_failed 1 := ⟨tt_of 413 (by decide +kernel) rfl, tt_of 415 (by decide +kernel) rfl, tt_of 7 (by decide +kernel) rfl, cc_X5_failed⟩
theorem cl_5_65 : CLV RX5 65 M_X5_readMachine 1 := ⟨tt_of 432 (by decide +kernel) rfl, tt_of 434 (by decide +kernel) rfl, tt_of 11 (by decide +kernel) rfl, cc_X5_readMachine⟩
theorem cl_5_71 : CLV RX5 71 M_X2_addMachine 3 := ⟨tt_of 436 (by decide +kernel) rfl, tt_of 437 (by decide +kernel) rfl, tt_of 438 (by decide +kernel) rfl, cc_X2_addMachine⟩
theorem cl_5_75 : CLV RX5 75 M_X5_readLoad 1 := ⟨tt_of 444 (by decide +kernel) rfl, tt_of 446 (by decide +kernel) rfl, tt_of 13 (by decide +kernel) rfl, cc_X5_readLoad⟩
theorem cl_5_81 : CLV RX5 81 M_X2_addLoad 2 := ⟨tt_of 448 (by decide +kernel) rfl, tt_of 449 (by decide +kernel) rfl, tt_of 450 (by decide +kernel) rfl, cc_X2_addLoad⟩
theorem cl_5_94 : CLV RX5 94 M_X5_isFigure 1 := ⟨tt_of 397 (by decide +kernel) rfl, tt_of 399 (by decide +kernel) rfl, tt_of 3 (by decide +kernel) rfl, cc_X5_isFigure⟩
theorem cl_5_97 : CLV RX5 97 M_X5_readFigures 0 := ⟨tt_of 401 (by decide +kernel) rfl, tt_of 403 (by decide +kernel) rfl, tt_of 4 (by decide +kernel) rfl, cc_X5_readFigures⟩
theorem cl_L_9 : CLI RL 9 M_X6_init 0 := ⟨tt_of 89 (by decide +kernel) rfl, tt_of 90 (by decide +kernel) rfl, rfl, rfl, cc_X6_init⟩
theorem cl_L_12 : CLI RL 12 M_X7_init 0 := ⟨tt_of 848 (by decide +kernel) rfl, tt_of 849 (by decide +kernel) rfl, rfl, rfl, cc_X7_init⟩
theorem cl_L_13 : CLV RL 13 M_X6_row 3 := ⟨tt_of 314 (by decide +kernel) rfl, tt_of 315 (by decide +kernel) rfl, tt_of 316 (by decide +kernel) rfl, cc_X6_row⟩
theorem cl_L_17 : CLV RL 17 M_X7_row 3 := ⟨tt_of 944 (by decide +kernel) rfl, tt_of 945 (by decide +kernel) rfl, tt_of 946 (by decide +kernel) rfl, cc_X7_row⟩
theorem cl_L_18 : CLV RL 18 M_X6_set 3 := ⟨tt_of 335 (by decide +kernel) rfl, tt_of 336 (by decide +kernel) rfl, tt_of 337 (by decide +kernel) rfl, cc_X6_set⟩
theorem cl_L_21 : CLV RL 21 M_X7_set 3 := ⟨tt_of 964 (by decide +kernel) rfl, tt_of 965 (by decide +kernel) rfl, tt_of 966 (by decide +kernel) rfl, cc_X7_set⟩
theorem cl_L_22 : CLV RL 22 M_X6_copy 5 := ⟨tt_of 355 (by decide +kernel) rfl, tt_of 356 (by decide +kernel) rfl, tt_of 357 (by decide +kernel) rfl, cc_X6_copy⟩
theorem cl_L_26 : CLV RL 26 M_X7_copy 5 := ⟨tt_of 968 (by decide +kernel) rfl, tt_of 969 (by decide +kernel) rfl, tt_of 970 (by decide +kernel) rfl, cc_X7_copy⟩
theorem cl_L_27 : CLV RL 27 M_X6_drop 1 := ⟨tt_of 364 (by decide +kernel) rfl, tt_of 365 (by decide +kernel) rfl, tt_of 366 (by decide +kernel) rfl, cc_X6_drop⟩
theorem cl_L_31 : CLV RL 31 M_X7_drop 1 := ⟨tt_of 976 (by decide +kernel) rfl, tt_of 977 (by decide +kernel) rfl, tt_of 978 (by decide +kernel) rfl, cc_X7_drop⟩
theorem cl_L_32 : CLV RL 32 M_X6_feed 1 := ⟨tt_of 372 (by decide +kernel) rfl, tt_of 373 (by decide +kernel) rfl, tt_of 374 (by decide +kernel) rfl, cc_X6_feed⟩
theorem cl_L_35 : CLV RL 35 M_X7_feed 1 := ⟨tt_of 980 (by decide +kernel) rfl, tt_of 981 (by decide +kernel) rfl, tt_of 982 (by decide +kernel) rfl, cc_X7_feed⟩
theorem cl_L_36 : CLV RL 36 M_X6_launderette 0 := ⟨tt_of 381 (by decide +kernel) rfl, tt_of 382 (by decide +kernel) rfl, tt_of 383 (by decide +kernel) rfl, cc_X6_launderette⟩
theorem cl_L_40 : CLV RL 40 M_X7_launderette 0 := ⟨tt_of 985 (by decide +kernel) rfl, tt_of 986 (by decide +kernel) rfl, tt_of 987 (by decide +kernel) rfl, cc_X7_launderette⟩
theorem cl_L_41 : CLV RL 41 M_X6_fault 0 := ⟨tt_of 470 (by decide +kernel) rfl, tt_of 471 (by decide +kernel) rfl, tt_of 472 (by decide +kernel) rfl, cc_X6_fault⟩
theorem cl_L_44 : CLV RL 44 M_X7_fault 0 := ⟨tt_of 1029 (by decide +kernel) rfl, tt_of 1030 (by decide +kernel) rfl, tt_of 1031 (by decide +kernel) rfl, cc_X7_fault⟩
theorem cl_L_45 : CLV RL 45 M_X6_undo 0 := ⟨tt_of 474 (by decide +kernel) rfl, tt_of 475 (by decide +kernel) rfl, tt_of 476 (by decide +kernel) rfl, cc_X6_undo⟩
theorem cl_L_48 : CLV RL 48 M_X7_undo 0 := ⟨tt_of 1033 (by decide +kernel) rfl, tt_of 1034 (by decide +kernel) rfl, tt_of 1035 (by decide +kernel) rfl, cc_X7_undo⟩
theorem cl_L_49 : CLV RL 49 M_X6_ticks 1 := ⟨tt_of 484 (by decide +kernel) rfl, tt_of 485 (by decide +kernel) rfl, tt_of 486 (by decide +kernel) rfl, cc_X6_ticks⟩
theorem cl_L_52 : CLV RL 52 M_X7_ticks 1 := ⟨tt_of 1038 (by decide +kernel) rfl, tt_of 1039 (by decide +kernel) rfl, tt_of 1040 (by decide +kernel) rfl, cc_X7_ticks⟩
theorem cl_L_53 : CLV RL 53 M_X6_shut 1 := ⟨tt_of 539 (by decide +kernel) rfl, tt_of 540 (by decide +kernel) rfl, tt_of 541 (by decide +kernel) rfl, cc_X6_shut⟩
theorem cl_L_56 : CLV RL 56 M_X7_shut 1 := ⟨tt_of 1079 (by decide +kernel) rfl, tt_of 1080 (by decide +kernel) rfl, tt_of 1081 (by decide +kernel) rfl, cc_X7_shut⟩
theorem cl_L_57 : CLV RL 57 M_X6_power 1 := ⟨tt_of 552 (by decide +kernel) rfl, tt_of 553 (by decide +kernel) rfl, tt_of 554 (by decide +kernel) rfl, cc_X6_power⟩
theorem cl_L_60 : CLV RL 60 M_X7_power 1 := ⟨tt_of 1087 (by decide +kernel) rfl, tt_of 1088 (by decide +kernel) rfl, tt_of 1089 (by decide +kernel) rfl, cc_X7_power⟩
theorem cl_L_61 : CLV RL 61 M_X6_due 2 := ⟨tt_of 556 (by decide +kernel) rfl, tt_of 557 (by decide +kernel) rfl, tt_of 558 (by decide +kernel) rfl, cc_X6_due⟩
theorem cl_L_65 : CLV RL 65 M_X7_due 2 := ⟨tt_of 1091 (by decide +kernel) rfl, tt_of 1092 (by decide +kernel) rfl, tt_of 1093 (by decide +kernel) rfl, cc_X7_due⟩
theorem cl_L_66 : CLV RL 66 M_X6_again 2 := ⟨tt_of 564 (by decide +kernel) rfl, tt_of 565 (by decide +kernel) rfl, tt_of 566 (by decide +kernel) rfl, cc_X6_again⟩
theorem cl_L_69 : CLV RL 69 M_X7_again 2 := ⟨tt_of 1099 (by decide +kernel) rfl, tt_of 1100 (by decide +kernel) rfl, tt_of 1101 (by decide +kernel) rfl, cc_X7_again⟩
theorem cl_L_70 : CLV RL 70 M_X6_machine 2 := ⟨tt_of 569 (by decide +kernel) rfl, tt_of 570 (by decide +kernel) rfl, tt_of 571 (by decide +kernel) rfl, cc_X6_machine⟩
theorem cl_L_73 : CLV RL 73 M_X7_machine 2 := ⟨tt_of 1103 (by decide +kernel) rfl, tt_of 1104 (by decide +kernel) rfl, tt_of 1105 (by decide +kernel) rfl, cc_X7_machine⟩
theorem cl_L_74 : CLV RL 74 M_X6_load 2 := ⟨tt_of 579 (by decide +kernel) rfl, tt_of 580 (by decide +kernel) rfl, tt_of 581 (by decide +kernel) rfl, cc_X6_load⟩
theorem cl_L_77 : CLV RL 77 M_X7_load 2 := ⟨tt_of 1108 (by decide +kernel) rfl, tt_of 1109 (by decide +kernel) rfl, tt_of 1110 (by decide +kernel) rfl, cc_X7_load⟩
theorem cl_L_78 : CLV RL 78 M_X6_lasts 2 := ⟨tt_of 588 (by decide +kernel) rfl, tt_of 589 (by decide +kernel) rfl, tt_of 590 (by decide +kernel) rfl, cc_X6_lasts⟩
theorem cl_L_81 : CLV RL 81 M_X7_lasts 2 := ⟨tt_of 1115 (by decide +kernel) rfl, tt_of 1116 (by decide +kernel) rfl, tt_of 1117 (by decide +kernel) rfl, cc_X7_lasts⟩
theorem cl_L_82 : CLV RL 82 M_X6_stand 1 := ⟨tt_of 593 (by decide +kernel) rfl, tt_of 594 (by decide +kernel) rfl, tt_of 595 (by decide +kernel) rfl, cc_X6_stand⟩
theorem cl_L_85 : CLV RL 85 M_X7_stand 1 := ⟨tt_of 1119 (by decide +kernel) rfl, tt_of 1120 (by decide +kernel) rfl, tt_of 1121 (by decide +kernel) rfl, cc_X7_stand⟩
theorem cl_L_86 : CLV RL 86 M_X6_ahead 3 := ⟨tt_of 601 (by decide +kernel) rfl, tt_of 602 (by decide +kernel) rfl, tt_of 603 (by decide +kernel) rfl, cc_X6_ahead⟩
theorem cl_L_89 : CLV RL 89 M_X7_ahead 3 := ⟨tt_of 1127 (by decide +kernel) rfl, tt_of 1128 (by decide +kernel) rfl, tt_of 1129 (by decide +kernel) rfl, cc_X7_ahead⟩
theorem cl_L_90 : CLV RL 90 M_X6_inside 3 := ⟨tt_of 630 (by decide +kernel) rfl, tt_of 631 (by decide +kernel) rfl, tt_of 632 (by decide +kernel) rfl, cc_X6_inside⟩
theorem cl_L_93 : CLV RL 93 M_X7_inside 3 := ⟨tt_of 1143 (by decide +kernel) rfl, tt_of 1144 (by decide +kernel) rfl, tt_of 1145 (by decide +kernel) rfl, cc_X7_inside⟩
theorem cl_L_94 : CLV RL 94 M_X6_all 2 := ⟨tt_of 634 (by decide +kernel) rfl, tt_of 635 (by decide +kernel) rfl, tt_of 636 (by decide +kernel) rfl, cc_X6_all⟩
theorem cl_L_97 : CLV RL 97 M_X7_all 2 := ⟨tt_of 1147 (by decide +kernel) rfl, tt_of 1148 (by decide +kernel) rfl, tt_of 1149 (by decide +kernel) rfl, cc_X7_all⟩
theorem cl_L_98 : CLV RL 98 M_X6_when 2 := ⟨tt_of 643 (by decide +kernel) rfl, tt_of 644 (by decide +kernel) rfl, tt_of 645 (by decide +kernel) rfl, cc_X6_when⟩
theorem cl_L_101 : CLV RL 101 M_X7_when 2 := ⟨tt_of 1155 (by decide +kernel) rfl, tt_of 1156 (by decide +kernel) rfl, tt_of 1157 (by decide +kernel) rfl, cc_X7_when⟩
theorem cl_L_102 : CLV RL 102 M_X6_over 0 := ⟨tt_of 651 (by decide +kernel) rfl, tt_of 652 (by decide +kernel) rfl, tt_of 653 (by decide +kernel) rfl, cc_X6_over⟩
theorem cl_L_105 : CLV RL 105 M_X7_over 0 := ⟨tt_of 1163 (by decide +kernel) rfl, tt_of 1164 (by decide +kernel) rfl, tt_of 1165 (by decide +kernel) rfl, cc_X7_over⟩
theorem cl_L_106 : CLV RL 106 M_X6_order 2 := ⟨tt_of 670 (by decide +kernel) rfl, tt_of 671 (by decide +kernel) rfl, tt_of 672 (by decide +kernel) rfl, cc_X6_order⟩
theorem cl_L_109 : CLV RL 109 M_X7_order 2 := ⟨tt_of 1171 (by decide +kernel) rfl, tt_of 1172 (by decide +kernel) rfl, tt_of 1173 (by decide +kernel) rfl, cc_X7_order⟩
theorem cl_L_110 : CLV RL 110 M_X6_need 1 := ⟨tt_of 698 (by decide +kernel) rfl, tt_of 699 (by decide +kernel) rfl, tt_of 700 (by decide +kernel) rfl, cc_X6_need⟩
theorem cl_L_113 : CLV RL 113 M_X7_need 1 := ⟨tt_of 1186 (by decide +kernel) rfl, tt_of 1187 (by decide +kernel) rfl, tt_of 1188 (by decide +kernel) rfl, cc_X7_need⟩
theorem cl_L_114 : CLV RL 114 M_X6_open 2 := ⟨tt_of 702 (by decide +kernel) rfl, tt_of 703 (by decide +kernel) rfl, tt_of 704 (by decide +kernel) rfl, cc_X6_open⟩
theorem cl_L_117 : CLV RL 117 M_X7_open 2 := ⟨tt_of 1190 (by decide +kernel) rfl, tt_of 1191 (by decide +kernel) rfl, tt_of 1192 (by decide +kernel) rfl, cc_X7_open⟩
theorem cl_L_118 : CLV RL 118 M_X6_fills 2 := ⟨tt_of 707 (by decide +kernel) rfl, tt_of 708 (by decide +kernel) rfl, tt_of 709 (by decide +kernel) rfl, cc_X6_fills⟩
theorem cl_L_121 : CLV RL 121 M_X7_fills 2 := ⟨tt_of 1194 (by decide +kernel) rfl, tt_of 1195 (by decide +kernel) rfl, tt_of 1196 (by decide +kernel) rfl, cc_X7_fills⟩
theorem cl_L_122 : CLV RL 122 M_X6_share 2 := ⟨tt_of 715 (by decide +kernel) rfl, tt_of 716 (by decide +kernel) rfl, tt_of 717 (by decide +kernel) rfl, cc_X6_share⟩
theorem cl_L_125 : CLV RL 125 M_X7_share 2 := ⟨tt_of 1198 (by decide +kernel) rfl, tt_of 1199 (by decide +kernel) rfl, tt_of 1200 (by decide +kernel) rfl, cc_X7_share⟩
theorem cl_L_126 : CLV RL 126 M_X6_byTurns 2 := ⟨tt_of 723 (by decide +kernel) rfl, tt_of 724 (by decide +kernel) rfl, tt_of 725 (by decide +kernel) rfl, cc_X6_byTurns⟩
theorem cl_L_129 : CLV RL 129 M_X7_byTurns 2 := ⟨tt_of 1206 (by decide +kernel) rfl, tt_of 1207 (by decide +kernel) rfl, tt_of 1208 (by decide +kernel) rfl, cc_X7_byTurns⟩
theorem cl_L_130 : CLV RL 130 M_X6_who 5 := ⟨tt_of 738 (by decide +kernel) rfl, tt_of 739 (by decide +kernel) rfl, tt_of 740 (by decide +kernel) rfl, cc_X6_who⟩
theorem cl_L_133 : CLV RL 133 M_X7_who 5 := ⟨tt_of 1214 (by decide +kernel) rfl, tt_of 1215 (by decide +kernel) rfl, tt_of 1216 (by decide +kernel) rfl, cc_X7_who⟩
theorem cl_L_134 : CLV RL 134 M_X6_sizes 4 := ⟨tt_of 753 (by decide +kernel) rfl, tt_of 754 (by decide +kernel) rfl, tt_of 755 (by decide +kernel) rfl, cc_X6_sizes⟩
theorem cl_L_138 : CLV RL 138 M_X7_sizes 4 := ⟨tt_of 1226 (by decide +kernel) rfl, tt_of 1227 (by decide +kernel) rfl, tt_of 1228 (by decide +kernel) rfl, cc_X7_sizes⟩
theorem cl_L_139 : CLV RL 139 M_X6_breaks 4 := ⟨tt_of 757 (by decide +kernel) rfl, tt_of 758 (by decide +kernel) rfl, tt_of 759 (by decide +kernel) rfl, cc_X6_breaks⟩
theorem cl_L_143 : CLV RL 143 M_X7_breaks 4 := ⟨tt_of 1230 (by decide +kernel) rfl, tt_of 1231 (by decide +kernel) rfl, tt_of 1232 (by decide +kernel) rfl, cc_X7_breaks⟩
theorem cl_L_144 : CLV RL 144 M_X6_drawn 3 := ⟨tt_of 773 (by decide +kernel) rfl, tt_of 774 (by decide +kernel) rfl, tt_of 775 (by decide +kernel) rfl, cc_X6_drawn⟩
theorem cl_L_147 : CLV RL 147 M_X7_drawn 3 := ⟨tt_of 1242 (by decide +kernel) rfl, tt_of 1243 (by decide +kernel) rfl, tt_of 1244 (by decide +kernel) rfl, cc_X7_drawn⟩
theorem cl_L_148 : CLV RL 148 M_X6_image 1 := ⟨tt_of 785 (by decide +kernel) rfl, tt_of 786 (by decide +kernel) rfl, tt_of 787 (by decide +kernel) rfl, cc_X6_image⟩
theorem cl_L_151 : CLV RL 151 M_X7_image 1 := ⟨tt_of 1249 (by decide +kernel) rfl, tt_of 1250 (by decide +kernel) rfl, tt_of 1251 (by decide +kernel) rfl, cc_X7_image⟩
theorem cl_L_152 : CLV RL 152 M_X6_restore 1 := ⟨tt_of 789 (by decide +kernel) rfl, tt_of 790 (by decide +kernel) rfl, tt_of 791 (by decide +kernel) rfl, cc_X6_restore⟩
theorem cl_L_155 : CLV RL 155 M_X7_restore 1 := ⟨tt_of 1253 (by decide +kernel) rfl, tt_of 1254 (by decide +kernel) rfl, tt_of 1255 (by decide +kernel) rfl, cc_X7_restore⟩
theorem cl_L_156 : CLV RL 156 M_X6_kind 1 := ⟨tt_of 793 (by decide +kernel) rfl, tt_of 794 (by decide +kernel) rfl, tt_of 795 (by decide +kernel) rfl, cc_X6_kind⟩
theorem cl_L_159 : CLV RL 159 M_X7_kind 1 := ⟨tt_of 1257 (by decide +kernel) rfl, tt_of 1258 (by decide +kernel) rfl, tt_of 1259 (by decide +kernel) rfl, cc_X7_kind⟩
theorem cl_L_160 : CLV RL 160 M_X6_as 2 := ⟨tt_of 797 (by decide +kernel) rfl, tt_of 798 (by decide +kernel) rfl, tt_of 799 (by decide +kernel) rfl, cc_X6_as⟩
theorem cl_L_163 : CLV RL 163 M_X7_as 2 := ⟨tt_of 1261 (by decide +kernel) rfl, tt_of 1262 (by decide +kernel) rfl, tt_of 1263 (by decide +kernel) rfl, cc_X7_as⟩
theorem cl_L_164 : CLV RL 164 M_X6_ask 2 := ⟨tt_of 806 (by decide +kernel) rfl, tt_of 807 (by decide +kernel) rfl, tt_of 808 (by decide +kernel) rfl, cc_X6_ask⟩
theorem cl_L_167 : CLV RL 167 M_X7_ask 2 := ⟨tt_of 1265 (by decide +kernel) rfl, tt_of 1266 (by decide +kernel) rfl, tt_of 1267 (by decide +kernel) rfl, cc_X7_ask⟩
theorem cl_L_168 : CLV RL 168 M_X6_trace 1 := ⟨tt_of 830 (by decide +kernel) rfl, tt_of 831 (by decide +kernel) rfl, tt_of 832 (by decide +kernel) rfl, cc_X6_trace⟩
theorem cl_L_171 : CLV RL 171 M_X7_trace 1 := ⟨tt_of 1297 (by decide +kernel) rfl, tt_of 1298 (by decide +kernel) rfl, tt_of 1299 (by decide +kernel) rfl, cc_X7_trace⟩
theorem cl_L_172 : CLV RL 172 M_X6_count 1 := ⟨tt_of 834 (by decide +kernel) rfl, tt_of 835 (by decide +kernel) rfl, tt_of 836 (by decide +kernel) rfl, cc_X6_count⟩
theorem cl_L_175 : CLV RL 175 M_X7_count 1 := ⟨tt_of 1301 (by decide +kernel) rfl, tt_of 1302 (by decide +kernel) rfl, tt_of 1303 (by decide +kernel) rfl, cc_X7_count⟩
theorem cl_L_176 : CLV RL 176 M_X6_status 0 := ⟨tt_of 842 (by decide +kernel) rfl, tt_of 843 (by decide +kernel) rfl, tt_of 844 (by decide +kernel) rfl, cc_X6_status⟩
theorem cl_L_179 : CLV RL 179 M_X7_status 0 := ⟨tt_of 1309 (by decide +kernel) rfl, tt_of 1310 (by decide +kernel) rfl, tt_of 1311 (by decide +kernel) rfl, cc_X7_status⟩
theorem cl_7_70 : CLS RX7 70 M_X7_in 3 := ⟨tt_of 951 (by decide +kernel) rfl, tt_of 952 (by decide +kernel) rfl, cc_X7_in⟩
theorem cl_7_74 : CLS RX7 74 M_X7_isRow 1 := ⟨tt_of 948 (by decide +kernel) rfl, tt_of 949 (by decide +kernel) rfl, cc_X7_isRow⟩
theorem cl_7_79 : CLV RX7 79 M_X7_found 1 := ⟨tt_of 955 (by decide +kernel) rfl, tt_of 957 (by decide +kernel) rfl, tt_of 33 (by decide +kernel) rfl, cc_X7_found⟩
theorem cl_7_83 : CLV RX7 83 M_X7_well 1 := ⟨tt_of 960 (by decide +kernel) rfl, tt_of 962 (by decide +kernel) rfl, tt_of 34 (by decide +kernel) rfl, cc_X7_well⟩
theorem cl_7_86 : CLV RX7 86 M_X7_isPart 3 := ⟨tt_of 972 (by decide +kernel) rfl, tt_of 974 (by decide +kernel) rfl, tt_of 35 (by decide +kernel) rfl, cc_X7_isPart⟩
theorem cl_7_99 : CLV RX7 99 M_X7_letterAt 1 := ⟨tt_of 997 (by decide +kernel) rfl, tt_of 999 (by decide +kernel) rfl, tt_of 38 (by decide +kernel) rfl, cc_X7_letterAt⟩
theorem cl_7_111 : CLV RX7 111 M_X7_isWell 0 := ⟨tt_of 1005 (by decide +kernel) rfl, tt_of 1007 (by decide +kernel) rfl, tt_of 40 (by decide +kernel) rfl, cc_X7_isWell⟩
theorem cl_7_118 : CLV RX7 118 M_X7_faulty 1 := ⟨tt_of 1009 (by decide +kernel) rfl, tt_of 1011 (by decide +kernel) rfl, tt_of 41 (by decide +kernel) rfl, cc_X7_faulty⟩
theorem cl_7_122 : CLV RX7 122 M_X7_advances 0 := ⟨tt_of 993 (by decide +kernel) rfl, tt_of 995 (by decide +kernel) rfl, tt_of 37 (by decide +kernel) rfl, cc_X7_advances⟩
theorem cl_7_125 : CLS RX7 125 M_X7_kindOf 1 := ⟨tt_of 1017 (by decide +kernel) rfl, tt_of 1018 (by decide +kernel) rfl, cc_X7_kindOf⟩
theorem cl_7_128 : CLV RX7 128 M_X7_number 2 := ⟨tt_of 1013 (by decide +kernel) rfl, tt_of 1015 (by decide +kernel) rfl, tt_of 42 (by decide +kernel) rfl, cc_X7_number⟩
theorem cl_7_132 : CLV RX7 132 M_X7_takes 2 := ⟨tt_of 1001 (by decide +kernel) rfl, tt_of 1003 (by decide +kernel) rfl, tt_of 39 (by decide +kernel) rfl, cc_X7_takes⟩
theorem cl_7_136 : CLV RX7 136 M_X7_readsMachine 0 := ⟨tt_of 1020 (by decide +kernel) rfl, tt_of 1022 (by decide +kernel) rfl, tt_of 43 (by decide +kernel) rfl, cc_X7_readsMachine⟩
theorem cl_7_139 : CLV RX7 139 M_X7_readsLoad 0 := ⟨tt_of 1024 (by decide +kernel) rfl, tt_of 1026 (by decide +kernel) rfl, tt_of 44 (by decide +kernel) rfl, cc_X7_readsLoad⟩
theorem cl_7_142 : CLV RX7 142 M_X7_reads 0 := ⟨tt_of 989 (by decide +kernel) rfl, tt_of 991 (by decide +kernel) rfl, tt_of 36 (by decide +kernel) rfl, cc_X7_reads⟩
theorem cl_7_152 : CLS RX7 152 M_X7_washes 1 := ⟨tt_of 1062 (by decide +kernel) rfl, tt_of 1063 (by decide +kernel) rfl, cc_X7_washes⟩
theorem cl_7_158 : CLV RX7 158 M_X7_comesOut 3 := ⟨tt_of 1058 (by decide +kernel) rfl, tt_of 1060 (by decide +kernel) rfl, tt_of 49 (by decide +kernel) rfl, cc_X7_comesOut⟩
theorem cl_7_162 : CLS RX7 162 M_X7_has 2 := ⟨tt_of 1065 (by decide +kernel) rfl, tt_of 1066 (by decide +kernel) rfl, cc_X7_has⟩
theorem cl_7_166 : CLV RX7 166 M_X7_waits 3 := ⟨tt_of 1068 (by decide +kernel) rfl, tt_of 1070 (by decide +kernel) rfl, tt_of 50 (by decide +kernel) rfl, cc_X7_waits⟩
theorem cl_7_170 : CLS RX7 170 M_X7_lastsOf 4 := ⟨tt_of 1072 (by decide +kernel) rfl, tt_of 1073 (by decide +kernel) rfl, cc_X7_lastsOf⟩
theorem cl_7_174 : CLV RX7 174 M_X7_ticksOne 2 := ⟨tt_of 1054 (by decide +kernel) rfl, tt_of 1056 (by decide +kernel) rfl, tt_of 48 (by decide +kernel) rfl, cc_X7_ticksOne⟩
theorem cl_7_178 : CLV RX7 178 M_X7_asNow 0 := ⟨tt_of 1135 (by decide +kernel) rfl, tt_of 1137 (by decide +kernel) rfl, tt_of 56 (by decide +kernel) rfl, cc_X7_asNow⟩
theorem cl_7_181 : CLV RX7 181 M_X7_ranksByNumber 0 := ⟨tt_of 1046 (by decide +kernel) rfl, tt_of 1048 (by decide +kernel) rfl, tt_of 46 (by decide +kernel) rfl, cc_X7_ranksByNumber⟩
theorem cl_7_184 : CLV RX7 184 M_X7_foretells 1 := ⟨tt_of 1139 (by decide +kernel) rfl, tt_of 1141 (by decide +kernel) rfl, tt_of 57 (by decide +kernel) rfl, cc_X7_foretells⟩
theorem cl_7_187 : CLS RX7 187 M_X7_lateOf 2 := ⟨tt_of 1112 (by decide +kernel) rfl, tt_of 1113 (by decide +kernel) rfl, cc_X7_lateOf⟩
theorem cl_7_191 : CLV RX7 191 M_X7_howAll 2 := ⟨tt_of 1075 (by decide +kernel) rfl, tt_of 1077 (by decide +kernel) rfl, tt_of 51 (by decide +kernel) rfl, cc_X7_howAll⟩
theorem cl_7_195 : CLV RX7 195 M_X7_isNothing 0 := ⟨tt_of 1042 (by decide +kernel) rfl, tt_of 1044 (by decide +kernel) rfl, tt_of 45 (by decide +kernel) rfl, cc_X7_isNothing⟩
theorem cl_7_198 : CLV RX7 198 M_X7_notes 0 := ⟨tt_of 1050 (by decide +kernel) rfl, tt_of 1052 (by decide +kernel) rfl, tt_of 47 (by decide +kernel) rfl, cc_X7_notes⟩
theorem cl_7_201 : CLV RX7 201 M_X7_isMachine 1 := ⟨tt_of 1083 (by decide +kernel) rfl, tt_of 1085 (by decide +kernel) rfl, tt_of 52 (by decide +kernel) rfl, cc_X7_isMachine⟩
theorem cl_7_204 : CLV RX7 204 M_X7_isLoad 1 := ⟨tt_of 1095 (by decide +kernel) rfl, tt_of 1097 (by decide +kernel) rfl, tt_of 53 (by decide +kernel) rfl, cc_X7_isLoad⟩
theorem cl_7_208 : CLV RX7 208 M_X7_withLoads 0 := ⟨tt_of 1123 (by decide +kernel) rfl, tt_of 1125 (by decide +kernel) rfl, tt_of 54 (by decide +kernel) rfl, cc_X7_withLoads⟩
theorem cl_7_212 : CLV RX7 212 M_X7_goesAhead 1 := ⟨tt_of 1131 (by decide +kernel) rfl, tt_of 1133 (by decide +kernel) rfl, tt_of 55 (by decide +kernel) rfl, cc_X7_goesAhead⟩
theorem cl_7_215 : CLV RX7 215 M_X7_lateAll 1 := ⟨tt_of 1151 (by decide +kernel) rfl, tt_of 1153 (by decide +kernel) rfl, tt_of 58 (by decide +kernel) rfl, cc_X7_lateAll⟩
theorem cl_7_219 : CLV RX7 219 M_X7_isSo 2 := ⟨tt_of 1159 (by decide +kernel) rfl, tt_of 1161 (by decide +kernel) rfl, tt_of 59 (by decide +kernel) rfl, cc_X7_isSo⟩
theorem cl_7_222 : CLV RX7 222 M_X7_isAllDry 0 := ⟨tt_of 1167 (by decide +kernel) rfl, tt_of 1169 (by decide +kernel) rfl, tt_of 60 (by decide +kernel) rfl, cc_X7_isAllDry⟩
theorem cl_7_225 : CLV RX7 225 M_X7_trades 2 := ⟨tt_of 1182 (by decide +kernel) rfl, tt_of 1184 (by decide +kernel) rfl, tt_of 62 (by decide +kernel) rfl, cc_X7_trades⟩
theorem cl_7_228 : CLS RX7 228 M_X7_ones 1 := ⟨tt_of 1175 (by decide +kernel) rfl, tt_of 1176 (by decide +kernel) rfl, cc_X7_ones⟩
theorem cl_7_231 : CLV RX7 231 M_X7_nextOrder 0 := ⟨tt_of 1178 (by decide +kernel) rfl, tt_of 1180 (by decide +kernel) rfl, tt_of 61 (by decide +kernel) rfl, cc_X7_nextOrder⟩
theorem cl_7_234 : CLV RX7 234 M_X7_doneAll 0 := ⟨tt_of 1202 (by decide +kernel) rfl, tt_of 1204 (by decide +kernel) rfl, tt_of 63 (by decide +kernel) rfl, cc_X7_doneAll⟩
theorem cl_7_237 : CLV RX7 237 M_X7_openBy 2 := ⟨tt_of 1210 (by decide +kernel) rfl, tt_of 1212 (by decide +kernel) rfl, tt_of 64 (by decide +kernel) rfl, cc_X7_openBy⟩
theorem cl_7_240 : CLV RX7 240 M_X7_against 3 := ⟨tt_of 1218 (by decide +kernel) rfl, tt_of 1220 (by decide +kernel) rfl, tt_of 65 (by decide +kernel) rfl, cc_X7_against⟩
theorem cl_7_244 : CLV RX7 244 M_X7_goesSo 3 := ⟨tt_of 1222 (by decide +kernel) rfl, tt_of 1224 (by decide +kernel) rfl, tt_of 66 (by decide +kernel) rfl, cc_X7_goesSo⟩
theorem cl_7_249 : CLS RX7 249 M_X7_raised 2 := ⟨tt_of 1235 (by decide +kernel) rfl, tt_of 1236 (by decide +kernel) rfl, cc_X7_raised⟩
theorem cl_7_255 : CLS RX7 255 M_X7_gcd 2 := ⟨tt_of 1239 (by decide +kernel) rfl, tt_of 1240 (by decide +kernel) rfl, cc_X7_gcd⟩
theorem cl_7_267 : CLV RX7 267 M_X7_leaves 1 := ⟨tt_of 1273 (by decide +kernel) rfl, tt_of 1275 (by decide +kernel) rfl, tt_of 68 (by decide +kernel) rfl, cc_X7_leaves⟩
theorem cl_7_270 : CLV RX7 270 M_X7_lentNumber 1 := ⟨tt_of 1285 (by decide +kernel) rfl, tt_of 1287 (by decide +kernel) rfl, tt_of 71 (by decide +kernel) rfl, cc_X7_lentNumber⟩
theorem cl_7_273 : CLV RX7 273 M_X7_lentRoom 1 := ⟨tt_of 1277 (by decide +kernel) rfl, tt_of 1279 (by decide +kernel) rfl, tt_of 69 (by decide +kernel) rfl, cc_X7_lentRoom⟩
theorem cl_7_276 : CLV RX7 276 M_X7_washerMark 1 := ⟨tt_of 1281 (by decide +kernel) rfl, tt_of 1283 (by decide +kernel) rfl, tt_of 70 (by decide +kernel) rfl, cc_X7_washerMark⟩
theorem cl_7_279 : CLV RX7 279 M_X7_dryerSize 1 := ⟨tt_of 1289 (by decide +kernel) rfl, tt_of 1291 (by decide +kernel) rfl, tt_of 72 (by decide +kernel) rfl, cc_X7_dryerSize⟩
theorem cl_7_282 : CLV RX7 282 M_X7_washerSize 1 := ⟨tt_of 1269 (by decide +kernel) rfl, tt_of 1271 (by decide +kernel) rfl, tt_of 67 (by decide +kernel) rfl, cc_X7_washerSize⟩
theorem cl_7_285 : CLV RX7 285 M_X7_dryerMark 1 := ⟨tt_of 1293 (by decide +kernel) rfl, tt_of 1295 (by decide +kernel) rfl, tt_of 73 (by decide +kernel) rfl, cc_X7_dryerMark⟩
theorem cl_7_288 : CLV RX7 288 M_X7_rowsThere 0 := ⟨tt_of 1305 (by decide +kernel) rfl, tt_of 1307 (by decide +kernel) rfl, tt_of 74 (by decide +kernel) rfl, cc_X7_rowsThere⟩
theorem cl_6_9 : CLJ RX6 9 M_X4_init 0 := ⟨List.mem_of_getElem? (i := 0) rfl, tt_of 98 (by decide +kernel) rfl, rfl, rfl, cc_X4_init⟩
theorem cl_6_18 : CLJ RX6 18 M_X5_init 0 := ⟨List.mem_of_getElem? (i := 1) rfl, tt_of 119 (by decide +kernel) rfl, rfl, rfl, cc_X5_init⟩
theorem cl_6_25 : CLJ RX6 25 M_X2_init 0 := ⟨List.mem_of_getElem? (i := 2) rfl, tt_of 150 (by decide +kernel) rfl, rfl, rfl, cc_X2_init⟩
theorem cl_0_17 : CLJ RX0 17 M_X2_init 0 := ⟨List.mem_of_getElem? (i := 3) rfl, tt_of 150 (by decide +kernel) rfl, rfl, rfl, cc_X2_init⟩
theorem cl_6_46 : CLJ RX6 46 M_X3_init 0 := ⟨List.mem_of_getElem? (i := 4) rfl, tt_of 247 (by decide +kernel) rfl, rfl, rfl, cc_X3_init⟩
theorem cl_6_53 : CLJ RX6 53 M_X1_init 0 := ⟨List.mem_of_getElem? (i := 5) rfl, tt_of 271 (by decide +kernel) rfl, rfl, rfl, cc_X1_init⟩
theorem ac_6_99 : ACopy RX6 99 := ⟨tt_of 361 (by decide +kernel) rfl, tt_of 363 (by decide +kernel) rfl, tt_of 362 (by decide +kernel) rfl, tt_of 84 (by decide +kernel) rfl⟩
theorem ac_2_61 : ACopy RX2 61 := ⟨tt_of 465 (by decide +kernel) rfl, tt_of 363 (by decide +kernel) rfl, tt_of 362 (by decide +kernel) rfl, tt_of 84 (by decide +kernel) rfl⟩
theorem ac_3_27 : ACopy RX3 27 := ⟨tt_of 681 (by decide +kernel) rfl, tt_of 363 (by decide +kernel) rfl, tt_of 362 (by decide +kernel) rfl, tt_of 84 (by decide +kernel) rfl⟩
theorem kc_X6_66 : Cond.constant RX6 66 (-1000001) ∈ TT := tt_of 321 (by decide +kernel) rfl
theorem kc_X6_112 : Cond.constant RX6 112 (-1000010) ∈ TT := tt_of 326 (by decide +kernel) rfl
theorem kc_X6_119 : Cond.constant RX6 119 (-1000003) ∈ TT := tt_of 380 (by decide +kernel) rfl
theorem kc_X6_124 : Cond.constant RX6 124 (-1000100) ∈ TT := tt_of 456 (by decide +kernel) rfl
theorem kc_X6_141 : Cond.constant RX6 141 (-1000002) ∈ TT := tt_of 478 (by decide +kernel) rfl
theorem kc_X6_220 : Cond.constant RX6 220 (-1000000) ∈ TT := tt_of 583 (by decide +kernel) rfl
theorem kc_X6_327 : Cond.constant RX6 327 999999 ∈ TT := tt_of 777 (by decide +kernel) rfl
theorem kc_X2_113 : Cond.constant RX2 113 (-1000000) ∈ TT := tt_of 577 (by decide +kernel) rfl
theorem kc_X7_69 : Cond.constant RX7 69 (-1000010) ∈ TT := tt_of 959 (by decide +kernel) rfl
theorem kc_X7_78 : Cond.constant RX7 78 (-1000001) ∈ TT := tt_of 954 (by decide +kernel) rfl
theorem kc_X7_92 : Cond.constant RX7 92 (-1000003) ∈ TT := tt_of 984 (by decide +kernel) rfl
theorem kc_X7_148 : Cond.constant RX7 148 (-1000100) ∈ TT := tt_of 1028 (by decide +kernel) rfl
theorem kc_X7_194 : Cond.constant RX7 194 (-1000002) ∈ TT := tt_of 1037 (by decide +kernel) rfl
theorem kc_X7_207 : Cond.constant RX7 207 (-1000000) ∈ TT := tt_of 1107 (by decide +kernel) rfl
theorem kc_X7_259 : Cond.constant RX7 259 999999 ∈ TT := tt_of 1246 (by decide +kernel) rfl
theorem kc_J6_265 : Cond.constant RJ6 265 1431655765 ∈ TT := tt_of 667 (by decide +kernel) rfl
theorem kc_J6_266 : Cond.constant RJ6 266 858993459 ∈ TT := tt_of 668 (by decide +kernel) rfl
theorem kc_J6_267 : Cond.constant RJ6 267 252645135 ∈ TT := tt_of 669 (by decide +kernel) rfl
theorem kl_X6_313 : Cond.constantLong RX6 313 (-1000001) ∈ TT := tt_of 761 (by decide +kernel) rfl
theorem kl_X6_319 : Cond.constantLong RX6 319 10 ∈ TT := tt_of 766 (by decide +kernel) rfl
theorem kl_X6_328 : Cond.constantLong RX6 328 16807 ∈ TT := tt_of 778 (by decide +kernel) rfl
theorem kl_X6_330 : Cond.constantLong RX6 330 2147483647 ∈ TT := tt_of 779 (by decide +kernel) rfl
theorem kl_X7_247 : Cond.constantLong RX7 247 (-1000001) ∈ TT := tt_of 1234 (by decide +kernel) rfl
theorem kl_X7_253 : Cond.constantLong RX7 253 10 ∈ TT := tt_of 1238 (by decide +kernel) rfl
theorem kl_X7_260 : Cond.constantLong RX7 260 16807 ∈ TT := tt_of 1247 (by decide +kernel) rfl
theorem kl_X7_262 : Cond.constantLong RX7 262 2147483647 ∈ TT := tt_of 1248 (by decide +kernel) rfl
theorem fs_6_342 : Cond.fieldLink RX6 342 RX6 (sN 0) "[I" ∈ TT := tt_of 804 (by decide +kernel) rfl
theorem fs_1_32 : Cond.fieldLinkNest RX1 32 RX6 (sN 0) "[I" RX6 ∈ NW := List.mem_of_getElem? (i := 6) rfl
theorem fs_1_35 : Cond.fieldLinkNest RX1 35 RX6 (sN 1) "[I" RX6 ∈ NW := List.mem_of_getElem? (i := 7) rfl
theorem fs_1_38 : Cond.fieldLinkNest RX1 38 RX6 (sN 2) "[I" RX6 ∈ NW := List.mem_of_getElem? (i := 8) rfl
theorem ik_m1 : Int32.ofInt (-1) = (-1) := by decide
theorem ik_0 : Int32.ofInt 0 = 0 := by decide
theorem ik_1 : Int32.ofInt 1 = 1 := by decide
theorem ik_2 : Int32.ofInt 2 = 2 := by decide
theorem ik_3 : Int32.ofInt 3 = 3 := by decide
theorem ik_4 : Int32.ofInt 4 = 4 := by decide
theorem ik_5 : Int32.ofInt 5 = 5 := by decide
theorem bk_6 : (Int8.ofInt 6).toInt32 = 6 := by decide
theorem bk_7 : (Int8.ofInt 7).toInt32 = 7 := by decide
theorem bk_8 : (Int8.ofInt 8).toInt32 = 8 := by decide
theorem bk_9 : (Int8.ofInt 9).toInt32 = 9 := by decide
theorem bk_10 : (Int8.ofInt 10).toInt32 = 10 := by decide
theorem bk_11 : (Int8.ofInt 11).toInt32 = 11 := by decide
theorem bk_12 : (Int8.ofInt 12).toInt32 = 12 := by decide
theorem bk_13 : (Int8.ofInt 13).toInt32 = 13 := by decide
theorem bk_14 : (Int8.ofInt 14).toInt32 = 14 := by decide
theorem bk_16 : (Int8.ofInt 16).toInt32 = 16 := by decide
theorem bk_17 : (Int8.ofInt 17).toInt32 = 17 := by decide
theorem bk_18 : (Int8.ofInt 18).toInt32 = 18 := by decide
theorem bk_20 : (Int8.ofInt 20).toInt32 = 20 := by decide
theorem bk_21 : (Int8.ofInt 21).toInt32 = 21 := by decide
theorem bk_22 : (Int8.ofInt 22).toInt32 = 22 := by decide
theorem bk_23 : (Int8.ofInt 23).toInt32 = 23 := by decide
theorem bk_24 : (Int8.ofInt 24).toInt32 = 24 := by decide
theorem bk_30 : (Int8.ofInt 30).toInt32 = 30 := by decide
theorem bk_32 : (Int8.ofInt 32).toInt32 = 32 := by decide
theorem bk_36 : (Int8.ofInt 36).toInt32 = 36 := by decide
theorem bk_40 : (Int8.ofInt 40).toInt32 = 40 := by decide
theorem bk_42 : (Int8.ofInt 42).toInt32 = 42 := by decide
theorem bk_44 : (Int8.ofInt 44).toInt32 = 44 := by decide
theorem bk_48 : (Int8.ofInt 48).toInt32 = 48 := by decide
theorem bk_50 : (Int8.ofInt 50).toInt32 = 50 := by decide
theorem bk_57 : (Int8.ofInt 57).toInt32 = 57 := by decide
theorem bk_59 : (Int8.ofInt 59).toInt32 = 59 := by decide
theorem bk_60 : (Int8.ofInt 60).toInt32 = 60 := by decide
theorem bk_63 : (Int8.ofInt 63).toInt32 = 63 := by decide
theorem bk_97 : (Int8.ofInt 97).toInt32 = 97 := by decide
theorem bk_98 : (Int8.ofInt 98).toInt32 = 98 := by decide
theorem bk_99 : (Int8.ofInt 99).toInt32 = 99 := by decide
theorem bk_100 : (Int8.ofInt 100).toInt32 = 100 := by decide
theorem bk_103 : (Int8.ofInt 103).toInt32 = 103 := by decide
theorem bk_108 : (Int8.ofInt 108).toInt32 = 108 := by decide
theorem bk_110 : (Int8.ofInt 110).toInt32 = 110 := by decide
theorem bk_113 : (Int8.ofInt 113).toInt32 = 113 := by decide
theorem bk_115 : (Int8.ofInt 115).toInt32 = 115 := by decide
theorem bk_118 : (Int8.ofInt 118).toInt32 = 118 := by decide
theorem bk_119 : (Int8.ofInt 119).toInt32 = 119 := by decide
theorem bk_122 : (Int8.ofInt 122).toInt32 = 122 := by decide
theorem sk_255 : (Int16.ofInt 255).toInt32 = 255 := by decide
theorem sk_256 : (Int16.ofInt 256).toInt32 = 256 := by decide
theorem sk_257 : (Int16.ofInt 257).toInt32 = 257 := by decide
theorem sk_258 : (Int16.ofInt 258).toInt32 = 258 := by decide
theorem sk_320 : (Int16.ofInt 320).toInt32 = 320 := by decide
theorem sk_720 : (Int16.ofInt 720).toInt32 = 720 := by decide
theorem sk_966 : (Int16.ofInt 966).toInt32 = 966 := by decide
theorem sk_999 : (Int16.ofInt 999).toInt32 = 999 := by decide
theorem sk_1000 : (Int16.ofInt 1000).toInt32 = 1000 := by decide
theorem sk_1008 : (Int16.ofInt 1008).toInt32 = 1008 := by decide
theorem sk_1296 : (Int16.ofInt 1296).toInt32 = 1296 := by decide
end
section
theorem d_X0_init_0 : Dc cX0_init 0 (.aload_n 0) 1 1 := by decide +kernel
theorem d_X0_init_1 : Dc cX0_init 1 (.invokespecial 3) 3 4 := by decide +kernel
theorem d_X0_init_4 : Dc cX0_init 4 (.aload_n 0) 1 5 := by decide +kernel
theorem d_X0_init_5 : Dc cX0_init 5 (.bipush 24) 2 7 := by decide +kernel
theorem d_X0_init_7 : Dc cX0_init 7 (.anewarray 9) 3 10 := by decide +kernel
theorem d_X0_init_10 : Dc cX0_init 10 (.putfield 11) 3 13 := by decide +kernel
theorem d_X0_init_13 : Dc cX0_init 13 (.iconst 0) 1 14 := by decide +kernel
theorem d_X0_init_14 : Dc cX0_init 14 (.istore_n 1) 1 15 := by decide +kernel
theorem d_X0_init_15 : Dc cX0_init 15 (.iload_n 1) 1 16 := by decide +kernel
theorem d_X0_init_16 : Dc cX0_init 16 (.bipush 24) 2 18 := by decide +kernel
theorem d_X0_init_18 : Dq cX0_init 18 (.if_icmp .ge) 40 21 := by decide +kernel
theorem d_X0_init_21 : Dc cX0_init 21 (.aload_n 0) 1 22 := by decide +kernel
theorem d_X0_init_22 : Dc cX0_init 22 (.getfield 11) 3 25 := by decide +kernel
theorem d_X0_init_25 : Dc cX0_init 25 (.iload_n 1) 1 26 := by decide +kernel
theorem d_X0_init_26 : Dc cX0_init 26 (.new 9) 3 29 := by decide +kernel
theorem d_X0_init_29 : Dc cX0_init 29 (.dup) 1 30 := by decide +kernel
theorem d_X0_init_30 : Dc cX0_init 30 (.invokespecial 17) 3 33 := by decide +kernel
theorem d_X0_init_33 : Dc cX0_init 33 (.aastore) 1 34 := by decide +kernel
theorem d_X0_init_34 : Dc cX0_init 34 (.iinc 1 1) 3 37 := by decide +kernel
theorem d_X0_init_37 : Dq cX0_init 37 (.goto) 15 40 := by decide +kernel
theorem d_X0_init_40 : Dc cX0_init 40 (.return_) 1 41 := by decide +kernel
theorem d_X0_keep_0 : Dc cX0_keep 0 (.aload_n 0) 1 1 := by decide +kernel
theorem d_X0_keep_1 : Dc cX0_keep 1 (.aload_n 0) 1 2 := by decide +kernel
theorem d_X0_keep_2 : Dc cX0_keep 2 (.getfield 18) 3 5 := by decide +kernel
theorem d_X0_keep_5 : Dc cX0_keep 5 (.iconst 1) 1 6 := by decide +kernel
theorem d_X0_keep_6 : Dc cX0_keep 6 (.iadd) 1 7 := by decide +kernel
theorem d_X0_keep_7 : Dc cX0_keep 7 (.bipush 24) 2 9 := by decide +kernel
theorem d_X0_keep_9 : Dc cX0_keep 9 (.irem) 1 10 := by decide +kernel
theorem d_X0_keep_10 : Dc cX0_keep 10 (.putfield 18) 3 13 := by decide +kernel
theorem d_X0_keep_13 : Dc cX0_keep 13 (.aload_n 0) 1 14 := by decide +kernel
theorem d_X0_keep_14 : Dc cX0_keep 14 (.getfield 11) 3 17 := by decide +kernel
theorem d_X0_keep_17 : Dc cX0_keep 17 (.aload_n 0) 1 18 := by decide +kernel
theorem d_X0_keep_18 : Dc cX0_keep 18 (.getfield 18) 3 21 := by decide +kernel
theorem d_X0_keep_21 : Dc cX0_keep 21 (.aaload) 1 22 := by decide +kernel
theorem d_X0_keep_22 : Dc cX0_keep 22 (.aload_n 1) 1 23 := by decide +kernel
theorem d_X0_keep_23 : Dc cX0_keep 23 (.invokevirtual 22) 3 26 := by decide +kernel
theorem d_X0_keep_26 : Dc cX0_keep 26 (.aload_n 0) 1 27 := by decide +kernel
theorem d_X0_keep_27 : Dc cX0_keep 27 (.bipush 24) 2 29 := by decide +kernel
theorem d_X0_keep_29 : Dc cX0_keep 29 (.aload_n 0) 1 30 := by decide +kernel
theorem d_X0_keep_30 : Dc cX0_keep 30 (.getfield 26) 3 33 := by decide +kernel
theorem d_X0_keep_33 : Dc cX0_keep 33 (.iconst 1) 1 34 := by decide +kernel
theorem d_X0_keep_34 : Dc cX0_keep 34 (.iadd) 1 35 := by decide +kernel
theorem d_X0_keep_35 : Dc cX0_keep 35 (.invokestatic 29) 3 38 := by decide +kernel
theorem d_X0_keep_38 : Dc cX0_keep 38 (.putfield 26) 3 41 := by decide +kernel
theorem d_X0_keep_41 : Dc cX0_keep 41 (.return_) 1 42 := by decide +kernel
theorem d_X0_takeBack_0 : Dc cX0_takeBack 0 (.aload_n 1) 1 1 := by decide +kernel
theorem d_X0_takeBack_1 : Dc cX0_takeBack 1 (.aload_n 0) 1 2 := by decide +kernel
theorem d_X0_takeBack_2 : Dc cX0_takeBack 2 (.getfield 11) 3 5 := by decide +kernel
theorem d_X0_takeBack_5 : Dc cX0_takeBack 5 (.aload_n 0) 1 6 := by decide +kernel
theorem d_X0_takeBack_6 : Dc cX0_takeBack 6 (.getfield 18) 3 9 := by decide +kernel
theorem d_X0_takeBack_9 : Dc cX0_takeBack 9 (.aaload) 1 10 := by decide +kernel
theorem d_X0_takeBack_10 : Dc cX0_takeBack 10 (.invokevirtual 22) 3 13 := by decide +kernel
theorem d_X0_takeBack_13 : Dc cX0_takeBack 13 (.aload_n 0) 1 14 := by decide +kernel
theorem d_X0_takeBack_14 : Dc cX0_takeBack 14 (.aload_n 0) 1 15 := by decide +kernel
theorem d_X0_takeBack_15 : Dc cX0_takeBack 15 (.getfield 18) 3 18 := by decide +kernel
theorem d_X0_takeBack_18 : Dc cX0_takeBack 18 (.bipush 24) 2 20 := by decide +kernel
theorem d_X0_takeBack_20 : Dc cX0_takeBack 20 (.iadd) 1 21 := by decide +kernel
theorem d_X0_takeBack_21 : Dc cX0_takeBack 21 (.iconst 1) 1 22 := by decide +kernel
theorem d_X0_takeBack_22 : Dc cX0_takeBack 22 (.isub) 1 23 := by decide +kernel
theorem d_X0_takeBack_23 : Dc cX0_takeBack 23 (.bipush 24) 2 25 := by decide +kernel
theorem d_X0_takeBack_25 : Dc cX0_takeBack 25 (.irem) 1 26 := by decide +kernel
theorem d_X0_takeBack_26 : Dc cX0_takeBack 26 (.putfield 18) 3 29 := by decide +kernel
theorem d_X0_takeBack_29 : Dc cX0_takeBack 29 (.aload_n 0) 1 30 := by decide +kernel
theorem d_X0_takeBack_30 : Dc cX0_takeBack 30 (.dup) 1 31 := by decide +kernel
theorem d_X0_takeBack_31 : Dc cX0_takeBack 31 (.getfield 26) 3 34 := by decide +kernel
theorem d_X0_takeBack_34 : Dc cX0_takeBack 34 (.iconst 1) 1 35 := by decide +kernel
theorem d_X0_takeBack_35 : Dc cX0_takeBack 35 (.isub) 1 36 := by decide +kernel
theorem d_X0_takeBack_36 : Dc cX0_takeBack 36 (.putfield 26) 3 39 := by decide +kernel
theorem d_X0_takeBack_39 : Dc cX0_takeBack 39 (.return_) 1 40 := by decide +kernel
theorem d_X1_init_0 : Dc cX1_init 0 (.aload_n 0) 1 1 := by decide +kernel
theorem d_X1_init_1 : Dc cX1_init 1 (.invokespecial 3) 3 4 := by decide +kernel
theorem d_X1_init_4 : Dc cX1_init 4 (.aload_n 0) 1 5 := by decide +kernel
theorem d_X1_init_5 : Dc cX1_init 5 (.bipush 16) 2 7 := by decide +kernel
theorem d_X1_init_7 : Dc cX1_init 7 (.newarray .int) 2 9 := by decide +kernel
theorem d_X1_init_9 : Dc cX1_init 9 (.putfield 11) 3 12 := by decide +kernel
theorem d_X1_init_12 : Dc cX1_init 12 (.return_) 1 13 := by decide +kernel
theorem d_X1_begin_0 : Dc cX1_begin 0 (.aload_n 0) 1 1 := by decide +kernel
theorem d_X1_begin_1 : Dc cX1_begin 1 (.iconst 0) 1 2 := by decide +kernel
theorem d_X1_begin_2 : Dc cX1_begin 2 (.putfield 15) 3 5 := by decide +kernel
theorem d_X1_begin_5 : Dc cX1_begin 5 (.aload_n 0) 1 6 := by decide +kernel
theorem d_X1_begin_6 : Dc cX1_begin 6 (.aload_n 1) 1 7 := by decide +kernel
theorem d_X1_begin_7 : Dc cX1_begin 7 (.iload_n 2) 1 8 := by decide +kernel
theorem d_X1_begin_8 : Dc cX1_begin 8 (.iload_n 3) 1 9 := by decide +kernel
theorem d_X1_begin_9 : Dc cX1_begin 9 (.aload_n 1) 1 10 := by decide +kernel
theorem d_X1_begin_10 : Dc cX1_begin 10 (.getfield 19) 3 13 := by decide +kernel
theorem d_X1_begin_13 : Dc cX1_begin 13 (.iload_n 2) 1 14 := by decide +kernel
theorem d_X1_begin_14 : Dc cX1_begin 14 (.iaload) 1 15 := by decide +kernel
theorem d_X1_begin_15 : Dc cX1_begin 15 (.invokestatic 24) 3 18 := by decide +kernel
theorem d_X1_begin_18 : Dc cX1_begin 18 (.iconst 0) 1 19 := by decide +kernel
theorem d_X1_begin_19 : Dc cX1_begin 19 (.invokevirtual 28) 3 22 := by decide +kernel
theorem d_X1_begin_22 : Dc cX1_begin 22 (.ireturn) 1 23 := by decide +kernel
theorem d_X1_bodyFor_0 : Dc cX1_bodyFor 0 (.iconst 0) 1 1 := by decide +kernel
theorem d_X1_bodyFor_1 : Dc cX1_bodyFor 1 (.istore_n 2) 1 2 := by decide +kernel
theorem d_X1_bodyFor_2 : Dc cX1_bodyFor 2 (.iload_n 1) 1 3 := by decide +kernel
theorem d_X1_bodyFor_3 : Dc cX1_bodyFor 3 (.istore_n 3) 1 4 := by decide +kernel
theorem d_X1_bodyFor_4 : Dc cX1_bodyFor 4 (.iconst 0) 1 5 := by decide +kernel
theorem d_X1_bodyFor_5 : Dc cX1_bodyFor 5 (.istore 4) 2 7 := by decide +kernel
theorem d_X1_bodyFor_7 : Dc cX1_bodyFor 7 (.iload 4) 2 9 := by decide +kernel
theorem d_X1_bodyFor_9 : Dc cX1_bodyFor 9 (.getstatic 32) 3 12 := by decide +kernel
theorem d_X1_bodyFor_12 : Dc cX1_bodyFor 12 (.arraylength) 1 13 := by decide +kernel
theorem d_X1_bodyFor_13 : Dq cX1_bodyFor 13 (.if_icmp .ge) 54 16 := by decide +kernel
theorem d_X1_bodyFor_16 : Dc cX1_bodyFor 16 (.iload_n 3) 1 17 := by decide +kernel
theorem d_X1_bodyFor_17 : Dq cX1_bodyFor 17 (.ifCond .lt) 54 20 := by decide +kernel
theorem d_X1_bodyFor_20 : Dc cX1_bodyFor 20 (.iload_n 2) 1 21 := by decide +kernel
theorem d_X1_bodyFor_21 : Dq cX1_bodyFor 21 (.ifCond .ne) 54 24 := by decide +kernel
theorem d_X1_bodyFor_24 : Dc cX1_bodyFor 24 (.iload_n 0) 1 25 := by decide +kernel
theorem d_X1_bodyFor_25 : Dq cX1_bodyFor 25 (.ifCond .ne) 36 28 := by decide +kernel
theorem d_X1_bodyFor_28 : Dc cX1_bodyFor 28 (.getstatic 35) 3 31 := by decide +kernel
theorem d_X1_bodyFor_31 : Dc cX1_bodyFor 31 (.iload_n 3) 1 32 := by decide +kernel
theorem d_X1_bodyFor_32 : Dc cX1_bodyFor 32 (.iaload) 1 33 := by decide +kernel
theorem d_X1_bodyFor_33 : Dq cX1_bodyFor 33 (.goto) 41 36 := by decide +kernel
theorem d_X1_bodyFor_36 : Dc cX1_bodyFor 36 (.getstatic 38) 3 39 := by decide +kernel
theorem d_X1_bodyFor_39 : Dc cX1_bodyFor 39 (.iload_n 3) 1 40 := by decide +kernel
theorem d_X1_bodyFor_40 : Dc cX1_bodyFor 40 (.iaload) 1 41 := by decide +kernel
theorem d_X1_bodyFor_41 : Dc cX1_bodyFor 41 (.istore_n 2) 1 42 := by decide +kernel
theorem d_X1_bodyFor_42 : Dc cX1_bodyFor 42 (.getstatic 32) 3 45 := by decide +kernel
theorem d_X1_bodyFor_45 : Dc cX1_bodyFor 45 (.iload_n 3) 1 46 := by decide +kernel
theorem d_X1_bodyFor_46 : Dc cX1_bodyFor 46 (.iaload) 1 47 := by decide +kernel
theorem d_X1_bodyFor_47 : Dc cX1_bodyFor 47 (.istore_n 3) 1 48 := by decide +kernel
theorem d_X1_bodyFor_48 : Dc cX1_bodyFor 48 (.iinc 4 1) 3 51 := by decide +kernel
theorem d_X1_bodyFor_51 : Dq cX1_bodyFor 51 (.goto) 7 54 := by decide +kernel
theorem d_X1_bodyFor_54 : Dc cX1_bodyFor 54 (.iload_n 2) 1 55 := by decide +kernel
theorem d_X1_bodyFor_55 : Dc cX1_bodyFor 55 (.ireturn) 1 56 := by decide +kernel
theorem d_X1_answer_0 : Dc cX1_answer 0 (.iload 4) 2 2 := by decide +kernel
theorem d_X1_answer_2 : Dc cX1_answer 2 (.bipush 12) 2 4 := by decide +kernel
theorem d_X1_answer_4 : Dq cX1_answer 4 (.if_icmp .le) 9 7 := by decide +kernel
theorem d_X1_answer_7 : Dc cX1_answer 7 (.iconst 0) 1 8 := by decide +kernel
theorem d_X1_answer_8 : Dc cX1_answer 8 (.ireturn) 1 9 := by decide +kernel
theorem d_X1_answer_9 : Dc cX1_answer 9 (.aload_n 0) 1 10 := by decide +kernel
theorem d_X1_answer_10 : Dc cX1_answer 10 (.iload_n 3) 1 11 := by decide +kernel
theorem d_X1_answer_11 : Dc cX1_answer 11 (.invokevirtual 41) 3 14 := by decide +kernel
theorem d_X1_answer_14 : Dc cX1_answer 14 (.iload 4) 2 16 := by decide +kernel
theorem d_X1_answer_16 : Dc cX1_answer 16 (.iconst 1) 1 17 := by decide +kernel
theorem d_X1_answer_17 : Dc cX1_answer 17 (.iadd) 1 18 := by decide +kernel
theorem d_X1_answer_18 : Dc cX1_answer 18 (.istore 5) 2 20 := by decide +kernel
theorem d_X1_answer_20 : Dc cX1_answer 20 (.iload_n 3) 1 21 := by decide +kernel
theorem d_X1_answer_21 : decode cX1_answer 21 = .ok (.tableswitch 229 10 24 #[75, 82, 112, 124, 138, 229, 229, 229, 229, 229, 151, 153, 171, 186, 216], 75) := by decide +kernel
theorem d_X1_answer_96 : Dc cX1_answer 96 (.aload_n 1) 1 97 := by decide +kernel
theorem d_X1_answer_97 : Dc cX1_answer 97 (.getfield 45) 3 100 := by decide +kernel
theorem d_X1_answer_100 : Dc cX1_answer 100 (.iload_n 2) 1 101 := by decide +kernel
theorem d_X1_answer_101 : Dc cX1_answer 101 (.iaload) 1 102 := by decide +kernel
theorem d_X1_answer_102 : Dc cX1_answer 102 (.ireturn) 1 103 := by decide +kernel
theorem d_X1_answer_103 : Dc cX1_answer 103 (.aload_n 0) 1 104 := by decide +kernel
theorem d_X1_answer_104 : Dc cX1_answer 104 (.aload_n 1) 1 105 := by decide +kernel
theorem d_X1_answer_105 : Dc cX1_answer 105 (.iload_n 2) 1 106 := by decide +kernel
theorem d_X1_answer_106 : Dc cX1_answer 106 (.bipush 10) 2 108 := by decide +kernel
theorem d_X1_answer_108 : Dc cX1_answer 108 (.iload 5) 2 110 := by decide +kernel
theorem d_X1_answer_110 : Dc cX1_answer 110 (.invokevirtual 28) 3 113 := by decide +kernel
theorem d_X1_answer_113 : Dc cX1_answer 113 (.aload_n 0) 1 114 := by decide +kernel
theorem d_X1_answer_114 : Dc cX1_answer 114 (.aload_n 1) 1 115 := by decide +kernel
theorem d_X1_answer_115 : Dc cX1_answer 115 (.iload_n 2) 1 116 := by decide +kernel
theorem d_X1_answer_116 : Dc cX1_answer 116 (.iconst 1) 1 117 := by decide +kernel
theorem d_X1_answer_117 : Dc cX1_answer 117 (.aload_n 1) 1 118 := by decide +kernel
theorem d_X1_answer_118 : Dc cX1_answer 118 (.getfield 19) 3 121 := by decide +kernel
theorem d_X1_answer_121 : Dc cX1_answer 121 (.iload_n 2) 1 122 := by decide +kernel
theorem d_X1_answer_122 : Dc cX1_answer 122 (.iaload) 1 123 := by decide +kernel
theorem d_X1_answer_123 : Dc cX1_answer 123 (.invokestatic 24) 3 126 := by decide +kernel
theorem d_X1_answer_126 : Dc cX1_answer 126 (.iload 5) 2 128 := by decide +kernel
theorem d_X1_answer_128 : Dc cX1_answer 128 (.invokevirtual 28) 3 131 := by decide +kernel
theorem d_X1_answer_131 : Dc cX1_answer 131 (.iadd) 1 132 := by decide +kernel
theorem d_X1_answer_132 : Dc cX1_answer 132 (.ireturn) 1 133 := by decide +kernel
theorem d_X1_answer_133 : Dc cX1_answer 133 (.aload_n 0) 1 134 := by decide +kernel
theorem d_X1_answer_134 : Dc cX1_answer 134 (.aload_n 1) 1 135 := by decide +kernel
theorem d_X1_answer_135 : Dc cX1_answer 135 (.iload_n 2) 1 136 := by decide +kernel
theorem d_X1_answer_136 : Dc cX1_answer 136 (.bipush 11) 2 138 := by decide +kernel
theorem d_X1_answer_138 : Dc cX1_answer 138 (.iload 5) 2 140 := by decide +kernel
theorem d_X1_answer_140 : Dc cX1_answer 140 (.invokevirtual 28) 3 143 := by decide +kernel
theorem d_X1_answer_143 : Dc cX1_answer 143 (.ineg) 1 144 := by decide +kernel
theorem d_X1_answer_144 : Dc cX1_answer 144 (.ireturn) 1 145 := by decide +kernel
theorem d_X1_answer_145 : Dc cX1_answer 145 (.aload_n 0) 1 146 := by decide +kernel
theorem d_X1_answer_146 : Dc cX1_answer 146 (.aload_n 1) 1 147 := by decide +kernel
theorem d_X1_answer_147 : Dc cX1_answer 147 (.iload_n 2) 1 148 := by decide +kernel
theorem d_X1_answer_148 : Dc cX1_answer 148 (.bipush 10) 2 150 := by decide +kernel
theorem d_X1_answer_150 : Dc cX1_answer 150 (.iload 5) 2 152 := by decide +kernel
theorem d_X1_answer_152 : Dc cX1_answer 152 (.invokevirtual 28) 3 155 := by decide +kernel
theorem d_X1_answer_155 : Dc cX1_answer 155 (.bipush 100) 2 157 := by decide +kernel
theorem d_X1_answer_157 : Dc cX1_answer 157 (.isub) 1 158 := by decide +kernel
theorem d_X1_answer_158 : Dc cX1_answer 158 (.ireturn) 1 159 := by decide +kernel
theorem d_X1_answer_159 : Dc cX1_answer 159 (.aload_n 0) 1 160 := by decide +kernel
theorem d_X1_answer_160 : Dc cX1_answer 160 (.aload_n 1) 1 161 := by decide +kernel
theorem d_X1_answer_161 : Dc cX1_answer 161 (.iload_n 2) 1 162 := by decide +kernel
theorem d_X1_answer_162 : Dc cX1_answer 162 (.bipush 13) 2 164 := by decide +kernel
theorem d_X1_answer_164 : Dc cX1_answer 164 (.iload 5) 2 166 := by decide +kernel
theorem d_X1_answer_166 : Dc cX1_answer 166 (.invokevirtual 28) 3 169 := by decide +kernel
theorem d_X1_answer_169 : Dc cX1_answer 169 (.iconst 2) 1 170 := by decide +kernel
theorem d_X1_answer_170 : Dc cX1_answer 170 (.imul) 1 171 := by decide +kernel
theorem d_X1_answer_171 : Dc cX1_answer 171 (.ireturn) 1 172 := by decide +kernel
theorem d_X1_answer_172 : Dc cX1_answer 172 (.iload_n 2) 1 173 := by decide +kernel
theorem d_X1_answer_173 : Dc cX1_answer 173 (.ireturn) 1 174 := by decide +kernel
theorem d_X1_answer_174 : Dc cX1_answer 174 (.aload_n 0) 1 175 := by decide +kernel
theorem d_X1_answer_175 : Dc cX1_answer 175 (.aload_n 1) 1 176 := by decide +kernel
theorem d_X1_answer_176 : Dc cX1_answer 176 (.iload_n 2) 1 177 := by decide +kernel
theorem d_X1_answer_177 : Dc cX1_answer 177 (.bipush 20) 2 179 := by decide +kernel
theorem d_X1_answer_179 : Dc cX1_answer 179 (.iload 5) 2 181 := by decide +kernel
theorem d_X1_answer_181 : Dc cX1_answer 181 (.invokevirtual 28) 3 184 := by decide +kernel
theorem d_X1_answer_184 : Dc cX1_answer 184 (.aload_n 1) 1 185 := by decide +kernel
theorem d_X1_answer_185 : Dc cX1_answer 185 (.getfield 48) 3 188 := by decide +kernel
theorem d_X1_answer_188 : Dc cX1_answer 188 (.iload_n 2) 1 189 := by decide +kernel
theorem d_X1_answer_189 : Dc cX1_answer 189 (.iaload) 1 190 := by decide +kernel
theorem d_X1_answer_190 : Dc cX1_answer 190 (.iadd) 1 191 := by decide +kernel
theorem d_X1_answer_191 : Dc cX1_answer 191 (.ireturn) 1 192 := by decide +kernel
theorem d_X1_answer_192 : Dc cX1_answer 192 (.aload_n 0) 1 193 := by decide +kernel
theorem d_X1_answer_193 : Dc cX1_answer 193 (.aload_n 1) 1 194 := by decide +kernel
theorem d_X1_answer_194 : Dc cX1_answer 194 (.iload_n 2) 1 195 := by decide +kernel
theorem d_X1_answer_195 : Dc cX1_answer 195 (.bipush 21) 2 197 := by decide +kernel
theorem d_X1_answer_197 : Dc cX1_answer 197 (.iload 5) 2 199 := by decide +kernel
theorem d_X1_answer_199 : Dc cX1_answer 199 (.invokevirtual 28) 3 202 := by decide +kernel
theorem d_X1_answer_202 : Dc cX1_answer 202 (.sipush 1000) 3 205 := by decide +kernel
theorem d_X1_answer_205 : Dc cX1_answer 205 (.isub) 1 206 := by decide +kernel
theorem d_X1_answer_206 : Dc cX1_answer 206 (.ireturn) 1 207 := by decide +kernel
theorem d_X1_answer_207 : Dc cX1_answer 207 (.aload_n 0) 1 208 := by decide +kernel
theorem d_X1_answer_208 : Dc cX1_answer 208 (.aload_n 1) 1 209 := by decide +kernel
theorem d_X1_answer_209 : Dc cX1_answer 209 (.iload_n 2) 1 210 := by decide +kernel
theorem d_X1_answer_210 : Dc cX1_answer 210 (.bipush 20) 2 212 := by decide +kernel
theorem d_X1_answer_212 : Dc cX1_answer 212 (.iload 5) 2 214 := by decide +kernel
theorem d_X1_answer_214 : Dc cX1_answer 214 (.invokevirtual 28) 3 217 := by decide +kernel
theorem d_X1_answer_217 : Dc cX1_answer 217 (.aload_n 0) 1 218 := by decide +kernel
theorem d_X1_answer_218 : Dc cX1_answer 218 (.aload_n 1) 1 219 := by decide +kernel
theorem d_X1_answer_219 : Dc cX1_answer 219 (.iload_n 2) 1 220 := by decide +kernel
theorem d_X1_answer_220 : Dc cX1_answer 220 (.iconst 0) 1 221 := by decide +kernel
theorem d_X1_answer_221 : Dc cX1_answer 221 (.aload_n 1) 1 222 := by decide +kernel
theorem d_X1_answer_222 : Dc cX1_answer 222 (.getfield 19) 3 225 := by decide +kernel
theorem d_X1_answer_225 : Dc cX1_answer 225 (.iload_n 2) 1 226 := by decide +kernel
theorem d_X1_answer_226 : Dc cX1_answer 226 (.iaload) 1 227 := by decide +kernel
theorem d_X1_answer_227 : Dc cX1_answer 227 (.invokestatic 24) 3 230 := by decide +kernel
theorem d_X1_answer_230 : Dc cX1_answer 230 (.iload 5) 2 232 := by decide +kernel
theorem d_X1_answer_232 : Dc cX1_answer 232 (.invokevirtual 28) 3 235 := by decide +kernel
theorem d_X1_answer_235 : Dc cX1_answer 235 (.isub) 1 236 := by decide +kernel
theorem d_X1_answer_236 : Dc cX1_answer 236 (.ireturn) 1 237 := by decide +kernel
theorem d_X1_answer_237 : Dc cX1_answer 237 (.aload_n 0) 1 238 := by decide +kernel
theorem d_X1_answer_238 : Dc cX1_answer 238 (.aload_n 1) 1 239 := by decide +kernel
theorem d_X1_answer_239 : Dc cX1_answer 239 (.iload_n 2) 1 240 := by decide +kernel
theorem d_X1_answer_240 : Dc cX1_answer 240 (.bipush 21) 2 242 := by decide +kernel
theorem d_X1_answer_242 : Dc cX1_answer 242 (.iload 5) 2 244 := by decide +kernel
theorem d_X1_answer_244 : Dc cX1_answer 244 (.invokevirtual 28) 3 247 := by decide +kernel
theorem d_X1_answer_247 : Dc cX1_answer 247 (.iconst 2) 1 248 := by decide +kernel
theorem d_X1_answer_248 : Dc cX1_answer 248 (.imul) 1 249 := by decide +kernel
theorem d_X1_answer_249 : Dc cX1_answer 249 (.ireturn) 1 250 := by decide +kernel
theorem d_X1_answer_250 : Dc cX1_answer 250 (.iconst 0) 1 251 := by decide +kernel
theorem d_X1_answer_251 : Dc cX1_answer 251 (.ireturn) 1 252 := by decide +kernel
theorem d_X1_leave_0 : Dc cX1_leave 0 (.aload_n 0) 1 1 := by decide +kernel
theorem d_X1_leave_1 : Dc cX1_leave 1 (.getfield 15) 3 4 := by decide +kernel
theorem d_X1_leave_4 : Dc cX1_leave 4 (.bipush 16) 2 6 := by decide +kernel
theorem d_X1_leave_6 : Dq cX1_leave 6 (.if_icmp .ge) 29 9 := by decide +kernel
theorem d_X1_leave_9 : Dc cX1_leave 9 (.aload_n 0) 1 10 := by decide +kernel
theorem d_X1_leave_10 : Dc cX1_leave 10 (.getfield 11) 3 13 := by decide +kernel
theorem d_X1_leave_13 : Dc cX1_leave 13 (.aload_n 0) 1 14 := by decide +kernel
theorem d_X1_leave_14 : Dc cX1_leave 14 (.getfield 15) 3 17 := by decide +kernel
theorem d_X1_leave_17 : Dc cX1_leave 17 (.iload_n 1) 1 18 := by decide +kernel
theorem d_X1_leave_18 : Dc cX1_leave 18 (.iastore) 1 19 := by decide +kernel
theorem d_X1_leave_19 : Dc cX1_leave 19 (.aload_n 0) 1 20 := by decide +kernel
theorem d_X1_leave_20 : Dc cX1_leave 20 (.dup) 1 21 := by decide +kernel
theorem d_X1_leave_21 : Dc cX1_leave 21 (.getfield 15) 3 24 := by decide +kernel
theorem d_X1_leave_24 : Dc cX1_leave 24 (.iconst 1) 1 25 := by decide +kernel
theorem d_X1_leave_25 : Dc cX1_leave 25 (.iadd) 1 26 := by decide +kernel
theorem d_X1_leave_26 : Dc cX1_leave 26 (.putfield 15) 3 29 := by decide +kernel
theorem d_X1_leave_29 : Dc cX1_leave 29 (.return_) 1 30 := by decide +kernel
theorem d_X2_init_0 : Dc cX2_init 0 (.aload_n 0) 1 1 := by decide +kernel
theorem d_X2_init_1 : Dc cX2_init 1 (.invokespecial 3) 3 4 := by decide +kernel
theorem d_X2_init_4 : Dc cX2_init 4 (.aload_n 0) 1 5 := by decide +kernel
theorem d_X2_init_5 : Dc cX2_init 5 (.iconst 5) 1 6 := by decide +kernel
theorem d_X2_init_6 : Dc cX2_init 6 (.newarray .int) 2 8 := by decide +kernel
theorem d_X2_init_8 : Dc cX2_init 8 (.putfield 9) 3 11 := by decide +kernel
theorem d_X2_init_11 : Dc cX2_init 11 (.aload_n 0) 1 12 := by decide +kernel
theorem d_X2_init_12 : Dc cX2_init 12 (.iconst 5) 1 13 := by decide +kernel
theorem d_X2_init_13 : Dc cX2_init 13 (.newarray .int) 2 15 := by decide +kernel
theorem d_X2_init_15 : Dc cX2_init 15 (.putfield 15) 3 18 := by decide +kernel
theorem d_X2_init_18 : Dc cX2_init 18 (.aload_n 0) 1 19 := by decide +kernel
theorem d_X2_init_19 : Dc cX2_init 19 (.iconst 5) 1 20 := by decide +kernel
theorem d_X2_init_20 : Dc cX2_init 20 (.newarray .int) 2 22 := by decide +kernel
theorem d_X2_init_22 : Dc cX2_init 22 (.putfield 18) 3 25 := by decide +kernel
theorem d_X2_init_25 : Dc cX2_init 25 (.aload_n 0) 1 26 := by decide +kernel
theorem d_X2_init_26 : Dc cX2_init 26 (.iconst 5) 1 27 := by decide +kernel
theorem d_X2_init_27 : Dc cX2_init 27 (.newarray .int) 2 29 := by decide +kernel
theorem d_X2_init_29 : Dc cX2_init 29 (.putfield 21) 3 32 := by decide +kernel
theorem d_X2_init_32 : Dc cX2_init 32 (.aload_n 0) 1 33 := by decide +kernel
theorem d_X2_init_33 : Dc cX2_init 33 (.iconst 5) 1 34 := by decide +kernel
theorem d_X2_init_34 : Dc cX2_init 34 (.newarray .int) 2 36 := by decide +kernel
theorem d_X2_init_36 : Dc cX2_init 36 (.putfield 24) 3 39 := by decide +kernel
theorem d_X2_init_39 : Dc cX2_init 39 (.aload_n 0) 1 40 := by decide +kernel
theorem d_X2_init_40 : Dc cX2_init 40 (.iconst 5) 1 41 := by decide +kernel
theorem d_X2_init_41 : Dc cX2_init 41 (.newarray .int) 2 43 := by decide +kernel
theorem d_X2_init_43 : Dc cX2_init 43 (.putfield 27) 3 46 := by decide +kernel
theorem d_X2_init_46 : Dc cX2_init 46 (.aload_n 0) 1 47 := by decide +kernel
theorem d_X2_init_47 : Dc cX2_init 47 (.bipush 6) 2 49 := by decide +kernel
theorem d_X2_init_49 : Dc cX2_init 49 (.newarray .int) 2 51 := by decide +kernel
theorem d_X2_init_51 : Dc cX2_init 51 (.putfield 30) 3 54 := by decide +kernel
theorem d_X2_init_54 : Dc cX2_init 54 (.aload_n 0) 1 55 := by decide +kernel
theorem d_X2_init_55 : Dc cX2_init 55 (.bipush 6) 2 57 := by decide +kernel
theorem d_X2_init_57 : Dc cX2_init 57 (.newarray .int) 2 59 := by decide +kernel
theorem d_X2_init_59 : Dc cX2_init 59 (.putfield 33) 3 62 := by decide +kernel
theorem d_X2_init_62 : Dc cX2_init 62 (.aload_n 0) 1 63 := by decide +kernel
theorem d_X2_init_63 : Dc cX2_init 63 (.bipush 6) 2 65 := by decide +kernel
theorem d_X2_init_65 : Dc cX2_init 65 (.newarray .int) 2 67 := by decide +kernel
theorem d_X2_init_67 : Dc cX2_init 67 (.putfield 36) 3 70 := by decide +kernel
theorem d_X2_init_70 : Dc cX2_init 70 (.aload_n 0) 1 71 := by decide +kernel
theorem d_X2_init_71 : Dc cX2_init 71 (.bipush 6) 2 73 := by decide +kernel
theorem d_X2_init_73 : Dc cX2_init 73 (.newarray .int) 2 75 := by decide +kernel
theorem d_X2_init_75 : Dc cX2_init 75 (.putfield 39) 3 78 := by decide +kernel
theorem d_X2_init_78 : Dc cX2_init 78 (.aload_n 0) 1 79 := by decide +kernel
theorem d_X2_init_79 : Dc cX2_init 79 (.bipush 6) 2 81 := by decide +kernel
theorem d_X2_init_81 : Dc cX2_init 81 (.newarray .int) 2 83 := by decide +kernel
theorem d_X2_init_83 : Dc cX2_init 83 (.putfield 42) 3 86 := by decide +kernel
theorem d_X2_init_86 : Dc cX2_init 86 (.return_) 1 87 := by decide +kernel
theorem d_X2_clear_0 : Dc cX2_clear 0 (.aload_n 0) 1 1 := by decide +kernel
theorem d_X2_clear_1 : Dc cX2_clear 1 (.iconst 0) 1 2 := by decide +kernel
theorem d_X2_clear_2 : Dc cX2_clear 2 (.putfield 45) 3 5 := by decide +kernel
theorem d_X2_clear_5 : Dc cX2_clear 5 (.aload_n 0) 1 6 := by decide +kernel
theorem d_X2_clear_6 : Dc cX2_clear 6 (.iconst 0) 1 7 := by decide +kernel
theorem d_X2_clear_7 : Dc cX2_clear 7 (.putfield 49) 3 10 := by decide +kernel
theorem d_X2_clear_10 : Dc cX2_clear 10 (.aload_n 0) 1 11 := by decide +kernel
theorem d_X2_clear_11 : Dc cX2_clear 11 (.iconst 0) 1 12 := by decide +kernel
theorem d_X2_clear_12 : Dc cX2_clear 12 (.putfield 52) 3 15 := by decide +kernel
theorem d_X2_clear_15 : Dc cX2_clear 15 (.aload_n 0) 1 16 := by decide +kernel
theorem d_X2_clear_16 : Dc cX2_clear 16 (.iconst 0) 1 17 := by decide +kernel
theorem d_X2_clear_17 : Dc cX2_clear 17 (.putfield 55) 3 20 := by decide +kernel
theorem d_X2_clear_20 : Dc cX2_clear 20 (.aload_n 0) 1 21 := by decide +kernel
theorem d_X2_clear_21 : Dc cX2_clear 21 (.iconst 0) 1 22 := by decide +kernel
theorem d_X2_clear_22 : Dc cX2_clear 22 (.putfield 58) 3 25 := by decide +kernel
theorem d_X2_clear_25 : Dc cX2_clear 25 (.return_) 1 26 := by decide +kernel
theorem d_X2_become_0 : Dc cX2_become 0 (.aload_n 0) 1 1 := by decide +kernel
theorem d_X2_become_1 : Dc cX2_become 1 (.aload_n 1) 1 2 := by decide +kernel
theorem d_X2_become_2 : Dc cX2_become 2 (.getfield 45) 3 5 := by decide +kernel
theorem d_X2_become_5 : Dc cX2_become 5 (.putfield 45) 3 8 := by decide +kernel
theorem d_X2_become_8 : Dc cX2_become 8 (.aload_n 0) 1 9 := by decide +kernel
theorem d_X2_become_9 : Dc cX2_become 9 (.aload_n 1) 1 10 := by decide +kernel
theorem d_X2_become_10 : Dc cX2_become 10 (.getfield 49) 3 13 := by decide +kernel
theorem d_X2_become_13 : Dc cX2_become 13 (.putfield 49) 3 16 := by decide +kernel
theorem d_X2_become_16 : Dc cX2_become 16 (.aload_n 0) 1 17 := by decide +kernel
theorem d_X2_become_17 : Dc cX2_become 17 (.aload_n 1) 1 18 := by decide +kernel
theorem d_X2_become_18 : Dc cX2_become 18 (.getfield 52) 3 21 := by decide +kernel
theorem d_X2_become_21 : Dc cX2_become 21 (.putfield 52) 3 24 := by decide +kernel
theorem d_X2_become_24 : Dc cX2_become 24 (.aload_n 0) 1 25 := by decide +kernel
theorem d_X2_become_25 : Dc cX2_become 25 (.aload_n 1) 1 26 := by decide +kernel
theorem d_X2_become_26 : Dc cX2_become 26 (.getfield 55) 3 29 := by decide +kernel
theorem d_X2_become_29 : Dc cX2_become 29 (.putfield 55) 3 32 := by decide +kernel
theorem d_X2_become_32 : Dc cX2_become 32 (.aload_n 0) 1 33 := by decide +kernel
theorem d_X2_become_33 : Dc cX2_become 33 (.aload_n 1) 1 34 := by decide +kernel
theorem d_X2_become_34 : Dc cX2_become 34 (.getfield 58) 3 37 := by decide +kernel
theorem d_X2_become_37 : Dc cX2_become 37 (.putfield 58) 3 40 := by decide +kernel
theorem d_X2_become_40 : Dc cX2_become 40 (.aload_n 1) 1 41 := by decide +kernel
theorem d_X2_become_41 : Dc cX2_become 41 (.getfield 9) 3 44 := by decide +kernel
theorem d_X2_become_44 : Dc cX2_become 44 (.iconst 0) 1 45 := by decide +kernel
theorem d_X2_become_45 : Dc cX2_become 45 (.aload_n 0) 1 46 := by decide +kernel
theorem d_X2_become_46 : Dc cX2_become 46 (.getfield 9) 3 49 := by decide +kernel
theorem d_X2_become_49 : Dc cX2_become 49 (.iconst 0) 1 50 := by decide +kernel
theorem d_X2_become_50 : Dc cX2_become 50 (.iconst 5) 1 51 := by decide +kernel
theorem d_X2_become_51 : Dc cX2_become 51 (.invokestatic 61) 3 54 := by decide +kernel
theorem d_X2_become_54 : Dc cX2_become 54 (.aload_n 1) 1 55 := by decide +kernel
theorem d_X2_become_55 : Dc cX2_become 55 (.getfield 15) 3 58 := by decide +kernel
theorem d_X2_become_58 : Dc cX2_become 58 (.iconst 0) 1 59 := by decide +kernel
theorem d_X2_become_59 : Dc cX2_become 59 (.aload_n 0) 1 60 := by decide +kernel
theorem d_X2_become_60 : Dc cX2_become 60 (.getfield 15) 3 63 := by decide +kernel
theorem d_X2_become_63 : Dc cX2_become 63 (.iconst 0) 1 64 := by decide +kernel
theorem d_X2_become_64 : Dc cX2_become 64 (.iconst 5) 1 65 := by decide +kernel
theorem d_X2_become_65 : Dc cX2_become 65 (.invokestatic 61) 3 68 := by decide +kernel
theorem d_X2_become_68 : Dc cX2_become 68 (.aload_n 1) 1 69 := by decide +kernel
theorem d_X2_become_69 : Dc cX2_become 69 (.getfield 18) 3 72 := by decide +kernel
theorem d_X2_become_72 : Dc cX2_become 72 (.iconst 0) 1 73 := by decide +kernel
theorem d_X2_become_73 : Dc cX2_become 73 (.aload_n 0) 1 74 := by decide +kernel
theorem d_X2_become_74 : Dc cX2_become 74 (.getfield 18) 3 77 := by decide +kernel
theorem d_X2_become_77 : Dc cX2_become 77 (.iconst 0) 1 78 := by decide +kernel
theorem d_X2_become_78 : Dc cX2_become 78 (.iconst 5) 1 79 := by decide +kernel
theorem d_X2_become_79 : Dc cX2_become 79 (.invokestatic 61) 3 82 := by decide +kernel
theorem d_X2_become_82 : Dc cX2_become 82 (.aload_n 1) 1 83 := by decide +kernel
theorem d_X2_become_83 : Dc cX2_become 83 (.getfield 21) 3 86 := by decide +kernel
theorem d_X2_become_86 : Dc cX2_become 86 (.iconst 0) 1 87 := by decide +kernel
theorem d_X2_become_87 : Dc cX2_become 87 (.aload_n 0) 1 88 := by decide +kernel
theorem d_X2_become_88 : Dc cX2_become 88 (.getfield 21) 3 91 := by decide +kernel
theorem d_X2_become_91 : Dc cX2_become 91 (.iconst 0) 1 92 := by decide +kernel
theorem d_X2_become_92 : Dc cX2_become 92 (.iconst 5) 1 93 := by decide +kernel
theorem d_X2_become_93 : Dc cX2_become 93 (.invokestatic 61) 3 96 := by decide +kernel
theorem d_X2_become_96 : Dc cX2_become 96 (.aload_n 1) 1 97 := by decide +kernel
theorem d_X2_become_97 : Dc cX2_become 97 (.getfield 24) 3 100 := by decide +kernel
theorem d_X2_become_100 : Dc cX2_become 100 (.iconst 0) 1 101 := by decide +kernel
theorem d_X2_become_101 : Dc cX2_become 101 (.aload_n 0) 1 102 := by decide +kernel
theorem d_X2_become_102 : Dc cX2_become 102 (.getfield 24) 3 105 := by decide +kernel
theorem d_X2_become_105 : Dc cX2_become 105 (.iconst 0) 1 106 := by decide +kernel
theorem d_X2_become_106 : Dc cX2_become 106 (.iconst 5) 1 107 := by decide +kernel
theorem d_X2_become_107 : Dc cX2_become 107 (.invokestatic 61) 3 110 := by decide +kernel
theorem d_X2_become_110 : Dc cX2_become 110 (.aload_n 1) 1 111 := by decide +kernel
theorem d_X2_become_111 : Dc cX2_become 111 (.getfield 27) 3 114 := by decide +kernel
theorem d_X2_become_114 : Dc cX2_become 114 (.iconst 0) 1 115 := by decide +kernel
theorem d_X2_become_115 : Dc cX2_become 115 (.aload_n 0) 1 116 := by decide +kernel
theorem d_X2_become_116 : Dc cX2_become 116 (.getfield 27) 3 119 := by decide +kernel
theorem d_X2_become_119 : Dc cX2_become 119 (.iconst 0) 1 120 := by decide +kernel
theorem d_X2_become_120 : Dc cX2_become 120 (.iconst 5) 1 121 := by decide +kernel
theorem d_X2_become_121 : Dc cX2_become 121 (.invokestatic 61) 3 124 := by decide +kernel
theorem d_X2_become_124 : Dc cX2_become 124 (.aload_n 1) 1 125 := by decide +kernel
theorem d_X2_become_125 : Dc cX2_become 125 (.getfield 30) 3 128 := by decide +kernel
theorem d_X2_become_128 : Dc cX2_become 128 (.iconst 0) 1 129 := by decide +kernel
theorem d_X2_become_129 : Dc cX2_become 129 (.aload_n 0) 1 130 := by decide +kernel
theorem d_X2_become_130 : Dc cX2_become 130 (.getfield 30) 3 133 := by decide +kernel
theorem d_X2_become_133 : Dc cX2_become 133 (.iconst 0) 1 134 := by decide +kernel
theorem d_X2_become_134 : Dc cX2_become 134 (.bipush 6) 2 136 := by decide +kernel
theorem d_X2_become_136 : Dc cX2_become 136 (.invokestatic 61) 3 139 := by decide +kernel
theorem d_X2_become_139 : Dc cX2_become 139 (.aload_n 1) 1 140 := by decide +kernel
theorem d_X2_become_140 : Dc cX2_become 140 (.getfield 33) 3 143 := by decide +kernel
theorem d_X2_become_143 : Dc cX2_become 143 (.iconst 0) 1 144 := by decide +kernel
theorem d_X2_become_144 : Dc cX2_become 144 (.aload_n 0) 1 145 := by decide +kernel
theorem d_X2_become_145 : Dc cX2_become 145 (.getfield 33) 3 148 := by decide +kernel
theorem d_X2_become_148 : Dc cX2_become 148 (.iconst 0) 1 149 := by decide +kernel
theorem d_X2_become_149 : Dc cX2_become 149 (.bipush 6) 2 151 := by decide +kernel
theorem d_X2_become_151 : Dc cX2_become 151 (.invokestatic 61) 3 154 := by decide +kernel
theorem d_X2_become_154 : Dc cX2_become 154 (.aload_n 1) 1 155 := by decide +kernel
theorem d_X2_become_155 : Dc cX2_become 155 (.getfield 36) 3 158 := by decide +kernel
theorem d_X2_become_158 : Dc cX2_become 158 (.iconst 0) 1 159 := by decide +kernel
theorem d_X2_become_159 : Dc cX2_become 159 (.aload_n 0) 1 160 := by decide +kernel
theorem d_X2_become_160 : Dc cX2_become 160 (.getfield 36) 3 163 := by decide +kernel
theorem d_X2_become_163 : Dc cX2_become 163 (.iconst 0) 1 164 := by decide +kernel
theorem d_X2_become_164 : Dc cX2_become 164 (.bipush 6) 2 166 := by decide +kernel
theorem d_X2_become_166 : Dc cX2_become 166 (.invokestatic 61) 3 169 := by decide +kernel
theorem d_X2_become_169 : Dc cX2_become 169 (.aload_n 1) 1 170 := by decide +kernel
theorem d_X2_become_170 : Dc cX2_become 170 (.getfield 39) 3 173 := by decide +kernel
theorem d_X2_become_173 : Dc cX2_become 173 (.iconst 0) 1 174 := by decide +kernel
theorem d_X2_become_174 : Dc cX2_become 174 (.aload_n 0) 1 175 := by decide +kernel
theorem d_X2_become_175 : Dc cX2_become 175 (.getfield 39) 3 178 := by decide +kernel
theorem d_X2_become_178 : Dc cX2_become 178 (.iconst 0) 1 179 := by decide +kernel
theorem d_X2_become_179 : Dc cX2_become 179 (.bipush 6) 2 181 := by decide +kernel
theorem d_X2_become_181 : Dc cX2_become 181 (.invokestatic 61) 3 184 := by decide +kernel
theorem d_X2_become_184 : Dc cX2_become 184 (.aload_n 1) 1 185 := by decide +kernel
theorem d_X2_become_185 : Dc cX2_become 185 (.getfield 42) 3 188 := by decide +kernel
theorem d_X2_become_188 : Dc cX2_become 188 (.iconst 0) 1 189 := by decide +kernel
theorem d_X2_become_189 : Dc cX2_become 189 (.aload_n 0) 1 190 := by decide +kernel
theorem d_X2_become_190 : Dc cX2_become 190 (.getfield 42) 3 193 := by decide +kernel
theorem d_X2_become_193 : Dc cX2_become 193 (.iconst 0) 1 194 := by decide +kernel
theorem d_X2_become_194 : Dc cX2_become 194 (.bipush 6) 2 196 := by decide +kernel
theorem d_X2_become_196 : Dc cX2_become 196 (.invokestatic 61) 3 199 := by decide +kernel
theorem d_X2_become_199 : Dc cX2_become 199 (.return_) 1 200 := by decide +kernel
theorem d_X2_addMachine_0 : Dc cX2_addMachine 0 (.aload_n 0) 1 1 := by decide +kernel
theorem d_X2_addMachine_1 : Dc cX2_addMachine 1 (.getfield 52) 3 4 := by decide +kernel
theorem d_X2_addMachine_4 : Dc cX2_addMachine 4 (.iconst 5) 1 5 := by decide +kernel
theorem d_X2_addMachine_5 : Dq cX2_addMachine 5 (.if_icmp .lt) 9 8 := by decide +kernel
theorem d_X2_addMachine_8 : Dc cX2_addMachine 8 (.return_) 1 9 := by decide +kernel
theorem d_X2_addMachine_9 : Dc cX2_addMachine 9 (.aload_n 0) 1 10 := by decide +kernel
theorem d_X2_addMachine_10 : Dc cX2_addMachine 10 (.getfield 9) 3 13 := by decide +kernel
theorem d_X2_addMachine_13 : Dc cX2_addMachine 13 (.aload_n 0) 1 14 := by decide +kernel
theorem d_X2_addMachine_14 : Dc cX2_addMachine 14 (.getfield 52) 3 17 := by decide +kernel
theorem d_X2_addMachine_17 : Dc cX2_addMachine 17 (.iload_n 1) 1 18 := by decide +kernel
theorem d_X2_addMachine_18 : Dc cX2_addMachine 18 (.iastore) 1 19 := by decide +kernel
theorem d_X2_addMachine_19 : Dc cX2_addMachine 19 (.aload_n 0) 1 20 := by decide +kernel
theorem d_X2_addMachine_20 : Dc cX2_addMachine 20 (.getfield 15) 3 23 := by decide +kernel
theorem d_X2_addMachine_23 : Dc cX2_addMachine 23 (.aload_n 0) 1 24 := by decide +kernel
theorem d_X2_addMachine_24 : Dc cX2_addMachine 24 (.getfield 52) 3 27 := by decide +kernel
theorem d_X2_addMachine_27 : Dc cX2_addMachine 27 (.iload_n 2) 1 28 := by decide +kernel
theorem d_X2_addMachine_28 : Dc cX2_addMachine 28 (.iastore) 1 29 := by decide +kernel
theorem d_X2_addMachine_29 : Dc cX2_addMachine 29 (.aload_n 0) 1 30 := by decide +kernel
theorem d_X2_addMachine_30 : Dc cX2_addMachine 30 (.getfield 18) 3 33 := by decide +kernel
theorem d_X2_addMachine_33 : Dc cX2_addMachine 33 (.aload_n 0) 1 34 := by decide +kernel
theorem d_X2_addMachine_34 : Dc cX2_addMachine 34 (.getfield 52) 3 37 := by decide +kernel
theorem d_X2_addMachine_37 : Dc cX2_addMachine 37 (.iload_n 3) 1 38 := by decide +kernel
theorem d_X2_addMachine_38 : Dc cX2_addMachine 38 (.iastore) 1 39 := by decide +kernel
theorem d_X2_addMachine_39 : Dc cX2_addMachine 39 (.aload_n 0) 1 40 := by decide +kernel
theorem d_X2_addMachine_40 : Dc cX2_addMachine 40 (.getfield 21) 3 43 := by decide +kernel
theorem d_X2_addMachine_43 : Dc cX2_addMachine 43 (.aload_n 0) 1 44 := by decide +kernel
theorem d_X2_addMachine_44 : Dc cX2_addMachine 44 (.getfield 52) 3 47 := by decide +kernel
theorem d_X2_addMachine_47 : Dc cX2_addMachine 47 (.iconst (-1)) 1 48 := by decide +kernel
theorem d_X2_addMachine_48 : Dc cX2_addMachine 48 (.iastore) 1 49 := by decide +kernel
theorem d_X2_addMachine_49 : Dc cX2_addMachine 49 (.aload_n 0) 1 50 := by decide +kernel
theorem d_X2_addMachine_50 : Dc cX2_addMachine 50 (.getfield 24) 3 53 := by decide +kernel
theorem d_X2_addMachine_53 : Dc cX2_addMachine 53 (.aload_n 0) 1 54 := by decide +kernel
theorem d_X2_addMachine_54 : Dc cX2_addMachine 54 (.getfield 52) 3 57 := by decide +kernel
theorem d_X2_addMachine_57 : Dc cX2_addMachine 57 (.iconst 0) 1 58 := by decide +kernel
theorem d_X2_addMachine_58 : Dc cX2_addMachine 58 (.iastore) 1 59 := by decide +kernel
theorem d_X2_addMachine_59 : Dc cX2_addMachine 59 (.aload_n 0) 1 60 := by decide +kernel
theorem d_X2_addMachine_60 : Dc cX2_addMachine 60 (.getfield 27) 3 63 := by decide +kernel
theorem d_X2_addMachine_63 : Dc cX2_addMachine 63 (.aload_n 0) 1 64 := by decide +kernel
theorem d_X2_addMachine_64 : Dc cX2_addMachine 64 (.getfield 52) 3 67 := by decide +kernel
theorem d_X2_addMachine_67 : Dc cX2_addMachine 67 (.iconst 0) 1 68 := by decide +kernel
theorem d_X2_addMachine_68 : Dc cX2_addMachine 68 (.iastore) 1 69 := by decide +kernel
theorem d_X2_addMachine_69 : Dc cX2_addMachine 69 (.aload_n 0) 1 70 := by decide +kernel
theorem d_X2_addMachine_70 : Dc cX2_addMachine 70 (.dup) 1 71 := by decide +kernel
theorem d_X2_addMachine_71 : Dc cX2_addMachine 71 (.getfield 58) 3 74 := by decide +kernel
theorem d_X2_addMachine_74 : Dc cX2_addMachine 74 (.iconst 1) 1 75 := by decide +kernel
theorem d_X2_addMachine_75 : Dc cX2_addMachine 75 (.aload_n 0) 1 76 := by decide +kernel
theorem d_X2_addMachine_76 : Dc cX2_addMachine 76 (.getfield 52) 3 79 := by decide +kernel
theorem d_X2_addMachine_79 : Dc cX2_addMachine 79 (.ishl) 1 80 := by decide +kernel
theorem d_X2_addMachine_80 : Dc cX2_addMachine 80 (.ior) 1 81 := by decide +kernel
theorem d_X2_addMachine_81 : Dc cX2_addMachine 81 (.putfield 58) 3 84 := by decide +kernel
theorem d_X2_addMachine_84 : Dc cX2_addMachine 84 (.aload_n 0) 1 85 := by decide +kernel
theorem d_X2_addMachine_85 : Dc cX2_addMachine 85 (.dup) 1 86 := by decide +kernel
theorem d_X2_addMachine_86 : Dc cX2_addMachine 86 (.getfield 52) 3 89 := by decide +kernel
theorem d_X2_addMachine_89 : Dc cX2_addMachine 89 (.iconst 1) 1 90 := by decide +kernel
theorem d_X2_addMachine_90 : Dc cX2_addMachine 90 (.iadd) 1 91 := by decide +kernel
theorem d_X2_addMachine_91 : Dc cX2_addMachine 91 (.putfield 52) 3 94 := by decide +kernel
theorem d_X2_addMachine_94 : Dc cX2_addMachine 94 (.return_) 1 95 := by decide +kernel
theorem d_X2_addLoad_0 : Dc cX2_addLoad 0 (.aload_n 0) 1 1 := by decide +kernel
theorem d_X2_addLoad_1 : Dc cX2_addLoad 1 (.getfield 55) 3 4 := by decide +kernel
theorem d_X2_addLoad_4 : Dc cX2_addLoad 4 (.bipush 6) 2 6 := by decide +kernel
theorem d_X2_addLoad_6 : Dq cX2_addLoad 6 (.if_icmp .lt) 10 9 := by decide +kernel
theorem d_X2_addLoad_9 : Dc cX2_addLoad 9 (.return_) 1 10 := by decide +kernel
theorem d_X2_addLoad_10 : Dc cX2_addLoad 10 (.aload_n 0) 1 11 := by decide +kernel
theorem d_X2_addLoad_11 : Dc cX2_addLoad 11 (.getfield 33) 3 14 := by decide +kernel
theorem d_X2_addLoad_14 : Dc cX2_addLoad 14 (.aload_n 0) 1 15 := by decide +kernel
theorem d_X2_addLoad_15 : Dc cX2_addLoad 15 (.getfield 55) 3 18 := by decide +kernel
theorem d_X2_addLoad_18 : Dc cX2_addLoad 18 (.iload_n 2) 1 19 := by decide +kernel
theorem d_X2_addLoad_19 : Dc cX2_addLoad 19 (.iastore) 1 20 := by decide +kernel
theorem d_X2_addLoad_20 : Dc cX2_addLoad 20 (.aload_n 0) 1 21 := by decide +kernel
theorem d_X2_addLoad_21 : Dc cX2_addLoad 21 (.getfield 42) 3 24 := by decide +kernel
theorem d_X2_addLoad_24 : Dc cX2_addLoad 24 (.aload_n 0) 1 25 := by decide +kernel
theorem d_X2_addLoad_25 : Dc cX2_addLoad 25 (.getfield 55) 3 28 := by decide +kernel
theorem d_X2_addLoad_28 : Dc cX2_addLoad 28 (.aload_n 0) 1 29 := by decide +kernel
theorem d_X2_addLoad_29 : Dc cX2_addLoad 29 (.getfield 55) 3 32 := by decide +kernel
theorem d_X2_addLoad_32 : Dc cX2_addLoad 32 (.iastore) 1 33 := by decide +kernel
theorem d_X2_addLoad_33 : Dc cX2_addLoad 33 (.aload_n 0) 1 34 := by decide +kernel
theorem d_X2_addLoad_34 : Dc cX2_addLoad 34 (.aload_n 0) 1 35 := by decide +kernel
theorem d_X2_addLoad_35 : Dc cX2_addLoad 35 (.getfield 55) 3 38 := by decide +kernel
theorem d_X2_addLoad_38 : Dc cX2_addLoad 38 (.iload_n 1) 1 39 := by decide +kernel
theorem d_X2_addLoad_39 : Dc cX2_addLoad 39 (.invokevirtual 67) 3 42 := by decide +kernel
theorem d_X2_addLoad_42 : Dc cX2_addLoad 42 (.aload_n 0) 1 43 := by decide +kernel
theorem d_X2_addLoad_43 : Dc cX2_addLoad 43 (.dup) 1 44 := by decide +kernel
theorem d_X2_addLoad_44 : Dc cX2_addLoad 44 (.getfield 55) 3 47 := by decide +kernel
theorem d_X2_addLoad_47 : Dc cX2_addLoad 47 (.iconst 1) 1 48 := by decide +kernel
theorem d_X2_addLoad_48 : Dc cX2_addLoad 48 (.iadd) 1 49 := by decide +kernel
theorem d_X2_addLoad_49 : Dc cX2_addLoad 49 (.putfield 55) 3 52 := by decide +kernel
theorem d_X2_addLoad_52 : Dc cX2_addLoad 52 (.return_) 1 53 := by decide +kernel
theorem d_X2_isNone_0 : Dc cX2_isNone 0 (.aload_n 0) 1 1 := by decide +kernel
theorem d_X2_isNone_1 : Dc cX2_isNone 1 (.getfield 52) 3 4 := by decide +kernel
theorem d_X2_isNone_4 : Dq cX2_isNone 4 (.ifCond .ne) 11 7 := by decide +kernel
theorem d_X2_isNone_7 : Dc cX2_isNone 7 (.iconst 1) 1 8 := by decide +kernel
theorem d_X2_isNone_8 : Dq cX2_isNone 8 (.goto) 12 11 := by decide +kernel
theorem d_X2_isNone_11 : Dc cX2_isNone 11 (.iconst 0) 1 12 := by decide +kernel
theorem d_X2_isNone_12 : Dc cX2_isNone 12 (.ireturn) 1 13 := by decide +kernel
theorem d_X2_hasMachine_0 : Dc cX2_hasMachine 0 (.iload_n 1) 1 1 := by decide +kernel
theorem d_X2_hasMachine_1 : Dq cX2_hasMachine 1 (.ifCond .lt) 16 4 := by decide +kernel
theorem d_X2_hasMachine_4 : Dc cX2_hasMachine 4 (.iload_n 1) 1 5 := by decide +kernel
theorem d_X2_hasMachine_5 : Dc cX2_hasMachine 5 (.aload_n 0) 1 6 := by decide +kernel
theorem d_X2_hasMachine_6 : Dc cX2_hasMachine 6 (.getfield 52) 3 9 := by decide +kernel
theorem d_X2_hasMachine_9 : Dq cX2_hasMachine 9 (.if_icmp .ge) 16 12 := by decide +kernel
theorem d_X2_hasMachine_12 : Dc cX2_hasMachine 12 (.iconst 1) 1 13 := by decide +kernel
theorem d_X2_hasMachine_13 : Dq cX2_hasMachine 13 (.goto) 17 16 := by decide +kernel
theorem d_X2_hasMachine_16 : Dc cX2_hasMachine 16 (.iconst 0) 1 17 := by decide +kernel
theorem d_X2_hasMachine_17 : Dc cX2_hasMachine 17 (.ireturn) 1 18 := by decide +kernel
theorem d_X2_hasLoad_0 : Dc cX2_hasLoad 0 (.iload_n 1) 1 1 := by decide +kernel
theorem d_X2_hasLoad_1 : Dq cX2_hasLoad 1 (.ifCond .lt) 16 4 := by decide +kernel
theorem d_X2_hasLoad_4 : Dc cX2_hasLoad 4 (.iload_n 1) 1 5 := by decide +kernel
theorem d_X2_hasLoad_5 : Dc cX2_hasLoad 5 (.aload_n 0) 1 6 := by decide +kernel
theorem d_X2_hasLoad_6 : Dc cX2_hasLoad 6 (.getfield 55) 3 9 := by decide +kernel
theorem d_X2_hasLoad_9 : Dq cX2_hasLoad 9 (.if_icmp .ge) 16 12 := by decide +kernel
theorem d_X2_hasLoad_12 : Dc cX2_hasLoad 12 (.iconst 1) 1 13 := by decide +kernel
theorem d_X2_hasLoad_13 : Dq cX2_hasLoad 13 (.goto) 17 16 := by decide +kernel
theorem d_X2_hasLoad_16 : Dc cX2_hasLoad 16 (.iconst 0) 1 17 := by decide +kernel
theorem d_X2_hasLoad_17 : Dc cX2_hasLoad 17 (.ireturn) 1 18 := by decide +kernel
theorem d_X2_isOpen_0 : Dc cX2_isOpen 0 (.aload_n 0) 1 1 := by decide +kernel
theorem d_X2_isOpen_1 : Dc cX2_isOpen 1 (.getfield 58) 3 4 := by decide +kernel
theorem d_X2_isOpen_4 : Dc cX2_isOpen 4 (.iload_n 1) 1 5 := by decide +kernel
theorem d_X2_isOpen_5 : Dc cX2_isOpen 5 (.ishr) 1 6 := by decide +kernel
theorem d_X2_isOpen_6 : Dc cX2_isOpen 6 (.iconst 1) 1 7 := by decide +kernel
theorem d_X2_isOpen_7 : Dc cX2_isOpen 7 (.iand) 1 8 := by decide +kernel
theorem d_X2_isOpen_8 : Dc cX2_isOpen 8 (.iconst 1) 1 9 := by decide +kernel
theorem d_X2_isOpen_9 : Dq cX2_isOpen 9 (.if_icmp .ne) 16 12 := by decide +kernel
theorem d_X2_isOpen_12 : Dc cX2_isOpen 12 (.iconst 1) 1 13 := by decide +kernel
theorem d_X2_isOpen_13 : Dq cX2_isOpen 13 (.goto) 17 16 := by decide +kernel
theorem d_X2_isOpen_16 : Dc cX2_isOpen 16 (.iconst 0) 1 17 := by decide +kernel
theorem d_X2_isOpen_17 : Dc cX2_isOpen 17 (.ireturn) 1 18 := by decide +kernel
theorem d_X2_turn_0 : Dc cX2_turn 0 (.aload_n 0) 1 1 := by decide +kernel
theorem d_X2_turn_1 : Dc cX2_turn 1 (.dup) 1 2 := by decide +kernel
theorem d_X2_turn_2 : Dc cX2_turn 2 (.getfield 58) 3 5 := by decide +kernel
theorem d_X2_turn_5 : Dc cX2_turn 5 (.iconst 1) 1 6 := by decide +kernel
theorem d_X2_turn_6 : Dc cX2_turn 6 (.iload_n 1) 1 7 := by decide +kernel
theorem d_X2_turn_7 : Dc cX2_turn 7 (.ishl) 1 8 := by decide +kernel
theorem d_X2_turn_8 : Dc cX2_turn 8 (.ixor) 1 9 := by decide +kernel
theorem d_X2_turn_9 : Dc cX2_turn 9 (.putfield 58) 3 12 := by decide +kernel
theorem d_X2_turn_12 : Dc cX2_turn 12 (.return_) 1 13 := by decide +kernel
theorem d_X2_dirty_0 : Dc cX2_dirty 0 (.aload_n 0) 1 1 := by decide +kernel
theorem d_X2_dirty_1 : Dc cX2_dirty 1 (.getfield 30) 3 4 := by decide +kernel
theorem d_X2_dirty_4 : Dc cX2_dirty 4 (.iload_n 1) 1 5 := by decide +kernel
theorem d_X2_dirty_5 : Dc cX2_dirty 5 (.iload_n 2) 1 6 := by decide +kernel
theorem d_X2_dirty_6 : Dc cX2_dirty 6 (.iastore) 1 7 := by decide +kernel
theorem d_X2_dirty_7 : Dc cX2_dirty 7 (.aload_n 0) 1 8 := by decide +kernel
theorem d_X2_dirty_8 : Dc cX2_dirty 8 (.getfield 36) 3 11 := by decide +kernel
theorem d_X2_dirty_11 : Dc cX2_dirty 11 (.iload_n 1) 1 12 := by decide +kernel
theorem d_X2_dirty_12 : Dc cX2_dirty 12 (.iconst 0) 1 13 := by decide +kernel
theorem d_X2_dirty_13 : Dc cX2_dirty 13 (.iastore) 1 14 := by decide +kernel
theorem d_X2_dirty_14 : Dc cX2_dirty 14 (.aload_n 0) 1 15 := by decide +kernel
theorem d_X2_dirty_15 : Dc cX2_dirty 15 (.getfield 39) 3 18 := by decide +kernel
theorem d_X2_dirty_18 : Dc cX2_dirty 18 (.iload_n 1) 1 19 := by decide +kernel
theorem d_X2_dirty_19 : Dc cX2_dirty 19 (.iconst 0) 1 20 := by decide +kernel
theorem d_X2_dirty_20 : Dc cX2_dirty 20 (.iastore) 1 21 := by decide +kernel
theorem d_X2_dirty_21 : Dc cX2_dirty 21 (.return_) 1 22 := by decide +kernel
theorem d_X2_alter_0 : Dc cX2_alter 0 (.iload_n 2) 1 1 := by decide +kernel
theorem d_X2_alter_1 : decode cX2_alter 1 = .ok (.lookupswitch 47 #[(0, 27), (1, 37)], 27) := by decide +kernel
theorem d_X2_alter_28 : Dc cX2_alter 28 (.aload_n 0) 1 29 := by decide +kernel
theorem d_X2_alter_29 : Dc cX2_alter 29 (.getfield 9) 3 32 := by decide +kernel
theorem d_X2_alter_32 : Dc cX2_alter 32 (.iload_n 1) 1 33 := by decide +kernel
theorem d_X2_alter_33 : Dc cX2_alter 33 (.iload_n 3) 1 34 := by decide +kernel
theorem d_X2_alter_34 : Dc cX2_alter 34 (.iastore) 1 35 := by decide +kernel
theorem d_X2_alter_35 : Dq cX2_alter 35 (.goto) 55 38 := by decide +kernel
theorem d_X2_alter_38 : Dc cX2_alter 38 (.aload_n 0) 1 39 := by decide +kernel
theorem d_X2_alter_39 : Dc cX2_alter 39 (.getfield 15) 3 42 := by decide +kernel
theorem d_X2_alter_42 : Dc cX2_alter 42 (.iload_n 1) 1 43 := by decide +kernel
theorem d_X2_alter_43 : Dc cX2_alter 43 (.iload_n 3) 1 44 := by decide +kernel
theorem d_X2_alter_44 : Dc cX2_alter 44 (.iastore) 1 45 := by decide +kernel
theorem d_X2_alter_45 : Dq cX2_alter 45 (.goto) 55 48 := by decide +kernel
theorem d_X2_alter_48 : Dc cX2_alter 48 (.aload_n 0) 1 49 := by decide +kernel
theorem d_X2_alter_49 : Dc cX2_alter 49 (.getfield 18) 3 52 := by decide +kernel
theorem d_X2_alter_52 : Dc cX2_alter 52 (.iload_n 1) 1 53 := by decide +kernel
theorem d_X2_alter_53 : Dc cX2_alter 53 (.iload_n 3) 1 54 := by decide +kernel
theorem d_X2_alter_54 : Dc cX2_alter 54 (.iastore) 1 55 := by decide +kernel
theorem d_X2_alter_55 : Dc cX2_alter 55 (.return_) 1 56 := by decide +kernel
theorem d_X2_washes_0 : Dc cX2_washes 0 (.aload_n 0) 1 1 := by decide +kernel
theorem d_X2_washes_1 : Dc cX2_washes 1 (.getfield 9) 3 4 := by decide +kernel
theorem d_X2_washes_4 : Dc cX2_washes 4 (.iload_n 1) 1 5 := by decide +kernel
theorem d_X2_washes_5 : Dc cX2_washes 5 (.iaload) 1 6 := by decide +kernel
theorem d_X2_washes_6 : Dc cX2_washes 6 (.iconst 3) 1 7 := by decide +kernel
theorem d_X2_washes_7 : Dq cX2_washes 7 (.if_icmp .gt) 14 10 := by decide +kernel
theorem d_X2_washes_10 : Dc cX2_washes 10 (.iconst 1) 1 11 := by decide +kernel
theorem d_X2_washes_11 : Dq cX2_washes 11 (.goto) 15 14 := by decide +kernel
theorem d_X2_washes_14 : Dc cX2_washes 14 (.iconst 0) 1 15 := by decide +kernel
theorem d_X2_washes_15 : Dc cX2_washes 15 (.ireturn) 1 16 := by decide +kernel
theorem d_X2_lastsWith_0 : Dc cX2_lastsWith 0 (.aload_n 0) 1 1 := by decide +kernel
theorem d_X2_lastsWith_1 : Dc cX2_lastsWith 1 (.getfield 30) 3 4 := by decide +kernel
theorem d_X2_lastsWith_4 : Dc cX2_lastsWith 4 (.iload_n 2) 1 5 := by decide +kernel
theorem d_X2_lastsWith_5 : Dc cX2_lastsWith 5 (.iaload) 1 6 := by decide +kernel
theorem d_X2_lastsWith_6 : Dc cX2_lastsWith 6 (.aload_n 0) 1 7 := by decide +kernel
theorem d_X2_lastsWith_7 : Dc cX2_lastsWith 7 (.getfield 18) 3 10 := by decide +kernel
theorem d_X2_lastsWith_10 : Dc cX2_lastsWith 10 (.iload_n 1) 1 11 := by decide +kernel
theorem d_X2_lastsWith_11 : Dc cX2_lastsWith 11 (.iaload) 1 12 := by decide +kernel
theorem d_X2_lastsWith_12 : Dc cX2_lastsWith 12 (.iadd) 1 13 := by decide +kernel
theorem d_X2_lastsWith_13 : Dc cX2_lastsWith 13 (.istore_n 3) 1 14 := by decide +kernel
theorem d_X2_lastsWith_14 : Dc cX2_lastsWith 14 (.aload_n 0) 1 15 := by decide +kernel
theorem d_X2_lastsWith_15 : Dc cX2_lastsWith 15 (.getfield 30) 3 18 := by decide +kernel
theorem d_X2_lastsWith_18 : Dc cX2_lastsWith 18 (.iload_n 2) 1 19 := by decide +kernel
theorem d_X2_lastsWith_19 : Dc cX2_lastsWith 19 (.iaload) 1 20 := by decide +kernel
theorem d_X2_lastsWith_20 : Dc cX2_lastsWith 20 (.iconst 2) 1 21 := by decide +kernel
theorem d_X2_lastsWith_21 : Dc cX2_lastsWith 21 (.idiv) 1 22 := by decide +kernel
theorem d_X2_lastsWith_22 : Dc cX2_lastsWith 22 (.aload_n 0) 1 23 := by decide +kernel
theorem d_X2_lastsWith_23 : Dc cX2_lastsWith 23 (.getfield 18) 3 26 := by decide +kernel
theorem d_X2_lastsWith_26 : Dc cX2_lastsWith 26 (.iload_n 1) 1 27 := by decide +kernel
theorem d_X2_lastsWith_27 : Dc cX2_lastsWith 27 (.iaload) 1 28 := by decide +kernel
theorem d_X2_lastsWith_28 : Dc cX2_lastsWith 28 (.iadd) 1 29 := by decide +kernel
theorem d_X2_lastsWith_29 : Dc cX2_lastsWith 29 (.iconst 1) 1 30 := by decide +kernel
theorem d_X2_lastsWith_30 : Dc cX2_lastsWith 30 (.iadd) 1 31 := by decide +kernel
theorem d_X2_lastsWith_31 : Dc cX2_lastsWith 31 (.istore 4) 2 33 := by decide +kernel
theorem d_X2_lastsWith_33 : Dc cX2_lastsWith 33 (.aload_n 0) 1 34 := by decide +kernel
theorem d_X2_lastsWith_34 : Dc cX2_lastsWith 34 (.getfield 9) 3 37 := by decide +kernel
theorem d_X2_lastsWith_37 : Dc cX2_lastsWith 37 (.iload_n 1) 1 38 := by decide +kernel
theorem d_X2_lastsWith_38 : Dc cX2_lastsWith 38 (.iaload) 1 39 := by decide +kernel
theorem d_X2_lastsWith_39 : decode cX2_lastsWith 39 = .ok (.tableswitch 60 2 5 #[29, 37, 48, 51], 29) := by decide +kernel
theorem d_X2_lastsWith_68 : Dc cX2_lastsWith 68 (.iconst 1) 1 69 := by decide +kernel
theorem d_X2_lastsWith_69 : Dc cX2_lastsWith 69 (.iload_n 3) 1 70 := by decide +kernel
theorem d_X2_lastsWith_70 : Dc cX2_lastsWith 70 (.iconst 2) 1 71 := by decide +kernel
theorem d_X2_lastsWith_71 : Dc cX2_lastsWith 71 (.idiv) 1 72 := by decide +kernel
theorem d_X2_lastsWith_72 : Dc cX2_lastsWith 72 (.invokestatic 71) 3 75 := by decide +kernel
theorem d_X2_lastsWith_75 : Dc cX2_lastsWith 75 (.ireturn) 1 76 := by decide +kernel
theorem d_X2_lastsWith_76 : Dc cX2_lastsWith 76 (.iload_n 3) 1 77 := by decide +kernel
theorem d_X2_lastsWith_77 : Dc cX2_lastsWith 77 (.aload_n 0) 1 78 := by decide +kernel
theorem d_X2_lastsWith_78 : Dc cX2_lastsWith 78 (.getfield 27) 3 81 := by decide +kernel
theorem d_X2_lastsWith_81 : Dc cX2_lastsWith 81 (.iload_n 1) 1 82 := by decide +kernel
theorem d_X2_lastsWith_82 : Dc cX2_lastsWith 82 (.iaload) 1 83 := by decide +kernel
theorem d_X2_lastsWith_83 : Dc cX2_lastsWith 83 (.iconst 3) 1 84 := by decide +kernel
theorem d_X2_lastsWith_84 : Dc cX2_lastsWith 84 (.idiv) 1 85 := by decide +kernel
theorem d_X2_lastsWith_85 : Dc cX2_lastsWith 85 (.iadd) 1 86 := by decide +kernel
theorem d_X2_lastsWith_86 : Dc cX2_lastsWith 86 (.ireturn) 1 87 := by decide +kernel
theorem d_X2_lastsWith_87 : Dc cX2_lastsWith 87 (.iload 4) 2 89 := by decide +kernel
theorem d_X2_lastsWith_89 : Dc cX2_lastsWith 89 (.ireturn) 1 90 := by decide +kernel
theorem d_X2_lastsWith_90 : Dc cX2_lastsWith 90 (.iconst 1) 1 91 := by decide +kernel
theorem d_X2_lastsWith_91 : Dc cX2_lastsWith 91 (.iload 4) 2 93 := by decide +kernel
theorem d_X2_lastsWith_93 : Dc cX2_lastsWith 93 (.iconst 1) 1 94 := by decide +kernel
theorem d_X2_lastsWith_94 : Dc cX2_lastsWith 94 (.isub) 1 95 := by decide +kernel
theorem d_X2_lastsWith_95 : Dc cX2_lastsWith 95 (.invokestatic 71) 3 98 := by decide +kernel
theorem d_X2_lastsWith_98 : Dc cX2_lastsWith 98 (.ireturn) 1 99 := by decide +kernel
theorem d_X2_lastsWith_99 : Dc cX2_lastsWith 99 (.iload_n 3) 1 100 := by decide +kernel
theorem d_X2_lastsWith_100 : Dc cX2_lastsWith 100 (.ireturn) 1 101 := by decide +kernel
theorem d_X2_passTick_0 : Dc cX2_passTick 0 (.iconst 0) 1 1 := by decide +kernel
theorem d_X2_passTick_1 : Dc cX2_passTick 1 (.istore_n 1) 1 2 := by decide +kernel
theorem d_X2_passTick_2 : Dc cX2_passTick 2 (.iconst 0) 1 3 := by decide +kernel
theorem d_X2_passTick_3 : Dc cX2_passTick 3 (.istore_n 2) 1 4 := by decide +kernel
theorem d_X2_passTick_4 : Dc cX2_passTick 4 (.iload_n 2) 1 5 := by decide +kernel
theorem d_X2_passTick_5 : Dc cX2_passTick 5 (.aload_n 0) 1 6 := by decide +kernel
theorem d_X2_passTick_6 : Dc cX2_passTick 6 (.getfield 52) 3 9 := by decide +kernel
theorem d_X2_passTick_9 : Dq cX2_passTick 9 (.if_icmp .ge) 58 12 := by decide +kernel
theorem d_X2_passTick_12 : Dc cX2_passTick 12 (.aload_n 0) 1 13 := by decide +kernel
theorem d_X2_passTick_13 : Dc cX2_passTick 13 (.getfield 21) 3 16 := by decide +kernel
theorem d_X2_passTick_16 : Dc cX2_passTick 16 (.iload_n 2) 1 17 := by decide +kernel
theorem d_X2_passTick_17 : Dc cX2_passTick 17 (.iaload) 1 18 := by decide +kernel
theorem d_X2_passTick_18 : Dc cX2_passTick 18 (.iconst (-1)) 1 19 := by decide +kernel
theorem d_X2_passTick_19 : Dq cX2_passTick 19 (.if_icmp .eq) 52 22 := by decide +kernel
theorem d_X2_passTick_22 : Dc cX2_passTick 22 (.aload_n 0) 1 23 := by decide +kernel
theorem d_X2_passTick_23 : Dc cX2_passTick 23 (.getfield 24) 3 26 := by decide +kernel
theorem d_X2_passTick_26 : Dc cX2_passTick 26 (.iload_n 2) 1 27 := by decide +kernel
theorem d_X2_passTick_27 : Dc cX2_passTick 27 (.dup2) 1 28 := by decide +kernel
theorem d_X2_passTick_28 : Dc cX2_passTick 28 (.iaload) 1 29 := by decide +kernel
theorem d_X2_passTick_29 : Dc cX2_passTick 29 (.iconst 1) 1 30 := by decide +kernel
theorem d_X2_passTick_30 : Dc cX2_passTick 30 (.isub) 1 31 := by decide +kernel
theorem d_X2_passTick_31 : Dc cX2_passTick 31 (.iastore) 1 32 := by decide +kernel
theorem d_X2_passTick_32 : Dc cX2_passTick 32 (.aload_n 0) 1 33 := by decide +kernel
theorem d_X2_passTick_33 : Dc cX2_passTick 33 (.getfield 24) 3 36 := by decide +kernel
theorem d_X2_passTick_36 : Dc cX2_passTick 36 (.iload_n 2) 1 37 := by decide +kernel
theorem d_X2_passTick_37 : Dc cX2_passTick 37 (.iaload) 1 38 := by decide +kernel
theorem d_X2_passTick_38 : Dq cX2_passTick 38 (.ifCond .gt) 49 41 := by decide +kernel
theorem d_X2_passTick_41 : Dc cX2_passTick 41 (.aload_n 0) 1 42 := by decide +kernel
theorem d_X2_passTick_42 : Dc cX2_passTick 42 (.iload_n 2) 1 43 := by decide +kernel
theorem d_X2_passTick_43 : Dc cX2_passTick 43 (.invokevirtual 77) 3 46 := by decide +kernel
theorem d_X2_passTick_46 : Dq cX2_passTick 46 (.goto) 52 49 := by decide +kernel
theorem d_X2_passTick_49 : Dc cX2_passTick 49 (.iinc 1 1) 3 52 := by decide +kernel
theorem d_X2_passTick_52 : Dc cX2_passTick 52 (.iinc 2 1) 3 55 := by decide +kernel
theorem d_X2_passTick_55 : Dq cX2_passTick 55 (.goto) 4 58 := by decide +kernel
theorem d_X2_passTick_58 : Dc cX2_passTick 58 (.iconst 0) 1 59 := by decide +kernel
theorem d_X2_passTick_59 : Dc cX2_passTick 59 (.istore_n 2) 1 60 := by decide +kernel
theorem d_X2_passTick_60 : Dc cX2_passTick 60 (.iload_n 2) 1 61 := by decide +kernel
theorem d_X2_passTick_61 : Dc cX2_passTick 61 (.aload_n 0) 1 62 := by decide +kernel
theorem d_X2_passTick_62 : Dc cX2_passTick 62 (.getfield 52) 3 65 := by decide +kernel
theorem d_X2_passTick_65 : Dq cX2_passTick 65 (.if_icmp .ge) 120 68 := by decide +kernel
theorem d_X2_passTick_68 : Dc cX2_passTick 68 (.iload_n 1) 1 69 := by decide +kernel
theorem d_X2_passTick_69 : Dc cX2_passTick 69 (.aload_n 0) 1 70 := by decide +kernel
theorem d_X2_passTick_70 : Dc cX2_passTick 70 (.getfield 45) 3 73 := by decide +kernel
theorem d_X2_passTick_73 : Dq cX2_passTick 73 (.if_icmp .ge) 120 76 := by decide +kernel
theorem d_X2_passTick_76 : Dc cX2_passTick 76 (.aload_n 0) 1 77 := by decide +kernel
theorem d_X2_passTick_77 : Dc cX2_passTick 77 (.getfield 21) 3 80 := by decide +kernel
theorem d_X2_passTick_80 : Dc cX2_passTick 80 (.iload_n 2) 1 81 := by decide +kernel
theorem d_X2_passTick_81 : Dc cX2_passTick 81 (.iaload) 1 82 := by decide +kernel
theorem d_X2_passTick_82 : Dc cX2_passTick 82 (.iconst (-1)) 1 83 := by decide +kernel
theorem d_X2_passTick_83 : Dq cX2_passTick 83 (.if_icmp .ne) 114 86 := by decide +kernel
theorem d_X2_passTick_86 : Dc cX2_passTick 86 (.aload_n 0) 1 87 := by decide +kernel
theorem d_X2_passTick_87 : Dc cX2_passTick 87 (.iload_n 2) 1 88 := by decide +kernel
theorem d_X2_passTick_88 : Dc cX2_passTick 88 (.invokevirtual 81) 3 91 := by decide +kernel
theorem d_X2_passTick_91 : Dq cX2_passTick 91 (.ifCond .eq) 114 94 := by decide +kernel
theorem d_X2_passTick_94 : Dc cX2_passTick 94 (.aload_n 0) 1 95 := by decide +kernel
theorem d_X2_passTick_95 : Dc cX2_passTick 95 (.iload_n 2) 1 96 := by decide +kernel
theorem d_X2_passTick_96 : Dc cX2_passTick 96 (.invokevirtual 85) 3 99 := by decide +kernel
theorem d_X2_passTick_99 : Dc cX2_passTick 99 (.istore_n 3) 1 100 := by decide +kernel
theorem d_X2_passTick_100 : Dc cX2_passTick 100 (.iload_n 3) 1 101 := by decide +kernel
theorem d_X2_passTick_101 : Dc cX2_passTick 101 (.iconst (-1)) 1 102 := by decide +kernel
theorem d_X2_passTick_102 : Dq cX2_passTick 102 (.if_icmp .eq) 114 105 := by decide +kernel
theorem d_X2_passTick_105 : Dc cX2_passTick 105 (.aload_n 0) 1 106 := by decide +kernel
theorem d_X2_passTick_106 : Dc cX2_passTick 106 (.iload_n 2) 1 107 := by decide +kernel
theorem d_X2_passTick_107 : Dc cX2_passTick 107 (.iload_n 3) 1 108 := by decide +kernel
theorem d_X2_passTick_108 : Dc cX2_passTick 108 (.invokevirtual 89) 3 111 := by decide +kernel
theorem d_X2_passTick_111 : Dc cX2_passTick 111 (.iinc 1 1) 3 114 := by decide +kernel
theorem d_X2_passTick_114 : Dc cX2_passTick 114 (.iinc 2 1) 3 117 := by decide +kernel
theorem d_X2_passTick_117 : Dq cX2_passTick 117 (.goto) 60 120 := by decide +kernel
theorem d_X2_passTick_120 : Dc cX2_passTick 120 (.aload_n 0) 1 121 := by decide +kernel
theorem d_X2_passTick_121 : Dc cX2_passTick 121 (.dup) 1 122 := by decide +kernel
theorem d_X2_passTick_122 : Dc cX2_passTick 122 (.getfield 49) 3 125 := by decide +kernel
theorem d_X2_passTick_125 : Dc cX2_passTick 125 (.iconst 1) 1 126 := by decide +kernel
theorem d_X2_passTick_126 : Dc cX2_passTick 126 (.iadd) 1 127 := by decide +kernel
theorem d_X2_passTick_127 : Dc cX2_passTick 127 (.putfield 49) 3 130 := by decide +kernel
theorem d_X2_passTick_130 : Dc cX2_passTick 130 (.return_) 1 131 := by decide +kernel
theorem d_X2_passTicks_0 : Dc cX2_passTicks 0 (.iload_n 1) 1 1 := by decide +kernel
theorem d_X2_passTicks_1 : Dc cX2_passTicks 1 (.istore_n 2) 1 2 := by decide +kernel
theorem d_X2_passTicks_2 : Dc cX2_passTicks 2 (.iload_n 2) 1 3 := by decide +kernel
theorem d_X2_passTicks_3 : Dq cX2_passTicks 3 (.ifCond .le) 31 6 := by decide +kernel
theorem d_X2_passTicks_6 : Dc cX2_passTicks 6 (.aload_n 0) 1 7 := by decide +kernel
theorem d_X2_passTicks_7 : Dc cX2_passTicks 7 (.invokevirtual 92) 3 10 := by decide +kernel
theorem d_X2_passTicks_10 : Dc cX2_passTicks 10 (.iinc 2 (-1)) 3 13 := by decide +kernel
theorem d_X2_passTicks_13 : Dc cX2_passTicks 13 (.aload_n 0) 1 14 := by decide +kernel
theorem d_X2_passTicks_14 : Dc cX2_passTicks 14 (.iload_n 2) 1 15 := by decide +kernel
theorem d_X2_passTicks_15 : Dc cX2_passTicks 15 (.invokevirtual 95) 3 18 := by decide +kernel
theorem d_X2_passTicks_18 : Dc cX2_passTicks 18 (.istore_n 3) 1 19 := by decide +kernel
theorem d_X2_passTicks_19 : Dc cX2_passTicks 19 (.aload_n 0) 1 20 := by decide +kernel
theorem d_X2_passTicks_20 : Dc cX2_passTicks 20 (.iload_n 3) 1 21 := by decide +kernel
theorem d_X2_passTicks_21 : Dc cX2_passTicks 21 (.invokevirtual 98) 3 24 := by decide +kernel
theorem d_X2_passTicks_24 : Dc cX2_passTicks 24 (.iload_n 2) 1 25 := by decide +kernel
theorem d_X2_passTicks_25 : Dc cX2_passTicks 25 (.iload_n 3) 1 26 := by decide +kernel
theorem d_X2_passTicks_26 : Dc cX2_passTicks 26 (.isub) 1 27 := by decide +kernel
theorem d_X2_passTicks_27 : Dc cX2_passTicks 27 (.istore_n 2) 1 28 := by decide +kernel
theorem d_X2_passTicks_28 : Dq cX2_passTicks 28 (.goto) 2 31 := by decide +kernel
theorem d_X2_passTicks_31 : Dc cX2_passTicks 31 (.return_) 1 32 := by decide +kernel
theorem d_X2_quietTicks_0 : Dc cX2_quietTicks 0 (.iload_n 1) 1 1 := by decide +kernel
theorem d_X2_quietTicks_1 : Dc cX2_quietTicks 1 (.istore_n 2) 1 2 := by decide +kernel
theorem d_X2_quietTicks_2 : Dc cX2_quietTicks 2 (.iconst 0) 1 3 := by decide +kernel
theorem d_X2_quietTicks_3 : Dc cX2_quietTicks 3 (.istore_n 3) 1 4 := by decide +kernel
theorem d_X2_quietTicks_4 : Dc cX2_quietTicks 4 (.iload_n 3) 1 5 := by decide +kernel
theorem d_X2_quietTicks_5 : Dc cX2_quietTicks 5 (.aload_n 0) 1 6 := by decide +kernel
theorem d_X2_quietTicks_6 : Dc cX2_quietTicks 6 (.getfield 52) 3 9 := by decide +kernel
theorem d_X2_quietTicks_9 : Dq cX2_quietTicks 9 (.if_icmp .ge) 41 12 := by decide +kernel
theorem d_X2_quietTicks_12 : Dc cX2_quietTicks 12 (.aload_n 0) 1 13 := by decide +kernel
theorem d_X2_quietTicks_13 : Dc cX2_quietTicks 13 (.getfield 21) 3 16 := by decide +kernel
theorem d_X2_quietTicks_16 : Dc cX2_quietTicks 16 (.iload_n 3) 1 17 := by decide +kernel
theorem d_X2_quietTicks_17 : Dc cX2_quietTicks 17 (.iaload) 1 18 := by decide +kernel
theorem d_X2_quietTicks_18 : Dc cX2_quietTicks 18 (.iconst (-1)) 1 19 := by decide +kernel
theorem d_X2_quietTicks_19 : Dq cX2_quietTicks 19 (.if_icmp .eq) 35 22 := by decide +kernel
theorem d_X2_quietTicks_22 : Dc cX2_quietTicks 22 (.iload_n 2) 1 23 := by decide +kernel
theorem d_X2_quietTicks_23 : Dc cX2_quietTicks 23 (.aload_n 0) 1 24 := by decide +kernel
theorem d_X2_quietTicks_24 : Dc cX2_quietTicks 24 (.getfield 24) 3 27 := by decide +kernel
theorem d_X2_quietTicks_27 : Dc cX2_quietTicks 27 (.iload_n 3) 1 28 := by decide +kernel
theorem d_X2_quietTicks_28 : Dc cX2_quietTicks 28 (.iaload) 1 29 := by decide +kernel
theorem d_X2_quietTicks_29 : Dc cX2_quietTicks 29 (.iconst 1) 1 30 := by decide +kernel
theorem d_X2_quietTicks_30 : Dc cX2_quietTicks 30 (.isub) 1 31 := by decide +kernel
theorem d_X2_quietTicks_31 : Dc cX2_quietTicks 31 (.invokestatic 101) 3 34 := by decide +kernel
theorem d_X2_quietTicks_34 : Dc cX2_quietTicks 34 (.istore_n 2) 1 35 := by decide +kernel
theorem d_X2_quietTicks_35 : Dc cX2_quietTicks 35 (.iinc 3 1) 3 38 := by decide +kernel
theorem d_X2_quietTicks_38 : Dq cX2_quietTicks 38 (.goto) 4 41 := by decide +kernel
theorem d_X2_quietTicks_41 : Dc cX2_quietTicks 41 (.iconst 0) 1 42 := by decide +kernel
theorem d_X2_quietTicks_42 : Dc cX2_quietTicks 42 (.iload_n 2) 1 43 := by decide +kernel
theorem d_X2_quietTicks_43 : Dc cX2_quietTicks 43 (.invokestatic 71) 3 46 := by decide +kernel
theorem d_X2_quietTicks_46 : Dc cX2_quietTicks 46 (.ireturn) 1 47 := by decide +kernel
theorem d_X2_passQuietTicks_0 : Dc cX2_passQuietTicks 0 (.aload_n 0) 1 1 := by decide +kernel
theorem d_X2_passQuietTicks_1 : Dc cX2_passQuietTicks 1 (.dup) 1 2 := by decide +kernel
theorem d_X2_passQuietTicks_2 : Dc cX2_passQuietTicks 2 (.getfield 49) 3 5 := by decide +kernel
theorem d_X2_passQuietTicks_5 : Dc cX2_passQuietTicks 5 (.iload_n 1) 1 6 := by decide +kernel
theorem d_X2_passQuietTicks_6 : Dc cX2_passQuietTicks 6 (.iadd) 1 7 := by decide +kernel
theorem d_X2_passQuietTicks_7 : Dc cX2_passQuietTicks 7 (.putfield 49) 3 10 := by decide +kernel
theorem d_X2_passQuietTicks_10 : Dc cX2_passQuietTicks 10 (.iconst 0) 1 11 := by decide +kernel
theorem d_X2_passQuietTicks_11 : Dc cX2_passQuietTicks 11 (.istore_n 2) 1 12 := by decide +kernel
theorem d_X2_passQuietTicks_12 : Dc cX2_passQuietTicks 12 (.iload_n 2) 1 13 := by decide +kernel
theorem d_X2_passQuietTicks_13 : Dc cX2_passQuietTicks 13 (.aload_n 0) 1 14 := by decide +kernel
theorem d_X2_passQuietTicks_14 : Dc cX2_passQuietTicks 14 (.getfield 52) 3 17 := by decide +kernel
theorem d_X2_passQuietTicks_17 : Dq cX2_passQuietTicks 17 (.if_icmp .ge) 46 20 := by decide +kernel
theorem d_X2_passQuietTicks_20 : Dc cX2_passQuietTicks 20 (.aload_n 0) 1 21 := by decide +kernel
theorem d_X2_passQuietTicks_21 : Dc cX2_passQuietTicks 21 (.getfield 21) 3 24 := by decide +kernel
theorem d_X2_passQuietTicks_24 : Dc cX2_passQuietTicks 24 (.iload_n 2) 1 25 := by decide +kernel
theorem d_X2_passQuietTicks_25 : Dc cX2_passQuietTicks 25 (.iaload) 1 26 := by decide +kernel
theorem d_X2_passQuietTicks_26 : Dc cX2_passQuietTicks 26 (.iconst (-1)) 1 27 := by decide +kernel
theorem d_X2_passQuietTicks_27 : Dq cX2_passQuietTicks 27 (.if_icmp .eq) 40 30 := by decide +kernel
theorem d_X2_passQuietTicks_30 : Dc cX2_passQuietTicks 30 (.aload_n 0) 1 31 := by decide +kernel
theorem d_X2_passQuietTicks_31 : Dc cX2_passQuietTicks 31 (.getfield 24) 3 34 := by decide +kernel
theorem d_X2_passQuietTicks_34 : Dc cX2_passQuietTicks 34 (.iload_n 2) 1 35 := by decide +kernel
theorem d_X2_passQuietTicks_35 : Dc cX2_passQuietTicks 35 (.dup2) 1 36 := by decide +kernel
theorem d_X2_passQuietTicks_36 : Dc cX2_passQuietTicks 36 (.iaload) 1 37 := by decide +kernel
theorem d_X2_passQuietTicks_37 : Dc cX2_passQuietTicks 37 (.iload_n 1) 1 38 := by decide +kernel
theorem d_X2_passQuietTicks_38 : Dc cX2_passQuietTicks 38 (.isub) 1 39 := by decide +kernel
theorem d_X2_passQuietTicks_39 : Dc cX2_passQuietTicks 39 (.iastore) 1 40 := by decide +kernel
theorem d_X2_passQuietTicks_40 : Dc cX2_passQuietTicks 40 (.iinc 2 1) 3 43 := by decide +kernel
theorem d_X2_passQuietTicks_43 : Dq cX2_passQuietTicks 43 (.goto) 12 46 := by decide +kernel
theorem d_X2_passQuietTicks_46 : Dc cX2_passQuietTicks 46 (.return_) 1 47 := by decide +kernel
theorem d_X2_takeOut_0 : Dc cX2_takeOut 0 (.aload_n 0) 1 1 := by decide +kernel
theorem d_X2_takeOut_1 : Dc cX2_takeOut 1 (.getfield 21) 3 4 := by decide +kernel
theorem d_X2_takeOut_4 : Dc cX2_takeOut 4 (.iload_n 1) 1 5 := by decide +kernel
theorem d_X2_takeOut_5 : Dc cX2_takeOut 5 (.iaload) 1 6 := by decide +kernel
theorem d_X2_takeOut_6 : Dc cX2_takeOut 6 (.istore_n 2) 1 7 := by decide +kernel
theorem d_X2_takeOut_7 : Dc cX2_takeOut 7 (.aload_n 0) 1 8 := by decide +kernel
theorem d_X2_takeOut_8 : Dc cX2_takeOut 8 (.iload_n 1) 1 9 := by decide +kernel
theorem d_X2_takeOut_9 : Dc cX2_takeOut 9 (.invokevirtual 104) 3 12 := by decide +kernel
theorem d_X2_takeOut_12 : Dq cX2_takeOut 12 (.ifCond .eq) 25 15 := by decide +kernel
theorem d_X2_takeOut_15 : Dc cX2_takeOut 15 (.aload_n 0) 1 16 := by decide +kernel
theorem d_X2_takeOut_16 : Dc cX2_takeOut 16 (.getfield 36) 3 19 := by decide +kernel
theorem d_X2_takeOut_19 : Dc cX2_takeOut 19 (.iload_n 2) 1 20 := by decide +kernel
theorem d_X2_takeOut_20 : Dc cX2_takeOut 20 (.iconst 1) 1 21 := by decide +kernel
theorem d_X2_takeOut_21 : Dc cX2_takeOut 21 (.iastore) 1 22 := by decide +kernel
theorem d_X2_takeOut_22 : Dq cX2_takeOut 22 (.goto) 42 25 := by decide +kernel
theorem d_X2_takeOut_25 : Dc cX2_takeOut 25 (.aload_n 0) 1 26 := by decide +kernel
theorem d_X2_takeOut_26 : Dc cX2_takeOut 26 (.getfield 36) 3 29 := by decide +kernel
theorem d_X2_takeOut_29 : Dc cX2_takeOut 29 (.iload_n 2) 1 30 := by decide +kernel
theorem d_X2_takeOut_30 : Dc cX2_takeOut 30 (.iconst 2) 1 31 := by decide +kernel
theorem d_X2_takeOut_31 : Dc cX2_takeOut 31 (.iastore) 1 32 := by decide +kernel
theorem d_X2_takeOut_32 : Dc cX2_takeOut 32 (.aload_n 0) 1 33 := by decide +kernel
theorem d_X2_takeOut_33 : Dc cX2_takeOut 33 (.getfield 39) 3 36 := by decide +kernel
theorem d_X2_takeOut_36 : Dc cX2_takeOut 36 (.iload_n 2) 1 37 := by decide +kernel
theorem d_X2_takeOut_37 : Dc cX2_takeOut 37 (.aload_n 0) 1 38 := by decide +kernel
theorem d_X2_takeOut_38 : Dc cX2_takeOut 38 (.getfield 49) 3 41 := by decide +kernel
theorem d_X2_takeOut_41 : Dc cX2_takeOut 41 (.iastore) 1 42 := by decide +kernel
theorem d_X2_takeOut_42 : Dc cX2_takeOut 42 (.aload_n 0) 1 43 := by decide +kernel
theorem d_X2_takeOut_43 : Dc cX2_takeOut 43 (.getfield 21) 3 46 := by decide +kernel
theorem d_X2_takeOut_46 : Dc cX2_takeOut 46 (.iload_n 1) 1 47 := by decide +kernel
theorem d_X2_takeOut_47 : Dc cX2_takeOut 47 (.iconst (-1)) 1 48 := by decide +kernel
theorem d_X2_takeOut_48 : Dc cX2_takeOut 48 (.iastore) 1 49 := by decide +kernel
theorem d_X2_takeOut_49 : Dc cX2_takeOut 49 (.aload_n 0) 1 50 := by decide +kernel
theorem d_X2_takeOut_50 : Dc cX2_takeOut 50 (.getfield 24) 3 53 := by decide +kernel
theorem d_X2_takeOut_53 : Dc cX2_takeOut 53 (.iload_n 1) 1 54 := by decide +kernel
theorem d_X2_takeOut_54 : Dc cX2_takeOut 54 (.iconst 0) 1 55 := by decide +kernel
theorem d_X2_takeOut_55 : Dc cX2_takeOut 55 (.iastore) 1 56 := by decide +kernel
theorem d_X2_takeOut_56 : Dc cX2_takeOut 56 (.aload_n 0) 1 57 := by decide +kernel
theorem d_X2_takeOut_57 : Dc cX2_takeOut 57 (.getfield 27) 3 60 := by decide +kernel
theorem d_X2_takeOut_60 : Dc cX2_takeOut 60 (.iload_n 1) 1 61 := by decide +kernel
theorem d_X2_takeOut_61 : Dc cX2_takeOut 61 (.sipush 999) 3 64 := by decide +kernel
theorem d_X2_takeOut_64 : Dc cX2_takeOut 64 (.aload_n 0) 1 65 := by decide +kernel
theorem d_X2_takeOut_65 : Dc cX2_takeOut 65 (.getfield 27) 3 68 := by decide +kernel
theorem d_X2_takeOut_68 : Dc cX2_takeOut 68 (.iload_n 1) 1 69 := by decide +kernel
theorem d_X2_takeOut_69 : Dc cX2_takeOut 69 (.iaload) 1 70 := by decide +kernel
theorem d_X2_takeOut_70 : Dc cX2_takeOut 70 (.iconst 1) 1 71 := by decide +kernel
theorem d_X2_takeOut_71 : Dc cX2_takeOut 71 (.iadd) 1 72 := by decide +kernel
theorem d_X2_takeOut_72 : Dc cX2_takeOut 72 (.invokestatic 101) 3 75 := by decide +kernel
theorem d_X2_takeOut_75 : Dc cX2_takeOut 75 (.iastore) 1 76 := by decide +kernel
theorem d_X2_takeOut_76 : Dc cX2_takeOut 76 (.return_) 1 77 := by decide +kernel
theorem d_X2_putIn_0 : Dc cX2_putIn 0 (.aload_n 0) 1 1 := by decide +kernel
theorem d_X2_putIn_1 : Dc cX2_putIn 1 (.getfield 21) 3 4 := by decide +kernel
theorem d_X2_putIn_4 : Dc cX2_putIn 4 (.iload_n 1) 1 5 := by decide +kernel
theorem d_X2_putIn_5 : Dc cX2_putIn 5 (.iload_n 2) 1 6 := by decide +kernel
theorem d_X2_putIn_6 : Dc cX2_putIn 6 (.iastore) 1 7 := by decide +kernel
theorem d_X2_putIn_7 : Dc cX2_putIn 7 (.aload_n 0) 1 8 := by decide +kernel
theorem d_X2_putIn_8 : Dc cX2_putIn 8 (.getfield 36) 3 11 := by decide +kernel
theorem d_X2_putIn_11 : Dc cX2_putIn 11 (.iload_n 2) 1 12 := by decide +kernel
theorem d_X2_putIn_12 : Dc cX2_putIn 12 (.bipush 10) 2 14 := by decide +kernel
theorem d_X2_putIn_14 : Dc cX2_putIn 14 (.iload_n 1) 1 15 := by decide +kernel
theorem d_X2_putIn_15 : Dc cX2_putIn 15 (.iadd) 1 16 := by decide +kernel
theorem d_X2_putIn_16 : Dc cX2_putIn 16 (.iastore) 1 17 := by decide +kernel
theorem d_X2_putIn_17 : Dc cX2_putIn 17 (.aload_n 0) 1 18 := by decide +kernel
theorem d_X2_putIn_18 : Dc cX2_putIn 18 (.getfield 24) 3 21 := by decide +kernel
theorem d_X2_putIn_21 : Dc cX2_putIn 21 (.iload_n 1) 1 22 := by decide +kernel
theorem d_X2_putIn_22 : Dc cX2_putIn 22 (.aload_n 0) 1 23 := by decide +kernel
theorem d_X2_putIn_23 : Dc cX2_putIn 23 (.iload_n 1) 1 24 := by decide +kernel
theorem d_X2_putIn_24 : Dc cX2_putIn 24 (.iload_n 2) 1 25 := by decide +kernel
theorem d_X2_putIn_25 : Dc cX2_putIn 25 (.invokevirtual 107) 3 28 := by decide +kernel
theorem d_X2_putIn_28 : Dc cX2_putIn 28 (.iastore) 1 29 := by decide +kernel
theorem d_X2_putIn_29 : Dc cX2_putIn 29 (.return_) 1 30 := by decide +kernel
theorem d_X2_waitingFor_0 : Dc cX2_waitingFor 0 (.aload_n 0) 1 1 := by decide +kernel
theorem d_X2_waitingFor_1 : Dc cX2_waitingFor 1 (.iload_n 1) 1 2 := by decide +kernel
theorem d_X2_waitingFor_2 : Dc cX2_waitingFor 2 (.invokevirtual 104) 3 5 := by decide +kernel
theorem d_X2_waitingFor_5 : Dq cX2_waitingFor 5 (.ifCond .eq) 12 8 := by decide +kernel
theorem d_X2_waitingFor_8 : Dc cX2_waitingFor 8 (.iconst 0) 1 9 := by decide +kernel
theorem d_X2_waitingFor_9 : Dq cX2_waitingFor 9 (.goto) 13 12 := by decide +kernel
theorem d_X2_waitingFor_12 : Dc cX2_waitingFor 12 (.iconst 1) 1 13 := by decide +kernel
theorem d_X2_waitingFor_13 : Dc cX2_waitingFor 13 (.istore_n 2) 1 14 := by decide +kernel
theorem d_X2_waitingFor_14 : Dc cX2_waitingFor 14 (.aload_n 0) 1 15 := by decide +kernel
theorem d_X2_waitingFor_15 : Dc cX2_waitingFor 15 (.getfield 15) 3 18 := by decide +kernel
theorem d_X2_waitingFor_18 : Dc cX2_waitingFor 18 (.iload_n 1) 1 19 := by decide +kernel
theorem d_X2_waitingFor_19 : Dc cX2_waitingFor 19 (.iaload) 1 20 := by decide +kernel
theorem d_X2_waitingFor_20 : Dc cX2_waitingFor 20 (.istore_n 3) 1 21 := by decide +kernel
theorem d_X2_waitingFor_21 : Dc cX2_waitingFor 21 (.iconst 0) 1 22 := by decide +kernel
theorem d_X2_waitingFor_22 : Dc cX2_waitingFor 22 (.istore 4) 2 24 := by decide +kernel
theorem d_X2_waitingFor_24 : Dc cX2_waitingFor 24 (.iload 4) 2 26 := by decide +kernel
theorem d_X2_waitingFor_26 : Dc cX2_waitingFor 26 (.aload_n 0) 1 27 := by decide +kernel
theorem d_X2_waitingFor_27 : Dc cX2_waitingFor 27 (.getfield 55) 3 30 := by decide +kernel
theorem d_X2_waitingFor_30 : Dq cX2_waitingFor 30 (.if_icmp .ge) 73 33 := by decide +kernel
theorem d_X2_waitingFor_33 : Dc cX2_waitingFor 33 (.aload_n 0) 1 34 := by decide +kernel
theorem d_X2_waitingFor_34 : Dc cX2_waitingFor 34 (.getfield 42) 3 37 := by decide +kernel
theorem d_X2_waitingFor_37 : Dc cX2_waitingFor 37 (.iload 4) 2 39 := by decide +kernel
theorem d_X2_waitingFor_39 : Dc cX2_waitingFor 39 (.iaload) 1 40 := by decide +kernel
theorem d_X2_waitingFor_40 : Dc cX2_waitingFor 40 (.istore 5) 2 42 := by decide +kernel
theorem d_X2_waitingFor_42 : Dc cX2_waitingFor 42 (.aload_n 0) 1 43 := by decide +kernel
theorem d_X2_waitingFor_43 : Dc cX2_waitingFor 43 (.getfield 36) 3 46 := by decide +kernel
theorem d_X2_waitingFor_46 : Dc cX2_waitingFor 46 (.iload 5) 2 48 := by decide +kernel
theorem d_X2_waitingFor_48 : Dc cX2_waitingFor 48 (.iaload) 1 49 := by decide +kernel
theorem d_X2_waitingFor_49 : Dc cX2_waitingFor 49 (.iload_n 2) 1 50 := by decide +kernel
theorem d_X2_waitingFor_50 : Dq cX2_waitingFor 50 (.if_icmp .ne) 67 53 := by decide +kernel
theorem d_X2_waitingFor_53 : Dc cX2_waitingFor 53 (.aload_n 0) 1 54 := by decide +kernel
theorem d_X2_waitingFor_54 : Dc cX2_waitingFor 54 (.getfield 30) 3 57 := by decide +kernel
theorem d_X2_waitingFor_57 : Dc cX2_waitingFor 57 (.iload 5) 2 59 := by decide +kernel
theorem d_X2_waitingFor_59 : Dc cX2_waitingFor 59 (.iaload) 1 60 := by decide +kernel
theorem d_X2_waitingFor_60 : Dc cX2_waitingFor 60 (.iload_n 3) 1 61 := by decide +kernel
theorem d_X2_waitingFor_61 : Dq cX2_waitingFor 61 (.if_icmp .gt) 67 64 := by decide +kernel
theorem d_X2_waitingFor_64 : Dc cX2_waitingFor 64 (.iload 5) 2 66 := by decide +kernel
theorem d_X2_waitingFor_66 : Dc cX2_waitingFor 66 (.ireturn) 1 67 := by decide +kernel
theorem d_X2_waitingFor_67 : Dc cX2_waitingFor 67 (.iinc 4 1) 3 70 := by decide +kernel
theorem d_X2_waitingFor_70 : Dq cX2_waitingFor 70 (.goto) 24 73 := by decide +kernel
theorem d_X2_waitingFor_73 : Dc cX2_waitingFor 73 (.iconst (-1)) 1 74 := by decide +kernel
theorem d_X2_waitingFor_74 : Dc cX2_waitingFor 74 (.ireturn) 1 75 := by decide +kernel
theorem d_X2_draw_0 : Dc cX2_draw 0 (.aload_n 0) 1 1 := by decide +kernel
theorem d_X2_draw_1 : Dc cX2_draw 1 (.getfield 55) 3 4 := by decide +kernel
theorem d_X2_draw_4 : Dq cX2_draw 4 (.ifCond .eq) 14 7 := by decide +kernel
theorem d_X2_draw_7 : Dc cX2_draw 7 (.aload_n 0) 1 8 := by decide +kernel
theorem d_X2_draw_8 : Dc cX2_draw 8 (.getfield 52) 3 11 := by decide +kernel
theorem d_X2_draw_11 : Dq cX2_draw 11 (.ifCond .ne) 15 14 := by decide +kernel
theorem d_X2_draw_14 : Dc cX2_draw 14 (.return_) 1 15 := by decide +kernel
theorem d_X2_draw_15 : Dc cX2_draw 15 (.iload_n 1) 1 16 := by decide +kernel
theorem d_X2_draw_16 : Dc cX2_draw 16 (.aload_n 0) 1 17 := by decide +kernel
theorem d_X2_draw_17 : Dc cX2_draw 17 (.getfield 55) 3 20 := by decide +kernel
theorem d_X2_draw_20 : Dc cX2_draw 20 (.irem) 1 21 := by decide +kernel
theorem d_X2_draw_21 : Dc cX2_draw 21 (.istore_n 2) 1 22 := by decide +kernel
theorem d_X2_draw_22 : Dc cX2_draw 22 (.aload_n 0) 1 23 := by decide +kernel
theorem d_X2_draw_23 : Dc cX2_draw 23 (.getfield 36) 3 26 := by decide +kernel
theorem d_X2_draw_26 : Dc cX2_draw 26 (.iload_n 2) 1 27 := by decide +kernel
theorem d_X2_draw_27 : Dc cX2_draw 27 (.iaload) 1 28 := by decide +kernel
theorem d_X2_draw_28 : Dc cX2_draw 28 (.iconst 2) 1 29 := by decide +kernel
theorem d_X2_draw_29 : Dq cX2_draw 29 (.if_icmp .ne) 66 32 := by decide +kernel
theorem d_X2_draw_32 : Dc cX2_draw 32 (.aload_n 0) 1 33 := by decide +kernel
theorem d_X2_draw_33 : Dc cX2_draw 33 (.iload_n 2) 1 34 := by decide +kernel
theorem d_X2_draw_34 : Dc cX2_draw 34 (.iload_n 1) 1 35 := by decide +kernel
theorem d_X2_draw_35 : Dc cX2_draw 35 (.bipush 9) 2 37 := by decide +kernel
theorem d_X2_draw_37 : Dc cX2_draw 37 (.irem) 1 38 := by decide +kernel
theorem d_X2_draw_38 : Dc cX2_draw 38 (.iconst 1) 1 39 := by decide +kernel
theorem d_X2_draw_39 : Dc cX2_draw 39 (.iadd) 1 40 := by decide +kernel
theorem d_X2_draw_40 : Dc cX2_draw 40 (.invokevirtual 67) 3 43 := by decide +kernel
theorem d_X2_draw_43 : Dc cX2_draw 43 (.aload_n 0) 1 44 := by decide +kernel
theorem d_X2_draw_44 : Dc cX2_draw 44 (.getfield 33) 3 47 := by decide +kernel
theorem d_X2_draw_47 : Dc cX2_draw 47 (.iload_n 2) 1 48 := by decide +kernel
theorem d_X2_draw_48 : Dc cX2_draw 48 (.bipush 99) 2 50 := by decide +kernel
theorem d_X2_draw_50 : Dc cX2_draw 50 (.aload_n 0) 1 51 := by decide +kernel
theorem d_X2_draw_51 : Dc cX2_draw 51 (.getfield 49) 3 54 := by decide +kernel
theorem d_X2_draw_54 : Dc cX2_draw 54 (.iload_n 1) 1 55 := by decide +kernel
theorem d_X2_draw_55 : Dc cX2_draw 55 (.bipush 20) 2 57 := by decide +kernel
theorem d_X2_draw_57 : Dc cX2_draw 57 (.irem) 1 58 := by decide +kernel
theorem d_X2_draw_58 : Dc cX2_draw 58 (.iadd) 1 59 := by decide +kernel
theorem d_X2_draw_59 : Dc cX2_draw 59 (.invokestatic 101) 3 62 := by decide +kernel
theorem d_X2_draw_62 : Dc cX2_draw 62 (.iastore) 1 63 := by decide +kernel
theorem d_X2_draw_63 : Dq cX2_draw 63 (.goto) 82 66 := by decide +kernel
theorem d_X2_draw_66 : Dc cX2_draw 66 (.iload_n 1) 1 67 := by decide +kernel
theorem d_X2_draw_67 : Dc cX2_draw 67 (.iconst 3) 1 68 := by decide +kernel
theorem d_X2_draw_68 : Dc cX2_draw 68 (.irem) 1 69 := by decide +kernel
theorem d_X2_draw_69 : Dq cX2_draw 69 (.ifCond .ne) 82 72 := by decide +kernel
theorem d_X2_draw_72 : Dc cX2_draw 72 (.aload_n 0) 1 73 := by decide +kernel
theorem d_X2_draw_73 : Dc cX2_draw 73 (.iload_n 1) 1 74 := by decide +kernel
theorem d_X2_draw_74 : Dc cX2_draw 74 (.aload_n 0) 1 75 := by decide +kernel
theorem d_X2_draw_75 : Dc cX2_draw 75 (.getfield 52) 3 78 := by decide +kernel
theorem d_X2_draw_78 : Dc cX2_draw 78 (.irem) 1 79 := by decide +kernel
theorem d_X2_draw_79 : Dc cX2_draw 79 (.invokevirtual 110) 3 82 := by decide +kernel
theorem d_X2_draw_82 : Dc cX2_draw 82 (.return_) 1 83 := by decide +kernel
theorem d_X2_loadIn_0 : Dc cX2_loadIn 0 (.aload_n 0) 1 1 := by decide +kernel
theorem d_X2_loadIn_1 : Dc cX2_loadIn 1 (.getfield 21) 3 4 := by decide +kernel
theorem d_X2_loadIn_4 : Dc cX2_loadIn 4 (.iload_n 1) 1 5 := by decide +kernel
theorem d_X2_loadIn_5 : Dc cX2_loadIn 5 (.iaload) 1 6 := by decide +kernel
theorem d_X2_loadIn_6 : Dc cX2_loadIn 6 (.iconst (-1)) 1 7 := by decide +kernel
theorem d_X2_loadIn_7 : Dq cX2_loadIn 7 (.if_icmp .ne) 15 10 := by decide +kernel
theorem d_X2_loadIn_10 : Dc cX2_loadIn 10 (.ldc 113) 2 12 := by decide +kernel
theorem d_X2_loadIn_12 : Dq cX2_loadIn 12 (.goto) 21 15 := by decide +kernel
theorem d_X2_loadIn_15 : Dc cX2_loadIn 15 (.aload_n 0) 1 16 := by decide +kernel
theorem d_X2_loadIn_16 : Dc cX2_loadIn 16 (.getfield 21) 3 19 := by decide +kernel
theorem d_X2_loadIn_19 : Dc cX2_loadIn 19 (.iload_n 1) 1 20 := by decide +kernel
theorem d_X2_loadIn_20 : Dc cX2_loadIn 20 (.iaload) 1 21 := by decide +kernel
theorem d_X2_loadIn_21 : Dc cX2_loadIn 21 (.ireturn) 1 22 := by decide +kernel
theorem d_X2_isWashed_0 : Dc cX2_isWashed 0 (.aload_n 0) 1 1 := by decide +kernel
theorem d_X2_isWashed_1 : Dc cX2_isWashed 1 (.getfield 36) 3 4 := by decide +kernel
theorem d_X2_isWashed_4 : Dc cX2_isWashed 4 (.iload_n 1) 1 5 := by decide +kernel
theorem d_X2_isWashed_5 : Dc cX2_isWashed 5 (.iaload) 1 6 := by decide +kernel
theorem d_X2_isWashed_6 : Dc cX2_isWashed 6 (.bipush 10) 2 8 := by decide +kernel
theorem d_X2_isWashed_8 : Dq cX2_isWashed 8 (.if_icmp .lt) 35 11 := by decide +kernel
theorem d_X2_isWashed_11 : Dc cX2_isWashed 11 (.aload_n 0) 1 12 := by decide +kernel
theorem d_X2_isWashed_12 : Dc cX2_isWashed 12 (.aload_n 0) 1 13 := by decide +kernel
theorem d_X2_isWashed_13 : Dc cX2_isWashed 13 (.getfield 36) 3 16 := by decide +kernel
theorem d_X2_isWashed_16 : Dc cX2_isWashed 16 (.iload_n 1) 1 17 := by decide +kernel
theorem d_X2_isWashed_17 : Dc cX2_isWashed 17 (.iaload) 1 18 := by decide +kernel
theorem d_X2_isWashed_18 : Dc cX2_isWashed 18 (.bipush 10) 2 20 := by decide +kernel
theorem d_X2_isWashed_20 : Dc cX2_isWashed 20 (.isub) 1 21 := by decide +kernel
theorem d_X2_isWashed_21 : Dc cX2_isWashed 21 (.invokevirtual 104) 3 24 := by decide +kernel
theorem d_X2_isWashed_24 : Dq cX2_isWashed 24 (.ifCond .ne) 31 27 := by decide +kernel
theorem d_X2_isWashed_27 : Dc cX2_isWashed 27 (.iconst 1) 1 28 := by decide +kernel
theorem d_X2_isWashed_28 : Dq cX2_isWashed 28 (.goto) 49 31 := by decide +kernel
theorem d_X2_isWashed_31 : Dc cX2_isWashed 31 (.iconst 0) 1 32 := by decide +kernel
theorem d_X2_isWashed_32 : Dq cX2_isWashed 32 (.goto) 49 35 := by decide +kernel
theorem d_X2_isWashed_35 : Dc cX2_isWashed 35 (.aload_n 0) 1 36 := by decide +kernel
theorem d_X2_isWashed_36 : Dc cX2_isWashed 36 (.getfield 36) 3 39 := by decide +kernel
theorem d_X2_isWashed_39 : Dc cX2_isWashed 39 (.iload_n 1) 1 40 := by decide +kernel
theorem d_X2_isWashed_40 : Dc cX2_isWashed 40 (.iaload) 1 41 := by decide +kernel
theorem d_X2_isWashed_41 : Dq cX2_isWashed 41 (.ifCond .eq) 48 44 := by decide +kernel
theorem d_X2_isWashed_44 : Dc cX2_isWashed 44 (.iconst 1) 1 45 := by decide +kernel
theorem d_X2_isWashed_45 : Dq cX2_isWashed 45 (.goto) 49 48 := by decide +kernel
theorem d_X2_isWashed_48 : Dc cX2_isWashed 48 (.iconst 0) 1 49 := by decide +kernel
theorem d_X2_isWashed_49 : Dc cX2_isWashed 49 (.ireturn) 1 50 := by decide +kernel
theorem d_X2_lateOf_0 : Dc cX2_lateOf 0 (.aload_n 0) 1 1 := by decide +kernel
theorem d_X2_lateOf_1 : Dc cX2_lateOf 1 (.getfield 36) 3 4 := by decide +kernel
theorem d_X2_lateOf_4 : Dc cX2_lateOf 4 (.iload_n 1) 1 5 := by decide +kernel
theorem d_X2_lateOf_5 : Dc cX2_lateOf 5 (.iaload) 1 6 := by decide +kernel
theorem d_X2_lateOf_6 : Dc cX2_lateOf 6 (.iconst 2) 1 7 := by decide +kernel
theorem d_X2_lateOf_7 : Dq cX2_lateOf 7 (.if_icmp .ne) 19 10 := by decide +kernel
theorem d_X2_lateOf_10 : Dc cX2_lateOf 10 (.aload_n 0) 1 11 := by decide +kernel
theorem d_X2_lateOf_11 : Dc cX2_lateOf 11 (.getfield 39) 3 14 := by decide +kernel
theorem d_X2_lateOf_14 : Dc cX2_lateOf 14 (.iload_n 1) 1 15 := by decide +kernel
theorem d_X2_lateOf_15 : Dc cX2_lateOf 15 (.iaload) 1 16 := by decide +kernel
theorem d_X2_lateOf_16 : Dq cX2_lateOf 16 (.goto) 23 19 := by decide +kernel
theorem d_X2_lateOf_19 : Dc cX2_lateOf 19 (.aload_n 0) 1 20 := by decide +kernel
theorem d_X2_lateOf_20 : Dc cX2_lateOf 20 (.getfield 49) 3 23 := by decide +kernel
theorem d_X2_lateOf_23 : Dc cX2_lateOf 23 (.istore_n 2) 1 24 := by decide +kernel
theorem d_X2_lateOf_24 : Dc cX2_lateOf 24 (.iconst 0) 1 25 := by decide +kernel
theorem d_X2_lateOf_25 : Dc cX2_lateOf 25 (.iload_n 2) 1 26 := by decide +kernel
theorem d_X2_lateOf_26 : Dc cX2_lateOf 26 (.aload_n 0) 1 27 := by decide +kernel
theorem d_X2_lateOf_27 : Dc cX2_lateOf 27 (.getfield 33) 3 30 := by decide +kernel
theorem d_X2_lateOf_30 : Dc cX2_lateOf 30 (.iload_n 1) 1 31 := by decide +kernel
theorem d_X2_lateOf_31 : Dc cX2_lateOf 31 (.iaload) 1 32 := by decide +kernel
theorem d_X2_lateOf_32 : Dc cX2_lateOf 32 (.isub) 1 33 := by decide +kernel
theorem d_X2_lateOf_33 : Dc cX2_lateOf 33 (.invokestatic 71) 3 36 := by decide +kernel
theorem d_X2_lateOf_36 : Dc cX2_lateOf 36 (.ireturn) 1 37 := by decide +kernel
theorem d_X2_lateOfAll_0 : Dc cX2_lateOfAll 0 (.iconst 0) 1 1 := by decide +kernel
theorem d_X2_lateOfAll_1 : Dc cX2_lateOfAll 1 (.istore_n 1) 1 2 := by decide +kernel
theorem d_X2_lateOfAll_2 : Dc cX2_lateOfAll 2 (.iconst 0) 1 3 := by decide +kernel
theorem d_X2_lateOfAll_3 : Dc cX2_lateOfAll 3 (.istore_n 2) 1 4 := by decide +kernel
theorem d_X2_lateOfAll_4 : Dc cX2_lateOfAll 4 (.iload_n 2) 1 5 := by decide +kernel
theorem d_X2_lateOfAll_5 : Dc cX2_lateOfAll 5 (.aload_n 0) 1 6 := by decide +kernel
theorem d_X2_lateOfAll_6 : Dc cX2_lateOfAll 6 (.getfield 55) 3 9 := by decide +kernel
theorem d_X2_lateOfAll_9 : Dq cX2_lateOfAll 9 (.if_icmp .ge) 26 12 := by decide +kernel
theorem d_X2_lateOfAll_12 : Dc cX2_lateOfAll 12 (.iload_n 1) 1 13 := by decide +kernel
theorem d_X2_lateOfAll_13 : Dc cX2_lateOfAll 13 (.aload_n 0) 1 14 := by decide +kernel
theorem d_X2_lateOfAll_14 : Dc cX2_lateOfAll 14 (.iload_n 2) 1 15 := by decide +kernel
theorem d_X2_lateOfAll_15 : Dc cX2_lateOfAll 15 (.invokevirtual 114) 3 18 := by decide +kernel
theorem d_X2_lateOfAll_18 : Dc cX2_lateOfAll 18 (.iadd) 1 19 := by decide +kernel
theorem d_X2_lateOfAll_19 : Dc cX2_lateOfAll 19 (.istore_n 1) 1 20 := by decide +kernel
theorem d_X2_lateOfAll_20 : Dc cX2_lateOfAll 20 (.iinc 2 1) 3 23 := by decide +kernel
theorem d_X2_lateOfAll_23 : Dq cX2_lateOfAll 23 (.goto) 4 26 := by decide +kernel
theorem d_X2_lateOfAll_26 : Dc cX2_lateOfAll 26 (.iload_n 1) 1 27 := by decide +kernel
theorem d_X2_lateOfAll_27 : Dc cX2_lateOfAll 27 (.ireturn) 1 28 := by decide +kernel
theorem d_X2_whichAre_0 : Dc cX2_whichAre 0 (.iconst 0) 1 1 := by decide +kernel
theorem d_X2_whichAre_1 : Dc cX2_whichAre 1 (.istore_n 2) 1 2 := by decide +kernel
theorem d_X2_whichAre_2 : Dc cX2_whichAre 2 (.iconst 0) 1 3 := by decide +kernel
theorem d_X2_whichAre_3 : Dc cX2_whichAre 3 (.istore_n 3) 1 4 := by decide +kernel
theorem d_X2_whichAre_4 : Dc cX2_whichAre 4 (.iload_n 3) 1 5 := by decide +kernel
theorem d_X2_whichAre_5 : Dc cX2_whichAre 5 (.aload_n 0) 1 6 := by decide +kernel
theorem d_X2_whichAre_6 : Dc cX2_whichAre 6 (.getfield 55) 3 9 := by decide +kernel
theorem d_X2_whichAre_9 : Dq cX2_whichAre 9 (.if_icmp .ge) 34 12 := by decide +kernel
theorem d_X2_whichAre_12 : Dc cX2_whichAre 12 (.aload_n 0) 1 13 := by decide +kernel
theorem d_X2_whichAre_13 : Dc cX2_whichAre 13 (.getfield 36) 3 16 := by decide +kernel
theorem d_X2_whichAre_16 : Dc cX2_whichAre 16 (.iload_n 3) 1 17 := by decide +kernel
theorem d_X2_whichAre_17 : Dc cX2_whichAre 17 (.iaload) 1 18 := by decide +kernel
theorem d_X2_whichAre_18 : Dc cX2_whichAre 18 (.iload_n 1) 1 19 := by decide +kernel
theorem d_X2_whichAre_19 : Dq cX2_whichAre 19 (.if_icmp .ne) 28 22 := by decide +kernel
theorem d_X2_whichAre_22 : Dc cX2_whichAre 22 (.iload_n 2) 1 23 := by decide +kernel
theorem d_X2_whichAre_23 : Dc cX2_whichAre 23 (.iconst 1) 1 24 := by decide +kernel
theorem d_X2_whichAre_24 : Dc cX2_whichAre 24 (.iload_n 3) 1 25 := by decide +kernel
theorem d_X2_whichAre_25 : Dc cX2_whichAre 25 (.ishl) 1 26 := by decide +kernel
theorem d_X2_whichAre_26 : Dc cX2_whichAre 26 (.ior) 1 27 := by decide +kernel
theorem d_X2_whichAre_27 : Dc cX2_whichAre 27 (.istore_n 2) 1 28 := by decide +kernel
theorem d_X2_whichAre_28 : Dc cX2_whichAre 28 (.iinc 3 1) 3 31 := by decide +kernel
theorem d_X2_whichAre_31 : Dq cX2_whichAre 31 (.goto) 4 34 := by decide +kernel
theorem d_X2_whichAre_34 : Dc cX2_whichAre 34 (.iload_n 2) 1 35 := by decide +kernel
theorem d_X2_whichAre_35 : Dc cX2_whichAre 35 (.ireturn) 1 36 := by decide +kernel
theorem d_X2_howManyAre_0 : Dc cX2_howManyAre 0 (.aload_n 0) 1 1 := by decide +kernel
theorem d_X2_howManyAre_1 : Dc cX2_howManyAre 1 (.iload_n 1) 1 2 := by decide +kernel
theorem d_X2_howManyAre_2 : Dc cX2_howManyAre 2 (.invokevirtual 117) 3 5 := by decide +kernel
theorem d_X2_howManyAre_5 : Dc cX2_howManyAre 5 (.invokestatic 120) 3 8 := by decide +kernel
theorem d_X2_howManyAre_8 : Dc cX2_howManyAre 8 (.ireturn) 1 9 := by decide +kernel
theorem d_X2_isAllDry_0 : Dc cX2_isAllDry 0 (.aload_n 0) 1 1 := by decide +kernel
theorem d_X2_isAllDry_1 : Dc cX2_isAllDry 1 (.iconst 2) 1 2 := by decide +kernel
theorem d_X2_isAllDry_2 : Dc cX2_isAllDry 2 (.invokevirtual 125) 3 5 := by decide +kernel
theorem d_X2_isAllDry_5 : Dc cX2_isAllDry 5 (.aload_n 0) 1 6 := by decide +kernel
theorem d_X2_isAllDry_6 : Dc cX2_isAllDry 6 (.getfield 55) 3 9 := by decide +kernel
theorem d_X2_isAllDry_9 : Dq cX2_isAllDry 9 (.if_icmp .ne) 16 12 := by decide +kernel
theorem d_X2_isAllDry_12 : Dc cX2_isAllDry 12 (.iconst 1) 1 13 := by decide +kernel
theorem d_X2_isAllDry_13 : Dq cX2_isAllDry 13 (.goto) 17 16 := by decide +kernel
theorem d_X2_isAllDry_16 : Dc cX2_isAllDry 16 (.iconst 0) 1 17 := by decide +kernel
theorem d_X2_isAllDry_17 : Dc cX2_isAllDry 17 (.ireturn) 1 18 := by decide +kernel
theorem d_X2_busyBits_0 : Dc cX2_busyBits 0 (.iconst 0) 1 1 := by decide +kernel
theorem d_X2_busyBits_1 : Dc cX2_busyBits 1 (.istore_n 1) 1 2 := by decide +kernel
theorem d_X2_busyBits_2 : Dc cX2_busyBits 2 (.iconst 0) 1 3 := by decide +kernel
theorem d_X2_busyBits_3 : Dc cX2_busyBits 3 (.istore_n 2) 1 4 := by decide +kernel
theorem d_X2_busyBits_4 : Dc cX2_busyBits 4 (.iload_n 2) 1 5 := by decide +kernel
theorem d_X2_busyBits_5 : Dc cX2_busyBits 5 (.aload_n 0) 1 6 := by decide +kernel
theorem d_X2_busyBits_6 : Dc cX2_busyBits 6 (.getfield 52) 3 9 := by decide +kernel
theorem d_X2_busyBits_9 : Dq cX2_busyBits 9 (.if_icmp .ge) 34 12 := by decide +kernel
theorem d_X2_busyBits_12 : Dc cX2_busyBits 12 (.aload_n 0) 1 13 := by decide +kernel
theorem d_X2_busyBits_13 : Dc cX2_busyBits 13 (.getfield 21) 3 16 := by decide +kernel
theorem d_X2_busyBits_16 : Dc cX2_busyBits 16 (.iload_n 2) 1 17 := by decide +kernel
theorem d_X2_busyBits_17 : Dc cX2_busyBits 17 (.iaload) 1 18 := by decide +kernel
theorem d_X2_busyBits_18 : Dc cX2_busyBits 18 (.iconst (-1)) 1 19 := by decide +kernel
theorem d_X2_busyBits_19 : Dq cX2_busyBits 19 (.if_icmp .eq) 28 22 := by decide +kernel
theorem d_X2_busyBits_22 : Dc cX2_busyBits 22 (.iload_n 1) 1 23 := by decide +kernel
theorem d_X2_busyBits_23 : Dc cX2_busyBits 23 (.iconst 1) 1 24 := by decide +kernel
theorem d_X2_busyBits_24 : Dc cX2_busyBits 24 (.iload_n 2) 1 25 := by decide +kernel
theorem d_X2_busyBits_25 : Dc cX2_busyBits 25 (.ishl) 1 26 := by decide +kernel
theorem d_X2_busyBits_26 : Dc cX2_busyBits 26 (.ior) 1 27 := by decide +kernel
theorem d_X2_busyBits_27 : Dc cX2_busyBits 27 (.istore_n 1) 1 28 := by decide +kernel
theorem d_X2_busyBits_28 : Dc cX2_busyBits 28 (.iinc 2 1) 3 31 := by decide +kernel
theorem d_X2_busyBits_31 : Dq cX2_busyBits 31 (.goto) 4 34 := by decide +kernel
theorem d_X2_busyBits_34 : Dc cX2_busyBits 34 (.iload_n 1) 1 35 := by decide +kernel
theorem d_X2_busyBits_35 : Dc cX2_busyBits 35 (.ireturn) 1 36 := by decide +kernel
theorem d_X2_doneOfAll_0 : Dc cX2_doneOfAll 0 (.iconst 0) 1 1 := by decide +kernel
theorem d_X2_doneOfAll_1 : Dc cX2_doneOfAll 1 (.istore_n 1) 1 2 := by decide +kernel
theorem d_X2_doneOfAll_2 : Dc cX2_doneOfAll 2 (.iconst 0) 1 3 := by decide +kernel
theorem d_X2_doneOfAll_3 : Dc cX2_doneOfAll 3 (.istore_n 2) 1 4 := by decide +kernel
theorem d_X2_doneOfAll_4 : Dc cX2_doneOfAll 4 (.iload_n 2) 1 5 := by decide +kernel
theorem d_X2_doneOfAll_5 : Dc cX2_doneOfAll 5 (.aload_n 0) 1 6 := by decide +kernel
theorem d_X2_doneOfAll_6 : Dc cX2_doneOfAll 6 (.getfield 52) 3 9 := by decide +kernel
theorem d_X2_doneOfAll_9 : Dq cX2_doneOfAll 9 (.if_icmp .ge) 27 12 := by decide +kernel
theorem d_X2_doneOfAll_12 : Dc cX2_doneOfAll 12 (.iload_n 1) 1 13 := by decide +kernel
theorem d_X2_doneOfAll_13 : Dc cX2_doneOfAll 13 (.aload_n 0) 1 14 := by decide +kernel
theorem d_X2_doneOfAll_14 : Dc cX2_doneOfAll 14 (.getfield 27) 3 17 := by decide +kernel
theorem d_X2_doneOfAll_17 : Dc cX2_doneOfAll 17 (.iload_n 2) 1 18 := by decide +kernel
theorem d_X2_doneOfAll_18 : Dc cX2_doneOfAll 18 (.iaload) 1 19 := by decide +kernel
theorem d_X2_doneOfAll_19 : Dc cX2_doneOfAll 19 (.iadd) 1 20 := by decide +kernel
theorem d_X2_doneOfAll_20 : Dc cX2_doneOfAll 20 (.istore_n 1) 1 21 := by decide +kernel
theorem d_X2_doneOfAll_21 : Dc cX2_doneOfAll 21 (.iinc 2 1) 3 24 := by decide +kernel
theorem d_X2_doneOfAll_24 : Dq cX2_doneOfAll 24 (.goto) 4 27 := by decide +kernel
theorem d_X2_doneOfAll_27 : Dc cX2_doneOfAll 27 (.iload_n 1) 1 28 := by decide +kernel
theorem d_X2_doneOfAll_28 : Dc cX2_doneOfAll 28 (.ireturn) 1 29 := by decide +kernel
theorem d_X2_sizeOfAll_0 : Dc cX2_sizeOfAll 0 (.iconst 0) 1 1 := by decide +kernel
theorem d_X2_sizeOfAll_1 : Dc cX2_sizeOfAll 1 (.istore_n 2) 1 2 := by decide +kernel
theorem d_X2_sizeOfAll_2 : Dc cX2_sizeOfAll 2 (.iconst 0) 1 3 := by decide +kernel
theorem d_X2_sizeOfAll_3 : Dc cX2_sizeOfAll 3 (.istore_n 3) 1 4 := by decide +kernel
theorem d_X2_sizeOfAll_4 : Dc cX2_sizeOfAll 4 (.iload_n 3) 1 5 := by decide +kernel
theorem d_X2_sizeOfAll_5 : Dc cX2_sizeOfAll 5 (.aload_n 0) 1 6 := by decide +kernel
theorem d_X2_sizeOfAll_6 : Dc cX2_sizeOfAll 6 (.getfield 55) 3 9 := by decide +kernel
theorem d_X2_sizeOfAll_9 : Dq cX2_sizeOfAll 9 (.if_icmp .ge) 33 12 := by decide +kernel
theorem d_X2_sizeOfAll_12 : Dc cX2_sizeOfAll 12 (.iload_n 2) 1 13 := by decide +kernel
theorem d_X2_sizeOfAll_13 : Dc cX2_sizeOfAll 13 (.iload_n 1) 1 14 := by decide +kernel
theorem d_X2_sizeOfAll_14 : Dc cX2_sizeOfAll 14 (.iload_n 3) 1 15 := by decide +kernel
theorem d_X2_sizeOfAll_15 : Dc cX2_sizeOfAll 15 (.ishr) 1 16 := by decide +kernel
theorem d_X2_sizeOfAll_16 : Dc cX2_sizeOfAll 16 (.iconst 1) 1 17 := by decide +kernel
theorem d_X2_sizeOfAll_17 : Dc cX2_sizeOfAll 17 (.iand) 1 18 := by decide +kernel
theorem d_X2_sizeOfAll_18 : Dc cX2_sizeOfAll 18 (.aload_n 0) 1 19 := by decide +kernel
theorem d_X2_sizeOfAll_19 : Dc cX2_sizeOfAll 19 (.getfield 30) 3 22 := by decide +kernel
theorem d_X2_sizeOfAll_22 : Dc cX2_sizeOfAll 22 (.iload_n 3) 1 23 := by decide +kernel
theorem d_X2_sizeOfAll_23 : Dc cX2_sizeOfAll 23 (.iaload) 1 24 := by decide +kernel
theorem d_X2_sizeOfAll_24 : Dc cX2_sizeOfAll 24 (.imul) 1 25 := by decide +kernel
theorem d_X2_sizeOfAll_25 : Dc cX2_sizeOfAll 25 (.iadd) 1 26 := by decide +kernel
theorem d_X2_sizeOfAll_26 : Dc cX2_sizeOfAll 26 (.istore_n 2) 1 27 := by decide +kernel
theorem d_X2_sizeOfAll_27 : Dc cX2_sizeOfAll 27 (.iinc 3 1) 3 30 := by decide +kernel
theorem d_X2_sizeOfAll_30 : Dq cX2_sizeOfAll 30 (.goto) 4 33 := by decide +kernel
theorem d_X2_sizeOfAll_33 : Dc cX2_sizeOfAll 33 (.iload_n 2) 1 34 := by decide +kernel
theorem d_X2_sizeOfAll_34 : Dc cX2_sizeOfAll 34 (.ireturn) 1 35 := by decide +kernel
theorem d_X3_init_0 : Dc cX3_init 0 (.aload_n 0) 1 1 := by decide +kernel
theorem d_X3_init_1 : Dc cX3_init 1 (.invokespecial 3) 3 4 := by decide +kernel
theorem d_X3_init_4 : Dc cX3_init 4 (.aload_n 0) 1 5 := by decide +kernel
theorem d_X3_init_5 : Dc cX3_init 5 (.bipush 6) 2 7 := by decide +kernel
theorem d_X3_init_7 : Dc cX3_init 7 (.newarray .int) 2 9 := by decide +kernel
theorem d_X3_init_9 : Dc cX3_init 9 (.putfield 9) 3 12 := by decide +kernel
theorem d_X3_init_12 : Dc cX3_init 12 (.aload_n 0) 1 13 := by decide +kernel
theorem d_X3_init_13 : Dc cX3_init 13 (.bipush 6) 2 15 := by decide +kernel
theorem d_X3_init_15 : Dc cX3_init 15 (.newarray .int) 2 17 := by decide +kernel
theorem d_X3_init_17 : Dc cX3_init 17 (.putfield 15) 3 20 := by decide +kernel
theorem d_X3_init_20 : Dc cX3_init 20 (.return_) 1 21 := by decide +kernel
theorem d_X3_forget_0 : Dc cX3_forget 0 (.aload_n 0) 1 1 := by decide +kernel
theorem d_X3_forget_1 : Dc cX3_forget 1 (.iconst 0) 1 2 := by decide +kernel
theorem d_X3_forget_2 : Dc cX3_forget 2 (.putfield 18) 3 5 := by decide +kernel
theorem d_X3_forget_5 : Dc cX3_forget 5 (.return_) 1 6 := by decide +kernel
theorem d_X3_find_0 : Dc cX3_find 0 (.aload_n 0) 1 1 := by decide +kernel
theorem d_X3_find_1 : Dc cX3_find 1 (.getfield 18) 3 4 := by decide +kernel
theorem d_X3_find_4 : Dc cX3_find 4 (.iload_n 3) 1 5 := by decide +kernel
theorem d_X3_find_5 : Dq cX3_find 5 (.if_icmp .ne) 9 8 := by decide +kernel
theorem d_X3_find_8 : Dc cX3_find 8 (.return_) 1 9 := by decide +kernel
theorem d_X3_find_9 : Dc cX3_find 9 (.aload_n 1) 1 10 := by decide +kernel
theorem d_X3_find_10 : Dc cX3_find 10 (.getfield 22) 3 13 := by decide +kernel
theorem d_X3_find_13 : Dc cX3_find 13 (.iconst 0) 1 14 := by decide +kernel
theorem d_X3_find_14 : Dc cX3_find 14 (.aload_n 0) 1 15 := by decide +kernel
theorem d_X3_find_15 : Dc cX3_find 15 (.getfield 15) 3 18 := by decide +kernel
theorem d_X3_find_18 : Dc cX3_find 18 (.iconst 0) 1 19 := by decide +kernel
theorem d_X3_find_19 : Dc cX3_find 19 (.bipush 6) 2 21 := by decide +kernel
theorem d_X3_find_21 : Dc cX3_find 21 (.invokestatic 27) 3 24 := by decide +kernel
theorem d_X3_find_24 : Dc cX3_find 24 (.aload_n 0) 1 25 := by decide +kernel
theorem d_X3_find_25 : Dc cX3_find 25 (.aload_n 1) 1 26 := by decide +kernel
theorem d_X3_find_26 : Dc cX3_find 26 (.aload_n 2) 1 27 := by decide +kernel
theorem d_X3_find_27 : Dc cX3_find 27 (.iload_n 3) 1 28 := by decide +kernel
theorem d_X3_find_28 : Dc cX3_find 28 (.iconst 1) 1 29 := by decide +kernel
theorem d_X3_find_29 : Dc cX3_find 29 (.invokevirtual 33) 3 32 := by decide +kernel
theorem d_X3_find_32 : Dc cX3_find 32 (.aload_n 1) 1 33 := by decide +kernel
theorem d_X3_find_33 : Dc cX3_find 33 (.invokevirtual 37) 3 36 := by decide +kernel
theorem d_X3_find_36 : Dc cX3_find 36 (.istore 4) 2 38 := by decide +kernel
theorem d_X3_find_38 : Dc cX3_find 38 (.iconst 1) 1 39 := by decide +kernel
theorem d_X3_find_39 : Dc cX3_find 39 (.istore 5) 2 41 := by decide +kernel
theorem d_X3_find_41 : Dc cX3_find 41 (.iload 5) 2 43 := by decide +kernel
theorem d_X3_find_43 : Dc cX3_find 43 (.sipush 720) 3 46 := by decide +kernel
theorem d_X3_find_46 : Dq cX3_find 46 (.if_icmp .ge) 97 49 := by decide +kernel
theorem d_X3_find_49 : Dc cX3_find 49 (.aload_n 0) 1 50 := by decide +kernel
theorem d_X3_find_50 : Dc cX3_find 50 (.getfield 41) 3 53 := by decide +kernel
theorem d_X3_find_53 : Dc cX3_find 53 (.iload 4) 2 55 := by decide +kernel
theorem d_X3_find_55 : Dq cX3_find 55 (.if_icmp .gt) 69 58 := by decide +kernel
theorem d_X3_find_58 : Dc cX3_find 58 (.aload_n 0) 1 59 := by decide +kernel
theorem d_X3_find_59 : Dc cX3_find 59 (.getfield 44) 3 62 := by decide +kernel
theorem d_X3_find_62 : Dc cX3_find 62 (.aload_n 1) 1 63 := by decide +kernel
theorem d_X3_find_63 : Dc cX3_find 63 (.getfield 47) 3 66 := by decide +kernel
theorem d_X3_find_66 : Dq cX3_find 66 (.if_icmp .ge) 97 69 := by decide +kernel
theorem d_X3_find_69 : Dc cX3_find 69 (.aload_n 0) 1 70 := by decide +kernel
theorem d_X3_find_70 : Dc cX3_find 70 (.aload_n 1) 1 71 := by decide +kernel
theorem d_X3_find_71 : Dc cX3_find 71 (.getfield 47) 3 74 := by decide +kernel
theorem d_X3_find_74 : Dc cX3_find 74 (.invokevirtual 50) 3 77 := by decide +kernel
theorem d_X3_find_77 : Dq cX3_find 77 (.ifCond .ne) 83 80 := by decide +kernel
theorem d_X3_find_80 : Dq cX3_find 80 (.goto) 97 83 := by decide +kernel
theorem d_X3_find_83 : Dc cX3_find 83 (.aload_n 0) 1 84 := by decide +kernel
theorem d_X3_find_84 : Dc cX3_find 84 (.aload_n 1) 1 85 := by decide +kernel
theorem d_X3_find_85 : Dc cX3_find 85 (.aload_n 2) 1 86 := by decide +kernel
theorem d_X3_find_86 : Dc cX3_find 86 (.iload_n 3) 1 87 := by decide +kernel
theorem d_X3_find_87 : Dc cX3_find 87 (.iconst 0) 1 88 := by decide +kernel
theorem d_X3_find_88 : Dc cX3_find 88 (.invokevirtual 33) 3 91 := by decide +kernel
theorem d_X3_find_91 : Dc cX3_find 91 (.iinc 5 1) 3 94 := by decide +kernel
theorem d_X3_find_94 : Dq cX3_find 94 (.goto) 41 97 := by decide +kernel
theorem d_X3_find_97 : Dc cX3_find 97 (.aload_n 0) 1 98 := by decide +kernel
theorem d_X3_find_98 : Dc cX3_find 98 (.iload_n 3) 1 99 := by decide +kernel
theorem d_X3_find_99 : Dc cX3_find 99 (.putfield 18) 3 102 := by decide +kernel
theorem d_X3_find_102 : Dc cX3_find 102 (.return_) 1 103 := by decide +kernel
theorem d_X3_tryOne_0 : Dc cX3_tryOne 0 (.aload_n 2) 1 1 := by decide +kernel
theorem d_X3_tryOne_1 : Dc cX3_tryOne 1 (.aload_n 1) 1 2 := by decide +kernel
theorem d_X3_tryOne_2 : Dc cX3_tryOne 2 (.invokevirtual 54) 3 5 := by decide +kernel
theorem d_X3_tryOne_5 : Dc cX3_tryOne 5 (.aload_n 0) 1 6 := by decide +kernel
theorem d_X3_tryOne_6 : Dc cX3_tryOne 6 (.getfield 15) 3 9 := by decide +kernel
theorem d_X3_tryOne_9 : Dc cX3_tryOne 9 (.iconst 0) 1 10 := by decide +kernel
theorem d_X3_tryOne_10 : Dc cX3_tryOne 10 (.aload_n 2) 1 11 := by decide +kernel
theorem d_X3_tryOne_11 : Dc cX3_tryOne 11 (.getfield 22) 3 14 := by decide +kernel
theorem d_X3_tryOne_14 : Dc cX3_tryOne 14 (.iconst 0) 1 15 := by decide +kernel
theorem d_X3_tryOne_15 : Dc cX3_tryOne 15 (.bipush 6) 2 17 := by decide +kernel
theorem d_X3_tryOne_17 : Dc cX3_tryOne 17 (.invokestatic 27) 3 20 := by decide +kernel
theorem d_X3_tryOne_20 : Dc cX3_tryOne 20 (.aload_n 2) 1 21 := by decide +kernel
theorem d_X3_tryOne_21 : Dc cX3_tryOne 21 (.iload_n 3) 1 22 := by decide +kernel
theorem d_X3_tryOne_22 : Dc cX3_tryOne 22 (.invokevirtual 58) 3 25 := by decide +kernel
theorem d_X3_tryOne_25 : Dc cX3_tryOne 25 (.aload_n 2) 1 26 := by decide +kernel
theorem d_X3_tryOne_26 : Dc cX3_tryOne 26 (.invokevirtual 37) 3 29 := by decide +kernel
theorem d_X3_tryOne_29 : Dc cX3_tryOne 29 (.istore 5) 2 31 := by decide +kernel
theorem d_X3_tryOne_31 : Dc cX3_tryOne 31 (.aload_n 2) 1 32 := by decide +kernel
theorem d_X3_tryOne_32 : Dc cX3_tryOne 32 (.iconst 2) 1 33 := by decide +kernel
theorem d_X3_tryOne_33 : Dc cX3_tryOne 33 (.invokevirtual 62) 3 36 := by decide +kernel
theorem d_X3_tryOne_36 : Dc cX3_tryOne 36 (.istore 6) 2 38 := by decide +kernel
theorem d_X3_tryOne_38 : Dc cX3_tryOne 38 (.iload 4) 2 40 := by decide +kernel
theorem d_X3_tryOne_40 : Dq cX3_tryOne 40 (.ifCond .ne) 70 43 := by decide +kernel
theorem d_X3_tryOne_43 : Dc cX3_tryOne 43 (.iload 5) 2 45 := by decide +kernel
theorem d_X3_tryOne_45 : Dc cX3_tryOne 45 (.aload_n 0) 1 46 := by decide +kernel
theorem d_X3_tryOne_46 : Dc cX3_tryOne 46 (.getfield 41) 3 49 := by decide +kernel
theorem d_X3_tryOne_49 : Dq cX3_tryOne 49 (.if_icmp .lt) 70 52 := by decide +kernel
theorem d_X3_tryOne_52 : Dc cX3_tryOne 52 (.iload 5) 2 54 := by decide +kernel
theorem d_X3_tryOne_54 : Dc cX3_tryOne 54 (.aload_n 0) 1 55 := by decide +kernel
theorem d_X3_tryOne_55 : Dc cX3_tryOne 55 (.getfield 41) 3 58 := by decide +kernel
theorem d_X3_tryOne_58 : Dq cX3_tryOne 58 (.if_icmp .ne) 97 61 := by decide +kernel
theorem d_X3_tryOne_61 : Dc cX3_tryOne 61 (.iload 6) 2 63 := by decide +kernel
theorem d_X3_tryOne_63 : Dc cX3_tryOne 63 (.aload_n 0) 1 64 := by decide +kernel
theorem d_X3_tryOne_64 : Dc cX3_tryOne 64 (.getfield 44) 3 67 := by decide +kernel
theorem d_X3_tryOne_67 : Dq cX3_tryOne 67 (.if_icmp .le) 97 70 := by decide +kernel
theorem d_X3_tryOne_70 : Dc cX3_tryOne 70 (.aload_n 0) 1 71 := by decide +kernel
theorem d_X3_tryOne_71 : Dc cX3_tryOne 71 (.iload 5) 2 73 := by decide +kernel
theorem d_X3_tryOne_73 : Dc cX3_tryOne 73 (.putfield 41) 3 76 := by decide +kernel
theorem d_X3_tryOne_76 : Dc cX3_tryOne 76 (.aload_n 0) 1 77 := by decide +kernel
theorem d_X3_tryOne_77 : Dc cX3_tryOne 77 (.iload 6) 2 79 := by decide +kernel
theorem d_X3_tryOne_79 : Dc cX3_tryOne 79 (.putfield 44) 3 82 := by decide +kernel
theorem d_X3_tryOne_82 : Dc cX3_tryOne 82 (.aload_n 0) 1 83 := by decide +kernel
theorem d_X3_tryOne_83 : Dc cX3_tryOne 83 (.getfield 15) 3 86 := by decide +kernel
theorem d_X3_tryOne_86 : Dc cX3_tryOne 86 (.iconst 0) 1 87 := by decide +kernel
theorem d_X3_tryOne_87 : Dc cX3_tryOne 87 (.aload_n 0) 1 88 := by decide +kernel
theorem d_X3_tryOne_88 : Dc cX3_tryOne 88 (.getfield 9) 3 91 := by decide +kernel
theorem d_X3_tryOne_91 : Dc cX3_tryOne 91 (.iconst 0) 1 92 := by decide +kernel
theorem d_X3_tryOne_92 : Dc cX3_tryOne 92 (.bipush 6) 2 94 := by decide +kernel
theorem d_X3_tryOne_94 : Dc cX3_tryOne 94 (.invokestatic 27) 3 97 := by decide +kernel
theorem d_X3_tryOne_97 : Dc cX3_tryOne 97 (.return_) 1 98 := by decide +kernel
theorem d_X3_toNextOrder_0 : Dc cX3_toNextOrder 0 (.iload_n 1) 1 1 := by decide +kernel
theorem d_X3_toNextOrder_1 : Dc cX3_toNextOrder 1 (.iconst 2) 1 2 := by decide +kernel
theorem d_X3_toNextOrder_2 : Dc cX3_toNextOrder 2 (.isub) 1 3 := by decide +kernel
theorem d_X3_toNextOrder_3 : Dc cX3_toNextOrder 3 (.istore_n 2) 1 4 := by decide +kernel
theorem d_X3_toNextOrder_4 : Dc cX3_toNextOrder 4 (.iload_n 2) 1 5 := by decide +kernel
theorem d_X3_toNextOrder_5 : Dq cX3_toNextOrder 5 (.ifCond .lt) 31 8 := by decide +kernel
theorem d_X3_toNextOrder_8 : Dc cX3_toNextOrder 8 (.aload_n 0) 1 9 := by decide +kernel
theorem d_X3_toNextOrder_9 : Dc cX3_toNextOrder 9 (.getfield 15) 3 12 := by decide +kernel
theorem d_X3_toNextOrder_12 : Dc cX3_toNextOrder 12 (.iload_n 2) 1 13 := by decide +kernel
theorem d_X3_toNextOrder_13 : Dc cX3_toNextOrder 13 (.iaload) 1 14 := by decide +kernel
theorem d_X3_toNextOrder_14 : Dc cX3_toNextOrder 14 (.aload_n 0) 1 15 := by decide +kernel
theorem d_X3_toNextOrder_15 : Dc cX3_toNextOrder 15 (.getfield 15) 3 18 := by decide +kernel
theorem d_X3_toNextOrder_18 : Dc cX3_toNextOrder 18 (.iload_n 2) 1 19 := by decide +kernel
theorem d_X3_toNextOrder_19 : Dc cX3_toNextOrder 19 (.iconst 1) 1 20 := by decide +kernel
theorem d_X3_toNextOrder_20 : Dc cX3_toNextOrder 20 (.iadd) 1 21 := by decide +kernel
theorem d_X3_toNextOrder_21 : Dc cX3_toNextOrder 21 (.iaload) 1 22 := by decide +kernel
theorem d_X3_toNextOrder_22 : Dq cX3_toNextOrder 22 (.if_icmp .le) 31 25 := by decide +kernel
theorem d_X3_toNextOrder_25 : Dc cX3_toNextOrder 25 (.iinc 2 (-1)) 3 28 := by decide +kernel
theorem d_X3_toNextOrder_28 : Dq cX3_toNextOrder 28 (.goto) 4 31 := by decide +kernel
theorem d_X3_toNextOrder_31 : Dc cX3_toNextOrder 31 (.iload_n 2) 1 32 := by decide +kernel
theorem d_X3_toNextOrder_32 : Dq cX3_toNextOrder 32 (.ifCond .ge) 37 35 := by decide +kernel
theorem d_X3_toNextOrder_35 : Dc cX3_toNextOrder 35 (.iconst 0) 1 36 := by decide +kernel
theorem d_X3_toNextOrder_36 : Dc cX3_toNextOrder 36 (.ireturn) 1 37 := by decide +kernel
theorem d_X3_toNextOrder_37 : Dc cX3_toNextOrder 37 (.iload_n 1) 1 38 := by decide +kernel
theorem d_X3_toNextOrder_38 : Dc cX3_toNextOrder 38 (.iconst 1) 1 39 := by decide +kernel
theorem d_X3_toNextOrder_39 : Dc cX3_toNextOrder 39 (.isub) 1 40 := by decide +kernel
theorem d_X3_toNextOrder_40 : Dc cX3_toNextOrder 40 (.istore_n 3) 1 41 := by decide +kernel
theorem d_X3_toNextOrder_41 : Dc cX3_toNextOrder 41 (.iload_n 3) 1 42 := by decide +kernel
theorem d_X3_toNextOrder_42 : Dc cX3_toNextOrder 42 (.iload_n 2) 1 43 := by decide +kernel
theorem d_X3_toNextOrder_43 : Dc cX3_toNextOrder 43 (.iconst 1) 1 44 := by decide +kernel
theorem d_X3_toNextOrder_44 : Dc cX3_toNextOrder 44 (.iadd) 1 45 := by decide +kernel
theorem d_X3_toNextOrder_45 : Dq cX3_toNextOrder 45 (.if_icmp .le) 69 48 := by decide +kernel
theorem d_X3_toNextOrder_48 : Dc cX3_toNextOrder 48 (.aload_n 0) 1 49 := by decide +kernel
theorem d_X3_toNextOrder_49 : Dc cX3_toNextOrder 49 (.getfield 15) 3 52 := by decide +kernel
theorem d_X3_toNextOrder_52 : Dc cX3_toNextOrder 52 (.iload_n 3) 1 53 := by decide +kernel
theorem d_X3_toNextOrder_53 : Dc cX3_toNextOrder 53 (.iaload) 1 54 := by decide +kernel
theorem d_X3_toNextOrder_54 : Dc cX3_toNextOrder 54 (.aload_n 0) 1 55 := by decide +kernel
theorem d_X3_toNextOrder_55 : Dc cX3_toNextOrder 55 (.getfield 15) 3 58 := by decide +kernel
theorem d_X3_toNextOrder_58 : Dc cX3_toNextOrder 58 (.iload_n 2) 1 59 := by decide +kernel
theorem d_X3_toNextOrder_59 : Dc cX3_toNextOrder 59 (.iaload) 1 60 := by decide +kernel
theorem d_X3_toNextOrder_60 : Dq cX3_toNextOrder 60 (.if_icmp .ge) 69 63 := by decide +kernel
theorem d_X3_toNextOrder_63 : Dc cX3_toNextOrder 63 (.iinc 3 (-1)) 3 66 := by decide +kernel
theorem d_X3_toNextOrder_66 : Dq cX3_toNextOrder 66 (.goto) 41 69 := by decide +kernel
theorem d_X3_toNextOrder_69 : Dc cX3_toNextOrder 69 (.aload_n 0) 1 70 := by decide +kernel
theorem d_X3_toNextOrder_70 : Dc cX3_toNextOrder 70 (.iload_n 2) 1 71 := by decide +kernel
theorem d_X3_toNextOrder_71 : Dc cX3_toNextOrder 71 (.iload_n 3) 1 72 := by decide +kernel
theorem d_X3_toNextOrder_72 : Dc cX3_toNextOrder 72 (.invokevirtual 66) 3 75 := by decide +kernel
theorem d_X3_toNextOrder_75 : Dc cX3_toNextOrder 75 (.iload_n 2) 1 76 := by decide +kernel
theorem d_X3_toNextOrder_76 : Dc cX3_toNextOrder 76 (.iconst 1) 1 77 := by decide +kernel
theorem d_X3_toNextOrder_77 : Dc cX3_toNextOrder 77 (.iadd) 1 78 := by decide +kernel
theorem d_X3_toNextOrder_78 : Dc cX3_toNextOrder 78 (.istore 4) 2 80 := by decide +kernel
theorem d_X3_toNextOrder_80 : Dc cX3_toNextOrder 80 (.iload_n 1) 1 81 := by decide +kernel
theorem d_X3_toNextOrder_81 : Dc cX3_toNextOrder 81 (.iconst 1) 1 82 := by decide +kernel
theorem d_X3_toNextOrder_82 : Dc cX3_toNextOrder 82 (.isub) 1 83 := by decide +kernel
theorem d_X3_toNextOrder_83 : Dc cX3_toNextOrder 83 (.istore 5) 2 85 := by decide +kernel
theorem d_X3_toNextOrder_85 : Dc cX3_toNextOrder 85 (.iload 4) 2 87 := by decide +kernel
theorem d_X3_toNextOrder_87 : Dc cX3_toNextOrder 87 (.iload 5) 2 89 := by decide +kernel
theorem d_X3_toNextOrder_89 : Dq cX3_toNextOrder 89 (.if_icmp .ge) 109 92 := by decide +kernel
theorem d_X3_toNextOrder_92 : Dc cX3_toNextOrder 92 (.aload_n 0) 1 93 := by decide +kernel
theorem d_X3_toNextOrder_93 : Dc cX3_toNextOrder 93 (.iload 4) 2 95 := by decide +kernel
theorem d_X3_toNextOrder_95 : Dc cX3_toNextOrder 95 (.iload 5) 2 97 := by decide +kernel
theorem d_X3_toNextOrder_97 : Dc cX3_toNextOrder 97 (.invokevirtual 66) 3 100 := by decide +kernel
theorem d_X3_toNextOrder_100 : Dc cX3_toNextOrder 100 (.iinc 4 1) 3 103 := by decide +kernel
theorem d_X3_toNextOrder_103 : Dc cX3_toNextOrder 103 (.iinc 5 (-1)) 3 106 := by decide +kernel
theorem d_X3_toNextOrder_106 : Dq cX3_toNextOrder 106 (.goto) 85 109 := by decide +kernel
theorem d_X3_toNextOrder_109 : Dc cX3_toNextOrder 109 (.iconst 1) 1 110 := by decide +kernel
theorem d_X3_toNextOrder_110 : Dc cX3_toNextOrder 110 (.ireturn) 1 111 := by decide +kernel
theorem d_X3_swap_0 : Dc cX3_swap 0 (.aload_n 0) 1 1 := by decide +kernel
theorem d_X3_swap_1 : Dc cX3_swap 1 (.getfield 15) 3 4 := by decide +kernel
theorem d_X3_swap_4 : Dc cX3_swap 4 (.iload_n 1) 1 5 := by decide +kernel
theorem d_X3_swap_5 : Dc cX3_swap 5 (.iaload) 1 6 := by decide +kernel
theorem d_X3_swap_6 : Dc cX3_swap 6 (.istore_n 3) 1 7 := by decide +kernel
theorem d_X3_swap_7 : Dc cX3_swap 7 (.aload_n 0) 1 8 := by decide +kernel
theorem d_X3_swap_8 : Dc cX3_swap 8 (.getfield 15) 3 11 := by decide +kernel
theorem d_X3_swap_11 : Dc cX3_swap 11 (.iload_n 1) 1 12 := by decide +kernel
theorem d_X3_swap_12 : Dc cX3_swap 12 (.aload_n 0) 1 13 := by decide +kernel
theorem d_X3_swap_13 : Dc cX3_swap 13 (.getfield 15) 3 16 := by decide +kernel
theorem d_X3_swap_16 : Dc cX3_swap 16 (.iload_n 2) 1 17 := by decide +kernel
theorem d_X3_swap_17 : Dc cX3_swap 17 (.iaload) 1 18 := by decide +kernel
theorem d_X3_swap_18 : Dc cX3_swap 18 (.iastore) 1 19 := by decide +kernel
theorem d_X3_swap_19 : Dc cX3_swap 19 (.aload_n 0) 1 20 := by decide +kernel
theorem d_X3_swap_20 : Dc cX3_swap 20 (.getfield 15) 3 23 := by decide +kernel
theorem d_X3_swap_23 : Dc cX3_swap 23 (.iload_n 2) 1 24 := by decide +kernel
theorem d_X3_swap_24 : Dc cX3_swap 24 (.iload_n 3) 1 25 := by decide +kernel
theorem d_X3_swap_25 : Dc cX3_swap 25 (.iastore) 1 26 := by decide +kernel
theorem d_X3_swap_26 : Dc cX3_swap 26 (.return_) 1 27 := by decide +kernel
theorem d_X4_init_0 : Dc cX4_init 0 (.aload_n 0) 1 1 := by decide +kernel
theorem d_X4_init_1 : Dc cX4_init 1 (.invokespecial 3) 3 4 := by decide +kernel
theorem d_X4_init_4 : Dc cX4_init 4 (.aload_n 0) 1 5 := by decide +kernel
theorem d_X4_init_5 : Dc cX4_init 5 (.bipush 8) 2 7 := by decide +kernel
theorem d_X4_init_7 : Dc cX4_init 7 (.newarray .int) 2 9 := by decide +kernel
theorem d_X4_init_9 : Dc cX4_init 9 (.dup) 1 10 := by decide +kernel
theorem d_X4_init_10 : Dc cX4_init 10 (.iconst 0) 1 11 := by decide +kernel
theorem d_X4_init_11 : Dc cX4_init 11 (.iconst (-1)) 1 12 := by decide +kernel
theorem d_X4_init_12 : Dc cX4_init 12 (.iastore) 1 13 := by decide +kernel
theorem d_X4_init_13 : Dc cX4_init 13 (.dup) 1 14 := by decide +kernel
theorem d_X4_init_14 : Dc cX4_init 14 (.iconst 1) 1 15 := by decide +kernel
theorem d_X4_init_15 : Dc cX4_init 15 (.iconst (-1)) 1 16 := by decide +kernel
theorem d_X4_init_16 : Dc cX4_init 16 (.iastore) 1 17 := by decide +kernel
theorem d_X4_init_17 : Dc cX4_init 17 (.dup) 1 18 := by decide +kernel
theorem d_X4_init_18 : Dc cX4_init 18 (.iconst 2) 1 19 := by decide +kernel
theorem d_X4_init_19 : Dc cX4_init 19 (.iconst (-1)) 1 20 := by decide +kernel
theorem d_X4_init_20 : Dc cX4_init 20 (.iastore) 1 21 := by decide +kernel
theorem d_X4_init_21 : Dc cX4_init 21 (.dup) 1 22 := by decide +kernel
theorem d_X4_init_22 : Dc cX4_init 22 (.iconst 3) 1 23 := by decide +kernel
theorem d_X4_init_23 : Dc cX4_init 23 (.iconst (-1)) 1 24 := by decide +kernel
theorem d_X4_init_24 : Dc cX4_init 24 (.iastore) 1 25 := by decide +kernel
theorem d_X4_init_25 : Dc cX4_init 25 (.dup) 1 26 := by decide +kernel
theorem d_X4_init_26 : Dc cX4_init 26 (.iconst 4) 1 27 := by decide +kernel
theorem d_X4_init_27 : Dc cX4_init 27 (.iconst (-1)) 1 28 := by decide +kernel
theorem d_X4_init_28 : Dc cX4_init 28 (.iastore) 1 29 := by decide +kernel
theorem d_X4_init_29 : Dc cX4_init 29 (.dup) 1 30 := by decide +kernel
theorem d_X4_init_30 : Dc cX4_init 30 (.iconst 5) 1 31 := by decide +kernel
theorem d_X4_init_31 : Dc cX4_init 31 (.iconst (-1)) 1 32 := by decide +kernel
theorem d_X4_init_32 : Dc cX4_init 32 (.iastore) 1 33 := by decide +kernel
theorem d_X4_init_33 : Dc cX4_init 33 (.dup) 1 34 := by decide +kernel
theorem d_X4_init_34 : Dc cX4_init 34 (.bipush 6) 2 36 := by decide +kernel
theorem d_X4_init_36 : Dc cX4_init 36 (.iconst (-1)) 1 37 := by decide +kernel
theorem d_X4_init_37 : Dc cX4_init 37 (.iastore) 1 38 := by decide +kernel
theorem d_X4_init_38 : Dc cX4_init 38 (.dup) 1 39 := by decide +kernel
theorem d_X4_init_39 : Dc cX4_init 39 (.bipush 7) 2 41 := by decide +kernel
theorem d_X4_init_41 : Dc cX4_init 41 (.iconst (-1)) 1 42 := by decide +kernel
theorem d_X4_init_42 : Dc cX4_init 42 (.iastore) 1 43 := by decide +kernel
theorem d_X4_init_43 : Dc cX4_init 43 (.putfield 11) 3 46 := by decide +kernel
theorem d_X4_init_46 : Dc cX4_init 46 (.aload_n 0) 1 47 := by decide +kernel
theorem d_X4_init_47 : Dc cX4_init 47 (.bipush 8) 2 49 := by decide +kernel
theorem d_X4_init_49 : Dc cX4_init 49 (.newarray .int) 2 51 := by decide +kernel
theorem d_X4_init_51 : Dc cX4_init 51 (.putfield 15) 3 54 := by decide +kernel
theorem d_X4_init_54 : Dc cX4_init 54 (.aload_n 0) 1 55 := by decide +kernel
theorem d_X4_init_55 : Dc cX4_init 55 (.bipush 8) 2 57 := by decide +kernel
theorem d_X4_init_57 : Dc cX4_init 57 (.bipush 40) 2 59 := by decide +kernel
theorem d_X4_init_59 : Dc cX4_init 59 (.multianewarray 18 2) 4 63 := by decide +kernel
theorem d_X4_init_63 : Dc cX4_init 63 (.putfield 20) 3 66 := by decide +kernel
theorem d_X4_init_66 : Dc cX4_init 66 (.return_) 1 67 := by decide +kernel
theorem d_X4_isOne_0 : Dc cX4_isOne 0 (.iload_n 0) 1 1 := by decide +kernel
theorem d_X4_isOne_1 : Dq cX4_isOne 1 (.ifCond .lt) 14 4 := by decide +kernel
theorem d_X4_isOne_4 : Dc cX4_isOne 4 (.iload_n 0) 1 5 := by decide +kernel
theorem d_X4_isOne_5 : Dc cX4_isOne 5 (.bipush 8) 2 7 := by decide +kernel
theorem d_X4_isOne_7 : Dq cX4_isOne 7 (.if_icmp .ge) 14 10 := by decide +kernel
theorem d_X4_isOne_10 : Dc cX4_isOne 10 (.iconst 1) 1 11 := by decide +kernel
theorem d_X4_isOne_11 : Dq cX4_isOne 11 (.goto) 15 14 := by decide +kernel
theorem d_X4_isOne_14 : Dc cX4_isOne 14 (.iconst 0) 1 15 := by decide +kernel
theorem d_X4_isOne_15 : Dc cX4_isOne 15 (.ireturn) 1 16 := by decide +kernel
theorem d_X4_isMissing_0 : Dc cX4_isMissing 0 (.aload_n 0) 1 1 := by decide +kernel
theorem d_X4_isMissing_1 : Dc cX4_isMissing 1 (.getfield 11) 3 4 := by decide +kernel
theorem d_X4_isMissing_4 : Dc cX4_isMissing 4 (.iload_n 1) 1 5 := by decide +kernel
theorem d_X4_isMissing_5 : Dc cX4_isMissing 5 (.iaload) 1 6 := by decide +kernel
theorem d_X4_isMissing_6 : Dc cX4_isMissing 6 (.iconst (-1)) 1 7 := by decide +kernel
theorem d_X4_isMissing_7 : Dq cX4_isMissing 7 (.if_icmp .ne) 14 10 := by decide +kernel
theorem d_X4_isMissing_10 : Dc cX4_isMissing 10 (.iconst 1) 1 11 := by decide +kernel
theorem d_X4_isMissing_11 : Dq cX4_isMissing 11 (.goto) 15 14 := by decide +kernel
theorem d_X4_isMissing_14 : Dc cX4_isMissing 14 (.iconst 0) 1 15 := by decide +kernel
theorem d_X4_isMissing_15 : Dc cX4_isMissing 15 (.ireturn) 1 16 := by decide +kernel
theorem d_X4_hasPlaces_0 : Dc cX4_hasPlaces 0 (.iload_n 3) 1 1 := by decide +kernel
theorem d_X4_hasPlaces_1 : Dq cX4_hasPlaces 1 (.ifCond .lt) 34 4 := by decide +kernel
theorem d_X4_hasPlaces_4 : Dc cX4_hasPlaces 4 (.iload_n 3) 1 5 := by decide +kernel
theorem d_X4_hasPlaces_5 : Dc cX4_hasPlaces 5 (.aload_n 0) 1 6 := by decide +kernel
theorem d_X4_hasPlaces_6 : Dc cX4_hasPlaces 6 (.getfield 15) 3 9 := by decide +kernel
theorem d_X4_hasPlaces_9 : Dc cX4_hasPlaces 9 (.iload_n 1) 1 10 := by decide +kernel
theorem d_X4_hasPlaces_10 : Dc cX4_hasPlaces 10 (.iaload) 1 11 := by decide +kernel
theorem d_X4_hasPlaces_11 : Dq cX4_hasPlaces 11 (.if_icmp .gt) 34 14 := by decide +kernel
theorem d_X4_hasPlaces_14 : Dc cX4_hasPlaces 14 (.iload_n 2) 1 15 := by decide +kernel
theorem d_X4_hasPlaces_15 : Dq cX4_hasPlaces 15 (.ifCond .lt) 34 18 := by decide +kernel
theorem d_X4_hasPlaces_18 : Dc cX4_hasPlaces 18 (.iload_n 2) 1 19 := by decide +kernel
theorem d_X4_hasPlaces_19 : Dc cX4_hasPlaces 19 (.aload_n 0) 1 20 := by decide +kernel
theorem d_X4_hasPlaces_20 : Dc cX4_hasPlaces 20 (.getfield 15) 3 23 := by decide +kernel
theorem d_X4_hasPlaces_23 : Dc cX4_hasPlaces 23 (.iload_n 1) 1 24 := by decide +kernel
theorem d_X4_hasPlaces_24 : Dc cX4_hasPlaces 24 (.iaload) 1 25 := by decide +kernel
theorem d_X4_hasPlaces_25 : Dc cX4_hasPlaces 25 (.iload_n 3) 1 26 := by decide +kernel
theorem d_X4_hasPlaces_26 : Dc cX4_hasPlaces 26 (.isub) 1 27 := by decide +kernel
theorem d_X4_hasPlaces_27 : Dq cX4_hasPlaces 27 (.if_icmp .gt) 34 30 := by decide +kernel
theorem d_X4_hasPlaces_30 : Dc cX4_hasPlaces 30 (.iconst 1) 1 31 := by decide +kernel
theorem d_X4_hasPlaces_31 : Dq cX4_hasPlaces 31 (.goto) 35 34 := by decide +kernel
theorem d_X4_hasPlaces_34 : Dc cX4_hasPlaces 34 (.iconst 0) 1 35 := by decide +kernel
theorem d_X4_hasPlaces_35 : Dc cX4_hasPlaces 35 (.ireturn) 1 36 := by decide +kernel
theorem d_X4_findingOf_0 : Dc cX4_findingOf 0 (.aload_n 0) 1 1 := by decide +kernel
theorem d_X4_findingOf_1 : Dc cX4_findingOf 1 (.iload_n 1) 1 2 := by decide +kernel
theorem d_X4_findingOf_2 : Dc cX4_findingOf 2 (.invokevirtual 23) 3 5 := by decide +kernel
theorem d_X4_findingOf_5 : Dq cX4_findingOf 5 (.ifCond .eq) 10 8 := by decide +kernel
theorem d_X4_findingOf_8 : Dc cX4_findingOf 8 (.iconst 1) 1 9 := by decide +kernel
theorem d_X4_findingOf_9 : Dc cX4_findingOf 9 (.ireturn) 1 10 := by decide +kernel
theorem d_X4_findingOf_10 : Dc cX4_findingOf 10 (.aload_n 0) 1 11 := by decide +kernel
theorem d_X4_findingOf_11 : Dc cX4_findingOf 11 (.iload_n 1) 1 12 := by decide +kernel
theorem d_X4_findingOf_12 : Dc cX4_findingOf 12 (.iload_n 2) 1 13 := by decide +kernel
theorem d_X4_findingOf_13 : Dc cX4_findingOf 13 (.iload_n 3) 1 14 := by decide +kernel
theorem d_X4_findingOf_14 : Dc cX4_findingOf 14 (.invokevirtual 27) 3 17 := by decide +kernel
theorem d_X4_findingOf_17 : Dq cX4_findingOf 17 (.ifCond .eq) 24 20 := by decide +kernel
theorem d_X4_findingOf_20 : Dc cX4_findingOf 20 (.iconst 0) 1 21 := by decide +kernel
theorem d_X4_findingOf_21 : Dq cX4_findingOf 21 (.goto) 25 24 := by decide +kernel
theorem d_X4_findingOf_24 : Dc cX4_findingOf 24 (.iconst 2) 1 25 := by decide +kernel
theorem d_X4_findingOf_25 : Dc cX4_findingOf 25 (.ireturn) 1 26 := by decide +kernel
theorem d_X4_make_0 : Dc cX4_make 0 (.aload_n 0) 1 1 := by decide +kernel
theorem d_X4_make_1 : Dc cX4_make 1 (.getfield 11) 3 4 := by decide +kernel
theorem d_X4_make_4 : Dc cX4_make 4 (.iload_n 1) 1 5 := by decide +kernel
theorem d_X4_make_5 : Dc cX4_make 5 (.iload_n 2) 1 6 := by decide +kernel
theorem d_X4_make_6 : Dc cX4_make 6 (.iastore) 1 7 := by decide +kernel
theorem d_X4_make_7 : Dc cX4_make 7 (.aload_n 0) 1 8 := by decide +kernel
theorem d_X4_make_8 : Dc cX4_make 8 (.getfield 15) 3 11 := by decide +kernel
theorem d_X4_make_11 : Dc cX4_make 11 (.iload_n 1) 1 12 := by decide +kernel
theorem d_X4_make_12 : Dc cX4_make 12 (.iload_n 3) 1 13 := by decide +kernel
theorem d_X4_make_13 : Dc cX4_make 13 (.iastore) 1 14 := by decide +kernel
theorem d_X4_make_14 : Dc cX4_make 14 (.iconst 0) 1 15 := by decide +kernel
theorem d_X4_make_15 : Dc cX4_make 15 (.istore 4) 2 17 := by decide +kernel
theorem d_X4_make_17 : Dc cX4_make 17 (.iload 4) 2 19 := by decide +kernel
theorem d_X4_make_19 : Dc cX4_make 19 (.bipush 40) 2 21 := by decide +kernel
theorem d_X4_make_21 : Dq cX4_make 21 (.if_icmp .ge) 40 24 := by decide +kernel
theorem d_X4_make_24 : Dc cX4_make 24 (.aload_n 0) 1 25 := by decide +kernel
theorem d_X4_make_25 : Dc cX4_make 25 (.getfield 20) 3 28 := by decide +kernel
theorem d_X4_make_28 : Dc cX4_make 28 (.iload_n 1) 1 29 := by decide +kernel
theorem d_X4_make_29 : Dc cX4_make 29 (.aaload) 1 30 := by decide +kernel
theorem d_X4_make_30 : Dc cX4_make 30 (.iload 4) 2 32 := by decide +kernel
theorem d_X4_make_32 : Dc cX4_make 32 (.iconst 0) 1 33 := by decide +kernel
theorem d_X4_make_33 : Dc cX4_make 33 (.iastore) 1 34 := by decide +kernel
theorem d_X4_make_34 : Dc cX4_make 34 (.iinc 4 1) 3 37 := by decide +kernel
theorem d_X4_make_37 : Dq cX4_make 37 (.goto) 17 40 := by decide +kernel
theorem d_X4_make_40 : Dc cX4_make 40 (.return_) 1 41 := by decide +kernel
theorem d_X4_put_0 : Dc cX4_put 0 (.iload_n 3) 1 1 := by decide +kernel
theorem d_X4_put_1 : Dc cX4_put 1 (.istore 4) 2 3 := by decide +kernel
theorem d_X4_put_3 : Dc cX4_put 3 (.aload_n 0) 1 4 := by decide +kernel
theorem d_X4_put_4 : Dc cX4_put 4 (.getfield 11) 3 7 := by decide +kernel
theorem d_X4_put_7 : Dc cX4_put 7 (.iload_n 1) 1 8 := by decide +kernel
theorem d_X4_put_8 : Dc cX4_put 8 (.iaload) 1 9 := by decide +kernel
theorem d_X4_put_9 : Dq cX4_put 9 (.ifCond .ne) 19 12 := by decide +kernel
theorem d_X4_put_12 : Dc cX4_put 12 (.iload_n 3) 1 13 := by decide +kernel
theorem d_X4_put_13 : Dc cX4_put 13 (.i2b) 1 14 := by decide +kernel
theorem d_X4_put_14 : Dc cX4_put 14 (.istore 4) 2 16 := by decide +kernel
theorem d_X4_put_16 : Dq cX4_put 16 (.goto) 33 19 := by decide +kernel
theorem d_X4_put_19 : Dc cX4_put 19 (.aload_n 0) 1 20 := by decide +kernel
theorem d_X4_put_20 : Dc cX4_put 20 (.getfield 11) 3 23 := by decide +kernel
theorem d_X4_put_23 : Dc cX4_put 23 (.iload_n 1) 1 24 := by decide +kernel
theorem d_X4_put_24 : Dc cX4_put 24 (.iaload) 1 25 := by decide +kernel
theorem d_X4_put_25 : Dc cX4_put 25 (.iconst 1) 1 26 := by decide +kernel
theorem d_X4_put_26 : Dq cX4_put 26 (.if_icmp .ne) 33 29 := by decide +kernel
theorem d_X4_put_29 : Dc cX4_put 29 (.iload_n 3) 1 30 := by decide +kernel
theorem d_X4_put_30 : Dc cX4_put 30 (.i2s) 1 31 := by decide +kernel
theorem d_X4_put_31 : Dc cX4_put 31 (.istore 4) 2 33 := by decide +kernel
theorem d_X4_put_33 : Dc cX4_put 33 (.aload_n 0) 1 34 := by decide +kernel
theorem d_X4_put_34 : Dc cX4_put 34 (.getfield 20) 3 37 := by decide +kernel
theorem d_X4_put_37 : Dc cX4_put 37 (.iload_n 1) 1 38 := by decide +kernel
theorem d_X4_put_38 : Dc cX4_put 38 (.aaload) 1 39 := by decide +kernel
theorem d_X4_put_39 : Dc cX4_put 39 (.iload_n 2) 1 40 := by decide +kernel
theorem d_X4_put_40 : Dc cX4_put 40 (.iload 4) 2 42 := by decide +kernel
theorem d_X4_put_42 : Dc cX4_put 42 (.iastore) 1 43 := by decide +kernel
theorem d_X4_put_43 : Dc cX4_put 43 (.iload 4) 2 45 := by decide +kernel
theorem d_X4_put_45 : Dc cX4_put 45 (.ireturn) 1 46 := by decide +kernel
theorem d_X4_remove_0 : Dc cX4_remove 0 (.aload_n 0) 1 1 := by decide +kernel
theorem d_X4_remove_1 : Dc cX4_remove 1 (.getfield 11) 3 4 := by decide +kernel
theorem d_X4_remove_4 : Dc cX4_remove 4 (.iload_n 1) 1 5 := by decide +kernel
theorem d_X4_remove_5 : Dc cX4_remove 5 (.iconst (-1)) 1 6 := by decide +kernel
theorem d_X4_remove_6 : Dc cX4_remove 6 (.iastore) 1 7 := by decide +kernel
theorem d_X4_remove_7 : Dc cX4_remove 7 (.aload_n 0) 1 8 := by decide +kernel
theorem d_X4_remove_8 : Dc cX4_remove 8 (.getfield 15) 3 11 := by decide +kernel
theorem d_X4_remove_11 : Dc cX4_remove 11 (.iload_n 1) 1 12 := by decide +kernel
theorem d_X4_remove_12 : Dc cX4_remove 12 (.iaload) 1 13 := by decide +kernel
theorem d_X4_remove_13 : Dc cX4_remove 13 (.ireturn) 1 14 := by decide +kernel
theorem d_X4_howMany_0 : Dc cX4_howMany 0 (.iconst 0) 1 1 := by decide +kernel
theorem d_X4_howMany_1 : Dc cX4_howMany 1 (.istore_n 1) 1 2 := by decide +kernel
theorem d_X4_howMany_2 : Dc cX4_howMany 2 (.iconst 0) 1 3 := by decide +kernel
theorem d_X4_howMany_3 : Dc cX4_howMany 3 (.istore_n 2) 1 4 := by decide +kernel
theorem d_X4_howMany_4 : Dc cX4_howMany 4 (.iload_n 2) 1 5 := by decide +kernel
theorem d_X4_howMany_5 : Dc cX4_howMany 5 (.bipush 8) 2 7 := by decide +kernel
theorem d_X4_howMany_7 : Dq cX4_howMany 7 (.if_icmp .ge) 32 10 := by decide +kernel
theorem d_X4_howMany_10 : Dc cX4_howMany 10 (.iload_n 1) 1 11 := by decide +kernel
theorem d_X4_howMany_11 : Dc cX4_howMany 11 (.aload_n 0) 1 12 := by decide +kernel
theorem d_X4_howMany_12 : Dc cX4_howMany 12 (.iload_n 2) 1 13 := by decide +kernel
theorem d_X4_howMany_13 : Dc cX4_howMany 13 (.invokevirtual 23) 3 16 := by decide +kernel
theorem d_X4_howMany_16 : Dq cX4_howMany 16 (.ifCond .eq) 23 19 := by decide +kernel
theorem d_X4_howMany_19 : Dc cX4_howMany 19 (.iconst 0) 1 20 := by decide +kernel
theorem d_X4_howMany_20 : Dq cX4_howMany 20 (.goto) 24 23 := by decide +kernel
theorem d_X4_howMany_23 : Dc cX4_howMany 23 (.iconst 1) 1 24 := by decide +kernel
theorem d_X4_howMany_24 : Dc cX4_howMany 24 (.iadd) 1 25 := by decide +kernel
theorem d_X4_howMany_25 : Dc cX4_howMany 25 (.istore_n 1) 1 26 := by decide +kernel
theorem d_X4_howMany_26 : Dc cX4_howMany 26 (.iinc 2 1) 3 29 := by decide +kernel
theorem d_X4_howMany_29 : Dq cX4_howMany 29 (.goto) 4 32 := by decide +kernel
theorem d_X4_howMany_32 : Dc cX4_howMany 32 (.iload_n 1) 1 33 := by decide +kernel
theorem d_X4_howMany_33 : Dc cX4_howMany 33 (.ireturn) 1 34 := by decide +kernel
theorem d_X5_init_0 : Dc cX5_init 0 (.aload_n 0) 1 1 := by decide +kernel
theorem d_X5_init_1 : Dc cX5_init 1 (.invokespecial 3) 3 4 := by decide +kernel
theorem d_X5_init_4 : Dc cX5_init 4 (.aload_n 0) 1 5 := by decide +kernel
theorem d_X5_init_5 : Dc cX5_init 5 (.bipush 110) 2 7 := by decide +kernel
theorem d_X5_init_7 : Dc cX5_init 7 (.newarray .int) 2 9 := by decide +kernel
theorem d_X5_init_9 : Dc cX5_init 9 (.putfield 11) 3 12 := by decide +kernel
theorem d_X5_init_12 : Dc cX5_init 12 (.return_) 1 13 := by decide +kernel
theorem d_X5_takeIn_0 : Dc cX5_takeIn 0 (.aload_n 0) 1 1 := by decide +kernel
theorem d_X5_takeIn_1 : Dc cX5_takeIn 1 (.getfield 15) 3 4 := by decide +kernel
theorem d_X5_takeIn_4 : Dc cX5_takeIn 4 (.bipush 110) 2 6 := by decide +kernel
theorem d_X5_takeIn_6 : Dq cX5_takeIn 6 (.if_icmp .lt) 11 9 := by decide +kernel
theorem d_X5_takeIn_9 : Dc cX5_takeIn 9 (.iconst 0) 1 10 := by decide +kernel
theorem d_X5_takeIn_10 : Dc cX5_takeIn 10 (.ireturn) 1 11 := by decide +kernel
theorem d_X5_takeIn_11 : Dc cX5_takeIn 11 (.aload_n 0) 1 12 := by decide +kernel
theorem d_X5_takeIn_12 : Dc cX5_takeIn 12 (.getfield 11) 3 15 := by decide +kernel
theorem d_X5_takeIn_15 : Dc cX5_takeIn 15 (.aload_n 0) 1 16 := by decide +kernel
theorem d_X5_takeIn_16 : Dc cX5_takeIn 16 (.getfield 15) 3 19 := by decide +kernel
theorem d_X5_takeIn_19 : Dc cX5_takeIn 19 (.iload_n 1) 1 20 := by decide +kernel
theorem d_X5_takeIn_20 : Dc cX5_takeIn 20 (.iastore) 1 21 := by decide +kernel
theorem d_X5_takeIn_21 : Dc cX5_takeIn 21 (.aload_n 0) 1 22 := by decide +kernel
theorem d_X5_takeIn_22 : Dc cX5_takeIn 22 (.dup) 1 23 := by decide +kernel
theorem d_X5_takeIn_23 : Dc cX5_takeIn 23 (.getfield 15) 3 26 := by decide +kernel
theorem d_X5_takeIn_26 : Dc cX5_takeIn 26 (.iconst 1) 1 27 := by decide +kernel
theorem d_X5_takeIn_27 : Dc cX5_takeIn 27 (.iadd) 1 28 := by decide +kernel
theorem d_X5_takeIn_28 : Dc cX5_takeIn 28 (.putfield 15) 3 31 := by decide +kernel
theorem d_X5_takeIn_31 : Dc cX5_takeIn 31 (.iconst 1) 1 32 := by decide +kernel
theorem d_X5_takeIn_32 : Dc cX5_takeIn 32 (.ireturn) 1 33 := by decide +kernel
theorem d_X5_readInto_0 : Dc cX5_readInto 0 (.aload_n 1) 1 1 := by decide +kernel
theorem d_X5_readInto_1 : Dc cX5_readInto 1 (.invokevirtual 19) 3 4 := by decide +kernel
theorem d_X5_readInto_4 : Dc cX5_readInto 4 (.aload_n 0) 1 5 := by decide +kernel
theorem d_X5_readInto_5 : Dc cX5_readInto 5 (.iconst 0) 1 6 := by decide +kernel
theorem d_X5_readInto_6 : Dc cX5_readInto 6 (.putfield 24) 3 9 := by decide +kernel
theorem d_X5_readInto_9 : Dc cX5_readInto 9 (.aload_n 0) 1 10 := by decide +kernel
theorem d_X5_readInto_10 : Dc cX5_readInto 10 (.invokevirtual 27) 3 13 := by decide +kernel
theorem d_X5_readInto_13 : Dc cX5_readInto 13 (.aload_n 0) 1 14 := by decide +kernel
theorem d_X5_readInto_14 : Dc cX5_readInto 14 (.aload_n 1) 1 15 := by decide +kernel
theorem d_X5_readInto_15 : Dc cX5_readInto 15 (.invokevirtual 30) 3 18 := by decide +kernel
theorem d_X5_readInto_18 : Dq cX5_readInto 18 (.ifCond .eq) 41 21 := by decide +kernel
theorem d_X5_readInto_21 : Dc cX5_readInto 21 (.aload_n 0) 1 22 := by decide +kernel
theorem d_X5_readInto_22 : Dc cX5_readInto 22 (.aload_n 1) 1 23 := by decide +kernel
theorem d_X5_readInto_23 : Dc cX5_readInto 23 (.invokevirtual 34) 3 26 := by decide +kernel
theorem d_X5_readInto_26 : Dq cX5_readInto 26 (.ifCond .eq) 41 29 := by decide +kernel
theorem d_X5_readInto_29 : Dc cX5_readInto 29 (.aload_n 0) 1 30 := by decide +kernel
theorem d_X5_readInto_30 : Dc cX5_readInto 30 (.aload_n 1) 1 31 := by decide +kernel
theorem d_X5_readInto_31 : Dc cX5_readInto 31 (.invokevirtual 37) 3 34 := by decide +kernel
theorem d_X5_readInto_34 : Dq cX5_readInto 34 (.ifCond .eq) 41 37 := by decide +kernel
theorem d_X5_readInto_37 : Dc cX5_readInto 37 (.iconst 1) 1 38 := by decide +kernel
theorem d_X5_readInto_38 : Dq cX5_readInto 38 (.goto) 42 41 := by decide +kernel
theorem d_X5_readInto_41 : Dc cX5_readInto 41 (.iconst 0) 1 42 := by decide +kernel
theorem d_X5_readInto_42 : Dc cX5_readInto 42 (.ireturn) 1 43 := by decide +kernel
theorem d_X5_readLaw_0 : Dc cX5_readLaw 0 (.aload_n 0) 1 1 := by decide +kernel
theorem d_X5_readLaw_1 : Dc cX5_readLaw 1 (.bipush 108) 2 3 := by decide +kernel
theorem d_X5_readLaw_3 : Dc cX5_readLaw 3 (.invokevirtual 40) 3 6 := by decide +kernel
theorem d_X5_readLaw_6 : Dq cX5_readLaw 6 (.ifCond .eq) 18 9 := by decide +kernel
theorem d_X5_readLaw_9 : Dc cX5_readLaw 9 (.aload_n 0) 1 10 := by decide +kernel
theorem d_X5_readLaw_10 : Dc cX5_readLaw 10 (.iconst 1) 1 11 := by decide +kernel
theorem d_X5_readLaw_11 : Dc cX5_readLaw 11 (.iconst 5) 1 12 := by decide +kernel
theorem d_X5_readLaw_12 : Dc cX5_readLaw 12 (.invokevirtual 44) 3 15 := by decide +kernel
theorem d_X5_readLaw_15 : Dq cX5_readLaw 15 (.ifCond .ne) 20 18 := by decide +kernel
theorem d_X5_readLaw_18 : Dc cX5_readLaw 18 (.iconst 0) 1 19 := by decide +kernel
theorem d_X5_readLaw_19 : Dc cX5_readLaw 19 (.ireturn) 1 20 := by decide +kernel
theorem d_X5_readLaw_20 : Dc cX5_readLaw 20 (.aload_n 1) 1 21 := by decide +kernel
theorem d_X5_readLaw_21 : Dc cX5_readLaw 21 (.aload_n 0) 1 22 := by decide +kernel
theorem d_X5_readLaw_22 : Dc cX5_readLaw 22 (.invokevirtual 48) 3 25 := by decide +kernel
theorem d_X5_readLaw_25 : Dc cX5_readLaw 25 (.putfield 52) 3 28 := by decide +kernel
theorem d_X5_readLaw_28 : Dc cX5_readLaw 28 (.aload_n 0) 1 29 := by decide +kernel
theorem d_X5_readLaw_29 : Dc cX5_readLaw 29 (.bipush 59) 2 31 := by decide +kernel
theorem d_X5_readLaw_31 : Dc cX5_readLaw 31 (.invokevirtual 40) 3 34 := by decide +kernel
theorem d_X5_readLaw_34 : Dc cX5_readLaw 34 (.ireturn) 1 35 := by decide +kernel
theorem d_X5_readMachines_0 : Dc cX5_readMachines 0 (.iconst 0) 1 1 := by decide +kernel
theorem d_X5_readMachines_1 : Dc cX5_readMachines 1 (.istore_n 2) 1 2 := by decide +kernel
theorem d_X5_readMachines_2 : Dc cX5_readMachines 2 (.iload_n 2) 1 3 := by decide +kernel
theorem d_X5_readMachines_3 : Dc cX5_readMachines 3 (.iconst 5) 1 4 := by decide +kernel
theorem d_X5_readMachines_4 : Dq cX5_readMachines 4 (.if_icmp .gt) 44 7 := by decide +kernel
theorem d_X5_readMachines_7 : Dc cX5_readMachines 7 (.aload_n 0) 1 8 := by decide +kernel
theorem d_X5_readMachines_8 : Dc cX5_readMachines 8 (.getfield 55) 3 11 := by decide +kernel
theorem d_X5_readMachines_11 : Dc cX5_readMachines 11 (.invokestatic 58) 3 14 := by decide +kernel
theorem d_X5_readMachines_14 : Dq cX5_readMachines 14 (.ifCond .le) 44 17 := by decide +kernel
theorem d_X5_readMachines_17 : Dc cX5_readMachines 17 (.iload_n 2) 1 18 := by decide +kernel
theorem d_X5_readMachines_18 : Dc cX5_readMachines 18 (.iconst 5) 1 19 := by decide +kernel
theorem d_X5_readMachines_19 : Dq cX5_readMachines 19 (.if_icmp .ne) 28 22 := by decide +kernel
theorem d_X5_readMachines_22 : Dc cX5_readMachines 22 (.aload_n 0) 1 23 := by decide +kernel
theorem d_X5_readMachines_23 : Dc cX5_readMachines 23 (.iconst 3) 1 24 := by decide +kernel
theorem d_X5_readMachines_24 : Dc cX5_readMachines 24 (.invokevirtual 62) 3 27 := by decide +kernel
theorem d_X5_readMachines_27 : Dc cX5_readMachines 27 (.ireturn) 1 28 := by decide +kernel
theorem d_X5_readMachines_28 : Dc cX5_readMachines 28 (.aload_n 0) 1 29 := by decide +kernel
theorem d_X5_readMachines_29 : Dc cX5_readMachines 29 (.aload_n 1) 1 30 := by decide +kernel
theorem d_X5_readMachines_30 : Dc cX5_readMachines 30 (.invokevirtual 65) 3 33 := by decide +kernel
theorem d_X5_readMachines_33 : Dq cX5_readMachines 33 (.ifCond .ne) 38 36 := by decide +kernel
theorem d_X5_readMachines_36 : Dc cX5_readMachines 36 (.iconst 0) 1 37 := by decide +kernel
theorem d_X5_readMachines_37 : Dc cX5_readMachines 37 (.ireturn) 1 38 := by decide +kernel
theorem d_X5_readMachines_38 : Dc cX5_readMachines 38 (.iinc 2 1) 3 41 := by decide +kernel
theorem d_X5_readMachines_41 : Dq cX5_readMachines 41 (.goto) 2 44 := by decide +kernel
theorem d_X5_readMachines_44 : Dc cX5_readMachines 44 (.aload_n 1) 1 45 := by decide +kernel
theorem d_X5_readMachines_45 : Dc cX5_readMachines 45 (.getfield 68) 3 48 := by decide +kernel
theorem d_X5_readMachines_48 : Dq cX5_readMachines 48 (.ifCond .gt) 59 51 := by decide +kernel
theorem d_X5_readMachines_51 : Dc cX5_readMachines 51 (.aload_n 0) 1 52 := by decide +kernel
theorem d_X5_readMachines_52 : Dc cX5_readMachines 52 (.iconst 1) 1 53 := by decide +kernel
theorem d_X5_readMachines_53 : Dc cX5_readMachines 53 (.invokevirtual 62) 3 56 := by decide +kernel
theorem d_X5_readMachines_56 : Dq cX5_readMachines 56 (.ifCond .eq) 63 59 := by decide +kernel
theorem d_X5_readMachines_59 : Dc cX5_readMachines 59 (.iconst 1) 1 60 := by decide +kernel
theorem d_X5_readMachines_60 : Dq cX5_readMachines 60 (.goto) 64 63 := by decide +kernel
theorem d_X5_readMachines_63 : Dc cX5_readMachines 63 (.iconst 0) 1 64 := by decide +kernel
theorem d_X5_readMachines_64 : Dc cX5_readMachines 64 (.ireturn) 1 65 := by decide +kernel
theorem d_X5_readMachine_0 : Dc cX5_readMachine 0 (.aload_n 0) 1 1 := by decide +kernel
theorem d_X5_readMachine_1 : Dc cX5_readMachine 1 (.getfield 55) 3 4 := by decide +kernel
theorem d_X5_readMachine_4 : Dc cX5_readMachine 4 (.invokestatic 58) 3 7 := by decide +kernel
theorem d_X5_readMachine_7 : Dc cX5_readMachine 7 (.istore_n 2) 1 8 := by decide +kernel
theorem d_X5_readMachine_8 : Dc cX5_readMachine 8 (.aload_n 0) 1 9 := by decide +kernel
theorem d_X5_readMachine_9 : Dc cX5_readMachine 9 (.invokevirtual 27) 3 12 := by decide +kernel
theorem d_X5_readMachine_12 : Dc cX5_readMachine 12 (.aload_n 0) 1 13 := by decide +kernel
theorem d_X5_readMachine_13 : Dc cX5_readMachine 13 (.iconst 1) 1 14 := by decide +kernel
theorem d_X5_readMachine_14 : Dc cX5_readMachine 14 (.bipush 9) 2 16 := by decide +kernel
theorem d_X5_readMachine_16 : Dc cX5_readMachine 16 (.invokevirtual 44) 3 19 := by decide +kernel
theorem d_X5_readMachine_19 : Dq cX5_readMachine 19 (.ifCond .ne) 24 22 := by decide +kernel
theorem d_X5_readMachine_22 : Dc cX5_readMachine 22 (.iconst 0) 1 23 := by decide +kernel
theorem d_X5_readMachine_23 : Dc cX5_readMachine 23 (.ireturn) 1 24 := by decide +kernel
theorem d_X5_readMachine_24 : Dc cX5_readMachine 24 (.aload_n 0) 1 25 := by decide +kernel
theorem d_X5_readMachine_25 : Dc cX5_readMachine 25 (.invokevirtual 48) 3 28 := by decide +kernel
theorem d_X5_readMachine_28 : Dc cX5_readMachine 28 (.istore_n 3) 1 29 := by decide +kernel
theorem d_X5_readMachine_29 : Dc cX5_readMachine 29 (.aload_n 0) 1 30 := by decide +kernel
theorem d_X5_readMachine_30 : Dc cX5_readMachine 30 (.bipush 44) 2 32 := by decide +kernel
theorem d_X5_readMachine_32 : Dc cX5_readMachine 32 (.invokevirtual 40) 3 35 := by decide +kernel
theorem d_X5_readMachine_35 : Dq cX5_readMachine 35 (.ifCond .eq) 47 38 := by decide +kernel
theorem d_X5_readMachine_38 : Dc cX5_readMachine 38 (.aload_n 0) 1 39 := by decide +kernel
theorem d_X5_readMachine_39 : Dc cX5_readMachine 39 (.iconst 0) 1 40 := by decide +kernel
theorem d_X5_readMachine_40 : Dc cX5_readMachine 40 (.iconst 5) 1 41 := by decide +kernel
theorem d_X5_readMachine_41 : Dc cX5_readMachine 41 (.invokevirtual 44) 3 44 := by decide +kernel
theorem d_X5_readMachine_44 : Dq cX5_readMachine 44 (.ifCond .ne) 49 47 := by decide +kernel
theorem d_X5_readMachine_47 : Dc cX5_readMachine 47 (.iconst 0) 1 48 := by decide +kernel
theorem d_X5_readMachine_48 : Dc cX5_readMachine 48 (.ireturn) 1 49 := by decide +kernel
theorem d_X5_readMachine_49 : Dc cX5_readMachine 49 (.aload_n 1) 1 50 := by decide +kernel
theorem d_X5_readMachine_50 : Dc cX5_readMachine 50 (.iload_n 2) 1 51 := by decide +kernel
theorem d_X5_readMachine_51 : Dc cX5_readMachine 51 (.iload_n 3) 1 52 := by decide +kernel
theorem d_X5_readMachine_52 : Dc cX5_readMachine 52 (.aload_n 0) 1 53 := by decide +kernel
theorem d_X5_readMachine_53 : Dc cX5_readMachine 53 (.invokevirtual 48) 3 56 := by decide +kernel
theorem d_X5_readMachine_56 : Dc cX5_readMachine 56 (.invokevirtual 71) 3 59 := by decide +kernel
theorem d_X5_readMachine_59 : Dc cX5_readMachine 59 (.aload_n 0) 1 60 := by decide +kernel
theorem d_X5_readMachine_60 : Dc cX5_readMachine 60 (.bipush 59) 2 62 := by decide +kernel
theorem d_X5_readMachine_62 : Dc cX5_readMachine 62 (.invokevirtual 40) 3 65 := by decide +kernel
theorem d_X5_readMachine_65 : Dc cX5_readMachine 65 (.ireturn) 1 66 := by decide +kernel
theorem d_X5_readLoads_0 : Dc cX5_readLoads 0 (.iconst 0) 1 1 := by decide +kernel
theorem d_X5_readLoads_1 : Dc cX5_readLoads 1 (.istore_n 2) 1 2 := by decide +kernel
theorem d_X5_readLoads_2 : Dc cX5_readLoads 2 (.iload_n 2) 1 3 := by decide +kernel
theorem d_X5_readLoads_3 : Dc cX5_readLoads 3 (.bipush 6) 2 5 := by decide +kernel
theorem d_X5_readLoads_5 : Dq cX5_readLoads 5 (.if_icmp .gt) 45 8 := by decide +kernel
theorem d_X5_readLoads_8 : Dc cX5_readLoads 8 (.aload_n 0) 1 9 := by decide +kernel
theorem d_X5_readLoads_9 : Dc cX5_readLoads 9 (.getfield 55) 3 12 := by decide +kernel
theorem d_X5_readLoads_12 : Dc cX5_readLoads 12 (.bipush 98) 2 14 := by decide +kernel
theorem d_X5_readLoads_14 : Dq cX5_readLoads 14 (.if_icmp .ne) 45 17 := by decide +kernel
theorem d_X5_readLoads_17 : Dc cX5_readLoads 17 (.iload_n 2) 1 18 := by decide +kernel
theorem d_X5_readLoads_18 : Dc cX5_readLoads 18 (.bipush 6) 2 20 := by decide +kernel
theorem d_X5_readLoads_20 : Dq cX5_readLoads 20 (.if_icmp .ne) 29 23 := by decide +kernel
theorem d_X5_readLoads_23 : Dc cX5_readLoads 23 (.aload_n 0) 1 24 := by decide +kernel
theorem d_X5_readLoads_24 : Dc cX5_readLoads 24 (.iconst 3) 1 25 := by decide +kernel
theorem d_X5_readLoads_25 : Dc cX5_readLoads 25 (.invokevirtual 62) 3 28 := by decide +kernel
theorem d_X5_readLoads_28 : Dc cX5_readLoads 28 (.ireturn) 1 29 := by decide +kernel
theorem d_X5_readLoads_29 : Dc cX5_readLoads 29 (.aload_n 0) 1 30 := by decide +kernel
theorem d_X5_readLoads_30 : Dc cX5_readLoads 30 (.aload_n 1) 1 31 := by decide +kernel
theorem d_X5_readLoads_31 : Dc cX5_readLoads 31 (.invokevirtual 75) 3 34 := by decide +kernel
theorem d_X5_readLoads_34 : Dq cX5_readLoads 34 (.ifCond .ne) 39 37 := by decide +kernel
theorem d_X5_readLoads_37 : Dc cX5_readLoads 37 (.iconst 0) 1 38 := by decide +kernel
theorem d_X5_readLoads_38 : Dc cX5_readLoads 38 (.ireturn) 1 39 := by decide +kernel
theorem d_X5_readLoads_39 : Dc cX5_readLoads 39 (.iinc 2 1) 3 42 := by decide +kernel
theorem d_X5_readLoads_42 : Dq cX5_readLoads 42 (.goto) 2 45 := by decide +kernel
theorem d_X5_readLoads_45 : Dc cX5_readLoads 45 (.aload_n 1) 1 46 := by decide +kernel
theorem d_X5_readLoads_46 : Dc cX5_readLoads 46 (.getfield 78) 3 49 := by decide +kernel
theorem d_X5_readLoads_49 : Dq cX5_readLoads 49 (.ifCond .le) 62 52 := by decide +kernel
theorem d_X5_readLoads_52 : Dc cX5_readLoads 52 (.aload_n 0) 1 53 := by decide +kernel
theorem d_X5_readLoads_53 : Dc cX5_readLoads 53 (.getfield 55) 3 56 := by decide +kernel
theorem d_X5_readLoads_56 : Dc cX5_readLoads 56 (.sipush 257) 3 59 := by decide +kernel
theorem d_X5_readLoads_59 : Dq cX5_readLoads 59 (.if_icmp .eq) 70 62 := by decide +kernel
theorem d_X5_readLoads_62 : Dc cX5_readLoads 62 (.aload_n 0) 1 63 := by decide +kernel
theorem d_X5_readLoads_63 : Dc cX5_readLoads 63 (.iconst 1) 1 64 := by decide +kernel
theorem d_X5_readLoads_64 : Dc cX5_readLoads 64 (.invokevirtual 62) 3 67 := by decide +kernel
theorem d_X5_readLoads_67 : Dq cX5_readLoads 67 (.ifCond .eq) 74 70 := by decide +kernel
theorem d_X5_readLoads_70 : Dc cX5_readLoads 70 (.iconst 1) 1 71 := by decide +kernel
theorem d_X5_readLoads_71 : Dq cX5_readLoads 71 (.goto) 75 74 := by decide +kernel
theorem d_X5_readLoads_74 : Dc cX5_readLoads 74 (.iconst 0) 1 75 := by decide +kernel
theorem d_X5_readLoads_75 : Dc cX5_readLoads 75 (.ireturn) 1 76 := by decide +kernel
theorem d_X5_readLoad_0 : Dc cX5_readLoad 0 (.aload_n 0) 1 1 := by decide +kernel
theorem d_X5_readLoad_1 : Dc cX5_readLoad 1 (.invokevirtual 27) 3 4 := by decide +kernel
theorem d_X5_readLoad_4 : Dc cX5_readLoad 4 (.aload_n 0) 1 5 := by decide +kernel
theorem d_X5_readLoad_5 : Dc cX5_readLoad 5 (.iconst 1) 1 6 := by decide +kernel
theorem d_X5_readLoad_6 : Dc cX5_readLoad 6 (.bipush 9) 2 8 := by decide +kernel
theorem d_X5_readLoad_8 : Dc cX5_readLoad 8 (.invokevirtual 44) 3 11 := by decide +kernel
theorem d_X5_readLoad_11 : Dq cX5_readLoad 11 (.ifCond .ne) 16 14 := by decide +kernel
theorem d_X5_readLoad_14 : Dc cX5_readLoad 14 (.iconst 0) 1 15 := by decide +kernel
theorem d_X5_readLoad_15 : Dc cX5_readLoad 15 (.ireturn) 1 16 := by decide +kernel
theorem d_X5_readLoad_16 : Dc cX5_readLoad 16 (.aload_n 0) 1 17 := by decide +kernel
theorem d_X5_readLoad_17 : Dc cX5_readLoad 17 (.invokevirtual 48) 3 20 := by decide +kernel
theorem d_X5_readLoad_20 : Dc cX5_readLoad 20 (.istore_n 2) 1 21 := by decide +kernel
theorem d_X5_readLoad_21 : Dc cX5_readLoad 21 (.aload_n 0) 1 22 := by decide +kernel
theorem d_X5_readLoad_22 : Dc cX5_readLoad 22 (.bipush 44) 2 24 := by decide +kernel
theorem d_X5_readLoad_24 : Dc cX5_readLoad 24 (.invokevirtual 40) 3 27 := by decide +kernel
theorem d_X5_readLoad_27 : Dq cX5_readLoad 27 (.ifCond .eq) 40 30 := by decide +kernel
theorem d_X5_readLoad_30 : Dc cX5_readLoad 30 (.aload_n 0) 1 31 := by decide +kernel
theorem d_X5_readLoad_31 : Dc cX5_readLoad 31 (.iconst 0) 1 32 := by decide +kernel
theorem d_X5_readLoad_32 : Dc cX5_readLoad 32 (.bipush 60) 2 34 := by decide +kernel
theorem d_X5_readLoad_34 : Dc cX5_readLoad 34 (.invokevirtual 44) 3 37 := by decide +kernel
theorem d_X5_readLoad_37 : Dq cX5_readLoad 37 (.ifCond .ne) 42 40 := by decide +kernel
theorem d_X5_readLoad_40 : Dc cX5_readLoad 40 (.iconst 0) 1 41 := by decide +kernel
theorem d_X5_readLoad_41 : Dc cX5_readLoad 41 (.ireturn) 1 42 := by decide +kernel
theorem d_X5_readLoad_42 : Dc cX5_readLoad 42 (.aload_n 1) 1 43 := by decide +kernel
theorem d_X5_readLoad_43 : Dc cX5_readLoad 43 (.iload_n 2) 1 44 := by decide +kernel
theorem d_X5_readLoad_44 : Dc cX5_readLoad 44 (.aload_n 0) 1 45 := by decide +kernel
theorem d_X5_readLoad_45 : Dc cX5_readLoad 45 (.invokevirtual 48) 3 48 := by decide +kernel
theorem d_X5_readLoad_48 : Dc cX5_readLoad 48 (.invokevirtual 81) 3 51 := by decide +kernel
theorem d_X5_readLoad_51 : Dc cX5_readLoad 51 (.aload_n 0) 1 52 := by decide +kernel
theorem d_X5_readLoad_52 : Dc cX5_readLoad 52 (.bipush 59) 2 54 := by decide +kernel
theorem d_X5_readLoad_54 : Dc cX5_readLoad 54 (.invokevirtual 40) 3 57 := by decide +kernel
theorem d_X5_readLoad_57 : Dc cX5_readLoad 57 (.ireturn) 1 58 := by decide +kernel
theorem d_X5_kindOfLetter_0 : Dc cX5_kindOfLetter 0 (.iload_n 0) 1 1 := by decide +kernel
theorem d_X5_kindOfLetter_1 : decode cX5_kindOfLetter 1 = .ok (.lookupswitch 61 #[(100, 57), (103, 55), (113, 53), (115, 59), (119, 51)], 51) := by decide +kernel
theorem d_X5_kindOfLetter_52 : Dc cX5_kindOfLetter 52 (.iconst 1) 1 53 := by decide +kernel
theorem d_X5_kindOfLetter_53 : Dc cX5_kindOfLetter 53 (.ireturn) 1 54 := by decide +kernel
theorem d_X5_kindOfLetter_54 : Dc cX5_kindOfLetter 54 (.iconst 2) 1 55 := by decide +kernel
theorem d_X5_kindOfLetter_55 : Dc cX5_kindOfLetter 55 (.ireturn) 1 56 := by decide +kernel
theorem d_X5_kindOfLetter_56 : Dc cX5_kindOfLetter 56 (.iconst 3) 1 57 := by decide +kernel
theorem d_X5_kindOfLetter_57 : Dc cX5_kindOfLetter 57 (.ireturn) 1 58 := by decide +kernel
theorem d_X5_kindOfLetter_58 : Dc cX5_kindOfLetter 58 (.iconst 4) 1 59 := by decide +kernel
theorem d_X5_kindOfLetter_59 : Dc cX5_kindOfLetter 59 (.ireturn) 1 60 := by decide +kernel
theorem d_X5_kindOfLetter_60 : Dc cX5_kindOfLetter 60 (.iconst 5) 1 61 := by decide +kernel
theorem d_X5_kindOfLetter_61 : Dc cX5_kindOfLetter 61 (.ireturn) 1 62 := by decide +kernel
theorem d_X5_kindOfLetter_62 : Dc cX5_kindOfLetter 62 (.iconst 0) 1 63 := by decide +kernel
theorem d_X5_kindOfLetter_63 : Dc cX5_kindOfLetter 63 (.ireturn) 1 64 := by decide +kernel
theorem d_X5_failed_0 : Dc cX5_failed 0 (.aload_n 0) 1 1 := by decide +kernel
theorem d_X5_failed_1 : Dc cX5_failed 1 (.iload_n 1) 1 2 := by decide +kernel
theorem d_X5_failed_2 : Dc cX5_failed 2 (.putfield 85) 3 5 := by decide +kernel
theorem d_X5_failed_5 : Dc cX5_failed 5 (.iconst 0) 1 6 := by decide +kernel
theorem d_X5_failed_6 : Dc cX5_failed 6 (.ireturn) 1 7 := by decide +kernel
theorem d_X5_passes_0 : Dc cX5_passes 0 (.aload_n 0) 1 1 := by decide +kernel
theorem d_X5_passes_1 : Dc cX5_passes 1 (.getfield 55) 3 4 := by decide +kernel
theorem d_X5_passes_4 : Dc cX5_passes 4 (.iload_n 1) 1 5 := by decide +kernel
theorem d_X5_passes_5 : Dq cX5_passes 5 (.if_icmp .eq) 14 8 := by decide +kernel
theorem d_X5_passes_8 : Dc cX5_passes 8 (.aload_n 0) 1 9 := by decide +kernel
theorem d_X5_passes_9 : Dc cX5_passes 9 (.iconst 1) 1 10 := by decide +kernel
theorem d_X5_passes_10 : Dc cX5_passes 10 (.invokevirtual 62) 3 13 := by decide +kernel
theorem d_X5_passes_13 : Dc cX5_passes 13 (.ireturn) 1 14 := by decide +kernel
theorem d_X5_passes_14 : Dc cX5_passes 14 (.aload_n 0) 1 15 := by decide +kernel
theorem d_X5_passes_15 : Dc cX5_passes 15 (.invokevirtual 27) 3 18 := by decide +kernel
theorem d_X5_passes_18 : Dc cX5_passes 18 (.iconst 1) 1 19 := by decide +kernel
theorem d_X5_passes_19 : Dc cX5_passes 19 (.ireturn) 1 20 := by decide +kernel
theorem d_X5_isNumber_0 : Dc cX5_isNumber 0 (.aload_n 0) 1 1 := by decide +kernel
theorem d_X5_isNumber_1 : Dc cX5_isNumber 1 (.getfield 55) 3 4 := by decide +kernel
theorem d_X5_isNumber_4 : Dc cX5_isNumber 4 (.sipush 256) 3 7 := by decide +kernel
theorem d_X5_isNumber_7 : Dq cX5_isNumber 7 (.if_icmp .eq) 16 10 := by decide +kernel
theorem d_X5_isNumber_10 : Dc cX5_isNumber 10 (.aload_n 0) 1 11 := by decide +kernel
theorem d_X5_isNumber_11 : Dc cX5_isNumber 11 (.iconst 1) 1 12 := by decide +kernel
theorem d_X5_isNumber_12 : Dc cX5_isNumber 12 (.invokevirtual 62) 3 15 := by decide +kernel
theorem d_X5_isNumber_15 : Dc cX5_isNumber 15 (.ireturn) 1 16 := by decide +kernel
theorem d_X5_isNumber_16 : Dc cX5_isNumber 16 (.aload_n 0) 1 17 := by decide +kernel
theorem d_X5_isNumber_17 : Dc cX5_isNumber 17 (.getfield 88) 3 20 := by decide +kernel
theorem d_X5_isNumber_20 : Dc cX5_isNumber 20 (.iload_n 1) 1 21 := by decide +kernel
theorem d_X5_isNumber_21 : Dq cX5_isNumber 21 (.if_icmp .lt) 32 24 := by decide +kernel
theorem d_X5_isNumber_24 : Dc cX5_isNumber 24 (.aload_n 0) 1 25 := by decide +kernel
theorem d_X5_isNumber_25 : Dc cX5_isNumber 25 (.getfield 88) 3 28 := by decide +kernel
theorem d_X5_isNumber_28 : Dc cX5_isNumber 28 (.iload_n 2) 1 29 := by decide +kernel
theorem d_X5_isNumber_29 : Dq cX5_isNumber 29 (.if_icmp .le) 40 32 := by decide +kernel
theorem d_X5_isNumber_32 : Dc cX5_isNumber 32 (.aload_n 0) 1 33 := by decide +kernel
theorem d_X5_isNumber_33 : Dc cX5_isNumber 33 (.iconst 2) 1 34 := by decide +kernel
theorem d_X5_isNumber_34 : Dc cX5_isNumber 34 (.invokevirtual 62) 3 37 := by decide +kernel
theorem d_X5_isNumber_37 : Dq cX5_isNumber 37 (.ifCond .eq) 44 40 := by decide +kernel
theorem d_X5_isNumber_40 : Dc cX5_isNumber 40 (.iconst 1) 1 41 := by decide +kernel
theorem d_X5_isNumber_41 : Dq cX5_isNumber 41 (.goto) 45 44 := by decide +kernel
theorem d_X5_isNumber_44 : Dc cX5_isNumber 44 (.iconst 0) 1 45 := by decide +kernel
theorem d_X5_isNumber_45 : Dc cX5_isNumber 45 (.ireturn) 1 46 := by decide +kernel
theorem d_X5_takeNumber_0 : Dc cX5_takeNumber 0 (.aload_n 0) 1 1 := by decide +kernel
theorem d_X5_takeNumber_1 : Dc cX5_takeNumber 1 (.getfield 88) 3 4 := by decide +kernel
theorem d_X5_takeNumber_4 : Dc cX5_takeNumber 4 (.istore_n 1) 1 5 := by decide +kernel
theorem d_X5_takeNumber_5 : Dc cX5_takeNumber 5 (.aload_n 0) 1 6 := by decide +kernel
theorem d_X5_takeNumber_6 : Dc cX5_takeNumber 6 (.invokevirtual 27) 3 9 := by decide +kernel
theorem d_X5_takeNumber_9 : Dc cX5_takeNumber 9 (.iload_n 1) 1 10 := by decide +kernel
theorem d_X5_takeNumber_10 : Dc cX5_takeNumber 10 (.ireturn) 1 11 := by decide +kernel
theorem d_X5_toNextToken_0 : Dc cX5_toNextToken 0 (.aload_n 0) 1 1 := by decide +kernel
theorem d_X5_toNextToken_1 : Dc cX5_toNextToken 1 (.aload_n 0) 1 2 := by decide +kernel
theorem d_X5_toNextToken_2 : Dc cX5_toNextToken 2 (.getfield 24) 3 5 := by decide +kernel
theorem d_X5_toNextToken_5 : Dc cX5_toNextToken 5 (.putfield 91) 3 8 := by decide +kernel
theorem d_X5_toNextToken_8 : Dc cX5_toNextToken 8 (.aload_n 0) 1 9 := by decide +kernel
theorem d_X5_toNextToken_9 : Dc cX5_toNextToken 9 (.getfield 91) 3 12 := by decide +kernel
theorem d_X5_toNextToken_12 : Dc cX5_toNextToken 12 (.aload_n 0) 1 13 := by decide +kernel
theorem d_X5_toNextToken_13 : Dc cX5_toNextToken 13 (.getfield 15) 3 16 := by decide +kernel
theorem d_X5_toNextToken_16 : Dq cX5_toNextToken 16 (.if_icmp .lt) 29 19 := by decide +kernel
theorem d_X5_toNextToken_19 : Dc cX5_toNextToken 19 (.aload_n 0) 1 20 := by decide +kernel
theorem d_X5_toNextToken_20 : Dc cX5_toNextToken 20 (.sipush 257) 3 23 := by decide +kernel
theorem d_X5_toNextToken_23 : Dc cX5_toNextToken 23 (.putfield 55) 3 26 := by decide +kernel
theorem d_X5_toNextToken_26 : Dq cX5_toNextToken 26 (.goto) 70 29 := by decide +kernel
theorem d_X5_toNextToken_29 : Dc cX5_toNextToken 29 (.aload_n 0) 1 30 := by decide +kernel
theorem d_X5_toNextToken_30 : Dc cX5_toNextToken 30 (.aload_n 0) 1 31 := by decide +kernel
theorem d_X5_toNextToken_31 : Dc cX5_toNextToken 31 (.getfield 91) 3 34 := by decide +kernel
theorem d_X5_toNextToken_34 : Dc cX5_toNextToken 34 (.invokevirtual 94) 3 37 := by decide +kernel
theorem d_X5_toNextToken_37 : Dq cX5_toNextToken 37 (.ifCond .eq) 47 40 := by decide +kernel
theorem d_X5_toNextToken_40 : Dc cX5_toNextToken 40 (.aload_n 0) 1 41 := by decide +kernel
theorem d_X5_toNextToken_41 : Dc cX5_toNextToken 41 (.invokevirtual 97) 3 44 := by decide +kernel
theorem d_X5_toNextToken_44 : Dq cX5_toNextToken 44 (.goto) 70 47 := by decide +kernel
theorem d_X5_toNextToken_47 : Dc cX5_toNextToken 47 (.aload_n 0) 1 48 := by decide +kernel
theorem d_X5_toNextToken_48 : Dc cX5_toNextToken 48 (.aload_n 0) 1 49 := by decide +kernel
theorem d_X5_toNextToken_49 : Dc cX5_toNextToken 49 (.getfield 11) 3 52 := by decide +kernel
theorem d_X5_toNextToken_52 : Dc cX5_toNextToken 52 (.aload_n 0) 1 53 := by decide +kernel
theorem d_X5_toNextToken_53 : Dc cX5_toNextToken 53 (.getfield 91) 3 56 := by decide +kernel
theorem d_X5_toNextToken_56 : Dc cX5_toNextToken 56 (.iaload) 1 57 := by decide +kernel
theorem d_X5_toNextToken_57 : Dc cX5_toNextToken 57 (.putfield 55) 3 60 := by decide +kernel
theorem d_X5_toNextToken_60 : Dc cX5_toNextToken 60 (.aload_n 0) 1 61 := by decide +kernel
theorem d_X5_toNextToken_61 : Dc cX5_toNextToken 61 (.aload_n 0) 1 62 := by decide +kernel
theorem d_X5_toNextToken_62 : Dc cX5_toNextToken 62 (.getfield 91) 3 65 := by decide +kernel
theorem d_X5_toNextToken_65 : Dc cX5_toNextToken 65 (.iconst 1) 1 66 := by decide +kernel
theorem d_X5_toNextToken_66 : Dc cX5_toNextToken 66 (.iadd) 1 67 := by decide +kernel
theorem d_X5_toNextToken_67 : Dc cX5_toNextToken 67 (.putfield 24) 3 70 := by decide +kernel
theorem d_X5_toNextToken_70 : Dc cX5_toNextToken 70 (.return_) 1 71 := by decide +kernel
theorem d_X5_readFigures_0 : Dc cX5_readFigures 0 (.aload_n 0) 1 1 := by decide +kernel
theorem d_X5_readFigures_1 : Dc cX5_readFigures 1 (.iconst 0) 1 2 := by decide +kernel
theorem d_X5_readFigures_2 : Dc cX5_readFigures 2 (.putfield 88) 3 5 := by decide +kernel
theorem d_X5_readFigures_5 : Dc cX5_readFigures 5 (.aload_n 0) 1 6 := by decide +kernel
theorem d_X5_readFigures_6 : Dc cX5_readFigures 6 (.getfield 24) 3 9 := by decide +kernel
theorem d_X5_readFigures_9 : Dc cX5_readFigures 9 (.aload_n 0) 1 10 := by decide +kernel
theorem d_X5_readFigures_10 : Dc cX5_readFigures 10 (.getfield 15) 3 13 := by decide +kernel
theorem d_X5_readFigures_13 : Dq cX5_readFigures 13 (.if_icmp .ge) 64 16 := by decide +kernel
theorem d_X5_readFigures_16 : Dc cX5_readFigures 16 (.aload_n 0) 1 17 := by decide +kernel
theorem d_X5_readFigures_17 : Dc cX5_readFigures 17 (.aload_n 0) 1 18 := by decide +kernel
theorem d_X5_readFigures_18 : Dc cX5_readFigures 18 (.getfield 24) 3 21 := by decide +kernel
theorem d_X5_readFigures_21 : Dc cX5_readFigures 21 (.invokevirtual 94) 3 24 := by decide +kernel
theorem d_X5_readFigures_24 : Dq cX5_readFigures 24 (.ifCond .eq) 64 27 := by decide +kernel
theorem d_X5_readFigures_27 : Dc cX5_readFigures 27 (.aload_n 0) 1 28 := by decide +kernel
theorem d_X5_readFigures_28 : Dc cX5_readFigures 28 (.aload_n 0) 1 29 := by decide +kernel
theorem d_X5_readFigures_29 : Dc cX5_readFigures 29 (.getfield 88) 3 32 := by decide +kernel
theorem d_X5_readFigures_32 : Dc cX5_readFigures 32 (.bipush 10) 2 34 := by decide +kernel
theorem d_X5_readFigures_34 : Dc cX5_readFigures 34 (.imul) 1 35 := by decide +kernel
theorem d_X5_readFigures_35 : Dc cX5_readFigures 35 (.aload_n 0) 1 36 := by decide +kernel
theorem d_X5_readFigures_36 : Dc cX5_readFigures 36 (.getfield 11) 3 39 := by decide +kernel
theorem d_X5_readFigures_39 : Dc cX5_readFigures 39 (.aload_n 0) 1 40 := by decide +kernel
theorem d_X5_readFigures_40 : Dc cX5_readFigures 40 (.getfield 24) 3 43 := by decide +kernel
theorem d_X5_readFigures_43 : Dc cX5_readFigures 43 (.iaload) 1 44 := by decide +kernel
theorem d_X5_readFigures_44 : Dc cX5_readFigures 44 (.iadd) 1 45 := by decide +kernel
theorem d_X5_readFigures_45 : Dc cX5_readFigures 45 (.bipush 48) 2 47 := by decide +kernel
theorem d_X5_readFigures_47 : Dc cX5_readFigures 47 (.isub) 1 48 := by decide +kernel
theorem d_X5_readFigures_48 : Dc cX5_readFigures 48 (.putfield 88) 3 51 := by decide +kernel
theorem d_X5_readFigures_51 : Dc cX5_readFigures 51 (.aload_n 0) 1 52 := by decide +kernel
theorem d_X5_readFigures_52 : Dc cX5_readFigures 52 (.dup) 1 53 := by decide +kernel
theorem d_X5_readFigures_53 : Dc cX5_readFigures 53 (.getfield 24) 3 56 := by decide +kernel
theorem d_X5_readFigures_56 : Dc cX5_readFigures 56 (.iconst 1) 1 57 := by decide +kernel
theorem d_X5_readFigures_57 : Dc cX5_readFigures 57 (.iadd) 1 58 := by decide +kernel
theorem d_X5_readFigures_58 : Dc cX5_readFigures 58 (.putfield 24) 3 61 := by decide +kernel
theorem d_X5_readFigures_61 : Dq cX5_readFigures 61 (.goto) 5 64 := by decide +kernel
theorem d_X5_readFigures_64 : Dc cX5_readFigures 64 (.aload_n 0) 1 65 := by decide +kernel
theorem d_X5_readFigures_65 : Dc cX5_readFigures 65 (.aload_n 0) 1 66 := by decide +kernel
theorem d_X5_readFigures_66 : Dc cX5_readFigures 66 (.getfield 24) 3 69 := by decide +kernel
theorem d_X5_readFigures_69 : Dc cX5_readFigures 69 (.aload_n 0) 1 70 := by decide +kernel
theorem d_X5_readFigures_70 : Dc cX5_readFigures 70 (.getfield 91) 3 73 := by decide +kernel
theorem d_X5_readFigures_73 : Dc cX5_readFigures 73 (.isub) 1 74 := by decide +kernel
theorem d_X5_readFigures_74 : Dc cX5_readFigures 74 (.iconst 2) 1 75 := by decide +kernel
theorem d_X5_readFigures_75 : Dq cX5_readFigures 75 (.if_icmp .le) 84 78 := by decide +kernel
theorem d_X5_readFigures_78 : Dc cX5_readFigures 78 (.sipush 258) 3 81 := by decide +kernel
theorem d_X5_readFigures_81 : Dq cX5_readFigures 81 (.goto) 87 84 := by decide +kernel
theorem d_X5_readFigures_84 : Dc cX5_readFigures 84 (.sipush 256) 3 87 := by decide +kernel
theorem d_X5_readFigures_87 : Dc cX5_readFigures 87 (.putfield 55) 3 90 := by decide +kernel
theorem d_X5_readFigures_90 : Dc cX5_readFigures 90 (.return_) 1 91 := by decide +kernel
theorem d_X5_isFigure_0 : Dc cX5_isFigure 0 (.aload_n 0) 1 1 := by decide +kernel
theorem d_X5_isFigure_1 : Dc cX5_isFigure 1 (.getfield 11) 3 4 := by decide +kernel
theorem d_X5_isFigure_4 : Dc cX5_isFigure 4 (.iload_n 1) 1 5 := by decide +kernel
theorem d_X5_isFigure_5 : Dc cX5_isFigure 5 (.iaload) 1 6 := by decide +kernel
theorem d_X5_isFigure_6 : Dc cX5_isFigure 6 (.bipush 48) 2 8 := by decide +kernel
theorem d_X5_isFigure_8 : Dq cX5_isFigure 8 (.if_icmp .lt) 26 11 := by decide +kernel
theorem d_X5_isFigure_11 : Dc cX5_isFigure 11 (.aload_n 0) 1 12 := by decide +kernel
theorem d_X5_isFigure_12 : Dc cX5_isFigure 12 (.getfield 11) 3 15 := by decide +kernel
theorem d_X5_isFigure_15 : Dc cX5_isFigure 15 (.iload_n 1) 1 16 := by decide +kernel
theorem d_X5_isFigure_16 : Dc cX5_isFigure 16 (.iaload) 1 17 := by decide +kernel
theorem d_X5_isFigure_17 : Dc cX5_isFigure 17 (.bipush 57) 2 19 := by decide +kernel
theorem d_X5_isFigure_19 : Dq cX5_isFigure 19 (.if_icmp .gt) 26 22 := by decide +kernel
theorem d_X5_isFigure_22 : Dc cX5_isFigure 22 (.iconst 1) 1 23 := by decide +kernel
theorem d_X5_isFigure_23 : Dq cX5_isFigure 23 (.goto) 27 26 := by decide +kernel
theorem d_X5_isFigure_26 : Dc cX5_isFigure 26 (.iconst 0) 1 27 := by decide +kernel
theorem d_X5_isFigure_27 : Dc cX5_isFigure 27 (.ireturn) 1 28 := by decide +kernel
theorem d_J6_bitCount_0f7a4_0 : Dc cJ6_bitCount_0f7a4 0 (.iload_n 0) 1 1 := by decide +kernel
theorem d_J6_bitCount_0f7a4_1 : Dc cJ6_bitCount_0f7a4 1 (.iload_n 0) 1 2 := by decide +kernel
theorem d_J6_bitCount_0f7a4_2 : Dc cJ6_bitCount_0f7a4 2 (.iconst 1) 1 3 := by decide +kernel
theorem d_J6_bitCount_0f7a4_3 : Dc cJ6_bitCount_0f7a4 3 (.iushr) 1 4 := by decide +kernel
theorem d_J6_bitCount_0f7a4_4 : Dc cJ6_bitCount_0f7a4 4 (.ldc_w 265) 3 7 := by decide +kernel
theorem d_J6_bitCount_0f7a4_7 : Dc cJ6_bitCount_0f7a4 7 (.iand) 1 8 := by decide +kernel
theorem d_J6_bitCount_0f7a4_8 : Dc cJ6_bitCount_0f7a4 8 (.isub) 1 9 := by decide +kernel
theorem d_J6_bitCount_0f7a4_9 : Dc cJ6_bitCount_0f7a4 9 (.istore_n 0) 1 10 := by decide +kernel
theorem d_J6_bitCount_0f7a4_10 : Dc cJ6_bitCount_0f7a4 10 (.iload_n 0) 1 11 := by decide +kernel
theorem d_J6_bitCount_0f7a4_11 : Dc cJ6_bitCount_0f7a4 11 (.ldc_w 266) 3 14 := by decide +kernel
theorem d_J6_bitCount_0f7a4_14 : Dc cJ6_bitCount_0f7a4 14 (.iand) 1 15 := by decide +kernel
theorem d_J6_bitCount_0f7a4_15 : Dc cJ6_bitCount_0f7a4 15 (.iload_n 0) 1 16 := by decide +kernel
theorem d_J6_bitCount_0f7a4_16 : Dc cJ6_bitCount_0f7a4 16 (.iconst 2) 1 17 := by decide +kernel
theorem d_J6_bitCount_0f7a4_17 : Dc cJ6_bitCount_0f7a4 17 (.iushr) 1 18 := by decide +kernel
theorem d_J6_bitCount_0f7a4_18 : Dc cJ6_bitCount_0f7a4 18 (.ldc_w 266) 3 21 := by decide +kernel
theorem d_J6_bitCount_0f7a4_21 : Dc cJ6_bitCount_0f7a4 21 (.iand) 1 22 := by decide +kernel
theorem d_J6_bitCount_0f7a4_22 : Dc cJ6_bitCount_0f7a4 22 (.iadd) 1 23 := by decide +kernel
theorem d_J6_bitCount_0f7a4_23 : Dc cJ6_bitCount_0f7a4 23 (.istore_n 0) 1 24 := by decide +kernel
theorem d_J6_bitCount_0f7a4_24 : Dc cJ6_bitCount_0f7a4 24 (.iload_n 0) 1 25 := by decide +kernel
theorem d_J6_bitCount_0f7a4_25 : Dc cJ6_bitCount_0f7a4 25 (.iload_n 0) 1 26 := by decide +kernel
theorem d_J6_bitCount_0f7a4_26 : Dc cJ6_bitCount_0f7a4 26 (.iconst 4) 1 27 := by decide +kernel
theorem d_J6_bitCount_0f7a4_27 : Dc cJ6_bitCount_0f7a4 27 (.iushr) 1 28 := by decide +kernel
theorem d_J6_bitCount_0f7a4_28 : Dc cJ6_bitCount_0f7a4 28 (.iadd) 1 29 := by decide +kernel
theorem d_J6_bitCount_0f7a4_29 : Dc cJ6_bitCount_0f7a4 29 (.ldc_w 267) 3 32 := by decide +kernel
theorem d_J6_bitCount_0f7a4_32 : Dc cJ6_bitCount_0f7a4 32 (.iand) 1 33 := by decide +kernel
theorem d_J6_bitCount_0f7a4_33 : Dc cJ6_bitCount_0f7a4 33 (.istore_n 0) 1 34 := by decide +kernel
theorem d_J6_bitCount_0f7a4_34 : Dc cJ6_bitCount_0f7a4 34 (.iload_n 0) 1 35 := by decide +kernel
theorem d_J6_bitCount_0f7a4_35 : Dc cJ6_bitCount_0f7a4 35 (.iload_n 0) 1 36 := by decide +kernel
theorem d_J6_bitCount_0f7a4_36 : Dc cJ6_bitCount_0f7a4 36 (.bipush 8) 2 38 := by decide +kernel
theorem d_J6_bitCount_0f7a4_38 : Dc cJ6_bitCount_0f7a4 38 (.iushr) 1 39 := by decide +kernel
theorem d_J6_bitCount_0f7a4_39 : Dc cJ6_bitCount_0f7a4 39 (.iadd) 1 40 := by decide +kernel
theorem d_J6_bitCount_0f7a4_40 : Dc cJ6_bitCount_0f7a4 40 (.istore_n 0) 1 41 := by decide +kernel
theorem d_J6_bitCount_0f7a4_41 : Dc cJ6_bitCount_0f7a4 41 (.iload_n 0) 1 42 := by decide +kernel
theorem d_J6_bitCount_0f7a4_42 : Dc cJ6_bitCount_0f7a4 42 (.iload_n 0) 1 43 := by decide +kernel
theorem d_J6_bitCount_0f7a4_43 : Dc cJ6_bitCount_0f7a4 43 (.bipush 16) 2 45 := by decide +kernel
theorem d_J6_bitCount_0f7a4_45 : Dc cJ6_bitCount_0f7a4 45 (.iushr) 1 46 := by decide +kernel
theorem d_J6_bitCount_0f7a4_46 : Dc cJ6_bitCount_0f7a4 46 (.iadd) 1 47 := by decide +kernel
theorem d_J6_bitCount_0f7a4_47 : Dc cJ6_bitCount_0f7a4 47 (.istore_n 0) 1 48 := by decide +kernel
theorem d_J6_bitCount_0f7a4_48 : Dc cJ6_bitCount_0f7a4 48 (.iload_n 0) 1 49 := by decide +kernel
theorem d_J6_bitCount_0f7a4_49 : Dc cJ6_bitCount_0f7a4 49 (.bipush 63) 2 51 := by decide +kernel
theorem d_J6_bitCount_0f7a4_51 : Dc cJ6_bitCount_0f7a4 51 (.iand) 1 52 := by decide +kernel
theorem d_J6_bitCount_0f7a4_52 : Dc cJ6_bitCount_0f7a4 52 (.ireturn) 1 53 := by decide +kernel
theorem d_J9_max_7cf53_0 : Dc cJ9_max_7cf53 0 (.iload_n 0) 1 1 := by decide +kernel
theorem d_J9_max_7cf53_1 : Dc cJ9_max_7cf53 1 (.iload_n 1) 1 2 := by decide +kernel
theorem d_J9_max_7cf53_2 : Dq cJ9_max_7cf53 2 (.if_icmp .lt) 9 5 := by decide +kernel
theorem d_J9_max_7cf53_5 : Dc cJ9_max_7cf53 5 (.iload_n 0) 1 6 := by decide +kernel
theorem d_J9_max_7cf53_6 : Dq cJ9_max_7cf53 6 (.goto) 10 9 := by decide +kernel
theorem d_J9_max_7cf53_9 : Dc cJ9_max_7cf53 9 (.iload_n 1) 1 10 := by decide +kernel
theorem d_J9_max_7cf53_10 : Dc cJ9_max_7cf53 10 (.ireturn) 1 11 := by decide +kernel
theorem d_J9_max_f86c9_0 : Dc cJ9_max_f86c9 0 (.lload_n 0) 1 1 := by decide +kernel
theorem d_J9_max_f86c9_1 : Dc cJ9_max_f86c9 1 (.lload_n 2) 1 2 := by decide +kernel
theorem d_J9_max_f86c9_2 : Dc cJ9_max_f86c9 2 (.lcmp) 1 3 := by decide +kernel
theorem d_J9_max_f86c9_3 : Dq cJ9_max_f86c9 3 (.ifCond .lt) 10 6 := by decide +kernel
theorem d_J9_max_f86c9_6 : Dc cJ9_max_f86c9 6 (.lload_n 0) 1 7 := by decide +kernel
theorem d_J9_max_f86c9_7 : Dq cJ9_max_f86c9 7 (.goto) 11 10 := by decide +kernel
theorem d_J9_max_f86c9_10 : Dc cJ9_max_f86c9 10 (.lload_n 2) 1 11 := by decide +kernel
theorem d_J9_max_f86c9_11 : Dc cJ9_max_f86c9 11 (.lreturn) 1 12 := by decide +kernel
theorem d_J9_min_7cf53_0 : Dc cJ9_min_7cf53 0 (.iload_n 0) 1 1 := by decide +kernel
theorem d_J9_min_7cf53_1 : Dc cJ9_min_7cf53 1 (.iload_n 1) 1 2 := by decide +kernel
theorem d_J9_min_7cf53_2 : Dq cJ9_min_7cf53 2 (.if_icmp .gt) 9 5 := by decide +kernel
theorem d_J9_min_7cf53_5 : Dc cJ9_min_7cf53 5 (.iload_n 0) 1 6 := by decide +kernel
theorem d_J9_min_7cf53_6 : Dq cJ9_min_7cf53 6 (.goto) 10 9 := by decide +kernel
theorem d_J9_min_7cf53_9 : Dc cJ9_min_7cf53 9 (.iload_n 1) 1 10 := by decide +kernel
theorem d_J9_min_7cf53_10 : Dc cJ9_min_7cf53 10 (.ireturn) 1 11 := by decide +kernel
end
section
theorem d_X6_init_0 : Dc cX6_init 0 (.aload_n 0) 1 1 := by decide +kernel
theorem d_X6_init_1 : Dc cX6_init 1 (.invokespecial 1) 3 4 := by decide +kernel
theorem d_X6_init_4 : Dc cX6_init 4 (.aload_n 0) 1 5 := by decide +kernel
theorem d_X6_init_5 : Dc cX6_init 5 (.new 7) 3 8 := by decide +kernel
theorem d_X6_init_8 : Dc cX6_init 8 (.dup) 1 9 := by decide +kernel
theorem d_X6_init_9 : Dc cX6_init 9 (.invokespecial 9) 3 12 := by decide +kernel
theorem d_X6_init_12 : Dc cX6_init 12 (.putfield 10) 3 15 := by decide +kernel
theorem d_X6_init_15 : Dc cX6_init 15 (.aload_n 0) 1 16 := by decide +kernel
theorem d_X6_init_16 : Dc cX6_init 16 (.new 16) 3 19 := by decide +kernel
theorem d_X6_init_19 : Dc cX6_init 19 (.dup) 1 20 := by decide +kernel
theorem d_X6_init_20 : Dc cX6_init 20 (.invokespecial 18) 3 23 := by decide +kernel
theorem d_X6_init_23 : Dc cX6_init 23 (.putfield 19) 3 26 := by decide +kernel
theorem d_X6_init_26 : Dc cX6_init 26 (.aload_n 0) 1 27 := by decide +kernel
theorem d_X6_init_27 : Dc cX6_init 27 (.new 23) 3 30 := by decide +kernel
theorem d_X6_init_30 : Dc cX6_init 30 (.dup) 1 31 := by decide +kernel
theorem d_X6_init_31 : Dc cX6_init 31 (.invokespecial 25) 3 34 := by decide +kernel
theorem d_X6_init_34 : Dc cX6_init 34 (.putfield 26) 3 37 := by decide +kernel
theorem d_X6_init_37 : Dc cX6_init 37 (.aload_n 0) 1 38 := by decide +kernel
theorem d_X6_init_38 : Dc cX6_init 38 (.new 23) 3 41 := by decide +kernel
theorem d_X6_init_41 : Dc cX6_init 41 (.dup) 1 42 := by decide +kernel
theorem d_X6_init_42 : Dc cX6_init 42 (.invokespecial 25) 3 45 := by decide +kernel
theorem d_X6_init_45 : Dc cX6_init 45 (.putfield 30) 3 48 := by decide +kernel
theorem d_X6_init_48 : Dc cX6_init 48 (.aload_n 0) 1 49 := by decide +kernel
theorem d_X6_init_49 : Dc cX6_init 49 (.new 33) 3 52 := by decide +kernel
theorem d_X6_init_52 : Dc cX6_init 52 (.dup) 1 53 := by decide +kernel
theorem d_X6_init_53 : Dc cX6_init 53 (.invokespecial 35) 3 56 := by decide +kernel
theorem d_X6_init_56 : Dc cX6_init 56 (.putfield 36) 3 59 := by decide +kernel
theorem d_X6_init_59 : Dc cX6_init 59 (.aload_n 0) 1 60 := by decide +kernel
theorem d_X6_init_60 : Dc cX6_init 60 (.iconst 2) 1 61 := by decide +kernel
theorem d_X6_init_61 : Dc cX6_init 61 (.anewarray 23) 3 64 := by decide +kernel
theorem d_X6_init_64 : Dc cX6_init 64 (.putfield 40) 3 67 := by decide +kernel
theorem d_X6_init_67 : Dc cX6_init 67 (.aload_n 0) 1 68 := by decide +kernel
theorem d_X6_init_68 : Dc cX6_init 68 (.new 44) 3 71 := by decide +kernel
theorem d_X6_init_71 : Dc cX6_init 71 (.dup) 1 72 := by decide +kernel
theorem d_X6_init_72 : Dc cX6_init 72 (.invokespecial 46) 3 75 := by decide +kernel
theorem d_X6_init_75 : Dc cX6_init 75 (.putfield 47) 3 78 := by decide +kernel
theorem d_X6_init_78 : Dc cX6_init 78 (.aload_n 0) 1 79 := by decide +kernel
theorem d_X6_init_79 : Dc cX6_init 79 (.new 51) 3 82 := by decide +kernel
theorem d_X6_init_82 : Dc cX6_init 82 (.dup) 1 83 := by decide +kernel
theorem d_X6_init_83 : Dc cX6_init 83 (.invokespecial 53) 3 86 := by decide +kernel
theorem d_X6_init_86 : Dc cX6_init 86 (.putfield 54) 3 89 := by decide +kernel
theorem d_X6_init_89 : Dc cX6_init 89 (.aload_n 0) 1 90 := by decide +kernel
theorem d_X6_init_90 : Dc cX6_init 90 (.bipush 32) 2 92 := by decide +kernel
theorem d_X6_init_92 : Dc cX6_init 92 (.newarray .int) 2 94 := by decide +kernel
theorem d_X6_init_94 : Dc cX6_init 94 (.putfield 58) 3 97 := by decide +kernel
theorem d_X6_init_97 : Dc cX6_init 97 (.iconst 0) 1 98 := by decide +kernel
theorem d_X6_init_98 : Dc cX6_init 98 (.istore_n 1) 1 99 := by decide +kernel
theorem d_X6_init_99 : Dc cX6_init 99 (.iload_n 1) 1 100 := by decide +kernel
theorem d_X6_init_100 : Dc cX6_init 100 (.iconst 2) 1 101 := by decide +kernel
theorem d_X6_init_101 : Dq cX6_init 101 (.if_icmp .ge) 123 104 := by decide +kernel
theorem d_X6_init_104 : Dc cX6_init 104 (.aload_n 0) 1 105 := by decide +kernel
theorem d_X6_init_105 : Dc cX6_init 105 (.getfield 40) 3 108 := by decide +kernel
theorem d_X6_init_108 : Dc cX6_init 108 (.iload_n 1) 1 109 := by decide +kernel
theorem d_X6_init_109 : Dc cX6_init 109 (.new 23) 3 112 := by decide +kernel
theorem d_X6_init_112 : Dc cX6_init 112 (.dup) 1 113 := by decide +kernel
theorem d_X6_init_113 : Dc cX6_init 113 (.invokespecial 25) 3 116 := by decide +kernel
theorem d_X6_init_116 : Dc cX6_init 116 (.aastore) 1 117 := by decide +kernel
theorem d_X6_init_117 : Dc cX6_init 117 (.iinc 1 1) 3 120 := by decide +kernel
theorem d_X6_init_120 : Dq cX6_init 120 (.goto) 99 123 := by decide +kernel
theorem d_X6_init_123 : Dc cX6_init 123 (.return_) 1 124 := by decide +kernel
theorem d_X6_row_0 : Dc cX6_row 0 (.iload_n 1) 1 1 := by decide +kernel
theorem d_X6_row_1 : Dc cX6_row 1 (.invokestatic 62) 3 4 := by decide +kernel
theorem d_X6_row_4 : Dq cX6_row 4 (.ifCond .eq) 22 7 := by decide +kernel
theorem d_X6_row_7 : Dc cX6_row 7 (.iload_n 2) 1 8 := by decide +kernel
theorem d_X6_row_8 : Dq cX6_row 8 (.ifCond .lt) 22 11 := by decide +kernel
theorem d_X6_row_11 : Dc cX6_row 11 (.iload_n 2) 1 12 := by decide +kernel
theorem d_X6_row_12 : Dc cX6_row 12 (.iconst 3) 1 13 := by decide +kernel
theorem d_X6_row_13 : Dq cX6_row 13 (.if_icmp .ge) 22 16 := by decide +kernel
theorem d_X6_row_16 : Dc cX6_row 16 (.iload_n 3) 1 17 := by decide +kernel
theorem d_X6_row_17 : Dc cX6_row 17 (.bipush 40) 2 19 := by decide +kernel
theorem d_X6_row_19 : Dq cX6_row 19 (.if_icmp .le) 25 22 := by decide +kernel
theorem d_X6_row_22 : Dc cX6_row 22 (.ldc 66) 2 24 := by decide +kernel
theorem d_X6_row_24 : Dc cX6_row 24 (.ireturn) 1 25 := by decide +kernel
theorem d_X6_row_25 : Dc cX6_row 25 (.iload_n 3) 1 26 := by decide +kernel
theorem d_X6_row_26 : Dq cX6_row 26 (.ifCond .ge) 35 29 := by decide +kernel
theorem d_X6_row_29 : Dc cX6_row 29 (.aload_n 0) 1 30 := by decide +kernel
theorem d_X6_row_30 : Dc cX6_row 30 (.iconst 4) 1 31 := by decide +kernel
theorem d_X6_row_31 : Dc cX6_row 31 (.invokevirtual 67) 3 34 := by decide +kernel
theorem d_X6_row_34 : Dc cX6_row 34 (.ireturn) 1 35 := by decide +kernel
theorem d_X6_row_35 : Dc cX6_row 35 (.aload_n 0) 1 36 := by decide +kernel
theorem d_X6_row_36 : Dc cX6_row 36 (.getfield 10) 3 39 := by decide +kernel
theorem d_X6_row_39 : Dc cX6_row 39 (.iload_n 1) 1 40 := by decide +kernel
theorem d_X6_row_40 : Dc cX6_row 40 (.iload_n 2) 1 41 := by decide +kernel
theorem d_X6_row_41 : Dc cX6_row 41 (.iload_n 3) 1 42 := by decide +kernel
theorem d_X6_row_42 : Dc cX6_row 42 (.invokevirtual 71) 3 45 := by decide +kernel
theorem d_X6_row_45 : Dc cX6_row 45 (.aload_n 0) 1 46 := by decide +kernel
theorem d_X6_row_46 : Dc cX6_row 46 (.iload_n 3) 1 47 := by decide +kernel
theorem d_X6_row_47 : Dc cX6_row 47 (.invokevirtual 75) 3 50 := by decide +kernel
theorem d_X6_row_50 : Dc cX6_row 50 (.ireturn) 1 51 := by decide +kernel
theorem d_X6_set_0 : Dc cX6_set 0 (.iload_n 1) 1 1 := by decide +kernel
theorem d_X6_set_1 : Dc cX6_set 1 (.invokestatic 62) 3 4 := by decide +kernel
theorem d_X6_set_4 : Dq cX6_set 4 (.ifCond .ne) 10 7 := by decide +kernel
theorem d_X6_set_7 : Dc cX6_set 7 (.ldc 66) 2 9 := by decide +kernel
theorem d_X6_set_9 : Dc cX6_set 9 (.ireturn) 1 10 := by decide +kernel
theorem d_X6_set_10 : Dc cX6_set 10 (.aload_n 0) 1 11 := by decide +kernel
theorem d_X6_set_11 : Dc cX6_set 11 (.getfield 10) 3 14 := by decide +kernel
theorem d_X6_set_14 : Dc cX6_set 14 (.iload_n 1) 1 15 := by decide +kernel
theorem d_X6_set_15 : Dc cX6_set 15 (.iload_n 2) 1 16 := by decide +kernel
theorem d_X6_set_16 : Dc cX6_set 16 (.iconst 1) 1 17 := by decide +kernel
theorem d_X6_set_17 : Dc cX6_set 17 (.invokevirtual 78) 3 20 := by decide +kernel
theorem d_X6_set_20 : Dc cX6_set 20 (.istore 4) 2 22 := by decide +kernel
theorem d_X6_set_22 : Dc cX6_set 22 (.iload 4) 2 24 := by decide +kernel
theorem d_X6_set_24 : Dq cX6_set 24 (.ifCond .eq) 34 27 := by decide +kernel
theorem d_X6_set_27 : Dc cX6_set 27 (.aload_n 0) 1 28 := by decide +kernel
theorem d_X6_set_28 : Dc cX6_set 28 (.iload 4) 2 30 := by decide +kernel
theorem d_X6_set_30 : Dc cX6_set 30 (.invokevirtual 67) 3 33 := by decide +kernel
theorem d_X6_set_33 : Dc cX6_set 33 (.ireturn) 1 34 := by decide +kernel
theorem d_X6_set_34 : Dc cX6_set 34 (.aload_n 0) 1 35 := by decide +kernel
theorem d_X6_set_35 : Dc cX6_set 35 (.aload_n 0) 1 36 := by decide +kernel
theorem d_X6_set_36 : Dc cX6_set 36 (.getfield 10) 3 39 := by decide +kernel
theorem d_X6_set_39 : Dc cX6_set 39 (.iload_n 1) 1 40 := by decide +kernel
theorem d_X6_set_40 : Dc cX6_set 40 (.iload_n 2) 1 41 := by decide +kernel
theorem d_X6_set_41 : Dc cX6_set 41 (.iload_n 3) 1 42 := by decide +kernel
theorem d_X6_set_42 : Dc cX6_set 42 (.invokevirtual 82) 3 45 := by decide +kernel
theorem d_X6_set_45 : Dc cX6_set 45 (.invokevirtual 75) 3 48 := by decide +kernel
theorem d_X6_set_48 : Dc cX6_set 48 (.ireturn) 1 49 := by decide +kernel
theorem d_X6_copy_0 : Dc cX6_copy 0 (.iload_n 1) 1 1 := by decide +kernel
theorem d_X6_copy_1 : Dc cX6_copy 1 (.invokestatic 62) 3 4 := by decide +kernel
theorem d_X6_copy_4 : Dq cX6_copy 4 (.ifCond .eq) 14 7 := by decide +kernel
theorem d_X6_copy_7 : Dc cX6_copy 7 (.iload_n 3) 1 8 := by decide +kernel
theorem d_X6_copy_8 : Dc cX6_copy 8 (.invokestatic 62) 3 11 := by decide +kernel
theorem d_X6_copy_11 : Dq cX6_copy 11 (.ifCond .ne) 17 14 := by decide +kernel
theorem d_X6_copy_14 : Dc cX6_copy 14 (.ldc 66) 2 16 := by decide +kernel
theorem d_X6_copy_16 : Dc cX6_copy 16 (.ireturn) 1 17 := by decide +kernel
theorem d_X6_copy_17 : Dc cX6_copy 17 (.aload_n 0) 1 18 := by decide +kernel
theorem d_X6_copy_18 : Dc cX6_copy 18 (.getfield 10) 3 21 := by decide +kernel
theorem d_X6_copy_21 : Dc cX6_copy 21 (.iload_n 1) 1 22 := by decide +kernel
theorem d_X6_copy_22 : Dc cX6_copy 22 (.invokevirtual 85) 3 25 := by decide +kernel
theorem d_X6_copy_25 : Dq cX6_copy 25 (.ifCond .ne) 39 28 := by decide +kernel
theorem d_X6_copy_28 : Dc cX6_copy 28 (.aload_n 0) 1 29 := by decide +kernel
theorem d_X6_copy_29 : Dc cX6_copy 29 (.getfield 10) 3 32 := by decide +kernel
theorem d_X6_copy_32 : Dc cX6_copy 32 (.iload_n 3) 1 33 := by decide +kernel
theorem d_X6_copy_33 : Dc cX6_copy 33 (.invokevirtual 85) 3 36 := by decide +kernel
theorem d_X6_copy_36 : Dq cX6_copy 36 (.ifCond .eq) 45 39 := by decide +kernel
theorem d_X6_copy_39 : Dc cX6_copy 39 (.aload_n 0) 1 40 := by decide +kernel
theorem d_X6_copy_40 : Dc cX6_copy 40 (.iconst 1) 1 41 := by decide +kernel
theorem d_X6_copy_41 : Dc cX6_copy 41 (.invokevirtual 67) 3 44 := by decide +kernel
theorem d_X6_copy_44 : Dc cX6_copy 44 (.ireturn) 1 45 := by decide +kernel
theorem d_X6_copy_45 : Dc cX6_copy 45 (.aload_n 0) 1 46 := by decide +kernel
theorem d_X6_copy_46 : Dc cX6_copy 46 (.getfield 10) 3 49 := by decide +kernel
theorem d_X6_copy_49 : Dc cX6_copy 49 (.getfield 88) 3 52 := by decide +kernel
theorem d_X6_copy_52 : Dc cX6_copy 52 (.iload_n 1) 1 53 := by decide +kernel
theorem d_X6_copy_53 : Dc cX6_copy 53 (.iaload) 1 54 := by decide +kernel
theorem d_X6_copy_54 : Dc cX6_copy 54 (.aload_n 0) 1 55 := by decide +kernel
theorem d_X6_copy_55 : Dc cX6_copy 55 (.getfield 10) 3 58 := by decide +kernel
theorem d_X6_copy_58 : Dc cX6_copy 58 (.getfield 88) 3 61 := by decide +kernel
theorem d_X6_copy_61 : Dc cX6_copy 61 (.iload_n 3) 1 62 := by decide +kernel
theorem d_X6_copy_62 : Dc cX6_copy 62 (.iaload) 1 63 := by decide +kernel
theorem d_X6_copy_63 : Dq cX6_copy 63 (.if_icmp .eq) 72 66 := by decide +kernel
theorem d_X6_copy_66 : Dc cX6_copy 66 (.aload_n 0) 1 67 := by decide +kernel
theorem d_X6_copy_67 : Dc cX6_copy 67 (.iconst 5) 1 68 := by decide +kernel
theorem d_X6_copy_68 : Dc cX6_copy 68 (.invokevirtual 67) 3 71 := by decide +kernel
theorem d_X6_copy_71 : Dc cX6_copy 71 (.ireturn) 1 72 := by decide +kernel
theorem d_X6_copy_72 : Dc cX6_copy 72 (.aload_n 0) 1 73 := by decide +kernel
theorem d_X6_copy_73 : Dc cX6_copy 73 (.getfield 10) 3 76 := by decide +kernel
theorem d_X6_copy_76 : Dc cX6_copy 76 (.iload_n 1) 1 77 := by decide +kernel
theorem d_X6_copy_77 : Dc cX6_copy 77 (.iload_n 2) 1 78 := by decide +kernel
theorem d_X6_copy_78 : Dc cX6_copy 78 (.iload 5) 2 80 := by decide +kernel
theorem d_X6_copy_80 : Dc cX6_copy 80 (.invokevirtual 91) 3 83 := by decide +kernel
theorem d_X6_copy_83 : Dq cX6_copy 83 (.ifCond .eq) 101 86 := by decide +kernel
theorem d_X6_copy_86 : Dc cX6_copy 86 (.aload_n 0) 1 87 := by decide +kernel
theorem d_X6_copy_87 : Dc cX6_copy 87 (.getfield 10) 3 90 := by decide +kernel
theorem d_X6_copy_90 : Dc cX6_copy 90 (.iload_n 3) 1 91 := by decide +kernel
theorem d_X6_copy_91 : Dc cX6_copy 91 (.iload 4) 2 93 := by decide +kernel
theorem d_X6_copy_93 : Dc cX6_copy 93 (.iload 5) 2 95 := by decide +kernel
theorem d_X6_copy_95 : Dc cX6_copy 95 (.invokevirtual 91) 3 98 := by decide +kernel
theorem d_X6_copy_98 : Dq cX6_copy 98 (.ifCond .ne) 107 101 := by decide +kernel
theorem d_X6_copy_101 : Dc cX6_copy 101 (.aload_n 0) 1 102 := by decide +kernel
theorem d_X6_copy_102 : Dc cX6_copy 102 (.iconst 2) 1 103 := by decide +kernel
theorem d_X6_copy_103 : Dc cX6_copy 103 (.invokevirtual 67) 3 106 := by decide +kernel
theorem d_X6_copy_106 : Dc cX6_copy 106 (.ireturn) 1 107 := by decide +kernel
theorem d_X6_copy_107 : Dc cX6_copy 107 (.aload_n 0) 1 108 := by decide +kernel
theorem d_X6_copy_108 : Dc cX6_copy 108 (.getfield 10) 3 111 := by decide +kernel
theorem d_X6_copy_111 : Dc cX6_copy 111 (.getfield 95) 3 114 := by decide +kernel
theorem d_X6_copy_114 : Dc cX6_copy 114 (.iload_n 1) 1 115 := by decide +kernel
theorem d_X6_copy_115 : Dc cX6_copy 115 (.aaload) 1 116 := by decide +kernel
theorem d_X6_copy_116 : Dc cX6_copy 116 (.iload_n 2) 1 117 := by decide +kernel
theorem d_X6_copy_117 : Dc cX6_copy 117 (.aload_n 0) 1 118 := by decide +kernel
theorem d_X6_copy_118 : Dc cX6_copy 118 (.getfield 10) 3 121 := by decide +kernel
theorem d_X6_copy_121 : Dc cX6_copy 121 (.getfield 95) 3 124 := by decide +kernel
theorem d_X6_copy_124 : Dc cX6_copy 124 (.iload_n 3) 1 125 := by decide +kernel
theorem d_X6_copy_125 : Dc cX6_copy 125 (.aaload) 1 126 := by decide +kernel
theorem d_X6_copy_126 : Dc cX6_copy 126 (.iload 4) 2 128 := by decide +kernel
theorem d_X6_copy_128 : Dc cX6_copy 128 (.iload 5) 2 130 := by decide +kernel
theorem d_X6_copy_130 : Dc cX6_copy 130 (.invokestatic 99) 3 133 := by decide +kernel
theorem d_X6_copy_133 : Dc cX6_copy 133 (.aload_n 0) 1 134 := by decide +kernel
theorem d_X6_copy_134 : Dc cX6_copy 134 (.iload 5) 2 136 := by decide +kernel
theorem d_X6_copy_136 : Dc cX6_copy 136 (.invokevirtual 75) 3 139 := by decide +kernel
theorem d_X6_copy_139 : Dc cX6_copy 139 (.ireturn) 1 140 := by decide +kernel
theorem d_X6_drop_0 : Dc cX6_drop 0 (.iload_n 1) 1 1 := by decide +kernel
theorem d_X6_drop_1 : Dc cX6_drop 1 (.invokestatic 62) 3 4 := by decide +kernel
theorem d_X6_drop_4 : Dq cX6_drop 4 (.ifCond .ne) 10 7 := by decide +kernel
theorem d_X6_drop_7 : Dc cX6_drop 7 (.ldc 66) 2 9 := by decide +kernel
theorem d_X6_drop_9 : Dc cX6_drop 9 (.ireturn) 1 10 := by decide +kernel
theorem d_X6_drop_10 : Dc cX6_drop 10 (.aload_n 0) 1 11 := by decide +kernel
theorem d_X6_drop_11 : Dc cX6_drop 11 (.getfield 10) 3 14 := by decide +kernel
theorem d_X6_drop_14 : Dc cX6_drop 14 (.iload_n 1) 1 15 := by decide +kernel
theorem d_X6_drop_15 : Dc cX6_drop 15 (.invokevirtual 85) 3 18 := by decide +kernel
theorem d_X6_drop_18 : Dq cX6_drop 18 (.ifCond .eq) 27 21 := by decide +kernel
theorem d_X6_drop_21 : Dc cX6_drop 21 (.aload_n 0) 1 22 := by decide +kernel
theorem d_X6_drop_22 : Dc cX6_drop 22 (.iconst 1) 1 23 := by decide +kernel
theorem d_X6_drop_23 : Dc cX6_drop 23 (.invokevirtual 67) 3 26 := by decide +kernel
theorem d_X6_drop_26 : Dc cX6_drop 26 (.ireturn) 1 27 := by decide +kernel
theorem d_X6_drop_27 : Dc cX6_drop 27 (.aload_n 0) 1 28 := by decide +kernel
theorem d_X6_drop_28 : Dc cX6_drop 28 (.aload_n 0) 1 29 := by decide +kernel
theorem d_X6_drop_29 : Dc cX6_drop 29 (.getfield 10) 3 32 := by decide +kernel
theorem d_X6_drop_32 : Dc cX6_drop 32 (.iload_n 1) 1 33 := by decide +kernel
theorem d_X6_drop_33 : Dc cX6_drop 33 (.invokevirtual 105) 3 36 := by decide +kernel
theorem d_X6_drop_36 : Dc cX6_drop 36 (.invokevirtual 75) 3 39 := by decide +kernel
theorem d_X6_drop_39 : Dc cX6_drop 39 (.ireturn) 1 40 := by decide +kernel
theorem d_X6_found_0 : Dc cX6_found 0 (.aload_n 0) 1 1 := by decide +kernel
theorem d_X6_found_1 : Dc cX6_found 1 (.iload_n 1) 1 2 := by decide +kernel
theorem d_X6_found_2 : Dc cX6_found 2 (.putfield 108) 3 5 := by decide +kernel
theorem d_X6_found_5 : Dc cX6_found 5 (.ldc 112) 2 7 := by decide +kernel
theorem d_X6_found_7 : Dc cX6_found 7 (.iload_n 1) 1 8 := by decide +kernel
theorem d_X6_found_8 : Dc cX6_found 8 (.isub) 1 9 := by decide +kernel
theorem d_X6_found_9 : Dc cX6_found 9 (.ireturn) 1 10 := by decide +kernel
theorem d_X6_foundNothing_0 : Dc cX6_foundNothing 0 (.aload_n 0) 1 1 := by decide +kernel
theorem d_X6_foundNothing_1 : Dc cX6_foundNothing 1 (.iconst 0) 1 2 := by decide +kernel
theorem d_X6_foundNothing_2 : Dc cX6_foundNothing 2 (.putfield 108) 3 5 := by decide +kernel
theorem d_X6_foundNothing_5 : Dc cX6_foundNothing 5 (.iload_n 1) 1 6 := by decide +kernel
theorem d_X6_foundNothing_6 : Dc cX6_foundNothing 6 (.ireturn) 1 7 := by decide +kernel
theorem d_X6_feed_0 : Dc cX6_feed 0 (.iload_n 1) 1 1 := by decide +kernel
theorem d_X6_feed_1 : Dq cX6_feed 1 (.ifCond .lt) 11 4 := by decide +kernel
theorem d_X6_feed_4 : Dc cX6_feed 4 (.iload_n 1) 1 5 := by decide +kernel
theorem d_X6_feed_5 : Dc cX6_feed 5 (.sipush 255) 3 8 := by decide +kernel
theorem d_X6_feed_8 : Dq cX6_feed 8 (.if_icmp .le) 14 11 := by decide +kernel
theorem d_X6_feed_11 : Dc cX6_feed 11 (.ldc 66) 2 13 := by decide +kernel
theorem d_X6_feed_13 : Dc cX6_feed 13 (.ireturn) 1 14 := by decide +kernel
theorem d_X6_feed_14 : Dc cX6_feed 14 (.aload_n 0) 1 15 := by decide +kernel
theorem d_X6_feed_15 : Dc cX6_feed 15 (.getfield 19) 3 18 := by decide +kernel
theorem d_X6_feed_18 : Dc cX6_feed 18 (.iload_n 1) 1 19 := by decide +kernel
theorem d_X6_feed_19 : Dc cX6_feed 19 (.invokevirtual 113) 3 22 := by decide +kernel
theorem d_X6_feed_22 : Dq cX6_feed 22 (.ifCond .eq) 35 25 := by decide +kernel
theorem d_X6_feed_25 : Dc cX6_feed 25 (.aload_n 0) 1 26 := by decide +kernel
theorem d_X6_feed_26 : Dc cX6_feed 26 (.getfield 19) 3 29 := by decide +kernel
theorem d_X6_feed_29 : Dc cX6_feed 29 (.getfield 116) 3 32 := by decide +kernel
theorem d_X6_feed_32 : Dq cX6_feed 32 (.goto) 37 35 := by decide +kernel
theorem d_X6_feed_35 : Dc cX6_feed 35 (.ldc 119) 2 37 := by decide +kernel
theorem d_X6_feed_37 : Dc cX6_feed 37 (.ireturn) 1 38 := by decide +kernel
theorem d_X6_launderette_0 : Dc cX6_launderette 0 (.aload_n 0) 1 1 := by decide +kernel
theorem d_X6_launderette_1 : Dc cX6_launderette 1 (.getfield 19) 3 4 := by decide +kernel
theorem d_X6_launderette_4 : Dc cX6_launderette 4 (.aload_n 0) 1 5 := by decide +kernel
theorem d_X6_launderette_5 : Dc cX6_launderette 5 (.getfield 30) 3 8 := by decide +kernel
theorem d_X6_launderette_8 : Dc cX6_launderette 8 (.invokevirtual 120) 3 11 := by decide +kernel
theorem d_X6_launderette_11 : Dc cX6_launderette 11 (.istore_n 1) 1 12 := by decide +kernel
theorem d_X6_launderette_12 : Dc cX6_launderette 12 (.aload_n 0) 1 13 := by decide +kernel
theorem d_X6_launderette_13 : Dc cX6_launderette 13 (.getfield 19) 3 16 := by decide +kernel
theorem d_X6_launderette_16 : Dc cX6_launderette 16 (.iconst 0) 1 17 := by decide +kernel
theorem d_X6_launderette_17 : Dc cX6_launderette 17 (.putfield 116) 3 20 := by decide +kernel
theorem d_X6_launderette_20 : Dc cX6_launderette 20 (.iload_n 1) 1 21 := by decide +kernel
theorem d_X6_launderette_21 : Dq cX6_launderette 21 (.ifCond .ne) 35 24 := by decide +kernel
theorem d_X6_launderette_24 : Dc cX6_launderette 24 (.ldc 124) 2 26 := by decide +kernel
theorem d_X6_launderette_26 : Dc cX6_launderette 26 (.aload_n 0) 1 27 := by decide +kernel
theorem d_X6_launderette_27 : Dc cX6_launderette 27 (.getfield 19) 3 30 := by decide +kernel
theorem d_X6_launderette_30 : Dc cX6_launderette 30 (.getfield 125) 3 33 := by decide +kernel
theorem d_X6_launderette_33 : Dc cX6_launderette 33 (.isub) 1 34 := by decide +kernel
theorem d_X6_launderette_34 : Dc cX6_launderette 34 (.ireturn) 1 35 := by decide +kernel
theorem d_X6_launderette_35 : Dc cX6_launderette 35 (.aload_n 0) 1 36 := by decide +kernel
theorem d_X6_launderette_36 : Dc cX6_launderette 36 (.aload_n 0) 1 37 := by decide +kernel
theorem d_X6_launderette_37 : Dc cX6_launderette 37 (.getfield 30) 3 40 := by decide +kernel
theorem d_X6_launderette_40 : Dc cX6_launderette 40 (.invokevirtual 128) 3 43 := by decide +kernel
theorem d_X6_launderette_43 : Dc cX6_launderette 43 (.aload_n 0) 1 44 := by decide +kernel
theorem d_X6_launderette_44 : Dc cX6_launderette 44 (.getfield 26) 3 47 := by decide +kernel
theorem d_X6_launderette_47 : Dc cX6_launderette 47 (.getfield 132) 3 50 := by decide +kernel
theorem d_X6_launderette_50 : Dc cX6_launderette 50 (.ireturn) 1 51 := by decide +kernel
theorem d_X6_fault_0 : Dc cX6_fault 0 (.aload_n 0) 1 1 := by decide +kernel
theorem d_X6_fault_1 : Dc cX6_fault 1 (.getfield 19) 3 4 := by decide +kernel
theorem d_X6_fault_4 : Dc cX6_fault 4 (.getfield 135) 3 7 := by decide +kernel
theorem d_X6_fault_7 : Dc cX6_fault 7 (.ireturn) 1 8 := by decide +kernel
theorem d_X6_undo_0 : Dc cX6_undo 0 (.aload_n 0) 1 1 := by decide +kernel
theorem d_X6_undo_1 : Dc cX6_undo 1 (.getfield 36) 3 4 := by decide +kernel
theorem d_X6_undo_4 : Dc cX6_undo 4 (.getfield 138) 3 7 := by decide +kernel
theorem d_X6_undo_7 : Dq cX6_undo 7 (.ifCond .ne) 13 10 := by decide +kernel
theorem d_X6_undo_10 : Dc cX6_undo 10 (.ldc 141) 2 12 := by decide +kernel
theorem d_X6_undo_12 : Dc cX6_undo 12 (.ireturn) 1 13 := by decide +kernel
theorem d_X6_undo_13 : Dc cX6_undo 13 (.aload_n 0) 1 14 := by decide +kernel
theorem d_X6_undo_14 : Dc cX6_undo 14 (.getfield 36) 3 17 := by decide +kernel
theorem d_X6_undo_17 : Dc cX6_undo 17 (.aload_n 0) 1 18 := by decide +kernel
theorem d_X6_undo_18 : Dc cX6_undo 18 (.getfield 26) 3 21 := by decide +kernel
theorem d_X6_undo_21 : Dc cX6_undo 21 (.invokevirtual 142) 3 24 := by decide +kernel
theorem d_X6_undo_24 : Dc cX6_undo 24 (.aload_n 0) 1 25 := by decide +kernel
theorem d_X6_undo_25 : Dc cX6_undo 25 (.getfield 47) 3 28 := by decide +kernel
theorem d_X6_undo_28 : Dc cX6_undo 28 (.invokevirtual 145) 3 31 := by decide +kernel
theorem d_X6_undo_31 : Dc cX6_undo 31 (.aload_n 0) 1 32 := by decide +kernel
theorem d_X6_undo_32 : Dc cX6_undo 32 (.getfield 36) 3 35 := by decide +kernel
theorem d_X6_undo_35 : Dc cX6_undo 35 (.getfield 138) 3 38 := by decide +kernel
theorem d_X6_undo_38 : Dc cX6_undo 38 (.ireturn) 1 39 := by decide +kernel
theorem d_X6_beginAct_0 : Dc cX6_beginAct 0 (.aload_n 0) 1 1 := by decide +kernel
theorem d_X6_beginAct_1 : Dc cX6_beginAct 1 (.getfield 36) 3 4 := by decide +kernel
theorem d_X6_beginAct_4 : Dc cX6_beginAct 4 (.aload_n 0) 1 5 := by decide +kernel
theorem d_X6_beginAct_5 : Dc cX6_beginAct 5 (.getfield 26) 3 8 := by decide +kernel
theorem d_X6_beginAct_8 : Dc cX6_beginAct 8 (.invokevirtual 148) 3 11 := by decide +kernel
theorem d_X6_beginAct_11 : Dc cX6_beginAct 11 (.aload_n 0) 1 12 := by decide +kernel
theorem d_X6_beginAct_12 : Dc cX6_beginAct 12 (.getfield 47) 3 15 := by decide +kernel
theorem d_X6_beginAct_15 : Dc cX6_beginAct 15 (.invokevirtual 145) 3 18 := by decide +kernel
theorem d_X6_beginAct_18 : Dc cX6_beginAct 18 (.return_) 1 19 := by decide +kernel
theorem d_X6_replaceHall_0 : Dc cX6_replaceHall 0 (.aload_n 0) 1 1 := by decide +kernel
theorem d_X6_replaceHall_1 : Dc cX6_replaceHall 1 (.getfield 26) 3 4 := by decide +kernel
theorem d_X6_replaceHall_4 : Dc cX6_replaceHall 4 (.aload_n 1) 1 5 := by decide +kernel
theorem d_X6_replaceHall_5 : Dc cX6_replaceHall 5 (.invokevirtual 151) 3 8 := by decide +kernel
theorem d_X6_replaceHall_8 : Dc cX6_replaceHall 8 (.aload_n 0) 1 9 := by decide +kernel
theorem d_X6_replaceHall_9 : Dc cX6_replaceHall 9 (.getfield 36) 3 12 := by decide +kernel
theorem d_X6_replaceHall_12 : Dc cX6_replaceHall 12 (.iconst 0) 1 13 := by decide +kernel
theorem d_X6_replaceHall_13 : Dc cX6_replaceHall 13 (.putfield 138) 3 16 := by decide +kernel
theorem d_X6_replaceHall_16 : Dc cX6_replaceHall 16 (.aload_n 0) 1 17 := by decide +kernel
theorem d_X6_replaceHall_17 : Dc cX6_replaceHall 17 (.getfield 47) 3 20 := by decide +kernel
theorem d_X6_replaceHall_20 : Dc cX6_replaceHall 20 (.invokevirtual 145) 3 23 := by decide +kernel
theorem d_X6_replaceHall_23 : Dc cX6_replaceHall 23 (.return_) 1 24 := by decide +kernel
theorem d_X6_ticks_0 : Dc cX6_ticks 0 (.aload_n 0) 1 1 := by decide +kernel
theorem d_X6_ticks_1 : Dc cX6_ticks 1 (.getfield 26) 3 4 := by decide +kernel
theorem d_X6_ticks_4 : Dc cX6_ticks 4 (.invokevirtual 154) 3 7 := by decide +kernel
theorem d_X6_ticks_7 : Dq cX6_ticks 7 (.ifCond .eq) 13 10 := by decide +kernel
theorem d_X6_ticks_10 : Dc cX6_ticks 10 (.ldc 141) 2 12 := by decide +kernel
theorem d_X6_ticks_12 : Dc cX6_ticks 12 (.ireturn) 1 13 := by decide +kernel
theorem d_X6_ticks_13 : Dc cX6_ticks 13 (.iload_n 1) 1 14 := by decide +kernel
theorem d_X6_ticks_14 : Dc cX6_ticks 14 (.iconst 1) 1 15 := by decide +kernel
theorem d_X6_ticks_15 : Dq cX6_ticks 15 (.if_icmp .lt) 24 18 := by decide +kernel
theorem d_X6_ticks_18 : Dc cX6_ticks 18 (.iload_n 1) 1 19 := by decide +kernel
theorem d_X6_ticks_19 : Dc cX6_ticks 19 (.bipush 24) 2 21 := by decide +kernel
theorem d_X6_ticks_21 : Dq cX6_ticks 21 (.if_icmp .le) 27 24 := by decide +kernel
theorem d_X6_ticks_24 : Dc cX6_ticks 24 (.ldc 66) 2 26 := by decide +kernel
theorem d_X6_ticks_26 : Dc cX6_ticks 26 (.ireturn) 1 27 := by decide +kernel
theorem d_X6_ticks_27 : Dc cX6_ticks 27 (.aload_n 0) 1 28 := by decide +kernel
theorem d_X6_ticks_28 : Dc cX6_ticks 28 (.getfield 26) 3 31 := by decide +kernel
theorem d_X6_ticks_31 : Dc cX6_ticks 31 (.getfield 158) 3 34 := by decide +kernel
theorem d_X6_ticks_34 : Dc cX6_ticks 34 (.iload_n 1) 1 35 := by decide +kernel
theorem d_X6_ticks_35 : Dc cX6_ticks 35 (.iadd) 1 36 := by decide +kernel
theorem d_X6_ticks_36 : Dc cX6_ticks 36 (.sipush 999) 3 39 := by decide +kernel
theorem d_X6_ticks_39 : Dq cX6_ticks 39 (.if_icmp .le) 45 42 := by decide +kernel
theorem d_X6_ticks_42 : Dc cX6_ticks 42 (.ldc 119) 2 44 := by decide +kernel
theorem d_X6_ticks_44 : Dc cX6_ticks 44 (.ireturn) 1 45 := by decide +kernel
theorem d_X6_ticks_45 : Dc cX6_ticks 45 (.iconst 0) 1 46 := by decide +kernel
theorem d_X6_ticks_46 : Dc cX6_ticks 46 (.istore_n 2) 1 47 := by decide +kernel
theorem d_X6_ticks_47 : Dc cX6_ticks 47 (.iload_n 2) 1 48 := by decide +kernel
theorem d_X6_ticks_48 : Dc cX6_ticks 48 (.iload_n 1) 1 49 := by decide +kernel
theorem d_X6_ticks_49 : Dq cX6_ticks 49 (.if_icmp .ge) 69 52 := by decide +kernel
theorem d_X6_ticks_52 : Dc cX6_ticks 52 (.aload_n 0) 1 53 := by decide +kernel
theorem d_X6_ticks_53 : Dc cX6_ticks 53 (.invokevirtual 161) 3 56 := by decide +kernel
theorem d_X6_ticks_56 : Dc cX6_ticks 56 (.aload_n 0) 1 57 := by decide +kernel
theorem d_X6_ticks_57 : Dc cX6_ticks 57 (.getfield 26) 3 60 := by decide +kernel
theorem d_X6_ticks_60 : Dc cX6_ticks 60 (.invokevirtual 164) 3 63 := by decide +kernel
theorem d_X6_ticks_63 : Dc cX6_ticks 63 (.iinc 2 1) 3 66 := by decide +kernel
theorem d_X6_ticks_66 : Dq cX6_ticks 66 (.goto) 47 69 := by decide +kernel
theorem d_X6_ticks_69 : Dc cX6_ticks 69 (.aload_n 0) 1 70 := by decide +kernel
theorem d_X6_ticks_70 : Dc cX6_ticks 70 (.getfield 26) 3 73 := by decide +kernel
theorem d_X6_ticks_73 : Dc cX6_ticks 73 (.iconst 2) 1 74 := by decide +kernel
theorem d_X6_ticks_74 : Dc cX6_ticks 74 (.invokevirtual 167) 3 77 := by decide +kernel
theorem d_X6_ticks_77 : Dc cX6_ticks 77 (.ireturn) 1 78 := by decide +kernel
theorem d_X6_shut_0 : Dc cX6_shut 0 (.aload_n 0) 1 1 := by decide +kernel
theorem d_X6_shut_1 : Dc cX6_shut 1 (.getfield 26) 3 4 := by decide +kernel
theorem d_X6_shut_4 : Dc cX6_shut 4 (.iload_n 1) 1 5 := by decide +kernel
theorem d_X6_shut_5 : Dc cX6_shut 5 (.invokevirtual 170) 3 8 := by decide +kernel
theorem d_X6_shut_8 : Dq cX6_shut 8 (.ifCond .ne) 14 11 := by decide +kernel
theorem d_X6_shut_11 : Dc cX6_shut 11 (.ldc 66) 2 13 := by decide +kernel
theorem d_X6_shut_13 : Dc cX6_shut 13 (.ireturn) 1 14 := by decide +kernel
theorem d_X6_shut_14 : Dc cX6_shut 14 (.aload_n 0) 1 15 := by decide +kernel
theorem d_X6_shut_15 : Dc cX6_shut 15 (.invokevirtual 161) 3 18 := by decide +kernel
theorem d_X6_shut_18 : Dc cX6_shut 18 (.aload_n 0) 1 19 := by decide +kernel
theorem d_X6_shut_19 : Dc cX6_shut 19 (.getfield 26) 3 22 := by decide +kernel
theorem d_X6_shut_22 : Dc cX6_shut 22 (.iload_n 1) 1 23 := by decide +kernel
theorem d_X6_shut_23 : Dc cX6_shut 23 (.invokevirtual 173) 3 26 := by decide +kernel
theorem d_X6_shut_26 : Dc cX6_shut 26 (.aload_n 0) 1 27 := by decide +kernel
theorem d_X6_shut_27 : Dc cX6_shut 27 (.getfield 26) 3 30 := by decide +kernel
theorem d_X6_shut_30 : Dc cX6_shut 30 (.iload_n 1) 1 31 := by decide +kernel
theorem d_X6_shut_31 : Dc cX6_shut 31 (.invokevirtual 177) 3 34 := by decide +kernel
theorem d_X6_shut_34 : Dq cX6_shut 34 (.ifCond .eq) 41 37 := by decide +kernel
theorem d_X6_shut_37 : Dc cX6_shut 37 (.iconst 1) 1 38 := by decide +kernel
theorem d_X6_shut_38 : Dq cX6_shut 38 (.goto) 42 41 := by decide +kernel
theorem d_X6_shut_41 : Dc cX6_shut 41 (.iconst 0) 1 42 := by decide +kernel
theorem d_X6_shut_42 : Dc cX6_shut 42 (.ireturn) 1 43 := by decide +kernel
theorem d_X6_power_0 : Dc cX6_power 0 (.aload_n 0) 1 1 := by decide +kernel
theorem d_X6_power_1 : Dc cX6_power 1 (.getfield 26) 3 4 := by decide +kernel
theorem d_X6_power_4 : Dc cX6_power 4 (.invokevirtual 154) 3 7 := by decide +kernel
theorem d_X6_power_7 : Dq cX6_power 7 (.ifCond .eq) 13 10 := by decide +kernel
theorem d_X6_power_10 : Dc cX6_power 10 (.ldc 141) 2 12 := by decide +kernel
theorem d_X6_power_12 : Dc cX6_power 12 (.ireturn) 1 13 := by decide +kernel
theorem d_X6_power_13 : Dc cX6_power 13 (.iload_n 1) 1 14 := by decide +kernel
theorem d_X6_power_14 : Dc cX6_power 14 (.iconst 1) 1 15 := by decide +kernel
theorem d_X6_power_15 : Dq cX6_power 15 (.if_icmp .lt) 23 18 := by decide +kernel
theorem d_X6_power_18 : Dc cX6_power 18 (.iload_n 1) 1 19 := by decide +kernel
theorem d_X6_power_19 : Dc cX6_power 19 (.iconst 5) 1 20 := by decide +kernel
theorem d_X6_power_20 : Dq cX6_power 20 (.if_icmp .le) 26 23 := by decide +kernel
theorem d_X6_power_23 : Dc cX6_power 23 (.ldc 66) 2 25 := by decide +kernel
theorem d_X6_power_25 : Dc cX6_power 25 (.ireturn) 1 26 := by decide +kernel
theorem d_X6_power_26 : Dc cX6_power 26 (.aload_n 0) 1 27 := by decide +kernel
theorem d_X6_power_27 : Dc cX6_power 27 (.invokevirtual 161) 3 30 := by decide +kernel
theorem d_X6_power_30 : Dc cX6_power 30 (.aload_n 0) 1 31 := by decide +kernel
theorem d_X6_power_31 : Dc cX6_power 31 (.getfield 26) 3 34 := by decide +kernel
theorem d_X6_power_34 : Dc cX6_power 34 (.getfield 180) 3 37 := by decide +kernel
theorem d_X6_power_37 : Dc cX6_power 37 (.istore_n 2) 1 38 := by decide +kernel
theorem d_X6_power_38 : Dc cX6_power 38 (.aload_n 0) 1 39 := by decide +kernel
theorem d_X6_power_39 : Dc cX6_power 39 (.getfield 26) 3 42 := by decide +kernel
theorem d_X6_power_42 : Dc cX6_power 42 (.iload_n 1) 1 43 := by decide +kernel
theorem d_X6_power_43 : Dc cX6_power 43 (.putfield 180) 3 46 := by decide +kernel
theorem d_X6_power_46 : Dc cX6_power 46 (.iload_n 2) 1 47 := by decide +kernel
theorem d_X6_power_47 : Dc cX6_power 47 (.ireturn) 1 48 := by decide +kernel
theorem d_X6_due_0 : Dc cX6_due 0 (.aload_n 0) 1 1 := by decide +kernel
theorem d_X6_due_1 : Dc cX6_due 1 (.getfield 26) 3 4 := by decide +kernel
theorem d_X6_due_4 : Dc cX6_due 4 (.iload_n 1) 1 5 := by decide +kernel
theorem d_X6_due_5 : Dc cX6_due 5 (.invokevirtual 183) 3 8 := by decide +kernel
theorem d_X6_due_8 : Dq cX6_due 8 (.ifCond .eq) 21 11 := by decide +kernel
theorem d_X6_due_11 : Dc cX6_due 11 (.iload_n 2) 1 12 := by decide +kernel
theorem d_X6_due_12 : Dq cX6_due 12 (.ifCond .lt) 21 15 := by decide +kernel
theorem d_X6_due_15 : Dc cX6_due 15 (.iload_n 2) 1 16 := by decide +kernel
theorem d_X6_due_16 : Dc cX6_due 16 (.bipush 99) 2 18 := by decide +kernel
theorem d_X6_due_18 : Dq cX6_due 18 (.if_icmp .le) 24 21 := by decide +kernel
theorem d_X6_due_21 : Dc cX6_due 21 (.ldc 66) 2 23 := by decide +kernel
theorem d_X6_due_23 : Dc cX6_due 23 (.ireturn) 1 24 := by decide +kernel
theorem d_X6_due_24 : Dc cX6_due 24 (.aload_n 0) 1 25 := by decide +kernel
theorem d_X6_due_25 : Dc cX6_due 25 (.invokevirtual 161) 3 28 := by decide +kernel
theorem d_X6_due_28 : Dc cX6_due 28 (.aload_n 0) 1 29 := by decide +kernel
theorem d_X6_due_29 : Dc cX6_due 29 (.getfield 26) 3 32 := by decide +kernel
theorem d_X6_due_32 : Dc cX6_due 32 (.getfield 186) 3 35 := by decide +kernel
theorem d_X6_due_35 : Dc cX6_due 35 (.iload_n 1) 1 36 := by decide +kernel
theorem d_X6_due_36 : Dc cX6_due 36 (.iaload) 1 37 := by decide +kernel
theorem d_X6_due_37 : Dc cX6_due 37 (.istore_n 3) 1 38 := by decide +kernel
theorem d_X6_due_38 : Dc cX6_due 38 (.aload_n 0) 1 39 := by decide +kernel
theorem d_X6_due_39 : Dc cX6_due 39 (.getfield 26) 3 42 := by decide +kernel
theorem d_X6_due_42 : Dc cX6_due 42 (.getfield 186) 3 45 := by decide +kernel
theorem d_X6_due_45 : Dc cX6_due 45 (.iload_n 1) 1 46 := by decide +kernel
theorem d_X6_due_46 : Dc cX6_due 46 (.iload_n 2) 1 47 := by decide +kernel
theorem d_X6_due_47 : Dc cX6_due 47 (.iastore) 1 48 := by decide +kernel
theorem d_X6_due_48 : Dc cX6_due 48 (.iload_n 3) 1 49 := by decide +kernel
theorem d_X6_due_49 : Dc cX6_due 49 (.ireturn) 1 50 := by decide +kernel
theorem d_X6_again_0 : Dc cX6_again 0 (.aload_n 0) 1 1 := by decide +kernel
theorem d_X6_again_1 : Dc cX6_again 1 (.getfield 26) 3 4 := by decide +kernel
theorem d_X6_again_4 : Dc cX6_again 4 (.iload_n 1) 1 5 := by decide +kernel
theorem d_X6_again_5 : Dc cX6_again 5 (.invokevirtual 183) 3 8 := by decide +kernel
theorem d_X6_again_8 : Dq cX6_again 8 (.ifCond .eq) 22 11 := by decide +kernel
theorem d_X6_again_11 : Dc cX6_again 11 (.iload_n 2) 1 12 := by decide +kernel
theorem d_X6_again_12 : Dc cX6_again 12 (.iconst 1) 1 13 := by decide +kernel
theorem d_X6_again_13 : Dq cX6_again 13 (.if_icmp .lt) 22 16 := by decide +kernel
theorem d_X6_again_16 : Dc cX6_again 16 (.iload_n 2) 1 17 := by decide +kernel
theorem d_X6_again_17 : Dc cX6_again 17 (.bipush 9) 2 19 := by decide +kernel
theorem d_X6_again_19 : Dq cX6_again 19 (.if_icmp .le) 25 22 := by decide +kernel
theorem d_X6_again_22 : Dc cX6_again 22 (.ldc 66) 2 24 := by decide +kernel
theorem d_X6_again_24 : Dc cX6_again 24 (.ireturn) 1 25 := by decide +kernel
theorem d_X6_again_25 : Dc cX6_again 25 (.aload_n 0) 1 26 := by decide +kernel
theorem d_X6_again_26 : Dc cX6_again 26 (.getfield 26) 3 29 := by decide +kernel
theorem d_X6_again_29 : Dc cX6_again 29 (.getfield 189) 3 32 := by decide +kernel
theorem d_X6_again_32 : Dc cX6_again 32 (.iload_n 1) 1 33 := by decide +kernel
theorem d_X6_again_33 : Dc cX6_again 33 (.iaload) 1 34 := by decide +kernel
theorem d_X6_again_34 : Dc cX6_again 34 (.iconst 2) 1 35 := by decide +kernel
theorem d_X6_again_35 : Dq cX6_again 35 (.if_icmp .eq) 41 38 := by decide +kernel
theorem d_X6_again_38 : Dc cX6_again 38 (.ldc 141) 2 40 := by decide +kernel
theorem d_X6_again_40 : Dc cX6_again 40 (.ireturn) 1 41 := by decide +kernel
theorem d_X6_again_41 : Dc cX6_again 41 (.aload_n 0) 1 42 := by decide +kernel
theorem d_X6_again_42 : Dc cX6_again 42 (.invokevirtual 161) 3 45 := by decide +kernel
theorem d_X6_again_45 : Dc cX6_again 45 (.aload_n 0) 1 46 := by decide +kernel
theorem d_X6_again_46 : Dc cX6_again 46 (.getfield 26) 3 49 := by decide +kernel
theorem d_X6_again_49 : Dc cX6_again 49 (.iload_n 1) 1 50 := by decide +kernel
theorem d_X6_again_50 : Dc cX6_again 50 (.iload_n 2) 1 51 := by decide +kernel
theorem d_X6_again_51 : Dc cX6_again 51 (.invokevirtual 192) 3 54 := by decide +kernel
theorem d_X6_again_54 : Dc cX6_again 54 (.aload_n 0) 1 55 := by decide +kernel
theorem d_X6_again_55 : Dc cX6_again 55 (.getfield 26) 3 58 := by decide +kernel
theorem d_X6_again_58 : Dc cX6_again 58 (.iconst 0) 1 59 := by decide +kernel
theorem d_X6_again_59 : Dc cX6_again 59 (.invokevirtual 167) 3 62 := by decide +kernel
theorem d_X6_again_62 : Dc cX6_again 62 (.ireturn) 1 63 := by decide +kernel
theorem d_X6_machine_0 : Dc cX6_machine 0 (.aload_n 0) 1 1 := by decide +kernel
theorem d_X6_machine_1 : Dc cX6_machine 1 (.getfield 26) 3 4 := by decide +kernel
theorem d_X6_machine_4 : Dc cX6_machine 4 (.iload_n 1) 1 5 := by decide +kernel
theorem d_X6_machine_5 : Dc cX6_machine 5 (.invokevirtual 170) 3 8 := by decide +kernel
theorem d_X6_machine_8 : Dq cX6_machine 8 (.ifCond .ne) 14 11 := by decide +kernel
theorem d_X6_machine_11 : Dc cX6_machine 11 (.ldc 66) 2 13 := by decide +kernel
theorem d_X6_machine_13 : Dc cX6_machine 13 (.ireturn) 1 14 := by decide +kernel
theorem d_X6_machine_14 : Dc cX6_machine 14 (.iload_n 2) 1 15 := by decide +kernel
theorem d_X6_machine_15 : decode cX6_machine 15 = .ok (.tableswitch 124 0 6 #[41, 51, 61, 78, 87, 97, 107], 41) := by decide +kernel
theorem d_X6_machine_56 : Dc cX6_machine 56 (.aload_n 0) 1 57 := by decide +kernel
theorem d_X6_machine_57 : Dc cX6_machine 57 (.getfield 26) 3 60 := by decide +kernel
theorem d_X6_machine_60 : Dc cX6_machine 60 (.getfield 196) 3 63 := by decide +kernel
theorem d_X6_machine_63 : Dc cX6_machine 63 (.iload_n 1) 1 64 := by decide +kernel
theorem d_X6_machine_64 : Dc cX6_machine 64 (.iaload) 1 65 := by decide +kernel
theorem d_X6_machine_65 : Dc cX6_machine 65 (.ireturn) 1 66 := by decide +kernel
theorem d_X6_machine_66 : Dc cX6_machine 66 (.aload_n 0) 1 67 := by decide +kernel
theorem d_X6_machine_67 : Dc cX6_machine 67 (.getfield 26) 3 70 := by decide +kernel
theorem d_X6_machine_70 : Dc cX6_machine 70 (.getfield 199) 3 73 := by decide +kernel
theorem d_X6_machine_73 : Dc cX6_machine 73 (.iload_n 1) 1 74 := by decide +kernel
theorem d_X6_machine_74 : Dc cX6_machine 74 (.iaload) 1 75 := by decide +kernel
theorem d_X6_machine_75 : Dc cX6_machine 75 (.ireturn) 1 76 := by decide +kernel
theorem d_X6_machine_76 : Dc cX6_machine 76 (.aload_n 0) 1 77 := by decide +kernel
theorem d_X6_machine_77 : Dc cX6_machine 77 (.getfield 26) 3 80 := by decide +kernel
theorem d_X6_machine_80 : Dc cX6_machine 80 (.iload_n 1) 1 81 := by decide +kernel
theorem d_X6_machine_81 : Dc cX6_machine 81 (.invokevirtual 177) 3 84 := by decide +kernel
theorem d_X6_machine_84 : Dq cX6_machine 84 (.ifCond .eq) 91 87 := by decide +kernel
theorem d_X6_machine_87 : Dc cX6_machine 87 (.iconst 1) 1 88 := by decide +kernel
theorem d_X6_machine_88 : Dq cX6_machine 88 (.goto) 92 91 := by decide +kernel
theorem d_X6_machine_91 : Dc cX6_machine 91 (.iconst 0) 1 92 := by decide +kernel
theorem d_X6_machine_92 : Dc cX6_machine 92 (.ireturn) 1 93 := by decide +kernel
theorem d_X6_machine_93 : Dc cX6_machine 93 (.aload_n 0) 1 94 := by decide +kernel
theorem d_X6_machine_94 : Dc cX6_machine 94 (.getfield 26) 3 97 := by decide +kernel
theorem d_X6_machine_97 : Dc cX6_machine 97 (.iload_n 1) 1 98 := by decide +kernel
theorem d_X6_machine_98 : Dc cX6_machine 98 (.invokevirtual 202) 3 101 := by decide +kernel
theorem d_X6_machine_101 : Dc cX6_machine 101 (.ireturn) 1 102 := by decide +kernel
theorem d_X6_machine_102 : Dc cX6_machine 102 (.aload_n 0) 1 103 := by decide +kernel
theorem d_X6_machine_103 : Dc cX6_machine 103 (.getfield 26) 3 106 := by decide +kernel
theorem d_X6_machine_106 : Dc cX6_machine 106 (.getfield 205) 3 109 := by decide +kernel
theorem d_X6_machine_109 : Dc cX6_machine 109 (.iload_n 1) 1 110 := by decide +kernel
theorem d_X6_machine_110 : Dc cX6_machine 110 (.iaload) 1 111 := by decide +kernel
theorem d_X6_machine_111 : Dc cX6_machine 111 (.ireturn) 1 112 := by decide +kernel
theorem d_X6_machine_112 : Dc cX6_machine 112 (.aload_n 0) 1 113 := by decide +kernel
theorem d_X6_machine_113 : Dc cX6_machine 113 (.getfield 26) 3 116 := by decide +kernel
theorem d_X6_machine_116 : Dc cX6_machine 116 (.getfield 208) 3 119 := by decide +kernel
theorem d_X6_machine_119 : Dc cX6_machine 119 (.iload_n 1) 1 120 := by decide +kernel
theorem d_X6_machine_120 : Dc cX6_machine 120 (.iaload) 1 121 := by decide +kernel
theorem d_X6_machine_121 : Dc cX6_machine 121 (.ireturn) 1 122 := by decide +kernel
theorem d_X6_machine_122 : Dc cX6_machine 122 (.aload_n 0) 1 123 := by decide +kernel
theorem d_X6_machine_123 : Dc cX6_machine 123 (.getfield 26) 3 126 := by decide +kernel
theorem d_X6_machine_126 : Dc cX6_machine 126 (.iload_n 1) 1 127 := by decide +kernel
theorem d_X6_machine_127 : Dc cX6_machine 127 (.invokevirtual 211) 3 130 := by decide +kernel
theorem d_X6_machine_130 : Dq cX6_machine 130 (.ifCond .eq) 137 133 := by decide +kernel
theorem d_X6_machine_133 : Dc cX6_machine 133 (.iconst 1) 1 134 := by decide +kernel
theorem d_X6_machine_134 : Dq cX6_machine 134 (.goto) 138 137 := by decide +kernel
theorem d_X6_machine_137 : Dc cX6_machine 137 (.iconst 0) 1 138 := by decide +kernel
theorem d_X6_machine_138 : Dc cX6_machine 138 (.ireturn) 1 139 := by decide +kernel
theorem d_X6_machine_139 : Dc cX6_machine 139 (.ldc 66) 2 141 := by decide +kernel
theorem d_X6_machine_141 : Dc cX6_machine 141 (.ireturn) 1 142 := by decide +kernel
theorem d_X6_load_0 : Dc cX6_load 0 (.aload_n 0) 1 1 := by decide +kernel
theorem d_X6_load_1 : Dc cX6_load 1 (.getfield 26) 3 4 := by decide +kernel
theorem d_X6_load_4 : Dc cX6_load 4 (.iload_n 1) 1 5 := by decide +kernel
theorem d_X6_load_5 : Dc cX6_load 5 (.invokevirtual 183) 3 8 := by decide +kernel
theorem d_X6_load_8 : Dq cX6_load 8 (.ifCond .ne) 14 11 := by decide +kernel
theorem d_X6_load_11 : Dc cX6_load 11 (.ldc 66) 2 13 := by decide +kernel
theorem d_X6_load_13 : Dc cX6_load 13 (.ireturn) 1 14 := by decide +kernel
theorem d_X6_load_14 : Dc cX6_load 14 (.iload_n 2) 1 15 := by decide +kernel
theorem d_X6_load_15 : decode cX6_load 15 = .ok (.tableswitch 100 0 4 #[33, 43, 53, 63, 91], 33) := by decide +kernel
theorem d_X6_load_48 : Dc cX6_load 48 (.aload_n 0) 1 49 := by decide +kernel
theorem d_X6_load_49 : Dc cX6_load 49 (.getfield 26) 3 52 := by decide +kernel
theorem d_X6_load_52 : Dc cX6_load 52 (.getfield 214) 3 55 := by decide +kernel
theorem d_X6_load_55 : Dc cX6_load 55 (.iload_n 1) 1 56 := by decide +kernel
theorem d_X6_load_56 : Dc cX6_load 56 (.iaload) 1 57 := by decide +kernel
theorem d_X6_load_57 : Dc cX6_load 57 (.ireturn) 1 58 := by decide +kernel
theorem d_X6_load_58 : Dc cX6_load 58 (.aload_n 0) 1 59 := by decide +kernel
theorem d_X6_load_59 : Dc cX6_load 59 (.getfield 26) 3 62 := by decide +kernel
theorem d_X6_load_62 : Dc cX6_load 62 (.getfield 186) 3 65 := by decide +kernel
theorem d_X6_load_65 : Dc cX6_load 65 (.iload_n 1) 1 66 := by decide +kernel
theorem d_X6_load_66 : Dc cX6_load 66 (.iaload) 1 67 := by decide +kernel
theorem d_X6_load_67 : Dc cX6_load 67 (.ireturn) 1 68 := by decide +kernel
theorem d_X6_load_68 : Dc cX6_load 68 (.aload_n 0) 1 69 := by decide +kernel
theorem d_X6_load_69 : Dc cX6_load 69 (.getfield 26) 3 72 := by decide +kernel
theorem d_X6_load_72 : Dc cX6_load 72 (.getfield 189) 3 75 := by decide +kernel
theorem d_X6_load_75 : Dc cX6_load 75 (.iload_n 1) 1 76 := by decide +kernel
theorem d_X6_load_76 : Dc cX6_load 76 (.iaload) 1 77 := by decide +kernel
theorem d_X6_load_77 : Dc cX6_load 77 (.ireturn) 1 78 := by decide +kernel
theorem d_X6_load_78 : Dc cX6_load 78 (.aload_n 0) 1 79 := by decide +kernel
theorem d_X6_load_79 : Dc cX6_load 79 (.getfield 26) 3 82 := by decide +kernel
theorem d_X6_load_82 : Dc cX6_load 82 (.getfield 189) 3 85 := by decide +kernel
theorem d_X6_load_85 : Dc cX6_load 85 (.iload_n 1) 1 86 := by decide +kernel
theorem d_X6_load_86 : Dc cX6_load 86 (.iaload) 1 87 := by decide +kernel
theorem d_X6_load_87 : Dc cX6_load 87 (.iconst 2) 1 88 := by decide +kernel
theorem d_X6_load_88 : Dq cX6_load 88 (.if_icmp .ne) 103 91 := by decide +kernel
theorem d_X6_load_91 : Dc cX6_load 91 (.aload_n 0) 1 92 := by decide +kernel
theorem d_X6_load_92 : Dc cX6_load 92 (.getfield 26) 3 95 := by decide +kernel
theorem d_X6_load_95 : Dc cX6_load 95 (.getfield 217) 3 98 := by decide +kernel
theorem d_X6_load_98 : Dc cX6_load 98 (.iload_n 1) 1 99 := by decide +kernel
theorem d_X6_load_99 : Dc cX6_load 99 (.iaload) 1 100 := by decide +kernel
theorem d_X6_load_100 : Dq cX6_load 100 (.goto) 105 103 := by decide +kernel
theorem d_X6_load_103 : Dc cX6_load 103 (.ldc 220) 2 105 := by decide +kernel
theorem d_X6_load_105 : Dc cX6_load 105 (.ireturn) 1 106 := by decide +kernel
theorem d_X6_load_106 : Dc cX6_load 106 (.aload_n 0) 1 107 := by decide +kernel
theorem d_X6_load_107 : Dc cX6_load 107 (.getfield 26) 3 110 := by decide +kernel
theorem d_X6_load_110 : Dc cX6_load 110 (.iload_n 1) 1 111 := by decide +kernel
theorem d_X6_load_111 : Dc cX6_load 111 (.invokevirtual 221) 3 114 := by decide +kernel
theorem d_X6_load_114 : Dc cX6_load 114 (.ireturn) 1 115 := by decide +kernel
theorem d_X6_load_115 : Dc cX6_load 115 (.ldc 66) 2 117 := by decide +kernel
theorem d_X6_load_117 : Dc cX6_load 117 (.ireturn) 1 118 := by decide +kernel
theorem d_X6_lasts_0 : Dc cX6_lasts 0 (.aload_n 0) 1 1 := by decide +kernel
theorem d_X6_lasts_1 : Dc cX6_lasts 1 (.getfield 26) 3 4 := by decide +kernel
theorem d_X6_lasts_4 : Dc cX6_lasts 4 (.iload_n 1) 1 5 := by decide +kernel
theorem d_X6_lasts_5 : Dc cX6_lasts 5 (.invokevirtual 170) 3 8 := by decide +kernel
theorem d_X6_lasts_8 : Dq cX6_lasts 8 (.ifCond .eq) 22 11 := by decide +kernel
theorem d_X6_lasts_11 : Dc cX6_lasts 11 (.aload_n 0) 1 12 := by decide +kernel
theorem d_X6_lasts_12 : Dc cX6_lasts 12 (.getfield 26) 3 15 := by decide +kernel
theorem d_X6_lasts_15 : Dc cX6_lasts 15 (.iload_n 2) 1 16 := by decide +kernel
theorem d_X6_lasts_16 : Dc cX6_lasts 16 (.invokevirtual 183) 3 19 := by decide +kernel
theorem d_X6_lasts_19 : Dq cX6_lasts 19 (.ifCond .ne) 25 22 := by decide +kernel
theorem d_X6_lasts_22 : Dc cX6_lasts 22 (.ldc 66) 2 24 := by decide +kernel
theorem d_X6_lasts_24 : Dc cX6_lasts 24 (.ireturn) 1 25 := by decide +kernel
theorem d_X6_lasts_25 : Dc cX6_lasts 25 (.aload_n 0) 1 26 := by decide +kernel
theorem d_X6_lasts_26 : Dc cX6_lasts 26 (.getfield 26) 3 29 := by decide +kernel
theorem d_X6_lasts_29 : Dc cX6_lasts 29 (.iload_n 1) 1 30 := by decide +kernel
theorem d_X6_lasts_30 : Dc cX6_lasts 30 (.iload_n 2) 1 31 := by decide +kernel
theorem d_X6_lasts_31 : Dc cX6_lasts 31 (.invokevirtual 224) 3 34 := by decide +kernel
theorem d_X6_lasts_34 : Dc cX6_lasts 34 (.ireturn) 1 35 := by decide +kernel
theorem d_X6_stand_0 : Dc cX6_stand 0 (.aload_n 0) 1 1 := by decide +kernel
theorem d_X6_stand_1 : Dc cX6_stand 1 (.getfield 26) 3 4 := by decide +kernel
theorem d_X6_stand_4 : Dc cX6_stand 4 (.invokevirtual 154) 3 7 := by decide +kernel
theorem d_X6_stand_7 : Dq cX6_stand 7 (.ifCond .eq) 13 10 := by decide +kernel
theorem d_X6_stand_10 : Dc cX6_stand 10 (.ldc 141) 2 12 := by decide +kernel
theorem d_X6_stand_12 : Dc cX6_stand 12 (.ireturn) 1 13 := by decide +kernel
theorem d_X6_stand_13 : Dc cX6_stand 13 (.iload_n 1) 1 14 := by decide +kernel
theorem d_X6_stand_14 : decode cX6_stand 14 = .ok (.tableswitch 89 0 5 #[38, 46, 55, 64, 73, 81], 38) := by decide +kernel
theorem d_X6_stand_52 : Dc cX6_stand 52 (.aload_n 0) 1 53 := by decide +kernel
theorem d_X6_stand_53 : Dc cX6_stand 53 (.getfield 26) 3 56 := by decide +kernel
theorem d_X6_stand_56 : Dc cX6_stand 56 (.getfield 180) 3 59 := by decide +kernel
theorem d_X6_stand_59 : Dc cX6_stand 59 (.ireturn) 1 60 := by decide +kernel
theorem d_X6_stand_60 : Dc cX6_stand 60 (.aload_n 0) 1 61 := by decide +kernel
theorem d_X6_stand_61 : Dc cX6_stand 61 (.getfield 26) 3 64 := by decide +kernel
theorem d_X6_stand_64 : Dc cX6_stand 64 (.iconst 0) 1 65 := by decide +kernel
theorem d_X6_stand_65 : Dc cX6_stand 65 (.invokevirtual 167) 3 68 := by decide +kernel
theorem d_X6_stand_68 : Dc cX6_stand 68 (.ireturn) 1 69 := by decide +kernel
theorem d_X6_stand_69 : Dc cX6_stand 69 (.aload_n 0) 1 70 := by decide +kernel
theorem d_X6_stand_70 : Dc cX6_stand 70 (.getfield 26) 3 73 := by decide +kernel
theorem d_X6_stand_73 : Dc cX6_stand 73 (.iconst 1) 1 74 := by decide +kernel
theorem d_X6_stand_74 : Dc cX6_stand 74 (.invokevirtual 167) 3 77 := by decide +kernel
theorem d_X6_stand_77 : Dc cX6_stand 77 (.ireturn) 1 78 := by decide +kernel
theorem d_X6_stand_78 : Dc cX6_stand 78 (.aload_n 0) 1 79 := by decide +kernel
theorem d_X6_stand_79 : Dc cX6_stand 79 (.getfield 26) 3 82 := by decide +kernel
theorem d_X6_stand_82 : Dc cX6_stand 82 (.iconst 2) 1 83 := by decide +kernel
theorem d_X6_stand_83 : Dc cX6_stand 83 (.invokevirtual 167) 3 86 := by decide +kernel
theorem d_X6_stand_86 : Dc cX6_stand 86 (.ireturn) 1 87 := by decide +kernel
theorem d_X6_stand_87 : Dc cX6_stand 87 (.aload_n 0) 1 88 := by decide +kernel
theorem d_X6_stand_88 : Dc cX6_stand 88 (.getfield 26) 3 91 := by decide +kernel
theorem d_X6_stand_91 : Dc cX6_stand 91 (.getfield 228) 3 94 := by decide +kernel
theorem d_X6_stand_94 : Dc cX6_stand 94 (.ireturn) 1 95 := by decide +kernel
theorem d_X6_stand_95 : Dc cX6_stand 95 (.aload_n 0) 1 96 := by decide +kernel
theorem d_X6_stand_96 : Dc cX6_stand 96 (.getfield 26) 3 99 := by decide +kernel
theorem d_X6_stand_99 : Dc cX6_stand 99 (.invokevirtual 231) 3 102 := by decide +kernel
theorem d_X6_stand_102 : Dc cX6_stand 102 (.ireturn) 1 103 := by decide +kernel
theorem d_X6_stand_103 : Dc cX6_stand 103 (.ldc 66) 2 105 := by decide +kernel
theorem d_X6_stand_105 : Dc cX6_stand 105 (.ireturn) 1 106 := by decide +kernel
theorem d_X6_ahead_0 : Dc cX6_ahead 0 (.aload_n 0) 1 1 := by decide +kernel
theorem d_X6_ahead_1 : Dc cX6_ahead 1 (.getfield 26) 3 4 := by decide +kernel
theorem d_X6_ahead_4 : Dc cX6_ahead 4 (.iload_n 1) 1 5 := by decide +kernel
theorem d_X6_ahead_5 : Dc cX6_ahead 5 (.invokevirtual 183) 3 8 := by decide +kernel
theorem d_X6_ahead_8 : Dq cX6_ahead 8 (.ifCond .eq) 30 11 := by decide +kernel
theorem d_X6_ahead_11 : Dc cX6_ahead 11 (.iload_n 2) 1 12 := by decide +kernel
theorem d_X6_ahead_12 : Dq cX6_ahead 12 (.ifCond .lt) 30 15 := by decide +kernel
theorem d_X6_ahead_15 : Dc cX6_ahead 15 (.iload_n 2) 1 16 := by decide +kernel
theorem d_X6_ahead_16 : Dc cX6_ahead 16 (.bipush 60) 2 18 := by decide +kernel
theorem d_X6_ahead_18 : Dq cX6_ahead 18 (.if_icmp .gt) 30 21 := by decide +kernel
theorem d_X6_ahead_21 : Dc cX6_ahead 21 (.iload_n 3) 1 22 := by decide +kernel
theorem d_X6_ahead_22 : Dq cX6_ahead 22 (.ifCond .lt) 30 25 := by decide +kernel
theorem d_X6_ahead_25 : Dc cX6_ahead 25 (.iload_n 3) 1 26 := by decide +kernel
theorem d_X6_ahead_26 : Dc cX6_ahead 26 (.iconst 1) 1 27 := by decide +kernel
theorem d_X6_ahead_27 : Dq cX6_ahead 27 (.if_icmp .le) 33 30 := by decide +kernel
theorem d_X6_ahead_30 : Dc cX6_ahead 30 (.ldc 66) 2 32 := by decide +kernel
theorem d_X6_ahead_32 : Dc cX6_ahead 32 (.ireturn) 1 33 := by decide +kernel
theorem d_X6_ahead_33 : Dc cX6_ahead 33 (.aload_n 0) 1 34 := by decide +kernel
theorem d_X6_ahead_34 : Dc cX6_ahead 34 (.iload_n 2) 1 35 := by decide +kernel
theorem d_X6_ahead_35 : Dc cX6_ahead 35 (.invokevirtual 235) 3 38 := by decide +kernel
theorem d_X6_ahead_38 : Dc cX6_ahead 38 (.astore 4) 2 40 := by decide +kernel
theorem d_X6_ahead_40 : Dc cX6_ahead 40 (.iload_n 3) 1 41 := by decide +kernel
theorem d_X6_ahead_41 : Dq cX6_ahead 41 (.ifCond .ne) 54 44 := by decide +kernel
theorem d_X6_ahead_44 : Dc cX6_ahead 44 (.aload 4) 2 46 := by decide +kernel
theorem d_X6_ahead_46 : Dc cX6_ahead 46 (.getfield 189) 3 49 := by decide +kernel
theorem d_X6_ahead_49 : Dc cX6_ahead 49 (.iload_n 1) 1 50 := by decide +kernel
theorem d_X6_ahead_50 : Dc cX6_ahead 50 (.iaload) 1 51 := by decide +kernel
theorem d_X6_ahead_51 : Dq cX6_ahead 51 (.goto) 60 54 := by decide +kernel
theorem d_X6_ahead_54 : Dc cX6_ahead 54 (.aload 4) 2 56 := by decide +kernel
theorem d_X6_ahead_56 : Dc cX6_ahead 56 (.iload_n 1) 1 57 := by decide +kernel
theorem d_X6_ahead_57 : Dc cX6_ahead 57 (.invokevirtual 221) 3 60 := by decide +kernel
theorem d_X6_ahead_60 : Dc cX6_ahead 60 (.ireturn) 1 61 := by decide +kernel
theorem d_X6_inside_0 : Dc cX6_inside 0 (.aload_n 0) 1 1 := by decide +kernel
theorem d_X6_inside_1 : Dc cX6_inside 1 (.getfield 26) 3 4 := by decide +kernel
theorem d_X6_inside_4 : Dc cX6_inside 4 (.iload_n 1) 1 5 := by decide +kernel
theorem d_X6_inside_5 : Dc cX6_inside 5 (.invokevirtual 170) 3 8 := by decide +kernel
theorem d_X6_inside_8 : Dq cX6_inside 8 (.ifCond .eq) 30 11 := by decide +kernel
theorem d_X6_inside_11 : Dc cX6_inside 11 (.iload_n 2) 1 12 := by decide +kernel
theorem d_X6_inside_12 : Dq cX6_inside 12 (.ifCond .lt) 30 15 := by decide +kernel
theorem d_X6_inside_15 : Dc cX6_inside 15 (.iload_n 2) 1 16 := by decide +kernel
theorem d_X6_inside_16 : Dc cX6_inside 16 (.bipush 60) 2 18 := by decide +kernel
theorem d_X6_inside_18 : Dq cX6_inside 18 (.if_icmp .gt) 30 21 := by decide +kernel
theorem d_X6_inside_21 : Dc cX6_inside 21 (.iload_n 3) 1 22 := by decide +kernel
theorem d_X6_inside_22 : Dq cX6_inside 22 (.ifCond .lt) 30 25 := by decide +kernel
theorem d_X6_inside_25 : Dc cX6_inside 25 (.iload_n 3) 1 26 := by decide +kernel
theorem d_X6_inside_26 : Dc cX6_inside 26 (.iconst 2) 1 27 := by decide +kernel
theorem d_X6_inside_27 : Dq cX6_inside 27 (.if_icmp .le) 33 30 := by decide +kernel
theorem d_X6_inside_30 : Dc cX6_inside 30 (.ldc 66) 2 32 := by decide +kernel
theorem d_X6_inside_32 : Dc cX6_inside 32 (.ireturn) 1 33 := by decide +kernel
theorem d_X6_inside_33 : Dc cX6_inside 33 (.aload_n 0) 1 34 := by decide +kernel
theorem d_X6_inside_34 : Dc cX6_inside 34 (.iload_n 2) 1 35 := by decide +kernel
theorem d_X6_inside_35 : Dc cX6_inside 35 (.invokevirtual 235) 3 38 := by decide +kernel
theorem d_X6_inside_38 : Dc cX6_inside 38 (.astore 4) 2 40 := by decide +kernel
theorem d_X6_inside_40 : Dc cX6_inside 40 (.iload_n 3) 1 41 := by decide +kernel
theorem d_X6_inside_41 : decode cX6_inside 41 = .ok (.lookupswitch 42 #[(0, 27), (1, 34)], 27) := by decide +kernel
theorem d_X6_inside_68 : Dc cX6_inside 68 (.aload 4) 2 70 := by decide +kernel
theorem d_X6_inside_70 : Dc cX6_inside 70 (.iload_n 1) 1 71 := by decide +kernel
theorem d_X6_inside_71 : Dc cX6_inside 71 (.invokevirtual 202) 3 74 := by decide +kernel
theorem d_X6_inside_74 : Dc cX6_inside 74 (.ireturn) 1 75 := by decide +kernel
theorem d_X6_inside_75 : Dc cX6_inside 75 (.aload 4) 2 77 := by decide +kernel
theorem d_X6_inside_77 : Dc cX6_inside 77 (.getfield 205) 3 80 := by decide +kernel
theorem d_X6_inside_80 : Dc cX6_inside 80 (.iload_n 1) 1 81 := by decide +kernel
theorem d_X6_inside_81 : Dc cX6_inside 81 (.iaload) 1 82 := by decide +kernel
theorem d_X6_inside_82 : Dc cX6_inside 82 (.ireturn) 1 83 := by decide +kernel
theorem d_X6_inside_83 : Dc cX6_inside 83 (.aload 4) 2 85 := by decide +kernel
theorem d_X6_inside_85 : Dc cX6_inside 85 (.getfield 208) 3 88 := by decide +kernel
theorem d_X6_inside_88 : Dc cX6_inside 88 (.iload_n 1) 1 89 := by decide +kernel
theorem d_X6_inside_89 : Dc cX6_inside 89 (.iaload) 1 90 := by decide +kernel
theorem d_X6_inside_90 : Dc cX6_inside 90 (.ireturn) 1 91 := by decide +kernel
theorem d_X6_all_0 : Dc cX6_all 0 (.aload_n 0) 1 1 := by decide +kernel
theorem d_X6_all_1 : Dc cX6_all 1 (.getfield 26) 3 4 := by decide +kernel
theorem d_X6_all_4 : Dc cX6_all 4 (.invokevirtual 154) 3 7 := by decide +kernel
theorem d_X6_all_7 : Dq cX6_all 7 (.ifCond .eq) 13 10 := by decide +kernel
theorem d_X6_all_10 : Dc cX6_all 10 (.ldc 141) 2 12 := by decide +kernel
theorem d_X6_all_12 : Dc cX6_all 12 (.ireturn) 1 13 := by decide +kernel
theorem d_X6_all_13 : Dc cX6_all 13 (.iload_n 1) 1 14 := by decide +kernel
theorem d_X6_all_14 : Dq cX6_all 14 (.ifCond .lt) 32 17 := by decide +kernel
theorem d_X6_all_17 : Dc cX6_all 17 (.iload_n 1) 1 18 := by decide +kernel
theorem d_X6_all_18 : Dc cX6_all 18 (.bipush 60) 2 20 := by decide +kernel
theorem d_X6_all_20 : Dq cX6_all 20 (.if_icmp .gt) 32 23 := by decide +kernel
theorem d_X6_all_23 : Dc cX6_all 23 (.iload_n 2) 1 24 := by decide +kernel
theorem d_X6_all_24 : Dq cX6_all 24 (.ifCond .lt) 32 27 := by decide +kernel
theorem d_X6_all_27 : Dc cX6_all 27 (.iload_n 2) 1 28 := by decide +kernel
theorem d_X6_all_28 : Dc cX6_all 28 (.iconst 1) 1 29 := by decide +kernel
theorem d_X6_all_29 : Dq cX6_all 29 (.if_icmp .le) 35 32 := by decide +kernel
theorem d_X6_all_32 : Dc cX6_all 32 (.ldc 66) 2 34 := by decide +kernel
theorem d_X6_all_34 : Dc cX6_all 34 (.ireturn) 1 35 := by decide +kernel
theorem d_X6_all_35 : Dc cX6_all 35 (.aload_n 0) 1 36 := by decide +kernel
theorem d_X6_all_36 : Dc cX6_all 36 (.iload_n 1) 1 37 := by decide +kernel
theorem d_X6_all_37 : Dc cX6_all 37 (.invokevirtual 235) 3 40 := by decide +kernel
theorem d_X6_all_40 : Dc cX6_all 40 (.astore_n 3) 1 41 := by decide +kernel
theorem d_X6_all_41 : Dc cX6_all 41 (.iload_n 2) 1 42 := by decide +kernel
theorem d_X6_all_42 : Dq cX6_all 42 (.ifCond .ne) 53 45 := by decide +kernel
theorem d_X6_all_45 : Dc cX6_all 45 (.aload_n 3) 1 46 := by decide +kernel
theorem d_X6_all_46 : Dc cX6_all 46 (.iconst 2) 1 47 := by decide +kernel
theorem d_X6_all_47 : Dc cX6_all 47 (.invokevirtual 167) 3 50 := by decide +kernel
theorem d_X6_all_50 : Dq cX6_all 50 (.goto) 57 53 := by decide +kernel
theorem d_X6_all_53 : Dc cX6_all 53 (.aload_n 3) 1 54 := by decide +kernel
theorem d_X6_all_54 : Dc cX6_all 54 (.invokevirtual 239) 3 57 := by decide +kernel
theorem d_X6_all_57 : Dc cX6_all 57 (.ireturn) 1 58 := by decide +kernel
theorem d_X6_when_0 : Dc cX6_when 0 (.aload_n 0) 1 1 := by decide +kernel
theorem d_X6_when_1 : Dc cX6_when 1 (.getfield 26) 3 4 := by decide +kernel
theorem d_X6_when_4 : Dc cX6_when 4 (.iload_n 1) 1 5 := by decide +kernel
theorem d_X6_when_5 : Dc cX6_when 5 (.invokevirtual 183) 3 8 := by decide +kernel
theorem d_X6_when_8 : Dq cX6_when 8 (.ifCond .eq) 21 11 := by decide +kernel
theorem d_X6_when_11 : Dc cX6_when 11 (.iload_n 2) 1 12 := by decide +kernel
theorem d_X6_when_12 : Dc cX6_when 12 (.iconst 1) 1 13 := by decide +kernel
theorem d_X6_when_13 : Dq cX6_when 13 (.if_icmp .lt) 21 16 := by decide +kernel
theorem d_X6_when_16 : Dc cX6_when 16 (.iload_n 2) 1 17 := by decide +kernel
theorem d_X6_when_17 : Dc cX6_when 17 (.iconst 2) 1 18 := by decide +kernel
theorem d_X6_when_18 : Dq cX6_when 18 (.if_icmp .le) 24 21 := by decide +kernel
theorem d_X6_when_21 : Dc cX6_when 21 (.ldc 66) 2 23 := by decide +kernel
theorem d_X6_when_23 : Dc cX6_when 23 (.ireturn) 1 24 := by decide +kernel
theorem d_X6_when_24 : Dc cX6_when 24 (.aload_n 0) 1 25 := by decide +kernel
theorem d_X6_when_25 : Dc cX6_when 25 (.invokevirtual 242) 3 28 := by decide +kernel
theorem d_X6_when_28 : Dc cX6_when 28 (.astore_n 3) 1 29 := by decide +kernel
theorem d_X6_when_29 : Dc cX6_when 29 (.iconst 0) 1 30 := by decide +kernel
theorem d_X6_when_30 : Dc cX6_when 30 (.istore 4) 2 32 := by decide +kernel
theorem d_X6_when_32 : Dc cX6_when 32 (.iload 4) 2 34 := by decide +kernel
theorem d_X6_when_34 : Dc cX6_when 34 (.bipush 60) 2 36 := by decide +kernel
theorem d_X6_when_36 : Dq cX6_when 36 (.if_icmp .gt) 87 39 := by decide +kernel
theorem d_X6_when_39 : Dc cX6_when 39 (.iload_n 2) 1 40 := by decide +kernel
theorem d_X6_when_40 : Dc cX6_when 40 (.iconst 1) 1 41 := by decide +kernel
theorem d_X6_when_41 : Dq cX6_when 41 (.if_icmp .ne) 52 44 := by decide +kernel
theorem d_X6_when_44 : Dc cX6_when 44 (.aload_n 3) 1 45 := by decide +kernel
theorem d_X6_when_45 : Dc cX6_when 45 (.iload_n 1) 1 46 := by decide +kernel
theorem d_X6_when_46 : Dc cX6_when 46 (.invokevirtual 246) 3 49 := by decide +kernel
theorem d_X6_when_49 : Dq cX6_when 49 (.goto) 67 52 := by decide +kernel
theorem d_X6_when_52 : Dc cX6_when 52 (.aload_n 3) 1 53 := by decide +kernel
theorem d_X6_when_53 : Dc cX6_when 53 (.getfield 189) 3 56 := by decide +kernel
theorem d_X6_when_56 : Dc cX6_when 56 (.iload_n 1) 1 57 := by decide +kernel
theorem d_X6_when_57 : Dc cX6_when 57 (.iaload) 1 58 := by decide +kernel
theorem d_X6_when_58 : Dc cX6_when 58 (.iconst 2) 1 59 := by decide +kernel
theorem d_X6_when_59 : Dq cX6_when 59 (.if_icmp .ne) 66 62 := by decide +kernel
theorem d_X6_when_62 : Dc cX6_when 62 (.iconst 1) 1 63 := by decide +kernel
theorem d_X6_when_63 : Dq cX6_when 63 (.goto) 67 66 := by decide +kernel
theorem d_X6_when_66 : Dc cX6_when 66 (.iconst 0) 1 67 := by decide +kernel
theorem d_X6_when_67 : Dc cX6_when 67 (.istore 5) 2 69 := by decide +kernel
theorem d_X6_when_69 : Dc cX6_when 69 (.iload 5) 2 71 := by decide +kernel
theorem d_X6_when_71 : Dq cX6_when 71 (.ifCond .eq) 77 74 := by decide +kernel
theorem d_X6_when_74 : Dc cX6_when 74 (.iload 4) 2 76 := by decide +kernel
theorem d_X6_when_76 : Dc cX6_when 76 (.ireturn) 1 77 := by decide +kernel
theorem d_X6_when_77 : Dc cX6_when 77 (.aload_n 3) 1 78 := by decide +kernel
theorem d_X6_when_78 : Dc cX6_when 78 (.invokevirtual 164) 3 81 := by decide +kernel
theorem d_X6_when_81 : Dc cX6_when 81 (.iinc 4 1) 3 84 := by decide +kernel
theorem d_X6_when_84 : Dq cX6_when 84 (.goto) 32 87 := by decide +kernel
theorem d_X6_when_87 : Dc cX6_when 87 (.ldc 220) 2 89 := by decide +kernel
theorem d_X6_when_89 : Dc cX6_when 89 (.ireturn) 1 90 := by decide +kernel
theorem d_X6_over_0 : Dc cX6_over 0 (.aload_n 0) 1 1 := by decide +kernel
theorem d_X6_over_1 : Dc cX6_over 1 (.getfield 26) 3 4 := by decide +kernel
theorem d_X6_over_4 : Dc cX6_over 4 (.invokevirtual 154) 3 7 := by decide +kernel
theorem d_X6_over_7 : Dq cX6_over 7 (.ifCond .eq) 13 10 := by decide +kernel
theorem d_X6_over_10 : Dc cX6_over 10 (.ldc 141) 2 12 := by decide +kernel
theorem d_X6_over_12 : Dc cX6_over 12 (.ireturn) 1 13 := by decide +kernel
theorem d_X6_over_13 : Dc cX6_over 13 (.aload_n 0) 1 14 := by decide +kernel
theorem d_X6_over_14 : Dc cX6_over 14 (.invokevirtual 242) 3 17 := by decide +kernel
theorem d_X6_over_17 : Dc cX6_over 17 (.astore_n 1) 1 18 := by decide +kernel
theorem d_X6_over_18 : Dc cX6_over 18 (.iconst 0) 1 19 := by decide +kernel
theorem d_X6_over_19 : Dc cX6_over 19 (.istore_n 2) 1 20 := by decide +kernel
theorem d_X6_over_20 : Dc cX6_over 20 (.iload_n 2) 1 21 := by decide +kernel
theorem d_X6_over_21 : Dc cX6_over 21 (.bipush 60) 2 23 := by decide +kernel
theorem d_X6_over_23 : Dq cX6_over 23 (.if_icmp .gt) 45 26 := by decide +kernel
theorem d_X6_over_26 : Dc cX6_over 26 (.aload_n 1) 1 27 := by decide +kernel
theorem d_X6_over_27 : Dc cX6_over 27 (.invokevirtual 249) 3 30 := by decide +kernel
theorem d_X6_over_30 : Dq cX6_over 30 (.ifCond .eq) 35 33 := by decide +kernel
theorem d_X6_over_33 : Dc cX6_over 33 (.iload_n 2) 1 34 := by decide +kernel
theorem d_X6_over_34 : Dc cX6_over 34 (.ireturn) 1 35 := by decide +kernel
theorem d_X6_over_35 : Dc cX6_over 35 (.aload_n 1) 1 36 := by decide +kernel
theorem d_X6_over_36 : Dc cX6_over 36 (.invokevirtual 164) 3 39 := by decide +kernel
theorem d_X6_over_39 : Dc cX6_over 39 (.iinc 2 1) 3 42 := by decide +kernel
theorem d_X6_over_42 : Dq cX6_over 42 (.goto) 20 45 := by decide +kernel
theorem d_X6_over_45 : Dc cX6_over 45 (.ldc 220) 2 47 := by decide +kernel
theorem d_X6_over_47 : Dc cX6_over 47 (.ireturn) 1 48 := by decide +kernel
theorem d_X6_order_0 : Dc cX6_order 0 (.aload_n 0) 1 1 := by decide +kernel
theorem d_X6_order_1 : Dc cX6_order 1 (.getfield 26) 3 4 := by decide +kernel
theorem d_X6_order_4 : Dc cX6_order 4 (.invokevirtual 154) 3 7 := by decide +kernel
theorem d_X6_order_7 : Dq cX6_order 7 (.ifCond .eq) 13 10 := by decide +kernel
theorem d_X6_order_10 : Dc cX6_order 10 (.ldc 141) 2 12 := by decide +kernel
theorem d_X6_order_12 : Dc cX6_order 12 (.ireturn) 1 13 := by decide +kernel
theorem d_X6_order_13 : Dc cX6_order 13 (.iload_n 1) 1 14 := by decide +kernel
theorem d_X6_order_14 : Dc cX6_order 14 (.invokestatic 252) 3 17 := by decide +kernel
theorem d_X6_order_17 : Dq cX6_order 17 (.ifCond .eq) 25 20 := by decide +kernel
theorem d_X6_order_20 : Dc cX6_order 20 (.iload_n 2) 1 21 := by decide +kernel
theorem d_X6_order_21 : Dc cX6_order 21 (.iconst (-1)) 1 22 := by decide +kernel
theorem d_X6_order_22 : Dq cX6_order 22 (.if_icmp .ge) 28 25 := by decide +kernel
theorem d_X6_order_25 : Dc cX6_order 25 (.ldc 66) 2 27 := by decide +kernel
theorem d_X6_order_27 : Dc cX6_order 27 (.ireturn) 1 28 := by decide +kernel
theorem d_X6_order_28 : Dc cX6_order 28 (.aload_n 0) 1 29 := by decide +kernel
theorem d_X6_order_29 : Dc cX6_order 29 (.getfield 47) 3 32 := by decide +kernel
theorem d_X6_order_32 : Dc cX6_order 32 (.aload_n 0) 1 33 := by decide +kernel
theorem d_X6_order_33 : Dc cX6_order 33 (.getfield 26) 3 36 := by decide +kernel
theorem d_X6_order_36 : Dc cX6_order 36 (.aload_n 0) 1 37 := by decide +kernel
theorem d_X6_order_37 : Dc cX6_order 37 (.getfield 30) 3 40 := by decide +kernel
theorem d_X6_order_40 : Dc cX6_order 40 (.iload_n 1) 1 41 := by decide +kernel
theorem d_X6_order_41 : Dc cX6_order 41 (.invokevirtual 255) 3 44 := by decide +kernel
theorem d_X6_order_44 : Dc cX6_order 44 (.iload_n 2) 1 45 := by decide +kernel
theorem d_X6_order_45 : Dq cX6_order 45 (.ifCond .ge) 56 48 := by decide +kernel
theorem d_X6_order_48 : Dc cX6_order 48 (.aload_n 0) 1 49 := by decide +kernel
theorem d_X6_order_49 : Dc cX6_order 49 (.getfield 47) 3 52 := by decide +kernel
theorem d_X6_order_52 : Dc cX6_order 52 (.getfield 259) 3 55 := by decide +kernel
theorem d_X6_order_55 : Dc cX6_order 55 (.ireturn) 1 56 := by decide +kernel
theorem d_X6_order_56 : Dc cX6_order 56 (.iload_n 2) 1 57 := by decide +kernel
theorem d_X6_order_57 : Dc cX6_order 57 (.aload_n 0) 1 58 := by decide +kernel
theorem d_X6_order_58 : Dc cX6_order 58 (.getfield 26) 3 61 := by decide +kernel
theorem d_X6_order_61 : Dc cX6_order 61 (.getfield 262) 3 64 := by decide +kernel
theorem d_X6_order_64 : Dq cX6_order 64 (.if_icmp .ge) 79 67 := by decide +kernel
theorem d_X6_order_67 : Dc cX6_order 67 (.aload_n 0) 1 68 := by decide +kernel
theorem d_X6_order_68 : Dc cX6_order 68 (.getfield 47) 3 71 := by decide +kernel
theorem d_X6_order_71 : Dc cX6_order 71 (.getfield 265) 3 74 := by decide +kernel
theorem d_X6_order_74 : Dc cX6_order 74 (.iload_n 2) 1 75 := by decide +kernel
theorem d_X6_order_75 : Dc cX6_order 75 (.iaload) 1 76 := by decide +kernel
theorem d_X6_order_76 : Dq cX6_order 76 (.goto) 81 79 := by decide +kernel
theorem d_X6_order_79 : Dc cX6_order 79 (.ldc 220) 2 81 := by decide +kernel
theorem d_X6_order_81 : Dc cX6_order 81 (.ireturn) 1 82 := by decide +kernel
theorem d_X6_need_0 : Dc cX6_need 0 (.aload_n 0) 1 1 := by decide +kernel
theorem d_X6_need_1 : Dc cX6_need 1 (.getfield 26) 3 4 := by decide +kernel
theorem d_X6_need_4 : Dc cX6_need 4 (.invokevirtual 154) 3 7 := by decide +kernel
theorem d_X6_need_7 : Dq cX6_need 7 (.ifCond .eq) 13 10 := by decide +kernel
theorem d_X6_need_10 : Dc cX6_need 10 (.ldc 141) 2 12 := by decide +kernel
theorem d_X6_need_12 : Dc cX6_need 12 (.ireturn) 1 13 := by decide +kernel
theorem d_X6_need_13 : Dc cX6_need 13 (.iload_n 1) 1 14 := by decide +kernel
theorem d_X6_need_14 : Dc cX6_need 14 (.invokestatic 252) 3 17 := by decide +kernel
theorem d_X6_need_17 : Dq cX6_need 17 (.ifCond .ne) 23 20 := by decide +kernel
theorem d_X6_need_20 : Dc cX6_need 20 (.ldc 66) 2 22 := by decide +kernel
theorem d_X6_need_22 : Dc cX6_need 22 (.ireturn) 1 23 := by decide +kernel
theorem d_X6_need_23 : Dc cX6_need 23 (.iconst 1) 1 24 := by decide +kernel
theorem d_X6_need_24 : Dc cX6_need 24 (.istore_n 2) 1 25 := by decide +kernel
theorem d_X6_need_25 : Dc cX6_need 25 (.iload_n 2) 1 26 := by decide +kernel
theorem d_X6_need_26 : Dc cX6_need 26 (.iconst 5) 1 27 := by decide +kernel
theorem d_X6_need_27 : Dq cX6_need 27 (.if_icmp .gt) 60 30 := by decide +kernel
theorem d_X6_need_30 : Dc cX6_need 30 (.aload_n 0) 1 31 := by decide +kernel
theorem d_X6_need_31 : Dc cX6_need 31 (.invokevirtual 242) 3 34 := by decide +kernel
theorem d_X6_need_34 : Dc cX6_need 34 (.astore_n 3) 1 35 := by decide +kernel
theorem d_X6_need_35 : Dc cX6_need 35 (.aload_n 3) 1 36 := by decide +kernel
theorem d_X6_need_36 : Dc cX6_need 36 (.iload_n 2) 1 37 := by decide +kernel
theorem d_X6_need_37 : Dc cX6_need 37 (.putfield 180) 3 40 := by decide +kernel
theorem d_X6_need_40 : Dc cX6_need 40 (.aload_n 3) 1 41 := by decide +kernel
theorem d_X6_need_41 : Dc cX6_need 41 (.iload_n 1) 1 42 := by decide +kernel
theorem d_X6_need_42 : Dc cX6_need 42 (.invokevirtual 268) 3 45 := by decide +kernel
theorem d_X6_need_45 : Dc cX6_need 45 (.aload_n 3) 1 46 := by decide +kernel
theorem d_X6_need_46 : Dc cX6_need 46 (.invokevirtual 249) 3 49 := by decide +kernel
theorem d_X6_need_49 : Dq cX6_need 49 (.ifCond .eq) 54 52 := by decide +kernel
theorem d_X6_need_52 : Dc cX6_need 52 (.iload_n 2) 1 53 := by decide +kernel
theorem d_X6_need_53 : Dc cX6_need 53 (.ireturn) 1 54 := by decide +kernel
theorem d_X6_need_54 : Dc cX6_need 54 (.iinc 2 1) 3 57 := by decide +kernel
theorem d_X6_need_57 : Dq cX6_need 57 (.goto) 25 60 := by decide +kernel
theorem d_X6_need_60 : Dc cX6_need 60 (.ldc 220) 2 62 := by decide +kernel
theorem d_X6_need_62 : Dc cX6_need 62 (.ireturn) 1 63 := by decide +kernel
theorem d_X6_open_0 : Dc cX6_open 0 (.aload_n 0) 1 1 := by decide +kernel
theorem d_X6_open_1 : Dc cX6_open 1 (.getfield 26) 3 4 := by decide +kernel
theorem d_X6_open_4 : Dc cX6_open 4 (.invokevirtual 154) 3 7 := by decide +kernel
theorem d_X6_open_7 : Dq cX6_open 7 (.ifCond .eq) 13 10 := by decide +kernel
theorem d_X6_open_10 : Dc cX6_open 10 (.ldc 141) 2 12 := by decide +kernel
theorem d_X6_open_12 : Dc cX6_open 12 (.ireturn) 1 13 := by decide +kernel
theorem d_X6_open_13 : Dc cX6_open 13 (.iload_n 1) 1 14 := by decide +kernel
theorem d_X6_open_14 : Dc cX6_open 14 (.invokestatic 252) 3 17 := by decide +kernel
theorem d_X6_open_17 : Dq cX6_open 17 (.ifCond .eq) 29 20 := by decide +kernel
theorem d_X6_open_20 : Dc cX6_open 20 (.iload_n 2) 1 21 := by decide +kernel
theorem d_X6_open_21 : Dq cX6_open 21 (.ifCond .lt) 29 24 := by decide +kernel
theorem d_X6_open_24 : Dc cX6_open 24 (.iload_n 2) 1 25 := by decide +kernel
theorem d_X6_open_25 : Dc cX6_open 25 (.iconst 1) 1 26 := by decide +kernel
theorem d_X6_open_26 : Dq cX6_open 26 (.if_icmp .le) 32 29 := by decide +kernel
theorem d_X6_open_29 : Dc cX6_open 29 (.ldc 66) 2 31 := by decide +kernel
theorem d_X6_open_31 : Dc cX6_open 31 (.ireturn) 1 32 := by decide +kernel
theorem d_X6_open_32 : Dc cX6_open 32 (.ldc 220) 2 34 := by decide +kernel
theorem d_X6_open_34 : Dc cX6_open 34 (.istore_n 3) 1 35 := by decide +kernel
theorem d_X6_open_35 : Dc cX6_open 35 (.bipush 6) 2 37 := by decide +kernel
theorem d_X6_open_37 : Dc cX6_open 37 (.istore 4) 2 39 := by decide +kernel
theorem d_X6_open_39 : Dc cX6_open 39 (.iconst 0) 1 40 := by decide +kernel
theorem d_X6_open_40 : Dc cX6_open 40 (.istore 5) 2 42 := by decide +kernel
theorem d_X6_open_42 : Dc cX6_open 42 (.iload 5) 2 44 := by decide +kernel
theorem d_X6_open_44 : Dc cX6_open 44 (.iconst 1) 1 45 := by decide +kernel
theorem d_X6_open_45 : Dc cX6_open 45 (.aload_n 0) 1 46 := by decide +kernel
theorem d_X6_open_46 : Dc cX6_open 46 (.getfield 26) 3 49 := by decide +kernel
theorem d_X6_open_49 : Dc cX6_open 49 (.getfield 132) 3 52 := by decide +kernel
theorem d_X6_open_52 : Dc cX6_open 52 (.ishl) 1 53 := by decide +kernel
theorem d_X6_open_53 : Dq cX6_open 53 (.if_icmp .ge) 96 56 := by decide +kernel
theorem d_X6_open_56 : Dc cX6_open 56 (.iload 5) 2 58 := by decide +kernel
theorem d_X6_open_58 : Dc cX6_open 58 (.invokestatic 271) 3 61 := by decide +kernel
theorem d_X6_open_61 : Dc cX6_open 61 (.istore 6) 2 63 := by decide +kernel
theorem d_X6_open_63 : Dc cX6_open 63 (.iload 6) 2 65 := by decide +kernel
theorem d_X6_open_65 : Dc cX6_open 65 (.iload 4) 2 67 := by decide +kernel
theorem d_X6_open_67 : Dq cX6_open 67 (.if_icmp .ge) 90 70 := by decide +kernel
theorem d_X6_open_70 : Dc cX6_open 70 (.aload_n 0) 1 71 := by decide +kernel
theorem d_X6_open_71 : Dc cX6_open 71 (.iload_n 1) 1 72 := by decide +kernel
theorem d_X6_open_72 : Dc cX6_open 72 (.iload 5) 2 74 := by decide +kernel
theorem d_X6_open_74 : Dc cX6_open 74 (.invokevirtual 276) 3 77 := by decide +kernel
theorem d_X6_open_77 : Dc cX6_open 77 (.invokevirtual 249) 3 80 := by decide +kernel
theorem d_X6_open_80 : Dq cX6_open 80 (.ifCond .eq) 90 83 := by decide +kernel
theorem d_X6_open_83 : Dc cX6_open 83 (.iload 5) 2 85 := by decide +kernel
theorem d_X6_open_85 : Dc cX6_open 85 (.istore_n 3) 1 86 := by decide +kernel
theorem d_X6_open_86 : Dc cX6_open 86 (.iload 6) 2 88 := by decide +kernel
theorem d_X6_open_88 : Dc cX6_open 88 (.istore 4) 2 90 := by decide +kernel
theorem d_X6_open_90 : Dc cX6_open 90 (.iinc 5 1) 3 93 := by decide +kernel
theorem d_X6_open_93 : Dq cX6_open 93 (.goto) 42 96 := by decide +kernel
theorem d_X6_open_96 : Dc cX6_open 96 (.iload_n 3) 1 97 := by decide +kernel
theorem d_X6_open_97 : Dc cX6_open 97 (.ldc 220) 2 99 := by decide +kernel
theorem d_X6_open_99 : Dq cX6_open 99 (.if_icmp .ne) 105 102 := by decide +kernel
theorem d_X6_open_102 : Dc cX6_open 102 (.ldc 220) 2 104 := by decide +kernel
theorem d_X6_open_104 : Dc cX6_open 104 (.ireturn) 1 105 := by decide +kernel
theorem d_X6_open_105 : Dc cX6_open 105 (.iload_n 2) 1 106 := by decide +kernel
theorem d_X6_open_106 : Dq cX6_open 106 (.ifCond .ne) 114 109 := by decide +kernel
theorem d_X6_open_109 : Dc cX6_open 109 (.iload 4) 2 111 := by decide +kernel
theorem d_X6_open_111 : Dq cX6_open 111 (.goto) 115 114 := by decide +kernel
theorem d_X6_open_114 : Dc cX6_open 114 (.iload_n 3) 1 115 := by decide +kernel
theorem d_X6_open_115 : Dc cX6_open 115 (.ireturn) 1 116 := by decide +kernel
theorem d_X6_fills_0 : Dc cX6_fills 0 (.aload_n 0) 1 1 := by decide +kernel
theorem d_X6_fills_1 : Dc cX6_fills 1 (.getfield 26) 3 4 := by decide +kernel
theorem d_X6_fills_4 : Dc cX6_fills 4 (.iload_n 1) 1 5 := by decide +kernel
theorem d_X6_fills_5 : Dc cX6_fills 5 (.invokevirtual 170) 3 8 := by decide +kernel
theorem d_X6_fills_8 : Dq cX6_fills 8 (.ifCond .eq) 20 11 := by decide +kernel
theorem d_X6_fills_11 : Dc cX6_fills 11 (.iload_n 2) 1 12 := by decide +kernel
theorem d_X6_fills_12 : Dq cX6_fills 12 (.ifCond .lt) 20 15 := by decide +kernel
theorem d_X6_fills_15 : Dc cX6_fills 15 (.iload_n 2) 1 16 := by decide +kernel
theorem d_X6_fills_16 : Dc cX6_fills 16 (.iconst 2) 1 17 := by decide +kernel
theorem d_X6_fills_17 : Dq cX6_fills 17 (.if_icmp .le) 23 20 := by decide +kernel
theorem d_X6_fills_20 : Dc cX6_fills 20 (.ldc 66) 2 22 := by decide +kernel
theorem d_X6_fills_22 : Dc cX6_fills 22 (.ireturn) 1 23 := by decide +kernel
theorem d_X6_fills_23 : Dc cX6_fills 23 (.iconst 0) 1 24 := by decide +kernel
theorem d_X6_fills_24 : Dc cX6_fills 24 (.istore_n 3) 1 25 := by decide +kernel
theorem d_X6_fills_25 : Dc cX6_fills 25 (.iconst 0) 1 26 := by decide +kernel
theorem d_X6_fills_26 : Dc cX6_fills 26 (.istore 4) 2 28 := by decide +kernel
theorem d_X6_fills_28 : Dc cX6_fills 28 (.iconst (-1)) 1 29 := by decide +kernel
theorem d_X6_fills_29 : Dc cX6_fills 29 (.istore 5) 2 31 := by decide +kernel
theorem d_X6_fills_31 : Dc cX6_fills 31 (.aload_n 0) 1 32 := by decide +kernel
theorem d_X6_fills_32 : Dc cX6_fills 32 (.getfield 26) 3 35 := by decide +kernel
theorem d_X6_fills_35 : Dc cX6_fills 35 (.iconst 2) 1 36 := by decide +kernel
theorem d_X6_fills_36 : Dc cX6_fills 36 (.invokevirtual 167) 3 39 := by decide +kernel
theorem d_X6_fills_39 : Dc cX6_fills 39 (.istore 6) 2 41 := by decide +kernel
theorem d_X6_fills_41 : Dc cX6_fills 41 (.iconst 1) 1 42 := by decide +kernel
theorem d_X6_fills_42 : Dc cX6_fills 42 (.istore 7) 2 44 := by decide +kernel
theorem d_X6_fills_44 : Dc cX6_fills 44 (.iload 7) 2 46 := by decide +kernel
theorem d_X6_fills_46 : Dc cX6_fills 46 (.iconst 1) 1 47 := by decide +kernel
theorem d_X6_fills_47 : Dc cX6_fills 47 (.aload_n 0) 1 48 := by decide +kernel
theorem d_X6_fills_48 : Dc cX6_fills 48 (.getfield 26) 3 51 := by decide +kernel
theorem d_X6_fills_51 : Dc cX6_fills 51 (.getfield 262) 3 54 := by decide +kernel
theorem d_X6_fills_54 : Dc cX6_fills 54 (.ishl) 1 55 := by decide +kernel
theorem d_X6_fills_55 : Dq cX6_fills 55 (.if_icmp .ge) 110 58 := by decide +kernel
theorem d_X6_fills_58 : Dc cX6_fills 58 (.iload 7) 2 60 := by decide +kernel
theorem d_X6_fills_60 : Dc cX6_fills 60 (.iload 6) 2 62 := by decide +kernel
theorem d_X6_fills_62 : Dc cX6_fills 62 (.iand) 1 63 := by decide +kernel
theorem d_X6_fills_63 : Dq cX6_fills 63 (.ifCond .ne) 104 66 := by decide +kernel
theorem d_X6_fills_66 : Dc cX6_fills 66 (.aload_n 0) 1 67 := by decide +kernel
theorem d_X6_fills_67 : Dc cX6_fills 67 (.getfield 26) 3 70 := by decide +kernel
theorem d_X6_fills_70 : Dc cX6_fills 70 (.iload 7) 2 72 := by decide +kernel
theorem d_X6_fills_72 : Dc cX6_fills 72 (.invokevirtual 280) 3 75 := by decide +kernel
theorem d_X6_fills_75 : Dc cX6_fills 75 (.aload_n 0) 1 76 := by decide +kernel
theorem d_X6_fills_76 : Dc cX6_fills 76 (.getfield 26) 3 79 := by decide +kernel
theorem d_X6_fills_79 : Dc cX6_fills 79 (.getfield 196) 3 82 := by decide +kernel
theorem d_X6_fills_82 : Dc cX6_fills 82 (.iload_n 1) 1 83 := by decide +kernel
theorem d_X6_fills_83 : Dc cX6_fills 83 (.iaload) 1 84 := by decide +kernel
theorem d_X6_fills_84 : Dq cX6_fills 84 (.if_icmp .ne) 104 87 := by decide +kernel
theorem d_X6_fills_87 : Dc cX6_fills 87 (.iinc 3 1) 3 90 := by decide +kernel
theorem d_X6_fills_90 : Dc cX6_fills 90 (.iload 4) 2 92 := by decide +kernel
theorem d_X6_fills_92 : Dc cX6_fills 92 (.iload 7) 2 94 := by decide +kernel
theorem d_X6_fills_94 : Dc cX6_fills 94 (.ior) 1 95 := by decide +kernel
theorem d_X6_fills_95 : Dc cX6_fills 95 (.istore 4) 2 97 := by decide +kernel
theorem d_X6_fills_97 : Dc cX6_fills 97 (.iload 5) 2 99 := by decide +kernel
theorem d_X6_fills_99 : Dc cX6_fills 99 (.iload 7) 2 101 := by decide +kernel
theorem d_X6_fills_101 : Dc cX6_fills 101 (.iand) 1 102 := by decide +kernel
theorem d_X6_fills_102 : Dc cX6_fills 102 (.istore 5) 2 104 := by decide +kernel
theorem d_X6_fills_104 : Dc cX6_fills 104 (.iinc 7 1) 3 107 := by decide +kernel
theorem d_X6_fills_107 : Dq cX6_fills 107 (.goto) 44 110 := by decide +kernel
theorem d_X6_fills_110 : Dc cX6_fills 110 (.iload_n 2) 1 111 := by decide +kernel
theorem d_X6_fills_111 : decode cX6_fills 111 = .ok (.lookupswitch 38 #[(0, 25), (1, 27)], 25) := by decide +kernel
theorem d_X6_fills_136 : Dc cX6_fills 136 (.iload_n 3) 1 137 := by decide +kernel
theorem d_X6_fills_137 : Dc cX6_fills 137 (.ireturn) 1 138 := by decide +kernel
theorem d_X6_fills_138 : Dc cX6_fills 138 (.iload_n 3) 1 139 := by decide +kernel
theorem d_X6_fills_139 : Dq cX6_fills 139 (.ifCond .ne) 146 142 := by decide +kernel
theorem d_X6_fills_142 : Dc cX6_fills 142 (.iconst 0) 1 143 := by decide +kernel
theorem d_X6_fills_143 : Dq cX6_fills 143 (.goto) 148 146 := by decide +kernel
theorem d_X6_fills_146 : Dc cX6_fills 146 (.iload 5) 2 148 := by decide +kernel
theorem d_X6_fills_148 : Dc cX6_fills 148 (.ireturn) 1 149 := by decide +kernel
theorem d_X6_fills_149 : Dc cX6_fills 149 (.iload 4) 2 151 := by decide +kernel
theorem d_X6_fills_151 : Dc cX6_fills 151 (.ireturn) 1 152 := by decide +kernel
theorem d_X6_share_0 : Dc cX6_share 0 (.aload_n 0) 1 1 := by decide +kernel
theorem d_X6_share_1 : Dc cX6_share 1 (.getfield 26) 3 4 := by decide +kernel
theorem d_X6_share_4 : Dc cX6_share 4 (.iload_n 1) 1 5 := by decide +kernel
theorem d_X6_share_5 : Dc cX6_share 5 (.invokevirtual 170) 3 8 := by decide +kernel
theorem d_X6_share_8 : Dq cX6_share 8 (.ifCond .eq) 22 11 := by decide +kernel
theorem d_X6_share_11 : Dc cX6_share 11 (.iload_n 2) 1 12 := by decide +kernel
theorem d_X6_share_12 : Dq cX6_share 12 (.ifCond .lt) 22 15 := by decide +kernel
theorem d_X6_share_15 : Dc cX6_share 15 (.iload_n 2) 1 16 := by decide +kernel
theorem d_X6_share_16 : Dc cX6_share 16 (.sipush 999) 3 19 := by decide +kernel
theorem d_X6_share_19 : Dq cX6_share 19 (.if_icmp .le) 25 22 := by decide +kernel
theorem d_X6_share_22 : Dc cX6_share 22 (.ldc 66) 2 24 := by decide +kernel
theorem d_X6_share_24 : Dc cX6_share 24 (.ireturn) 1 25 := by decide +kernel
theorem d_X6_share_25 : Dc cX6_share 25 (.aload_n 0) 1 26 := by decide +kernel
theorem d_X6_share_26 : Dc cX6_share 26 (.getfield 26) 3 29 := by decide +kernel
theorem d_X6_share_29 : Dc cX6_share 29 (.invokevirtual 283) 3 32 := by decide +kernel
theorem d_X6_share_32 : Dc cX6_share 32 (.istore_n 3) 1 33 := by decide +kernel
theorem d_X6_share_33 : Dc cX6_share 33 (.iload_n 3) 1 34 := by decide +kernel
theorem d_X6_share_34 : Dq cX6_share 34 (.ifCond .le) 49 37 := by decide +kernel
theorem d_X6_share_37 : Dc cX6_share 37 (.aload_n 0) 1 38 := by decide +kernel
theorem d_X6_share_38 : Dc cX6_share 38 (.getfield 26) 3 41 := by decide +kernel
theorem d_X6_share_41 : Dc cX6_share 41 (.getfield 208) 3 44 := by decide +kernel
theorem d_X6_share_44 : Dc cX6_share 44 (.iload_n 1) 1 45 := by decide +kernel
theorem d_X6_share_45 : Dc cX6_share 45 (.iaload) 1 46 := by decide +kernel
theorem d_X6_share_46 : Dq cX6_share 46 (.ifCond .ne) 51 49 := by decide +kernel
theorem d_X6_share_49 : Dc cX6_share 49 (.iconst 0) 1 50 := by decide +kernel
theorem d_X6_share_50 : Dc cX6_share 50 (.ireturn) 1 51 := by decide +kernel
theorem d_X6_share_51 : Dc cX6_share 51 (.iload_n 2) 1 52 := by decide +kernel
theorem d_X6_share_52 : Dc cX6_share 52 (.istore 4) 2 54 := by decide +kernel
theorem d_X6_share_54 : Dc cX6_share 54 (.iconst 0) 1 55 := by decide +kernel
theorem d_X6_share_55 : Dc cX6_share 55 (.istore 5) 2 57 := by decide +kernel
theorem d_X6_share_57 : Dc cX6_share 57 (.iconst 0) 1 58 := by decide +kernel
theorem d_X6_share_58 : Dc cX6_share 58 (.istore 6) 2 60 := by decide +kernel
theorem d_X6_share_60 : Dc cX6_share 60 (.iload 6) 2 62 := by decide +kernel
theorem d_X6_share_62 : Dc cX6_share 62 (.aload_n 0) 1 63 := by decide +kernel
theorem d_X6_share_63 : Dc cX6_share 63 (.getfield 26) 3 66 := by decide +kernel
theorem d_X6_share_66 : Dc cX6_share 66 (.getfield 132) 3 69 := by decide +kernel
theorem d_X6_share_69 : Dq cX6_share 69 (.if_icmp .ge) 119 72 := by decide +kernel
theorem d_X6_share_72 : Dc cX6_share 72 (.iload 4) 2 74 := by decide +kernel
theorem d_X6_share_74 : Dc cX6_share 74 (.iload_n 2) 1 75 := by decide +kernel
theorem d_X6_share_75 : Dc cX6_share 75 (.aload_n 0) 1 76 := by decide +kernel
theorem d_X6_share_76 : Dc cX6_share 76 (.getfield 26) 3 79 := by decide +kernel
theorem d_X6_share_79 : Dc cX6_share 79 (.getfield 208) 3 82 := by decide +kernel
theorem d_X6_share_82 : Dc cX6_share 82 (.iload 6) 2 84 := by decide +kernel
theorem d_X6_share_84 : Dc cX6_share 84 (.iaload) 1 85 := by decide +kernel
theorem d_X6_share_85 : Dc cX6_share 85 (.imul) 1 86 := by decide +kernel
theorem d_X6_share_86 : Dc cX6_share 86 (.iload_n 3) 1 87 := by decide +kernel
theorem d_X6_share_87 : Dc cX6_share 87 (.idiv) 1 88 := by decide +kernel
theorem d_X6_share_88 : Dc cX6_share 88 (.isub) 1 89 := by decide +kernel
theorem d_X6_share_89 : Dc cX6_share 89 (.istore 4) 2 91 := by decide +kernel
theorem d_X6_share_91 : Dc cX6_share 91 (.iload 6) 2 93 := by decide +kernel
theorem d_X6_share_93 : Dc cX6_share 93 (.iload_n 1) 1 94 := by decide +kernel
theorem d_X6_share_94 : Dq cX6_share 94 (.if_icmp .ge) 113 97 := by decide +kernel
theorem d_X6_share_97 : Dc cX6_share 97 (.aload_n 0) 1 98 := by decide +kernel
theorem d_X6_share_98 : Dc cX6_share 98 (.getfield 26) 3 101 := by decide +kernel
theorem d_X6_share_101 : Dc cX6_share 101 (.getfield 208) 3 104 := by decide +kernel
theorem d_X6_share_104 : Dc cX6_share 104 (.iload 6) 2 106 := by decide +kernel
theorem d_X6_share_106 : Dc cX6_share 106 (.iaload) 1 107 := by decide +kernel
theorem d_X6_share_107 : Dq cX6_share 107 (.ifCond .le) 113 110 := by decide +kernel
theorem d_X6_share_110 : Dc cX6_share 110 (.iinc 5 1) 3 113 := by decide +kernel
theorem d_X6_share_113 : Dc cX6_share 113 (.iinc 6 1) 3 116 := by decide +kernel
theorem d_X6_share_116 : Dq cX6_share 116 (.goto) 60 119 := by decide +kernel
theorem d_X6_share_119 : Dc cX6_share 119 (.iload_n 2) 1 120 := by decide +kernel
theorem d_X6_share_120 : Dc cX6_share 120 (.aload_n 0) 1 121 := by decide +kernel
theorem d_X6_share_121 : Dc cX6_share 121 (.getfield 26) 3 124 := by decide +kernel
theorem d_X6_share_124 : Dc cX6_share 124 (.getfield 208) 3 127 := by decide +kernel
theorem d_X6_share_127 : Dc cX6_share 127 (.iload_n 1) 1 128 := by decide +kernel
theorem d_X6_share_128 : Dc cX6_share 128 (.iaload) 1 129 := by decide +kernel
theorem d_X6_share_129 : Dc cX6_share 129 (.imul) 1 130 := by decide +kernel
theorem d_X6_share_130 : Dc cX6_share 130 (.iload_n 3) 1 131 := by decide +kernel
theorem d_X6_share_131 : Dc cX6_share 131 (.idiv) 1 132 := by decide +kernel
theorem d_X6_share_132 : Dc cX6_share 132 (.iload 5) 2 134 := by decide +kernel
theorem d_X6_share_134 : Dc cX6_share 134 (.iload 4) 2 136 := by decide +kernel
theorem d_X6_share_136 : Dq cX6_share 136 (.if_icmp .ge) 143 139 := by decide +kernel
theorem d_X6_share_139 : Dc cX6_share 139 (.iconst 1) 1 140 := by decide +kernel
theorem d_X6_share_140 : Dq cX6_share 140 (.goto) 144 143 := by decide +kernel
theorem d_X6_share_143 : Dc cX6_share 143 (.iconst 0) 1 144 := by decide +kernel
theorem d_X6_share_144 : Dc cX6_share 144 (.iadd) 1 145 := by decide +kernel
theorem d_X6_share_145 : Dc cX6_share 145 (.ireturn) 1 146 := by decide +kernel
theorem d_X6_byTurns_0 : Dc cX6_byTurns 0 (.aload_n 0) 1 1 := by decide +kernel
theorem d_X6_byTurns_1 : Dc cX6_byTurns 1 (.getfield 26) 3 4 := by decide +kernel
theorem d_X6_byTurns_4 : Dc cX6_byTurns 4 (.invokevirtual 154) 3 7 := by decide +kernel
theorem d_X6_byTurns_7 : Dq cX6_byTurns 7 (.ifCond .eq) 13 10 := by decide +kernel
theorem d_X6_byTurns_10 : Dc cX6_byTurns 10 (.ldc 141) 2 12 := by decide +kernel
theorem d_X6_byTurns_12 : Dc cX6_byTurns 12 (.ireturn) 1 13 := by decide +kernel
theorem d_X6_byTurns_13 : Dc cX6_byTurns 13 (.iload_n 1) 1 14 := by decide +kernel
theorem d_X6_byTurns_14 : Dq cX6_byTurns 14 (.ifCond .lt) 33 17 := by decide +kernel
theorem d_X6_byTurns_17 : Dc cX6_byTurns 17 (.iload_n 1) 1 18 := by decide +kernel
theorem d_X6_byTurns_18 : Dc cX6_byTurns 18 (.iconst 4) 1 19 := by decide +kernel
theorem d_X6_byTurns_19 : Dq cX6_byTurns 19 (.if_icmp .gt) 33 22 := by decide +kernel
theorem d_X6_byTurns_22 : Dc cX6_byTurns 22 (.iload_n 2) 1 23 := by decide +kernel
theorem d_X6_byTurns_23 : Dc cX6_byTurns 23 (.iconst 1) 1 24 := by decide +kernel
theorem d_X6_byTurns_24 : Dq cX6_byTurns 24 (.if_icmp .lt) 33 27 := by decide +kernel
theorem d_X6_byTurns_27 : Dc cX6_byTurns 27 (.iload_n 2) 1 28 := by decide +kernel
theorem d_X6_byTurns_28 : Dc cX6_byTurns 28 (.bipush 20) 2 30 := by decide +kernel
theorem d_X6_byTurns_30 : Dq cX6_byTurns 30 (.if_icmp .le) 36 33 := by decide +kernel
theorem d_X6_byTurns_33 : Dc cX6_byTurns 33 (.ldc 66) 2 35 := by decide +kernel
theorem d_X6_byTurns_35 : Dc cX6_byTurns 35 (.ireturn) 1 36 := by decide +kernel
theorem d_X6_byTurns_36 : Dc cX6_byTurns 36 (.iconst 0) 1 37 := by decide +kernel
theorem d_X6_byTurns_37 : Dc cX6_byTurns 37 (.istore_n 3) 1 38 := by decide +kernel
theorem d_X6_byTurns_38 : Dc cX6_byTurns 38 (.iload_n 3) 1 39 := by decide +kernel
theorem d_X6_byTurns_39 : Dc cX6_byTurns 39 (.iconst 1) 1 40 := by decide +kernel
theorem d_X6_byTurns_40 : Dc cX6_byTurns 40 (.aload_n 0) 1 41 := by decide +kernel
theorem d_X6_byTurns_41 : Dc cX6_byTurns 41 (.getfield 26) 3 44 := by decide +kernel
theorem d_X6_byTurns_44 : Dc cX6_byTurns 44 (.getfield 132) 3 47 := by decide +kernel
theorem d_X6_byTurns_47 : Dc cX6_byTurns 47 (.ishl) 1 48 := by decide +kernel
theorem d_X6_byTurns_48 : Dq cX6_byTurns 48 (.if_icmp .ge) 73 51 := by decide +kernel
theorem d_X6_byTurns_51 : Dc cX6_byTurns 51 (.aload_n 0) 1 52 := by decide +kernel
theorem d_X6_byTurns_52 : Dc cX6_byTurns 52 (.getfield 58) 3 55 := by decide +kernel
theorem d_X6_byTurns_55 : Dc cX6_byTurns 55 (.iload_n 3) 1 56 := by decide +kernel
theorem d_X6_byTurns_56 : Dc cX6_byTurns 56 (.aload_n 0) 1 57 := by decide +kernel
theorem d_X6_byTurns_57 : Dc cX6_byTurns 57 (.iload_n 2) 1 58 := by decide +kernel
theorem d_X6_byTurns_58 : Dc cX6_byTurns 58 (.iload_n 3) 1 59 := by decide +kernel
theorem d_X6_byTurns_59 : Dc cX6_byTurns 59 (.invokevirtual 276) 3 62 := by decide +kernel
theorem d_X6_byTurns_62 : Dc cX6_byTurns 62 (.iconst 2) 1 63 := by decide +kernel
theorem d_X6_byTurns_63 : Dc cX6_byTurns 63 (.invokevirtual 286) 3 66 := by decide +kernel
theorem d_X6_byTurns_66 : Dc cX6_byTurns 66 (.iastore) 1 67 := by decide +kernel
theorem d_X6_byTurns_67 : Dc cX6_byTurns 67 (.iinc 3 1) 3 70 := by decide +kernel
theorem d_X6_byTurns_70 : Dq cX6_byTurns 70 (.goto) 38 73 := by decide +kernel
theorem d_X6_byTurns_73 : Dc cX6_byTurns 73 (.iload_n 1) 1 74 := by decide +kernel
theorem d_X6_byTurns_74 : Dc cX6_byTurns 74 (.iconst 1) 1 75 := by decide +kernel
theorem d_X6_byTurns_75 : Dc cX6_byTurns 75 (.isub) 1 76 := by decide +kernel
theorem d_X6_byTurns_76 : Dc cX6_byTurns 76 (.istore_n 3) 1 77 := by decide +kernel
theorem d_X6_byTurns_77 : Dc cX6_byTurns 77 (.iload_n 3) 1 78 := by decide +kernel
theorem d_X6_byTurns_78 : Dq cX6_byTurns 78 (.ifCond .lt) 104 81 := by decide +kernel
theorem d_X6_byTurns_81 : Dc cX6_byTurns 81 (.iload_n 3) 1 82 := by decide +kernel
theorem d_X6_byTurns_82 : Dc cX6_byTurns 82 (.iconst 2) 1 83 := by decide +kernel
theorem d_X6_byTurns_83 : Dc cX6_byTurns 83 (.irem) 1 84 := by decide +kernel
theorem d_X6_byTurns_84 : Dq cX6_byTurns 84 (.ifCond .ne) 94 87 := by decide +kernel
theorem d_X6_byTurns_87 : Dc cX6_byTurns 87 (.aload_n 0) 1 88 := by decide +kernel
theorem d_X6_byTurns_88 : Dc cX6_byTurns 88 (.invokevirtual 289) 3 91 := by decide +kernel
theorem d_X6_byTurns_91 : Dq cX6_byTurns 91 (.goto) 98 94 := by decide +kernel
theorem d_X6_byTurns_94 : Dc cX6_byTurns 94 (.aload_n 0) 1 95 := by decide +kernel
theorem d_X6_byTurns_95 : Dc cX6_byTurns 95 (.invokevirtual 292) 3 98 := by decide +kernel
theorem d_X6_byTurns_98 : Dc cX6_byTurns 98 (.iinc 3 (-1)) 3 101 := by decide +kernel
theorem d_X6_byTurns_101 : Dq cX6_byTurns 101 (.goto) 77 104 := by decide +kernel
theorem d_X6_byTurns_104 : Dc cX6_byTurns 104 (.aload_n 0) 1 105 := by decide +kernel
theorem d_X6_byTurns_105 : Dc cX6_byTurns 105 (.getfield 58) 3 108 := by decide +kernel
theorem d_X6_byTurns_108 : Dc cX6_byTurns 108 (.aload_n 0) 1 109 := by decide +kernel
theorem d_X6_byTurns_109 : Dc cX6_byTurns 109 (.getfield 26) 3 112 := by decide +kernel
theorem d_X6_byTurns_112 : Dc cX6_byTurns 112 (.getfield 228) 3 115 := by decide +kernel
theorem d_X6_byTurns_115 : Dc cX6_byTurns 115 (.iaload) 1 116 := by decide +kernel
theorem d_X6_byTurns_116 : Dc cX6_byTurns 116 (.ireturn) 1 117 := by decide +kernel
theorem d_X6_weighShutting_0 : Dc cX6_weighShutting 0 (.iconst 1) 1 1 := by decide +kernel
theorem d_X6_weighShutting_1 : Dc cX6_weighShutting 1 (.aload_n 0) 1 2 := by decide +kernel
theorem d_X6_weighShutting_2 : Dc cX6_weighShutting 2 (.getfield 26) 3 5 := by decide +kernel
theorem d_X6_weighShutting_5 : Dc cX6_weighShutting 5 (.getfield 132) 3 8 := by decide +kernel
theorem d_X6_weighShutting_8 : Dc cX6_weighShutting 8 (.ishl) 1 9 := by decide +kernel
theorem d_X6_weighShutting_9 : Dc cX6_weighShutting 9 (.iconst 1) 1 10 := by decide +kernel
theorem d_X6_weighShutting_10 : Dc cX6_weighShutting 10 (.isub) 1 11 := by decide +kernel
theorem d_X6_weighShutting_11 : Dc cX6_weighShutting 11 (.istore_n 1) 1 12 := by decide +kernel
theorem d_X6_weighShutting_12 : Dc cX6_weighShutting 12 (.iload_n 1) 1 13 := by decide +kernel
theorem d_X6_weighShutting_13 : Dq cX6_weighShutting 13 (.ifCond .lt) 68 16 := by decide +kernel
theorem d_X6_weighShutting_16 : Dc cX6_weighShutting 16 (.iconst 0) 1 17 := by decide +kernel
theorem d_X6_weighShutting_17 : Dc cX6_weighShutting 17 (.istore_n 2) 1 18 := by decide +kernel
theorem d_X6_weighShutting_18 : Dc cX6_weighShutting 18 (.iload_n 2) 1 19 := by decide +kernel
theorem d_X6_weighShutting_19 : Dc cX6_weighShutting 19 (.aload_n 0) 1 20 := by decide +kernel
theorem d_X6_weighShutting_20 : Dc cX6_weighShutting 20 (.getfield 26) 3 23 := by decide +kernel
theorem d_X6_weighShutting_23 : Dc cX6_weighShutting 23 (.getfield 132) 3 26 := by decide +kernel
theorem d_X6_weighShutting_26 : Dq cX6_weighShutting 26 (.if_icmp .ge) 62 29 := by decide +kernel
theorem d_X6_weighShutting_29 : Dc cX6_weighShutting 29 (.aload_n 0) 1 30 := by decide +kernel
theorem d_X6_weighShutting_30 : Dc cX6_weighShutting 30 (.getfield 58) 3 33 := by decide +kernel
theorem d_X6_weighShutting_33 : Dc cX6_weighShutting 33 (.iload_n 1) 1 34 := by decide +kernel
theorem d_X6_weighShutting_34 : Dc cX6_weighShutting 34 (.aload_n 0) 1 35 := by decide +kernel
theorem d_X6_weighShutting_35 : Dc cX6_weighShutting 35 (.getfield 58) 3 38 := by decide +kernel
theorem d_X6_weighShutting_38 : Dc cX6_weighShutting 38 (.iload_n 1) 1 39 := by decide +kernel
theorem d_X6_weighShutting_39 : Dc cX6_weighShutting 39 (.iaload) 1 40 := by decide +kernel
theorem d_X6_weighShutting_40 : Dc cX6_weighShutting 40 (.aload_n 0) 1 41 := by decide +kernel
theorem d_X6_weighShutting_41 : Dc cX6_weighShutting 41 (.getfield 58) 3 44 := by decide +kernel
theorem d_X6_weighShutting_44 : Dc cX6_weighShutting 44 (.iload_n 1) 1 45 := by decide +kernel
theorem d_X6_weighShutting_45 : Dc cX6_weighShutting 45 (.iconst 1) 1 46 := by decide +kernel
theorem d_X6_weighShutting_46 : Dc cX6_weighShutting 46 (.iload_n 2) 1 47 := by decide +kernel
theorem d_X6_weighShutting_47 : Dc cX6_weighShutting 47 (.ishl) 1 48 := by decide +kernel
theorem d_X6_weighShutting_48 : Dc cX6_weighShutting 48 (.iconst (-1)) 1 49 := by decide +kernel
theorem d_X6_weighShutting_49 : Dc cX6_weighShutting 49 (.ixor) 1 50 := by decide +kernel
theorem d_X6_weighShutting_50 : Dc cX6_weighShutting 50 (.iand) 1 51 := by decide +kernel
theorem d_X6_weighShutting_51 : Dc cX6_weighShutting 51 (.iaload) 1 52 := by decide +kernel
theorem d_X6_weighShutting_52 : Dc cX6_weighShutting 52 (.invokestatic 295) 3 55 := by decide +kernel
theorem d_X6_weighShutting_55 : Dc cX6_weighShutting 55 (.iastore) 1 56 := by decide +kernel
theorem d_X6_weighShutting_56 : Dc cX6_weighShutting 56 (.iinc 2 1) 3 59 := by decide +kernel
theorem d_X6_weighShutting_59 : Dq cX6_weighShutting 59 (.goto) 18 62 := by decide +kernel
theorem d_X6_weighShutting_62 : Dc cX6_weighShutting 62 (.iinc 1 (-1)) 3 65 := by decide +kernel
theorem d_X6_weighShutting_65 : Dq cX6_weighShutting 65 (.goto) 12 68 := by decide +kernel
theorem d_X6_weighShutting_68 : Dc cX6_weighShutting 68 (.return_) 1 69 := by decide +kernel
theorem d_X6_weighOpening_0 : Dc cX6_weighOpening 0 (.iconst 0) 1 1 := by decide +kernel
theorem d_X6_weighOpening_1 : Dc cX6_weighOpening 1 (.istore_n 1) 1 2 := by decide +kernel
theorem d_X6_weighOpening_2 : Dc cX6_weighOpening 2 (.iload_n 1) 1 3 := by decide +kernel
theorem d_X6_weighOpening_3 : Dc cX6_weighOpening 3 (.iconst 1) 1 4 := by decide +kernel
theorem d_X6_weighOpening_4 : Dc cX6_weighOpening 4 (.aload_n 0) 1 5 := by decide +kernel
theorem d_X6_weighOpening_5 : Dc cX6_weighOpening 5 (.getfield 26) 3 8 := by decide +kernel
theorem d_X6_weighOpening_8 : Dc cX6_weighOpening 8 (.getfield 132) 3 11 := by decide +kernel
theorem d_X6_weighOpening_11 : Dc cX6_weighOpening 11 (.ishl) 1 12 := by decide +kernel
theorem d_X6_weighOpening_12 : Dq cX6_weighOpening 12 (.if_icmp .ge) 65 15 := by decide +kernel
theorem d_X6_weighOpening_15 : Dc cX6_weighOpening 15 (.iconst 0) 1 16 := by decide +kernel
theorem d_X6_weighOpening_16 : Dc cX6_weighOpening 16 (.istore_n 2) 1 17 := by decide +kernel
theorem d_X6_weighOpening_17 : Dc cX6_weighOpening 17 (.iload_n 2) 1 18 := by decide +kernel
theorem d_X6_weighOpening_18 : Dc cX6_weighOpening 18 (.aload_n 0) 1 19 := by decide +kernel
theorem d_X6_weighOpening_19 : Dc cX6_weighOpening 19 (.getfield 26) 3 22 := by decide +kernel
theorem d_X6_weighOpening_22 : Dc cX6_weighOpening 22 (.getfield 132) 3 25 := by decide +kernel
theorem d_X6_weighOpening_25 : Dq cX6_weighOpening 25 (.if_icmp .ge) 59 28 := by decide +kernel
theorem d_X6_weighOpening_28 : Dc cX6_weighOpening 28 (.aload_n 0) 1 29 := by decide +kernel
theorem d_X6_weighOpening_29 : Dc cX6_weighOpening 29 (.getfield 58) 3 32 := by decide +kernel
theorem d_X6_weighOpening_32 : Dc cX6_weighOpening 32 (.iload_n 1) 1 33 := by decide +kernel
theorem d_X6_weighOpening_33 : Dc cX6_weighOpening 33 (.aload_n 0) 1 34 := by decide +kernel
theorem d_X6_weighOpening_34 : Dc cX6_weighOpening 34 (.getfield 58) 3 37 := by decide +kernel
theorem d_X6_weighOpening_37 : Dc cX6_weighOpening 37 (.iload_n 1) 1 38 := by decide +kernel
theorem d_X6_weighOpening_38 : Dc cX6_weighOpening 38 (.iaload) 1 39 := by decide +kernel
theorem d_X6_weighOpening_39 : Dc cX6_weighOpening 39 (.aload_n 0) 1 40 := by decide +kernel
theorem d_X6_weighOpening_40 : Dc cX6_weighOpening 40 (.getfield 58) 3 43 := by decide +kernel
theorem d_X6_weighOpening_43 : Dc cX6_weighOpening 43 (.iload_n 1) 1 44 := by decide +kernel
theorem d_X6_weighOpening_44 : Dc cX6_weighOpening 44 (.iconst 1) 1 45 := by decide +kernel
theorem d_X6_weighOpening_45 : Dc cX6_weighOpening 45 (.iload_n 2) 1 46 := by decide +kernel
theorem d_X6_weighOpening_46 : Dc cX6_weighOpening 46 (.ishl) 1 47 := by decide +kernel
theorem d_X6_weighOpening_47 : Dc cX6_weighOpening 47 (.ior) 1 48 := by decide +kernel
theorem d_X6_weighOpening_48 : Dc cX6_weighOpening 48 (.iaload) 1 49 := by decide +kernel
theorem d_X6_weighOpening_49 : Dc cX6_weighOpening 49 (.invokestatic 300) 3 52 := by decide +kernel
theorem d_X6_weighOpening_52 : Dc cX6_weighOpening 52 (.iastore) 1 53 := by decide +kernel
theorem d_X6_weighOpening_53 : Dc cX6_weighOpening 53 (.iinc 2 1) 3 56 := by decide +kernel
theorem d_X6_weighOpening_56 : Dq cX6_weighOpening 56 (.goto) 17 59 := by decide +kernel
theorem d_X6_weighOpening_59 : Dc cX6_weighOpening 59 (.iinc 1 1) 3 62 := by decide +kernel
theorem d_X6_weighOpening_62 : Dq cX6_weighOpening 62 (.goto) 2 65 := by decide +kernel
theorem d_X6_weighOpening_65 : Dc cX6_weighOpening 65 (.return_) 1 66 := by decide +kernel
theorem d_X6_who_0 : Dc cX6_who 0 (.aload_n 0) 1 1 := by decide +kernel
theorem d_X6_who_1 : Dc cX6_who 1 (.getfield 26) 3 4 := by decide +kernel
theorem d_X6_who_4 : Dc cX6_who 4 (.iload_n 1) 1 5 := by decide +kernel
theorem d_X6_who_5 : Dc cX6_who 5 (.invokevirtual 170) 3 8 := by decide +kernel
theorem d_X6_who_8 : Dq cX6_who 8 (.ifCond .eq) 35 11 := by decide +kernel
theorem d_X6_who_11 : Dc cX6_who 11 (.iload_n 2) 1 12 := by decide +kernel
theorem d_X6_who_12 : Dq cX6_who 12 (.ifCond .lt) 35 15 := by decide +kernel
theorem d_X6_who_15 : Dc cX6_who 15 (.iload_n 2) 1 16 := by decide +kernel
theorem d_X6_who_16 : Dc cX6_who 16 (.iconst 2) 1 17 := by decide +kernel
theorem d_X6_who_17 : Dq cX6_who 17 (.if_icmp .gt) 35 20 := by decide +kernel
theorem d_X6_who_20 : Dc cX6_who 20 (.iload_n 3) 1 21 := by decide +kernel
theorem d_X6_who_21 : Dc cX6_who 21 (.invokestatic 62) 3 24 := by decide +kernel
theorem d_X6_who_24 : Dq cX6_who 24 (.ifCond .eq) 35 27 := by decide +kernel
theorem d_X6_who_27 : Dc cX6_who 27 (.iload 5) 2 29 := by decide +kernel
theorem d_X6_who_29 : Dc cX6_who 29 (.invokestatic 303) 3 32 := by decide +kernel
theorem d_X6_who_32 : Dq cX6_who 32 (.ifCond .ne) 38 35 := by decide +kernel
theorem d_X6_who_35 : Dc cX6_who 35 (.ldc 66) 2 37 := by decide +kernel
theorem d_X6_who_37 : Dc cX6_who 37 (.ireturn) 1 38 := by decide +kernel
theorem d_X6_who_38 : Dc cX6_who 38 (.aload_n 0) 1 39 := by decide +kernel
theorem d_X6_who_39 : Dc cX6_who 39 (.getfield 10) 3 42 := by decide +kernel
theorem d_X6_who_42 : Dc cX6_who 42 (.iload_n 3) 1 43 := by decide +kernel
theorem d_X6_who_43 : Dc cX6_who 43 (.iload 4) 2 45 := by decide +kernel
theorem d_X6_who_45 : Dc cX6_who 45 (.iload 5) 2 47 := by decide +kernel
theorem d_X6_who_47 : Dc cX6_who 47 (.invokevirtual 78) 3 50 := by decide +kernel
theorem d_X6_who_50 : Dc cX6_who 50 (.istore 6) 2 52 := by decide +kernel
theorem d_X6_who_52 : Dc cX6_who 52 (.iload 6) 2 54 := by decide +kernel
theorem d_X6_who_54 : Dq cX6_who 54 (.ifCond .eq) 64 57 := by decide +kernel
theorem d_X6_who_57 : Dc cX6_who 57 (.aload_n 0) 1 58 := by decide +kernel
theorem d_X6_who_58 : Dc cX6_who 58 (.iload 6) 2 60 := by decide +kernel
theorem d_X6_who_60 : Dc cX6_who 60 (.invokevirtual 67) 3 63 := by decide +kernel
theorem d_X6_who_63 : Dc cX6_who 63 (.ireturn) 1 64 := by decide +kernel
theorem d_X6_who_64 : Dc cX6_who 64 (.iload_n 2) 1 65 := by decide +kernel
theorem d_X6_who_65 : Dc cX6_who 65 (.iconst 2) 1 66 := by decide +kernel
theorem d_X6_who_66 : Dq cX6_who 66 (.if_icmp .ne) 73 69 := by decide +kernel
theorem d_X6_who_69 : Dc cX6_who 69 (.iconst 0) 1 70 := by decide +kernel
theorem d_X6_who_70 : Dq cX6_who 70 (.goto) 74 73 := by decide +kernel
theorem d_X6_who_73 : Dc cX6_who 73 (.iconst 1) 1 74 := by decide +kernel
theorem d_X6_who_74 : Dc cX6_who 74 (.istore 7) 2 76 := by decide +kernel
theorem d_X6_who_76 : Dc cX6_who 76 (.iload_n 2) 1 77 := by decide +kernel
theorem d_X6_who_77 : Dq cX6_who 77 (.ifCond .ne) 84 80 := by decide +kernel
theorem d_X6_who_80 : Dc cX6_who 80 (.iconst 5) 1 81 := by decide +kernel
theorem d_X6_who_81 : Dq cX6_who 81 (.goto) 95 84 := by decide +kernel
theorem d_X6_who_84 : Dc cX6_who 84 (.iload_n 2) 1 85 := by decide +kernel
theorem d_X6_who_85 : Dc cX6_who 85 (.iconst 1) 1 86 := by decide +kernel
theorem d_X6_who_86 : Dq cX6_who 86 (.if_icmp .ne) 94 89 := by decide +kernel
theorem d_X6_who_89 : Dc cX6_who 89 (.bipush 9) 2 91 := by decide +kernel
theorem d_X6_who_91 : Dq cX6_who 91 (.goto) 95 94 := by decide +kernel
theorem d_X6_who_94 : Dc cX6_who 94 (.iconst 5) 1 95 := by decide +kernel
theorem d_X6_who_95 : Dc cX6_who 95 (.istore 8) 2 97 := by decide +kernel
theorem d_X6_who_97 : Dc cX6_who 97 (.iconst 0) 1 98 := by decide +kernel
theorem d_X6_who_98 : Dc cX6_who 98 (.istore 9) 2 100 := by decide +kernel
theorem d_X6_who_100 : Dc cX6_who 100 (.iload 7) 2 102 := by decide +kernel
theorem d_X6_who_102 : Dc cX6_who 102 (.istore 10) 2 104 := by decide +kernel
theorem d_X6_who_104 : Dc cX6_who 104 (.iload 10) 2 106 := by decide +kernel
theorem d_X6_who_106 : Dc cX6_who 106 (.iload 8) 2 108 := by decide +kernel
theorem d_X6_who_108 : Dq cX6_who 108 (.if_icmp .gt) 155 111 := by decide +kernel
theorem d_X6_who_111 : Dc cX6_who 111 (.aload_n 0) 1 112 := by decide +kernel
theorem d_X6_who_112 : Dc cX6_who 112 (.invokevirtual 242) 3 115 := by decide +kernel
theorem d_X6_who_115 : Dc cX6_who 115 (.astore 11) 2 117 := by decide +kernel
theorem d_X6_who_117 : Dc cX6_who 117 (.aload 11) 2 119 := by decide +kernel
theorem d_X6_who_119 : Dc cX6_who 119 (.iload_n 1) 1 120 := by decide +kernel
theorem d_X6_who_120 : Dc cX6_who 120 (.iload_n 2) 1 121 := by decide +kernel
theorem d_X6_who_121 : Dc cX6_who 121 (.iload 10) 2 123 := by decide +kernel
theorem d_X6_who_123 : Dc cX6_who 123 (.invokevirtual 306) 3 126 := by decide +kernel
theorem d_X6_who_126 : Dc cX6_who 126 (.aload_n 0) 1 127 := by decide +kernel
theorem d_X6_who_127 : Dc cX6_who 127 (.aload 11) 2 129 := by decide +kernel
theorem d_X6_who_129 : Dc cX6_who 129 (.iload_n 3) 1 130 := by decide +kernel
theorem d_X6_who_130 : Dc cX6_who 130 (.iload 4) 2 132 := by decide +kernel
theorem d_X6_who_132 : Dc cX6_who 132 (.iload 5) 2 134 := by decide +kernel
theorem d_X6_who_134 : Dc cX6_who 134 (.invokevirtual 309) 3 137 := by decide +kernel
theorem d_X6_who_137 : Dq cX6_who 137 (.ifCond .eq) 149 140 := by decide +kernel
theorem d_X6_who_140 : Dc cX6_who 140 (.iload 9) 2 142 := by decide +kernel
theorem d_X6_who_142 : Dc cX6_who 142 (.iconst 1) 1 143 := by decide +kernel
theorem d_X6_who_143 : Dc cX6_who 143 (.iload 10) 2 145 := by decide +kernel
theorem d_X6_who_145 : Dc cX6_who 145 (.ishl) 1 146 := by decide +kernel
theorem d_X6_who_146 : Dc cX6_who 146 (.ior) 1 147 := by decide +kernel
theorem d_X6_who_147 : Dc cX6_who 147 (.istore 9) 2 149 := by decide +kernel
theorem d_X6_who_149 : Dc cX6_who 149 (.iinc 10 1) 3 152 := by decide +kernel
theorem d_X6_who_152 : Dq cX6_who 152 (.goto) 104 155 := by decide +kernel
theorem d_X6_who_155 : Dc cX6_who 155 (.aload_n 0) 1 156 := by decide +kernel
theorem d_X6_who_156 : Dc cX6_who 156 (.iload 9) 2 158 := by decide +kernel
theorem d_X6_who_158 : Dc cX6_who 158 (.invokevirtual 75) 3 161 := by decide +kernel
theorem d_X6_who_161 : Dc cX6_who 161 (.ireturn) 1 162 := by decide +kernel
theorem d_X6_sizes_0 : Dc cX6_sizes 0 (.aload_n 0) 1 1 := by decide +kernel
theorem d_X6_sizes_1 : Dc cX6_sizes 1 (.getfield 26) 3 4 := by decide +kernel
theorem d_X6_sizes_4 : Dc cX6_sizes 4 (.iload_n 1) 1 5 := by decide +kernel
theorem d_X6_sizes_5 : Dc cX6_sizes 5 (.invokevirtual 183) 3 8 := by decide +kernel
theorem d_X6_sizes_8 : Dq cX6_sizes 8 (.ifCond .eq) 26 11 := by decide +kernel
theorem d_X6_sizes_11 : Dc cX6_sizes 11 (.iload_n 2) 1 12 := by decide +kernel
theorem d_X6_sizes_12 : Dc cX6_sizes 12 (.invokestatic 62) 3 15 := by decide +kernel
theorem d_X6_sizes_15 : Dq cX6_sizes 15 (.ifCond .eq) 26 18 := by decide +kernel
theorem d_X6_sizes_18 : Dc cX6_sizes 18 (.iload 4) 2 20 := by decide +kernel
theorem d_X6_sizes_20 : Dc cX6_sizes 20 (.invokestatic 303) 3 23 := by decide +kernel
theorem d_X6_sizes_23 : Dq cX6_sizes 23 (.ifCond .ne) 29 26 := by decide +kernel
theorem d_X6_sizes_26 : Dc cX6_sizes 26 (.ldc 66) 2 28 := by decide +kernel
theorem d_X6_sizes_28 : Dc cX6_sizes 28 (.ireturn) 1 29 := by decide +kernel
theorem d_X6_sizes_29 : Dc cX6_sizes 29 (.aload_n 0) 1 30 := by decide +kernel
theorem d_X6_sizes_30 : Dc cX6_sizes 30 (.getfield 26) 3 33 := by decide +kernel
theorem d_X6_sizes_33 : Dc cX6_sizes 33 (.getfield 189) 3 36 := by decide +kernel
theorem d_X6_sizes_36 : Dc cX6_sizes 36 (.iload_n 1) 1 37 := by decide +kernel
theorem d_X6_sizes_37 : Dc cX6_sizes 37 (.iaload) 1 38 := by decide +kernel
theorem d_X6_sizes_38 : Dc cX6_sizes 38 (.bipush 10) 2 40 := by decide +kernel
theorem d_X6_sizes_40 : Dq cX6_sizes 40 (.if_icmp .lt) 46 43 := by decide +kernel
theorem d_X6_sizes_43 : Dc cX6_sizes 43 (.ldc 141) 2 45 := by decide +kernel
theorem d_X6_sizes_45 : Dc cX6_sizes 45 (.ireturn) 1 46 := by decide +kernel
theorem d_X6_sizes_46 : Dc cX6_sizes 46 (.aload_n 0) 1 47 := by decide +kernel
theorem d_X6_sizes_47 : Dc cX6_sizes 47 (.getfield 10) 3 50 := by decide +kernel
theorem d_X6_sizes_50 : Dc cX6_sizes 50 (.iload_n 2) 1 51 := by decide +kernel
theorem d_X6_sizes_51 : Dc cX6_sizes 51 (.iload_n 3) 1 52 := by decide +kernel
theorem d_X6_sizes_52 : Dc cX6_sizes 52 (.iload 4) 2 54 := by decide +kernel
theorem d_X6_sizes_54 : Dc cX6_sizes 54 (.invokevirtual 78) 3 57 := by decide +kernel
theorem d_X6_sizes_57 : Dc cX6_sizes 57 (.istore 5) 2 59 := by decide +kernel
theorem d_X6_sizes_59 : Dc cX6_sizes 59 (.iload 5) 2 61 := by decide +kernel
theorem d_X6_sizes_61 : Dq cX6_sizes 61 (.ifCond .eq) 71 64 := by decide +kernel
theorem d_X6_sizes_64 : Dc cX6_sizes 64 (.aload_n 0) 1 65 := by decide +kernel
theorem d_X6_sizes_65 : Dc cX6_sizes 65 (.iload 5) 2 67 := by decide +kernel
theorem d_X6_sizes_67 : Dc cX6_sizes 67 (.invokevirtual 67) 3 70 := by decide +kernel
theorem d_X6_sizes_70 : Dc cX6_sizes 70 (.ireturn) 1 71 := by decide +kernel
theorem d_X6_sizes_71 : Dc cX6_sizes 71 (.iconst 0) 1 72 := by decide +kernel
theorem d_X6_sizes_72 : Dc cX6_sizes 72 (.istore 6) 2 74 := by decide +kernel
theorem d_X6_sizes_74 : Dc cX6_sizes 74 (.iconst 1) 1 75 := by decide +kernel
theorem d_X6_sizes_75 : Dc cX6_sizes 75 (.istore 7) 2 77 := by decide +kernel
theorem d_X6_sizes_77 : Dc cX6_sizes 77 (.iload 7) 2 79 := by decide +kernel
theorem d_X6_sizes_79 : Dc cX6_sizes 79 (.bipush 9) 2 81 := by decide +kernel
theorem d_X6_sizes_81 : Dq cX6_sizes 81 (.if_icmp .gt) 127 84 := by decide +kernel
theorem d_X6_sizes_84 : Dc cX6_sizes 84 (.aload_n 0) 1 85 := by decide +kernel
theorem d_X6_sizes_85 : Dc cX6_sizes 85 (.invokevirtual 242) 3 88 := by decide +kernel
theorem d_X6_sizes_88 : Dc cX6_sizes 88 (.astore 8) 2 90 := by decide +kernel
theorem d_X6_sizes_90 : Dc cX6_sizes 90 (.aload 8) 2 92 := by decide +kernel
theorem d_X6_sizes_92 : Dc cX6_sizes 92 (.getfield 214) 3 95 := by decide +kernel
theorem d_X6_sizes_95 : Dc cX6_sizes 95 (.iload_n 1) 1 96 := by decide +kernel
theorem d_X6_sizes_96 : Dc cX6_sizes 96 (.iload 7) 2 98 := by decide +kernel
theorem d_X6_sizes_98 : Dc cX6_sizes 98 (.iastore) 1 99 := by decide +kernel
theorem d_X6_sizes_99 : Dc cX6_sizes 99 (.aload_n 0) 1 100 := by decide +kernel
theorem d_X6_sizes_100 : Dc cX6_sizes 100 (.aload 8) 2 102 := by decide +kernel
theorem d_X6_sizes_102 : Dc cX6_sizes 102 (.iload_n 2) 1 103 := by decide +kernel
theorem d_X6_sizes_103 : Dc cX6_sizes 103 (.iload_n 3) 1 104 := by decide +kernel
theorem d_X6_sizes_104 : Dc cX6_sizes 104 (.iload 4) 2 106 := by decide +kernel
theorem d_X6_sizes_106 : Dc cX6_sizes 106 (.invokevirtual 309) 3 109 := by decide +kernel
theorem d_X6_sizes_109 : Dq cX6_sizes 109 (.ifCond .eq) 121 112 := by decide +kernel
theorem d_X6_sizes_112 : Dc cX6_sizes 112 (.iload 6) 2 114 := by decide +kernel
theorem d_X6_sizes_114 : Dc cX6_sizes 114 (.iconst 1) 1 115 := by decide +kernel
theorem d_X6_sizes_115 : Dc cX6_sizes 115 (.iload 7) 2 117 := by decide +kernel
theorem d_X6_sizes_117 : Dc cX6_sizes 117 (.ishl) 1 118 := by decide +kernel
theorem d_X6_sizes_118 : Dc cX6_sizes 118 (.ior) 1 119 := by decide +kernel
theorem d_X6_sizes_119 : Dc cX6_sizes 119 (.istore 6) 2 121 := by decide +kernel
theorem d_X6_sizes_121 : Dc cX6_sizes 121 (.iinc 7 1) 3 124 := by decide +kernel
theorem d_X6_sizes_124 : Dq cX6_sizes 124 (.goto) 77 127 := by decide +kernel
theorem d_X6_sizes_127 : Dc cX6_sizes 127 (.aload_n 0) 1 128 := by decide +kernel
theorem d_X6_sizes_128 : Dc cX6_sizes 128 (.iload 6) 2 130 := by decide +kernel
theorem d_X6_sizes_130 : Dc cX6_sizes 130 (.invokevirtual 75) 3 133 := by decide +kernel
theorem d_X6_sizes_133 : Dc cX6_sizes 133 (.ireturn) 1 134 := by decide +kernel
theorem d_X6_breaks_0 : Dc cX6_breaks 0 (.aload_n 0) 1 1 := by decide +kernel
theorem d_X6_breaks_1 : Dc cX6_breaks 1 (.getfield 26) 3 4 := by decide +kernel
theorem d_X6_breaks_4 : Dc cX6_breaks 4 (.iload_n 1) 1 5 := by decide +kernel
theorem d_X6_breaks_5 : Dc cX6_breaks 5 (.invokevirtual 183) 3 8 := by decide +kernel
theorem d_X6_breaks_8 : Dq cX6_breaks 8 (.ifCond .eq) 42 11 := by decide +kernel
theorem d_X6_breaks_11 : Dc cX6_breaks 11 (.iload_n 2) 1 12 := by decide +kernel
theorem d_X6_breaks_12 : Dq cX6_breaks 12 (.ifCond .lt) 42 15 := by decide +kernel
theorem d_X6_breaks_15 : Dc cX6_breaks 15 (.iload_n 2) 1 16 := by decide +kernel
theorem d_X6_breaks_16 : Dc cX6_breaks 16 (.bipush 60) 2 18 := by decide +kernel
theorem d_X6_breaks_18 : Dq cX6_breaks 18 (.if_icmp .gt) 42 21 := by decide +kernel
theorem d_X6_breaks_21 : Dc cX6_breaks 21 (.iload_n 3) 1 22 := by decide +kernel
theorem d_X6_breaks_22 : Dq cX6_breaks 22 (.ifCond .lt) 42 25 := by decide +kernel
theorem d_X6_breaks_25 : Dc cX6_breaks 25 (.iload_n 3) 1 26 := by decide +kernel
theorem d_X6_breaks_26 : Dc cX6_breaks 26 (.bipush 10) 2 28 := by decide +kernel
theorem d_X6_breaks_28 : Dq cX6_breaks 28 (.if_icmp .gt) 42 31 := by decide +kernel
theorem d_X6_breaks_31 : Dc cX6_breaks 31 (.iload 4) 2 33 := by decide +kernel
theorem d_X6_breaks_33 : Dq cX6_breaks 33 (.ifCond .lt) 42 36 := by decide +kernel
theorem d_X6_breaks_36 : Dc cX6_breaks 36 (.iload 4) 2 38 := by decide +kernel
theorem d_X6_breaks_38 : Dc cX6_breaks 38 (.iconst 1) 1 39 := by decide +kernel
theorem d_X6_breaks_39 : Dq cX6_breaks 39 (.if_icmp .le) 46 42 := by decide +kernel
theorem d_X6_breaks_42 : Dc cX6_breaks 42 (.ldc2_w 313) 3 45 := by decide +kernel
theorem d_X6_breaks_45 : Dc cX6_breaks 45 (.lreturn) 1 46 := by decide +kernel
theorem d_X6_breaks_46 : Dc cX6_breaks 46 (.lconst 0) 1 47 := by decide +kernel
theorem d_X6_breaks_47 : Dc cX6_breaks 47 (.lstore 5) 2 49 := by decide +kernel
theorem d_X6_breaks_49 : Dc cX6_breaks 49 (.iconst 0) 1 50 := by decide +kernel
theorem d_X6_breaks_50 : Dc cX6_breaks 50 (.istore 7) 2 52 := by decide +kernel
theorem d_X6_breaks_52 : Dc cX6_breaks 52 (.iload 7) 2 54 := by decide +kernel
theorem d_X6_breaks_54 : Dc cX6_breaks 54 (.iconst 1) 1 55 := by decide +kernel
theorem d_X6_breaks_55 : Dc cX6_breaks 55 (.aload_n 0) 1 56 := by decide +kernel
theorem d_X6_breaks_56 : Dc cX6_breaks 56 (.getfield 26) 3 59 := by decide +kernel
theorem d_X6_breaks_59 : Dc cX6_breaks 59 (.getfield 132) 3 62 := by decide +kernel
theorem d_X6_breaks_62 : Dc cX6_breaks 62 (.ishl) 1 63 := by decide +kernel
theorem d_X6_breaks_63 : Dq cX6_breaks 63 (.if_icmp .ge) 111 66 := by decide +kernel
theorem d_X6_breaks_66 : Dc cX6_breaks 66 (.aload_n 0) 1 67 := by decide +kernel
theorem d_X6_breaks_67 : Dc cX6_breaks 67 (.iload 7) 2 69 := by decide +kernel
theorem d_X6_breaks_69 : Dc cX6_breaks 69 (.iload_n 3) 1 70 := by decide +kernel
theorem d_X6_breaks_70 : Dc cX6_breaks 70 (.invokevirtual 315) 3 73 := by decide +kernel
theorem d_X6_breaks_73 : Dc cX6_breaks 73 (.lstore 8) 2 75 := by decide +kernel
theorem d_X6_breaks_75 : Dc cX6_breaks 75 (.lload 8) 2 77 := by decide +kernel
theorem d_X6_breaks_77 : Dc cX6_breaks 77 (.lconst 0) 1 78 := by decide +kernel
theorem d_X6_breaks_78 : Dc cX6_breaks 78 (.lcmp) 1 79 := by decide +kernel
theorem d_X6_breaks_79 : Dq cX6_breaks 79 (.ifCond .le) 105 82 := by decide +kernel
theorem d_X6_breaks_82 : Dc cX6_breaks 82 (.aload_n 0) 1 83 := by decide +kernel
theorem d_X6_breaks_83 : Dc cX6_breaks 83 (.iload_n 2) 1 84 := by decide +kernel
theorem d_X6_breaks_84 : Dc cX6_breaks 84 (.iload 7) 2 86 := by decide +kernel
theorem d_X6_breaks_86 : Dc cX6_breaks 86 (.invokevirtual 276) 3 89 := by decide +kernel
theorem d_X6_breaks_89 : Dc cX6_breaks 89 (.getfield 189) 3 92 := by decide +kernel
theorem d_X6_breaks_92 : Dc cX6_breaks 92 (.iload_n 1) 1 93 := by decide +kernel
theorem d_X6_breaks_93 : Dc cX6_breaks 93 (.iaload) 1 94 := by decide +kernel
theorem d_X6_breaks_94 : Dc cX6_breaks 94 (.iconst 2) 1 95 := by decide +kernel
theorem d_X6_breaks_95 : Dq cX6_breaks 95 (.if_icmp .ne) 105 98 := by decide +kernel
theorem d_X6_breaks_98 : Dc cX6_breaks 98 (.lload 5) 2 100 := by decide +kernel
theorem d_X6_breaks_100 : Dc cX6_breaks 100 (.lload 8) 2 102 := by decide +kernel
theorem d_X6_breaks_102 : Dc cX6_breaks 102 (.ladd) 1 103 := by decide +kernel
theorem d_X6_breaks_103 : Dc cX6_breaks 103 (.lstore 5) 2 105 := by decide +kernel
theorem d_X6_breaks_105 : Dc cX6_breaks 105 (.iinc 7 1) 3 108 := by decide +kernel
theorem d_X6_breaks_108 : Dq cX6_breaks 108 (.goto) 52 111 := by decide +kernel
theorem d_X6_breaks_111 : Dc cX6_breaks 111 (.lconst 1) 1 112 := by decide +kernel
theorem d_X6_breaks_112 : Dc cX6_breaks 112 (.lstore 7) 2 114 := by decide +kernel
theorem d_X6_breaks_114 : Dc cX6_breaks 114 (.iconst 0) 1 115 := by decide +kernel
theorem d_X6_breaks_115 : Dc cX6_breaks 115 (.istore 9) 2 117 := by decide +kernel
theorem d_X6_breaks_117 : Dc cX6_breaks 117 (.iload 9) 2 119 := by decide +kernel
theorem d_X6_breaks_119 : Dc cX6_breaks 119 (.aload_n 0) 1 120 := by decide +kernel
theorem d_X6_breaks_120 : Dc cX6_breaks 120 (.getfield 26) 3 123 := by decide +kernel
theorem d_X6_breaks_123 : Dc cX6_breaks 123 (.getfield 132) 3 126 := by decide +kernel
theorem d_X6_breaks_126 : Dq cX6_breaks 126 (.if_icmp .ge) 159 129 := by decide +kernel
theorem d_X6_breaks_129 : Dc cX6_breaks 129 (.lload 7) 2 131 := by decide +kernel
theorem d_X6_breaks_131 : Dc cX6_breaks 131 (.aload_n 0) 1 132 := by decide +kernel
theorem d_X6_breaks_132 : Dc cX6_breaks 132 (.getfield 26) 3 135 := by decide +kernel
theorem d_X6_breaks_135 : Dc cX6_breaks 135 (.iload 9) 2 137 := by decide +kernel
theorem d_X6_breaks_137 : Dc cX6_breaks 137 (.invokevirtual 177) 3 140 := by decide +kernel
theorem d_X6_breaks_140 : Dq cX6_breaks 140 (.ifCond .eq) 149 143 := by decide +kernel
theorem d_X6_breaks_143 : Dc cX6_breaks 143 (.ldc2_w 319) 3 146 := by decide +kernel
theorem d_X6_breaks_146 : Dq cX6_breaks 146 (.goto) 150 149 := by decide +kernel
theorem d_X6_breaks_149 : Dc cX6_breaks 149 (.lconst 1) 1 150 := by decide +kernel
theorem d_X6_breaks_150 : Dc cX6_breaks 150 (.lmul) 1 151 := by decide +kernel
theorem d_X6_breaks_151 : Dc cX6_breaks 151 (.lstore 7) 2 153 := by decide +kernel
theorem d_X6_breaks_153 : Dc cX6_breaks 153 (.iinc 9 1) 3 156 := by decide +kernel
theorem d_X6_breaks_156 : Dq cX6_breaks 156 (.goto) 117 159 := by decide +kernel
theorem d_X6_breaks_159 : Dc cX6_breaks 159 (.lconst 1) 1 160 := by decide +kernel
theorem d_X6_breaks_160 : Dc cX6_breaks 160 (.lload 5) 2 162 := by decide +kernel
theorem d_X6_breaks_162 : Dc cX6_breaks 162 (.lload 7) 2 164 := by decide +kernel
theorem d_X6_breaks_164 : Dc cX6_breaks 164 (.invokestatic 321) 3 167 := by decide +kernel
theorem d_X6_breaks_167 : Dc cX6_breaks 167 (.invokestatic 325) 3 170 := by decide +kernel
theorem d_X6_breaks_170 : Dc cX6_breaks 170 (.lstore 9) 2 172 := by decide +kernel
theorem d_X6_breaks_172 : Dc cX6_breaks 172 (.iload 4) 2 174 := by decide +kernel
theorem d_X6_breaks_174 : Dq cX6_breaks 174 (.ifCond .ne) 182 177 := by decide +kernel
theorem d_X6_breaks_177 : Dc cX6_breaks 177 (.lload 5) 2 179 := by decide +kernel
theorem d_X6_breaks_179 : Dq cX6_breaks 179 (.goto) 184 182 := by decide +kernel
theorem d_X6_breaks_182 : Dc cX6_breaks 182 (.lload 7) 2 184 := by decide +kernel
theorem d_X6_breaks_184 : Dc cX6_breaks 184 (.lload 9) 2 186 := by decide +kernel
theorem d_X6_breaks_186 : Dc cX6_breaks 186 (.ldiv) 1 187 := by decide +kernel
theorem d_X6_breaks_187 : Dc cX6_breaks 187 (.lreturn) 1 188 := by decide +kernel
theorem d_X6_casesOfStayingOpen_0 : Dc cX6_casesOfStayingOpen 0 (.iload_n 1) 1 1 := by decide +kernel
theorem d_X6_casesOfStayingOpen_1 : Dc cX6_casesOfStayingOpen 1 (.aload_n 0) 1 2 := by decide +kernel
theorem d_X6_casesOfStayingOpen_2 : Dc cX6_casesOfStayingOpen 2 (.getfield 26) 3 5 := by decide +kernel
theorem d_X6_casesOfStayingOpen_5 : Dc cX6_casesOfStayingOpen 5 (.getfield 228) 3 8 := by decide +kernel
theorem d_X6_casesOfStayingOpen_8 : Dc cX6_casesOfStayingOpen 8 (.iconst (-1)) 1 9 := by decide +kernel
theorem d_X6_casesOfStayingOpen_9 : Dc cX6_casesOfStayingOpen 9 (.ixor) 1 10 := by decide +kernel
theorem d_X6_casesOfStayingOpen_10 : Dc cX6_casesOfStayingOpen 10 (.iand) 1 11 := by decide +kernel
theorem d_X6_casesOfStayingOpen_11 : Dq cX6_casesOfStayingOpen 11 (.ifCond .eq) 16 14 := by decide +kernel
theorem d_X6_casesOfStayingOpen_14 : Dc cX6_casesOfStayingOpen 14 (.lconst 0) 1 15 := by decide +kernel
theorem d_X6_casesOfStayingOpen_15 : Dc cX6_casesOfStayingOpen 15 (.lreturn) 1 16 := by decide +kernel
theorem d_X6_casesOfStayingOpen_16 : Dc cX6_casesOfStayingOpen 16 (.lconst 1) 1 17 := by decide +kernel
theorem d_X6_casesOfStayingOpen_17 : Dc cX6_casesOfStayingOpen 17 (.lstore_n 3) 1 18 := by decide +kernel
theorem d_X6_casesOfStayingOpen_18 : Dc cX6_casesOfStayingOpen 18 (.iconst 0) 1 19 := by decide +kernel
theorem d_X6_casesOfStayingOpen_19 : Dc cX6_casesOfStayingOpen 19 (.istore 5) 2 21 := by decide +kernel
theorem d_X6_casesOfStayingOpen_21 : Dc cX6_casesOfStayingOpen 21 (.iload 5) 2 23 := by decide +kernel
theorem d_X6_casesOfStayingOpen_23 : Dc cX6_casesOfStayingOpen 23 (.aload_n 0) 1 24 := by decide +kernel
theorem d_X6_casesOfStayingOpen_24 : Dc cX6_casesOfStayingOpen 24 (.getfield 26) 3 27 := by decide +kernel
theorem d_X6_casesOfStayingOpen_27 : Dc cX6_casesOfStayingOpen 27 (.getfield 132) 3 30 := by decide +kernel
theorem d_X6_casesOfStayingOpen_30 : Dq cX6_casesOfStayingOpen 30 (.if_icmp .ge) 74 33 := by decide +kernel
theorem d_X6_casesOfStayingOpen_33 : Dc cX6_casesOfStayingOpen 33 (.aload_n 0) 1 34 := by decide +kernel
theorem d_X6_casesOfStayingOpen_34 : Dc cX6_casesOfStayingOpen 34 (.getfield 26) 3 37 := by decide +kernel
theorem d_X6_casesOfStayingOpen_37 : Dc cX6_casesOfStayingOpen 37 (.iload 5) 2 39 := by decide +kernel
theorem d_X6_casesOfStayingOpen_39 : Dc cX6_casesOfStayingOpen 39 (.invokevirtual 177) 3 42 := by decide +kernel
theorem d_X6_casesOfStayingOpen_42 : Dq cX6_casesOfStayingOpen 42 (.ifCond .eq) 68 45 := by decide +kernel
theorem d_X6_casesOfStayingOpen_45 : Dc cX6_casesOfStayingOpen 45 (.lload_n 3) 1 46 := by decide +kernel
theorem d_X6_casesOfStayingOpen_46 : Dc cX6_casesOfStayingOpen 46 (.iload_n 1) 1 47 := by decide +kernel
theorem d_X6_casesOfStayingOpen_47 : Dc cX6_casesOfStayingOpen 47 (.iload 5) 2 49 := by decide +kernel
theorem d_X6_casesOfStayingOpen_49 : Dc cX6_casesOfStayingOpen 49 (.ishr) 1 50 := by decide +kernel
theorem d_X6_casesOfStayingOpen_50 : Dc cX6_casesOfStayingOpen 50 (.iconst 1) 1 51 := by decide +kernel
theorem d_X6_casesOfStayingOpen_51 : Dc cX6_casesOfStayingOpen 51 (.iand) 1 52 := by decide +kernel
theorem d_X6_casesOfStayingOpen_52 : Dc cX6_casesOfStayingOpen 52 (.iconst 1) 1 53 := by decide +kernel
theorem d_X6_casesOfStayingOpen_53 : Dq cX6_casesOfStayingOpen 53 (.if_icmp .ne) 64 56 := by decide +kernel
theorem d_X6_casesOfStayingOpen_56 : Dc cX6_casesOfStayingOpen 56 (.bipush 10) 2 58 := by decide +kernel
theorem d_X6_casesOfStayingOpen_58 : Dc cX6_casesOfStayingOpen 58 (.iload_n 2) 1 59 := by decide +kernel
theorem d_X6_casesOfStayingOpen_59 : Dc cX6_casesOfStayingOpen 59 (.isub) 1 60 := by decide +kernel
theorem d_X6_casesOfStayingOpen_60 : Dc cX6_casesOfStayingOpen 60 (.i2l) 1 61 := by decide +kernel
theorem d_X6_casesOfStayingOpen_61 : Dq cX6_casesOfStayingOpen 61 (.goto) 66 64 := by decide +kernel
theorem d_X6_casesOfStayingOpen_64 : Dc cX6_casesOfStayingOpen 64 (.iload_n 2) 1 65 := by decide +kernel
theorem d_X6_casesOfStayingOpen_65 : Dc cX6_casesOfStayingOpen 65 (.i2l) 1 66 := by decide +kernel
theorem d_X6_casesOfStayingOpen_66 : Dc cX6_casesOfStayingOpen 66 (.lmul) 1 67 := by decide +kernel
theorem d_X6_casesOfStayingOpen_67 : Dc cX6_casesOfStayingOpen 67 (.lstore_n 3) 1 68 := by decide +kernel
theorem d_X6_casesOfStayingOpen_68 : Dc cX6_casesOfStayingOpen 68 (.iinc 5 1) 3 71 := by decide +kernel
theorem d_X6_casesOfStayingOpen_71 : Dq cX6_casesOfStayingOpen 71 (.goto) 21 74 := by decide +kernel
theorem d_X6_casesOfStayingOpen_74 : Dc cX6_casesOfStayingOpen 74 (.lload_n 3) 1 75 := by decide +kernel
theorem d_X6_casesOfStayingOpen_75 : Dc cX6_casesOfStayingOpen 75 (.lreturn) 1 76 := by decide +kernel
theorem d_X6_greatestDivisor_0 : Dc cX6_greatestDivisor 0 (.lload_n 0) 1 1 := by decide +kernel
theorem d_X6_greatestDivisor_1 : Dc cX6_greatestDivisor 1 (.lstore 4) 2 3 := by decide +kernel
theorem d_X6_greatestDivisor_3 : Dc cX6_greatestDivisor 3 (.lload_n 2) 1 4 := by decide +kernel
theorem d_X6_greatestDivisor_4 : Dc cX6_greatestDivisor 4 (.lstore 6) 2 6 := by decide +kernel
theorem d_X6_greatestDivisor_6 : Dc cX6_greatestDivisor 6 (.iconst 0) 1 7 := by decide +kernel
theorem d_X6_greatestDivisor_7 : Dc cX6_greatestDivisor 7 (.istore 8) 2 9 := by decide +kernel
theorem d_X6_greatestDivisor_9 : Dc cX6_greatestDivisor 9 (.iload 8) 2 11 := by decide +kernel
theorem d_X6_greatestDivisor_11 : Dc cX6_greatestDivisor 11 (.bipush 100) 2 13 := by decide +kernel
theorem d_X6_greatestDivisor_13 : Dq cX6_greatestDivisor 13 (.if_icmp .ge) 44 16 := by decide +kernel
theorem d_X6_greatestDivisor_16 : Dc cX6_greatestDivisor 16 (.lload 6) 2 18 := by decide +kernel
theorem d_X6_greatestDivisor_18 : Dc cX6_greatestDivisor 18 (.lconst 0) 1 19 := by decide +kernel
theorem d_X6_greatestDivisor_19 : Dc cX6_greatestDivisor 19 (.lcmp) 1 20 := by decide +kernel
theorem d_X6_greatestDivisor_20 : Dq cX6_greatestDivisor 20 (.ifCond .eq) 44 23 := by decide +kernel
theorem d_X6_greatestDivisor_23 : Dc cX6_greatestDivisor 23 (.lload 4) 2 25 := by decide +kernel
theorem d_X6_greatestDivisor_25 : Dc cX6_greatestDivisor 25 (.lload 6) 2 27 := by decide +kernel
theorem d_X6_greatestDivisor_27 : Dc cX6_greatestDivisor 27 (.lrem) 1 28 := by decide +kernel
theorem d_X6_greatestDivisor_28 : Dc cX6_greatestDivisor 28 (.lstore 9) 2 30 := by decide +kernel
theorem d_X6_greatestDivisor_30 : Dc cX6_greatestDivisor 30 (.lload 6) 2 32 := by decide +kernel
theorem d_X6_greatestDivisor_32 : Dc cX6_greatestDivisor 32 (.lstore 4) 2 34 := by decide +kernel
theorem d_X6_greatestDivisor_34 : Dc cX6_greatestDivisor 34 (.lload 9) 2 36 := by decide +kernel
theorem d_X6_greatestDivisor_36 : Dc cX6_greatestDivisor 36 (.lstore 6) 2 38 := by decide +kernel
theorem d_X6_greatestDivisor_38 : Dc cX6_greatestDivisor 38 (.iinc 8 1) 3 41 := by decide +kernel
theorem d_X6_greatestDivisor_41 : Dq cX6_greatestDivisor 41 (.goto) 9 44 := by decide +kernel
theorem d_X6_greatestDivisor_44 : Dc cX6_greatestDivisor 44 (.lload 4) 2 46 := by decide +kernel
theorem d_X6_greatestDivisor_46 : Dc cX6_greatestDivisor 46 (.lreturn) 1 47 := by decide +kernel
theorem d_X6_drawn_0 : Dc cX6_drawn 0 (.aload_n 0) 1 1 := by decide +kernel
theorem d_X6_drawn_1 : Dc cX6_drawn 1 (.getfield 26) 3 4 := by decide +kernel
theorem d_X6_drawn_4 : Dc cX6_drawn 4 (.invokevirtual 154) 3 7 := by decide +kernel
theorem d_X6_drawn_7 : Dq cX6_drawn 7 (.ifCond .eq) 13 10 := by decide +kernel
theorem d_X6_drawn_10 : Dc cX6_drawn 10 (.ldc 141) 2 12 := by decide +kernel
theorem d_X6_drawn_12 : Dc cX6_drawn 12 (.ireturn) 1 13 := by decide +kernel
theorem d_X6_drawn_13 : Dc cX6_drawn 13 (.iload_n 1) 1 14 := by decide +kernel
theorem d_X6_drawn_14 : Dq cX6_drawn 14 (.ifCond .lt) 44 17 := by decide +kernel
theorem d_X6_drawn_17 : Dc cX6_drawn 17 (.iload_n 1) 1 18 := by decide +kernel
theorem d_X6_drawn_18 : Dc cX6_drawn 18 (.bipush 60) 2 20 := by decide +kernel
theorem d_X6_drawn_20 : Dq cX6_drawn 20 (.if_icmp .gt) 44 23 := by decide +kernel
theorem d_X6_drawn_23 : Dc cX6_drawn 23 (.iload_n 2) 1 24 := by decide +kernel
theorem d_X6_drawn_24 : Dc cX6_drawn 24 (.iconst 1) 1 25 := by decide +kernel
theorem d_X6_drawn_25 : Dq cX6_drawn 25 (.if_icmp .lt) 44 28 := by decide +kernel
theorem d_X6_drawn_28 : Dc cX6_drawn 28 (.iload_n 2) 1 29 := by decide +kernel
theorem d_X6_drawn_29 : Dc cX6_drawn 29 (.ldc_w 327) 3 32 := by decide +kernel
theorem d_X6_drawn_32 : Dq cX6_drawn 32 (.if_icmp .gt) 44 35 := by decide +kernel
theorem d_X6_drawn_35 : Dc cX6_drawn 35 (.iload_n 3) 1 36 := by decide +kernel
theorem d_X6_drawn_36 : Dq cX6_drawn 36 (.ifCond .lt) 44 39 := by decide +kernel
theorem d_X6_drawn_39 : Dc cX6_drawn 39 (.iload_n 3) 1 40 := by decide +kernel
theorem d_X6_drawn_40 : Dc cX6_drawn 40 (.iconst 1) 1 41 := by decide +kernel
theorem d_X6_drawn_41 : Dq cX6_drawn 41 (.if_icmp .le) 47 44 := by decide +kernel
theorem d_X6_drawn_44 : Dc cX6_drawn 44 (.ldc 66) 2 46 := by decide +kernel
theorem d_X6_drawn_46 : Dc cX6_drawn 46 (.ireturn) 1 47 := by decide +kernel
theorem d_X6_drawn_47 : Dc cX6_drawn 47 (.aload_n 0) 1 48 := by decide +kernel
theorem d_X6_drawn_48 : Dc cX6_drawn 48 (.invokevirtual 242) 3 51 := by decide +kernel
theorem d_X6_drawn_51 : Dc cX6_drawn 51 (.astore 4) 2 53 := by decide +kernel
theorem d_X6_drawn_53 : Dc cX6_drawn 53 (.iload_n 2) 1 54 := by decide +kernel
theorem d_X6_drawn_54 : Dc cX6_drawn 54 (.i2l) 1 55 := by decide +kernel
theorem d_X6_drawn_55 : Dc cX6_drawn 55 (.lstore 5) 2 57 := by decide +kernel
theorem d_X6_drawn_57 : Dc cX6_drawn 57 (.iconst 0) 1 58 := by decide +kernel
theorem d_X6_drawn_58 : Dc cX6_drawn 58 (.istore 7) 2 60 := by decide +kernel
theorem d_X6_drawn_60 : Dc cX6_drawn 60 (.iconst 0) 1 61 := by decide +kernel
theorem d_X6_drawn_61 : Dc cX6_drawn 61 (.istore 8) 2 63 := by decide +kernel
theorem d_X6_drawn_63 : Dc cX6_drawn 63 (.iload 8) 2 65 := by decide +kernel
theorem d_X6_drawn_65 : Dc cX6_drawn 65 (.iload_n 1) 1 66 := by decide +kernel
theorem d_X6_drawn_66 : Dq cX6_drawn 66 (.if_icmp .ge) 122 69 := by decide +kernel
theorem d_X6_drawn_69 : Dc cX6_drawn 69 (.lload 5) 2 71 := by decide +kernel
theorem d_X6_drawn_71 : Dc cX6_drawn 71 (.ldc2_w 328) 3 74 := by decide +kernel
theorem d_X6_drawn_74 : Dc cX6_drawn 74 (.lmul) 1 75 := by decide +kernel
theorem d_X6_drawn_75 : Dc cX6_drawn 75 (.ldc2_w 330) 3 78 := by decide +kernel
theorem d_X6_drawn_78 : Dc cX6_drawn 78 (.lrem) 1 79 := by decide +kernel
theorem d_X6_drawn_79 : Dc cX6_drawn 79 (.lstore 5) 2 81 := by decide +kernel
theorem d_X6_drawn_81 : Dc cX6_drawn 81 (.aload 4) 2 83 := by decide +kernel
theorem d_X6_drawn_83 : Dc cX6_drawn 83 (.lload 5) 2 85 := by decide +kernel
theorem d_X6_drawn_85 : Dc cX6_drawn 85 (.l2i) 1 86 := by decide +kernel
theorem d_X6_drawn_86 : Dc cX6_drawn 86 (.invokevirtual 332) 3 89 := by decide +kernel
theorem d_X6_drawn_89 : Dc cX6_drawn 89 (.aload 4) 2 91 := by decide +kernel
theorem d_X6_drawn_91 : Dc cX6_drawn 91 (.iconst 2) 1 92 := by decide +kernel
theorem d_X6_drawn_92 : Dc cX6_drawn 92 (.invokevirtual 286) 3 95 := by decide +kernel
theorem d_X6_drawn_95 : Dc cX6_drawn 95 (.istore 9) 2 97 := by decide +kernel
theorem d_X6_drawn_97 : Dc cX6_drawn 97 (.aload 4) 2 99 := by decide +kernel
theorem d_X6_drawn_99 : Dc cX6_drawn 99 (.invokevirtual 164) 3 102 := by decide +kernel
theorem d_X6_drawn_102 : Dc cX6_drawn 102 (.iload 7) 2 104 := by decide +kernel
theorem d_X6_drawn_104 : Dc cX6_drawn 104 (.aload 4) 2 106 := by decide +kernel
theorem d_X6_drawn_106 : Dc cX6_drawn 106 (.iconst 2) 1 107 := by decide +kernel
theorem d_X6_drawn_107 : Dc cX6_drawn 107 (.invokevirtual 286) 3 110 := by decide +kernel
theorem d_X6_drawn_110 : Dc cX6_drawn 110 (.iload 9) 2 112 := by decide +kernel
theorem d_X6_drawn_112 : Dc cX6_drawn 112 (.isub) 1 113 := by decide +kernel
theorem d_X6_drawn_113 : Dc cX6_drawn 113 (.iadd) 1 114 := by decide +kernel
theorem d_X6_drawn_114 : Dc cX6_drawn 114 (.istore 7) 2 116 := by decide +kernel
theorem d_X6_drawn_116 : Dc cX6_drawn 116 (.iinc 8 1) 3 119 := by decide +kernel
theorem d_X6_drawn_119 : Dq cX6_drawn 119 (.goto) 63 122 := by decide +kernel
theorem d_X6_drawn_122 : Dc cX6_drawn 122 (.iload_n 3) 1 123 := by decide +kernel
theorem d_X6_drawn_123 : Dq cX6_drawn 123 (.ifCond .ne) 131 126 := by decide +kernel
theorem d_X6_drawn_126 : Dc cX6_drawn 126 (.iload 7) 2 128 := by decide +kernel
theorem d_X6_drawn_128 : Dq cX6_drawn 128 (.goto) 136 131 := by decide +kernel
theorem d_X6_drawn_131 : Dc cX6_drawn 131 (.aload 4) 2 133 := by decide +kernel
theorem d_X6_drawn_133 : Dc cX6_drawn 133 (.invokevirtual 239) 3 136 := by decide +kernel
theorem d_X6_drawn_136 : Dc cX6_drawn 136 (.ireturn) 1 137 := by decide +kernel
theorem d_X6_image_0 : Dc cX6_image 0 (.iload_n 1) 1 1 := by decide +kernel
theorem d_X6_image_1 : Dq cX6_image 1 (.ifCond .lt) 9 4 := by decide +kernel
theorem d_X6_image_4 : Dc cX6_image 4 (.iload_n 1) 1 5 := by decide +kernel
theorem d_X6_image_5 : Dc cX6_image 5 (.iconst 2) 1 6 := by decide +kernel
theorem d_X6_image_6 : Dq cX6_image 6 (.if_icmp .lt) 12 9 := by decide +kernel
theorem d_X6_image_9 : Dc cX6_image 9 (.ldc 66) 2 11 := by decide +kernel
theorem d_X6_image_11 : Dc cX6_image 11 (.ireturn) 1 12 := by decide +kernel
theorem d_X6_image_12 : Dc cX6_image 12 (.aload_n 0) 1 13 := by decide +kernel
theorem d_X6_image_13 : Dc cX6_image 13 (.getfield 26) 3 16 := by decide +kernel
theorem d_X6_image_16 : Dc cX6_image 16 (.invokevirtual 154) 3 19 := by decide +kernel
theorem d_X6_image_19 : Dq cX6_image 19 (.ifCond .eq) 25 22 := by decide +kernel
theorem d_X6_image_22 : Dc cX6_image 22 (.ldc 141) 2 24 := by decide +kernel
theorem d_X6_image_24 : Dc cX6_image 24 (.ireturn) 1 25 := by decide +kernel
theorem d_X6_image_25 : Dc cX6_image 25 (.aload_n 0) 1 26 := by decide +kernel
theorem d_X6_image_26 : Dc cX6_image 26 (.getfield 40) 3 29 := by decide +kernel
theorem d_X6_image_29 : Dc cX6_image 29 (.iload_n 1) 1 30 := by decide +kernel
theorem d_X6_image_30 : Dc cX6_image 30 (.aaload) 1 31 := by decide +kernel
theorem d_X6_image_31 : Dc cX6_image 31 (.aload_n 0) 1 32 := by decide +kernel
theorem d_X6_image_32 : Dc cX6_image 32 (.getfield 26) 3 35 := by decide +kernel
theorem d_X6_image_35 : Dc cX6_image 35 (.invokevirtual 151) 3 38 := by decide +kernel
theorem d_X6_image_38 : Dc cX6_image 38 (.iconst 1) 1 39 := by decide +kernel
theorem d_X6_image_39 : Dc cX6_image 39 (.ireturn) 1 40 := by decide +kernel
theorem d_X6_restore_0 : Dc cX6_restore 0 (.iload_n 1) 1 1 := by decide +kernel
theorem d_X6_restore_1 : Dq cX6_restore 1 (.ifCond .lt) 9 4 := by decide +kernel
theorem d_X6_restore_4 : Dc cX6_restore 4 (.iload_n 1) 1 5 := by decide +kernel
theorem d_X6_restore_5 : Dc cX6_restore 5 (.iconst 2) 1 6 := by decide +kernel
theorem d_X6_restore_6 : Dq cX6_restore 6 (.if_icmp .lt) 12 9 := by decide +kernel
theorem d_X6_restore_9 : Dc cX6_restore 9 (.ldc 66) 2 11 := by decide +kernel
theorem d_X6_restore_11 : Dc cX6_restore 11 (.ireturn) 1 12 := by decide +kernel
theorem d_X6_restore_12 : Dc cX6_restore 12 (.aload_n 0) 1 13 := by decide +kernel
theorem d_X6_restore_13 : Dc cX6_restore 13 (.getfield 40) 3 16 := by decide +kernel
theorem d_X6_restore_16 : Dc cX6_restore 16 (.iload_n 1) 1 17 := by decide +kernel
theorem d_X6_restore_17 : Dc cX6_restore 17 (.aaload) 1 18 := by decide +kernel
theorem d_X6_restore_18 : Dc cX6_restore 18 (.invokevirtual 154) 3 21 := by decide +kernel
theorem d_X6_restore_21 : Dq cX6_restore 21 (.ifCond .eq) 27 24 := by decide +kernel
theorem d_X6_restore_24 : Dc cX6_restore 24 (.ldc 141) 2 26 := by decide +kernel
theorem d_X6_restore_26 : Dc cX6_restore 26 (.ireturn) 1 27 := by decide +kernel
theorem d_X6_restore_27 : Dc cX6_restore 27 (.aload_n 0) 1 28 := by decide +kernel
theorem d_X6_restore_28 : Dc cX6_restore 28 (.aload_n 0) 1 29 := by decide +kernel
theorem d_X6_restore_29 : Dc cX6_restore 29 (.getfield 40) 3 32 := by decide +kernel
theorem d_X6_restore_32 : Dc cX6_restore 32 (.iload_n 1) 1 33 := by decide +kernel
theorem d_X6_restore_33 : Dc cX6_restore 33 (.aaload) 1 34 := by decide +kernel
theorem d_X6_restore_34 : Dc cX6_restore 34 (.invokevirtual 128) 3 37 := by decide +kernel
theorem d_X6_restore_37 : Dc cX6_restore 37 (.iconst 1) 1 38 := by decide +kernel
theorem d_X6_restore_38 : Dc cX6_restore 38 (.ireturn) 1 39 := by decide +kernel
theorem d_X6_isPlanned_0 : Dc cX6_isPlanned 0 (.iload_n 0) 1 1 := by decide +kernel
theorem d_X6_isPlanned_1 : Dc cX6_isPlanned 1 (.iconst 1) 1 2 := by decide +kernel
theorem d_X6_isPlanned_2 : Dq cX6_isPlanned 2 (.if_icmp .lt) 15 5 := by decide +kernel
theorem d_X6_isPlanned_5 : Dc cX6_isPlanned 5 (.iload_n 0) 1 6 := by decide +kernel
theorem d_X6_isPlanned_6 : Dc cX6_isPlanned 6 (.bipush 50) 2 8 := by decide +kernel
theorem d_X6_isPlanned_8 : Dq cX6_isPlanned 8 (.if_icmp .gt) 15 11 := by decide +kernel
theorem d_X6_isPlanned_11 : Dc cX6_isPlanned 11 (.iconst 1) 1 12 := by decide +kernel
theorem d_X6_isPlanned_12 : Dq cX6_isPlanned 12 (.goto) 16 15 := by decide +kernel
theorem d_X6_isPlanned_15 : Dc cX6_isPlanned 15 (.iconst 0) 1 16 := by decide +kernel
theorem d_X6_isPlanned_16 : Dc cX6_isPlanned 16 (.ireturn) 1 17 := by decide +kernel
theorem d_X6_isTold_0 : Dc cX6_isTold 0 (.iload_n 0) 1 1 := by decide +kernel
theorem d_X6_isTold_1 : Dc cX6_isTold 1 (.iconst 1) 1 2 := by decide +kernel
theorem d_X6_isTold_2 : Dq cX6_isTold 2 (.if_icmp .lt) 15 5 := by decide +kernel
theorem d_X6_isTold_5 : Dc cX6_isTold 5 (.iload_n 0) 1 6 := by decide +kernel
theorem d_X6_isTold_6 : Dc cX6_isTold 6 (.bipush 12) 2 8 := by decide +kernel
theorem d_X6_isTold_8 : Dq cX6_isTold 8 (.if_icmp .gt) 15 11 := by decide +kernel
theorem d_X6_isTold_11 : Dc cX6_isTold 11 (.iconst 1) 1 12 := by decide +kernel
theorem d_X6_isTold_12 : Dq cX6_isTold 12 (.goto) 16 15 := by decide +kernel
theorem d_X6_isTold_15 : Dc cX6_isTold 15 (.iconst 0) 1 16 := by decide +kernel
theorem d_X6_isTold_16 : Dc cX6_isTold 16 (.ireturn) 1 17 := by decide +kernel
theorem d_X6_asNow_0 : Dc cX6_asNow 0 (.aload_n 0) 1 1 := by decide +kernel
theorem d_X6_asNow_1 : Dc cX6_asNow 1 (.getfield 30) 3 4 := by decide +kernel
theorem d_X6_asNow_4 : Dc cX6_asNow 4 (.aload_n 0) 1 5 := by decide +kernel
theorem d_X6_asNow_5 : Dc cX6_asNow 5 (.getfield 26) 3 8 := by decide +kernel
theorem d_X6_asNow_8 : Dc cX6_asNow 8 (.invokevirtual 151) 3 11 := by decide +kernel
theorem d_X6_asNow_11 : Dc cX6_asNow 11 (.aload_n 0) 1 12 := by decide +kernel
theorem d_X6_asNow_12 : Dc cX6_asNow 12 (.getfield 30) 3 15 := by decide +kernel
theorem d_X6_asNow_15 : Dc cX6_asNow 15 (.areturn) 1 16 := by decide +kernel
theorem d_X6_behind_0 : Dc cX6_behind 0 (.aload_n 0) 1 1 := by decide +kernel
theorem d_X6_behind_1 : Dc cX6_behind 1 (.iload_n 1) 1 2 := by decide +kernel
theorem d_X6_behind_2 : Dc cX6_behind 2 (.aload_n 0) 1 3 := by decide +kernel
theorem d_X6_behind_3 : Dc cX6_behind 3 (.getfield 26) 3 6 := by decide +kernel
theorem d_X6_behind_6 : Dc cX6_behind 6 (.getfield 228) 3 9 := by decide +kernel
theorem d_X6_behind_9 : Dc cX6_behind 9 (.invokevirtual 276) 3 12 := by decide +kernel
theorem d_X6_behind_12 : Dc cX6_behind 12 (.areturn) 1 13 := by decide +kernel
theorem d_X6_behindWithOpen_0 : Dc cX6_behindWithOpen 0 (.aload_n 0) 1 1 := by decide +kernel
theorem d_X6_behindWithOpen_1 : Dc cX6_behindWithOpen 1 (.invokevirtual 242) 3 4 := by decide +kernel
theorem d_X6_behindWithOpen_4 : Dc cX6_behindWithOpen 4 (.astore_n 3) 1 5 := by decide +kernel
theorem d_X6_behindWithOpen_5 : Dc cX6_behindWithOpen 5 (.aload_n 3) 1 6 := by decide +kernel
theorem d_X6_behindWithOpen_6 : Dc cX6_behindWithOpen 6 (.iload_n 2) 1 7 := by decide +kernel
theorem d_X6_behindWithOpen_7 : Dc cX6_behindWithOpen 7 (.putfield 228) 3 10 := by decide +kernel
theorem d_X6_behindWithOpen_10 : Dc cX6_behindWithOpen 10 (.aload_n 3) 1 11 := by decide +kernel
theorem d_X6_behindWithOpen_11 : Dc cX6_behindWithOpen 11 (.iload_n 1) 1 12 := by decide +kernel
theorem d_X6_behindWithOpen_12 : Dc cX6_behindWithOpen 12 (.invokevirtual 268) 3 15 := by decide +kernel
theorem d_X6_behindWithOpen_15 : Dc cX6_behindWithOpen 15 (.aload_n 3) 1 16 := by decide +kernel
theorem d_X6_behindWithOpen_16 : Dc cX6_behindWithOpen 16 (.areturn) 1 17 := by decide +kernel
theorem d_X6_fits_0 : Dc cX6_fits 0 (.iconst 0) 1 1 := by decide +kernel
theorem d_X6_fits_1 : Dc cX6_fits 1 (.istore 5) 2 3 := by decide +kernel
theorem d_X6_fits_3 : Dc cX6_fits 3 (.iload 5) 2 5 := by decide +kernel
theorem d_X6_fits_5 : Dc cX6_fits 5 (.iload 4) 2 7 := by decide +kernel
theorem d_X6_fits_7 : Dq cX6_fits 7 (.if_icmp .ge) 53 10 := by decide +kernel
theorem d_X6_fits_10 : Dc cX6_fits 10 (.aload_n 1) 1 11 := by decide +kernel
theorem d_X6_fits_11 : Dc cX6_fits 11 (.invokevirtual 164) 3 14 := by decide +kernel
theorem d_X6_fits_14 : Dc cX6_fits 14 (.aload_n 1) 1 15 := by decide +kernel
theorem d_X6_fits_15 : Dc cX6_fits 15 (.iconst 1) 1 16 := by decide +kernel
theorem d_X6_fits_16 : Dc cX6_fits 16 (.invokevirtual 286) 3 19 := by decide +kernel
theorem d_X6_fits_19 : Dc cX6_fits 19 (.bipush 10) 2 21 := by decide +kernel
theorem d_X6_fits_21 : Dc cX6_fits 21 (.aload_n 1) 1 22 := by decide +kernel
theorem d_X6_fits_22 : Dc cX6_fits 22 (.iconst 2) 1 23 := by decide +kernel
theorem d_X6_fits_23 : Dc cX6_fits 23 (.invokevirtual 286) 3 26 := by decide +kernel
theorem d_X6_fits_26 : Dc cX6_fits 26 (.imul) 1 27 := by decide +kernel
theorem d_X6_fits_27 : Dc cX6_fits 27 (.iadd) 1 28 := by decide +kernel
theorem d_X6_fits_28 : Dc cX6_fits 28 (.aload_n 0) 1 29 := by decide +kernel
theorem d_X6_fits_29 : Dc cX6_fits 29 (.getfield 10) 3 32 := by decide +kernel
theorem d_X6_fits_32 : Dc cX6_fits 32 (.getfield 95) 3 35 := by decide +kernel
theorem d_X6_fits_35 : Dc cX6_fits 35 (.iload_n 2) 1 36 := by decide +kernel
theorem d_X6_fits_36 : Dc cX6_fits 36 (.aaload) 1 37 := by decide +kernel
theorem d_X6_fits_37 : Dc cX6_fits 37 (.iload_n 3) 1 38 := by decide +kernel
theorem d_X6_fits_38 : Dc cX6_fits 38 (.iload 5) 2 40 := by decide +kernel
theorem d_X6_fits_40 : Dc cX6_fits 40 (.iadd) 1 41 := by decide +kernel
theorem d_X6_fits_41 : Dc cX6_fits 41 (.iaload) 1 42 := by decide +kernel
theorem d_X6_fits_42 : Dq cX6_fits 42 (.if_icmp .eq) 47 45 := by decide +kernel
theorem d_X6_fits_45 : Dc cX6_fits 45 (.iconst 0) 1 46 := by decide +kernel
theorem d_X6_fits_46 : Dc cX6_fits 46 (.ireturn) 1 47 := by decide +kernel
theorem d_X6_fits_47 : Dc cX6_fits 47 (.iinc 5 1) 3 50 := by decide +kernel
theorem d_X6_fits_50 : Dq cX6_fits 50 (.goto) 3 53 := by decide +kernel
theorem d_X6_fits_53 : Dc cX6_fits 53 (.iconst 1) 1 54 := by decide +kernel
theorem d_X6_fits_54 : Dc cX6_fits 54 (.ireturn) 1 55 := by decide +kernel
theorem d_X6_kind_0 : Dc cX6_kind 0 (.aload_n 0) 1 1 := by decide +kernel
theorem d_X6_kind_1 : Dc cX6_kind 1 (.getfield 26) 3 4 := by decide +kernel
theorem d_X6_kind_4 : Dc cX6_kind 4 (.iload_n 1) 1 5 := by decide +kernel
theorem d_X6_kind_5 : Dc cX6_kind 5 (.invokevirtual 170) 3 8 := by decide +kernel
theorem d_X6_kind_8 : Dq cX6_kind 8 (.ifCond .eq) 23 11 := by decide +kernel
theorem d_X6_kind_11 : Dc cX6_kind 11 (.aload_n 0) 1 12 := by decide +kernel
theorem d_X6_kind_12 : Dc cX6_kind 12 (.getfield 26) 3 15 := by decide +kernel
theorem d_X6_kind_15 : Dc cX6_kind 15 (.getfield 335) 3 18 := by decide +kernel
theorem d_X6_kind_18 : Dc cX6_kind 18 (.iload_n 1) 1 19 := by decide +kernel
theorem d_X6_kind_19 : Dc cX6_kind 19 (.iaload) 1 20 := by decide +kernel
theorem d_X6_kind_20 : Dq cX6_kind 20 (.goto) 25 23 := by decide +kernel
theorem d_X6_kind_23 : Dc cX6_kind 23 (.ldc 66) 2 25 := by decide +kernel
theorem d_X6_kind_25 : Dc cX6_kind 25 (.ireturn) 1 26 := by decide +kernel
theorem d_X6_as_0 : Dc cX6_as 0 (.aload_n 0) 1 1 := by decide +kernel
theorem d_X6_as_1 : Dc cX6_as 1 (.getfield 26) 3 4 := by decide +kernel
theorem d_X6_as_4 : Dc cX6_as 4 (.iload_n 1) 1 5 := by decide +kernel
theorem d_X6_as_5 : Dc cX6_as 5 (.invokevirtual 170) 3 8 := by decide +kernel
theorem d_X6_as_8 : Dq cX6_as 8 (.ifCond .eq) 20 11 := by decide +kernel
theorem d_X6_as_11 : Dc cX6_as 11 (.iload_n 2) 1 12 := by decide +kernel
theorem d_X6_as_12 : Dq cX6_as 12 (.ifCond .lt) 20 15 := by decide +kernel
theorem d_X6_as_15 : Dc cX6_as 15 (.iload_n 2) 1 16 := by decide +kernel
theorem d_X6_as_16 : Dc cX6_as 16 (.iconst 5) 1 17 := by decide +kernel
theorem d_X6_as_17 : Dq cX6_as 17 (.if_icmp .le) 23 20 := by decide +kernel
theorem d_X6_as_20 : Dc cX6_as 20 (.ldc 66) 2 22 := by decide +kernel
theorem d_X6_as_22 : Dc cX6_as 22 (.ireturn) 1 23 := by decide +kernel
theorem d_X6_as_23 : Dc cX6_as 23 (.aload_n 0) 1 24 := by decide +kernel
theorem d_X6_as_24 : Dc cX6_as 24 (.getfield 26) 3 27 := by decide +kernel
theorem d_X6_as_27 : Dc cX6_as 27 (.getfield 335) 3 30 := by decide +kernel
theorem d_X6_as_30 : Dc cX6_as 30 (.iload_n 1) 1 31 := by decide +kernel
theorem d_X6_as_31 : Dc cX6_as 31 (.iaload) 1 32 := by decide +kernel
theorem d_X6_as_32 : Dc cX6_as 32 (.iload_n 2) 1 33 := by decide +kernel
theorem d_X6_as_33 : Dc cX6_as 33 (.invokestatic 338) 3 36 := by decide +kernel
theorem d_X6_as_36 : Dq cX6_as 36 (.ifCond .eq) 47 39 := by decide +kernel
theorem d_X6_as_39 : Dc cX6_as 39 (.aload_n 0) 1 40 := by decide +kernel
theorem d_X6_as_40 : Dc cX6_as 40 (.iload_n 1) 1 41 := by decide +kernel
theorem d_X6_as_41 : Dc cX6_as 41 (.invokevirtual 75) 3 44 := by decide +kernel
theorem d_X6_as_44 : Dq cX6_as 44 (.goto) 52 47 := by decide +kernel
theorem d_X6_as_47 : Dc cX6_as 47 (.aload_n 0) 1 48 := by decide +kernel
theorem d_X6_as_48 : Dc cX6_as 48 (.iconst 3) 1 49 := by decide +kernel
theorem d_X6_as_49 : Dc cX6_as 49 (.invokevirtual 67) 3 52 := by decide +kernel
theorem d_X6_as_52 : Dc cX6_as 52 (.ireturn) 1 53 := by decide +kernel
theorem d_X6_isOfKind_0 : Dc cX6_isOfKind 0 (.iload_n 0) 1 1 := by decide +kernel
theorem d_X6_isOfKind_1 : Dc cX6_isOfKind 1 (.istore_n 2) 1 2 := by decide +kernel
theorem d_X6_isOfKind_2 : Dc cX6_isOfKind 2 (.iconst 0) 1 3 := by decide +kernel
theorem d_X6_isOfKind_3 : Dc cX6_isOfKind 3 (.istore_n 3) 1 4 := by decide +kernel
theorem d_X6_isOfKind_4 : Dc cX6_isOfKind 4 (.iload_n 3) 1 5 := by decide +kernel
theorem d_X6_isOfKind_5 : Dc cX6_isOfKind 5 (.getstatic 342) 3 8 := by decide +kernel
theorem d_X6_isOfKind_8 : Dc cX6_isOfKind 8 (.arraylength) 1 9 := by decide +kernel
theorem d_X6_isOfKind_9 : Dq cX6_isOfKind 9 (.if_icmp .ge) 35 12 := by decide +kernel
theorem d_X6_isOfKind_12 : Dc cX6_isOfKind 12 (.iload_n 2) 1 13 := by decide +kernel
theorem d_X6_isOfKind_13 : Dq cX6_isOfKind 13 (.ifCond .lt) 35 16 := by decide +kernel
theorem d_X6_isOfKind_16 : Dc cX6_isOfKind 16 (.iload_n 2) 1 17 := by decide +kernel
theorem d_X6_isOfKind_17 : Dc cX6_isOfKind 17 (.iload_n 1) 1 18 := by decide +kernel
theorem d_X6_isOfKind_18 : Dq cX6_isOfKind 18 (.if_icmp .ne) 23 21 := by decide +kernel
theorem d_X6_isOfKind_21 : Dc cX6_isOfKind 21 (.iconst 1) 1 22 := by decide +kernel
theorem d_X6_isOfKind_22 : Dc cX6_isOfKind 22 (.ireturn) 1 23 := by decide +kernel
theorem d_X6_isOfKind_23 : Dc cX6_isOfKind 23 (.getstatic 342) 3 26 := by decide +kernel
theorem d_X6_isOfKind_26 : Dc cX6_isOfKind 26 (.iload_n 2) 1 27 := by decide +kernel
theorem d_X6_isOfKind_27 : Dc cX6_isOfKind 27 (.iaload) 1 28 := by decide +kernel
theorem d_X6_isOfKind_28 : Dc cX6_isOfKind 28 (.istore_n 2) 1 29 := by decide +kernel
theorem d_X6_isOfKind_29 : Dc cX6_isOfKind 29 (.iinc 3 1) 3 32 := by decide +kernel
theorem d_X6_isOfKind_32 : Dq cX6_isOfKind 32 (.goto) 4 35 := by decide +kernel
theorem d_X6_isOfKind_35 : Dc cX6_isOfKind 35 (.iconst 0) 1 36 := by decide +kernel
theorem d_X6_isOfKind_36 : Dc cX6_isOfKind 36 (.ireturn) 1 37 := by decide +kernel
theorem d_X6_ask_0 : Dc cX6_ask 0 (.aload_n 0) 1 1 := by decide +kernel
theorem d_X6_ask_1 : Dc cX6_ask 1 (.getfield 26) 3 4 := by decide +kernel
theorem d_X6_ask_4 : Dc cX6_ask 4 (.iload_n 1) 1 5 := by decide +kernel
theorem d_X6_ask_5 : Dc cX6_ask 5 (.invokevirtual 170) 3 8 := by decide +kernel
theorem d_X6_ask_8 : Dq cX6_ask 8 (.ifCond .eq) 20 11 := by decide +kernel
theorem d_X6_ask_11 : Dc cX6_ask 11 (.iload_n 2) 1 12 := by decide +kernel
theorem d_X6_ask_12 : Dq cX6_ask 12 (.ifCond .lt) 20 15 := by decide +kernel
theorem d_X6_ask_15 : Dc cX6_ask 15 (.iload_n 2) 1 16 := by decide +kernel
theorem d_X6_ask_16 : Dc cX6_ask 16 (.iconst 1) 1 17 := by decide +kernel
theorem d_X6_ask_17 : Dq cX6_ask 17 (.if_icmp .le) 23 20 := by decide +kernel
theorem d_X6_ask_20 : Dc cX6_ask 20 (.ldc 66) 2 22 := by decide +kernel
theorem d_X6_ask_22 : Dc cX6_ask 22 (.ireturn) 1 23 := by decide +kernel
theorem d_X6_ask_23 : Dc cX6_ask 23 (.aload_n 0) 1 24 := by decide +kernel
theorem d_X6_ask_24 : Dc cX6_ask 24 (.getfield 54) 3 27 := by decide +kernel
theorem d_X6_ask_27 : Dc cX6_ask 27 (.aload_n 0) 1 28 := by decide +kernel
theorem d_X6_ask_28 : Dc cX6_ask 28 (.getfield 26) 3 31 := by decide +kernel
theorem d_X6_ask_31 : Dc cX6_ask 31 (.iload_n 1) 1 32 := by decide +kernel
theorem d_X6_ask_32 : Dc cX6_ask 32 (.iload_n 2) 1 33 := by decide +kernel
theorem d_X6_ask_33 : Dc cX6_ask 33 (.invokevirtual 345) 3 36 := by decide +kernel
theorem d_X6_ask_36 : Dc cX6_ask 36 (.ireturn) 1 37 := by decide +kernel
theorem d_X6_trace_0 : Dc cX6_trace 0 (.iload_n 1) 1 1 := by decide +kernel
theorem d_X6_trace_1 : Dq cX6_trace 1 (.ifCond .lt) 27 4 := by decide +kernel
theorem d_X6_trace_4 : Dc cX6_trace 4 (.iload_n 1) 1 5 := by decide +kernel
theorem d_X6_trace_5 : Dc cX6_trace 5 (.aload_n 0) 1 6 := by decide +kernel
theorem d_X6_trace_6 : Dc cX6_trace 6 (.getfield 54) 3 9 := by decide +kernel
theorem d_X6_trace_9 : Dc cX6_trace 9 (.getfield 349) 3 12 := by decide +kernel
theorem d_X6_trace_12 : Dq cX6_trace 12 (.if_icmp .ge) 27 15 := by decide +kernel
theorem d_X6_trace_15 : Dc cX6_trace 15 (.aload_n 0) 1 16 := by decide +kernel
theorem d_X6_trace_16 : Dc cX6_trace 16 (.getfield 54) 3 19 := by decide +kernel
theorem d_X6_trace_19 : Dc cX6_trace 19 (.getfield 352) 3 22 := by decide +kernel
theorem d_X6_trace_22 : Dc cX6_trace 22 (.iload_n 1) 1 23 := by decide +kernel
theorem d_X6_trace_23 : Dc cX6_trace 23 (.iaload) 1 24 := by decide +kernel
theorem d_X6_trace_24 : Dq cX6_trace 24 (.goto) 29 27 := by decide +kernel
theorem d_X6_trace_27 : Dc cX6_trace 27 (.ldc 220) 2 29 := by decide +kernel
theorem d_X6_trace_29 : Dc cX6_trace 29 (.ireturn) 1 30 := by decide +kernel
theorem d_X6_count_0 : Dc cX6_count 0 (.iload_n 1) 1 1 := by decide +kernel
theorem d_X6_count_1 : decode cX6_count 1 = .ok (.tableswitch 124 0 8 #[51, 59, 67, 75, 83, 92, 100, 108, 116], 51) := by decide +kernel
theorem d_X6_count_52 : Dc cX6_count 52 (.aload_n 0) 1 53 := by decide +kernel
theorem d_X6_count_53 : Dc cX6_count 53 (.getfield 10) 3 56 := by decide +kernel
theorem d_X6_count_56 : Dc cX6_count 56 (.invokevirtual 355) 3 59 := by decide +kernel
theorem d_X6_count_59 : Dc cX6_count 59 (.ireturn) 1 60 := by decide +kernel
theorem d_X6_count_60 : Dc cX6_count 60 (.aload_n 0) 1 61 := by decide +kernel
theorem d_X6_count_61 : Dc cX6_count 61 (.getfield 26) 3 64 := by decide +kernel
theorem d_X6_count_64 : Dc cX6_count 64 (.getfield 132) 3 67 := by decide +kernel
theorem d_X6_count_67 : Dc cX6_count 67 (.ireturn) 1 68 := by decide +kernel
theorem d_X6_count_68 : Dc cX6_count 68 (.aload_n 0) 1 69 := by decide +kernel
theorem d_X6_count_69 : Dc cX6_count 69 (.getfield 26) 3 72 := by decide +kernel
theorem d_X6_count_72 : Dc cX6_count 72 (.getfield 262) 3 75 := by decide +kernel
theorem d_X6_count_75 : Dc cX6_count 75 (.ireturn) 1 76 := by decide +kernel
theorem d_X6_count_76 : Dc cX6_count 76 (.aload_n 0) 1 77 := by decide +kernel
theorem d_X6_count_77 : Dc cX6_count 77 (.getfield 26) 3 80 := by decide +kernel
theorem d_X6_count_80 : Dc cX6_count 80 (.getfield 158) 3 83 := by decide +kernel
theorem d_X6_count_83 : Dc cX6_count 83 (.ireturn) 1 84 := by decide +kernel
theorem d_X6_count_84 : Dc cX6_count 84 (.aload_n 0) 1 85 := by decide +kernel
theorem d_X6_count_85 : Dc cX6_count 85 (.getfield 26) 3 88 := by decide +kernel
theorem d_X6_count_88 : Dc cX6_count 88 (.iconst 2) 1 89 := by decide +kernel
theorem d_X6_count_89 : Dc cX6_count 89 (.invokevirtual 286) 3 92 := by decide +kernel
theorem d_X6_count_92 : Dc cX6_count 92 (.ireturn) 1 93 := by decide +kernel
theorem d_X6_count_93 : Dc cX6_count 93 (.aload_n 0) 1 94 := by decide +kernel
theorem d_X6_count_94 : Dc cX6_count 94 (.getfield 26) 3 97 := by decide +kernel
theorem d_X6_count_97 : Dc cX6_count 97 (.invokevirtual 283) 3 100 := by decide +kernel
theorem d_X6_count_100 : Dc cX6_count 100 (.ireturn) 1 101 := by decide +kernel
theorem d_X6_count_101 : Dc cX6_count 101 (.aload_n 0) 1 102 := by decide +kernel
theorem d_X6_count_102 : Dc cX6_count 102 (.getfield 26) 3 105 := by decide +kernel
theorem d_X6_count_105 : Dc cX6_count 105 (.invokevirtual 239) 3 108 := by decide +kernel
theorem d_X6_count_108 : Dc cX6_count 108 (.ireturn) 1 109 := by decide +kernel
theorem d_X6_count_109 : Dc cX6_count 109 (.aload_n 0) 1 110 := by decide +kernel
theorem d_X6_count_110 : Dc cX6_count 110 (.getfield 36) 3 113 := by decide +kernel
theorem d_X6_count_113 : Dc cX6_count 113 (.getfield 138) 3 116 := by decide +kernel
theorem d_X6_count_116 : Dc cX6_count 116 (.ireturn) 1 117 := by decide +kernel
theorem d_X6_count_117 : Dc cX6_count 117 (.aload_n 0) 1 118 := by decide +kernel
theorem d_X6_count_118 : Dc cX6_count 118 (.getfield 19) 3 121 := by decide +kernel
theorem d_X6_count_121 : Dc cX6_count 121 (.getfield 116) 3 124 := by decide +kernel
theorem d_X6_count_124 : Dc cX6_count 124 (.ireturn) 1 125 := by decide +kernel
theorem d_X6_count_125 : Dc cX6_count 125 (.ldc 66) 2 127 := by decide +kernel
theorem d_X6_count_127 : Dc cX6_count 127 (.ireturn) 1 128 := by decide +kernel
theorem d_X6_status_0 : Dc cX6_status 0 (.aload_n 0) 1 1 := by decide +kernel
theorem d_X6_status_1 : Dc cX6_status 1 (.getfield 108) 3 4 := by decide +kernel
theorem d_X6_status_4 : Dc cX6_status 4 (.ireturn) 1 5 := by decide +kernel
end
section
theorem d_X7_init_0 : Dc cX7_init 0 (.aload_n 0) 1 1 := by decide +kernel
theorem d_X7_init_1 : Dc cX7_init 1 (.invokespecial 1) 3 4 := by decide +kernel
theorem d_X7_init_4 : Dc cX7_init 4 (.aload_n 0) 1 5 := by decide +kernel
theorem d_X7_init_5 : Dc cX7_init 5 (.sipush 320) 3 8 := by decide +kernel
theorem d_X7_init_8 : Dc cX7_init 8 (.newarray .int) 2 10 := by decide +kernel
theorem d_X7_init_10 : Dc cX7_init 10 (.putfield 7) 3 13 := by decide +kernel
theorem d_X7_init_13 : Dc cX7_init 13 (.aload_n 0) 1 14 := by decide +kernel
theorem d_X7_init_14 : Dc cX7_init 14 (.bipush 8) 2 16 := by decide +kernel
theorem d_X7_init_16 : Dc cX7_init 16 (.newarray .int) 2 18 := by decide +kernel
theorem d_X7_init_18 : Dc cX7_init 18 (.putfield 13) 3 21 := by decide +kernel
theorem d_X7_init_21 : Dc cX7_init 21 (.aload_n 0) 1 22 := by decide +kernel
theorem d_X7_init_22 : Dc cX7_init 22 (.bipush 8) 2 24 := by decide +kernel
theorem d_X7_init_24 : Dc cX7_init 24 (.newarray .int) 2 26 := by decide +kernel
theorem d_X7_init_26 : Dc cX7_init 26 (.putfield 16) 3 29 := by decide +kernel
theorem d_X7_init_29 : Dc cX7_init 29 (.aload_n 0) 1 30 := by decide +kernel
theorem d_X7_init_30 : Dc cX7_init 30 (.bipush 110) 2 32 := by decide +kernel
theorem d_X7_init_32 : Dc cX7_init 32 (.newarray .int) 2 34 := by decide +kernel
theorem d_X7_init_34 : Dc cX7_init 34 (.putfield 19) 3 37 := by decide +kernel
theorem d_X7_init_37 : Dc cX7_init 37 (.aload_n 0) 1 38 := by decide +kernel
theorem d_X7_init_38 : Dc cX7_init 38 (.bipush 17) 2 40 := by decide +kernel
theorem d_X7_init_40 : Dc cX7_init 40 (.newarray .int) 2 42 := by decide +kernel
theorem d_X7_init_42 : Dc cX7_init 42 (.putfield 22) 3 45 := by decide +kernel
theorem d_X7_init_45 : Dc cX7_init 45 (.aload_n 0) 1 46 := by decide +kernel
theorem d_X7_init_46 : Dc cX7_init 46 (.bipush 42) 2 48 := by decide +kernel
theorem d_X7_init_48 : Dc cX7_init 48 (.newarray .int) 2 50 := by decide +kernel
theorem d_X7_init_50 : Dc cX7_init 50 (.putfield 25) 3 53 := by decide +kernel
theorem d_X7_init_53 : Dc cX7_init 53 (.aload_n 0) 1 54 := by decide +kernel
theorem d_X7_init_54 : Dc cX7_init 54 (.bipush 17) 2 56 := by decide +kernel
theorem d_X7_init_56 : Dc cX7_init 56 (.newarray .int) 2 58 := by decide +kernel
theorem d_X7_init_58 : Dc cX7_init 58 (.putfield 28) 3 61 := by decide +kernel
theorem d_X7_init_61 : Dc cX7_init 61 (.aload_n 0) 1 62 := by decide +kernel
theorem d_X7_init_62 : Dc cX7_init 62 (.bipush 42) 2 64 := by decide +kernel
theorem d_X7_init_64 : Dc cX7_init 64 (.newarray .int) 2 66 := by decide +kernel
theorem d_X7_init_66 : Dc cX7_init 66 (.putfield 31) 3 69 := by decide +kernel
theorem d_X7_init_69 : Dc cX7_init 69 (.aload_n 0) 1 70 := by decide +kernel
theorem d_X7_init_70 : Dc cX7_init 70 (.bipush 17) 2 72 := by decide +kernel
theorem d_X7_init_72 : Dc cX7_init 72 (.newarray .int) 2 74 := by decide +kernel
theorem d_X7_init_74 : Dc cX7_init 74 (.putfield 34) 3 77 := by decide +kernel
theorem d_X7_init_77 : Dc cX7_init 77 (.aload_n 0) 1 78 := by decide +kernel
theorem d_X7_init_78 : Dc cX7_init 78 (.bipush 42) 2 80 := by decide +kernel
theorem d_X7_init_80 : Dc cX7_init 80 (.newarray .int) 2 82 := by decide +kernel
theorem d_X7_init_82 : Dc cX7_init 82 (.putfield 37) 3 85 := by decide +kernel
theorem d_X7_init_85 : Dc cX7_init 85 (.aload_n 0) 1 86 := by decide +kernel
theorem d_X7_init_86 : Dc cX7_init 86 (.bipush 6) 2 88 := by decide +kernel
theorem d_X7_init_88 : Dc cX7_init 88 (.newarray .int) 2 90 := by decide +kernel
theorem d_X7_init_90 : Dc cX7_init 90 (.putfield 40) 3 93 := by decide +kernel
theorem d_X7_init_93 : Dc cX7_init 93 (.aload_n 0) 1 94 := by decide +kernel
theorem d_X7_init_94 : Dc cX7_init 94 (.sipush 1008) 3 97 := by decide +kernel
theorem d_X7_init_97 : Dc cX7_init 97 (.newarray .int) 2 99 := by decide +kernel
theorem d_X7_init_99 : Dc cX7_init 99 (.putfield 43) 3 102 := by decide +kernel
theorem d_X7_init_102 : Dc cX7_init 102 (.aload_n 0) 1 103 := by decide +kernel
theorem d_X7_init_103 : Dc cX7_init 103 (.bipush 118) 2 105 := by decide +kernel
theorem d_X7_init_105 : Dc cX7_init 105 (.newarray .int) 2 107 := by decide +kernel
theorem d_X7_init_107 : Dc cX7_init 107 (.putfield 46) 3 110 := by decide +kernel
theorem d_X7_init_110 : Dc cX7_init 110 (.aload_n 0) 1 111 := by decide +kernel
theorem d_X7_init_111 : Dc cX7_init 111 (.iconst 2) 1 112 := by decide +kernel
theorem d_X7_init_112 : Dc cX7_init 112 (.newarray .boolean) 2 114 := by decide +kernel
theorem d_X7_init_114 : Dc cX7_init 114 (.putfield 49) 3 117 := by decide +kernel
theorem d_X7_init_117 : Dc cX7_init 117 (.aload_n 0) 1 118 := by decide +kernel
theorem d_X7_init_118 : Dc cX7_init 118 (.bipush 16) 2 120 := by decide +kernel
theorem d_X7_init_120 : Dc cX7_init 120 (.newarray .int) 2 122 := by decide +kernel
theorem d_X7_init_122 : Dc cX7_init 122 (.putfield 53) 3 125 := by decide +kernel
theorem d_X7_init_125 : Dc cX7_init 125 (.aload_n 0) 1 126 := by decide +kernel
theorem d_X7_init_126 : Dc cX7_init 126 (.sipush 1296) 3 129 := by decide +kernel
theorem d_X7_init_129 : Dc cX7_init 129 (.newarray .int) 2 131 := by decide +kernel
theorem d_X7_init_131 : Dc cX7_init 131 (.putfield 56) 3 134 := by decide +kernel
theorem d_X7_init_134 : Dc cX7_init 134 (.aload_n 0) 1 135 := by decide +kernel
theorem d_X7_init_135 : Dc cX7_init 135 (.bipush 6) 2 137 := by decide +kernel
theorem d_X7_init_137 : Dc cX7_init 137 (.newarray .int) 2 139 := by decide +kernel
theorem d_X7_init_139 : Dc cX7_init 139 (.putfield 59) 3 142 := by decide +kernel
theorem d_X7_init_142 : Dc cX7_init 142 (.iconst 0) 1 143 := by decide +kernel
theorem d_X7_init_143 : Dc cX7_init 143 (.istore_n 1) 1 144 := by decide +kernel
theorem d_X7_init_144 : Dc cX7_init 144 (.iload_n 1) 1 145 := by decide +kernel
theorem d_X7_init_145 : Dc cX7_init 145 (.bipush 8) 2 147 := by decide +kernel
theorem d_X7_init_147 : Dq cX7_init 147 (.if_icmp .ge) 163 150 := by decide +kernel
theorem d_X7_init_150 : Dc cX7_init 150 (.aload_n 0) 1 151 := by decide +kernel
theorem d_X7_init_151 : Dc cX7_init 151 (.getfield 16) 3 154 := by decide +kernel
theorem d_X7_init_154 : Dc cX7_init 154 (.iload_n 1) 1 155 := by decide +kernel
theorem d_X7_init_155 : Dc cX7_init 155 (.iconst (-1)) 1 156 := by decide +kernel
theorem d_X7_init_156 : Dc cX7_init 156 (.iastore) 1 157 := by decide +kernel
theorem d_X7_init_157 : Dc cX7_init 157 (.iinc 1 1) 3 160 := by decide +kernel
theorem d_X7_init_160 : Dq cX7_init 160 (.goto) 144 163 := by decide +kernel
theorem d_X7_init_163 : Dc cX7_init 163 (.return_) 1 164 := by decide +kernel
theorem d_X7_in_0 : Dc cX7_in 0 (.iload_n 0) 1 1 := by decide +kernel
theorem d_X7_in_1 : Dc cX7_in 1 (.iload_n 1) 1 2 := by decide +kernel
theorem d_X7_in_2 : Dq cX7_in 2 (.if_icmp .lt) 14 5 := by decide +kernel
theorem d_X7_in_5 : Dc cX7_in 5 (.iload_n 0) 1 6 := by decide +kernel
theorem d_X7_in_6 : Dc cX7_in 6 (.iload_n 2) 1 7 := by decide +kernel
theorem d_X7_in_7 : Dq cX7_in 7 (.if_icmp .gt) 14 10 := by decide +kernel
theorem d_X7_in_10 : Dc cX7_in 10 (.iconst 1) 1 11 := by decide +kernel
theorem d_X7_in_11 : Dq cX7_in 11 (.goto) 15 14 := by decide +kernel
theorem d_X7_in_14 : Dc cX7_in 14 (.iconst 0) 1 15 := by decide +kernel
theorem d_X7_in_15 : Dc cX7_in 15 (.ireturn) 1 16 := by decide +kernel
theorem d_X7_has_0 : Dc cX7_has 0 (.iload_n 0) 1 1 := by decide +kernel
theorem d_X7_has_1 : Dc cX7_has 1 (.iload_n 1) 1 2 := by decide +kernel
theorem d_X7_has_2 : Dc cX7_has 2 (.ishr) 1 3 := by decide +kernel
theorem d_X7_has_3 : Dc cX7_has 3 (.iconst 1) 1 4 := by decide +kernel
theorem d_X7_has_4 : Dc cX7_has 4 (.iand) 1 5 := by decide +kernel
theorem d_X7_has_5 : Dc cX7_has 5 (.iconst 1) 1 6 := by decide +kernel
theorem d_X7_has_6 : Dq cX7_has 6 (.if_icmp .ne) 13 9 := by decide +kernel
theorem d_X7_has_9 : Dc cX7_has 9 (.iconst 1) 1 10 := by decide +kernel
theorem d_X7_has_10 : Dq cX7_has 10 (.goto) 14 13 := by decide +kernel
theorem d_X7_has_13 : Dc cX7_has 13 (.iconst 0) 1 14 := by decide +kernel
theorem d_X7_has_14 : Dc cX7_has 14 (.ireturn) 1 15 := by decide +kernel
theorem d_X7_ones_0 : Dc cX7_ones 0 (.iconst 0) 1 1 := by decide +kernel
theorem d_X7_ones_1 : Dc cX7_ones 1 (.istore_n 1) 1 2 := by decide +kernel
theorem d_X7_ones_2 : Dc cX7_ones 2 (.iload_n 0) 1 3 := by decide +kernel
theorem d_X7_ones_3 : Dc cX7_ones 3 (.istore_n 2) 1 4 := by decide +kernel
theorem d_X7_ones_4 : Dc cX7_ones 4 (.iload_n 2) 1 5 := by decide +kernel
theorem d_X7_ones_5 : Dq cX7_ones 5 (.ifCond .eq) 20 8 := by decide +kernel
theorem d_X7_ones_8 : Dc cX7_ones 8 (.iinc 1 1) 3 11 := by decide +kernel
theorem d_X7_ones_11 : Dc cX7_ones 11 (.iload_n 2) 1 12 := by decide +kernel
theorem d_X7_ones_12 : Dc cX7_ones 12 (.iload_n 2) 1 13 := by decide +kernel
theorem d_X7_ones_13 : Dc cX7_ones 13 (.iconst 1) 1 14 := by decide +kernel
theorem d_X7_ones_14 : Dc cX7_ones 14 (.isub) 1 15 := by decide +kernel
theorem d_X7_ones_15 : Dc cX7_ones 15 (.iand) 1 16 := by decide +kernel
theorem d_X7_ones_16 : Dc cX7_ones 16 (.istore_n 2) 1 17 := by decide +kernel
theorem d_X7_ones_17 : Dq cX7_ones 17 (.goto) 4 20 := by decide +kernel
theorem d_X7_ones_20 : Dc cX7_ones 20 (.iload_n 1) 1 21 := by decide +kernel
theorem d_X7_ones_21 : Dc cX7_ones 21 (.ireturn) 1 22 := by decide +kernel
theorem d_X7_found_0 : Dc cX7_found 0 (.aload_n 0) 1 1 := by decide +kernel
theorem d_X7_found_1 : Dc cX7_found 1 (.iload_n 1) 1 2 := by decide +kernel
theorem d_X7_found_2 : Dc cX7_found 2 (.putfield 66) 3 5 := by decide +kernel
theorem d_X7_found_5 : Dc cX7_found 5 (.ldc 69) 2 7 := by decide +kernel
theorem d_X7_found_7 : Dc cX7_found 7 (.iload_n 1) 1 8 := by decide +kernel
theorem d_X7_found_8 : Dc cX7_found 8 (.isub) 1 9 := by decide +kernel
theorem d_X7_found_9 : Dc cX7_found 9 (.ireturn) 1 10 := by decide +kernel
theorem d_X7_well_0 : Dc cX7_well 0 (.aload_n 0) 1 1 := by decide +kernel
theorem d_X7_well_1 : Dc cX7_well 1 (.iconst 0) 1 2 := by decide +kernel
theorem d_X7_well_2 : Dc cX7_well 2 (.putfield 66) 3 5 := by decide +kernel
theorem d_X7_well_5 : Dc cX7_well 5 (.iload_n 1) 1 6 := by decide +kernel
theorem d_X7_well_6 : Dc cX7_well 6 (.ireturn) 1 7 := by decide +kernel
theorem d_X7_isRow_0 : Dc cX7_isRow 0 (.iload_n 0) 1 1 := by decide +kernel
theorem d_X7_isRow_1 : Dc cX7_isRow 1 (.iconst 0) 1 2 := by decide +kernel
theorem d_X7_isRow_2 : Dc cX7_isRow 2 (.bipush 7) 2 4 := by decide +kernel
theorem d_X7_isRow_4 : Dc cX7_isRow 4 (.invokestatic 70) 3 7 := by decide +kernel
theorem d_X7_isRow_7 : Dc cX7_isRow 7 (.ireturn) 1 8 := by decide +kernel
theorem d_X7_row_0 : Dc cX7_row 0 (.aload_n 0) 1 1 := by decide +kernel
theorem d_X7_row_1 : Dc cX7_row 1 (.iconst 0) 1 2 := by decide +kernel
theorem d_X7_row_2 : Dc cX7_row 2 (.putfield 62) 3 5 := by decide +kernel
theorem d_X7_row_5 : Dc cX7_row 5 (.iload_n 1) 1 6 := by decide +kernel
theorem d_X7_row_6 : Dc cX7_row 6 (.invokestatic 74) 3 9 := by decide +kernel
theorem d_X7_row_9 : Dq cX7_row 9 (.ifCond .eq) 27 12 := by decide +kernel
theorem d_X7_row_12 : Dc cX7_row 12 (.iload_n 2) 1 13 := by decide +kernel
theorem d_X7_row_13 : Dc cX7_row 13 (.iconst 0) 1 14 := by decide +kernel
theorem d_X7_row_14 : Dc cX7_row 14 (.iconst 2) 1 15 := by decide +kernel
theorem d_X7_row_15 : Dc cX7_row 15 (.invokestatic 70) 3 18 := by decide +kernel
theorem d_X7_row_18 : Dq cX7_row 18 (.ifCond .eq) 27 21 := by decide +kernel
theorem d_X7_row_21 : Dc cX7_row 21 (.iload_n 3) 1 22 := by decide +kernel
theorem d_X7_row_22 : Dc cX7_row 22 (.bipush 40) 2 24 := by decide +kernel
theorem d_X7_row_24 : Dq cX7_row 24 (.if_icmp .le) 30 27 := by decide +kernel
theorem d_X7_row_27 : Dc cX7_row 27 (.ldc 78) 2 29 := by decide +kernel
theorem d_X7_row_29 : Dc cX7_row 29 (.ireturn) 1 30 := by decide +kernel
theorem d_X7_row_30 : Dc cX7_row 30 (.iload_n 3) 1 31 := by decide +kernel
theorem d_X7_row_31 : Dq cX7_row 31 (.ifCond .ge) 40 34 := by decide +kernel
theorem d_X7_row_34 : Dc cX7_row 34 (.aload_n 0) 1 35 := by decide +kernel
theorem d_X7_row_35 : Dc cX7_row 35 (.iconst 4) 1 36 := by decide +kernel
theorem d_X7_row_36 : Dc cX7_row 36 (.invokevirtual 79) 3 39 := by decide +kernel
theorem d_X7_row_39 : Dc cX7_row 39 (.ireturn) 1 40 := by decide +kernel
theorem d_X7_row_40 : Dc cX7_row 40 (.aload_n 0) 1 41 := by decide +kernel
theorem d_X7_row_41 : Dc cX7_row 41 (.getfield 13) 3 44 := by decide +kernel
theorem d_X7_row_44 : Dc cX7_row 44 (.iload_n 1) 1 45 := by decide +kernel
theorem d_X7_row_45 : Dc cX7_row 45 (.iload_n 2) 1 46 := by decide +kernel
theorem d_X7_row_46 : Dc cX7_row 46 (.iastore) 1 47 := by decide +kernel
theorem d_X7_row_47 : Dc cX7_row 47 (.aload_n 0) 1 48 := by decide +kernel
theorem d_X7_row_48 : Dc cX7_row 48 (.getfield 16) 3 51 := by decide +kernel
theorem d_X7_row_51 : Dc cX7_row 51 (.iload_n 1) 1 52 := by decide +kernel
theorem d_X7_row_52 : Dc cX7_row 52 (.iload_n 3) 1 53 := by decide +kernel
theorem d_X7_row_53 : Dc cX7_row 53 (.iastore) 1 54 := by decide +kernel
theorem d_X7_row_54 : Dc cX7_row 54 (.iconst 0) 1 55 := by decide +kernel
theorem d_X7_row_55 : Dc cX7_row 55 (.istore 4) 2 57 := by decide +kernel
theorem d_X7_row_57 : Dc cX7_row 57 (.iload 4) 2 59 := by decide +kernel
theorem d_X7_row_59 : Dc cX7_row 59 (.iload_n 3) 1 60 := by decide +kernel
theorem d_X7_row_60 : Dq cX7_row 60 (.if_icmp .ge) 82 63 := by decide +kernel
theorem d_X7_row_63 : Dc cX7_row 63 (.aload_n 0) 1 64 := by decide +kernel
theorem d_X7_row_64 : Dc cX7_row 64 (.getfield 7) 3 67 := by decide +kernel
theorem d_X7_row_67 : Dc cX7_row 67 (.bipush 40) 2 69 := by decide +kernel
theorem d_X7_row_69 : Dc cX7_row 69 (.iload_n 1) 1 70 := by decide +kernel
theorem d_X7_row_70 : Dc cX7_row 70 (.imul) 1 71 := by decide +kernel
theorem d_X7_row_71 : Dc cX7_row 71 (.iload 4) 2 73 := by decide +kernel
theorem d_X7_row_73 : Dc cX7_row 73 (.iadd) 1 74 := by decide +kernel
theorem d_X7_row_74 : Dc cX7_row 74 (.iconst 0) 1 75 := by decide +kernel
theorem d_X7_row_75 : Dc cX7_row 75 (.iastore) 1 76 := by decide +kernel
theorem d_X7_row_76 : Dc cX7_row 76 (.iinc 4 1) 3 79 := by decide +kernel
theorem d_X7_row_79 : Dq cX7_row 79 (.goto) 57 82 := by decide +kernel
theorem d_X7_row_82 : Dc cX7_row 82 (.aload_n 0) 1 83 := by decide +kernel
theorem d_X7_row_83 : Dc cX7_row 83 (.iload_n 3) 1 84 := by decide +kernel
theorem d_X7_row_84 : Dc cX7_row 84 (.invokevirtual 83) 3 87 := by decide +kernel
theorem d_X7_row_87 : Dc cX7_row 87 (.ireturn) 1 88 := by decide +kernel
theorem d_X7_set_0 : Dc cX7_set 0 (.aload_n 0) 1 1 := by decide +kernel
theorem d_X7_set_1 : Dc cX7_set 1 (.iconst 0) 1 2 := by decide +kernel
theorem d_X7_set_2 : Dc cX7_set 2 (.putfield 62) 3 5 := by decide +kernel
theorem d_X7_set_5 : Dc cX7_set 5 (.iload_n 1) 1 6 := by decide +kernel
theorem d_X7_set_6 : Dc cX7_set 6 (.invokestatic 74) 3 9 := by decide +kernel
theorem d_X7_set_9 : Dq cX7_set 9 (.ifCond .ne) 15 12 := by decide +kernel
theorem d_X7_set_12 : Dc cX7_set 12 (.ldc 78) 2 14 := by decide +kernel
theorem d_X7_set_14 : Dc cX7_set 14 (.ireturn) 1 15 := by decide +kernel
theorem d_X7_set_15 : Dc cX7_set 15 (.aload_n 0) 1 16 := by decide +kernel
theorem d_X7_set_16 : Dc cX7_set 16 (.getfield 16) 3 19 := by decide +kernel
theorem d_X7_set_19 : Dc cX7_set 19 (.iload_n 1) 1 20 := by decide +kernel
theorem d_X7_set_20 : Dc cX7_set 20 (.iaload) 1 21 := by decide +kernel
theorem d_X7_set_21 : Dq cX7_set 21 (.ifCond .ge) 30 24 := by decide +kernel
theorem d_X7_set_24 : Dc cX7_set 24 (.aload_n 0) 1 25 := by decide +kernel
theorem d_X7_set_25 : Dc cX7_set 25 (.iconst 1) 1 26 := by decide +kernel
theorem d_X7_set_26 : Dc cX7_set 26 (.invokevirtual 79) 3 29 := by decide +kernel
theorem d_X7_set_29 : Dc cX7_set 29 (.ireturn) 1 30 := by decide +kernel
theorem d_X7_set_30 : Dc cX7_set 30 (.iload_n 2) 1 31 := by decide +kernel
theorem d_X7_set_31 : Dc cX7_set 31 (.iconst 0) 1 32 := by decide +kernel
theorem d_X7_set_32 : Dc cX7_set 32 (.aload_n 0) 1 33 := by decide +kernel
theorem d_X7_set_33 : Dc cX7_set 33 (.getfield 16) 3 36 := by decide +kernel
theorem d_X7_set_36 : Dc cX7_set 36 (.iload_n 1) 1 37 := by decide +kernel
theorem d_X7_set_37 : Dc cX7_set 37 (.iaload) 1 38 := by decide +kernel
theorem d_X7_set_38 : Dc cX7_set 38 (.iconst 1) 1 39 := by decide +kernel
theorem d_X7_set_39 : Dc cX7_set 39 (.isub) 1 40 := by decide +kernel
theorem d_X7_set_40 : Dc cX7_set 40 (.invokestatic 70) 3 43 := by decide +kernel
theorem d_X7_set_43 : Dq cX7_set 43 (.ifCond .ne) 52 46 := by decide +kernel
theorem d_X7_set_46 : Dc cX7_set 46 (.aload_n 0) 1 47 := by decide +kernel
theorem d_X7_set_47 : Dc cX7_set 47 (.iconst 2) 1 48 := by decide +kernel
theorem d_X7_set_48 : Dc cX7_set 48 (.invokevirtual 79) 3 51 := by decide +kernel
theorem d_X7_set_51 : Dc cX7_set 51 (.ireturn) 1 52 := by decide +kernel
theorem d_X7_set_52 : Dc cX7_set 52 (.aload_n 0) 1 53 := by decide +kernel
theorem d_X7_set_53 : Dc cX7_set 53 (.getfield 13) 3 56 := by decide +kernel
theorem d_X7_set_56 : Dc cX7_set 56 (.iload_n 1) 1 57 := by decide +kernel
theorem d_X7_set_57 : Dc cX7_set 57 (.iaload) 1 58 := by decide +kernel
theorem d_X7_set_58 : Dq cX7_set 58 (.ifCond .ne) 66 61 := by decide +kernel
theorem d_X7_set_61 : Dc cX7_set 61 (.iload_n 3) 1 62 := by decide +kernel
theorem d_X7_set_62 : Dc cX7_set 62 (.i2b) 1 63 := by decide +kernel
theorem d_X7_set_63 : Dq cX7_set 63 (.goto) 82 66 := by decide +kernel
theorem d_X7_set_66 : Dc cX7_set 66 (.aload_n 0) 1 67 := by decide +kernel
theorem d_X7_set_67 : Dc cX7_set 67 (.getfield 13) 3 70 := by decide +kernel
theorem d_X7_set_70 : Dc cX7_set 70 (.iload_n 1) 1 71 := by decide +kernel
theorem d_X7_set_71 : Dc cX7_set 71 (.iaload) 1 72 := by decide +kernel
theorem d_X7_set_72 : Dc cX7_set 72 (.iconst 1) 1 73 := by decide +kernel
theorem d_X7_set_73 : Dq cX7_set 73 (.if_icmp .ne) 81 76 := by decide +kernel
theorem d_X7_set_76 : Dc cX7_set 76 (.iload_n 3) 1 77 := by decide +kernel
theorem d_X7_set_77 : Dc cX7_set 77 (.i2s) 1 78 := by decide +kernel
theorem d_X7_set_78 : Dq cX7_set 78 (.goto) 82 81 := by decide +kernel
theorem d_X7_set_81 : Dc cX7_set 81 (.iload_n 3) 1 82 := by decide +kernel
theorem d_X7_set_82 : Dc cX7_set 82 (.istore 4) 2 84 := by decide +kernel
theorem d_X7_set_84 : Dc cX7_set 84 (.aload_n 0) 1 85 := by decide +kernel
theorem d_X7_set_85 : Dc cX7_set 85 (.getfield 7) 3 88 := by decide +kernel
theorem d_X7_set_88 : Dc cX7_set 88 (.bipush 40) 2 90 := by decide +kernel
theorem d_X7_set_90 : Dc cX7_set 90 (.iload_n 1) 1 91 := by decide +kernel
theorem d_X7_set_91 : Dc cX7_set 91 (.imul) 1 92 := by decide +kernel
theorem d_X7_set_92 : Dc cX7_set 92 (.iload_n 2) 1 93 := by decide +kernel
theorem d_X7_set_93 : Dc cX7_set 93 (.iadd) 1 94 := by decide +kernel
theorem d_X7_set_94 : Dc cX7_set 94 (.iload 4) 2 96 := by decide +kernel
theorem d_X7_set_96 : Dc cX7_set 96 (.iastore) 1 97 := by decide +kernel
theorem d_X7_set_97 : Dc cX7_set 97 (.aload_n 0) 1 98 := by decide +kernel
theorem d_X7_set_98 : Dc cX7_set 98 (.iload 4) 2 100 := by decide +kernel
theorem d_X7_set_100 : Dc cX7_set 100 (.invokevirtual 83) 3 103 := by decide +kernel
theorem d_X7_set_103 : Dc cX7_set 103 (.ireturn) 1 104 := by decide +kernel
theorem d_X7_isPart_0 : Dc cX7_isPart 0 (.iload_n 3) 1 1 := by decide +kernel
theorem d_X7_isPart_1 : Dq cX7_isPart 1 (.ifCond .lt) 34 4 := by decide +kernel
theorem d_X7_isPart_4 : Dc cX7_isPart 4 (.iload_n 2) 1 5 := by decide +kernel
theorem d_X7_isPart_5 : Dc cX7_isPart 5 (.iconst 0) 1 6 := by decide +kernel
theorem d_X7_isPart_6 : Dc cX7_isPart 6 (.aload_n 0) 1 7 := by decide +kernel
theorem d_X7_isPart_7 : Dc cX7_isPart 7 (.getfield 16) 3 10 := by decide +kernel
theorem d_X7_isPart_10 : Dc cX7_isPart 10 (.iload_n 1) 1 11 := by decide +kernel
theorem d_X7_isPart_11 : Dc cX7_isPart 11 (.iaload) 1 12 := by decide +kernel
theorem d_X7_isPart_12 : Dc cX7_isPart 12 (.invokestatic 70) 3 15 := by decide +kernel
theorem d_X7_isPart_15 : Dq cX7_isPart 15 (.ifCond .eq) 34 18 := by decide +kernel
theorem d_X7_isPart_18 : Dc cX7_isPart 18 (.iload_n 3) 1 19 := by decide +kernel
theorem d_X7_isPart_19 : Dc cX7_isPart 19 (.aload_n 0) 1 20 := by decide +kernel
theorem d_X7_isPart_20 : Dc cX7_isPart 20 (.getfield 16) 3 23 := by decide +kernel
theorem d_X7_isPart_23 : Dc cX7_isPart 23 (.iload_n 1) 1 24 := by decide +kernel
theorem d_X7_isPart_24 : Dc cX7_isPart 24 (.iaload) 1 25 := by decide +kernel
theorem d_X7_isPart_25 : Dc cX7_isPart 25 (.iload_n 2) 1 26 := by decide +kernel
theorem d_X7_isPart_26 : Dc cX7_isPart 26 (.isub) 1 27 := by decide +kernel
theorem d_X7_isPart_27 : Dq cX7_isPart 27 (.if_icmp .gt) 34 30 := by decide +kernel
theorem d_X7_isPart_30 : Dc cX7_isPart 30 (.iconst 1) 1 31 := by decide +kernel
theorem d_X7_isPart_31 : Dq cX7_isPart 31 (.goto) 35 34 := by decide +kernel
theorem d_X7_isPart_34 : Dc cX7_isPart 34 (.iconst 0) 1 35 := by decide +kernel
theorem d_X7_isPart_35 : Dc cX7_isPart 35 (.ireturn) 1 36 := by decide +kernel
theorem d_X7_copy_0 : Dc cX7_copy 0 (.aload_n 0) 1 1 := by decide +kernel
theorem d_X7_copy_1 : Dc cX7_copy 1 (.iconst 0) 1 2 := by decide +kernel
theorem d_X7_copy_2 : Dc cX7_copy 2 (.putfield 62) 3 5 := by decide +kernel
theorem d_X7_copy_5 : Dc cX7_copy 5 (.iload_n 1) 1 6 := by decide +kernel
theorem d_X7_copy_6 : Dc cX7_copy 6 (.invokestatic 74) 3 9 := by decide +kernel
theorem d_X7_copy_9 : Dq cX7_copy 9 (.ifCond .eq) 19 12 := by decide +kernel
theorem d_X7_copy_12 : Dc cX7_copy 12 (.iload_n 3) 1 13 := by decide +kernel
theorem d_X7_copy_13 : Dc cX7_copy 13 (.invokestatic 74) 3 16 := by decide +kernel
theorem d_X7_copy_16 : Dq cX7_copy 16 (.ifCond .ne) 22 19 := by decide +kernel
theorem d_X7_copy_19 : Dc cX7_copy 19 (.ldc 78) 2 21 := by decide +kernel
theorem d_X7_copy_21 : Dc cX7_copy 21 (.ireturn) 1 22 := by decide +kernel
theorem d_X7_copy_22 : Dc cX7_copy 22 (.aload_n 0) 1 23 := by decide +kernel
theorem d_X7_copy_23 : Dc cX7_copy 23 (.getfield 16) 3 26 := by decide +kernel
theorem d_X7_copy_26 : Dc cX7_copy 26 (.iload_n 1) 1 27 := by decide +kernel
theorem d_X7_copy_27 : Dc cX7_copy 27 (.iaload) 1 28 := by decide +kernel
theorem d_X7_copy_28 : Dq cX7_copy 28 (.ifCond .lt) 40 31 := by decide +kernel
theorem d_X7_copy_31 : Dc cX7_copy 31 (.aload_n 0) 1 32 := by decide +kernel
theorem d_X7_copy_32 : Dc cX7_copy 32 (.getfield 16) 3 35 := by decide +kernel
theorem d_X7_copy_35 : Dc cX7_copy 35 (.iload_n 3) 1 36 := by decide +kernel
theorem d_X7_copy_36 : Dc cX7_copy 36 (.iaload) 1 37 := by decide +kernel
theorem d_X7_copy_37 : Dq cX7_copy 37 (.ifCond .ge) 46 40 := by decide +kernel
theorem d_X7_copy_40 : Dc cX7_copy 40 (.aload_n 0) 1 41 := by decide +kernel
theorem d_X7_copy_41 : Dc cX7_copy 41 (.iconst 1) 1 42 := by decide +kernel
theorem d_X7_copy_42 : Dc cX7_copy 42 (.invokevirtual 79) 3 45 := by decide +kernel
theorem d_X7_copy_45 : Dc cX7_copy 45 (.ireturn) 1 46 := by decide +kernel
theorem d_X7_copy_46 : Dc cX7_copy 46 (.aload_n 0) 1 47 := by decide +kernel
theorem d_X7_copy_47 : Dc cX7_copy 47 (.getfield 13) 3 50 := by decide +kernel
theorem d_X7_copy_50 : Dc cX7_copy 50 (.iload_n 1) 1 51 := by decide +kernel
theorem d_X7_copy_51 : Dc cX7_copy 51 (.iaload) 1 52 := by decide +kernel
theorem d_X7_copy_52 : Dc cX7_copy 52 (.aload_n 0) 1 53 := by decide +kernel
theorem d_X7_copy_53 : Dc cX7_copy 53 (.getfield 13) 3 56 := by decide +kernel
theorem d_X7_copy_56 : Dc cX7_copy 56 (.iload_n 3) 1 57 := by decide +kernel
theorem d_X7_copy_57 : Dc cX7_copy 57 (.iaload) 1 58 := by decide +kernel
theorem d_X7_copy_58 : Dq cX7_copy 58 (.if_icmp .eq) 67 61 := by decide +kernel
theorem d_X7_copy_61 : Dc cX7_copy 61 (.aload_n 0) 1 62 := by decide +kernel
theorem d_X7_copy_62 : Dc cX7_copy 62 (.iconst 5) 1 63 := by decide +kernel
theorem d_X7_copy_63 : Dc cX7_copy 63 (.invokevirtual 79) 3 66 := by decide +kernel
theorem d_X7_copy_66 : Dc cX7_copy 66 (.ireturn) 1 67 := by decide +kernel
theorem d_X7_copy_67 : Dc cX7_copy 67 (.aload_n 0) 1 68 := by decide +kernel
theorem d_X7_copy_68 : Dc cX7_copy 68 (.iload_n 1) 1 69 := by decide +kernel
theorem d_X7_copy_69 : Dc cX7_copy 69 (.iload_n 2) 1 70 := by decide +kernel
theorem d_X7_copy_70 : Dc cX7_copy 70 (.iload 5) 2 72 := by decide +kernel
theorem d_X7_copy_72 : Dc cX7_copy 72 (.invokevirtual 86) 3 75 := by decide +kernel
theorem d_X7_copy_75 : Dq cX7_copy 75 (.ifCond .eq) 90 78 := by decide +kernel
theorem d_X7_copy_78 : Dc cX7_copy 78 (.aload_n 0) 1 79 := by decide +kernel
theorem d_X7_copy_79 : Dc cX7_copy 79 (.iload_n 3) 1 80 := by decide +kernel
theorem d_X7_copy_80 : Dc cX7_copy 80 (.iload 4) 2 82 := by decide +kernel
theorem d_X7_copy_82 : Dc cX7_copy 82 (.iload 5) 2 84 := by decide +kernel
theorem d_X7_copy_84 : Dc cX7_copy 84 (.invokevirtual 86) 3 87 := by decide +kernel
theorem d_X7_copy_87 : Dq cX7_copy 87 (.ifCond .ne) 96 90 := by decide +kernel
theorem d_X7_copy_90 : Dc cX7_copy 90 (.aload_n 0) 1 91 := by decide +kernel
theorem d_X7_copy_91 : Dc cX7_copy 91 (.iconst 2) 1 92 := by decide +kernel
theorem d_X7_copy_92 : Dc cX7_copy 92 (.invokevirtual 79) 3 95 := by decide +kernel
theorem d_X7_copy_95 : Dc cX7_copy 95 (.ireturn) 1 96 := by decide +kernel
theorem d_X7_copy_96 : Dc cX7_copy 96 (.bipush 40) 2 98 := by decide +kernel
theorem d_X7_copy_98 : Dc cX7_copy 98 (.iload_n 1) 1 99 := by decide +kernel
theorem d_X7_copy_99 : Dc cX7_copy 99 (.imul) 1 100 := by decide +kernel
theorem d_X7_copy_100 : Dc cX7_copy 100 (.iload_n 2) 1 101 := by decide +kernel
theorem d_X7_copy_101 : Dc cX7_copy 101 (.iadd) 1 102 := by decide +kernel
theorem d_X7_copy_102 : Dc cX7_copy 102 (.istore 6) 2 104 := by decide +kernel
theorem d_X7_copy_104 : Dc cX7_copy 104 (.bipush 40) 2 106 := by decide +kernel
theorem d_X7_copy_106 : Dc cX7_copy 106 (.iload_n 3) 1 107 := by decide +kernel
theorem d_X7_copy_107 : Dc cX7_copy 107 (.imul) 1 108 := by decide +kernel
theorem d_X7_copy_108 : Dc cX7_copy 108 (.iload 4) 2 110 := by decide +kernel
theorem d_X7_copy_110 : Dc cX7_copy 110 (.iadd) 1 111 := by decide +kernel
theorem d_X7_copy_111 : Dc cX7_copy 111 (.istore 7) 2 113 := by decide +kernel
theorem d_X7_copy_113 : Dc cX7_copy 113 (.iconst 0) 1 114 := by decide +kernel
theorem d_X7_copy_114 : Dc cX7_copy 114 (.istore 8) 2 116 := by decide +kernel
theorem d_X7_copy_116 : Dc cX7_copy 116 (.iload 8) 2 118 := by decide +kernel
theorem d_X7_copy_118 : Dc cX7_copy 118 (.iload 5) 2 120 := by decide +kernel
theorem d_X7_copy_120 : Dq cX7_copy 120 (.if_icmp .ge) 170 123 := by decide +kernel
theorem d_X7_copy_123 : Dc cX7_copy 123 (.iload 7) 2 125 := by decide +kernel
theorem d_X7_copy_125 : Dc cX7_copy 125 (.iload 6) 2 127 := by decide +kernel
theorem d_X7_copy_127 : Dq cX7_copy 127 (.if_icmp .le) 140 130 := by decide +kernel
theorem d_X7_copy_130 : Dc cX7_copy 130 (.iload 5) 2 132 := by decide +kernel
theorem d_X7_copy_132 : Dc cX7_copy 132 (.iconst 1) 1 133 := by decide +kernel
theorem d_X7_copy_133 : Dc cX7_copy 133 (.isub) 1 134 := by decide +kernel
theorem d_X7_copy_134 : Dc cX7_copy 134 (.iload 8) 2 136 := by decide +kernel
theorem d_X7_copy_136 : Dc cX7_copy 136 (.isub) 1 137 := by decide +kernel
theorem d_X7_copy_137 : Dq cX7_copy 137 (.goto) 142 140 := by decide +kernel
theorem d_X7_copy_140 : Dc cX7_copy 140 (.iload 8) 2 142 := by decide +kernel
theorem d_X7_copy_142 : Dc cX7_copy 142 (.istore 9) 2 144 := by decide +kernel
theorem d_X7_copy_144 : Dc cX7_copy 144 (.aload_n 0) 1 145 := by decide +kernel
theorem d_X7_copy_145 : Dc cX7_copy 145 (.getfield 7) 3 148 := by decide +kernel
theorem d_X7_copy_148 : Dc cX7_copy 148 (.iload 7) 2 150 := by decide +kernel
theorem d_X7_copy_150 : Dc cX7_copy 150 (.iload 9) 2 152 := by decide +kernel
theorem d_X7_copy_152 : Dc cX7_copy 152 (.iadd) 1 153 := by decide +kernel
theorem d_X7_copy_153 : Dc cX7_copy 153 (.aload_n 0) 1 154 := by decide +kernel
theorem d_X7_copy_154 : Dc cX7_copy 154 (.getfield 7) 3 157 := by decide +kernel
theorem d_X7_copy_157 : Dc cX7_copy 157 (.iload 6) 2 159 := by decide +kernel
theorem d_X7_copy_159 : Dc cX7_copy 159 (.iload 9) 2 161 := by decide +kernel
theorem d_X7_copy_161 : Dc cX7_copy 161 (.iadd) 1 162 := by decide +kernel
theorem d_X7_copy_162 : Dc cX7_copy 162 (.iaload) 1 163 := by decide +kernel
theorem d_X7_copy_163 : Dc cX7_copy 163 (.iastore) 1 164 := by decide +kernel
theorem d_X7_copy_164 : Dc cX7_copy 164 (.iinc 8 1) 3 167 := by decide +kernel
theorem d_X7_copy_167 : Dq cX7_copy 167 (.goto) 116 170 := by decide +kernel
theorem d_X7_copy_170 : Dc cX7_copy 170 (.aload_n 0) 1 171 := by decide +kernel
theorem d_X7_copy_171 : Dc cX7_copy 171 (.iload 5) 2 173 := by decide +kernel
theorem d_X7_copy_173 : Dc cX7_copy 173 (.invokevirtual 83) 3 176 := by decide +kernel
theorem d_X7_copy_176 : Dc cX7_copy 176 (.ireturn) 1 177 := by decide +kernel
theorem d_X7_drop_0 : Dc cX7_drop 0 (.aload_n 0) 1 1 := by decide +kernel
theorem d_X7_drop_1 : Dc cX7_drop 1 (.iconst 0) 1 2 := by decide +kernel
theorem d_X7_drop_2 : Dc cX7_drop 2 (.putfield 62) 3 5 := by decide +kernel
theorem d_X7_drop_5 : Dc cX7_drop 5 (.iload_n 1) 1 6 := by decide +kernel
theorem d_X7_drop_6 : Dc cX7_drop 6 (.invokestatic 74) 3 9 := by decide +kernel
theorem d_X7_drop_9 : Dq cX7_drop 9 (.ifCond .ne) 15 12 := by decide +kernel
theorem d_X7_drop_12 : Dc cX7_drop 12 (.ldc 78) 2 14 := by decide +kernel
theorem d_X7_drop_14 : Dc cX7_drop 14 (.ireturn) 1 15 := by decide +kernel
theorem d_X7_drop_15 : Dc cX7_drop 15 (.aload_n 0) 1 16 := by decide +kernel
theorem d_X7_drop_16 : Dc cX7_drop 16 (.getfield 16) 3 19 := by decide +kernel
theorem d_X7_drop_19 : Dc cX7_drop 19 (.iload_n 1) 1 20 := by decide +kernel
theorem d_X7_drop_20 : Dc cX7_drop 20 (.iaload) 1 21 := by decide +kernel
theorem d_X7_drop_21 : Dq cX7_drop 21 (.ifCond .ge) 30 24 := by decide +kernel
theorem d_X7_drop_24 : Dc cX7_drop 24 (.aload_n 0) 1 25 := by decide +kernel
theorem d_X7_drop_25 : Dc cX7_drop 25 (.iconst 1) 1 26 := by decide +kernel
theorem d_X7_drop_26 : Dc cX7_drop 26 (.invokevirtual 79) 3 29 := by decide +kernel
theorem d_X7_drop_29 : Dc cX7_drop 29 (.ireturn) 1 30 := by decide +kernel
theorem d_X7_drop_30 : Dc cX7_drop 30 (.aload_n 0) 1 31 := by decide +kernel
theorem d_X7_drop_31 : Dc cX7_drop 31 (.getfield 16) 3 34 := by decide +kernel
theorem d_X7_drop_34 : Dc cX7_drop 34 (.iload_n 1) 1 35 := by decide +kernel
theorem d_X7_drop_35 : Dc cX7_drop 35 (.iaload) 1 36 := by decide +kernel
theorem d_X7_drop_36 : Dc cX7_drop 36 (.istore_n 2) 1 37 := by decide +kernel
theorem d_X7_drop_37 : Dc cX7_drop 37 (.aload_n 0) 1 38 := by decide +kernel
theorem d_X7_drop_38 : Dc cX7_drop 38 (.getfield 16) 3 41 := by decide +kernel
theorem d_X7_drop_41 : Dc cX7_drop 41 (.iload_n 1) 1 42 := by decide +kernel
theorem d_X7_drop_42 : Dc cX7_drop 42 (.iconst (-1)) 1 43 := by decide +kernel
theorem d_X7_drop_43 : Dc cX7_drop 43 (.iastore) 1 44 := by decide +kernel
theorem d_X7_drop_44 : Dc cX7_drop 44 (.aload_n 0) 1 45 := by decide +kernel
theorem d_X7_drop_45 : Dc cX7_drop 45 (.iload_n 2) 1 46 := by decide +kernel
theorem d_X7_drop_46 : Dc cX7_drop 46 (.invokevirtual 83) 3 49 := by decide +kernel
theorem d_X7_drop_49 : Dc cX7_drop 49 (.ireturn) 1 50 := by decide +kernel
theorem d_X7_feed_0 : Dc cX7_feed 0 (.aload_n 0) 1 1 := by decide +kernel
theorem d_X7_feed_1 : Dc cX7_feed 1 (.iconst 0) 1 2 := by decide +kernel
theorem d_X7_feed_2 : Dc cX7_feed 2 (.putfield 62) 3 5 := by decide +kernel
theorem d_X7_feed_5 : Dc cX7_feed 5 (.iload_n 1) 1 6 := by decide +kernel
theorem d_X7_feed_6 : Dc cX7_feed 6 (.iconst 0) 1 7 := by decide +kernel
theorem d_X7_feed_7 : Dc cX7_feed 7 (.sipush 255) 3 10 := by decide +kernel
theorem d_X7_feed_10 : Dc cX7_feed 10 (.invokestatic 70) 3 13 := by decide +kernel
theorem d_X7_feed_13 : Dq cX7_feed 13 (.ifCond .ne) 19 16 := by decide +kernel
theorem d_X7_feed_16 : Dc cX7_feed 16 (.ldc 78) 2 18 := by decide +kernel
theorem d_X7_feed_18 : Dc cX7_feed 18 (.ireturn) 1 19 := by decide +kernel
theorem d_X7_feed_19 : Dc cX7_feed 19 (.aload_n 0) 1 20 := by decide +kernel
theorem d_X7_feed_20 : Dc cX7_feed 20 (.getfield 89) 3 23 := by decide +kernel
theorem d_X7_feed_23 : Dc cX7_feed 23 (.bipush 110) 2 25 := by decide +kernel
theorem d_X7_feed_25 : Dq cX7_feed 25 (.if_icmp .ne) 31 28 := by decide +kernel
theorem d_X7_feed_28 : Dc cX7_feed 28 (.ldc 92) 2 30 := by decide +kernel
theorem d_X7_feed_30 : Dc cX7_feed 30 (.ireturn) 1 31 := by decide +kernel
theorem d_X7_feed_31 : Dc cX7_feed 31 (.aload_n 0) 1 32 := by decide +kernel
theorem d_X7_feed_32 : Dc cX7_feed 32 (.getfield 19) 3 35 := by decide +kernel
theorem d_X7_feed_35 : Dc cX7_feed 35 (.aload_n 0) 1 36 := by decide +kernel
theorem d_X7_feed_36 : Dc cX7_feed 36 (.getfield 89) 3 39 := by decide +kernel
theorem d_X7_feed_39 : Dc cX7_feed 39 (.iload_n 1) 1 40 := by decide +kernel
theorem d_X7_feed_40 : Dc cX7_feed 40 (.iastore) 1 41 := by decide +kernel
theorem d_X7_feed_41 : Dc cX7_feed 41 (.aload_n 0) 1 42 := by decide +kernel
theorem d_X7_feed_42 : Dc cX7_feed 42 (.dup) 1 43 := by decide +kernel
theorem d_X7_feed_43 : Dc cX7_feed 43 (.getfield 89) 3 46 := by decide +kernel
theorem d_X7_feed_46 : Dc cX7_feed 46 (.iconst 1) 1 47 := by decide +kernel
theorem d_X7_feed_47 : Dc cX7_feed 47 (.iadd) 1 48 := by decide +kernel
theorem d_X7_feed_48 : Dc cX7_feed 48 (.putfield 89) 3 51 := by decide +kernel
theorem d_X7_feed_51 : Dc cX7_feed 51 (.aload_n 0) 1 52 := by decide +kernel
theorem d_X7_feed_52 : Dc cX7_feed 52 (.getfield 89) 3 55 := by decide +kernel
theorem d_X7_feed_55 : Dc cX7_feed 55 (.ireturn) 1 56 := by decide +kernel
theorem d_X7_letterAt_0 : Dc cX7_letterAt 0 (.iload_n 1) 1 1 := by decide +kernel
theorem d_X7_letterAt_1 : Dc cX7_letterAt 1 (.aload_n 0) 1 2 := by decide +kernel
theorem d_X7_letterAt_2 : Dc cX7_letterAt 2 (.getfield 89) 3 5 := by decide +kernel
theorem d_X7_letterAt_5 : Dq cX7_letterAt 5 (.if_icmp .ge) 17 8 := by decide +kernel
theorem d_X7_letterAt_8 : Dc cX7_letterAt 8 (.aload_n 0) 1 9 := by decide +kernel
theorem d_X7_letterAt_9 : Dc cX7_letterAt 9 (.getfield 19) 3 12 := by decide +kernel
theorem d_X7_letterAt_12 : Dc cX7_letterAt 12 (.iload_n 1) 1 13 := by decide +kernel
theorem d_X7_letterAt_13 : Dc cX7_letterAt 13 (.iaload) 1 14 := by decide +kernel
theorem d_X7_letterAt_14 : Dq cX7_letterAt 14 (.goto) 18 17 := by decide +kernel
theorem d_X7_letterAt_17 : Dc cX7_letterAt 17 (.iconst (-1)) 1 18 := by decide +kernel
theorem d_X7_letterAt_18 : Dc cX7_letterAt 18 (.ireturn) 1 19 := by decide +kernel
theorem d_X7_advances_0 : Dc cX7_advances 0 (.aload_n 0) 1 1 := by decide +kernel
theorem d_X7_advances_1 : Dc cX7_advances 1 (.aload_n 0) 1 2 := by decide +kernel
theorem d_X7_advances_2 : Dc cX7_advances 2 (.getfield 93) 3 5 := by decide +kernel
theorem d_X7_advances_5 : Dc cX7_advances 5 (.putfield 96) 3 8 := by decide +kernel
theorem d_X7_advances_8 : Dc cX7_advances 8 (.aload_n 0) 1 9 := by decide +kernel
theorem d_X7_advances_9 : Dc cX7_advances 9 (.aload_n 0) 1 10 := by decide +kernel
theorem d_X7_advances_10 : Dc cX7_advances 10 (.getfield 93) 3 13 := by decide +kernel
theorem d_X7_advances_13 : Dc cX7_advances 13 (.invokevirtual 99) 3 16 := by decide +kernel
theorem d_X7_advances_16 : Dc cX7_advances 16 (.istore_n 1) 1 17 := by decide +kernel
theorem d_X7_advances_17 : Dc cX7_advances 17 (.aload_n 0) 1 18 := by decide +kernel
theorem d_X7_advances_18 : Dc cX7_advances 18 (.iload_n 1) 1 19 := by decide +kernel
theorem d_X7_advances_19 : Dc cX7_advances 19 (.putfield 102) 3 22 := by decide +kernel
theorem d_X7_advances_22 : Dc cX7_advances 22 (.iload_n 1) 1 23 := by decide +kernel
theorem d_X7_advances_23 : Dq cX7_advances 23 (.ifCond .ge) 34 26 := by decide +kernel
theorem d_X7_advances_26 : Dc cX7_advances 26 (.aload_n 0) 1 27 := by decide +kernel
theorem d_X7_advances_27 : Dc cX7_advances 27 (.iconst 0) 1 28 := by decide +kernel
theorem d_X7_advances_28 : Dc cX7_advances 28 (.putfield 105) 3 31 := by decide +kernel
theorem d_X7_advances_31 : Dq cX7_advances 31 (.goto) 192 34 := by decide +kernel
theorem d_X7_advances_34 : Dc cX7_advances 34 (.iload_n 1) 1 35 := by decide +kernel
theorem d_X7_advances_35 : Dc cX7_advances 35 (.bipush 48) 2 37 := by decide +kernel
theorem d_X7_advances_37 : Dc cX7_advances 37 (.bipush 57) 2 39 := by decide +kernel
theorem d_X7_advances_39 : Dc cX7_advances 39 (.invokestatic 70) 3 42 := by decide +kernel
theorem d_X7_advances_42 : Dq cX7_advances 42 (.ifCond .eq) 146 45 := by decide +kernel
theorem d_X7_advances_45 : Dc cX7_advances 45 (.aload_n 0) 1 46 := by decide +kernel
theorem d_X7_advances_46 : Dc cX7_advances 46 (.iconst 0) 1 47 := by decide +kernel
theorem d_X7_advances_47 : Dc cX7_advances 47 (.putfield 102) 3 50 := by decide +kernel
theorem d_X7_advances_50 : Dc cX7_advances 50 (.aload_n 0) 1 51 := by decide +kernel
theorem d_X7_advances_51 : Dc cX7_advances 51 (.aload_n 0) 1 52 := by decide +kernel
theorem d_X7_advances_52 : Dc cX7_advances 52 (.getfield 93) 3 55 := by decide +kernel
theorem d_X7_advances_55 : Dc cX7_advances 55 (.invokevirtual 99) 3 58 := by decide +kernel
theorem d_X7_advances_58 : Dc cX7_advances 58 (.bipush 48) 2 60 := by decide +kernel
theorem d_X7_advances_60 : Dc cX7_advances 60 (.bipush 57) 2 62 := by decide +kernel
theorem d_X7_advances_62 : Dc cX7_advances 62 (.invokestatic 70) 3 65 := by decide +kernel
theorem d_X7_advances_65 : Dq cX7_advances 65 (.ifCond .eq) 121 68 := by decide +kernel
theorem d_X7_advances_68 : Dc cX7_advances 68 (.aload_n 0) 1 69 := by decide +kernel
theorem d_X7_advances_69 : Dc cX7_advances 69 (.aload_n 0) 1 70 := by decide +kernel
theorem d_X7_advances_70 : Dc cX7_advances 70 (.getfield 102) 3 73 := by decide +kernel
theorem d_X7_advances_73 : Dc cX7_advances 73 (.sipush 999) 3 76 := by decide +kernel
theorem d_X7_advances_76 : Dq cX7_advances 76 (.if_icmp .le) 86 79 := by decide +kernel
theorem d_X7_advances_79 : Dc cX7_advances 79 (.aload_n 0) 1 80 := by decide +kernel
theorem d_X7_advances_80 : Dc cX7_advances 80 (.getfield 102) 3 83 := by decide +kernel
theorem d_X7_advances_83 : Dq cX7_advances 83 (.goto) 105 86 := by decide +kernel
theorem d_X7_advances_86 : Dc cX7_advances 86 (.bipush 10) 2 88 := by decide +kernel
theorem d_X7_advances_88 : Dc cX7_advances 88 (.aload_n 0) 1 89 := by decide +kernel
theorem d_X7_advances_89 : Dc cX7_advances 89 (.getfield 102) 3 92 := by decide +kernel
theorem d_X7_advances_92 : Dc cX7_advances 92 (.imul) 1 93 := by decide +kernel
theorem d_X7_advances_93 : Dc cX7_advances 93 (.aload_n 0) 1 94 := by decide +kernel
theorem d_X7_advances_94 : Dc cX7_advances 94 (.aload_n 0) 1 95 := by decide +kernel
theorem d_X7_advances_95 : Dc cX7_advances 95 (.getfield 93) 3 98 := by decide +kernel
theorem d_X7_advances_98 : Dc cX7_advances 98 (.invokevirtual 99) 3 101 := by decide +kernel
theorem d_X7_advances_101 : Dc cX7_advances 101 (.iadd) 1 102 := by decide +kernel
theorem d_X7_advances_102 : Dc cX7_advances 102 (.bipush 48) 2 104 := by decide +kernel
theorem d_X7_advances_104 : Dc cX7_advances 104 (.isub) 1 105 := by decide +kernel
theorem d_X7_advances_105 : Dc cX7_advances 105 (.putfield 102) 3 108 := by decide +kernel
theorem d_X7_advances_108 : Dc cX7_advances 108 (.aload_n 0) 1 109 := by decide +kernel
theorem d_X7_advances_109 : Dc cX7_advances 109 (.dup) 1 110 := by decide +kernel
theorem d_X7_advances_110 : Dc cX7_advances 110 (.getfield 93) 3 113 := by decide +kernel
theorem d_X7_advances_113 : Dc cX7_advances 113 (.iconst 1) 1 114 := by decide +kernel
theorem d_X7_advances_114 : Dc cX7_advances 114 (.iadd) 1 115 := by decide +kernel
theorem d_X7_advances_115 : Dc cX7_advances 115 (.putfield 93) 3 118 := by decide +kernel
theorem d_X7_advances_118 : Dq cX7_advances 118 (.goto) 50 121 := by decide +kernel
theorem d_X7_advances_121 : Dc cX7_advances 121 (.aload_n 0) 1 122 := by decide +kernel
theorem d_X7_advances_122 : Dc cX7_advances 122 (.aload_n 0) 1 123 := by decide +kernel
theorem d_X7_advances_123 : Dc cX7_advances 123 (.getfield 93) 3 126 := by decide +kernel
theorem d_X7_advances_126 : Dc cX7_advances 126 (.aload_n 0) 1 127 := by decide +kernel
theorem d_X7_advances_127 : Dc cX7_advances 127 (.getfield 96) 3 130 := by decide +kernel
theorem d_X7_advances_130 : Dc cX7_advances 130 (.isub) 1 131 := by decide +kernel
theorem d_X7_advances_131 : Dc cX7_advances 131 (.iconst 2) 1 132 := by decide +kernel
theorem d_X7_advances_132 : Dq cX7_advances 132 (.if_icmp .le) 139 135 := by decide +kernel
theorem d_X7_advances_135 : Dc cX7_advances 135 (.iconst 4) 1 136 := by decide +kernel
theorem d_X7_advances_136 : Dq cX7_advances 136 (.goto) 140 139 := by decide +kernel
theorem d_X7_advances_139 : Dc cX7_advances 139 (.iconst 2) 1 140 := by decide +kernel
theorem d_X7_advances_140 : Dc cX7_advances 140 (.putfield 105) 3 143 := by decide +kernel
theorem d_X7_advances_143 : Dq cX7_advances 143 (.goto) 192 146 := by decide +kernel
theorem d_X7_advances_146 : Dc cX7_advances 146 (.aload_n 0) 1 147 := by decide +kernel
theorem d_X7_advances_147 : Dc cX7_advances 147 (.dup) 1 148 := by decide +kernel
theorem d_X7_advances_148 : Dc cX7_advances 148 (.getfield 93) 3 151 := by decide +kernel
theorem d_X7_advances_151 : Dc cX7_advances 151 (.iconst 1) 1 152 := by decide +kernel
theorem d_X7_advances_152 : Dc cX7_advances 152 (.iadd) 1 153 := by decide +kernel
theorem d_X7_advances_153 : Dc cX7_advances 153 (.putfield 93) 3 156 := by decide +kernel
theorem d_X7_advances_156 : Dc cX7_advances 156 (.aload_n 0) 1 157 := by decide +kernel
theorem d_X7_advances_157 : Dc cX7_advances 157 (.iload_n 1) 1 158 := by decide +kernel
theorem d_X7_advances_158 : Dc cX7_advances 158 (.bipush 97) 2 160 := by decide +kernel
theorem d_X7_advances_160 : Dc cX7_advances 160 (.bipush 122) 2 162 := by decide +kernel
theorem d_X7_advances_162 : Dc cX7_advances 162 (.invokestatic 70) 3 165 := by decide +kernel
theorem d_X7_advances_165 : Dq cX7_advances 165 (.ifCond .eq) 172 168 := by decide +kernel
theorem d_X7_advances_168 : Dc cX7_advances 168 (.iconst 1) 1 169 := by decide +kernel
theorem d_X7_advances_169 : Dq cX7_advances 169 (.goto) 189 172 := by decide +kernel
theorem d_X7_advances_172 : Dc cX7_advances 172 (.iload_n 1) 1 173 := by decide +kernel
theorem d_X7_advances_173 : Dc cX7_advances 173 (.bipush 44) 2 175 := by decide +kernel
theorem d_X7_advances_175 : Dq cX7_advances 175 (.if_icmp .eq) 184 178 := by decide +kernel
theorem d_X7_advances_178 : Dc cX7_advances 178 (.iload_n 1) 1 179 := by decide +kernel
theorem d_X7_advances_179 : Dc cX7_advances 179 (.bipush 59) 2 181 := by decide +kernel
theorem d_X7_advances_181 : Dq cX7_advances 181 (.if_icmp .ne) 188 184 := by decide +kernel
theorem d_X7_advances_184 : Dc cX7_advances 184 (.iconst 3) 1 185 := by decide +kernel
theorem d_X7_advances_185 : Dq cX7_advances 185 (.goto) 189 188 := by decide +kernel
theorem d_X7_advances_188 : Dc cX7_advances 188 (.iconst 4) 1 189 := by decide +kernel
theorem d_X7_advances_189 : Dc cX7_advances 189 (.putfield 105) 3 192 := by decide +kernel
theorem d_X7_advances_192 : Dc cX7_advances 192 (.return_) 1 193 := by decide +kernel
theorem d_X7_isWell_0 : Dc cX7_isWell 0 (.aload_n 0) 1 1 := by decide +kernel
theorem d_X7_isWell_1 : Dc cX7_isWell 1 (.getfield 108) 3 4 := by decide +kernel
theorem d_X7_isWell_4 : Dq cX7_isWell 4 (.ifCond .ne) 11 7 := by decide +kernel
theorem d_X7_isWell_7 : Dc cX7_isWell 7 (.iconst 1) 1 8 := by decide +kernel
theorem d_X7_isWell_8 : Dq cX7_isWell 8 (.goto) 12 11 := by decide +kernel
theorem d_X7_isWell_11 : Dc cX7_isWell 11 (.iconst 0) 1 12 := by decide +kernel
theorem d_X7_isWell_12 : Dc cX7_isWell 12 (.ireturn) 1 13 := by decide +kernel
theorem d_X7_faulty_0 : Dc cX7_faulty 0 (.aload_n 0) 1 1 := by decide +kernel
theorem d_X7_faulty_1 : Dc cX7_faulty 1 (.invokevirtual 111) 3 4 := by decide +kernel
theorem d_X7_faulty_4 : Dq cX7_faulty 4 (.ifCond .eq) 20 7 := by decide +kernel
theorem d_X7_faulty_7 : Dc cX7_faulty 7 (.aload_n 0) 1 8 := by decide +kernel
theorem d_X7_faulty_8 : Dc cX7_faulty 8 (.iload_n 1) 1 9 := by decide +kernel
theorem d_X7_faulty_9 : Dc cX7_faulty 9 (.putfield 108) 3 12 := by decide +kernel
theorem d_X7_faulty_12 : Dc cX7_faulty 12 (.aload_n 0) 1 13 := by decide +kernel
theorem d_X7_faulty_13 : Dc cX7_faulty 13 (.aload_n 0) 1 14 := by decide +kernel
theorem d_X7_faulty_14 : Dc cX7_faulty 14 (.getfield 96) 3 17 := by decide +kernel
theorem d_X7_faulty_17 : Dc cX7_faulty 17 (.putfield 115) 3 20 := by decide +kernel
theorem d_X7_faulty_20 : Dc cX7_faulty 20 (.return_) 1 21 := by decide +kernel
theorem d_X7_number_0 : Dc cX7_number 0 (.aload_n 0) 1 1 := by decide +kernel
theorem d_X7_number_1 : Dc cX7_number 1 (.invokevirtual 111) 3 4 := by decide +kernel
theorem d_X7_number_4 : Dq cX7_number 4 (.ifCond .ne) 9 7 := by decide +kernel
theorem d_X7_number_7 : Dc cX7_number 7 (.iconst 0) 1 8 := by decide +kernel
theorem d_X7_number_8 : Dc cX7_number 8 (.ireturn) 1 9 := by decide +kernel
theorem d_X7_number_9 : Dc cX7_number 9 (.aload_n 0) 1 10 := by decide +kernel
theorem d_X7_number_10 : Dc cX7_number 10 (.getfield 105) 3 13 := by decide +kernel
theorem d_X7_number_13 : Dc cX7_number 13 (.iconst 2) 1 14 := by decide +kernel
theorem d_X7_number_14 : Dq cX7_number 14 (.if_icmp .eq) 25 17 := by decide +kernel
theorem d_X7_number_17 : Dc cX7_number 17 (.aload_n 0) 1 18 := by decide +kernel
theorem d_X7_number_18 : Dc cX7_number 18 (.iconst 1) 1 19 := by decide +kernel
theorem d_X7_number_19 : Dc cX7_number 19 (.invokevirtual 118) 3 22 := by decide +kernel
theorem d_X7_number_22 : Dq cX7_number 22 (.goto) 42 25 := by decide +kernel
theorem d_X7_number_25 : Dc cX7_number 25 (.aload_n 0) 1 26 := by decide +kernel
theorem d_X7_number_26 : Dc cX7_number 26 (.getfield 102) 3 29 := by decide +kernel
theorem d_X7_number_29 : Dc cX7_number 29 (.iload_n 1) 1 30 := by decide +kernel
theorem d_X7_number_30 : Dc cX7_number 30 (.iload_n 2) 1 31 := by decide +kernel
theorem d_X7_number_31 : Dc cX7_number 31 (.invokestatic 70) 3 34 := by decide +kernel
theorem d_X7_number_34 : Dq cX7_number 34 (.ifCond .ne) 42 37 := by decide +kernel
theorem d_X7_number_37 : Dc cX7_number 37 (.aload_n 0) 1 38 := by decide +kernel
theorem d_X7_number_38 : Dc cX7_number 38 (.iconst 2) 1 39 := by decide +kernel
theorem d_X7_number_39 : Dc cX7_number 39 (.invokevirtual 118) 3 42 := by decide +kernel
theorem d_X7_number_42 : Dc cX7_number 42 (.aload_n 0) 1 43 := by decide +kernel
theorem d_X7_number_43 : Dc cX7_number 43 (.getfield 102) 3 46 := by decide +kernel
theorem d_X7_number_46 : Dc cX7_number 46 (.istore_n 3) 1 47 := by decide +kernel
theorem d_X7_number_47 : Dc cX7_number 47 (.aload_n 0) 1 48 := by decide +kernel
theorem d_X7_number_48 : Dc cX7_number 48 (.invokevirtual 122) 3 51 := by decide +kernel
theorem d_X7_number_51 : Dc cX7_number 51 (.iload_n 3) 1 52 := by decide +kernel
theorem d_X7_number_52 : Dc cX7_number 52 (.ireturn) 1 53 := by decide +kernel
theorem d_X7_takes_0 : Dc cX7_takes 0 (.aload_n 0) 1 1 := by decide +kernel
theorem d_X7_takes_1 : Dc cX7_takes 1 (.invokevirtual 111) 3 4 := by decide +kernel
theorem d_X7_takes_4 : Dq cX7_takes 4 (.ifCond .eq) 32 7 := by decide +kernel
theorem d_X7_takes_7 : Dc cX7_takes 7 (.aload_n 0) 1 8 := by decide +kernel
theorem d_X7_takes_8 : Dc cX7_takes 8 (.getfield 105) 3 11 := by decide +kernel
theorem d_X7_takes_11 : Dc cX7_takes 11 (.iload_n 1) 1 12 := by decide +kernel
theorem d_X7_takes_12 : Dq cX7_takes 12 (.if_icmp .ne) 23 15 := by decide +kernel
theorem d_X7_takes_15 : Dc cX7_takes 15 (.aload_n 0) 1 16 := by decide +kernel
theorem d_X7_takes_16 : Dc cX7_takes 16 (.getfield 102) 3 19 := by decide +kernel
theorem d_X7_takes_19 : Dc cX7_takes 19 (.iload_n 2) 1 20 := by decide +kernel
theorem d_X7_takes_20 : Dq cX7_takes 20 (.if_icmp .eq) 28 23 := by decide +kernel
theorem d_X7_takes_23 : Dc cX7_takes 23 (.aload_n 0) 1 24 := by decide +kernel
theorem d_X7_takes_24 : Dc cX7_takes 24 (.iconst 1) 1 25 := by decide +kernel
theorem d_X7_takes_25 : Dc cX7_takes 25 (.invokevirtual 118) 3 28 := by decide +kernel
theorem d_X7_takes_28 : Dc cX7_takes 28 (.aload_n 0) 1 29 := by decide +kernel
theorem d_X7_takes_29 : Dc cX7_takes 29 (.invokevirtual 122) 3 32 := by decide +kernel
theorem d_X7_takes_32 : Dc cX7_takes 32 (.return_) 1 33 := by decide +kernel
theorem d_X7_kindOf_0 : Dc cX7_kindOf 0 (.iload_n 0) 1 1 := by decide +kernel
theorem d_X7_kindOf_1 : Dc cX7_kindOf 1 (.bipush 119) 2 3 := by decide +kernel
theorem d_X7_kindOf_3 : Dq cX7_kindOf 3 (.if_icmp .ne) 10 6 := by decide +kernel
theorem d_X7_kindOf_6 : Dc cX7_kindOf 6 (.iconst 1) 1 7 := by decide +kernel
theorem d_X7_kindOf_7 : Dq cX7_kindOf 7 (.goto) 51 10 := by decide +kernel
theorem d_X7_kindOf_10 : Dc cX7_kindOf 10 (.iload_n 0) 1 11 := by decide +kernel
theorem d_X7_kindOf_11 : Dc cX7_kindOf 11 (.bipush 113) 2 13 := by decide +kernel
theorem d_X7_kindOf_13 : Dq cX7_kindOf 13 (.if_icmp .ne) 20 16 := by decide +kernel
theorem d_X7_kindOf_16 : Dc cX7_kindOf 16 (.iconst 2) 1 17 := by decide +kernel
theorem d_X7_kindOf_17 : Dq cX7_kindOf 17 (.goto) 51 20 := by decide +kernel
theorem d_X7_kindOf_20 : Dc cX7_kindOf 20 (.iload_n 0) 1 21 := by decide +kernel
theorem d_X7_kindOf_21 : Dc cX7_kindOf 21 (.bipush 103) 2 23 := by decide +kernel
theorem d_X7_kindOf_23 : Dq cX7_kindOf 23 (.if_icmp .ne) 30 26 := by decide +kernel
theorem d_X7_kindOf_26 : Dc cX7_kindOf 26 (.iconst 3) 1 27 := by decide +kernel
theorem d_X7_kindOf_27 : Dq cX7_kindOf 27 (.goto) 51 30 := by decide +kernel
theorem d_X7_kindOf_30 : Dc cX7_kindOf 30 (.iload_n 0) 1 31 := by decide +kernel
theorem d_X7_kindOf_31 : Dc cX7_kindOf 31 (.bipush 100) 2 33 := by decide +kernel
theorem d_X7_kindOf_33 : Dq cX7_kindOf 33 (.if_icmp .ne) 40 36 := by decide +kernel
theorem d_X7_kindOf_36 : Dc cX7_kindOf 36 (.iconst 4) 1 37 := by decide +kernel
theorem d_X7_kindOf_37 : Dq cX7_kindOf 37 (.goto) 51 40 := by decide +kernel
theorem d_X7_kindOf_40 : Dc cX7_kindOf 40 (.iload_n 0) 1 41 := by decide +kernel
theorem d_X7_kindOf_41 : Dc cX7_kindOf 41 (.bipush 115) 2 43 := by decide +kernel
theorem d_X7_kindOf_43 : Dq cX7_kindOf 43 (.if_icmp .ne) 50 46 := by decide +kernel
theorem d_X7_kindOf_46 : Dc cX7_kindOf 46 (.iconst 5) 1 47 := by decide +kernel
theorem d_X7_kindOf_47 : Dq cX7_kindOf 47 (.goto) 51 50 := by decide +kernel
theorem d_X7_kindOf_50 : Dc cX7_kindOf 50 (.iconst 0) 1 51 := by decide +kernel
theorem d_X7_kindOf_51 : Dc cX7_kindOf 51 (.ireturn) 1 52 := by decide +kernel
theorem d_X7_readsMachine_0 : Dc cX7_readsMachine 0 (.aload_n 0) 1 1 := by decide +kernel
theorem d_X7_readsMachine_1 : Dc cX7_readsMachine 1 (.getfield 22) 3 4 := by decide +kernel
theorem d_X7_readsMachine_4 : Dc cX7_readsMachine 4 (.iconst 0) 1 5 := by decide +kernel
theorem d_X7_readsMachine_5 : Dc cX7_readsMachine 5 (.iaload) 1 6 := by decide +kernel
theorem d_X7_readsMachine_6 : Dc cX7_readsMachine 6 (.istore_n 1) 1 7 := by decide +kernel
theorem d_X7_readsMachine_7 : Dc cX7_readsMachine 7 (.aload_n 0) 1 8 := by decide +kernel
theorem d_X7_readsMachine_8 : Dc cX7_readsMachine 8 (.getfield 22) 3 11 := by decide +kernel
theorem d_X7_readsMachine_11 : Dc cX7_readsMachine 11 (.iconst 2) 1 12 := by decide +kernel
theorem d_X7_readsMachine_12 : Dc cX7_readsMachine 12 (.iload_n 1) 1 13 := by decide +kernel
theorem d_X7_readsMachine_13 : Dc cX7_readsMachine 13 (.iadd) 1 14 := by decide +kernel
theorem d_X7_readsMachine_14 : Dc cX7_readsMachine 14 (.aload_n 0) 1 15 := by decide +kernel
theorem d_X7_readsMachine_15 : Dc cX7_readsMachine 15 (.getfield 102) 3 18 := by decide +kernel
theorem d_X7_readsMachine_18 : Dc cX7_readsMachine 18 (.invokestatic 125) 3 21 := by decide +kernel
theorem d_X7_readsMachine_21 : Dc cX7_readsMachine 21 (.iastore) 1 22 := by decide +kernel
theorem d_X7_readsMachine_22 : Dc cX7_readsMachine 22 (.aload_n 0) 1 23 := by decide +kernel
theorem d_X7_readsMachine_23 : Dc cX7_readsMachine 23 (.invokevirtual 122) 3 26 := by decide +kernel
theorem d_X7_readsMachine_26 : Dc cX7_readsMachine 26 (.aload_n 0) 1 27 := by decide +kernel
theorem d_X7_readsMachine_27 : Dc cX7_readsMachine 27 (.getfield 22) 3 30 := by decide +kernel
theorem d_X7_readsMachine_30 : Dc cX7_readsMachine 30 (.bipush 7) 2 32 := by decide +kernel
theorem d_X7_readsMachine_32 : Dc cX7_readsMachine 32 (.iload_n 1) 1 33 := by decide +kernel
theorem d_X7_readsMachine_33 : Dc cX7_readsMachine 33 (.iadd) 1 34 := by decide +kernel
theorem d_X7_readsMachine_34 : Dc cX7_readsMachine 34 (.aload_n 0) 1 35 := by decide +kernel
theorem d_X7_readsMachine_35 : Dc cX7_readsMachine 35 (.iconst 1) 1 36 := by decide +kernel
theorem d_X7_readsMachine_36 : Dc cX7_readsMachine 36 (.bipush 9) 2 38 := by decide +kernel
theorem d_X7_readsMachine_38 : Dc cX7_readsMachine 38 (.invokevirtual 128) 3 41 := by decide +kernel
theorem d_X7_readsMachine_41 : Dc cX7_readsMachine 41 (.iastore) 1 42 := by decide +kernel
theorem d_X7_readsMachine_42 : Dc cX7_readsMachine 42 (.aload_n 0) 1 43 := by decide +kernel
theorem d_X7_readsMachine_43 : Dc cX7_readsMachine 43 (.iconst 3) 1 44 := by decide +kernel
theorem d_X7_readsMachine_44 : Dc cX7_readsMachine 44 (.bipush 44) 2 46 := by decide +kernel
theorem d_X7_readsMachine_46 : Dc cX7_readsMachine 46 (.invokevirtual 132) 3 49 := by decide +kernel
theorem d_X7_readsMachine_49 : Dc cX7_readsMachine 49 (.aload_n 0) 1 50 := by decide +kernel
theorem d_X7_readsMachine_50 : Dc cX7_readsMachine 50 (.getfield 22) 3 53 := by decide +kernel
theorem d_X7_readsMachine_53 : Dc cX7_readsMachine 53 (.bipush 12) 2 55 := by decide +kernel
theorem d_X7_readsMachine_55 : Dc cX7_readsMachine 55 (.iload_n 1) 1 56 := by decide +kernel
theorem d_X7_readsMachine_56 : Dc cX7_readsMachine 56 (.iadd) 1 57 := by decide +kernel
theorem d_X7_readsMachine_57 : Dc cX7_readsMachine 57 (.aload_n 0) 1 58 := by decide +kernel
theorem d_X7_readsMachine_58 : Dc cX7_readsMachine 58 (.iconst 0) 1 59 := by decide +kernel
theorem d_X7_readsMachine_59 : Dc cX7_readsMachine 59 (.iconst 5) 1 60 := by decide +kernel
theorem d_X7_readsMachine_60 : Dc cX7_readsMachine 60 (.invokevirtual 128) 3 63 := by decide +kernel
theorem d_X7_readsMachine_63 : Dc cX7_readsMachine 63 (.iastore) 1 64 := by decide +kernel
theorem d_X7_readsMachine_64 : Dc cX7_readsMachine 64 (.aload_n 0) 1 65 := by decide +kernel
theorem d_X7_readsMachine_65 : Dc cX7_readsMachine 65 (.iconst 3) 1 66 := by decide +kernel
theorem d_X7_readsMachine_66 : Dc cX7_readsMachine 66 (.bipush 59) 2 68 := by decide +kernel
theorem d_X7_readsMachine_68 : Dc cX7_readsMachine 68 (.invokevirtual 132) 3 71 := by decide +kernel
theorem d_X7_readsMachine_71 : Dc cX7_readsMachine 71 (.aload_n 0) 1 72 := by decide +kernel
theorem d_X7_readsMachine_72 : Dc cX7_readsMachine 72 (.getfield 22) 3 75 := by decide +kernel
theorem d_X7_readsMachine_75 : Dc cX7_readsMachine 75 (.iconst 0) 1 76 := by decide +kernel
theorem d_X7_readsMachine_76 : Dc cX7_readsMachine 76 (.dup2) 1 77 := by decide +kernel
theorem d_X7_readsMachine_77 : Dc cX7_readsMachine 77 (.iaload) 1 78 := by decide +kernel
theorem d_X7_readsMachine_78 : Dc cX7_readsMachine 78 (.iconst 1) 1 79 := by decide +kernel
theorem d_X7_readsMachine_79 : Dc cX7_readsMachine 79 (.iadd) 1 80 := by decide +kernel
theorem d_X7_readsMachine_80 : Dc cX7_readsMachine 80 (.iastore) 1 81 := by decide +kernel
theorem d_X7_readsMachine_81 : Dc cX7_readsMachine 81 (.return_) 1 82 := by decide +kernel
theorem d_X7_readsLoad_0 : Dc cX7_readsLoad 0 (.aload_n 0) 1 1 := by decide +kernel
theorem d_X7_readsLoad_1 : Dc cX7_readsLoad 1 (.getfield 22) 3 4 := by decide +kernel
theorem d_X7_readsLoad_4 : Dc cX7_readsLoad 4 (.iconst 1) 1 5 := by decide +kernel
theorem d_X7_readsLoad_5 : Dc cX7_readsLoad 5 (.iaload) 1 6 := by decide +kernel
theorem d_X7_readsLoad_6 : Dc cX7_readsLoad 6 (.istore_n 1) 1 7 := by decide +kernel
theorem d_X7_readsLoad_7 : Dc cX7_readsLoad 7 (.aload_n 0) 1 8 := by decide +kernel
theorem d_X7_readsLoad_8 : Dc cX7_readsLoad 8 (.invokevirtual 122) 3 11 := by decide +kernel
theorem d_X7_readsLoad_11 : Dc cX7_readsLoad 11 (.aload_n 0) 1 12 := by decide +kernel
theorem d_X7_readsLoad_12 : Dc cX7_readsLoad 12 (.getfield 25) 3 15 := by decide +kernel
theorem d_X7_readsLoad_15 : Dc cX7_readsLoad 15 (.bipush 18) 2 17 := by decide +kernel
theorem d_X7_readsLoad_17 : Dc cX7_readsLoad 17 (.iload_n 1) 1 18 := by decide +kernel
theorem d_X7_readsLoad_18 : Dc cX7_readsLoad 18 (.iadd) 1 19 := by decide +kernel
theorem d_X7_readsLoad_19 : Dc cX7_readsLoad 19 (.aload_n 0) 1 20 := by decide +kernel
theorem d_X7_readsLoad_20 : Dc cX7_readsLoad 20 (.iconst 1) 1 21 := by decide +kernel
theorem d_X7_readsLoad_21 : Dc cX7_readsLoad 21 (.bipush 9) 2 23 := by decide +kernel
theorem d_X7_readsLoad_23 : Dc cX7_readsLoad 23 (.invokevirtual 128) 3 26 := by decide +kernel
theorem d_X7_readsLoad_26 : Dc cX7_readsLoad 26 (.iastore) 1 27 := by decide +kernel
theorem d_X7_readsLoad_27 : Dc cX7_readsLoad 27 (.aload_n 0) 1 28 := by decide +kernel
theorem d_X7_readsLoad_28 : Dc cX7_readsLoad 28 (.iconst 3) 1 29 := by decide +kernel
theorem d_X7_readsLoad_29 : Dc cX7_readsLoad 29 (.bipush 44) 2 31 := by decide +kernel
theorem d_X7_readsLoad_31 : Dc cX7_readsLoad 31 (.invokevirtual 132) 3 34 := by decide +kernel
theorem d_X7_readsLoad_34 : Dc cX7_readsLoad 34 (.aload_n 0) 1 35 := by decide +kernel
theorem d_X7_readsLoad_35 : Dc cX7_readsLoad 35 (.getfield 25) 3 38 := by decide +kernel
theorem d_X7_readsLoad_38 : Dc cX7_readsLoad 38 (.bipush 24) 2 40 := by decide +kernel
theorem d_X7_readsLoad_40 : Dc cX7_readsLoad 40 (.iload_n 1) 1 41 := by decide +kernel
theorem d_X7_readsLoad_41 : Dc cX7_readsLoad 41 (.iadd) 1 42 := by decide +kernel
theorem d_X7_readsLoad_42 : Dc cX7_readsLoad 42 (.aload_n 0) 1 43 := by decide +kernel
theorem d_X7_readsLoad_43 : Dc cX7_readsLoad 43 (.iconst 0) 1 44 := by decide +kernel
theorem d_X7_readsLoad_44 : Dc cX7_readsLoad 44 (.bipush 60) 2 46 := by decide +kernel
theorem d_X7_readsLoad_46 : Dc cX7_readsLoad 46 (.invokevirtual 128) 3 49 := by decide +kernel
theorem d_X7_readsLoad_49 : Dc cX7_readsLoad 49 (.iastore) 1 50 := by decide +kernel
theorem d_X7_readsLoad_50 : Dc cX7_readsLoad 50 (.aload_n 0) 1 51 := by decide +kernel
theorem d_X7_readsLoad_51 : Dc cX7_readsLoad 51 (.iconst 3) 1 52 := by decide +kernel
theorem d_X7_readsLoad_52 : Dc cX7_readsLoad 52 (.bipush 59) 2 54 := by decide +kernel
theorem d_X7_readsLoad_54 : Dc cX7_readsLoad 54 (.invokevirtual 132) 3 57 := by decide +kernel
theorem d_X7_readsLoad_57 : Dc cX7_readsLoad 57 (.aload_n 0) 1 58 := by decide +kernel
theorem d_X7_readsLoad_58 : Dc cX7_readsLoad 58 (.getfield 22) 3 61 := by decide +kernel
theorem d_X7_readsLoad_61 : Dc cX7_readsLoad 61 (.iconst 1) 1 62 := by decide +kernel
theorem d_X7_readsLoad_62 : Dc cX7_readsLoad 62 (.dup2) 1 63 := by decide +kernel
theorem d_X7_readsLoad_63 : Dc cX7_readsLoad 63 (.iaload) 1 64 := by decide +kernel
theorem d_X7_readsLoad_64 : Dc cX7_readsLoad 64 (.iconst 1) 1 65 := by decide +kernel
theorem d_X7_readsLoad_65 : Dc cX7_readsLoad 65 (.iadd) 1 66 := by decide +kernel
theorem d_X7_readsLoad_66 : Dc cX7_readsLoad 66 (.iastore) 1 67 := by decide +kernel
theorem d_X7_readsLoad_67 : Dc cX7_readsLoad 67 (.return_) 1 68 := by decide +kernel
theorem d_X7_reads_0 : Dc cX7_reads 0 (.iconst 0) 1 1 := by decide +kernel
theorem d_X7_reads_1 : Dc cX7_reads 1 (.istore_n 1) 1 2 := by decide +kernel
theorem d_X7_reads_2 : Dc cX7_reads 2 (.iload_n 1) 1 3 := by decide +kernel
theorem d_X7_reads_3 : Dc cX7_reads 3 (.bipush 17) 2 5 := by decide +kernel
theorem d_X7_reads_5 : Dq cX7_reads 5 (.if_icmp .ge) 21 8 := by decide +kernel
theorem d_X7_reads_8 : Dc cX7_reads 8 (.aload_n 0) 1 9 := by decide +kernel
theorem d_X7_reads_9 : Dc cX7_reads 9 (.getfield 22) 3 12 := by decide +kernel
theorem d_X7_reads_12 : Dc cX7_reads 12 (.iload_n 1) 1 13 := by decide +kernel
theorem d_X7_reads_13 : Dc cX7_reads 13 (.iconst 0) 1 14 := by decide +kernel
theorem d_X7_reads_14 : Dc cX7_reads 14 (.iastore) 1 15 := by decide +kernel
theorem d_X7_reads_15 : Dc cX7_reads 15 (.iinc 1 1) 3 18 := by decide +kernel
theorem d_X7_reads_18 : Dq cX7_reads 18 (.goto) 2 21 := by decide +kernel
theorem d_X7_reads_21 : Dc cX7_reads 21 (.iconst 0) 1 22 := by decide +kernel
theorem d_X7_reads_22 : Dc cX7_reads 22 (.istore_n 1) 1 23 := by decide +kernel
theorem d_X7_reads_23 : Dc cX7_reads 23 (.iload_n 1) 1 24 := by decide +kernel
theorem d_X7_reads_24 : Dc cX7_reads 24 (.bipush 42) 2 26 := by decide +kernel
theorem d_X7_reads_26 : Dq cX7_reads 26 (.if_icmp .ge) 42 29 := by decide +kernel
theorem d_X7_reads_29 : Dc cX7_reads 29 (.aload_n 0) 1 30 := by decide +kernel
theorem d_X7_reads_30 : Dc cX7_reads 30 (.getfield 25) 3 33 := by decide +kernel
theorem d_X7_reads_33 : Dc cX7_reads 33 (.iload_n 1) 1 34 := by decide +kernel
theorem d_X7_reads_34 : Dc cX7_reads 34 (.iconst 0) 1 35 := by decide +kernel
theorem d_X7_reads_35 : Dc cX7_reads 35 (.iastore) 1 36 := by decide +kernel
theorem d_X7_reads_36 : Dc cX7_reads 36 (.iinc 1 1) 3 39 := by decide +kernel
theorem d_X7_reads_39 : Dq cX7_reads 39 (.goto) 23 42 := by decide +kernel
theorem d_X7_reads_42 : Dc cX7_reads 42 (.aload_n 0) 1 43 := by decide +kernel
theorem d_X7_reads_43 : Dc cX7_reads 43 (.iconst 0) 1 44 := by decide +kernel
theorem d_X7_reads_44 : Dc cX7_reads 44 (.putfield 93) 3 47 := by decide +kernel
theorem d_X7_reads_47 : Dc cX7_reads 47 (.aload_n 0) 1 48 := by decide +kernel
theorem d_X7_reads_48 : Dc cX7_reads 48 (.iconst 0) 1 49 := by decide +kernel
theorem d_X7_reads_49 : Dc cX7_reads 49 (.putfield 108) 3 52 := by decide +kernel
theorem d_X7_reads_52 : Dc cX7_reads 52 (.aload_n 0) 1 53 := by decide +kernel
theorem d_X7_reads_53 : Dc cX7_reads 53 (.invokevirtual 122) 3 56 := by decide +kernel
theorem d_X7_reads_56 : Dc cX7_reads 56 (.aload_n 0) 1 57 := by decide +kernel
theorem d_X7_reads_57 : Dc cX7_reads 57 (.iconst 1) 1 58 := by decide +kernel
theorem d_X7_reads_58 : Dc cX7_reads 58 (.bipush 108) 2 60 := by decide +kernel
theorem d_X7_reads_60 : Dc cX7_reads 60 (.invokevirtual 132) 3 63 := by decide +kernel
theorem d_X7_reads_63 : Dc cX7_reads 63 (.aload_n 0) 1 64 := by decide +kernel
theorem d_X7_reads_64 : Dc cX7_reads 64 (.getfield 25) 3 67 := by decide +kernel
theorem d_X7_reads_67 : Dc cX7_reads 67 (.iconst 1) 1 68 := by decide +kernel
theorem d_X7_reads_68 : Dc cX7_reads 68 (.aload_n 0) 1 69 := by decide +kernel
theorem d_X7_reads_69 : Dc cX7_reads 69 (.iconst 1) 1 70 := by decide +kernel
theorem d_X7_reads_70 : Dc cX7_reads 70 (.iconst 5) 1 71 := by decide +kernel
theorem d_X7_reads_71 : Dc cX7_reads 71 (.invokevirtual 128) 3 74 := by decide +kernel
theorem d_X7_reads_74 : Dc cX7_reads 74 (.iastore) 1 75 := by decide +kernel
theorem d_X7_reads_75 : Dc cX7_reads 75 (.aload_n 0) 1 76 := by decide +kernel
theorem d_X7_reads_76 : Dc cX7_reads 76 (.iconst 3) 1 77 := by decide +kernel
theorem d_X7_reads_77 : Dc cX7_reads 77 (.bipush 59) 2 79 := by decide +kernel
theorem d_X7_reads_79 : Dc cX7_reads 79 (.invokevirtual 132) 3 82 := by decide +kernel
theorem d_X7_reads_82 : Dc cX7_reads 82 (.aload_n 0) 1 83 := by decide +kernel
theorem d_X7_reads_83 : Dc cX7_reads 83 (.invokevirtual 111) 3 86 := by decide +kernel
theorem d_X7_reads_86 : Dq cX7_reads 86 (.ifCond .eq) 233 89 := by decide +kernel
theorem d_X7_reads_89 : Dc cX7_reads 89 (.aload_n 0) 1 90 := by decide +kernel
theorem d_X7_reads_90 : Dc cX7_reads 90 (.getfield 105) 3 93 := by decide +kernel
theorem d_X7_reads_93 : Dq cX7_reads 93 (.ifCond .ne) 105 96 := by decide +kernel
theorem d_X7_reads_96 : Dc cX7_reads 96 (.aload_n 0) 1 97 := by decide +kernel
theorem d_X7_reads_97 : Dc cX7_reads 97 (.getfield 22) 3 100 := by decide +kernel
theorem d_X7_reads_100 : Dc cX7_reads 100 (.iconst 1) 1 101 := by decide +kernel
theorem d_X7_reads_101 : Dc cX7_reads 101 (.iaload) 1 102 := by decide +kernel
theorem d_X7_reads_102 : Dq cX7_reads 102 (.ifCond .gt) 233 105 := by decide +kernel
theorem d_X7_reads_105 : Dc cX7_reads 105 (.aload_n 0) 1 106 := by decide +kernel
theorem d_X7_reads_106 : Dc cX7_reads 106 (.getfield 105) 3 109 := by decide +kernel
theorem d_X7_reads_109 : Dc cX7_reads 109 (.iconst 1) 1 110 := by decide +kernel
theorem d_X7_reads_110 : Dq cX7_reads 110 (.if_icmp .ne) 136 113 := by decide +kernel
theorem d_X7_reads_113 : Dc cX7_reads 113 (.aload_n 0) 1 114 := by decide +kernel
theorem d_X7_reads_114 : Dc cX7_reads 114 (.getfield 102) 3 117 := by decide +kernel
theorem d_X7_reads_117 : Dc cX7_reads 117 (.invokestatic 125) 3 120 := by decide +kernel
theorem d_X7_reads_120 : Dq cX7_reads 120 (.ifCond .le) 136 123 := by decide +kernel
theorem d_X7_reads_123 : Dc cX7_reads 123 (.aload_n 0) 1 124 := by decide +kernel
theorem d_X7_reads_124 : Dc cX7_reads 124 (.getfield 22) 3 127 := by decide +kernel
theorem d_X7_reads_127 : Dc cX7_reads 127 (.iconst 1) 1 128 := by decide +kernel
theorem d_X7_reads_128 : Dc cX7_reads 128 (.iaload) 1 129 := by decide +kernel
theorem d_X7_reads_129 : Dq cX7_reads 129 (.ifCond .ne) 136 132 := by decide +kernel
theorem d_X7_reads_132 : Dc cX7_reads 132 (.iconst 1) 1 133 := by decide +kernel
theorem d_X7_reads_133 : Dq cX7_reads 133 (.goto) 137 136 := by decide +kernel
theorem d_X7_reads_136 : Dc cX7_reads 136 (.iconst 0) 1 137 := by decide +kernel
theorem d_X7_reads_137 : Dc cX7_reads 137 (.istore_n 1) 1 138 := by decide +kernel
theorem d_X7_reads_138 : Dc cX7_reads 138 (.aload_n 0) 1 139 := by decide +kernel
theorem d_X7_reads_139 : Dc cX7_reads 139 (.getfield 105) 3 142 := by decide +kernel
theorem d_X7_reads_142 : Dc cX7_reads 142 (.iconst 1) 1 143 := by decide +kernel
theorem d_X7_reads_143 : Dq cX7_reads 143 (.if_icmp .ne) 168 146 := by decide +kernel
theorem d_X7_reads_146 : Dc cX7_reads 146 (.aload_n 0) 1 147 := by decide +kernel
theorem d_X7_reads_147 : Dc cX7_reads 147 (.getfield 102) 3 150 := by decide +kernel
theorem d_X7_reads_150 : Dc cX7_reads 150 (.bipush 98) 2 152 := by decide +kernel
theorem d_X7_reads_152 : Dq cX7_reads 152 (.if_icmp .ne) 168 155 := by decide +kernel
theorem d_X7_reads_155 : Dc cX7_reads 155 (.aload_n 0) 1 156 := by decide +kernel
theorem d_X7_reads_156 : Dc cX7_reads 156 (.getfield 22) 3 159 := by decide +kernel
theorem d_X7_reads_159 : Dc cX7_reads 159 (.iconst 0) 1 160 := by decide +kernel
theorem d_X7_reads_160 : Dc cX7_reads 160 (.iaload) 1 161 := by decide +kernel
theorem d_X7_reads_161 : Dq cX7_reads 161 (.ifCond .le) 168 164 := by decide +kernel
theorem d_X7_reads_164 : Dc cX7_reads 164 (.iconst 1) 1 165 := by decide +kernel
theorem d_X7_reads_165 : Dq cX7_reads 165 (.goto) 169 168 := by decide +kernel
theorem d_X7_reads_168 : Dc cX7_reads 168 (.iconst 0) 1 169 := by decide +kernel
theorem d_X7_reads_169 : Dc cX7_reads 169 (.istore_n 2) 1 170 := by decide +kernel
theorem d_X7_reads_170 : Dc cX7_reads 170 (.iload_n 1) 1 171 := by decide +kernel
theorem d_X7_reads_171 : Dq cX7_reads 171 (.ifCond .eq) 191 174 := by decide +kernel
theorem d_X7_reads_174 : Dc cX7_reads 174 (.aload_n 0) 1 175 := by decide +kernel
theorem d_X7_reads_175 : Dc cX7_reads 175 (.getfield 22) 3 178 := by decide +kernel
theorem d_X7_reads_178 : Dc cX7_reads 178 (.iconst 0) 1 179 := by decide +kernel
theorem d_X7_reads_179 : Dc cX7_reads 179 (.iaload) 1 180 := by decide +kernel
theorem d_X7_reads_180 : Dc cX7_reads 180 (.iconst 5) 1 181 := by decide +kernel
theorem d_X7_reads_181 : Dq cX7_reads 181 (.if_icmp .ge) 191 184 := by decide +kernel
theorem d_X7_reads_184 : Dc cX7_reads 184 (.aload_n 0) 1 185 := by decide +kernel
theorem d_X7_reads_185 : Dc cX7_reads 185 (.invokevirtual 136) 3 188 := by decide +kernel
theorem d_X7_reads_188 : Dq cX7_reads 188 (.goto) 230 191 := by decide +kernel
theorem d_X7_reads_191 : Dc cX7_reads 191 (.iload_n 2) 1 192 := by decide +kernel
theorem d_X7_reads_192 : Dq cX7_reads 192 (.ifCond .eq) 213 195 := by decide +kernel
theorem d_X7_reads_195 : Dc cX7_reads 195 (.aload_n 0) 1 196 := by decide +kernel
theorem d_X7_reads_196 : Dc cX7_reads 196 (.getfield 22) 3 199 := by decide +kernel
theorem d_X7_reads_199 : Dc cX7_reads 199 (.iconst 1) 1 200 := by decide +kernel
theorem d_X7_reads_200 : Dc cX7_reads 200 (.iaload) 1 201 := by decide +kernel
theorem d_X7_reads_201 : Dc cX7_reads 201 (.bipush 6) 2 203 := by decide +kernel
theorem d_X7_reads_203 : Dq cX7_reads 203 (.if_icmp .ge) 213 206 := by decide +kernel
theorem d_X7_reads_206 : Dc cX7_reads 206 (.aload_n 0) 1 207 := by decide +kernel
theorem d_X7_reads_207 : Dc cX7_reads 207 (.invokevirtual 139) 3 210 := by decide +kernel
theorem d_X7_reads_210 : Dq cX7_reads 210 (.goto) 230 213 := by decide +kernel
theorem d_X7_reads_213 : Dc cX7_reads 213 (.aload_n 0) 1 214 := by decide +kernel
theorem d_X7_reads_214 : Dc cX7_reads 214 (.iload_n 1) 1 215 := by decide +kernel
theorem d_X7_reads_215 : Dq cX7_reads 215 (.ifCond .ne) 222 218 := by decide +kernel
theorem d_X7_reads_218 : Dc cX7_reads 218 (.iload_n 2) 1 219 := by decide +kernel
theorem d_X7_reads_219 : Dq cX7_reads 219 (.ifCond .eq) 226 222 := by decide +kernel
theorem d_X7_reads_222 : Dc cX7_reads 222 (.iconst 3) 1 223 := by decide +kernel
theorem d_X7_reads_223 : Dq cX7_reads 223 (.goto) 227 226 := by decide +kernel
theorem d_X7_reads_226 : Dc cX7_reads 226 (.iconst 1) 1 227 := by decide +kernel
theorem d_X7_reads_227 : Dc cX7_reads 227 (.invokevirtual 118) 3 230 := by decide +kernel
theorem d_X7_reads_230 : Dq cX7_reads 230 (.goto) 82 233 := by decide +kernel
theorem d_X7_reads_233 : Dc cX7_reads 233 (.return_) 1 234 := by decide +kernel
theorem d_X7_launderette_0 : Dc cX7_launderette 0 (.aload_n 0) 1 1 := by decide +kernel
theorem d_X7_launderette_1 : Dc cX7_launderette 1 (.iconst 0) 1 2 := by decide +kernel
theorem d_X7_launderette_2 : Dc cX7_launderette 2 (.putfield 62) 3 5 := by decide +kernel
theorem d_X7_launderette_5 : Dc cX7_launderette 5 (.aload_n 0) 1 6 := by decide +kernel
theorem d_X7_launderette_6 : Dc cX7_launderette 6 (.invokevirtual 142) 3 9 := by decide +kernel
theorem d_X7_launderette_9 : Dc cX7_launderette 9 (.aload_n 0) 1 10 := by decide +kernel
theorem d_X7_launderette_10 : Dc cX7_launderette 10 (.iconst 0) 1 11 := by decide +kernel
theorem d_X7_launderette_11 : Dc cX7_launderette 11 (.putfield 89) 3 14 := by decide +kernel
theorem d_X7_launderette_14 : Dc cX7_launderette 14 (.aload_n 0) 1 15 := by decide +kernel
theorem d_X7_launderette_15 : Dc cX7_launderette 15 (.invokevirtual 111) 3 18 := by decide +kernel
theorem d_X7_launderette_18 : Dq cX7_launderette 18 (.ifCond .ne) 37 21 := by decide +kernel
theorem d_X7_launderette_21 : Dc cX7_launderette 21 (.aload_n 0) 1 22 := by decide +kernel
theorem d_X7_launderette_22 : Dc cX7_launderette 22 (.aload_n 0) 1 23 := by decide +kernel
theorem d_X7_launderette_23 : Dc cX7_launderette 23 (.getfield 108) 3 26 := by decide +kernel
theorem d_X7_launderette_26 : Dc cX7_launderette 26 (.putfield 145) 3 29 := by decide +kernel
theorem d_X7_launderette_29 : Dc cX7_launderette 29 (.ldc 148) 2 31 := by decide +kernel
theorem d_X7_launderette_31 : Dc cX7_launderette 31 (.aload_n 0) 1 32 := by decide +kernel
theorem d_X7_launderette_32 : Dc cX7_launderette 32 (.getfield 115) 3 35 := by decide +kernel
theorem d_X7_launderette_35 : Dc cX7_launderette 35 (.isub) 1 36 := by decide +kernel
theorem d_X7_launderette_36 : Dc cX7_launderette 36 (.ireturn) 1 37 := by decide +kernel
theorem d_X7_launderette_37 : Dc cX7_launderette 37 (.iconst 0) 1 38 := by decide +kernel
theorem d_X7_launderette_38 : Dc cX7_launderette 38 (.istore_n 1) 1 39 := by decide +kernel
theorem d_X7_launderette_39 : Dc cX7_launderette 39 (.iload_n 1) 1 40 := by decide +kernel
theorem d_X7_launderette_40 : Dc cX7_launderette 40 (.bipush 17) 2 42 := by decide +kernel
theorem d_X7_launderette_42 : Dq cX7_launderette 42 (.if_icmp .ge) 63 45 := by decide +kernel
theorem d_X7_launderette_45 : Dc cX7_launderette 45 (.aload_n 0) 1 46 := by decide +kernel
theorem d_X7_launderette_46 : Dc cX7_launderette 46 (.getfield 28) 3 49 := by decide +kernel
theorem d_X7_launderette_49 : Dc cX7_launderette 49 (.iload_n 1) 1 50 := by decide +kernel
theorem d_X7_launderette_50 : Dc cX7_launderette 50 (.aload_n 0) 1 51 := by decide +kernel
theorem d_X7_launderette_51 : Dc cX7_launderette 51 (.getfield 22) 3 54 := by decide +kernel
theorem d_X7_launderette_54 : Dc cX7_launderette 54 (.iload_n 1) 1 55 := by decide +kernel
theorem d_X7_launderette_55 : Dc cX7_launderette 55 (.iaload) 1 56 := by decide +kernel
theorem d_X7_launderette_56 : Dc cX7_launderette 56 (.iastore) 1 57 := by decide +kernel
theorem d_X7_launderette_57 : Dc cX7_launderette 57 (.iinc 1 1) 3 60 := by decide +kernel
theorem d_X7_launderette_60 : Dq cX7_launderette 60 (.goto) 39 63 := by decide +kernel
theorem d_X7_launderette_63 : Dc cX7_launderette 63 (.iconst 0) 1 64 := by decide +kernel
theorem d_X7_launderette_64 : Dc cX7_launderette 64 (.istore_n 1) 1 65 := by decide +kernel
theorem d_X7_launderette_65 : Dc cX7_launderette 65 (.iload_n 1) 1 66 := by decide +kernel
theorem d_X7_launderette_66 : Dc cX7_launderette 66 (.bipush 42) 2 68 := by decide +kernel
theorem d_X7_launderette_68 : Dq cX7_launderette 68 (.if_icmp .ge) 89 71 := by decide +kernel
theorem d_X7_launderette_71 : Dc cX7_launderette 71 (.aload_n 0) 1 72 := by decide +kernel
theorem d_X7_launderette_72 : Dc cX7_launderette 72 (.getfield 31) 3 75 := by decide +kernel
theorem d_X7_launderette_75 : Dc cX7_launderette 75 (.iload_n 1) 1 76 := by decide +kernel
theorem d_X7_launderette_76 : Dc cX7_launderette 76 (.aload_n 0) 1 77 := by decide +kernel
theorem d_X7_launderette_77 : Dc cX7_launderette 77 (.getfield 25) 3 80 := by decide +kernel
theorem d_X7_launderette_80 : Dc cX7_launderette 80 (.iload_n 1) 1 81 := by decide +kernel
theorem d_X7_launderette_81 : Dc cX7_launderette 81 (.iaload) 1 82 := by decide +kernel
theorem d_X7_launderette_82 : Dc cX7_launderette 82 (.iastore) 1 83 := by decide +kernel
theorem d_X7_launderette_83 : Dc cX7_launderette 83 (.iinc 1 1) 3 86 := by decide +kernel
theorem d_X7_launderette_86 : Dq cX7_launderette 86 (.goto) 65 89 := by decide +kernel
theorem d_X7_launderette_89 : Dc cX7_launderette 89 (.aload_n 0) 1 90 := by decide +kernel
theorem d_X7_launderette_90 : Dc cX7_launderette 90 (.getfield 31) 3 93 := by decide +kernel
theorem d_X7_launderette_93 : Dc cX7_launderette 93 (.iconst 2) 1 94 := by decide +kernel
theorem d_X7_launderette_94 : Dc cX7_launderette 94 (.iconst 1) 1 95 := by decide +kernel
theorem d_X7_launderette_95 : Dc cX7_launderette 95 (.aload_n 0) 1 96 := by decide +kernel
theorem d_X7_launderette_96 : Dc cX7_launderette 96 (.getfield 28) 3 99 := by decide +kernel
theorem d_X7_launderette_99 : Dc cX7_launderette 99 (.iconst 0) 1 100 := by decide +kernel
theorem d_X7_launderette_100 : Dc cX7_launderette 100 (.iaload) 1 101 := by decide +kernel
theorem d_X7_launderette_101 : Dc cX7_launderette 101 (.ishl) 1 102 := by decide +kernel
theorem d_X7_launderette_102 : Dc cX7_launderette 102 (.iconst 1) 1 103 := by decide +kernel
theorem d_X7_launderette_103 : Dc cX7_launderette 103 (.isub) 1 104 := by decide +kernel
theorem d_X7_launderette_104 : Dc cX7_launderette 104 (.iastore) 1 105 := by decide +kernel
theorem d_X7_launderette_105 : Dc cX7_launderette 105 (.iconst 0) 1 106 := by decide +kernel
theorem d_X7_launderette_106 : Dc cX7_launderette 106 (.istore_n 1) 1 107 := by decide +kernel
theorem d_X7_launderette_107 : Dc cX7_launderette 107 (.iload_n 1) 1 108 := by decide +kernel
theorem d_X7_launderette_108 : Dc cX7_launderette 108 (.iconst 5) 1 109 := by decide +kernel
theorem d_X7_launderette_109 : Dq cX7_launderette 109 (.if_icmp .ge) 127 112 := by decide +kernel
theorem d_X7_launderette_112 : Dc cX7_launderette 112 (.aload_n 0) 1 113 := by decide +kernel
theorem d_X7_launderette_113 : Dc cX7_launderette 113 (.getfield 31) 3 116 := by decide +kernel
theorem d_X7_launderette_116 : Dc cX7_launderette 116 (.iconst 3) 1 117 := by decide +kernel
theorem d_X7_launderette_117 : Dc cX7_launderette 117 (.iload_n 1) 1 118 := by decide +kernel
theorem d_X7_launderette_118 : Dc cX7_launderette 118 (.iadd) 1 119 := by decide +kernel
theorem d_X7_launderette_119 : Dc cX7_launderette 119 (.iconst (-1)) 1 120 := by decide +kernel
theorem d_X7_launderette_120 : Dc cX7_launderette 120 (.iastore) 1 121 := by decide +kernel
theorem d_X7_launderette_121 : Dc cX7_launderette 121 (.iinc 1 1) 3 124 := by decide +kernel
theorem d_X7_launderette_124 : Dq cX7_launderette 124 (.goto) 107 127 := by decide +kernel
theorem d_X7_launderette_127 : Dc cX7_launderette 127 (.aload_n 0) 1 128 := by decide +kernel
theorem d_X7_launderette_128 : Dc cX7_launderette 128 (.iconst 0) 1 129 := by decide +kernel
theorem d_X7_launderette_129 : Dc cX7_launderette 129 (.putfield 149) 3 132 := by decide +kernel
theorem d_X7_launderette_132 : Dc cX7_launderette 132 (.aload_n 0) 1 133 := by decide +kernel
theorem d_X7_launderette_133 : Dc cX7_launderette 133 (.getfield 28) 3 136 := by decide +kernel
theorem d_X7_launderette_136 : Dc cX7_launderette 136 (.iconst 0) 1 137 := by decide +kernel
theorem d_X7_launderette_137 : Dc cX7_launderette 137 (.iaload) 1 138 := by decide +kernel
theorem d_X7_launderette_138 : Dc cX7_launderette 138 (.ireturn) 1 139 := by decide +kernel
theorem d_X7_fault_0 : Dc cX7_fault 0 (.aload_n 0) 1 1 := by decide +kernel
theorem d_X7_fault_1 : Dc cX7_fault 1 (.iconst 0) 1 2 := by decide +kernel
theorem d_X7_fault_2 : Dc cX7_fault 2 (.putfield 62) 3 5 := by decide +kernel
theorem d_X7_fault_5 : Dc cX7_fault 5 (.aload_n 0) 1 6 := by decide +kernel
theorem d_X7_fault_6 : Dc cX7_fault 6 (.getfield 145) 3 9 := by decide +kernel
theorem d_X7_fault_9 : Dc cX7_fault 9 (.ireturn) 1 10 := by decide +kernel
theorem d_X7_isNothing_0 : Dc cX7_isNothing 0 (.aload_n 0) 1 1 := by decide +kernel
theorem d_X7_isNothing_1 : Dc cX7_isNothing 1 (.getfield 28) 3 4 := by decide +kernel
theorem d_X7_isNothing_4 : Dc cX7_isNothing 4 (.iconst 0) 1 5 := by decide +kernel
theorem d_X7_isNothing_5 : Dc cX7_isNothing 5 (.iaload) 1 6 := by decide +kernel
theorem d_X7_isNothing_6 : Dq cX7_isNothing 6 (.ifCond .ne) 13 9 := by decide +kernel
theorem d_X7_isNothing_9 : Dc cX7_isNothing 9 (.iconst 1) 1 10 := by decide +kernel
theorem d_X7_isNothing_10 : Dq cX7_isNothing 10 (.goto) 14 13 := by decide +kernel
theorem d_X7_isNothing_13 : Dc cX7_isNothing 13 (.iconst 0) 1 14 := by decide +kernel
theorem d_X7_isNothing_14 : Dc cX7_isNothing 14 (.ireturn) 1 15 := by decide +kernel
theorem d_X7_isMachine_0 : Dc cX7_isMachine 0 (.iload_n 1) 1 1 := by decide +kernel
theorem d_X7_isMachine_1 : Dc cX7_isMachine 1 (.iconst 0) 1 2 := by decide +kernel
theorem d_X7_isMachine_2 : Dc cX7_isMachine 2 (.aload_n 0) 1 3 := by decide +kernel
theorem d_X7_isMachine_3 : Dc cX7_isMachine 3 (.getfield 28) 3 6 := by decide +kernel
theorem d_X7_isMachine_6 : Dc cX7_isMachine 6 (.iconst 0) 1 7 := by decide +kernel
theorem d_X7_isMachine_7 : Dc cX7_isMachine 7 (.iaload) 1 8 := by decide +kernel
theorem d_X7_isMachine_8 : Dc cX7_isMachine 8 (.iconst 1) 1 9 := by decide +kernel
theorem d_X7_isMachine_9 : Dc cX7_isMachine 9 (.isub) 1 10 := by decide +kernel
theorem d_X7_isMachine_10 : Dc cX7_isMachine 10 (.invokestatic 70) 3 13 := by decide +kernel
theorem d_X7_isMachine_13 : Dc cX7_isMachine 13 (.ireturn) 1 14 := by decide +kernel
theorem d_X7_isLoad_0 : Dc cX7_isLoad 0 (.iload_n 1) 1 1 := by decide +kernel
theorem d_X7_isLoad_1 : Dc cX7_isLoad 1 (.iconst 0) 1 2 := by decide +kernel
theorem d_X7_isLoad_2 : Dc cX7_isLoad 2 (.aload_n 0) 1 3 := by decide +kernel
theorem d_X7_isLoad_3 : Dc cX7_isLoad 3 (.getfield 28) 3 6 := by decide +kernel
theorem d_X7_isLoad_6 : Dc cX7_isLoad 6 (.iconst 1) 1 7 := by decide +kernel
theorem d_X7_isLoad_7 : Dc cX7_isLoad 7 (.iaload) 1 8 := by decide +kernel
theorem d_X7_isLoad_8 : Dc cX7_isLoad 8 (.iconst 1) 1 9 := by decide +kernel
theorem d_X7_isLoad_9 : Dc cX7_isLoad 9 (.isub) 1 10 := by decide +kernel
theorem d_X7_isLoad_10 : Dc cX7_isLoad 10 (.invokestatic 70) 3 13 := by decide +kernel
theorem d_X7_isLoad_13 : Dc cX7_isLoad 13 (.ireturn) 1 14 := by decide +kernel
theorem d_X7_washes_0 : Dc cX7_washes 0 (.iload_n 0) 1 1 := by decide +kernel
theorem d_X7_washes_1 : Dc cX7_washes 1 (.iconst 4) 1 2 := by decide +kernel
theorem d_X7_washes_2 : Dq cX7_washes 2 (.if_icmp .ge) 9 5 := by decide +kernel
theorem d_X7_washes_5 : Dc cX7_washes 5 (.iconst 1) 1 6 := by decide +kernel
theorem d_X7_washes_6 : Dq cX7_washes 6 (.goto) 10 9 := by decide +kernel
theorem d_X7_washes_9 : Dc cX7_washes 9 (.iconst 0) 1 10 := by decide +kernel
theorem d_X7_washes_10 : Dc cX7_washes 10 (.ireturn) 1 11 := by decide +kernel
theorem d_X7_lastsOf_0 : Dc cX7_lastsOf 0 (.aload_n 0) 1 1 := by decide +kernel
theorem d_X7_lastsOf_1 : Dc cX7_lastsOf 1 (.iconst 2) 1 2 := by decide +kernel
theorem d_X7_lastsOf_2 : Dc cX7_lastsOf 2 (.iload_n 2) 1 3 := by decide +kernel
theorem d_X7_lastsOf_3 : Dc cX7_lastsOf 3 (.iadd) 1 4 := by decide +kernel
theorem d_X7_lastsOf_4 : Dc cX7_lastsOf 4 (.iaload) 1 5 := by decide +kernel
theorem d_X7_lastsOf_5 : Dc cX7_lastsOf 5 (.istore 4) 2 7 := by decide +kernel
theorem d_X7_lastsOf_7 : Dc cX7_lastsOf 7 (.aload_n 1) 1 8 := by decide +kernel
theorem d_X7_lastsOf_8 : Dc cX7_lastsOf 8 (.bipush 18) 2 10 := by decide +kernel
theorem d_X7_lastsOf_10 : Dc cX7_lastsOf 10 (.iload_n 3) 1 11 := by decide +kernel
theorem d_X7_lastsOf_11 : Dc cX7_lastsOf 11 (.iadd) 1 12 := by decide +kernel
theorem d_X7_lastsOf_12 : Dc cX7_lastsOf 12 (.iaload) 1 13 := by decide +kernel
theorem d_X7_lastsOf_13 : Dc cX7_lastsOf 13 (.istore 5) 2 15 := by decide +kernel
theorem d_X7_lastsOf_15 : Dc cX7_lastsOf 15 (.aload_n 0) 1 16 := by decide +kernel
theorem d_X7_lastsOf_16 : Dc cX7_lastsOf 16 (.bipush 12) 2 18 := by decide +kernel
theorem d_X7_lastsOf_18 : Dc cX7_lastsOf 18 (.iload_n 2) 1 19 := by decide +kernel
theorem d_X7_lastsOf_19 : Dc cX7_lastsOf 19 (.iadd) 1 20 := by decide +kernel
theorem d_X7_lastsOf_20 : Dc cX7_lastsOf 20 (.iaload) 1 21 := by decide +kernel
theorem d_X7_lastsOf_21 : Dc cX7_lastsOf 21 (.istore 6) 2 23 := by decide +kernel
theorem d_X7_lastsOf_23 : Dc cX7_lastsOf 23 (.iload 4) 2 25 := by decide +kernel
theorem d_X7_lastsOf_25 : Dc cX7_lastsOf 25 (.invokestatic 152) 3 28 := by decide +kernel
theorem d_X7_lastsOf_28 : Dq cX7_lastsOf 28 (.ifCond .eq) 90 31 := by decide +kernel
theorem d_X7_lastsOf_31 : Dc cX7_lastsOf 31 (.iload 4) 2 33 := by decide +kernel
theorem d_X7_lastsOf_33 : Dc cX7_lastsOf 33 (.iconst 2) 1 34 := by decide +kernel
theorem d_X7_lastsOf_34 : Dq cX7_lastsOf 34 (.if_icmp .ne) 47 37 := by decide +kernel
theorem d_X7_lastsOf_37 : Dc cX7_lastsOf 37 (.iload 5) 2 39 := by decide +kernel
theorem d_X7_lastsOf_39 : Dc cX7_lastsOf 39 (.iload 6) 2 41 := by decide +kernel
theorem d_X7_lastsOf_41 : Dc cX7_lastsOf 41 (.iadd) 1 42 := by decide +kernel
theorem d_X7_lastsOf_42 : Dc cX7_lastsOf 42 (.iconst 2) 1 43 := by decide +kernel
theorem d_X7_lastsOf_43 : Dc cX7_lastsOf 43 (.idiv) 1 44 := by decide +kernel
theorem d_X7_lastsOf_44 : Dq cX7_lastsOf 44 (.goto) 52 47 := by decide +kernel
theorem d_X7_lastsOf_47 : Dc cX7_lastsOf 47 (.iload 5) 2 49 := by decide +kernel
theorem d_X7_lastsOf_49 : Dc cX7_lastsOf 49 (.iload 6) 2 51 := by decide +kernel
theorem d_X7_lastsOf_51 : Dc cX7_lastsOf 51 (.iadd) 1 52 := by decide +kernel
theorem d_X7_lastsOf_52 : Dc cX7_lastsOf 52 (.istore 7) 2 54 := by decide +kernel
theorem d_X7_lastsOf_54 : Dc cX7_lastsOf 54 (.iload 7) 2 56 := by decide +kernel
theorem d_X7_lastsOf_56 : Dc cX7_lastsOf 56 (.iload 4) 2 58 := by decide +kernel
theorem d_X7_lastsOf_58 : Dc cX7_lastsOf 58 (.iconst 3) 1 59 := by decide +kernel
theorem d_X7_lastsOf_59 : Dq cX7_lastsOf 59 (.if_icmp .ne) 73 62 := by decide +kernel
theorem d_X7_lastsOf_62 : Dc cX7_lastsOf 62 (.aload_n 1) 1 63 := by decide +kernel
theorem d_X7_lastsOf_63 : Dc cX7_lastsOf 63 (.bipush 13) 2 65 := by decide +kernel
theorem d_X7_lastsOf_65 : Dc cX7_lastsOf 65 (.iload_n 2) 1 66 := by decide +kernel
theorem d_X7_lastsOf_66 : Dc cX7_lastsOf 66 (.iadd) 1 67 := by decide +kernel
theorem d_X7_lastsOf_67 : Dc cX7_lastsOf 67 (.iaload) 1 68 := by decide +kernel
theorem d_X7_lastsOf_68 : Dc cX7_lastsOf 68 (.iconst 3) 1 69 := by decide +kernel
theorem d_X7_lastsOf_69 : Dc cX7_lastsOf 69 (.idiv) 1 70 := by decide +kernel
theorem d_X7_lastsOf_70 : Dq cX7_lastsOf 70 (.goto) 74 73 := by decide +kernel
theorem d_X7_lastsOf_73 : Dc cX7_lastsOf 73 (.iconst 0) 1 74 := by decide +kernel
theorem d_X7_lastsOf_74 : Dc cX7_lastsOf 74 (.iadd) 1 75 := by decide +kernel
theorem d_X7_lastsOf_75 : Dc cX7_lastsOf 75 (.istore 7) 2 77 := by decide +kernel
theorem d_X7_lastsOf_77 : Dc cX7_lastsOf 77 (.iload 7) 2 79 := by decide +kernel
theorem d_X7_lastsOf_79 : Dc cX7_lastsOf 79 (.iconst 1) 1 80 := by decide +kernel
theorem d_X7_lastsOf_80 : Dq cX7_lastsOf 80 (.if_icmp .ge) 87 83 := by decide +kernel
theorem d_X7_lastsOf_83 : Dc cX7_lastsOf 83 (.iconst 1) 1 84 := by decide +kernel
theorem d_X7_lastsOf_84 : Dq cX7_lastsOf 84 (.goto) 89 87 := by decide +kernel
theorem d_X7_lastsOf_87 : Dc cX7_lastsOf 87 (.iload 7) 2 89 := by decide +kernel
theorem d_X7_lastsOf_89 : Dc cX7_lastsOf 89 (.ireturn) 1 90 := by decide +kernel
theorem d_X7_lastsOf_90 : Dc cX7_lastsOf 90 (.iload 5) 2 92 := by decide +kernel
theorem d_X7_lastsOf_92 : Dc cX7_lastsOf 92 (.iconst 2) 1 93 := by decide +kernel
theorem d_X7_lastsOf_93 : Dc cX7_lastsOf 93 (.idiv) 1 94 := by decide +kernel
theorem d_X7_lastsOf_94 : Dc cX7_lastsOf 94 (.iload 6) 2 96 := by decide +kernel
theorem d_X7_lastsOf_96 : Dc cX7_lastsOf 96 (.iadd) 1 97 := by decide +kernel
theorem d_X7_lastsOf_97 : Dc cX7_lastsOf 97 (.iload 4) 2 99 := by decide +kernel
theorem d_X7_lastsOf_99 : Dc cX7_lastsOf 99 (.iconst 5) 1 100 := by decide +kernel
theorem d_X7_lastsOf_100 : Dq cX7_lastsOf 100 (.if_icmp .ne) 107 103 := by decide +kernel
theorem d_X7_lastsOf_103 : Dc cX7_lastsOf 103 (.iconst 0) 1 104 := by decide +kernel
theorem d_X7_lastsOf_104 : Dq cX7_lastsOf 104 (.goto) 108 107 := by decide +kernel
theorem d_X7_lastsOf_107 : Dc cX7_lastsOf 107 (.iconst 1) 1 108 := by decide +kernel
theorem d_X7_lastsOf_108 : Dc cX7_lastsOf 108 (.iadd) 1 109 := by decide +kernel
theorem d_X7_lastsOf_109 : Dc cX7_lastsOf 109 (.istore 7) 2 111 := by decide +kernel
theorem d_X7_lastsOf_111 : Dc cX7_lastsOf 111 (.iload 7) 2 113 := by decide +kernel
theorem d_X7_lastsOf_113 : Dc cX7_lastsOf 113 (.iconst 1) 1 114 := by decide +kernel
theorem d_X7_lastsOf_114 : Dq cX7_lastsOf 114 (.if_icmp .ge) 121 117 := by decide +kernel
theorem d_X7_lastsOf_117 : Dc cX7_lastsOf 117 (.iconst 1) 1 118 := by decide +kernel
theorem d_X7_lastsOf_118 : Dq cX7_lastsOf 118 (.goto) 123 121 := by decide +kernel
theorem d_X7_lastsOf_121 : Dc cX7_lastsOf 121 (.iload 7) 2 123 := by decide +kernel
theorem d_X7_lastsOf_123 : Dc cX7_lastsOf 123 (.ireturn) 1 124 := by decide +kernel
theorem d_X7_comesOut_0 : Dc cX7_comesOut 0 (.aload_n 2) 1 1 := by decide +kernel
theorem d_X7_comesOut_1 : Dc cX7_comesOut 1 (.iconst 3) 1 2 := by decide +kernel
theorem d_X7_comesOut_2 : Dc cX7_comesOut 2 (.iload_n 3) 1 3 := by decide +kernel
theorem d_X7_comesOut_3 : Dc cX7_comesOut 3 (.iadd) 1 4 := by decide +kernel
theorem d_X7_comesOut_4 : Dc cX7_comesOut 4 (.iaload) 1 5 := by decide +kernel
theorem d_X7_comesOut_5 : Dc cX7_comesOut 5 (.istore 4) 2 7 := by decide +kernel
theorem d_X7_comesOut_7 : Dc cX7_comesOut 7 (.aload_n 2) 1 8 := by decide +kernel
theorem d_X7_comesOut_8 : Dc cX7_comesOut 8 (.bipush 8) 2 10 := by decide +kernel
theorem d_X7_comesOut_10 : Dc cX7_comesOut 10 (.iload_n 3) 1 11 := by decide +kernel
theorem d_X7_comesOut_11 : Dc cX7_comesOut 11 (.iadd) 1 12 := by decide +kernel
theorem d_X7_comesOut_12 : Dc cX7_comesOut 12 (.dup2) 1 13 := by decide +kernel
theorem d_X7_comesOut_13 : Dc cX7_comesOut 13 (.iaload) 1 14 := by decide +kernel
theorem d_X7_comesOut_14 : Dc cX7_comesOut 14 (.iconst 1) 1 15 := by decide +kernel
theorem d_X7_comesOut_15 : Dc cX7_comesOut 15 (.isub) 1 16 := by decide +kernel
theorem d_X7_comesOut_16 : Dc cX7_comesOut 16 (.iastore) 1 17 := by decide +kernel
theorem d_X7_comesOut_17 : Dc cX7_comesOut 17 (.aload_n 2) 1 18 := by decide +kernel
theorem d_X7_comesOut_18 : Dc cX7_comesOut 18 (.bipush 8) 2 20 := by decide +kernel
theorem d_X7_comesOut_20 : Dc cX7_comesOut 20 (.iload_n 3) 1 21 := by decide +kernel
theorem d_X7_comesOut_21 : Dc cX7_comesOut 21 (.iadd) 1 22 := by decide +kernel
theorem d_X7_comesOut_22 : Dc cX7_comesOut 22 (.iaload) 1 23 := by decide +kernel
theorem d_X7_comesOut_23 : Dq cX7_comesOut 23 (.ifCond .ne) 131 26 := by decide +kernel
theorem d_X7_comesOut_26 : Dc cX7_comesOut 26 (.aload_n 1) 1 27 := by decide +kernel
theorem d_X7_comesOut_27 : Dc cX7_comesOut 27 (.iconst 2) 1 28 := by decide +kernel
theorem d_X7_comesOut_28 : Dc cX7_comesOut 28 (.iload_n 3) 1 29 := by decide +kernel
theorem d_X7_comesOut_29 : Dc cX7_comesOut 29 (.iadd) 1 30 := by decide +kernel
theorem d_X7_comesOut_30 : Dc cX7_comesOut 30 (.iaload) 1 31 := by decide +kernel
theorem d_X7_comesOut_31 : Dc cX7_comesOut 31 (.invokestatic 152) 3 34 := by decide +kernel
theorem d_X7_comesOut_34 : Dq cX7_comesOut 34 (.ifCond .ne) 41 37 := by decide +kernel
theorem d_X7_comesOut_37 : Dc cX7_comesOut 37 (.iconst 1) 1 38 := by decide +kernel
theorem d_X7_comesOut_38 : Dq cX7_comesOut 38 (.goto) 42 41 := by decide +kernel
theorem d_X7_comesOut_41 : Dc cX7_comesOut 41 (.iconst 0) 1 42 := by decide +kernel
theorem d_X7_comesOut_42 : Dc cX7_comesOut 42 (.istore 5) 2 44 := by decide +kernel
theorem d_X7_comesOut_44 : Dc cX7_comesOut 44 (.aload_n 2) 1 45 := by decide +kernel
theorem d_X7_comesOut_45 : Dc cX7_comesOut 45 (.bipush 30) 2 47 := by decide +kernel
theorem d_X7_comesOut_47 : Dc cX7_comesOut 47 (.iload 4) 2 49 := by decide +kernel
theorem d_X7_comesOut_49 : Dc cX7_comesOut 49 (.iadd) 1 50 := by decide +kernel
theorem d_X7_comesOut_50 : Dc cX7_comesOut 50 (.iload 5) 2 52 := by decide +kernel
theorem d_X7_comesOut_52 : Dq cX7_comesOut 52 (.ifCond .eq) 59 55 := by decide +kernel
theorem d_X7_comesOut_55 : Dc cX7_comesOut 55 (.iconst 2) 1 56 := by decide +kernel
theorem d_X7_comesOut_56 : Dq cX7_comesOut 56 (.goto) 60 59 := by decide +kernel
theorem d_X7_comesOut_59 : Dc cX7_comesOut 59 (.iconst 1) 1 60 := by decide +kernel
theorem d_X7_comesOut_60 : Dc cX7_comesOut 60 (.iastore) 1 61 := by decide +kernel
theorem d_X7_comesOut_61 : Dc cX7_comesOut 61 (.aload_n 2) 1 62 := by decide +kernel
theorem d_X7_comesOut_62 : Dc cX7_comesOut 62 (.bipush 36) 2 64 := by decide +kernel
theorem d_X7_comesOut_64 : Dc cX7_comesOut 64 (.iload 4) 2 66 := by decide +kernel
theorem d_X7_comesOut_66 : Dc cX7_comesOut 66 (.iadd) 1 67 := by decide +kernel
theorem d_X7_comesOut_67 : Dc cX7_comesOut 67 (.iload 5) 2 69 := by decide +kernel
theorem d_X7_comesOut_69 : Dq cX7_comesOut 69 (.ifCond .eq) 78 72 := by decide +kernel
theorem d_X7_comesOut_72 : Dc cX7_comesOut 72 (.aload_n 2) 1 73 := by decide +kernel
theorem d_X7_comesOut_73 : Dc cX7_comesOut 73 (.iconst 0) 1 74 := by decide +kernel
theorem d_X7_comesOut_74 : Dc cX7_comesOut 74 (.iaload) 1 75 := by decide +kernel
theorem d_X7_comesOut_75 : Dq cX7_comesOut 75 (.goto) 79 78 := by decide +kernel
theorem d_X7_comesOut_78 : Dc cX7_comesOut 78 (.iconst 0) 1 79 := by decide +kernel
theorem d_X7_comesOut_79 : Dc cX7_comesOut 79 (.iastore) 1 80 := by decide +kernel
theorem d_X7_comesOut_80 : Dc cX7_comesOut 80 (.aload_n 0) 1 81 := by decide +kernel
theorem d_X7_comesOut_81 : Dc cX7_comesOut 81 (.dup) 1 82 := by decide +kernel
theorem d_X7_comesOut_82 : Dc cX7_comesOut 82 (.getfield 155) 3 85 := by decide +kernel
theorem d_X7_comesOut_85 : Dc cX7_comesOut 85 (.iload 5) 2 87 := by decide +kernel
theorem d_X7_comesOut_87 : Dq cX7_comesOut 87 (.ifCond .eq) 94 90 := by decide +kernel
theorem d_X7_comesOut_90 : Dc cX7_comesOut 90 (.iconst 1) 1 91 := by decide +kernel
theorem d_X7_comesOut_91 : Dq cX7_comesOut 91 (.goto) 95 94 := by decide +kernel
theorem d_X7_comesOut_94 : Dc cX7_comesOut 94 (.iconst 0) 1 95 := by decide +kernel
theorem d_X7_comesOut_95 : Dc cX7_comesOut 95 (.iadd) 1 96 := by decide +kernel
theorem d_X7_comesOut_96 : Dc cX7_comesOut 96 (.putfield 155) 3 99 := by decide +kernel
theorem d_X7_comesOut_99 : Dc cX7_comesOut 99 (.aload_n 2) 1 100 := by decide +kernel
theorem d_X7_comesOut_100 : Dc cX7_comesOut 100 (.iconst 3) 1 101 := by decide +kernel
theorem d_X7_comesOut_101 : Dc cX7_comesOut 101 (.iload_n 3) 1 102 := by decide +kernel
theorem d_X7_comesOut_102 : Dc cX7_comesOut 102 (.iadd) 1 103 := by decide +kernel
theorem d_X7_comesOut_103 : Dc cX7_comesOut 103 (.iconst (-1)) 1 104 := by decide +kernel
theorem d_X7_comesOut_104 : Dc cX7_comesOut 104 (.iastore) 1 105 := by decide +kernel
theorem d_X7_comesOut_105 : Dc cX7_comesOut 105 (.aload_n 2) 1 106 := by decide +kernel
theorem d_X7_comesOut_106 : Dc cX7_comesOut 106 (.bipush 13) 2 108 := by decide +kernel
theorem d_X7_comesOut_108 : Dc cX7_comesOut 108 (.iload_n 3) 1 109 := by decide +kernel
theorem d_X7_comesOut_109 : Dc cX7_comesOut 109 (.iadd) 1 110 := by decide +kernel
theorem d_X7_comesOut_110 : Dc cX7_comesOut 110 (.dup2) 1 111 := by decide +kernel
theorem d_X7_comesOut_111 : Dc cX7_comesOut 111 (.iaload) 1 112 := by decide +kernel
theorem d_X7_comesOut_112 : Dc cX7_comesOut 112 (.aload_n 2) 1 113 := by decide +kernel
theorem d_X7_comesOut_113 : Dc cX7_comesOut 113 (.bipush 13) 2 115 := by decide +kernel
theorem d_X7_comesOut_115 : Dc cX7_comesOut 115 (.iload_n 3) 1 116 := by decide +kernel
theorem d_X7_comesOut_116 : Dc cX7_comesOut 116 (.iadd) 1 117 := by decide +kernel
theorem d_X7_comesOut_117 : Dc cX7_comesOut 117 (.iaload) 1 118 := by decide +kernel
theorem d_X7_comesOut_118 : Dc cX7_comesOut 118 (.sipush 999) 3 121 := by decide +kernel
theorem d_X7_comesOut_121 : Dq cX7_comesOut 121 (.if_icmp .ge) 128 124 := by decide +kernel
theorem d_X7_comesOut_124 : Dc cX7_comesOut 124 (.iconst 1) 1 125 := by decide +kernel
theorem d_X7_comesOut_125 : Dq cX7_comesOut 125 (.goto) 129 128 := by decide +kernel
theorem d_X7_comesOut_128 : Dc cX7_comesOut 128 (.iconst 0) 1 129 := by decide +kernel
theorem d_X7_comesOut_129 : Dc cX7_comesOut 129 (.iadd) 1 130 := by decide +kernel
theorem d_X7_comesOut_130 : Dc cX7_comesOut 130 (.iastore) 1 131 := by decide +kernel
theorem d_X7_comesOut_131 : Dc cX7_comesOut 131 (.return_) 1 132 := by decide +kernel
theorem d_X7_waits_0 : Dc cX7_waits 0 (.iconst 0) 1 1 := by decide +kernel
theorem d_X7_waits_1 : Dc cX7_waits 1 (.istore 4) 2 3 := by decide +kernel
theorem d_X7_waits_3 : Dc cX7_waits 3 (.iload 4) 2 5 := by decide +kernel
theorem d_X7_waits_5 : Dc cX7_waits 5 (.aload_n 1) 1 6 := by decide +kernel
theorem d_X7_waits_6 : Dc cX7_waits 6 (.iconst 1) 1 7 := by decide +kernel
theorem d_X7_waits_7 : Dc cX7_waits 7 (.iaload) 1 8 := by decide +kernel
theorem d_X7_waits_8 : Dq cX7_waits 8 (.if_icmp .ge) 71 11 := by decide +kernel
theorem d_X7_waits_11 : Dc cX7_waits 11 (.aload_n 0) 1 12 := by decide +kernel
theorem d_X7_waits_12 : Dc cX7_waits 12 (.getfield 40) 3 15 := by decide +kernel
theorem d_X7_waits_15 : Dc cX7_waits 15 (.iload 4) 2 17 := by decide +kernel
theorem d_X7_waits_17 : Dc cX7_waits 17 (.iaload) 1 18 := by decide +kernel
theorem d_X7_waits_18 : Dc cX7_waits 18 (.istore 5) 2 20 := by decide +kernel
theorem d_X7_waits_20 : Dc cX7_waits 20 (.aload_n 2) 1 21 := by decide +kernel
theorem d_X7_waits_21 : Dc cX7_waits 21 (.bipush 30) 2 23 := by decide +kernel
theorem d_X7_waits_23 : Dc cX7_waits 23 (.iload 5) 2 25 := by decide +kernel
theorem d_X7_waits_25 : Dc cX7_waits 25 (.iadd) 1 26 := by decide +kernel
theorem d_X7_waits_26 : Dc cX7_waits 26 (.iaload) 1 27 := by decide +kernel
theorem d_X7_waits_27 : Dc cX7_waits 27 (.aload_n 1) 1 28 := by decide +kernel
theorem d_X7_waits_28 : Dc cX7_waits 28 (.iconst 2) 1 29 := by decide +kernel
theorem d_X7_waits_29 : Dc cX7_waits 29 (.iload_n 3) 1 30 := by decide +kernel
theorem d_X7_waits_30 : Dc cX7_waits 30 (.iadd) 1 31 := by decide +kernel
theorem d_X7_waits_31 : Dc cX7_waits 31 (.iaload) 1 32 := by decide +kernel
theorem d_X7_waits_32 : Dc cX7_waits 32 (.invokestatic 152) 3 35 := by decide +kernel
theorem d_X7_waits_35 : Dq cX7_waits 35 (.ifCond .eq) 42 38 := by decide +kernel
theorem d_X7_waits_38 : Dc cX7_waits 38 (.iconst 0) 1 39 := by decide +kernel
theorem d_X7_waits_39 : Dq cX7_waits 39 (.goto) 43 42 := by decide +kernel
theorem d_X7_waits_42 : Dc cX7_waits 42 (.iconst 1) 1 43 := by decide +kernel
theorem d_X7_waits_43 : Dq cX7_waits 43 (.if_icmp .ne) 65 46 := by decide +kernel
theorem d_X7_waits_46 : Dc cX7_waits 46 (.aload_n 2) 1 47 := by decide +kernel
theorem d_X7_waits_47 : Dc cX7_waits 47 (.bipush 18) 2 49 := by decide +kernel
theorem d_X7_waits_49 : Dc cX7_waits 49 (.iload 5) 2 51 := by decide +kernel
theorem d_X7_waits_51 : Dc cX7_waits 51 (.iadd) 1 52 := by decide +kernel
theorem d_X7_waits_52 : Dc cX7_waits 52 (.iaload) 1 53 := by decide +kernel
theorem d_X7_waits_53 : Dc cX7_waits 53 (.aload_n 1) 1 54 := by decide +kernel
theorem d_X7_waits_54 : Dc cX7_waits 54 (.bipush 7) 2 56 := by decide +kernel
theorem d_X7_waits_56 : Dc cX7_waits 56 (.iload_n 3) 1 57 := by decide +kernel
theorem d_X7_waits_57 : Dc cX7_waits 57 (.iadd) 1 58 := by decide +kernel
theorem d_X7_waits_58 : Dc cX7_waits 58 (.iaload) 1 59 := by decide +kernel
theorem d_X7_waits_59 : Dq cX7_waits 59 (.if_icmp .gt) 65 62 := by decide +kernel
theorem d_X7_waits_62 : Dc cX7_waits 62 (.iload 5) 2 64 := by decide +kernel
theorem d_X7_waits_64 : Dc cX7_waits 64 (.ireturn) 1 65 := by decide +kernel
theorem d_X7_waits_65 : Dc cX7_waits 65 (.iinc 4 1) 3 68 := by decide +kernel
theorem d_X7_waits_68 : Dq cX7_waits 68 (.goto) 3 71 := by decide +kernel
theorem d_X7_waits_71 : Dc cX7_waits 71 (.iconst (-1)) 1 72 := by decide +kernel
theorem d_X7_waits_72 : Dc cX7_waits 72 (.ireturn) 1 73 := by decide +kernel
theorem d_X7_ticksOne_0 : Dc cX7_ticksOne 0 (.iconst 0) 1 1 := by decide +kernel
theorem d_X7_ticksOne_1 : Dc cX7_ticksOne 1 (.istore_n 3) 1 2 := by decide +kernel
theorem d_X7_ticksOne_2 : Dc cX7_ticksOne 2 (.iload_n 3) 1 3 := by decide +kernel
theorem d_X7_ticksOne_3 : Dc cX7_ticksOne 3 (.aload_n 1) 1 4 := by decide +kernel
theorem d_X7_ticksOne_4 : Dc cX7_ticksOne 4 (.iconst 0) 1 5 := by decide +kernel
theorem d_X7_ticksOne_5 : Dc cX7_ticksOne 5 (.iaload) 1 6 := by decide +kernel
theorem d_X7_ticksOne_6 : Dq cX7_ticksOne 6 (.if_icmp .ge) 30 9 := by decide +kernel
theorem d_X7_ticksOne_9 : Dc cX7_ticksOne 9 (.aload_n 2) 1 10 := by decide +kernel
theorem d_X7_ticksOne_10 : Dc cX7_ticksOne 10 (.iconst 3) 1 11 := by decide +kernel
theorem d_X7_ticksOne_11 : Dc cX7_ticksOne 11 (.iload_n 3) 1 12 := by decide +kernel
theorem d_X7_ticksOne_12 : Dc cX7_ticksOne 12 (.iadd) 1 13 := by decide +kernel
theorem d_X7_ticksOne_13 : Dc cX7_ticksOne 13 (.iaload) 1 14 := by decide +kernel
theorem d_X7_ticksOne_14 : Dq cX7_ticksOne 14 (.ifCond .lt) 24 17 := by decide +kernel
theorem d_X7_ticksOne_17 : Dc cX7_ticksOne 17 (.aload_n 0) 1 18 := by decide +kernel
theorem d_X7_ticksOne_18 : Dc cX7_ticksOne 18 (.aload_n 1) 1 19 := by decide +kernel
theorem d_X7_ticksOne_19 : Dc cX7_ticksOne 19 (.aload_n 2) 1 20 := by decide +kernel
theorem d_X7_ticksOne_20 : Dc cX7_ticksOne 20 (.iload_n 3) 1 21 := by decide +kernel
theorem d_X7_ticksOne_21 : Dc cX7_ticksOne 21 (.invokevirtual 158) 3 24 := by decide +kernel
theorem d_X7_ticksOne_24 : Dc cX7_ticksOne 24 (.iinc 3 1) 3 27 := by decide +kernel
theorem d_X7_ticksOne_27 : Dq cX7_ticksOne 27 (.goto) 2 30 := by decide +kernel
theorem d_X7_ticksOne_30 : Dc cX7_ticksOne 30 (.iconst 0) 1 31 := by decide +kernel
theorem d_X7_ticksOne_31 : Dc cX7_ticksOne 31 (.istore_n 3) 1 32 := by decide +kernel
theorem d_X7_ticksOne_32 : Dc cX7_ticksOne 32 (.iconst 0) 1 33 := by decide +kernel
theorem d_X7_ticksOne_33 : Dc cX7_ticksOne 33 (.istore 4) 2 35 := by decide +kernel
theorem d_X7_ticksOne_35 : Dc cX7_ticksOne 35 (.iload 4) 2 37 := by decide +kernel
theorem d_X7_ticksOne_37 : Dc cX7_ticksOne 37 (.aload_n 1) 1 38 := by decide +kernel
theorem d_X7_ticksOne_38 : Dc cX7_ticksOne 38 (.iconst 0) 1 39 := by decide +kernel
theorem d_X7_ticksOne_39 : Dc cX7_ticksOne 39 (.iaload) 1 40 := by decide +kernel
theorem d_X7_ticksOne_40 : Dq cX7_ticksOne 40 (.if_icmp .ge) 66 43 := by decide +kernel
theorem d_X7_ticksOne_43 : Dc cX7_ticksOne 43 (.iload_n 3) 1 44 := by decide +kernel
theorem d_X7_ticksOne_44 : Dc cX7_ticksOne 44 (.aload_n 2) 1 45 := by decide +kernel
theorem d_X7_ticksOne_45 : Dc cX7_ticksOne 45 (.iconst 3) 1 46 := by decide +kernel
theorem d_X7_ticksOne_46 : Dc cX7_ticksOne 46 (.iload 4) 2 48 := by decide +kernel
theorem d_X7_ticksOne_48 : Dc cX7_ticksOne 48 (.iadd) 1 49 := by decide +kernel
theorem d_X7_ticksOne_49 : Dc cX7_ticksOne 49 (.iaload) 1 50 := by decide +kernel
theorem d_X7_ticksOne_50 : Dq cX7_ticksOne 50 (.ifCond .lt) 57 53 := by decide +kernel
theorem d_X7_ticksOne_53 : Dc cX7_ticksOne 53 (.iconst 1) 1 54 := by decide +kernel
theorem d_X7_ticksOne_54 : Dq cX7_ticksOne 54 (.goto) 58 57 := by decide +kernel
theorem d_X7_ticksOne_57 : Dc cX7_ticksOne 57 (.iconst 0) 1 58 := by decide +kernel
theorem d_X7_ticksOne_58 : Dc cX7_ticksOne 58 (.iadd) 1 59 := by decide +kernel
theorem d_X7_ticksOne_59 : Dc cX7_ticksOne 59 (.istore_n 3) 1 60 := by decide +kernel
theorem d_X7_ticksOne_60 : Dc cX7_ticksOne 60 (.iinc 4 1) 3 63 := by decide +kernel
theorem d_X7_ticksOne_63 : Dq cX7_ticksOne 63 (.goto) 35 66 := by decide +kernel
theorem d_X7_ticksOne_66 : Dc cX7_ticksOne 66 (.iconst 0) 1 67 := by decide +kernel
theorem d_X7_ticksOne_67 : Dc cX7_ticksOne 67 (.istore 4) 2 69 := by decide +kernel
theorem d_X7_ticksOne_69 : Dc cX7_ticksOne 69 (.iload 4) 2 71 := by decide +kernel
theorem d_X7_ticksOne_71 : Dc cX7_ticksOne 71 (.aload_n 1) 1 72 := by decide +kernel
theorem d_X7_ticksOne_72 : Dc cX7_ticksOne 72 (.iconst 0) 1 73 := by decide +kernel
theorem d_X7_ticksOne_73 : Dc cX7_ticksOne 73 (.iaload) 1 74 := by decide +kernel
theorem d_X7_ticksOne_74 : Dq cX7_ticksOne 74 (.if_icmp .ge) 168 77 := by decide +kernel
theorem d_X7_ticksOne_77 : Dc cX7_ticksOne 77 (.aload_n 2) 1 78 := by decide +kernel
theorem d_X7_ticksOne_78 : Dc cX7_ticksOne 78 (.iconst 3) 1 79 := by decide +kernel
theorem d_X7_ticksOne_79 : Dc cX7_ticksOne 79 (.iload 4) 2 81 := by decide +kernel
theorem d_X7_ticksOne_81 : Dc cX7_ticksOne 81 (.iadd) 1 82 := by decide +kernel
theorem d_X7_ticksOne_82 : Dc cX7_ticksOne 82 (.iaload) 1 83 := by decide +kernel
theorem d_X7_ticksOne_83 : Dq cX7_ticksOne 83 (.ifCond .ge) 115 86 := by decide +kernel
theorem d_X7_ticksOne_86 : Dc cX7_ticksOne 86 (.aload_n 2) 1 87 := by decide +kernel
theorem d_X7_ticksOne_87 : Dc cX7_ticksOne 87 (.iconst 2) 1 88 := by decide +kernel
theorem d_X7_ticksOne_88 : Dc cX7_ticksOne 88 (.iaload) 1 89 := by decide +kernel
theorem d_X7_ticksOne_89 : Dc cX7_ticksOne 89 (.iload 4) 2 91 := by decide +kernel
theorem d_X7_ticksOne_91 : Dc cX7_ticksOne 91 (.invokestatic 162) 3 94 := by decide +kernel
theorem d_X7_ticksOne_94 : Dq cX7_ticksOne 94 (.ifCond .eq) 115 97 := by decide +kernel
theorem d_X7_ticksOne_97 : Dc cX7_ticksOne 97 (.iload_n 3) 1 98 := by decide +kernel
theorem d_X7_ticksOne_98 : Dc cX7_ticksOne 98 (.aload_n 2) 1 99 := by decide +kernel
theorem d_X7_ticksOne_99 : Dc cX7_ticksOne 99 (.iconst 1) 1 100 := by decide +kernel
theorem d_X7_ticksOne_100 : Dc cX7_ticksOne 100 (.iaload) 1 101 := by decide +kernel
theorem d_X7_ticksOne_101 : Dq cX7_ticksOne 101 (.if_icmp .ge) 115 104 := by decide +kernel
theorem d_X7_ticksOne_104 : Dc cX7_ticksOne 104 (.aload_n 0) 1 105 := by decide +kernel
theorem d_X7_ticksOne_105 : Dc cX7_ticksOne 105 (.aload_n 1) 1 106 := by decide +kernel
theorem d_X7_ticksOne_106 : Dc cX7_ticksOne 106 (.aload_n 2) 1 107 := by decide +kernel
theorem d_X7_ticksOne_107 : Dc cX7_ticksOne 107 (.iload 4) 2 109 := by decide +kernel
theorem d_X7_ticksOne_109 : Dc cX7_ticksOne 109 (.invokevirtual 166) 3 112 := by decide +kernel
theorem d_X7_ticksOne_112 : Dq cX7_ticksOne 112 (.goto) 116 115 := by decide +kernel
theorem d_X7_ticksOne_115 : Dc cX7_ticksOne 115 (.iconst (-1)) 1 116 := by decide +kernel
theorem d_X7_ticksOne_116 : Dc cX7_ticksOne 116 (.istore 5) 2 118 := by decide +kernel
theorem d_X7_ticksOne_118 : Dc cX7_ticksOne 118 (.iload 5) 2 120 := by decide +kernel
theorem d_X7_ticksOne_120 : Dq cX7_ticksOne 120 (.ifCond .lt) 162 123 := by decide +kernel
theorem d_X7_ticksOne_123 : Dc cX7_ticksOne 123 (.aload_n 2) 1 124 := by decide +kernel
theorem d_X7_ticksOne_124 : Dc cX7_ticksOne 124 (.iconst 3) 1 125 := by decide +kernel
theorem d_X7_ticksOne_125 : Dc cX7_ticksOne 125 (.iload 4) 2 127 := by decide +kernel
theorem d_X7_ticksOne_127 : Dc cX7_ticksOne 127 (.iadd) 1 128 := by decide +kernel
theorem d_X7_ticksOne_128 : Dc cX7_ticksOne 128 (.iload 5) 2 130 := by decide +kernel
theorem d_X7_ticksOne_130 : Dc cX7_ticksOne 130 (.iastore) 1 131 := by decide +kernel
theorem d_X7_ticksOne_131 : Dc cX7_ticksOne 131 (.aload_n 2) 1 132 := by decide +kernel
theorem d_X7_ticksOne_132 : Dc cX7_ticksOne 132 (.bipush 8) 2 134 := by decide +kernel
theorem d_X7_ticksOne_134 : Dc cX7_ticksOne 134 (.iload 4) 2 136 := by decide +kernel
theorem d_X7_ticksOne_136 : Dc cX7_ticksOne 136 (.iadd) 1 137 := by decide +kernel
theorem d_X7_ticksOne_137 : Dc cX7_ticksOne 137 (.aload_n 1) 1 138 := by decide +kernel
theorem d_X7_ticksOne_138 : Dc cX7_ticksOne 138 (.aload_n 2) 1 139 := by decide +kernel
theorem d_X7_ticksOne_139 : Dc cX7_ticksOne 139 (.iload 4) 2 141 := by decide +kernel
theorem d_X7_ticksOne_141 : Dc cX7_ticksOne 141 (.iload 5) 2 143 := by decide +kernel
theorem d_X7_ticksOne_143 : Dc cX7_ticksOne 143 (.invokestatic 170) 3 146 := by decide +kernel
theorem d_X7_ticksOne_146 : Dc cX7_ticksOne 146 (.iastore) 1 147 := by decide +kernel
theorem d_X7_ticksOne_147 : Dc cX7_ticksOne 147 (.aload_n 2) 1 148 := by decide +kernel
theorem d_X7_ticksOne_148 : Dc cX7_ticksOne 148 (.bipush 30) 2 150 := by decide +kernel
theorem d_X7_ticksOne_150 : Dc cX7_ticksOne 150 (.iload 5) 2 152 := by decide +kernel
theorem d_X7_ticksOne_152 : Dc cX7_ticksOne 152 (.iadd) 1 153 := by decide +kernel
theorem d_X7_ticksOne_153 : Dc cX7_ticksOne 153 (.bipush 10) 2 155 := by decide +kernel
theorem d_X7_ticksOne_155 : Dc cX7_ticksOne 155 (.iload 4) 2 157 := by decide +kernel
theorem d_X7_ticksOne_157 : Dc cX7_ticksOne 157 (.iadd) 1 158 := by decide +kernel
theorem d_X7_ticksOne_158 : Dc cX7_ticksOne 158 (.iastore) 1 159 := by decide +kernel
theorem d_X7_ticksOne_159 : Dc cX7_ticksOne 159 (.iinc 3 1) 3 162 := by decide +kernel
theorem d_X7_ticksOne_162 : Dc cX7_ticksOne 162 (.iinc 4 1) 3 165 := by decide +kernel
theorem d_X7_ticksOne_165 : Dq cX7_ticksOne 165 (.goto) 69 168 := by decide +kernel
theorem d_X7_ticksOne_168 : Dc cX7_ticksOne 168 (.aload_n 2) 1 169 := by decide +kernel
theorem d_X7_ticksOne_169 : Dc cX7_ticksOne 169 (.iconst 0) 1 170 := by decide +kernel
theorem d_X7_ticksOne_170 : Dc cX7_ticksOne 170 (.dup2) 1 171 := by decide +kernel
theorem d_X7_ticksOne_171 : Dc cX7_ticksOne 171 (.iaload) 1 172 := by decide +kernel
theorem d_X7_ticksOne_172 : Dc cX7_ticksOne 172 (.iconst 1) 1 173 := by decide +kernel
theorem d_X7_ticksOne_173 : Dc cX7_ticksOne 173 (.iadd) 1 174 := by decide +kernel
theorem d_X7_ticksOne_174 : Dc cX7_ticksOne 174 (.iastore) 1 175 := by decide +kernel
theorem d_X7_ticksOne_175 : Dc cX7_ticksOne 175 (.return_) 1 176 := by decide +kernel
theorem d_X7_ranksByNumber_0 : Dc cX7_ranksByNumber 0 (.iconst 0) 1 1 := by decide +kernel
theorem d_X7_ranksByNumber_1 : Dc cX7_ranksByNumber 1 (.istore_n 1) 1 2 := by decide +kernel
theorem d_X7_ranksByNumber_2 : Dc cX7_ranksByNumber 2 (.iload_n 1) 1 3 := by decide +kernel
theorem d_X7_ranksByNumber_3 : Dc cX7_ranksByNumber 3 (.bipush 6) 2 5 := by decide +kernel
theorem d_X7_ranksByNumber_5 : Dq cX7_ranksByNumber 5 (.if_icmp .ge) 21 8 := by decide +kernel
theorem d_X7_ranksByNumber_8 : Dc cX7_ranksByNumber 8 (.aload_n 0) 1 9 := by decide +kernel
theorem d_X7_ranksByNumber_9 : Dc cX7_ranksByNumber 9 (.getfield 40) 3 12 := by decide +kernel
theorem d_X7_ranksByNumber_12 : Dc cX7_ranksByNumber 12 (.iload_n 1) 1 13 := by decide +kernel
theorem d_X7_ranksByNumber_13 : Dc cX7_ranksByNumber 13 (.iload_n 1) 1 14 := by decide +kernel
theorem d_X7_ranksByNumber_14 : Dc cX7_ranksByNumber 14 (.iastore) 1 15 := by decide +kernel
theorem d_X7_ranksByNumber_15 : Dc cX7_ranksByNumber 15 (.iinc 1 1) 3 18 := by decide +kernel
theorem d_X7_ranksByNumber_18 : Dq cX7_ranksByNumber 18 (.goto) 2 21 := by decide +kernel
theorem d_X7_ranksByNumber_21 : Dc cX7_ranksByNumber 21 (.return_) 1 22 := by decide +kernel
theorem d_X7_asNow_0 : Dc cX7_asNow 0 (.iconst 0) 1 1 := by decide +kernel
theorem d_X7_asNow_1 : Dc cX7_asNow 1 (.istore_n 1) 1 2 := by decide +kernel
theorem d_X7_asNow_2 : Dc cX7_asNow 2 (.iload_n 1) 1 3 := by decide +kernel
theorem d_X7_asNow_3 : Dc cX7_asNow 3 (.bipush 17) 2 5 := by decide +kernel
theorem d_X7_asNow_5 : Dq cX7_asNow 5 (.if_icmp .ge) 26 8 := by decide +kernel
theorem d_X7_asNow_8 : Dc cX7_asNow 8 (.aload_n 0) 1 9 := by decide +kernel
theorem d_X7_asNow_9 : Dc cX7_asNow 9 (.getfield 34) 3 12 := by decide +kernel
theorem d_X7_asNow_12 : Dc cX7_asNow 12 (.iload_n 1) 1 13 := by decide +kernel
theorem d_X7_asNow_13 : Dc cX7_asNow 13 (.aload_n 0) 1 14 := by decide +kernel
theorem d_X7_asNow_14 : Dc cX7_asNow 14 (.getfield 28) 3 17 := by decide +kernel
theorem d_X7_asNow_17 : Dc cX7_asNow 17 (.iload_n 1) 1 18 := by decide +kernel
theorem d_X7_asNow_18 : Dc cX7_asNow 18 (.iaload) 1 19 := by decide +kernel
theorem d_X7_asNow_19 : Dc cX7_asNow 19 (.iastore) 1 20 := by decide +kernel
theorem d_X7_asNow_20 : Dc cX7_asNow 20 (.iinc 1 1) 3 23 := by decide +kernel
theorem d_X7_asNow_23 : Dq cX7_asNow 23 (.goto) 2 26 := by decide +kernel
theorem d_X7_asNow_26 : Dc cX7_asNow 26 (.iconst 0) 1 27 := by decide +kernel
theorem d_X7_asNow_27 : Dc cX7_asNow 27 (.istore_n 1) 1 28 := by decide +kernel
theorem d_X7_asNow_28 : Dc cX7_asNow 28 (.iload_n 1) 1 29 := by decide +kernel
theorem d_X7_asNow_29 : Dc cX7_asNow 29 (.bipush 42) 2 31 := by decide +kernel
theorem d_X7_asNow_31 : Dq cX7_asNow 31 (.if_icmp .ge) 52 34 := by decide +kernel
theorem d_X7_asNow_34 : Dc cX7_asNow 34 (.aload_n 0) 1 35 := by decide +kernel
theorem d_X7_asNow_35 : Dc cX7_asNow 35 (.getfield 37) 3 38 := by decide +kernel
theorem d_X7_asNow_38 : Dc cX7_asNow 38 (.iload_n 1) 1 39 := by decide +kernel
theorem d_X7_asNow_39 : Dc cX7_asNow 39 (.aload_n 0) 1 40 := by decide +kernel
theorem d_X7_asNow_40 : Dc cX7_asNow 40 (.getfield 31) 3 43 := by decide +kernel
theorem d_X7_asNow_43 : Dc cX7_asNow 43 (.iload_n 1) 1 44 := by decide +kernel
theorem d_X7_asNow_44 : Dc cX7_asNow 44 (.iaload) 1 45 := by decide +kernel
theorem d_X7_asNow_45 : Dc cX7_asNow 45 (.iastore) 1 46 := by decide +kernel
theorem d_X7_asNow_46 : Dc cX7_asNow 46 (.iinc 1 1) 3 49 := by decide +kernel
theorem d_X7_asNow_49 : Dq cX7_asNow 49 (.goto) 28 52 := by decide +kernel
theorem d_X7_asNow_52 : Dc cX7_asNow 52 (.aload_n 0) 1 53 := by decide +kernel
theorem d_X7_asNow_53 : Dc cX7_asNow 53 (.iconst 0) 1 54 := by decide +kernel
theorem d_X7_asNow_54 : Dc cX7_asNow 54 (.putfield 155) 3 57 := by decide +kernel
theorem d_X7_asNow_57 : Dc cX7_asNow 57 (.return_) 1 58 := by decide +kernel
theorem d_X7_foretells_0 : Dc cX7_foretells 0 (.iconst 0) 1 1 := by decide +kernel
theorem d_X7_foretells_1 : Dc cX7_foretells 1 (.istore_n 2) 1 2 := by decide +kernel
theorem d_X7_foretells_2 : Dc cX7_foretells 2 (.iload_n 2) 1 3 := by decide +kernel
theorem d_X7_foretells_3 : Dc cX7_foretells 3 (.iload_n 1) 1 4 := by decide +kernel
theorem d_X7_foretells_4 : Dq cX7_foretells 4 (.if_icmp .ge) 25 7 := by decide +kernel
theorem d_X7_foretells_7 : Dc cX7_foretells 7 (.aload_n 0) 1 8 := by decide +kernel
theorem d_X7_foretells_8 : Dc cX7_foretells 8 (.aload_n 0) 1 9 := by decide +kernel
theorem d_X7_foretells_9 : Dc cX7_foretells 9 (.getfield 34) 3 12 := by decide +kernel
theorem d_X7_foretells_12 : Dc cX7_foretells 12 (.aload_n 0) 1 13 := by decide +kernel
theorem d_X7_foretells_13 : Dc cX7_foretells 13 (.getfield 37) 3 16 := by decide +kernel
theorem d_X7_foretells_16 : Dc cX7_foretells 16 (.invokevirtual 174) 3 19 := by decide +kernel
theorem d_X7_foretells_19 : Dc cX7_foretells 19 (.iinc 2 1) 3 22 := by decide +kernel
theorem d_X7_foretells_22 : Dq cX7_foretells 22 (.goto) 2 25 := by decide +kernel
theorem d_X7_foretells_25 : Dc cX7_foretells 25 (.return_) 1 26 := by decide +kernel
theorem d_X7_goesAhead_0 : Dc cX7_goesAhead 0 (.aload_n 0) 1 1 := by decide +kernel
theorem d_X7_goesAhead_1 : Dc cX7_goesAhead 1 (.invokevirtual 178) 3 4 := by decide +kernel
theorem d_X7_goesAhead_4 : Dc cX7_goesAhead 4 (.aload_n 0) 1 5 := by decide +kernel
theorem d_X7_goesAhead_5 : Dc cX7_goesAhead 5 (.invokevirtual 181) 3 8 := by decide +kernel
theorem d_X7_goesAhead_8 : Dc cX7_goesAhead 8 (.aload_n 0) 1 9 := by decide +kernel
theorem d_X7_goesAhead_9 : Dc cX7_goesAhead 9 (.iload_n 1) 1 10 := by decide +kernel
theorem d_X7_goesAhead_10 : Dc cX7_goesAhead 10 (.invokevirtual 184) 3 13 := by decide +kernel
theorem d_X7_goesAhead_13 : Dc cX7_goesAhead 13 (.return_) 1 14 := by decide +kernel
theorem d_X7_lateOf_0 : Dc cX7_lateOf 0 (.aload_n 0) 1 1 := by decide +kernel
theorem d_X7_lateOf_1 : Dc cX7_lateOf 1 (.bipush 30) 2 3 := by decide +kernel
theorem d_X7_lateOf_3 : Dc cX7_lateOf 3 (.iload_n 1) 1 4 := by decide +kernel
theorem d_X7_lateOf_4 : Dc cX7_lateOf 4 (.iadd) 1 5 := by decide +kernel
theorem d_X7_lateOf_5 : Dc cX7_lateOf 5 (.iaload) 1 6 := by decide +kernel
theorem d_X7_lateOf_6 : Dc cX7_lateOf 6 (.iconst 2) 1 7 := by decide +kernel
theorem d_X7_lateOf_7 : Dq cX7_lateOf 7 (.if_icmp .ne) 19 10 := by decide +kernel
theorem d_X7_lateOf_10 : Dc cX7_lateOf 10 (.aload_n 0) 1 11 := by decide +kernel
theorem d_X7_lateOf_11 : Dc cX7_lateOf 11 (.bipush 36) 2 13 := by decide +kernel
theorem d_X7_lateOf_13 : Dc cX7_lateOf 13 (.iload_n 1) 1 14 := by decide +kernel
theorem d_X7_lateOf_14 : Dc cX7_lateOf 14 (.iadd) 1 15 := by decide +kernel
theorem d_X7_lateOf_15 : Dc cX7_lateOf 15 (.iaload) 1 16 := by decide +kernel
theorem d_X7_lateOf_16 : Dq cX7_lateOf 16 (.goto) 22 19 := by decide +kernel
theorem d_X7_lateOf_19 : Dc cX7_lateOf 19 (.aload_n 0) 1 20 := by decide +kernel
theorem d_X7_lateOf_20 : Dc cX7_lateOf 20 (.iconst 0) 1 21 := by decide +kernel
theorem d_X7_lateOf_21 : Dc cX7_lateOf 21 (.iaload) 1 22 := by decide +kernel
theorem d_X7_lateOf_22 : Dc cX7_lateOf 22 (.aload_n 0) 1 23 := by decide +kernel
theorem d_X7_lateOf_23 : Dc cX7_lateOf 23 (.bipush 24) 2 25 := by decide +kernel
theorem d_X7_lateOf_25 : Dc cX7_lateOf 25 (.iload_n 1) 1 26 := by decide +kernel
theorem d_X7_lateOf_26 : Dc cX7_lateOf 26 (.iadd) 1 27 := by decide +kernel
theorem d_X7_lateOf_27 : Dc cX7_lateOf 27 (.iaload) 1 28 := by decide +kernel
theorem d_X7_lateOf_28 : Dc cX7_lateOf 28 (.isub) 1 29 := by decide +kernel
theorem d_X7_lateOf_29 : Dc cX7_lateOf 29 (.istore_n 2) 1 30 := by decide +kernel
theorem d_X7_lateOf_30 : Dc cX7_lateOf 30 (.iload_n 2) 1 31 := by decide +kernel
theorem d_X7_lateOf_31 : Dq cX7_lateOf 31 (.ifCond .ge) 38 34 := by decide +kernel
theorem d_X7_lateOf_34 : Dc cX7_lateOf 34 (.iconst 0) 1 35 := by decide +kernel
theorem d_X7_lateOf_35 : Dq cX7_lateOf 35 (.goto) 39 38 := by decide +kernel
theorem d_X7_lateOf_38 : Dc cX7_lateOf 38 (.iload_n 2) 1 39 := by decide +kernel
theorem d_X7_lateOf_39 : Dc cX7_lateOf 39 (.ireturn) 1 40 := by decide +kernel
theorem d_X7_lateAll_0 : Dc cX7_lateAll 0 (.iconst 0) 1 1 := by decide +kernel
theorem d_X7_lateAll_1 : Dc cX7_lateAll 1 (.istore_n 2) 1 2 := by decide +kernel
theorem d_X7_lateAll_2 : Dc cX7_lateAll 2 (.iconst 0) 1 3 := by decide +kernel
theorem d_X7_lateAll_3 : Dc cX7_lateAll 3 (.istore_n 3) 1 4 := by decide +kernel
theorem d_X7_lateAll_4 : Dc cX7_lateAll 4 (.iload_n 3) 1 5 := by decide +kernel
theorem d_X7_lateAll_5 : Dc cX7_lateAll 5 (.aload_n 0) 1 6 := by decide +kernel
theorem d_X7_lateAll_6 : Dc cX7_lateAll 6 (.getfield 28) 3 9 := by decide +kernel
theorem d_X7_lateAll_9 : Dc cX7_lateAll 9 (.iconst 1) 1 10 := by decide +kernel
theorem d_X7_lateAll_10 : Dc cX7_lateAll 10 (.iaload) 1 11 := by decide +kernel
theorem d_X7_lateAll_11 : Dq cX7_lateAll 11 (.if_icmp .ge) 28 14 := by decide +kernel
theorem d_X7_lateAll_14 : Dc cX7_lateAll 14 (.iload_n 2) 1 15 := by decide +kernel
theorem d_X7_lateAll_15 : Dc cX7_lateAll 15 (.aload_n 1) 1 16 := by decide +kernel
theorem d_X7_lateAll_16 : Dc cX7_lateAll 16 (.iload_n 3) 1 17 := by decide +kernel
theorem d_X7_lateAll_17 : Dc cX7_lateAll 17 (.invokestatic 187) 3 20 := by decide +kernel
theorem d_X7_lateAll_20 : Dc cX7_lateAll 20 (.iadd) 1 21 := by decide +kernel
theorem d_X7_lateAll_21 : Dc cX7_lateAll 21 (.istore_n 2) 1 22 := by decide +kernel
theorem d_X7_lateAll_22 : Dc cX7_lateAll 22 (.iinc 3 1) 3 25 := by decide +kernel
theorem d_X7_lateAll_25 : Dq cX7_lateAll 25 (.goto) 4 28 := by decide +kernel
theorem d_X7_lateAll_28 : Dc cX7_lateAll 28 (.iload_n 2) 1 29 := by decide +kernel
theorem d_X7_lateAll_29 : Dc cX7_lateAll 29 (.ireturn) 1 30 := by decide +kernel
theorem d_X7_howAll_0 : Dc cX7_howAll 0 (.iconst 0) 1 1 := by decide +kernel
theorem d_X7_howAll_1 : Dc cX7_howAll 1 (.istore_n 3) 1 2 := by decide +kernel
theorem d_X7_howAll_2 : Dc cX7_howAll 2 (.iconst 0) 1 3 := by decide +kernel
theorem d_X7_howAll_3 : Dc cX7_howAll 3 (.istore 4) 2 5 := by decide +kernel
theorem d_X7_howAll_5 : Dc cX7_howAll 5 (.iload 4) 2 7 := by decide +kernel
theorem d_X7_howAll_7 : Dc cX7_howAll 7 (.aload_n 0) 1 8 := by decide +kernel
theorem d_X7_howAll_8 : Dc cX7_howAll 8 (.getfield 28) 3 11 := by decide +kernel
theorem d_X7_howAll_11 : Dc cX7_howAll 11 (.iconst 1) 1 12 := by decide +kernel
theorem d_X7_howAll_12 : Dc cX7_howAll 12 (.iaload) 1 13 := by decide +kernel
theorem d_X7_howAll_13 : Dq cX7_howAll 13 (.if_icmp .ge) 44 16 := by decide +kernel
theorem d_X7_howAll_16 : Dc cX7_howAll 16 (.iload_n 3) 1 17 := by decide +kernel
theorem d_X7_howAll_17 : Dc cX7_howAll 17 (.aload_n 1) 1 18 := by decide +kernel
theorem d_X7_howAll_18 : Dc cX7_howAll 18 (.bipush 30) 2 20 := by decide +kernel
theorem d_X7_howAll_20 : Dc cX7_howAll 20 (.iload 4) 2 22 := by decide +kernel
theorem d_X7_howAll_22 : Dc cX7_howAll 22 (.iadd) 1 23 := by decide +kernel
theorem d_X7_howAll_23 : Dc cX7_howAll 23 (.iaload) 1 24 := by decide +kernel
theorem d_X7_howAll_24 : Dc cX7_howAll 24 (.iload_n 2) 1 25 := by decide +kernel
theorem d_X7_howAll_25 : Dq cX7_howAll 25 (.if_icmp .ne) 35 28 := by decide +kernel
theorem d_X7_howAll_28 : Dc cX7_howAll 28 (.iconst 1) 1 29 := by decide +kernel
theorem d_X7_howAll_29 : Dc cX7_howAll 29 (.iload 4) 2 31 := by decide +kernel
theorem d_X7_howAll_31 : Dc cX7_howAll 31 (.ishl) 1 32 := by decide +kernel
theorem d_X7_howAll_32 : Dq cX7_howAll 32 (.goto) 36 35 := by decide +kernel
theorem d_X7_howAll_35 : Dc cX7_howAll 35 (.iconst 0) 1 36 := by decide +kernel
theorem d_X7_howAll_36 : Dc cX7_howAll 36 (.ior) 1 37 := by decide +kernel
theorem d_X7_howAll_37 : Dc cX7_howAll 37 (.istore_n 3) 1 38 := by decide +kernel
theorem d_X7_howAll_38 : Dc cX7_howAll 38 (.iinc 4 1) 3 41 := by decide +kernel
theorem d_X7_howAll_41 : Dq cX7_howAll 41 (.goto) 5 44 := by decide +kernel
theorem d_X7_howAll_44 : Dc cX7_howAll 44 (.iload_n 3) 1 45 := by decide +kernel
theorem d_X7_howAll_45 : Dc cX7_howAll 45 (.ireturn) 1 46 := by decide +kernel
theorem d_X7_isAllDry_0 : Dc cX7_isAllDry 0 (.aload_n 0) 1 1 := by decide +kernel
theorem d_X7_isAllDry_1 : Dc cX7_isAllDry 1 (.aload_n 0) 1 2 := by decide +kernel
theorem d_X7_isAllDry_2 : Dc cX7_isAllDry 2 (.getfield 37) 3 5 := by decide +kernel
theorem d_X7_isAllDry_5 : Dc cX7_isAllDry 5 (.iconst 2) 1 6 := by decide +kernel
theorem d_X7_isAllDry_6 : Dc cX7_isAllDry 6 (.invokevirtual 191) 3 9 := by decide +kernel
theorem d_X7_isAllDry_9 : Dc cX7_isAllDry 9 (.iconst 1) 1 10 := by decide +kernel
theorem d_X7_isAllDry_10 : Dc cX7_isAllDry 10 (.aload_n 0) 1 11 := by decide +kernel
theorem d_X7_isAllDry_11 : Dc cX7_isAllDry 11 (.getfield 28) 3 14 := by decide +kernel
theorem d_X7_isAllDry_14 : Dc cX7_isAllDry 14 (.iconst 1) 1 15 := by decide +kernel
theorem d_X7_isAllDry_15 : Dc cX7_isAllDry 15 (.iaload) 1 16 := by decide +kernel
theorem d_X7_isAllDry_16 : Dc cX7_isAllDry 16 (.ishl) 1 17 := by decide +kernel
theorem d_X7_isAllDry_17 : Dc cX7_isAllDry 17 (.iconst 1) 1 18 := by decide +kernel
theorem d_X7_isAllDry_18 : Dc cX7_isAllDry 18 (.isub) 1 19 := by decide +kernel
theorem d_X7_isAllDry_19 : Dq cX7_isAllDry 19 (.if_icmp .ne) 26 22 := by decide +kernel
theorem d_X7_isAllDry_22 : Dc cX7_isAllDry 22 (.iconst 1) 1 23 := by decide +kernel
theorem d_X7_isAllDry_23 : Dq cX7_isAllDry 23 (.goto) 27 26 := by decide +kernel
theorem d_X7_isAllDry_26 : Dc cX7_isAllDry 26 (.iconst 0) 1 27 := by decide +kernel
theorem d_X7_isAllDry_27 : Dc cX7_isAllDry 27 (.ireturn) 1 28 := by decide +kernel
theorem d_X7_notes_0 : Dc cX7_notes 0 (.aload_n 0) 1 1 := by decide +kernel
theorem d_X7_notes_1 : Dc cX7_notes 1 (.getfield 149) 3 4 := by decide +kernel
theorem d_X7_notes_4 : Dc cX7_notes 4 (.bipush 24) 2 6 := by decide +kernel
theorem d_X7_notes_6 : Dq cX7_notes 6 (.if_icmp .ne) 45 9 := by decide +kernel
theorem d_X7_notes_9 : Dc cX7_notes 9 (.iconst 0) 1 10 := by decide +kernel
theorem d_X7_notes_10 : Dc cX7_notes 10 (.istore_n 1) 1 11 := by decide +kernel
theorem d_X7_notes_11 : Dc cX7_notes 11 (.iload_n 1) 1 12 := by decide +kernel
theorem d_X7_notes_12 : Dc cX7_notes 12 (.sipush 966) 3 15 := by decide +kernel
theorem d_X7_notes_15 : Dq cX7_notes 15 (.if_icmp .ge) 39 18 := by decide +kernel
theorem d_X7_notes_18 : Dc cX7_notes 18 (.aload_n 0) 1 19 := by decide +kernel
theorem d_X7_notes_19 : Dc cX7_notes 19 (.getfield 43) 3 22 := by decide +kernel
theorem d_X7_notes_22 : Dc cX7_notes 22 (.iload_n 1) 1 23 := by decide +kernel
theorem d_X7_notes_23 : Dc cX7_notes 23 (.aload_n 0) 1 24 := by decide +kernel
theorem d_X7_notes_24 : Dc cX7_notes 24 (.getfield 43) 3 27 := by decide +kernel
theorem d_X7_notes_27 : Dc cX7_notes 27 (.iload_n 1) 1 28 := by decide +kernel
theorem d_X7_notes_28 : Dc cX7_notes 28 (.bipush 42) 2 30 := by decide +kernel
theorem d_X7_notes_30 : Dc cX7_notes 30 (.iadd) 1 31 := by decide +kernel
theorem d_X7_notes_31 : Dc cX7_notes 31 (.iaload) 1 32 := by decide +kernel
theorem d_X7_notes_32 : Dc cX7_notes 32 (.iastore) 1 33 := by decide +kernel
theorem d_X7_notes_33 : Dc cX7_notes 33 (.iinc 1 1) 3 36 := by decide +kernel
theorem d_X7_notes_36 : Dq cX7_notes 36 (.goto) 11 39 := by decide +kernel
theorem d_X7_notes_39 : Dc cX7_notes 39 (.aload_n 0) 1 40 := by decide +kernel
theorem d_X7_notes_40 : Dc cX7_notes 40 (.bipush 23) 2 42 := by decide +kernel
theorem d_X7_notes_42 : Dc cX7_notes 42 (.putfield 149) 3 45 := by decide +kernel
theorem d_X7_notes_45 : Dc cX7_notes 45 (.iconst 0) 1 46 := by decide +kernel
theorem d_X7_notes_46 : Dc cX7_notes 46 (.istore_n 1) 1 47 := by decide +kernel
theorem d_X7_notes_47 : Dc cX7_notes 47 (.iload_n 1) 1 48 := by decide +kernel
theorem d_X7_notes_48 : Dc cX7_notes 48 (.bipush 42) 2 50 := by decide +kernel
theorem d_X7_notes_50 : Dq cX7_notes 50 (.if_icmp .ge) 79 53 := by decide +kernel
theorem d_X7_notes_53 : Dc cX7_notes 53 (.aload_n 0) 1 54 := by decide +kernel
theorem d_X7_notes_54 : Dc cX7_notes 54 (.getfield 43) 3 57 := by decide +kernel
theorem d_X7_notes_57 : Dc cX7_notes 57 (.bipush 42) 2 59 := by decide +kernel
theorem d_X7_notes_59 : Dc cX7_notes 59 (.aload_n 0) 1 60 := by decide +kernel
theorem d_X7_notes_60 : Dc cX7_notes 60 (.getfield 149) 3 63 := by decide +kernel
theorem d_X7_notes_63 : Dc cX7_notes 63 (.imul) 1 64 := by decide +kernel
theorem d_X7_notes_64 : Dc cX7_notes 64 (.iload_n 1) 1 65 := by decide +kernel
theorem d_X7_notes_65 : Dc cX7_notes 65 (.iadd) 1 66 := by decide +kernel
theorem d_X7_notes_66 : Dc cX7_notes 66 (.aload_n 0) 1 67 := by decide +kernel
theorem d_X7_notes_67 : Dc cX7_notes 67 (.getfield 31) 3 70 := by decide +kernel
theorem d_X7_notes_70 : Dc cX7_notes 70 (.iload_n 1) 1 71 := by decide +kernel
theorem d_X7_notes_71 : Dc cX7_notes 71 (.iaload) 1 72 := by decide +kernel
theorem d_X7_notes_72 : Dc cX7_notes 72 (.iastore) 1 73 := by decide +kernel
theorem d_X7_notes_73 : Dc cX7_notes 73 (.iinc 1 1) 3 76 := by decide +kernel
theorem d_X7_notes_76 : Dq cX7_notes 76 (.goto) 47 79 := by decide +kernel
theorem d_X7_notes_79 : Dc cX7_notes 79 (.aload_n 0) 1 80 := by decide +kernel
theorem d_X7_notes_80 : Dc cX7_notes 80 (.dup) 1 81 := by decide +kernel
theorem d_X7_notes_81 : Dc cX7_notes 81 (.getfield 149) 3 84 := by decide +kernel
theorem d_X7_notes_84 : Dc cX7_notes 84 (.iconst 1) 1 85 := by decide +kernel
theorem d_X7_notes_85 : Dc cX7_notes 85 (.iadd) 1 86 := by decide +kernel
theorem d_X7_notes_86 : Dc cX7_notes 86 (.putfield 149) 3 89 := by decide +kernel
theorem d_X7_notes_89 : Dc cX7_notes 89 (.return_) 1 90 := by decide +kernel
theorem d_X7_undo_0 : Dc cX7_undo 0 (.aload_n 0) 1 1 := by decide +kernel
theorem d_X7_undo_1 : Dc cX7_undo 1 (.iconst 0) 1 2 := by decide +kernel
theorem d_X7_undo_2 : Dc cX7_undo 2 (.putfield 62) 3 5 := by decide +kernel
theorem d_X7_undo_5 : Dc cX7_undo 5 (.aload_n 0) 1 6 := by decide +kernel
theorem d_X7_undo_6 : Dc cX7_undo 6 (.getfield 149) 3 9 := by decide +kernel
theorem d_X7_undo_9 : Dq cX7_undo 9 (.ifCond .ne) 15 12 := by decide +kernel
theorem d_X7_undo_12 : Dc cX7_undo 12 (.ldc 194) 2 14 := by decide +kernel
theorem d_X7_undo_14 : Dc cX7_undo 14 (.ireturn) 1 15 := by decide +kernel
theorem d_X7_undo_15 : Dc cX7_undo 15 (.aload_n 0) 1 16 := by decide +kernel
theorem d_X7_undo_16 : Dc cX7_undo 16 (.dup) 1 17 := by decide +kernel
theorem d_X7_undo_17 : Dc cX7_undo 17 (.getfield 149) 3 20 := by decide +kernel
theorem d_X7_undo_20 : Dc cX7_undo 20 (.iconst 1) 1 21 := by decide +kernel
theorem d_X7_undo_21 : Dc cX7_undo 21 (.isub) 1 22 := by decide +kernel
theorem d_X7_undo_22 : Dc cX7_undo 22 (.putfield 149) 3 25 := by decide +kernel
theorem d_X7_undo_25 : Dc cX7_undo 25 (.iconst 0) 1 26 := by decide +kernel
theorem d_X7_undo_26 : Dc cX7_undo 26 (.istore_n 1) 1 27 := by decide +kernel
theorem d_X7_undo_27 : Dc cX7_undo 27 (.iload_n 1) 1 28 := by decide +kernel
theorem d_X7_undo_28 : Dc cX7_undo 28 (.bipush 42) 2 30 := by decide +kernel
theorem d_X7_undo_30 : Dq cX7_undo 30 (.if_icmp .ge) 59 33 := by decide +kernel
theorem d_X7_undo_33 : Dc cX7_undo 33 (.aload_n 0) 1 34 := by decide +kernel
theorem d_X7_undo_34 : Dc cX7_undo 34 (.getfield 31) 3 37 := by decide +kernel
theorem d_X7_undo_37 : Dc cX7_undo 37 (.iload_n 1) 1 38 := by decide +kernel
theorem d_X7_undo_38 : Dc cX7_undo 38 (.aload_n 0) 1 39 := by decide +kernel
theorem d_X7_undo_39 : Dc cX7_undo 39 (.getfield 43) 3 42 := by decide +kernel
theorem d_X7_undo_42 : Dc cX7_undo 42 (.bipush 42) 2 44 := by decide +kernel
theorem d_X7_undo_44 : Dc cX7_undo 44 (.aload_n 0) 1 45 := by decide +kernel
theorem d_X7_undo_45 : Dc cX7_undo 45 (.getfield 149) 3 48 := by decide +kernel
theorem d_X7_undo_48 : Dc cX7_undo 48 (.imul) 1 49 := by decide +kernel
theorem d_X7_undo_49 : Dc cX7_undo 49 (.iload_n 1) 1 50 := by decide +kernel
theorem d_X7_undo_50 : Dc cX7_undo 50 (.iadd) 1 51 := by decide +kernel
theorem d_X7_undo_51 : Dc cX7_undo 51 (.iaload) 1 52 := by decide +kernel
theorem d_X7_undo_52 : Dc cX7_undo 52 (.iastore) 1 53 := by decide +kernel
theorem d_X7_undo_53 : Dc cX7_undo 53 (.iinc 1 1) 3 56 := by decide +kernel
theorem d_X7_undo_56 : Dq cX7_undo 56 (.goto) 27 59 := by decide +kernel
theorem d_X7_undo_59 : Dc cX7_undo 59 (.aload_n 0) 1 60 := by decide +kernel
theorem d_X7_undo_60 : Dc cX7_undo 60 (.getfield 149) 3 63 := by decide +kernel
theorem d_X7_undo_63 : Dc cX7_undo 63 (.ireturn) 1 64 := by decide +kernel
theorem d_X7_ticks_0 : Dc cX7_ticks 0 (.aload_n 0) 1 1 := by decide +kernel
theorem d_X7_ticks_1 : Dc cX7_ticks 1 (.iconst 0) 1 2 := by decide +kernel
theorem d_X7_ticks_2 : Dc cX7_ticks 2 (.putfield 62) 3 5 := by decide +kernel
theorem d_X7_ticks_5 : Dc cX7_ticks 5 (.aload_n 0) 1 6 := by decide +kernel
theorem d_X7_ticks_6 : Dc cX7_ticks 6 (.invokevirtual 195) 3 9 := by decide +kernel
theorem d_X7_ticks_9 : Dq cX7_ticks 9 (.ifCond .eq) 15 12 := by decide +kernel
theorem d_X7_ticks_12 : Dc cX7_ticks 12 (.ldc 194) 2 14 := by decide +kernel
theorem d_X7_ticks_14 : Dc cX7_ticks 14 (.ireturn) 1 15 := by decide +kernel
theorem d_X7_ticks_15 : Dc cX7_ticks 15 (.iload_n 1) 1 16 := by decide +kernel
theorem d_X7_ticks_16 : Dc cX7_ticks 16 (.iconst 1) 1 17 := by decide +kernel
theorem d_X7_ticks_17 : Dc cX7_ticks 17 (.bipush 24) 2 19 := by decide +kernel
theorem d_X7_ticks_19 : Dc cX7_ticks 19 (.invokestatic 70) 3 22 := by decide +kernel
theorem d_X7_ticks_22 : Dq cX7_ticks 22 (.ifCond .ne) 28 25 := by decide +kernel
theorem d_X7_ticks_25 : Dc cX7_ticks 25 (.ldc 78) 2 27 := by decide +kernel
theorem d_X7_ticks_27 : Dc cX7_ticks 27 (.ireturn) 1 28 := by decide +kernel
theorem d_X7_ticks_28 : Dc cX7_ticks 28 (.aload_n 0) 1 29 := by decide +kernel
theorem d_X7_ticks_29 : Dc cX7_ticks 29 (.getfield 31) 3 32 := by decide +kernel
theorem d_X7_ticks_32 : Dc cX7_ticks 32 (.iconst 0) 1 33 := by decide +kernel
theorem d_X7_ticks_33 : Dc cX7_ticks 33 (.iaload) 1 34 := by decide +kernel
theorem d_X7_ticks_34 : Dc cX7_ticks 34 (.iload_n 1) 1 35 := by decide +kernel
theorem d_X7_ticks_35 : Dc cX7_ticks 35 (.iadd) 1 36 := by decide +kernel
theorem d_X7_ticks_36 : Dc cX7_ticks 36 (.sipush 999) 3 39 := by decide +kernel
theorem d_X7_ticks_39 : Dq cX7_ticks 39 (.if_icmp .le) 45 42 := by decide +kernel
theorem d_X7_ticks_42 : Dc cX7_ticks 42 (.ldc 92) 2 44 := by decide +kernel
theorem d_X7_ticks_44 : Dc cX7_ticks 44 (.ireturn) 1 45 := by decide +kernel
theorem d_X7_ticks_45 : Dc cX7_ticks 45 (.aload_n 0) 1 46 := by decide +kernel
theorem d_X7_ticks_46 : Dc cX7_ticks 46 (.invokevirtual 181) 3 49 := by decide +kernel
theorem d_X7_ticks_49 : Dc cX7_ticks 49 (.iconst 0) 1 50 := by decide +kernel
theorem d_X7_ticks_50 : Dc cX7_ticks 50 (.istore_n 2) 1 51 := by decide +kernel
theorem d_X7_ticks_51 : Dc cX7_ticks 51 (.iload_n 2) 1 52 := by decide +kernel
theorem d_X7_ticks_52 : Dc cX7_ticks 52 (.iload_n 1) 1 53 := by decide +kernel
theorem d_X7_ticks_53 : Dq cX7_ticks 53 (.if_icmp .ge) 78 56 := by decide +kernel
theorem d_X7_ticks_56 : Dc cX7_ticks 56 (.aload_n 0) 1 57 := by decide +kernel
theorem d_X7_ticks_57 : Dc cX7_ticks 57 (.invokevirtual 198) 3 60 := by decide +kernel
theorem d_X7_ticks_60 : Dc cX7_ticks 60 (.aload_n 0) 1 61 := by decide +kernel
theorem d_X7_ticks_61 : Dc cX7_ticks 61 (.aload_n 0) 1 62 := by decide +kernel
theorem d_X7_ticks_62 : Dc cX7_ticks 62 (.getfield 28) 3 65 := by decide +kernel
theorem d_X7_ticks_65 : Dc cX7_ticks 65 (.aload_n 0) 1 66 := by decide +kernel
theorem d_X7_ticks_66 : Dc cX7_ticks 66 (.getfield 31) 3 69 := by decide +kernel
theorem d_X7_ticks_69 : Dc cX7_ticks 69 (.invokevirtual 174) 3 72 := by decide +kernel
theorem d_X7_ticks_72 : Dc cX7_ticks 72 (.iinc 2 1) 3 75 := by decide +kernel
theorem d_X7_ticks_75 : Dq cX7_ticks 75 (.goto) 51 78 := by decide +kernel
theorem d_X7_ticks_78 : Dc cX7_ticks 78 (.aload_n 0) 1 79 := by decide +kernel
theorem d_X7_ticks_79 : Dc cX7_ticks 79 (.aload_n 0) 1 80 := by decide +kernel
theorem d_X7_ticks_80 : Dc cX7_ticks 80 (.getfield 31) 3 83 := by decide +kernel
theorem d_X7_ticks_83 : Dc cX7_ticks 83 (.iconst 2) 1 84 := by decide +kernel
theorem d_X7_ticks_84 : Dc cX7_ticks 84 (.invokevirtual 191) 3 87 := by decide +kernel
theorem d_X7_ticks_87 : Dc cX7_ticks 87 (.ireturn) 1 88 := by decide +kernel
theorem d_X7_shut_0 : Dc cX7_shut 0 (.aload_n 0) 1 1 := by decide +kernel
theorem d_X7_shut_1 : Dc cX7_shut 1 (.iconst 0) 1 2 := by decide +kernel
theorem d_X7_shut_2 : Dc cX7_shut 2 (.putfield 62) 3 5 := by decide +kernel
theorem d_X7_shut_5 : Dc cX7_shut 5 (.aload_n 0) 1 6 := by decide +kernel
theorem d_X7_shut_6 : Dc cX7_shut 6 (.iload_n 1) 1 7 := by decide +kernel
theorem d_X7_shut_7 : Dc cX7_shut 7 (.invokevirtual 201) 3 10 := by decide +kernel
theorem d_X7_shut_10 : Dq cX7_shut 10 (.ifCond .ne) 16 13 := by decide +kernel
theorem d_X7_shut_13 : Dc cX7_shut 13 (.ldc 78) 2 15 := by decide +kernel
theorem d_X7_shut_15 : Dc cX7_shut 15 (.ireturn) 1 16 := by decide +kernel
theorem d_X7_shut_16 : Dc cX7_shut 16 (.aload_n 0) 1 17 := by decide +kernel
theorem d_X7_shut_17 : Dc cX7_shut 17 (.invokevirtual 198) 3 20 := by decide +kernel
theorem d_X7_shut_20 : Dc cX7_shut 20 (.aload_n 0) 1 21 := by decide +kernel
theorem d_X7_shut_21 : Dc cX7_shut 21 (.getfield 31) 3 24 := by decide +kernel
theorem d_X7_shut_24 : Dc cX7_shut 24 (.iconst 2) 1 25 := by decide +kernel
theorem d_X7_shut_25 : Dc cX7_shut 25 (.dup2) 1 26 := by decide +kernel
theorem d_X7_shut_26 : Dc cX7_shut 26 (.iaload) 1 27 := by decide +kernel
theorem d_X7_shut_27 : Dc cX7_shut 27 (.iconst 1) 1 28 := by decide +kernel
theorem d_X7_shut_28 : Dc cX7_shut 28 (.iload_n 1) 1 29 := by decide +kernel
theorem d_X7_shut_29 : Dc cX7_shut 29 (.ishl) 1 30 := by decide +kernel
theorem d_X7_shut_30 : Dc cX7_shut 30 (.ixor) 1 31 := by decide +kernel
theorem d_X7_shut_31 : Dc cX7_shut 31 (.iastore) 1 32 := by decide +kernel
theorem d_X7_shut_32 : Dc cX7_shut 32 (.aload_n 0) 1 33 := by decide +kernel
theorem d_X7_shut_33 : Dc cX7_shut 33 (.getfield 31) 3 36 := by decide +kernel
theorem d_X7_shut_36 : Dc cX7_shut 36 (.iconst 2) 1 37 := by decide +kernel
theorem d_X7_shut_37 : Dc cX7_shut 37 (.iaload) 1 38 := by decide +kernel
theorem d_X7_shut_38 : Dc cX7_shut 38 (.iload_n 1) 1 39 := by decide +kernel
theorem d_X7_shut_39 : Dc cX7_shut 39 (.ishr) 1 40 := by decide +kernel
theorem d_X7_shut_40 : Dc cX7_shut 40 (.iconst 1) 1 41 := by decide +kernel
theorem d_X7_shut_41 : Dc cX7_shut 41 (.iand) 1 42 := by decide +kernel
theorem d_X7_shut_42 : Dc cX7_shut 42 (.ireturn) 1 43 := by decide +kernel
theorem d_X7_power_0 : Dc cX7_power 0 (.aload_n 0) 1 1 := by decide +kernel
theorem d_X7_power_1 : Dc cX7_power 1 (.iconst 0) 1 2 := by decide +kernel
theorem d_X7_power_2 : Dc cX7_power 2 (.putfield 62) 3 5 := by decide +kernel
theorem d_X7_power_5 : Dc cX7_power 5 (.aload_n 0) 1 6 := by decide +kernel
theorem d_X7_power_6 : Dc cX7_power 6 (.invokevirtual 195) 3 9 := by decide +kernel
theorem d_X7_power_9 : Dq cX7_power 9 (.ifCond .eq) 15 12 := by decide +kernel
theorem d_X7_power_12 : Dc cX7_power 12 (.ldc 194) 2 14 := by decide +kernel
theorem d_X7_power_14 : Dc cX7_power 14 (.ireturn) 1 15 := by decide +kernel
theorem d_X7_power_15 : Dc cX7_power 15 (.iload_n 1) 1 16 := by decide +kernel
theorem d_X7_power_16 : Dc cX7_power 16 (.iconst 1) 1 17 := by decide +kernel
theorem d_X7_power_17 : Dc cX7_power 17 (.iconst 5) 1 18 := by decide +kernel
theorem d_X7_power_18 : Dc cX7_power 18 (.invokestatic 70) 3 21 := by decide +kernel
theorem d_X7_power_21 : Dq cX7_power 21 (.ifCond .ne) 27 24 := by decide +kernel
theorem d_X7_power_24 : Dc cX7_power 24 (.ldc 78) 2 26 := by decide +kernel
theorem d_X7_power_26 : Dc cX7_power 26 (.ireturn) 1 27 := by decide +kernel
theorem d_X7_power_27 : Dc cX7_power 27 (.aload_n 0) 1 28 := by decide +kernel
theorem d_X7_power_28 : Dc cX7_power 28 (.invokevirtual 198) 3 31 := by decide +kernel
theorem d_X7_power_31 : Dc cX7_power 31 (.aload_n 0) 1 32 := by decide +kernel
theorem d_X7_power_32 : Dc cX7_power 32 (.getfield 31) 3 35 := by decide +kernel
theorem d_X7_power_35 : Dc cX7_power 35 (.iconst 1) 1 36 := by decide +kernel
theorem d_X7_power_36 : Dc cX7_power 36 (.iaload) 1 37 := by decide +kernel
theorem d_X7_power_37 : Dc cX7_power 37 (.istore_n 2) 1 38 := by decide +kernel
theorem d_X7_power_38 : Dc cX7_power 38 (.aload_n 0) 1 39 := by decide +kernel
theorem d_X7_power_39 : Dc cX7_power 39 (.getfield 31) 3 42 := by decide +kernel
theorem d_X7_power_42 : Dc cX7_power 42 (.iconst 1) 1 43 := by decide +kernel
theorem d_X7_power_43 : Dc cX7_power 43 (.iload_n 1) 1 44 := by decide +kernel
theorem d_X7_power_44 : Dc cX7_power 44 (.iastore) 1 45 := by decide +kernel
theorem d_X7_power_45 : Dc cX7_power 45 (.iload_n 2) 1 46 := by decide +kernel
theorem d_X7_power_46 : Dc cX7_power 46 (.ireturn) 1 47 := by decide +kernel
theorem d_X7_due_0 : Dc cX7_due 0 (.aload_n 0) 1 1 := by decide +kernel
theorem d_X7_due_1 : Dc cX7_due 1 (.iconst 0) 1 2 := by decide +kernel
theorem d_X7_due_2 : Dc cX7_due 2 (.putfield 62) 3 5 := by decide +kernel
theorem d_X7_due_5 : Dc cX7_due 5 (.aload_n 0) 1 6 := by decide +kernel
theorem d_X7_due_6 : Dc cX7_due 6 (.iload_n 1) 1 7 := by decide +kernel
theorem d_X7_due_7 : Dc cX7_due 7 (.invokevirtual 204) 3 10 := by decide +kernel
theorem d_X7_due_10 : Dq cX7_due 10 (.ifCond .eq) 23 13 := by decide +kernel
theorem d_X7_due_13 : Dc cX7_due 13 (.iload_n 2) 1 14 := by decide +kernel
theorem d_X7_due_14 : Dc cX7_due 14 (.iconst 0) 1 15 := by decide +kernel
theorem d_X7_due_15 : Dc cX7_due 15 (.bipush 99) 2 17 := by decide +kernel
theorem d_X7_due_17 : Dc cX7_due 17 (.invokestatic 70) 3 20 := by decide +kernel
theorem d_X7_due_20 : Dq cX7_due 20 (.ifCond .ne) 26 23 := by decide +kernel
theorem d_X7_due_23 : Dc cX7_due 23 (.ldc 78) 2 25 := by decide +kernel
theorem d_X7_due_25 : Dc cX7_due 25 (.ireturn) 1 26 := by decide +kernel
theorem d_X7_due_26 : Dc cX7_due 26 (.aload_n 0) 1 27 := by decide +kernel
theorem d_X7_due_27 : Dc cX7_due 27 (.invokevirtual 198) 3 30 := by decide +kernel
theorem d_X7_due_30 : Dc cX7_due 30 (.aload_n 0) 1 31 := by decide +kernel
theorem d_X7_due_31 : Dc cX7_due 31 (.getfield 31) 3 34 := by decide +kernel
theorem d_X7_due_34 : Dc cX7_due 34 (.bipush 24) 2 36 := by decide +kernel
theorem d_X7_due_36 : Dc cX7_due 36 (.iload_n 1) 1 37 := by decide +kernel
theorem d_X7_due_37 : Dc cX7_due 37 (.iadd) 1 38 := by decide +kernel
theorem d_X7_due_38 : Dc cX7_due 38 (.iaload) 1 39 := by decide +kernel
theorem d_X7_due_39 : Dc cX7_due 39 (.istore_n 3) 1 40 := by decide +kernel
theorem d_X7_due_40 : Dc cX7_due 40 (.aload_n 0) 1 41 := by decide +kernel
theorem d_X7_due_41 : Dc cX7_due 41 (.getfield 31) 3 44 := by decide +kernel
theorem d_X7_due_44 : Dc cX7_due 44 (.bipush 24) 2 46 := by decide +kernel
theorem d_X7_due_46 : Dc cX7_due 46 (.iload_n 1) 1 47 := by decide +kernel
theorem d_X7_due_47 : Dc cX7_due 47 (.iadd) 1 48 := by decide +kernel
theorem d_X7_due_48 : Dc cX7_due 48 (.iload_n 2) 1 49 := by decide +kernel
theorem d_X7_due_49 : Dc cX7_due 49 (.iastore) 1 50 := by decide +kernel
theorem d_X7_due_50 : Dc cX7_due 50 (.iload_n 3) 1 51 := by decide +kernel
theorem d_X7_due_51 : Dc cX7_due 51 (.ireturn) 1 52 := by decide +kernel
theorem d_X7_again_0 : Dc cX7_again 0 (.aload_n 0) 1 1 := by decide +kernel
theorem d_X7_again_1 : Dc cX7_again 1 (.iconst 0) 1 2 := by decide +kernel
theorem d_X7_again_2 : Dc cX7_again 2 (.putfield 62) 3 5 := by decide +kernel
theorem d_X7_again_5 : Dc cX7_again 5 (.aload_n 0) 1 6 := by decide +kernel
theorem d_X7_again_6 : Dc cX7_again 6 (.iload_n 1) 1 7 := by decide +kernel
theorem d_X7_again_7 : Dc cX7_again 7 (.invokevirtual 204) 3 10 := by decide +kernel
theorem d_X7_again_10 : Dq cX7_again 10 (.ifCond .eq) 23 13 := by decide +kernel
theorem d_X7_again_13 : Dc cX7_again 13 (.iload_n 2) 1 14 := by decide +kernel
theorem d_X7_again_14 : Dc cX7_again 14 (.iconst 1) 1 15 := by decide +kernel
theorem d_X7_again_15 : Dc cX7_again 15 (.bipush 9) 2 17 := by decide +kernel
theorem d_X7_again_17 : Dc cX7_again 17 (.invokestatic 70) 3 20 := by decide +kernel
theorem d_X7_again_20 : Dq cX7_again 20 (.ifCond .ne) 26 23 := by decide +kernel
theorem d_X7_again_23 : Dc cX7_again 23 (.ldc 78) 2 25 := by decide +kernel
theorem d_X7_again_25 : Dc cX7_again 25 (.ireturn) 1 26 := by decide +kernel
theorem d_X7_again_26 : Dc cX7_again 26 (.aload_n 0) 1 27 := by decide +kernel
theorem d_X7_again_27 : Dc cX7_again 27 (.getfield 31) 3 30 := by decide +kernel
theorem d_X7_again_30 : Dc cX7_again 30 (.bipush 30) 2 32 := by decide +kernel
theorem d_X7_again_32 : Dc cX7_again 32 (.iload_n 1) 1 33 := by decide +kernel
theorem d_X7_again_33 : Dc cX7_again 33 (.iadd) 1 34 := by decide +kernel
theorem d_X7_again_34 : Dc cX7_again 34 (.iaload) 1 35 := by decide +kernel
theorem d_X7_again_35 : Dc cX7_again 35 (.iconst 2) 1 36 := by decide +kernel
theorem d_X7_again_36 : Dq cX7_again 36 (.if_icmp .eq) 42 39 := by decide +kernel
theorem d_X7_again_39 : Dc cX7_again 39 (.ldc 194) 2 41 := by decide +kernel
theorem d_X7_again_41 : Dc cX7_again 41 (.ireturn) 1 42 := by decide +kernel
theorem d_X7_again_42 : Dc cX7_again 42 (.aload_n 0) 1 43 := by decide +kernel
theorem d_X7_again_43 : Dc cX7_again 43 (.invokevirtual 198) 3 46 := by decide +kernel
theorem d_X7_again_46 : Dc cX7_again 46 (.aload_n 0) 1 47 := by decide +kernel
theorem d_X7_again_47 : Dc cX7_again 47 (.getfield 31) 3 50 := by decide +kernel
theorem d_X7_again_50 : Dc cX7_again 50 (.bipush 30) 2 52 := by decide +kernel
theorem d_X7_again_52 : Dc cX7_again 52 (.iload_n 1) 1 53 := by decide +kernel
theorem d_X7_again_53 : Dc cX7_again 53 (.iadd) 1 54 := by decide +kernel
theorem d_X7_again_54 : Dc cX7_again 54 (.iconst 0) 1 55 := by decide +kernel
theorem d_X7_again_55 : Dc cX7_again 55 (.iastore) 1 56 := by decide +kernel
theorem d_X7_again_56 : Dc cX7_again 56 (.aload_n 0) 1 57 := by decide +kernel
theorem d_X7_again_57 : Dc cX7_again 57 (.getfield 31) 3 60 := by decide +kernel
theorem d_X7_again_60 : Dc cX7_again 60 (.bipush 18) 2 62 := by decide +kernel
theorem d_X7_again_62 : Dc cX7_again 62 (.iload_n 1) 1 63 := by decide +kernel
theorem d_X7_again_63 : Dc cX7_again 63 (.iadd) 1 64 := by decide +kernel
theorem d_X7_again_64 : Dc cX7_again 64 (.iload_n 2) 1 65 := by decide +kernel
theorem d_X7_again_65 : Dc cX7_again 65 (.iastore) 1 66 := by decide +kernel
theorem d_X7_again_66 : Dc cX7_again 66 (.aload_n 0) 1 67 := by decide +kernel
theorem d_X7_again_67 : Dc cX7_again 67 (.getfield 31) 3 70 := by decide +kernel
theorem d_X7_again_70 : Dc cX7_again 70 (.bipush 36) 2 72 := by decide +kernel
theorem d_X7_again_72 : Dc cX7_again 72 (.iload_n 1) 1 73 := by decide +kernel
theorem d_X7_again_73 : Dc cX7_again 73 (.iadd) 1 74 := by decide +kernel
theorem d_X7_again_74 : Dc cX7_again 74 (.iconst 0) 1 75 := by decide +kernel
theorem d_X7_again_75 : Dc cX7_again 75 (.iastore) 1 76 := by decide +kernel
theorem d_X7_again_76 : Dc cX7_again 76 (.aload_n 0) 1 77 := by decide +kernel
theorem d_X7_again_77 : Dc cX7_again 77 (.aload_n 0) 1 78 := by decide +kernel
theorem d_X7_again_78 : Dc cX7_again 78 (.getfield 31) 3 81 := by decide +kernel
theorem d_X7_again_81 : Dc cX7_again 81 (.iconst 0) 1 82 := by decide +kernel
theorem d_X7_again_82 : Dc cX7_again 82 (.invokevirtual 191) 3 85 := by decide +kernel
theorem d_X7_again_85 : Dc cX7_again 85 (.ireturn) 1 86 := by decide +kernel
theorem d_X7_machine_0 : Dc cX7_machine 0 (.aload_n 0) 1 1 := by decide +kernel
theorem d_X7_machine_1 : Dc cX7_machine 1 (.iconst 0) 1 2 := by decide +kernel
theorem d_X7_machine_2 : Dc cX7_machine 2 (.putfield 62) 3 5 := by decide +kernel
theorem d_X7_machine_5 : Dc cX7_machine 5 (.aload_n 0) 1 6 := by decide +kernel
theorem d_X7_machine_6 : Dc cX7_machine 6 (.iload_n 1) 1 7 := by decide +kernel
theorem d_X7_machine_7 : Dc cX7_machine 7 (.invokevirtual 201) 3 10 := by decide +kernel
theorem d_X7_machine_10 : Dq cX7_machine 10 (.ifCond .eq) 23 13 := by decide +kernel
theorem d_X7_machine_13 : Dc cX7_machine 13 (.iload_n 2) 1 14 := by decide +kernel
theorem d_X7_machine_14 : Dc cX7_machine 14 (.iconst 0) 1 15 := by decide +kernel
theorem d_X7_machine_15 : Dc cX7_machine 15 (.bipush 6) 2 17 := by decide +kernel
theorem d_X7_machine_17 : Dc cX7_machine 17 (.invokestatic 70) 3 20 := by decide +kernel
theorem d_X7_machine_20 : Dq cX7_machine 20 (.ifCond .ne) 26 23 := by decide +kernel
theorem d_X7_machine_23 : Dc cX7_machine 23 (.ldc 78) 2 25 := by decide +kernel
theorem d_X7_machine_25 : Dc cX7_machine 25 (.ireturn) 1 26 := by decide +kernel
theorem d_X7_machine_26 : Dc cX7_machine 26 (.iload_n 2) 1 27 := by decide +kernel
theorem d_X7_machine_27 : Dc cX7_machine 27 (.iconst 3) 1 28 := by decide +kernel
theorem d_X7_machine_28 : Dq cX7_machine 28 (.if_icmp .ge) 75 31 := by decide +kernel
theorem d_X7_machine_31 : Dc cX7_machine 31 (.iload_n 2) 1 32 := by decide +kernel
theorem d_X7_machine_32 : Dq cX7_machine 32 (.ifCond .ne) 47 35 := by decide +kernel
theorem d_X7_machine_35 : Dc cX7_machine 35 (.aload_n 0) 1 36 := by decide +kernel
theorem d_X7_machine_36 : Dc cX7_machine 36 (.getfield 28) 3 39 := by decide +kernel
theorem d_X7_machine_39 : Dc cX7_machine 39 (.bipush 7) 2 41 := by decide +kernel
theorem d_X7_machine_41 : Dc cX7_machine 41 (.iload_n 1) 1 42 := by decide +kernel
theorem d_X7_machine_42 : Dc cX7_machine 42 (.iadd) 1 43 := by decide +kernel
theorem d_X7_machine_43 : Dc cX7_machine 43 (.iaload) 1 44 := by decide +kernel
theorem d_X7_machine_44 : Dq cX7_machine 44 (.goto) 74 47 := by decide +kernel
theorem d_X7_machine_47 : Dc cX7_machine 47 (.iload_n 2) 1 48 := by decide +kernel
theorem d_X7_machine_48 : Dc cX7_machine 48 (.iconst 1) 1 49 := by decide +kernel
theorem d_X7_machine_49 : Dq cX7_machine 49 (.if_icmp .ne) 64 52 := by decide +kernel
theorem d_X7_machine_52 : Dc cX7_machine 52 (.aload_n 0) 1 53 := by decide +kernel
theorem d_X7_machine_53 : Dc cX7_machine 53 (.getfield 28) 3 56 := by decide +kernel
theorem d_X7_machine_56 : Dc cX7_machine 56 (.bipush 12) 2 58 := by decide +kernel
theorem d_X7_machine_58 : Dc cX7_machine 58 (.iload_n 1) 1 59 := by decide +kernel
theorem d_X7_machine_59 : Dc cX7_machine 59 (.iadd) 1 60 := by decide +kernel
theorem d_X7_machine_60 : Dc cX7_machine 60 (.iaload) 1 61 := by decide +kernel
theorem d_X7_machine_61 : Dq cX7_machine 61 (.goto) 74 64 := by decide +kernel
theorem d_X7_machine_64 : Dc cX7_machine 64 (.aload_n 0) 1 65 := by decide +kernel
theorem d_X7_machine_65 : Dc cX7_machine 65 (.getfield 31) 3 68 := by decide +kernel
theorem d_X7_machine_68 : Dc cX7_machine 68 (.iconst 2) 1 69 := by decide +kernel
theorem d_X7_machine_69 : Dc cX7_machine 69 (.iaload) 1 70 := by decide +kernel
theorem d_X7_machine_70 : Dc cX7_machine 70 (.iload_n 1) 1 71 := by decide +kernel
theorem d_X7_machine_71 : Dc cX7_machine 71 (.ishr) 1 72 := by decide +kernel
theorem d_X7_machine_72 : Dc cX7_machine 72 (.iconst 1) 1 73 := by decide +kernel
theorem d_X7_machine_73 : Dc cX7_machine 73 (.iand) 1 74 := by decide +kernel
theorem d_X7_machine_74 : Dc cX7_machine 74 (.ireturn) 1 75 := by decide +kernel
theorem d_X7_machine_75 : Dc cX7_machine 75 (.iload_n 2) 1 76 := by decide +kernel
theorem d_X7_machine_76 : Dc cX7_machine 76 (.bipush 6) 2 78 := by decide +kernel
theorem d_X7_machine_78 : Dq cX7_machine 78 (.if_icmp .ge) 155 81 := by decide +kernel
theorem d_X7_machine_81 : Dc cX7_machine 81 (.iload_n 2) 1 82 := by decide +kernel
theorem d_X7_machine_82 : Dc cX7_machine 82 (.iconst 3) 1 83 := by decide +kernel
theorem d_X7_machine_83 : Dq cX7_machine 83 (.if_icmp .ne) 113 86 := by decide +kernel
theorem d_X7_machine_86 : Dc cX7_machine 86 (.aload_n 0) 1 87 := by decide +kernel
theorem d_X7_machine_87 : Dc cX7_machine 87 (.getfield 31) 3 90 := by decide +kernel
theorem d_X7_machine_90 : Dc cX7_machine 90 (.iconst 3) 1 91 := by decide +kernel
theorem d_X7_machine_91 : Dc cX7_machine 91 (.iload_n 1) 1 92 := by decide +kernel
theorem d_X7_machine_92 : Dc cX7_machine 92 (.iadd) 1 93 := by decide +kernel
theorem d_X7_machine_93 : Dc cX7_machine 93 (.iaload) 1 94 := by decide +kernel
theorem d_X7_machine_94 : Dq cX7_machine 94 (.ifCond .ge) 102 97 := by decide +kernel
theorem d_X7_machine_97 : Dc cX7_machine 97 (.ldc 207) 2 99 := by decide +kernel
theorem d_X7_machine_99 : Dq cX7_machine 99 (.goto) 154 102 := by decide +kernel
theorem d_X7_machine_102 : Dc cX7_machine 102 (.aload_n 0) 1 103 := by decide +kernel
theorem d_X7_machine_103 : Dc cX7_machine 103 (.getfield 31) 3 106 := by decide +kernel
theorem d_X7_machine_106 : Dc cX7_machine 106 (.iconst 3) 1 107 := by decide +kernel
theorem d_X7_machine_107 : Dc cX7_machine 107 (.iload_n 1) 1 108 := by decide +kernel
theorem d_X7_machine_108 : Dc cX7_machine 108 (.iadd) 1 109 := by decide +kernel
theorem d_X7_machine_109 : Dc cX7_machine 109 (.iaload) 1 110 := by decide +kernel
theorem d_X7_machine_110 : Dq cX7_machine 110 (.goto) 154 113 := by decide +kernel
theorem d_X7_machine_113 : Dc cX7_machine 113 (.iload_n 2) 1 114 := by decide +kernel
theorem d_X7_machine_114 : Dc cX7_machine 114 (.iconst 4) 1 115 := by decide +kernel
theorem d_X7_machine_115 : Dq cX7_machine 115 (.if_icmp .ne) 145 118 := by decide +kernel
theorem d_X7_machine_118 : Dc cX7_machine 118 (.aload_n 0) 1 119 := by decide +kernel
theorem d_X7_machine_119 : Dc cX7_machine 119 (.getfield 31) 3 122 := by decide +kernel
theorem d_X7_machine_122 : Dc cX7_machine 122 (.iconst 3) 1 123 := by decide +kernel
theorem d_X7_machine_123 : Dc cX7_machine 123 (.iload_n 1) 1 124 := by decide +kernel
theorem d_X7_machine_124 : Dc cX7_machine 124 (.iadd) 1 125 := by decide +kernel
theorem d_X7_machine_125 : Dc cX7_machine 125 (.iaload) 1 126 := by decide +kernel
theorem d_X7_machine_126 : Dq cX7_machine 126 (.ifCond .ge) 133 129 := by decide +kernel
theorem d_X7_machine_129 : Dc cX7_machine 129 (.iconst 0) 1 130 := by decide +kernel
theorem d_X7_machine_130 : Dq cX7_machine 130 (.goto) 154 133 := by decide +kernel
theorem d_X7_machine_133 : Dc cX7_machine 133 (.aload_n 0) 1 134 := by decide +kernel
theorem d_X7_machine_134 : Dc cX7_machine 134 (.getfield 31) 3 137 := by decide +kernel
theorem d_X7_machine_137 : Dc cX7_machine 137 (.bipush 8) 2 139 := by decide +kernel
theorem d_X7_machine_139 : Dc cX7_machine 139 (.iload_n 1) 1 140 := by decide +kernel
theorem d_X7_machine_140 : Dc cX7_machine 140 (.iadd) 1 141 := by decide +kernel
theorem d_X7_machine_141 : Dc cX7_machine 141 (.iaload) 1 142 := by decide +kernel
theorem d_X7_machine_142 : Dq cX7_machine 142 (.goto) 154 145 := by decide +kernel
theorem d_X7_machine_145 : Dc cX7_machine 145 (.aload_n 0) 1 146 := by decide +kernel
theorem d_X7_machine_146 : Dc cX7_machine 146 (.getfield 31) 3 149 := by decide +kernel
theorem d_X7_machine_149 : Dc cX7_machine 149 (.bipush 13) 2 151 := by decide +kernel
theorem d_X7_machine_151 : Dc cX7_machine 151 (.iload_n 1) 1 152 := by decide +kernel
theorem d_X7_machine_152 : Dc cX7_machine 152 (.iadd) 1 153 := by decide +kernel
theorem d_X7_machine_153 : Dc cX7_machine 153 (.iaload) 1 154 := by decide +kernel
theorem d_X7_machine_154 : Dc cX7_machine 154 (.ireturn) 1 155 := by decide +kernel
theorem d_X7_machine_155 : Dc cX7_machine 155 (.aload_n 0) 1 156 := by decide +kernel
theorem d_X7_machine_156 : Dc cX7_machine 156 (.getfield 28) 3 159 := by decide +kernel
theorem d_X7_machine_159 : Dc cX7_machine 159 (.iconst 2) 1 160 := by decide +kernel
theorem d_X7_machine_160 : Dc cX7_machine 160 (.iload_n 1) 1 161 := by decide +kernel
theorem d_X7_machine_161 : Dc cX7_machine 161 (.iadd) 1 162 := by decide +kernel
theorem d_X7_machine_162 : Dc cX7_machine 162 (.iaload) 1 163 := by decide +kernel
theorem d_X7_machine_163 : Dc cX7_machine 163 (.invokestatic 152) 3 166 := by decide +kernel
theorem d_X7_machine_166 : Dq cX7_machine 166 (.ifCond .eq) 173 169 := by decide +kernel
theorem d_X7_machine_169 : Dc cX7_machine 169 (.iconst 1) 1 170 := by decide +kernel
theorem d_X7_machine_170 : Dq cX7_machine 170 (.goto) 174 173 := by decide +kernel
theorem d_X7_machine_173 : Dc cX7_machine 173 (.iconst 0) 1 174 := by decide +kernel
theorem d_X7_machine_174 : Dc cX7_machine 174 (.ireturn) 1 175 := by decide +kernel
theorem d_X7_load_0 : Dc cX7_load 0 (.aload_n 0) 1 1 := by decide +kernel
theorem d_X7_load_1 : Dc cX7_load 1 (.iconst 0) 1 2 := by decide +kernel
theorem d_X7_load_2 : Dc cX7_load 2 (.putfield 62) 3 5 := by decide +kernel
theorem d_X7_load_5 : Dc cX7_load 5 (.aload_n 0) 1 6 := by decide +kernel
theorem d_X7_load_6 : Dc cX7_load 6 (.iload_n 1) 1 7 := by decide +kernel
theorem d_X7_load_7 : Dc cX7_load 7 (.invokevirtual 204) 3 10 := by decide +kernel
theorem d_X7_load_10 : Dq cX7_load 10 (.ifCond .eq) 22 13 := by decide +kernel
theorem d_X7_load_13 : Dc cX7_load 13 (.iload_n 2) 1 14 := by decide +kernel
theorem d_X7_load_14 : Dc cX7_load 14 (.iconst 0) 1 15 := by decide +kernel
theorem d_X7_load_15 : Dc cX7_load 15 (.iconst 4) 1 16 := by decide +kernel
theorem d_X7_load_16 : Dc cX7_load 16 (.invokestatic 70) 3 19 := by decide +kernel
theorem d_X7_load_19 : Dq cX7_load 19 (.ifCond .ne) 25 22 := by decide +kernel
theorem d_X7_load_22 : Dc cX7_load 22 (.ldc 78) 2 24 := by decide +kernel
theorem d_X7_load_24 : Dc cX7_load 24 (.ireturn) 1 25 := by decide +kernel
theorem d_X7_load_25 : Dc cX7_load 25 (.iload_n 2) 1 26 := by decide +kernel
theorem d_X7_load_26 : Dc cX7_load 26 (.iconst 3) 1 27 := by decide +kernel
theorem d_X7_load_27 : Dq cX7_load 27 (.if_icmp .ge) 73 30 := by decide +kernel
theorem d_X7_load_30 : Dc cX7_load 30 (.iload_n 2) 1 31 := by decide +kernel
theorem d_X7_load_31 : Dq cX7_load 31 (.ifCond .ne) 46 34 := by decide +kernel
theorem d_X7_load_34 : Dc cX7_load 34 (.aload_n 0) 1 35 := by decide +kernel
theorem d_X7_load_35 : Dc cX7_load 35 (.getfield 31) 3 38 := by decide +kernel
theorem d_X7_load_38 : Dc cX7_load 38 (.bipush 18) 2 40 := by decide +kernel
theorem d_X7_load_40 : Dc cX7_load 40 (.iload_n 1) 1 41 := by decide +kernel
theorem d_X7_load_41 : Dc cX7_load 41 (.iadd) 1 42 := by decide +kernel
theorem d_X7_load_42 : Dc cX7_load 42 (.iaload) 1 43 := by decide +kernel
theorem d_X7_load_43 : Dq cX7_load 43 (.goto) 72 46 := by decide +kernel
theorem d_X7_load_46 : Dc cX7_load 46 (.iload_n 2) 1 47 := by decide +kernel
theorem d_X7_load_47 : Dc cX7_load 47 (.iconst 1) 1 48 := by decide +kernel
theorem d_X7_load_48 : Dq cX7_load 48 (.if_icmp .ne) 63 51 := by decide +kernel
theorem d_X7_load_51 : Dc cX7_load 51 (.aload_n 0) 1 52 := by decide +kernel
theorem d_X7_load_52 : Dc cX7_load 52 (.getfield 31) 3 55 := by decide +kernel
theorem d_X7_load_55 : Dc cX7_load 55 (.bipush 24) 2 57 := by decide +kernel
theorem d_X7_load_57 : Dc cX7_load 57 (.iload_n 1) 1 58 := by decide +kernel
theorem d_X7_load_58 : Dc cX7_load 58 (.iadd) 1 59 := by decide +kernel
theorem d_X7_load_59 : Dc cX7_load 59 (.iaload) 1 60 := by decide +kernel
theorem d_X7_load_60 : Dq cX7_load 60 (.goto) 72 63 := by decide +kernel
theorem d_X7_load_63 : Dc cX7_load 63 (.aload_n 0) 1 64 := by decide +kernel
theorem d_X7_load_64 : Dc cX7_load 64 (.getfield 31) 3 67 := by decide +kernel
theorem d_X7_load_67 : Dc cX7_load 67 (.bipush 30) 2 69 := by decide +kernel
theorem d_X7_load_69 : Dc cX7_load 69 (.iload_n 1) 1 70 := by decide +kernel
theorem d_X7_load_70 : Dc cX7_load 70 (.iadd) 1 71 := by decide +kernel
theorem d_X7_load_71 : Dc cX7_load 71 (.iaload) 1 72 := by decide +kernel
theorem d_X7_load_72 : Dc cX7_load 72 (.ireturn) 1 73 := by decide +kernel
theorem d_X7_load_73 : Dc cX7_load 73 (.iload_n 2) 1 74 := by decide +kernel
theorem d_X7_load_74 : Dc cX7_load 74 (.iconst 4) 1 75 := by decide +kernel
theorem d_X7_load_75 : Dq cX7_load 75 (.if_icmp .ne) 89 78 := by decide +kernel
theorem d_X7_load_78 : Dc cX7_load 78 (.aload_n 0) 1 79 := by decide +kernel
theorem d_X7_load_79 : Dc cX7_load 79 (.getfield 31) 3 82 := by decide +kernel
theorem d_X7_load_82 : Dc cX7_load 82 (.iload_n 1) 1 83 := by decide +kernel
theorem d_X7_load_83 : Dc cX7_load 83 (.invokestatic 187) 3 86 := by decide +kernel
theorem d_X7_load_86 : Dq cX7_load 86 (.goto) 116 89 := by decide +kernel
theorem d_X7_load_89 : Dc cX7_load 89 (.aload_n 0) 1 90 := by decide +kernel
theorem d_X7_load_90 : Dc cX7_load 90 (.getfield 31) 3 93 := by decide +kernel
theorem d_X7_load_93 : Dc cX7_load 93 (.bipush 30) 2 95 := by decide +kernel
theorem d_X7_load_95 : Dc cX7_load 95 (.iload_n 1) 1 96 := by decide +kernel
theorem d_X7_load_96 : Dc cX7_load 96 (.iadd) 1 97 := by decide +kernel
theorem d_X7_load_97 : Dc cX7_load 97 (.iaload) 1 98 := by decide +kernel
theorem d_X7_load_98 : Dc cX7_load 98 (.iconst 2) 1 99 := by decide +kernel
theorem d_X7_load_99 : Dq cX7_load 99 (.if_icmp .ne) 114 102 := by decide +kernel
theorem d_X7_load_102 : Dc cX7_load 102 (.aload_n 0) 1 103 := by decide +kernel
theorem d_X7_load_103 : Dc cX7_load 103 (.getfield 31) 3 106 := by decide +kernel
theorem d_X7_load_106 : Dc cX7_load 106 (.bipush 36) 2 108 := by decide +kernel
theorem d_X7_load_108 : Dc cX7_load 108 (.iload_n 1) 1 109 := by decide +kernel
theorem d_X7_load_109 : Dc cX7_load 109 (.iadd) 1 110 := by decide +kernel
theorem d_X7_load_110 : Dc cX7_load 110 (.iaload) 1 111 := by decide +kernel
theorem d_X7_load_111 : Dq cX7_load 111 (.goto) 116 114 := by decide +kernel
theorem d_X7_load_114 : Dc cX7_load 114 (.ldc 207) 2 116 := by decide +kernel
theorem d_X7_load_116 : Dc cX7_load 116 (.ireturn) 1 117 := by decide +kernel
theorem d_X7_lasts_0 : Dc cX7_lasts 0 (.aload_n 0) 1 1 := by decide +kernel
theorem d_X7_lasts_1 : Dc cX7_lasts 1 (.iconst 0) 1 2 := by decide +kernel
theorem d_X7_lasts_2 : Dc cX7_lasts 2 (.putfield 62) 3 5 := by decide +kernel
theorem d_X7_lasts_5 : Dc cX7_lasts 5 (.aload_n 0) 1 6 := by decide +kernel
theorem d_X7_lasts_6 : Dc cX7_lasts 6 (.iload_n 1) 1 7 := by decide +kernel
theorem d_X7_lasts_7 : Dc cX7_lasts 7 (.invokevirtual 201) 3 10 := by decide +kernel
theorem d_X7_lasts_10 : Dq cX7_lasts 10 (.ifCond .eq) 37 13 := by decide +kernel
theorem d_X7_lasts_13 : Dc cX7_lasts 13 (.aload_n 0) 1 14 := by decide +kernel
theorem d_X7_lasts_14 : Dc cX7_lasts 14 (.iload_n 2) 1 15 := by decide +kernel
theorem d_X7_lasts_15 : Dc cX7_lasts 15 (.invokevirtual 204) 3 18 := by decide +kernel
theorem d_X7_lasts_18 : Dq cX7_lasts 18 (.ifCond .eq) 37 21 := by decide +kernel
theorem d_X7_lasts_21 : Dc cX7_lasts 21 (.aload_n 0) 1 22 := by decide +kernel
theorem d_X7_lasts_22 : Dc cX7_lasts 22 (.getfield 28) 3 25 := by decide +kernel
theorem d_X7_lasts_25 : Dc cX7_lasts 25 (.aload_n 0) 1 26 := by decide +kernel
theorem d_X7_lasts_26 : Dc cX7_lasts 26 (.getfield 31) 3 29 := by decide +kernel
theorem d_X7_lasts_29 : Dc cX7_lasts 29 (.iload_n 1) 1 30 := by decide +kernel
theorem d_X7_lasts_30 : Dc cX7_lasts 30 (.iload_n 2) 1 31 := by decide +kernel
theorem d_X7_lasts_31 : Dc cX7_lasts 31 (.invokestatic 170) 3 34 := by decide +kernel
theorem d_X7_lasts_34 : Dq cX7_lasts 34 (.goto) 39 37 := by decide +kernel
theorem d_X7_lasts_37 : Dc cX7_lasts 37 (.ldc 78) 2 39 := by decide +kernel
theorem d_X7_lasts_39 : Dc cX7_lasts 39 (.ireturn) 1 40 := by decide +kernel
theorem d_X7_withLoads_0 : Dc cX7_withLoads 0 (.iconst 0) 1 1 := by decide +kernel
theorem d_X7_withLoads_1 : Dc cX7_withLoads 1 (.istore_n 1) 1 2 := by decide +kernel
theorem d_X7_withLoads_2 : Dc cX7_withLoads 2 (.iconst 0) 1 3 := by decide +kernel
theorem d_X7_withLoads_3 : Dc cX7_withLoads 3 (.istore_n 2) 1 4 := by decide +kernel
theorem d_X7_withLoads_4 : Dc cX7_withLoads 4 (.iload_n 2) 1 5 := by decide +kernel
theorem d_X7_withLoads_5 : Dc cX7_withLoads 5 (.aload_n 0) 1 6 := by decide +kernel
theorem d_X7_withLoads_6 : Dc cX7_withLoads 6 (.getfield 28) 3 9 := by decide +kernel
theorem d_X7_withLoads_9 : Dc cX7_withLoads 9 (.iconst 0) 1 10 := by decide +kernel
theorem d_X7_withLoads_10 : Dc cX7_withLoads 10 (.iaload) 1 11 := by decide +kernel
theorem d_X7_withLoads_11 : Dq cX7_withLoads 11 (.if_icmp .ge) 41 14 := by decide +kernel
theorem d_X7_withLoads_14 : Dc cX7_withLoads 14 (.iload_n 1) 1 15 := by decide +kernel
theorem d_X7_withLoads_15 : Dc cX7_withLoads 15 (.aload_n 0) 1 16 := by decide +kernel
theorem d_X7_withLoads_16 : Dc cX7_withLoads 16 (.getfield 31) 3 19 := by decide +kernel
theorem d_X7_withLoads_19 : Dc cX7_withLoads 19 (.iconst 3) 1 20 := by decide +kernel
theorem d_X7_withLoads_20 : Dc cX7_withLoads 20 (.iload_n 2) 1 21 := by decide +kernel
theorem d_X7_withLoads_21 : Dc cX7_withLoads 21 (.iadd) 1 22 := by decide +kernel
theorem d_X7_withLoads_22 : Dc cX7_withLoads 22 (.iaload) 1 23 := by decide +kernel
theorem d_X7_withLoads_23 : Dq cX7_withLoads 23 (.ifCond .lt) 32 26 := by decide +kernel
theorem d_X7_withLoads_26 : Dc cX7_withLoads 26 (.iconst 1) 1 27 := by decide +kernel
theorem d_X7_withLoads_27 : Dc cX7_withLoads 27 (.iload_n 2) 1 28 := by decide +kernel
theorem d_X7_withLoads_28 : Dc cX7_withLoads 28 (.ishl) 1 29 := by decide +kernel
theorem d_X7_withLoads_29 : Dq cX7_withLoads 29 (.goto) 33 32 := by decide +kernel
theorem d_X7_withLoads_32 : Dc cX7_withLoads 32 (.iconst 0) 1 33 := by decide +kernel
theorem d_X7_withLoads_33 : Dc cX7_withLoads 33 (.ior) 1 34 := by decide +kernel
theorem d_X7_withLoads_34 : Dc cX7_withLoads 34 (.istore_n 1) 1 35 := by decide +kernel
theorem d_X7_withLoads_35 : Dc cX7_withLoads 35 (.iinc 2 1) 3 38 := by decide +kernel
theorem d_X7_withLoads_38 : Dq cX7_withLoads 38 (.goto) 4 41 := by decide +kernel
theorem d_X7_withLoads_41 : Dc cX7_withLoads 41 (.iload_n 1) 1 42 := by decide +kernel
theorem d_X7_withLoads_42 : Dc cX7_withLoads 42 (.ireturn) 1 43 := by decide +kernel
theorem d_X7_stand_0 : Dc cX7_stand 0 (.aload_n 0) 1 1 := by decide +kernel
theorem d_X7_stand_1 : Dc cX7_stand 1 (.iconst 0) 1 2 := by decide +kernel
theorem d_X7_stand_2 : Dc cX7_stand 2 (.putfield 62) 3 5 := by decide +kernel
theorem d_X7_stand_5 : Dc cX7_stand 5 (.aload_n 0) 1 6 := by decide +kernel
theorem d_X7_stand_6 : Dc cX7_stand 6 (.invokevirtual 195) 3 9 := by decide +kernel
theorem d_X7_stand_9 : Dq cX7_stand 9 (.ifCond .eq) 15 12 := by decide +kernel
theorem d_X7_stand_12 : Dc cX7_stand 12 (.ldc 194) 2 14 := by decide +kernel
theorem d_X7_stand_14 : Dc cX7_stand 14 (.ireturn) 1 15 := by decide +kernel
theorem d_X7_stand_15 : Dc cX7_stand 15 (.iload_n 1) 1 16 := by decide +kernel
theorem d_X7_stand_16 : Dc cX7_stand 16 (.iconst 0) 1 17 := by decide +kernel
theorem d_X7_stand_17 : Dc cX7_stand 17 (.iconst 5) 1 18 := by decide +kernel
theorem d_X7_stand_18 : Dc cX7_stand 18 (.invokestatic 70) 3 21 := by decide +kernel
theorem d_X7_stand_21 : Dq cX7_stand 21 (.ifCond .ne) 27 24 := by decide +kernel
theorem d_X7_stand_24 : Dc cX7_stand 24 (.ldc 78) 2 26 := by decide +kernel
theorem d_X7_stand_26 : Dc cX7_stand 26 (.ireturn) 1 27 := by decide +kernel
theorem d_X7_stand_27 : Dc cX7_stand 27 (.iload_n 1) 1 28 := by decide +kernel
theorem d_X7_stand_28 : Dq cX7_stand 28 (.ifCond .ne) 40 31 := by decide +kernel
theorem d_X7_stand_31 : Dc cX7_stand 31 (.aload_n 0) 1 32 := by decide +kernel
theorem d_X7_stand_32 : Dc cX7_stand 32 (.getfield 31) 3 35 := by decide +kernel
theorem d_X7_stand_35 : Dc cX7_stand 35 (.iconst 1) 1 36 := by decide +kernel
theorem d_X7_stand_36 : Dc cX7_stand 36 (.iaload) 1 37 := by decide +kernel
theorem d_X7_stand_37 : Dq cX7_stand 37 (.goto) 77 40 := by decide +kernel
theorem d_X7_stand_40 : Dc cX7_stand 40 (.iload_n 1) 1 41 := by decide +kernel
theorem d_X7_stand_41 : Dc cX7_stand 41 (.iconst 4) 1 42 := by decide +kernel
theorem d_X7_stand_42 : Dq cX7_stand 42 (.if_icmp .ge) 59 45 := by decide +kernel
theorem d_X7_stand_45 : Dc cX7_stand 45 (.aload_n 0) 1 46 := by decide +kernel
theorem d_X7_stand_46 : Dc cX7_stand 46 (.aload_n 0) 1 47 := by decide +kernel
theorem d_X7_stand_47 : Dc cX7_stand 47 (.getfield 31) 3 50 := by decide +kernel
theorem d_X7_stand_50 : Dc cX7_stand 50 (.iload_n 1) 1 51 := by decide +kernel
theorem d_X7_stand_51 : Dc cX7_stand 51 (.iconst 1) 1 52 := by decide +kernel
theorem d_X7_stand_52 : Dc cX7_stand 52 (.isub) 1 53 := by decide +kernel
theorem d_X7_stand_53 : Dc cX7_stand 53 (.invokevirtual 191) 3 56 := by decide +kernel
theorem d_X7_stand_56 : Dq cX7_stand 56 (.goto) 77 59 := by decide +kernel
theorem d_X7_stand_59 : Dc cX7_stand 59 (.iload_n 1) 1 60 := by decide +kernel
theorem d_X7_stand_60 : Dc cX7_stand 60 (.iconst 4) 1 61 := by decide +kernel
theorem d_X7_stand_61 : Dq cX7_stand 61 (.if_icmp .ne) 73 64 := by decide +kernel
theorem d_X7_stand_64 : Dc cX7_stand 64 (.aload_n 0) 1 65 := by decide +kernel
theorem d_X7_stand_65 : Dc cX7_stand 65 (.getfield 31) 3 68 := by decide +kernel
theorem d_X7_stand_68 : Dc cX7_stand 68 (.iconst 2) 1 69 := by decide +kernel
theorem d_X7_stand_69 : Dc cX7_stand 69 (.iaload) 1 70 := by decide +kernel
theorem d_X7_stand_70 : Dq cX7_stand 70 (.goto) 77 73 := by decide +kernel
theorem d_X7_stand_73 : Dc cX7_stand 73 (.aload_n 0) 1 74 := by decide +kernel
theorem d_X7_stand_74 : Dc cX7_stand 74 (.invokevirtual 208) 3 77 := by decide +kernel
theorem d_X7_stand_77 : Dc cX7_stand 77 (.ireturn) 1 78 := by decide +kernel
theorem d_X7_ahead_0 : Dc cX7_ahead 0 (.aload_n 0) 1 1 := by decide +kernel
theorem d_X7_ahead_1 : Dc cX7_ahead 1 (.iconst 0) 1 2 := by decide +kernel
theorem d_X7_ahead_2 : Dc cX7_ahead 2 (.putfield 62) 3 5 := by decide +kernel
theorem d_X7_ahead_5 : Dc cX7_ahead 5 (.aload_n 0) 1 6 := by decide +kernel
theorem d_X7_ahead_6 : Dc cX7_ahead 6 (.iload_n 1) 1 7 := by decide +kernel
theorem d_X7_ahead_7 : Dc cX7_ahead 7 (.invokevirtual 204) 3 10 := by decide +kernel
theorem d_X7_ahead_10 : Dq cX7_ahead 10 (.ifCond .eq) 32 13 := by decide +kernel
theorem d_X7_ahead_13 : Dc cX7_ahead 13 (.iload_n 2) 1 14 := by decide +kernel
theorem d_X7_ahead_14 : Dc cX7_ahead 14 (.iconst 0) 1 15 := by decide +kernel
theorem d_X7_ahead_15 : Dc cX7_ahead 15 (.bipush 60) 2 17 := by decide +kernel
theorem d_X7_ahead_17 : Dc cX7_ahead 17 (.invokestatic 70) 3 20 := by decide +kernel
theorem d_X7_ahead_20 : Dq cX7_ahead 20 (.ifCond .eq) 32 23 := by decide +kernel
theorem d_X7_ahead_23 : Dc cX7_ahead 23 (.iload_n 3) 1 24 := by decide +kernel
theorem d_X7_ahead_24 : Dc cX7_ahead 24 (.iconst 0) 1 25 := by decide +kernel
theorem d_X7_ahead_25 : Dc cX7_ahead 25 (.iconst 1) 1 26 := by decide +kernel
theorem d_X7_ahead_26 : Dc cX7_ahead 26 (.invokestatic 70) 3 29 := by decide +kernel
theorem d_X7_ahead_29 : Dq cX7_ahead 29 (.ifCond .ne) 35 32 := by decide +kernel
theorem d_X7_ahead_32 : Dc cX7_ahead 32 (.ldc 78) 2 34 := by decide +kernel
theorem d_X7_ahead_34 : Dc cX7_ahead 34 (.ireturn) 1 35 := by decide +kernel
theorem d_X7_ahead_35 : Dc cX7_ahead 35 (.aload_n 0) 1 36 := by decide +kernel
theorem d_X7_ahead_36 : Dc cX7_ahead 36 (.iload_n 2) 1 37 := by decide +kernel
theorem d_X7_ahead_37 : Dc cX7_ahead 37 (.invokevirtual 212) 3 40 := by decide +kernel
theorem d_X7_ahead_40 : Dc cX7_ahead 40 (.iload_n 3) 1 41 := by decide +kernel
theorem d_X7_ahead_41 : Dq cX7_ahead 41 (.ifCond .ne) 56 44 := by decide +kernel
theorem d_X7_ahead_44 : Dc cX7_ahead 44 (.aload_n 0) 1 45 := by decide +kernel
theorem d_X7_ahead_45 : Dc cX7_ahead 45 (.getfield 37) 3 48 := by decide +kernel
theorem d_X7_ahead_48 : Dc cX7_ahead 48 (.bipush 30) 2 50 := by decide +kernel
theorem d_X7_ahead_50 : Dc cX7_ahead 50 (.iload_n 1) 1 51 := by decide +kernel
theorem d_X7_ahead_51 : Dc cX7_ahead 51 (.iadd) 1 52 := by decide +kernel
theorem d_X7_ahead_52 : Dc cX7_ahead 52 (.iaload) 1 53 := by decide +kernel
theorem d_X7_ahead_53 : Dq cX7_ahead 53 (.goto) 64 56 := by decide +kernel
theorem d_X7_ahead_56 : Dc cX7_ahead 56 (.aload_n 0) 1 57 := by decide +kernel
theorem d_X7_ahead_57 : Dc cX7_ahead 57 (.getfield 37) 3 60 := by decide +kernel
theorem d_X7_ahead_60 : Dc cX7_ahead 60 (.iload_n 1) 1 61 := by decide +kernel
theorem d_X7_ahead_61 : Dc cX7_ahead 61 (.invokestatic 187) 3 64 := by decide +kernel
theorem d_X7_ahead_64 : Dc cX7_ahead 64 (.ireturn) 1 65 := by decide +kernel
theorem d_X7_inside_0 : Dc cX7_inside 0 (.aload_n 0) 1 1 := by decide +kernel
theorem d_X7_inside_1 : Dc cX7_inside 1 (.iconst 0) 1 2 := by decide +kernel
theorem d_X7_inside_2 : Dc cX7_inside 2 (.putfield 62) 3 5 := by decide +kernel
theorem d_X7_inside_5 : Dc cX7_inside 5 (.aload_n 0) 1 6 := by decide +kernel
theorem d_X7_inside_6 : Dc cX7_inside 6 (.iload_n 1) 1 7 := by decide +kernel
theorem d_X7_inside_7 : Dc cX7_inside 7 (.invokevirtual 201) 3 10 := by decide +kernel
theorem d_X7_inside_10 : Dq cX7_inside 10 (.ifCond .eq) 32 13 := by decide +kernel
theorem d_X7_inside_13 : Dc cX7_inside 13 (.iload_n 2) 1 14 := by decide +kernel
theorem d_X7_inside_14 : Dc cX7_inside 14 (.iconst 0) 1 15 := by decide +kernel
theorem d_X7_inside_15 : Dc cX7_inside 15 (.bipush 60) 2 17 := by decide +kernel
theorem d_X7_inside_17 : Dc cX7_inside 17 (.invokestatic 70) 3 20 := by decide +kernel
theorem d_X7_inside_20 : Dq cX7_inside 20 (.ifCond .eq) 32 23 := by decide +kernel
theorem d_X7_inside_23 : Dc cX7_inside 23 (.iload_n 3) 1 24 := by decide +kernel
theorem d_X7_inside_24 : Dc cX7_inside 24 (.iconst 0) 1 25 := by decide +kernel
theorem d_X7_inside_25 : Dc cX7_inside 25 (.iconst 2) 1 26 := by decide +kernel
theorem d_X7_inside_26 : Dc cX7_inside 26 (.invokestatic 70) 3 29 := by decide +kernel
theorem d_X7_inside_29 : Dq cX7_inside 29 (.ifCond .ne) 35 32 := by decide +kernel
theorem d_X7_inside_32 : Dc cX7_inside 32 (.ldc 78) 2 34 := by decide +kernel
theorem d_X7_inside_34 : Dc cX7_inside 34 (.ireturn) 1 35 := by decide +kernel
theorem d_X7_inside_35 : Dc cX7_inside 35 (.aload_n 0) 1 36 := by decide +kernel
theorem d_X7_inside_36 : Dc cX7_inside 36 (.iload_n 2) 1 37 := by decide +kernel
theorem d_X7_inside_37 : Dc cX7_inside 37 (.invokevirtual 212) 3 40 := by decide +kernel
theorem d_X7_inside_40 : Dc cX7_inside 40 (.aload_n 0) 1 41 := by decide +kernel
theorem d_X7_inside_41 : Dc cX7_inside 41 (.getfield 37) 3 44 := by decide +kernel
theorem d_X7_inside_44 : Dc cX7_inside 44 (.iconst 3) 1 45 := by decide +kernel
theorem d_X7_inside_45 : Dc cX7_inside 45 (.iload_n 1) 1 46 := by decide +kernel
theorem d_X7_inside_46 : Dc cX7_inside 46 (.iadd) 1 47 := by decide +kernel
theorem d_X7_inside_47 : Dc cX7_inside 47 (.iaload) 1 48 := by decide +kernel
theorem d_X7_inside_48 : Dq cX7_inside 48 (.ifCond .lt) 55 51 := by decide +kernel
theorem d_X7_inside_51 : Dc cX7_inside 51 (.iconst 1) 1 52 := by decide +kernel
theorem d_X7_inside_52 : Dq cX7_inside 52 (.goto) 56 55 := by decide +kernel
theorem d_X7_inside_55 : Dc cX7_inside 55 (.iconst 0) 1 56 := by decide +kernel
theorem d_X7_inside_56 : Dc cX7_inside 56 (.istore 4) 2 58 := by decide +kernel
theorem d_X7_inside_58 : Dc cX7_inside 58 (.iload_n 3) 1 59 := by decide +kernel
theorem d_X7_inside_59 : Dq cX7_inside 59 (.ifCond .ne) 83 62 := by decide +kernel
theorem d_X7_inside_62 : Dc cX7_inside 62 (.iload 4) 2 64 := by decide +kernel
theorem d_X7_inside_64 : Dq cX7_inside 64 (.ifCond .eq) 78 67 := by decide +kernel
theorem d_X7_inside_67 : Dc cX7_inside 67 (.aload_n 0) 1 68 := by decide +kernel
theorem d_X7_inside_68 : Dc cX7_inside 68 (.getfield 37) 3 71 := by decide +kernel
theorem d_X7_inside_71 : Dc cX7_inside 71 (.iconst 3) 1 72 := by decide +kernel
theorem d_X7_inside_72 : Dc cX7_inside 72 (.iload_n 1) 1 73 := by decide +kernel
theorem d_X7_inside_73 : Dc cX7_inside 73 (.iadd) 1 74 := by decide +kernel
theorem d_X7_inside_74 : Dc cX7_inside 74 (.iaload) 1 75 := by decide +kernel
theorem d_X7_inside_75 : Dq cX7_inside 75 (.goto) 118 78 := by decide +kernel
theorem d_X7_inside_78 : Dc cX7_inside 78 (.ldc 207) 2 80 := by decide +kernel
theorem d_X7_inside_80 : Dq cX7_inside 80 (.goto) 118 83 := by decide +kernel
theorem d_X7_inside_83 : Dc cX7_inside 83 (.iload_n 3) 1 84 := by decide +kernel
theorem d_X7_inside_84 : Dc cX7_inside 84 (.iconst 1) 1 85 := by decide +kernel
theorem d_X7_inside_85 : Dq cX7_inside 85 (.if_icmp .ne) 109 88 := by decide +kernel
theorem d_X7_inside_88 : Dc cX7_inside 88 (.iload 4) 2 90 := by decide +kernel
theorem d_X7_inside_90 : Dq cX7_inside 90 (.ifCond .eq) 105 93 := by decide +kernel
theorem d_X7_inside_93 : Dc cX7_inside 93 (.aload_n 0) 1 94 := by decide +kernel
theorem d_X7_inside_94 : Dc cX7_inside 94 (.getfield 37) 3 97 := by decide +kernel
theorem d_X7_inside_97 : Dc cX7_inside 97 (.bipush 8) 2 99 := by decide +kernel
theorem d_X7_inside_99 : Dc cX7_inside 99 (.iload_n 1) 1 100 := by decide +kernel
theorem d_X7_inside_100 : Dc cX7_inside 100 (.iadd) 1 101 := by decide +kernel
theorem d_X7_inside_101 : Dc cX7_inside 101 (.iaload) 1 102 := by decide +kernel
theorem d_X7_inside_102 : Dq cX7_inside 102 (.goto) 118 105 := by decide +kernel
theorem d_X7_inside_105 : Dc cX7_inside 105 (.iconst 0) 1 106 := by decide +kernel
theorem d_X7_inside_106 : Dq cX7_inside 106 (.goto) 118 109 := by decide +kernel
theorem d_X7_inside_109 : Dc cX7_inside 109 (.aload_n 0) 1 110 := by decide +kernel
theorem d_X7_inside_110 : Dc cX7_inside 110 (.getfield 37) 3 113 := by decide +kernel
theorem d_X7_inside_113 : Dc cX7_inside 113 (.bipush 13) 2 115 := by decide +kernel
theorem d_X7_inside_115 : Dc cX7_inside 115 (.iload_n 1) 1 116 := by decide +kernel
theorem d_X7_inside_116 : Dc cX7_inside 116 (.iadd) 1 117 := by decide +kernel
theorem d_X7_inside_117 : Dc cX7_inside 117 (.iaload) 1 118 := by decide +kernel
theorem d_X7_inside_118 : Dc cX7_inside 118 (.ireturn) 1 119 := by decide +kernel
theorem d_X7_all_0 : Dc cX7_all 0 (.aload_n 0) 1 1 := by decide +kernel
theorem d_X7_all_1 : Dc cX7_all 1 (.iconst 0) 1 2 := by decide +kernel
theorem d_X7_all_2 : Dc cX7_all 2 (.putfield 62) 3 5 := by decide +kernel
theorem d_X7_all_5 : Dc cX7_all 5 (.aload_n 0) 1 6 := by decide +kernel
theorem d_X7_all_6 : Dc cX7_all 6 (.invokevirtual 195) 3 9 := by decide +kernel
theorem d_X7_all_9 : Dq cX7_all 9 (.ifCond .eq) 15 12 := by decide +kernel
theorem d_X7_all_12 : Dc cX7_all 12 (.ldc 194) 2 14 := by decide +kernel
theorem d_X7_all_14 : Dc cX7_all 14 (.ireturn) 1 15 := by decide +kernel
theorem d_X7_all_15 : Dc cX7_all 15 (.iload_n 1) 1 16 := by decide +kernel
theorem d_X7_all_16 : Dc cX7_all 16 (.iconst 0) 1 17 := by decide +kernel
theorem d_X7_all_17 : Dc cX7_all 17 (.bipush 60) 2 19 := by decide +kernel
theorem d_X7_all_19 : Dc cX7_all 19 (.invokestatic 70) 3 22 := by decide +kernel
theorem d_X7_all_22 : Dq cX7_all 22 (.ifCond .eq) 34 25 := by decide +kernel
theorem d_X7_all_25 : Dc cX7_all 25 (.iload_n 2) 1 26 := by decide +kernel
theorem d_X7_all_26 : Dc cX7_all 26 (.iconst 0) 1 27 := by decide +kernel
theorem d_X7_all_27 : Dc cX7_all 27 (.iconst 1) 1 28 := by decide +kernel
theorem d_X7_all_28 : Dc cX7_all 28 (.invokestatic 70) 3 31 := by decide +kernel
theorem d_X7_all_31 : Dq cX7_all 31 (.ifCond .ne) 37 34 := by decide +kernel
theorem d_X7_all_34 : Dc cX7_all 34 (.ldc 78) 2 36 := by decide +kernel
theorem d_X7_all_36 : Dc cX7_all 36 (.ireturn) 1 37 := by decide +kernel
theorem d_X7_all_37 : Dc cX7_all 37 (.aload_n 0) 1 38 := by decide +kernel
theorem d_X7_all_38 : Dc cX7_all 38 (.iload_n 1) 1 39 := by decide +kernel
theorem d_X7_all_39 : Dc cX7_all 39 (.invokevirtual 212) 3 42 := by decide +kernel
theorem d_X7_all_42 : Dc cX7_all 42 (.iload_n 2) 1 43 := by decide +kernel
theorem d_X7_all_43 : Dq cX7_all 43 (.ifCond .ne) 58 46 := by decide +kernel
theorem d_X7_all_46 : Dc cX7_all 46 (.aload_n 0) 1 47 := by decide +kernel
theorem d_X7_all_47 : Dc cX7_all 47 (.aload_n 0) 1 48 := by decide +kernel
theorem d_X7_all_48 : Dc cX7_all 48 (.getfield 37) 3 51 := by decide +kernel
theorem d_X7_all_51 : Dc cX7_all 51 (.iconst 2) 1 52 := by decide +kernel
theorem d_X7_all_52 : Dc cX7_all 52 (.invokevirtual 191) 3 55 := by decide +kernel
theorem d_X7_all_55 : Dq cX7_all 55 (.goto) 66 58 := by decide +kernel
theorem d_X7_all_58 : Dc cX7_all 58 (.aload_n 0) 1 59 := by decide +kernel
theorem d_X7_all_59 : Dc cX7_all 59 (.aload_n 0) 1 60 := by decide +kernel
theorem d_X7_all_60 : Dc cX7_all 60 (.getfield 37) 3 63 := by decide +kernel
theorem d_X7_all_63 : Dc cX7_all 63 (.invokevirtual 215) 3 66 := by decide +kernel
theorem d_X7_all_66 : Dc cX7_all 66 (.ireturn) 1 67 := by decide +kernel
theorem d_X7_isSo_0 : Dc cX7_isSo 0 (.aload_n 0) 1 1 := by decide +kernel
theorem d_X7_isSo_1 : Dc cX7_isSo 1 (.getfield 37) 3 4 := by decide +kernel
theorem d_X7_isSo_4 : Dc cX7_isSo 4 (.bipush 30) 2 6 := by decide +kernel
theorem d_X7_isSo_6 : Dc cX7_isSo 6 (.iload_n 1) 1 7 := by decide +kernel
theorem d_X7_isSo_7 : Dc cX7_isSo 7 (.iadd) 1 8 := by decide +kernel
theorem d_X7_isSo_8 : Dc cX7_isSo 8 (.iaload) 1 9 := by decide +kernel
theorem d_X7_isSo_9 : Dc cX7_isSo 9 (.istore_n 3) 1 10 := by decide +kernel
theorem d_X7_isSo_10 : Dc cX7_isSo 10 (.iload_n 3) 1 11 := by decide +kernel
theorem d_X7_isSo_11 : Dc cX7_isSo 11 (.iconst 2) 1 12 := by decide +kernel
theorem d_X7_isSo_12 : Dq cX7_isSo 12 (.if_icmp .eq) 48 15 := by decide +kernel
theorem d_X7_isSo_15 : Dc cX7_isSo 15 (.iload_n 2) 1 16 := by decide +kernel
theorem d_X7_isSo_16 : Dc cX7_isSo 16 (.iconst 1) 1 17 := by decide +kernel
theorem d_X7_isSo_17 : Dq cX7_isSo 17 (.if_icmp .ne) 52 20 := by decide +kernel
theorem d_X7_isSo_20 : Dc cX7_isSo 20 (.iload_n 3) 1 21 := by decide +kernel
theorem d_X7_isSo_21 : Dc cX7_isSo 21 (.iconst 1) 1 22 := by decide +kernel
theorem d_X7_isSo_22 : Dq cX7_isSo 22 (.if_icmp .eq) 48 25 := by decide +kernel
theorem d_X7_isSo_25 : Dc cX7_isSo 25 (.iload_n 3) 1 26 := by decide +kernel
theorem d_X7_isSo_26 : Dc cX7_isSo 26 (.bipush 10) 2 28 := by decide +kernel
theorem d_X7_isSo_28 : Dq cX7_isSo 28 (.if_icmp .lt) 52 31 := by decide +kernel
theorem d_X7_isSo_31 : Dc cX7_isSo 31 (.aload_n 0) 1 32 := by decide +kernel
theorem d_X7_isSo_32 : Dc cX7_isSo 32 (.getfield 28) 3 35 := by decide +kernel
theorem d_X7_isSo_35 : Dc cX7_isSo 35 (.iconst 2) 1 36 := by decide +kernel
theorem d_X7_isSo_36 : Dc cX7_isSo 36 (.iload_n 3) 1 37 := by decide +kernel
theorem d_X7_isSo_37 : Dc cX7_isSo 37 (.iadd) 1 38 := by decide +kernel
theorem d_X7_isSo_38 : Dc cX7_isSo 38 (.bipush 10) 2 40 := by decide +kernel
theorem d_X7_isSo_40 : Dc cX7_isSo 40 (.isub) 1 41 := by decide +kernel
theorem d_X7_isSo_41 : Dc cX7_isSo 41 (.iaload) 1 42 := by decide +kernel
theorem d_X7_isSo_42 : Dc cX7_isSo 42 (.invokestatic 152) 3 45 := by decide +kernel
theorem d_X7_isSo_45 : Dq cX7_isSo 45 (.ifCond .ne) 52 48 := by decide +kernel
theorem d_X7_isSo_48 : Dc cX7_isSo 48 (.iconst 1) 1 49 := by decide +kernel
theorem d_X7_isSo_49 : Dq cX7_isSo 49 (.goto) 53 52 := by decide +kernel
theorem d_X7_isSo_52 : Dc cX7_isSo 52 (.iconst 0) 1 53 := by decide +kernel
theorem d_X7_isSo_53 : Dc cX7_isSo 53 (.ireturn) 1 54 := by decide +kernel
theorem d_X7_when_0 : Dc cX7_when 0 (.aload_n 0) 1 1 := by decide +kernel
theorem d_X7_when_1 : Dc cX7_when 1 (.iconst 0) 1 2 := by decide +kernel
theorem d_X7_when_2 : Dc cX7_when 2 (.putfield 62) 3 5 := by decide +kernel
theorem d_X7_when_5 : Dc cX7_when 5 (.aload_n 0) 1 6 := by decide +kernel
theorem d_X7_when_6 : Dc cX7_when 6 (.iload_n 1) 1 7 := by decide +kernel
theorem d_X7_when_7 : Dc cX7_when 7 (.invokevirtual 204) 3 10 := by decide +kernel
theorem d_X7_when_10 : Dq cX7_when 10 (.ifCond .eq) 22 13 := by decide +kernel
theorem d_X7_when_13 : Dc cX7_when 13 (.iload_n 2) 1 14 := by decide +kernel
theorem d_X7_when_14 : Dc cX7_when 14 (.iconst 1) 1 15 := by decide +kernel
theorem d_X7_when_15 : Dc cX7_when 15 (.iconst 2) 1 16 := by decide +kernel
theorem d_X7_when_16 : Dc cX7_when 16 (.invokestatic 70) 3 19 := by decide +kernel
theorem d_X7_when_19 : Dq cX7_when 19 (.ifCond .ne) 25 22 := by decide +kernel
theorem d_X7_when_22 : Dc cX7_when 22 (.ldc 78) 2 24 := by decide +kernel
theorem d_X7_when_24 : Dc cX7_when 24 (.ireturn) 1 25 := by decide +kernel
theorem d_X7_when_25 : Dc cX7_when 25 (.aload_n 0) 1 26 := by decide +kernel
theorem d_X7_when_26 : Dc cX7_when 26 (.iconst 0) 1 27 := by decide +kernel
theorem d_X7_when_27 : Dc cX7_when 27 (.invokevirtual 212) 3 30 := by decide +kernel
theorem d_X7_when_30 : Dc cX7_when 30 (.iconst 0) 1 31 := by decide +kernel
theorem d_X7_when_31 : Dc cX7_when 31 (.istore_n 3) 1 32 := by decide +kernel
theorem d_X7_when_32 : Dc cX7_when 32 (.iload_n 3) 1 33 := by decide +kernel
theorem d_X7_when_33 : Dc cX7_when 33 (.bipush 60) 2 35 := by decide +kernel
theorem d_X7_when_35 : Dq cX7_when 35 (.if_icmp .gt) 67 38 := by decide +kernel
theorem d_X7_when_38 : Dc cX7_when 38 (.aload_n 0) 1 39 := by decide +kernel
theorem d_X7_when_39 : Dc cX7_when 39 (.iload_n 1) 1 40 := by decide +kernel
theorem d_X7_when_40 : Dc cX7_when 40 (.iload_n 2) 1 41 := by decide +kernel
theorem d_X7_when_41 : Dc cX7_when 41 (.invokevirtual 219) 3 44 := by decide +kernel
theorem d_X7_when_44 : Dq cX7_when 44 (.ifCond .eq) 49 47 := by decide +kernel
theorem d_X7_when_47 : Dc cX7_when 47 (.iload_n 3) 1 48 := by decide +kernel
theorem d_X7_when_48 : Dc cX7_when 48 (.ireturn) 1 49 := by decide +kernel
theorem d_X7_when_49 : Dc cX7_when 49 (.aload_n 0) 1 50 := by decide +kernel
theorem d_X7_when_50 : Dc cX7_when 50 (.aload_n 0) 1 51 := by decide +kernel
theorem d_X7_when_51 : Dc cX7_when 51 (.getfield 34) 3 54 := by decide +kernel
theorem d_X7_when_54 : Dc cX7_when 54 (.aload_n 0) 1 55 := by decide +kernel
theorem d_X7_when_55 : Dc cX7_when 55 (.getfield 37) 3 58 := by decide +kernel
theorem d_X7_when_58 : Dc cX7_when 58 (.invokevirtual 174) 3 61 := by decide +kernel
theorem d_X7_when_61 : Dc cX7_when 61 (.iinc 3 1) 3 64 := by decide +kernel
theorem d_X7_when_64 : Dq cX7_when 64 (.goto) 32 67 := by decide +kernel
theorem d_X7_when_67 : Dc cX7_when 67 (.ldc 207) 2 69 := by decide +kernel
theorem d_X7_when_69 : Dc cX7_when 69 (.ireturn) 1 70 := by decide +kernel
theorem d_X7_over_0 : Dc cX7_over 0 (.aload_n 0) 1 1 := by decide +kernel
theorem d_X7_over_1 : Dc cX7_over 1 (.iconst 0) 1 2 := by decide +kernel
theorem d_X7_over_2 : Dc cX7_over 2 (.putfield 62) 3 5 := by decide +kernel
theorem d_X7_over_5 : Dc cX7_over 5 (.aload_n 0) 1 6 := by decide +kernel
theorem d_X7_over_6 : Dc cX7_over 6 (.invokevirtual 195) 3 9 := by decide +kernel
theorem d_X7_over_9 : Dq cX7_over 9 (.ifCond .eq) 15 12 := by decide +kernel
theorem d_X7_over_12 : Dc cX7_over 12 (.ldc 194) 2 14 := by decide +kernel
theorem d_X7_over_14 : Dc cX7_over 14 (.ireturn) 1 15 := by decide +kernel
theorem d_X7_over_15 : Dc cX7_over 15 (.aload_n 0) 1 16 := by decide +kernel
theorem d_X7_over_16 : Dc cX7_over 16 (.iconst 0) 1 17 := by decide +kernel
theorem d_X7_over_17 : Dc cX7_over 17 (.invokevirtual 212) 3 20 := by decide +kernel
theorem d_X7_over_20 : Dc cX7_over 20 (.iconst 0) 1 21 := by decide +kernel
theorem d_X7_over_21 : Dc cX7_over 21 (.istore_n 1) 1 22 := by decide +kernel
theorem d_X7_over_22 : Dc cX7_over 22 (.iload_n 1) 1 23 := by decide +kernel
theorem d_X7_over_23 : Dc cX7_over 23 (.bipush 60) 2 25 := by decide +kernel
theorem d_X7_over_25 : Dq cX7_over 25 (.if_icmp .gt) 55 28 := by decide +kernel
theorem d_X7_over_28 : Dc cX7_over 28 (.aload_n 0) 1 29 := by decide +kernel
theorem d_X7_over_29 : Dc cX7_over 29 (.invokevirtual 222) 3 32 := by decide +kernel
theorem d_X7_over_32 : Dq cX7_over 32 (.ifCond .eq) 37 35 := by decide +kernel
theorem d_X7_over_35 : Dc cX7_over 35 (.iload_n 1) 1 36 := by decide +kernel
theorem d_X7_over_36 : Dc cX7_over 36 (.ireturn) 1 37 := by decide +kernel
theorem d_X7_over_37 : Dc cX7_over 37 (.aload_n 0) 1 38 := by decide +kernel
theorem d_X7_over_38 : Dc cX7_over 38 (.aload_n 0) 1 39 := by decide +kernel
theorem d_X7_over_39 : Dc cX7_over 39 (.getfield 34) 3 42 := by decide +kernel
theorem d_X7_over_42 : Dc cX7_over 42 (.aload_n 0) 1 43 := by decide +kernel
theorem d_X7_over_43 : Dc cX7_over 43 (.getfield 37) 3 46 := by decide +kernel
theorem d_X7_over_46 : Dc cX7_over 46 (.invokevirtual 174) 3 49 := by decide +kernel
theorem d_X7_over_49 : Dc cX7_over 49 (.iinc 1 1) 3 52 := by decide +kernel
theorem d_X7_over_52 : Dq cX7_over 52 (.goto) 22 55 := by decide +kernel
theorem d_X7_over_55 : Dc cX7_over 55 (.ldc 207) 2 57 := by decide +kernel
theorem d_X7_over_57 : Dc cX7_over 57 (.ireturn) 1 58 := by decide +kernel
theorem d_X7_trades_0 : Dc cX7_trades 0 (.aload_n 0) 1 1 := by decide +kernel
theorem d_X7_trades_1 : Dc cX7_trades 1 (.getfield 40) 3 4 := by decide +kernel
theorem d_X7_trades_4 : Dc cX7_trades 4 (.iload_n 1) 1 5 := by decide +kernel
theorem d_X7_trades_5 : Dc cX7_trades 5 (.iaload) 1 6 := by decide +kernel
theorem d_X7_trades_6 : Dc cX7_trades 6 (.istore_n 3) 1 7 := by decide +kernel
theorem d_X7_trades_7 : Dc cX7_trades 7 (.aload_n 0) 1 8 := by decide +kernel
theorem d_X7_trades_8 : Dc cX7_trades 8 (.getfield 40) 3 11 := by decide +kernel
theorem d_X7_trades_11 : Dc cX7_trades 11 (.iload_n 1) 1 12 := by decide +kernel
theorem d_X7_trades_12 : Dc cX7_trades 12 (.aload_n 0) 1 13 := by decide +kernel
theorem d_X7_trades_13 : Dc cX7_trades 13 (.getfield 40) 3 16 := by decide +kernel
theorem d_X7_trades_16 : Dc cX7_trades 16 (.iload_n 2) 1 17 := by decide +kernel
theorem d_X7_trades_17 : Dc cX7_trades 17 (.iaload) 1 18 := by decide +kernel
theorem d_X7_trades_18 : Dc cX7_trades 18 (.iastore) 1 19 := by decide +kernel
theorem d_X7_trades_19 : Dc cX7_trades 19 (.aload_n 0) 1 20 := by decide +kernel
theorem d_X7_trades_20 : Dc cX7_trades 20 (.getfield 40) 3 23 := by decide +kernel
theorem d_X7_trades_23 : Dc cX7_trades 23 (.iload_n 2) 1 24 := by decide +kernel
theorem d_X7_trades_24 : Dc cX7_trades 24 (.iload_n 3) 1 25 := by decide +kernel
theorem d_X7_trades_25 : Dc cX7_trades 25 (.iastore) 1 26 := by decide +kernel
theorem d_X7_trades_26 : Dc cX7_trades 26 (.return_) 1 27 := by decide +kernel
theorem d_X7_nextOrder_0 : Dc cX7_nextOrder 0 (.aload_n 0) 1 1 := by decide +kernel
theorem d_X7_nextOrder_1 : Dc cX7_nextOrder 1 (.getfield 28) 3 4 := by decide +kernel
theorem d_X7_nextOrder_4 : Dc cX7_nextOrder 4 (.iconst 1) 1 5 := by decide +kernel
theorem d_X7_nextOrder_5 : Dc cX7_nextOrder 5 (.iaload) 1 6 := by decide +kernel
theorem d_X7_nextOrder_6 : Dc cX7_nextOrder 6 (.istore_n 1) 1 7 := by decide +kernel
theorem d_X7_nextOrder_7 : Dc cX7_nextOrder 7 (.iload_n 1) 1 8 := by decide +kernel
theorem d_X7_nextOrder_8 : Dc cX7_nextOrder 8 (.iconst 2) 1 9 := by decide +kernel
theorem d_X7_nextOrder_9 : Dc cX7_nextOrder 9 (.isub) 1 10 := by decide +kernel
theorem d_X7_nextOrder_10 : Dc cX7_nextOrder 10 (.istore_n 2) 1 11 := by decide +kernel
theorem d_X7_nextOrder_11 : Dc cX7_nextOrder 11 (.iload_n 2) 1 12 := by decide +kernel
theorem d_X7_nextOrder_12 : Dq cX7_nextOrder 12 (.ifCond .lt) 38 15 := by decide +kernel
theorem d_X7_nextOrder_15 : Dc cX7_nextOrder 15 (.aload_n 0) 1 16 := by decide +kernel
theorem d_X7_nextOrder_16 : Dc cX7_nextOrder 16 (.getfield 40) 3 19 := by decide +kernel
theorem d_X7_nextOrder_19 : Dc cX7_nextOrder 19 (.iload_n 2) 1 20 := by decide +kernel
theorem d_X7_nextOrder_20 : Dc cX7_nextOrder 20 (.iaload) 1 21 := by decide +kernel
theorem d_X7_nextOrder_21 : Dc cX7_nextOrder 21 (.aload_n 0) 1 22 := by decide +kernel
theorem d_X7_nextOrder_22 : Dc cX7_nextOrder 22 (.getfield 40) 3 25 := by decide +kernel
theorem d_X7_nextOrder_25 : Dc cX7_nextOrder 25 (.iload_n 2) 1 26 := by decide +kernel
theorem d_X7_nextOrder_26 : Dc cX7_nextOrder 26 (.iconst 1) 1 27 := by decide +kernel
theorem d_X7_nextOrder_27 : Dc cX7_nextOrder 27 (.iadd) 1 28 := by decide +kernel
theorem d_X7_nextOrder_28 : Dc cX7_nextOrder 28 (.iaload) 1 29 := by decide +kernel
theorem d_X7_nextOrder_29 : Dq cX7_nextOrder 29 (.if_icmp .le) 38 32 := by decide +kernel
theorem d_X7_nextOrder_32 : Dc cX7_nextOrder 32 (.iinc 2 (-1)) 3 35 := by decide +kernel
theorem d_X7_nextOrder_35 : Dq cX7_nextOrder 35 (.goto) 11 38 := by decide +kernel
theorem d_X7_nextOrder_38 : Dc cX7_nextOrder 38 (.iload_n 2) 1 39 := by decide +kernel
theorem d_X7_nextOrder_39 : Dq cX7_nextOrder 39 (.ifCond .ge) 44 42 := by decide +kernel
theorem d_X7_nextOrder_42 : Dc cX7_nextOrder 42 (.iconst 0) 1 43 := by decide +kernel
theorem d_X7_nextOrder_43 : Dc cX7_nextOrder 43 (.ireturn) 1 44 := by decide +kernel
theorem d_X7_nextOrder_44 : Dc cX7_nextOrder 44 (.iload_n 1) 1 45 := by decide +kernel
theorem d_X7_nextOrder_45 : Dc cX7_nextOrder 45 (.iconst 1) 1 46 := by decide +kernel
theorem d_X7_nextOrder_46 : Dc cX7_nextOrder 46 (.isub) 1 47 := by decide +kernel
theorem d_X7_nextOrder_47 : Dc cX7_nextOrder 47 (.istore_n 3) 1 48 := by decide +kernel
theorem d_X7_nextOrder_48 : Dc cX7_nextOrder 48 (.aload_n 0) 1 49 := by decide +kernel
theorem d_X7_nextOrder_49 : Dc cX7_nextOrder 49 (.getfield 40) 3 52 := by decide +kernel
theorem d_X7_nextOrder_52 : Dc cX7_nextOrder 52 (.iload_n 3) 1 53 := by decide +kernel
theorem d_X7_nextOrder_53 : Dc cX7_nextOrder 53 (.iaload) 1 54 := by decide +kernel
theorem d_X7_nextOrder_54 : Dc cX7_nextOrder 54 (.aload_n 0) 1 55 := by decide +kernel
theorem d_X7_nextOrder_55 : Dc cX7_nextOrder 55 (.getfield 40) 3 58 := by decide +kernel
theorem d_X7_nextOrder_58 : Dc cX7_nextOrder 58 (.iload_n 2) 1 59 := by decide +kernel
theorem d_X7_nextOrder_59 : Dc cX7_nextOrder 59 (.iaload) 1 60 := by decide +kernel
theorem d_X7_nextOrder_60 : Dq cX7_nextOrder 60 (.if_icmp .ge) 69 63 := by decide +kernel
theorem d_X7_nextOrder_63 : Dc cX7_nextOrder 63 (.iinc 3 (-1)) 3 66 := by decide +kernel
theorem d_X7_nextOrder_66 : Dq cX7_nextOrder 66 (.goto) 48 69 := by decide +kernel
theorem d_X7_nextOrder_69 : Dc cX7_nextOrder 69 (.aload_n 0) 1 70 := by decide +kernel
theorem d_X7_nextOrder_70 : Dc cX7_nextOrder 70 (.iload_n 2) 1 71 := by decide +kernel
theorem d_X7_nextOrder_71 : Dc cX7_nextOrder 71 (.iload_n 3) 1 72 := by decide +kernel
theorem d_X7_nextOrder_72 : Dc cX7_nextOrder 72 (.invokevirtual 225) 3 75 := by decide +kernel
theorem d_X7_nextOrder_75 : Dc cX7_nextOrder 75 (.iload_n 2) 1 76 := by decide +kernel
theorem d_X7_nextOrder_76 : Dc cX7_nextOrder 76 (.iconst 1) 1 77 := by decide +kernel
theorem d_X7_nextOrder_77 : Dc cX7_nextOrder 77 (.iadd) 1 78 := by decide +kernel
theorem d_X7_nextOrder_78 : Dc cX7_nextOrder 78 (.istore 4) 2 80 := by decide +kernel
theorem d_X7_nextOrder_80 : Dc cX7_nextOrder 80 (.iload_n 1) 1 81 := by decide +kernel
theorem d_X7_nextOrder_81 : Dc cX7_nextOrder 81 (.iconst 1) 1 82 := by decide +kernel
theorem d_X7_nextOrder_82 : Dc cX7_nextOrder 82 (.isub) 1 83 := by decide +kernel
theorem d_X7_nextOrder_83 : Dc cX7_nextOrder 83 (.istore 5) 2 85 := by decide +kernel
theorem d_X7_nextOrder_85 : Dc cX7_nextOrder 85 (.iload 4) 2 87 := by decide +kernel
theorem d_X7_nextOrder_87 : Dc cX7_nextOrder 87 (.iload 5) 2 89 := by decide +kernel
theorem d_X7_nextOrder_89 : Dq cX7_nextOrder 89 (.if_icmp .ge) 109 92 := by decide +kernel
theorem d_X7_nextOrder_92 : Dc cX7_nextOrder 92 (.aload_n 0) 1 93 := by decide +kernel
theorem d_X7_nextOrder_93 : Dc cX7_nextOrder 93 (.iload 4) 2 95 := by decide +kernel
theorem d_X7_nextOrder_95 : Dc cX7_nextOrder 95 (.iload 5) 2 97 := by decide +kernel
theorem d_X7_nextOrder_97 : Dc cX7_nextOrder 97 (.invokevirtual 225) 3 100 := by decide +kernel
theorem d_X7_nextOrder_100 : Dc cX7_nextOrder 100 (.iinc 4 1) 3 103 := by decide +kernel
theorem d_X7_nextOrder_103 : Dc cX7_nextOrder 103 (.iinc 5 (-1)) 3 106 := by decide +kernel
theorem d_X7_nextOrder_106 : Dq cX7_nextOrder 106 (.goto) 85 109 := by decide +kernel
theorem d_X7_nextOrder_109 : Dc cX7_nextOrder 109 (.iconst 1) 1 110 := by decide +kernel
theorem d_X7_nextOrder_110 : Dc cX7_nextOrder 110 (.ireturn) 1 111 := by decide +kernel
theorem d_X7_order_0 : Dc cX7_order 0 (.aload_n 0) 1 1 := by decide +kernel
theorem d_X7_order_1 : Dc cX7_order 1 (.iconst 0) 1 2 := by decide +kernel
theorem d_X7_order_2 : Dc cX7_order 2 (.putfield 62) 3 5 := by decide +kernel
theorem d_X7_order_5 : Dc cX7_order 5 (.aload_n 0) 1 6 := by decide +kernel
theorem d_X7_order_6 : Dc cX7_order 6 (.invokevirtual 195) 3 9 := by decide +kernel
theorem d_X7_order_9 : Dq cX7_order 9 (.ifCond .eq) 15 12 := by decide +kernel
theorem d_X7_order_12 : Dc cX7_order 12 (.ldc 194) 2 14 := by decide +kernel
theorem d_X7_order_14 : Dc cX7_order 14 (.ireturn) 1 15 := by decide +kernel
theorem d_X7_order_15 : Dc cX7_order 15 (.iload_n 1) 1 16 := by decide +kernel
theorem d_X7_order_16 : Dc cX7_order 16 (.iconst 1) 1 17 := by decide +kernel
theorem d_X7_order_17 : Dc cX7_order 17 (.bipush 50) 2 19 := by decide +kernel
theorem d_X7_order_19 : Dc cX7_order 19 (.invokestatic 70) 3 22 := by decide +kernel
theorem d_X7_order_22 : Dq cX7_order 22 (.ifCond .eq) 30 25 := by decide +kernel
theorem d_X7_order_25 : Dc cX7_order 25 (.iload_n 2) 1 26 := by decide +kernel
theorem d_X7_order_26 : Dc cX7_order 26 (.iconst (-1)) 1 27 := by decide +kernel
theorem d_X7_order_27 : Dq cX7_order 27 (.if_icmp .ge) 33 30 := by decide +kernel
theorem d_X7_order_30 : Dc cX7_order 30 (.ldc 78) 2 32 := by decide +kernel
theorem d_X7_order_32 : Dc cX7_order 32 (.ireturn) 1 33 := by decide +kernel
theorem d_X7_order_33 : Dc cX7_order 33 (.aload_n 0) 1 34 := by decide +kernel
theorem d_X7_order_34 : Dc cX7_order 34 (.invokevirtual 181) 3 37 := by decide +kernel
theorem d_X7_order_37 : Dc cX7_order 37 (.iconst (-1)) 1 38 := by decide +kernel
theorem d_X7_order_38 : Dc cX7_order 38 (.istore_n 3) 1 39 := by decide +kernel
theorem d_X7_order_39 : Dc cX7_order 39 (.iconst (-1)) 1 40 := by decide +kernel
theorem d_X7_order_40 : Dc cX7_order 40 (.istore 4) 2 42 := by decide +kernel
theorem d_X7_order_42 : Dc cX7_order 42 (.iconst 1) 1 43 := by decide +kernel
theorem d_X7_order_43 : Dc cX7_order 43 (.istore 5) 2 45 := by decide +kernel
theorem d_X7_order_45 : Dc cX7_order 45 (.iload 5) 2 47 := by decide +kernel
theorem d_X7_order_47 : Dq cX7_order 47 (.ifCond .eq) 152 50 := by decide +kernel
theorem d_X7_order_50 : Dc cX7_order 50 (.aload_n 0) 1 51 := by decide +kernel
theorem d_X7_order_51 : Dc cX7_order 51 (.invokevirtual 178) 3 54 := by decide +kernel
theorem d_X7_order_54 : Dc cX7_order 54 (.aload_n 0) 1 55 := by decide +kernel
theorem d_X7_order_55 : Dc cX7_order 55 (.iload_n 1) 1 56 := by decide +kernel
theorem d_X7_order_56 : Dc cX7_order 56 (.invokevirtual 184) 3 59 := by decide +kernel
theorem d_X7_order_59 : Dc cX7_order 59 (.aload_n 0) 1 60 := by decide +kernel
theorem d_X7_order_60 : Dc cX7_order 60 (.aload_n 0) 1 61 := by decide +kernel
theorem d_X7_order_61 : Dc cX7_order 61 (.getfield 37) 3 64 := by decide +kernel
theorem d_X7_order_64 : Dc cX7_order 64 (.invokevirtual 215) 3 67 := by decide +kernel
theorem d_X7_order_67 : Dc cX7_order 67 (.istore 6) 2 69 := by decide +kernel
theorem d_X7_order_69 : Dc cX7_order 69 (.aload_n 0) 1 70 := by decide +kernel
theorem d_X7_order_70 : Dc cX7_order 70 (.aload_n 0) 1 71 := by decide +kernel
theorem d_X7_order_71 : Dc cX7_order 71 (.getfield 37) 3 74 := by decide +kernel
theorem d_X7_order_74 : Dc cX7_order 74 (.iconst 2) 1 75 := by decide +kernel
theorem d_X7_order_75 : Dc cX7_order 75 (.invokevirtual 191) 3 78 := by decide +kernel
theorem d_X7_order_78 : Dc cX7_order 78 (.invokestatic 228) 3 81 := by decide +kernel
theorem d_X7_order_81 : Dc cX7_order 81 (.istore 7) 2 83 := by decide +kernel
theorem d_X7_order_83 : Dc cX7_order 83 (.iload_n 3) 1 84 := by decide +kernel
theorem d_X7_order_84 : Dq cX7_order 84 (.ifCond .lt) 106 87 := by decide +kernel
theorem d_X7_order_87 : Dc cX7_order 87 (.iload 6) 2 89 := by decide +kernel
theorem d_X7_order_89 : Dc cX7_order 89 (.iload_n 3) 1 90 := by decide +kernel
theorem d_X7_order_90 : Dq cX7_order 90 (.if_icmp .lt) 106 93 := by decide +kernel
theorem d_X7_order_93 : Dc cX7_order 93 (.iload 6) 2 95 := by decide +kernel
theorem d_X7_order_95 : Dc cX7_order 95 (.iload_n 3) 1 96 := by decide +kernel
theorem d_X7_order_96 : Dq cX7_order 96 (.if_icmp .ne) 143 99 := by decide +kernel
theorem d_X7_order_99 : Dc cX7_order 99 (.iload 7) 2 101 := by decide +kernel
theorem d_X7_order_101 : Dc cX7_order 101 (.iload 4) 2 103 := by decide +kernel
theorem d_X7_order_103 : Dq cX7_order 103 (.if_icmp .le) 143 106 := by decide +kernel
theorem d_X7_order_106 : Dc cX7_order 106 (.iload 6) 2 108 := by decide +kernel
theorem d_X7_order_108 : Dc cX7_order 108 (.istore_n 3) 1 109 := by decide +kernel
theorem d_X7_order_109 : Dc cX7_order 109 (.iload 7) 2 111 := by decide +kernel
theorem d_X7_order_111 : Dc cX7_order 111 (.istore 4) 2 113 := by decide +kernel
theorem d_X7_order_113 : Dc cX7_order 113 (.iconst 0) 1 114 := by decide +kernel
theorem d_X7_order_114 : Dc cX7_order 114 (.istore 8) 2 116 := by decide +kernel
theorem d_X7_order_116 : Dc cX7_order 116 (.iload 8) 2 118 := by decide +kernel
theorem d_X7_order_118 : Dc cX7_order 118 (.bipush 6) 2 120 := by decide +kernel
theorem d_X7_order_120 : Dq cX7_order 120 (.if_icmp .ge) 143 123 := by decide +kernel
theorem d_X7_order_123 : Dc cX7_order 123 (.aload_n 0) 1 124 := by decide +kernel
theorem d_X7_order_124 : Dc cX7_order 124 (.getfield 59) 3 127 := by decide +kernel
theorem d_X7_order_127 : Dc cX7_order 127 (.iload 8) 2 129 := by decide +kernel
theorem d_X7_order_129 : Dc cX7_order 129 (.aload_n 0) 1 130 := by decide +kernel
theorem d_X7_order_130 : Dc cX7_order 130 (.getfield 40) 3 133 := by decide +kernel
theorem d_X7_order_133 : Dc cX7_order 133 (.iload 8) 2 135 := by decide +kernel
theorem d_X7_order_135 : Dc cX7_order 135 (.iaload) 1 136 := by decide +kernel
theorem d_X7_order_136 : Dc cX7_order 136 (.iastore) 1 137 := by decide +kernel
theorem d_X7_order_137 : Dc cX7_order 137 (.iinc 8 1) 3 140 := by decide +kernel
theorem d_X7_order_140 : Dq cX7_order 140 (.goto) 116 143 := by decide +kernel
theorem d_X7_order_143 : Dc cX7_order 143 (.aload_n 0) 1 144 := by decide +kernel
theorem d_X7_order_144 : Dc cX7_order 144 (.invokevirtual 231) 3 147 := by decide +kernel
theorem d_X7_order_147 : Dc cX7_order 147 (.istore 5) 2 149 := by decide +kernel
theorem d_X7_order_149 : Dq cX7_order 149 (.goto) 45 152 := by decide +kernel
theorem d_X7_order_152 : Dc cX7_order 152 (.iload_n 2) 1 153 := by decide +kernel
theorem d_X7_order_153 : Dc cX7_order 153 (.iconst (-1)) 1 154 := by decide +kernel
theorem d_X7_order_154 : Dq cX7_order 154 (.if_icmp .ne) 161 157 := by decide +kernel
theorem d_X7_order_157 : Dc cX7_order 157 (.iload_n 3) 1 158 := by decide +kernel
theorem d_X7_order_158 : Dq cX7_order 158 (.goto) 182 161 := by decide +kernel
theorem d_X7_order_161 : Dc cX7_order 161 (.iload_n 2) 1 162 := by decide +kernel
theorem d_X7_order_162 : Dc cX7_order 162 (.aload_n 0) 1 163 := by decide +kernel
theorem d_X7_order_163 : Dc cX7_order 163 (.getfield 28) 3 166 := by decide +kernel
theorem d_X7_order_166 : Dc cX7_order 166 (.iconst 1) 1 167 := by decide +kernel
theorem d_X7_order_167 : Dc cX7_order 167 (.iaload) 1 168 := by decide +kernel
theorem d_X7_order_168 : Dq cX7_order 168 (.if_icmp .ge) 180 171 := by decide +kernel
theorem d_X7_order_171 : Dc cX7_order 171 (.aload_n 0) 1 172 := by decide +kernel
theorem d_X7_order_172 : Dc cX7_order 172 (.getfield 59) 3 175 := by decide +kernel
theorem d_X7_order_175 : Dc cX7_order 175 (.iload_n 2) 1 176 := by decide +kernel
theorem d_X7_order_176 : Dc cX7_order 176 (.iaload) 1 177 := by decide +kernel
theorem d_X7_order_177 : Dq cX7_order 177 (.goto) 182 180 := by decide +kernel
theorem d_X7_order_180 : Dc cX7_order 180 (.ldc 207) 2 182 := by decide +kernel
theorem d_X7_order_182 : Dc cX7_order 182 (.ireturn) 1 183 := by decide +kernel
theorem d_X7_need_0 : Dc cX7_need 0 (.aload_n 0) 1 1 := by decide +kernel
theorem d_X7_need_1 : Dc cX7_need 1 (.iconst 0) 1 2 := by decide +kernel
theorem d_X7_need_2 : Dc cX7_need 2 (.putfield 62) 3 5 := by decide +kernel
theorem d_X7_need_5 : Dc cX7_need 5 (.aload_n 0) 1 6 := by decide +kernel
theorem d_X7_need_6 : Dc cX7_need 6 (.invokevirtual 195) 3 9 := by decide +kernel
theorem d_X7_need_9 : Dq cX7_need 9 (.ifCond .eq) 15 12 := by decide +kernel
theorem d_X7_need_12 : Dc cX7_need 12 (.ldc 194) 2 14 := by decide +kernel
theorem d_X7_need_14 : Dc cX7_need 14 (.ireturn) 1 15 := by decide +kernel
theorem d_X7_need_15 : Dc cX7_need 15 (.iload_n 1) 1 16 := by decide +kernel
theorem d_X7_need_16 : Dc cX7_need 16 (.iconst 1) 1 17 := by decide +kernel
theorem d_X7_need_17 : Dc cX7_need 17 (.bipush 50) 2 19 := by decide +kernel
theorem d_X7_need_19 : Dc cX7_need 19 (.invokestatic 70) 3 22 := by decide +kernel
theorem d_X7_need_22 : Dq cX7_need 22 (.ifCond .ne) 28 25 := by decide +kernel
theorem d_X7_need_25 : Dc cX7_need 25 (.ldc 78) 2 27 := by decide +kernel
theorem d_X7_need_27 : Dc cX7_need 27 (.ireturn) 1 28 := by decide +kernel
theorem d_X7_need_28 : Dc cX7_need 28 (.iconst 1) 1 29 := by decide +kernel
theorem d_X7_need_29 : Dc cX7_need 29 (.istore_n 2) 1 30 := by decide +kernel
theorem d_X7_need_30 : Dc cX7_need 30 (.iload_n 2) 1 31 := by decide +kernel
theorem d_X7_need_31 : Dc cX7_need 31 (.bipush 6) 2 33 := by decide +kernel
theorem d_X7_need_33 : Dq cX7_need 33 (.if_icmp .ge) 71 36 := by decide +kernel
theorem d_X7_need_36 : Dc cX7_need 36 (.aload_n 0) 1 37 := by decide +kernel
theorem d_X7_need_37 : Dc cX7_need 37 (.invokevirtual 178) 3 40 := by decide +kernel
theorem d_X7_need_40 : Dc cX7_need 40 (.aload_n 0) 1 41 := by decide +kernel
theorem d_X7_need_41 : Dc cX7_need 41 (.invokevirtual 181) 3 44 := by decide +kernel
theorem d_X7_need_44 : Dc cX7_need 44 (.aload_n 0) 1 45 := by decide +kernel
theorem d_X7_need_45 : Dc cX7_need 45 (.getfield 37) 3 48 := by decide +kernel
theorem d_X7_need_48 : Dc cX7_need 48 (.iconst 1) 1 49 := by decide +kernel
theorem d_X7_need_49 : Dc cX7_need 49 (.iload_n 2) 1 50 := by decide +kernel
theorem d_X7_need_50 : Dc cX7_need 50 (.iastore) 1 51 := by decide +kernel
theorem d_X7_need_51 : Dc cX7_need 51 (.aload_n 0) 1 52 := by decide +kernel
theorem d_X7_need_52 : Dc cX7_need 52 (.iload_n 1) 1 53 := by decide +kernel
theorem d_X7_need_53 : Dc cX7_need 53 (.invokevirtual 184) 3 56 := by decide +kernel
theorem d_X7_need_56 : Dc cX7_need 56 (.aload_n 0) 1 57 := by decide +kernel
theorem d_X7_need_57 : Dc cX7_need 57 (.invokevirtual 222) 3 60 := by decide +kernel
theorem d_X7_need_60 : Dq cX7_need 60 (.ifCond .eq) 65 63 := by decide +kernel
theorem d_X7_need_63 : Dc cX7_need 63 (.iload_n 2) 1 64 := by decide +kernel
theorem d_X7_need_64 : Dc cX7_need 64 (.ireturn) 1 65 := by decide +kernel
theorem d_X7_need_65 : Dc cX7_need 65 (.iinc 2 1) 3 68 := by decide +kernel
theorem d_X7_need_68 : Dq cX7_need 68 (.goto) 30 71 := by decide +kernel
theorem d_X7_need_71 : Dc cX7_need 71 (.ldc 207) 2 73 := by decide +kernel
theorem d_X7_need_73 : Dc cX7_need 73 (.ireturn) 1 74 := by decide +kernel
theorem d_X7_open_0 : Dc cX7_open 0 (.aload_n 0) 1 1 := by decide +kernel
theorem d_X7_open_1 : Dc cX7_open 1 (.iconst 0) 1 2 := by decide +kernel
theorem d_X7_open_2 : Dc cX7_open 2 (.putfield 62) 3 5 := by decide +kernel
theorem d_X7_open_5 : Dc cX7_open 5 (.aload_n 0) 1 6 := by decide +kernel
theorem d_X7_open_6 : Dc cX7_open 6 (.invokevirtual 195) 3 9 := by decide +kernel
theorem d_X7_open_9 : Dq cX7_open 9 (.ifCond .eq) 15 12 := by decide +kernel
theorem d_X7_open_12 : Dc cX7_open 12 (.ldc 194) 2 14 := by decide +kernel
theorem d_X7_open_14 : Dc cX7_open 14 (.ireturn) 1 15 := by decide +kernel
theorem d_X7_open_15 : Dc cX7_open 15 (.iload_n 1) 1 16 := by decide +kernel
theorem d_X7_open_16 : Dc cX7_open 16 (.iconst 1) 1 17 := by decide +kernel
theorem d_X7_open_17 : Dc cX7_open 17 (.bipush 50) 2 19 := by decide +kernel
theorem d_X7_open_19 : Dc cX7_open 19 (.invokestatic 70) 3 22 := by decide +kernel
theorem d_X7_open_22 : Dq cX7_open 22 (.ifCond .eq) 34 25 := by decide +kernel
theorem d_X7_open_25 : Dc cX7_open 25 (.iload_n 2) 1 26 := by decide +kernel
theorem d_X7_open_26 : Dc cX7_open 26 (.iconst 0) 1 27 := by decide +kernel
theorem d_X7_open_27 : Dc cX7_open 27 (.iconst 1) 1 28 := by decide +kernel
theorem d_X7_open_28 : Dc cX7_open 28 (.invokestatic 70) 3 31 := by decide +kernel
theorem d_X7_open_31 : Dq cX7_open 31 (.ifCond .ne) 37 34 := by decide +kernel
theorem d_X7_open_34 : Dc cX7_open 34 (.ldc 78) 2 36 := by decide +kernel
theorem d_X7_open_36 : Dc cX7_open 36 (.ireturn) 1 37 := by decide +kernel
theorem d_X7_open_37 : Dc cX7_open 37 (.iconst (-1)) 1 38 := by decide +kernel
theorem d_X7_open_38 : Dc cX7_open 38 (.istore_n 3) 1 39 := by decide +kernel
theorem d_X7_open_39 : Dc cX7_open 39 (.iconst 1) 1 40 := by decide +kernel
theorem d_X7_open_40 : Dc cX7_open 40 (.aload_n 0) 1 41 := by decide +kernel
theorem d_X7_open_41 : Dc cX7_open 41 (.getfield 28) 3 44 := by decide +kernel
theorem d_X7_open_44 : Dc cX7_open 44 (.iconst 0) 1 45 := by decide +kernel
theorem d_X7_open_45 : Dc cX7_open 45 (.iaload) 1 46 := by decide +kernel
theorem d_X7_open_46 : Dc cX7_open 46 (.ishl) 1 47 := by decide +kernel
theorem d_X7_open_47 : Dc cX7_open 47 (.iconst 1) 1 48 := by decide +kernel
theorem d_X7_open_48 : Dc cX7_open 48 (.isub) 1 49 := by decide +kernel
theorem d_X7_open_49 : Dc cX7_open 49 (.istore 4) 2 51 := by decide +kernel
theorem d_X7_open_51 : Dc cX7_open 51 (.iload 4) 2 53 := by decide +kernel
theorem d_X7_open_53 : Dq cX7_open 53 (.ifCond .lt) 113 56 := by decide +kernel
theorem d_X7_open_56 : Dc cX7_open 56 (.iload_n 3) 1 57 := by decide +kernel
theorem d_X7_open_57 : Dq cX7_open 57 (.ifCond .lt) 72 60 := by decide +kernel
theorem d_X7_open_60 : Dc cX7_open 60 (.iload 4) 2 62 := by decide +kernel
theorem d_X7_open_62 : Dc cX7_open 62 (.invokestatic 228) 3 65 := by decide +kernel
theorem d_X7_open_65 : Dc cX7_open 65 (.iload_n 3) 1 66 := by decide +kernel
theorem d_X7_open_66 : Dc cX7_open 66 (.invokestatic 228) 3 69 := by decide +kernel
theorem d_X7_open_69 : Dq cX7_open 69 (.if_icmp .gt) 107 72 := by decide +kernel
theorem d_X7_open_72 : Dc cX7_open 72 (.aload_n 0) 1 73 := by decide +kernel
theorem d_X7_open_73 : Dc cX7_open 73 (.invokevirtual 178) 3 76 := by decide +kernel
theorem d_X7_open_76 : Dc cX7_open 76 (.aload_n 0) 1 77 := by decide +kernel
theorem d_X7_open_77 : Dc cX7_open 77 (.invokevirtual 181) 3 80 := by decide +kernel
theorem d_X7_open_80 : Dc cX7_open 80 (.aload_n 0) 1 81 := by decide +kernel
theorem d_X7_open_81 : Dc cX7_open 81 (.getfield 37) 3 84 := by decide +kernel
theorem d_X7_open_84 : Dc cX7_open 84 (.iconst 2) 1 85 := by decide +kernel
theorem d_X7_open_85 : Dc cX7_open 85 (.iload 4) 2 87 := by decide +kernel
theorem d_X7_open_87 : Dc cX7_open 87 (.iastore) 1 88 := by decide +kernel
theorem d_X7_open_88 : Dc cX7_open 88 (.aload_n 0) 1 89 := by decide +kernel
theorem d_X7_open_89 : Dc cX7_open 89 (.iload_n 1) 1 90 := by decide +kernel
theorem d_X7_open_90 : Dc cX7_open 90 (.invokevirtual 184) 3 93 := by decide +kernel
theorem d_X7_open_93 : Dc cX7_open 93 (.aload_n 0) 1 94 := by decide +kernel
theorem d_X7_open_94 : Dc cX7_open 94 (.invokevirtual 222) 3 97 := by decide +kernel
theorem d_X7_open_97 : Dq cX7_open 97 (.ifCond .eq) 105 100 := by decide +kernel
theorem d_X7_open_100 : Dc cX7_open 100 (.iload 4) 2 102 := by decide +kernel
theorem d_X7_open_102 : Dq cX7_open 102 (.goto) 106 105 := by decide +kernel
theorem d_X7_open_105 : Dc cX7_open 105 (.iload_n 3) 1 106 := by decide +kernel
theorem d_X7_open_106 : Dc cX7_open 106 (.istore_n 3) 1 107 := by decide +kernel
theorem d_X7_open_107 : Dc cX7_open 107 (.iinc 4 (-1)) 3 110 := by decide +kernel
theorem d_X7_open_110 : Dq cX7_open 110 (.goto) 51 113 := by decide +kernel
theorem d_X7_open_113 : Dc cX7_open 113 (.iload_n 3) 1 114 := by decide +kernel
theorem d_X7_open_114 : Dq cX7_open 114 (.ifCond .ge) 122 117 := by decide +kernel
theorem d_X7_open_117 : Dc cX7_open 117 (.ldc 207) 2 119 := by decide +kernel
theorem d_X7_open_119 : Dq cX7_open 119 (.goto) 134 122 := by decide +kernel
theorem d_X7_open_122 : Dc cX7_open 122 (.iload_n 2) 1 123 := by decide +kernel
theorem d_X7_open_123 : Dq cX7_open 123 (.ifCond .ne) 133 126 := by decide +kernel
theorem d_X7_open_126 : Dc cX7_open 126 (.iload_n 3) 1 127 := by decide +kernel
theorem d_X7_open_127 : Dc cX7_open 127 (.invokestatic 228) 3 130 := by decide +kernel
theorem d_X7_open_130 : Dq cX7_open 130 (.goto) 134 133 := by decide +kernel
theorem d_X7_open_133 : Dc cX7_open 133 (.iload_n 3) 1 134 := by decide +kernel
theorem d_X7_open_134 : Dc cX7_open 134 (.ireturn) 1 135 := by decide +kernel
theorem d_X7_fills_0 : Dc cX7_fills 0 (.aload_n 0) 1 1 := by decide +kernel
theorem d_X7_fills_1 : Dc cX7_fills 1 (.iconst 0) 1 2 := by decide +kernel
theorem d_X7_fills_2 : Dc cX7_fills 2 (.putfield 62) 3 5 := by decide +kernel
theorem d_X7_fills_5 : Dc cX7_fills 5 (.aload_n 0) 1 6 := by decide +kernel
theorem d_X7_fills_6 : Dc cX7_fills 6 (.iload_n 1) 1 7 := by decide +kernel
theorem d_X7_fills_7 : Dc cX7_fills 7 (.invokevirtual 201) 3 10 := by decide +kernel
theorem d_X7_fills_10 : Dq cX7_fills 10 (.ifCond .eq) 22 13 := by decide +kernel
theorem d_X7_fills_13 : Dc cX7_fills 13 (.iload_n 2) 1 14 := by decide +kernel
theorem d_X7_fills_14 : Dc cX7_fills 14 (.iconst 0) 1 15 := by decide +kernel
theorem d_X7_fills_15 : Dc cX7_fills 15 (.iconst 2) 1 16 := by decide +kernel
theorem d_X7_fills_16 : Dc cX7_fills 16 (.invokestatic 70) 3 19 := by decide +kernel
theorem d_X7_fills_19 : Dq cX7_fills 19 (.ifCond .ne) 25 22 := by decide +kernel
theorem d_X7_fills_22 : Dc cX7_fills 22 (.ldc 78) 2 24 := by decide +kernel
theorem d_X7_fills_24 : Dc cX7_fills 24 (.ireturn) 1 25 := by decide +kernel
theorem d_X7_fills_25 : Dc cX7_fills 25 (.iconst 0) 1 26 := by decide +kernel
theorem d_X7_fills_26 : Dc cX7_fills 26 (.istore_n 3) 1 27 := by decide +kernel
theorem d_X7_fills_27 : Dc cX7_fills 27 (.bipush 63) 2 29 := by decide +kernel
theorem d_X7_fills_29 : Dc cX7_fills 29 (.istore 4) 2 31 := by decide +kernel
theorem d_X7_fills_31 : Dc cX7_fills 31 (.iconst 0) 1 32 := by decide +kernel
theorem d_X7_fills_32 : Dc cX7_fills 32 (.istore 5) 2 34 := by decide +kernel
theorem d_X7_fills_34 : Dc cX7_fills 34 (.aload_n 0) 1 35 := by decide +kernel
theorem d_X7_fills_35 : Dc cX7_fills 35 (.aload_n 0) 1 36 := by decide +kernel
theorem d_X7_fills_36 : Dc cX7_fills 36 (.getfield 31) 3 39 := by decide +kernel
theorem d_X7_fills_39 : Dc cX7_fills 39 (.iconst 2) 1 40 := by decide +kernel
theorem d_X7_fills_40 : Dc cX7_fills 40 (.invokevirtual 191) 3 43 := by decide +kernel
theorem d_X7_fills_43 : Dc cX7_fills 43 (.istore 6) 2 45 := by decide +kernel
theorem d_X7_fills_45 : Dc cX7_fills 45 (.iconst 1) 1 46 := by decide +kernel
theorem d_X7_fills_46 : Dc cX7_fills 46 (.istore 7) 2 48 := by decide +kernel
theorem d_X7_fills_48 : Dc cX7_fills 48 (.iload 7) 2 50 := by decide +kernel
theorem d_X7_fills_50 : Dc cX7_fills 50 (.iconst 1) 1 51 := by decide +kernel
theorem d_X7_fills_51 : Dc cX7_fills 51 (.aload_n 0) 1 52 := by decide +kernel
theorem d_X7_fills_52 : Dc cX7_fills 52 (.getfield 28) 3 55 := by decide +kernel
theorem d_X7_fills_55 : Dc cX7_fills 55 (.iconst 1) 1 56 := by decide +kernel
theorem d_X7_fills_56 : Dc cX7_fills 56 (.iaload) 1 57 := by decide +kernel
theorem d_X7_fills_57 : Dc cX7_fills 57 (.ishl) 1 58 := by decide +kernel
theorem d_X7_fills_58 : Dq cX7_fills 58 (.if_icmp .ge) 158 61 := by decide +kernel
theorem d_X7_fills_61 : Dc cX7_fills 61 (.iconst 0) 1 62 := by decide +kernel
theorem d_X7_fills_62 : Dc cX7_fills 62 (.istore 8) 2 64 := by decide +kernel
theorem d_X7_fills_64 : Dc cX7_fills 64 (.iconst 0) 1 65 := by decide +kernel
theorem d_X7_fills_65 : Dc cX7_fills 65 (.istore 9) 2 67 := by decide +kernel
theorem d_X7_fills_67 : Dc cX7_fills 67 (.iload 9) 2 69 := by decide +kernel
theorem d_X7_fills_69 : Dc cX7_fills 69 (.aload_n 0) 1 70 := by decide +kernel
theorem d_X7_fills_70 : Dc cX7_fills 70 (.getfield 28) 3 73 := by decide +kernel
theorem d_X7_fills_73 : Dc cX7_fills 73 (.iconst 1) 1 74 := by decide +kernel
theorem d_X7_fills_74 : Dc cX7_fills 74 (.iaload) 1 75 := by decide +kernel
theorem d_X7_fills_75 : Dq cX7_fills 75 (.if_icmp .ge) 113 78 := by decide +kernel
theorem d_X7_fills_78 : Dc cX7_fills 78 (.iload 8) 2 80 := by decide +kernel
theorem d_X7_fills_80 : Dc cX7_fills 80 (.iload 7) 2 82 := by decide +kernel
theorem d_X7_fills_82 : Dc cX7_fills 82 (.iload 9) 2 84 := by decide +kernel
theorem d_X7_fills_84 : Dc cX7_fills 84 (.invokestatic 162) 3 87 := by decide +kernel
theorem d_X7_fills_87 : Dq cX7_fills 87 (.ifCond .eq) 103 90 := by decide +kernel
theorem d_X7_fills_90 : Dc cX7_fills 90 (.aload_n 0) 1 91 := by decide +kernel
theorem d_X7_fills_91 : Dc cX7_fills 91 (.getfield 31) 3 94 := by decide +kernel
theorem d_X7_fills_94 : Dc cX7_fills 94 (.bipush 18) 2 96 := by decide +kernel
theorem d_X7_fills_96 : Dc cX7_fills 96 (.iload 9) 2 98 := by decide +kernel
theorem d_X7_fills_98 : Dc cX7_fills 98 (.iadd) 1 99 := by decide +kernel
theorem d_X7_fills_99 : Dc cX7_fills 99 (.iaload) 1 100 := by decide +kernel
theorem d_X7_fills_100 : Dq cX7_fills 100 (.goto) 104 103 := by decide +kernel
theorem d_X7_fills_103 : Dc cX7_fills 103 (.iconst 0) 1 104 := by decide +kernel
theorem d_X7_fills_104 : Dc cX7_fills 104 (.iadd) 1 105 := by decide +kernel
theorem d_X7_fills_105 : Dc cX7_fills 105 (.istore 8) 2 107 := by decide +kernel
theorem d_X7_fills_107 : Dc cX7_fills 107 (.iinc 9 1) 3 110 := by decide +kernel
theorem d_X7_fills_110 : Dq cX7_fills 110 (.goto) 67 113 := by decide +kernel
theorem d_X7_fills_113 : Dc cX7_fills 113 (.iload 7) 2 115 := by decide +kernel
theorem d_X7_fills_115 : Dc cX7_fills 115 (.iload 6) 2 117 := by decide +kernel
theorem d_X7_fills_117 : Dc cX7_fills 117 (.iand) 1 118 := by decide +kernel
theorem d_X7_fills_118 : Dq cX7_fills 118 (.ifCond .ne) 152 121 := by decide +kernel
theorem d_X7_fills_121 : Dc cX7_fills 121 (.iload 8) 2 123 := by decide +kernel
theorem d_X7_fills_123 : Dc cX7_fills 123 (.aload_n 0) 1 124 := by decide +kernel
theorem d_X7_fills_124 : Dc cX7_fills 124 (.getfield 28) 3 127 := by decide +kernel
theorem d_X7_fills_127 : Dc cX7_fills 127 (.bipush 7) 2 129 := by decide +kernel
theorem d_X7_fills_129 : Dc cX7_fills 129 (.iload_n 1) 1 130 := by decide +kernel
theorem d_X7_fills_130 : Dc cX7_fills 130 (.iadd) 1 131 := by decide +kernel
theorem d_X7_fills_131 : Dc cX7_fills 131 (.iaload) 1 132 := by decide +kernel
theorem d_X7_fills_132 : Dq cX7_fills 132 (.if_icmp .ne) 152 135 := by decide +kernel
theorem d_X7_fills_135 : Dc cX7_fills 135 (.iinc 3 1) 3 138 := by decide +kernel
theorem d_X7_fills_138 : Dc cX7_fills 138 (.iload 4) 2 140 := by decide +kernel
theorem d_X7_fills_140 : Dc cX7_fills 140 (.iload 7) 2 142 := by decide +kernel
theorem d_X7_fills_142 : Dc cX7_fills 142 (.iand) 1 143 := by decide +kernel
theorem d_X7_fills_143 : Dc cX7_fills 143 (.istore 4) 2 145 := by decide +kernel
theorem d_X7_fills_145 : Dc cX7_fills 145 (.iload 5) 2 147 := by decide +kernel
theorem d_X7_fills_147 : Dc cX7_fills 147 (.iload 7) 2 149 := by decide +kernel
theorem d_X7_fills_149 : Dc cX7_fills 149 (.ior) 1 150 := by decide +kernel
theorem d_X7_fills_150 : Dc cX7_fills 150 (.istore 5) 2 152 := by decide +kernel
theorem d_X7_fills_152 : Dc cX7_fills 152 (.iinc 7 1) 3 155 := by decide +kernel
theorem d_X7_fills_155 : Dq cX7_fills 155 (.goto) 48 158 := by decide +kernel
theorem d_X7_fills_158 : Dc cX7_fills 158 (.iload_n 2) 1 159 := by decide +kernel
theorem d_X7_fills_159 : Dq cX7_fills 159 (.ifCond .ne) 166 162 := by decide +kernel
theorem d_X7_fills_162 : Dc cX7_fills 162 (.iload_n 3) 1 163 := by decide +kernel
theorem d_X7_fills_163 : Dq cX7_fills 163 (.goto) 186 166 := by decide +kernel
theorem d_X7_fills_166 : Dc cX7_fills 166 (.iload_n 2) 1 167 := by decide +kernel
theorem d_X7_fills_167 : Dc cX7_fills 167 (.iconst 2) 1 168 := by decide +kernel
theorem d_X7_fills_168 : Dq cX7_fills 168 (.if_icmp .ne) 176 171 := by decide +kernel
theorem d_X7_fills_171 : Dc cX7_fills 171 (.iload 5) 2 173 := by decide +kernel
theorem d_X7_fills_173 : Dq cX7_fills 173 (.goto) 186 176 := by decide +kernel
theorem d_X7_fills_176 : Dc cX7_fills 176 (.iload_n 3) 1 177 := by decide +kernel
theorem d_X7_fills_177 : Dq cX7_fills 177 (.ifCond .ne) 184 180 := by decide +kernel
theorem d_X7_fills_180 : Dc cX7_fills 180 (.iconst 0) 1 181 := by decide +kernel
theorem d_X7_fills_181 : Dq cX7_fills 181 (.goto) 186 184 := by decide +kernel
theorem d_X7_fills_184 : Dc cX7_fills 184 (.iload 4) 2 186 := by decide +kernel
theorem d_X7_fills_186 : Dc cX7_fills 186 (.ireturn) 1 187 := by decide +kernel
theorem d_X7_doneAll_0 : Dc cX7_doneAll 0 (.iconst 0) 1 1 := by decide +kernel
theorem d_X7_doneAll_1 : Dc cX7_doneAll 1 (.istore_n 1) 1 2 := by decide +kernel
theorem d_X7_doneAll_2 : Dc cX7_doneAll 2 (.iconst 0) 1 3 := by decide +kernel
theorem d_X7_doneAll_3 : Dc cX7_doneAll 3 (.istore_n 2) 1 4 := by decide +kernel
theorem d_X7_doneAll_4 : Dc cX7_doneAll 4 (.iload_n 2) 1 5 := by decide +kernel
theorem d_X7_doneAll_5 : Dc cX7_doneAll 5 (.iconst 5) 1 6 := by decide +kernel
theorem d_X7_doneAll_6 : Dq cX7_doneAll 6 (.if_icmp .ge) 27 9 := by decide +kernel
theorem d_X7_doneAll_9 : Dc cX7_doneAll 9 (.iload_n 1) 1 10 := by decide +kernel
theorem d_X7_doneAll_10 : Dc cX7_doneAll 10 (.aload_n 0) 1 11 := by decide +kernel
theorem d_X7_doneAll_11 : Dc cX7_doneAll 11 (.getfield 31) 3 14 := by decide +kernel
theorem d_X7_doneAll_14 : Dc cX7_doneAll 14 (.bipush 13) 2 16 := by decide +kernel
theorem d_X7_doneAll_16 : Dc cX7_doneAll 16 (.iload_n 2) 1 17 := by decide +kernel
theorem d_X7_doneAll_17 : Dc cX7_doneAll 17 (.iadd) 1 18 := by decide +kernel
theorem d_X7_doneAll_18 : Dc cX7_doneAll 18 (.iaload) 1 19 := by decide +kernel
theorem d_X7_doneAll_19 : Dc cX7_doneAll 19 (.iadd) 1 20 := by decide +kernel
theorem d_X7_doneAll_20 : Dc cX7_doneAll 20 (.istore_n 1) 1 21 := by decide +kernel
theorem d_X7_doneAll_21 : Dc cX7_doneAll 21 (.iinc 2 1) 3 24 := by decide +kernel
theorem d_X7_doneAll_24 : Dq cX7_doneAll 24 (.goto) 4 27 := by decide +kernel
theorem d_X7_doneAll_27 : Dc cX7_doneAll 27 (.iload_n 1) 1 28 := by decide +kernel
theorem d_X7_doneAll_28 : Dc cX7_doneAll 28 (.ireturn) 1 29 := by decide +kernel
theorem d_X7_share_0 : Dc cX7_share 0 (.aload_n 0) 1 1 := by decide +kernel
theorem d_X7_share_1 : Dc cX7_share 1 (.iconst 0) 1 2 := by decide +kernel
theorem d_X7_share_2 : Dc cX7_share 2 (.putfield 62) 3 5 := by decide +kernel
theorem d_X7_share_5 : Dc cX7_share 5 (.aload_n 0) 1 6 := by decide +kernel
theorem d_X7_share_6 : Dc cX7_share 6 (.iload_n 1) 1 7 := by decide +kernel
theorem d_X7_share_7 : Dc cX7_share 7 (.invokevirtual 201) 3 10 := by decide +kernel
theorem d_X7_share_10 : Dq cX7_share 10 (.ifCond .eq) 24 13 := by decide +kernel
theorem d_X7_share_13 : Dc cX7_share 13 (.iload_n 2) 1 14 := by decide +kernel
theorem d_X7_share_14 : Dc cX7_share 14 (.iconst 0) 1 15 := by decide +kernel
theorem d_X7_share_15 : Dc cX7_share 15 (.sipush 999) 3 18 := by decide +kernel
theorem d_X7_share_18 : Dc cX7_share 18 (.invokestatic 70) 3 21 := by decide +kernel
theorem d_X7_share_21 : Dq cX7_share 21 (.ifCond .ne) 27 24 := by decide +kernel
theorem d_X7_share_24 : Dc cX7_share 24 (.ldc 78) 2 26 := by decide +kernel
theorem d_X7_share_26 : Dc cX7_share 26 (.ireturn) 1 27 := by decide +kernel
theorem d_X7_share_27 : Dc cX7_share 27 (.aload_n 0) 1 28 := by decide +kernel
theorem d_X7_share_28 : Dc cX7_share 28 (.invokevirtual 234) 3 31 := by decide +kernel
theorem d_X7_share_31 : Dc cX7_share 31 (.istore_n 3) 1 32 := by decide +kernel
theorem d_X7_share_32 : Dc cX7_share 32 (.iload_n 3) 1 33 := by decide +kernel
theorem d_X7_share_33 : Dq cX7_share 33 (.ifCond .ne) 38 36 := by decide +kernel
theorem d_X7_share_36 : Dc cX7_share 36 (.iconst 0) 1 37 := by decide +kernel
theorem d_X7_share_37 : Dc cX7_share 37 (.ireturn) 1 38 := by decide +kernel
theorem d_X7_share_38 : Dc cX7_share 38 (.iload_n 2) 1 39 := by decide +kernel
theorem d_X7_share_39 : Dc cX7_share 39 (.istore 4) 2 41 := by decide +kernel
theorem d_X7_share_41 : Dc cX7_share 41 (.iconst 0) 1 42 := by decide +kernel
theorem d_X7_share_42 : Dc cX7_share 42 (.istore 5) 2 44 := by decide +kernel
theorem d_X7_share_44 : Dc cX7_share 44 (.iload 5) 2 46 := by decide +kernel
theorem d_X7_share_46 : Dc cX7_share 46 (.aload_n 0) 1 47 := by decide +kernel
theorem d_X7_share_47 : Dc cX7_share 47 (.getfield 28) 3 50 := by decide +kernel
theorem d_X7_share_50 : Dc cX7_share 50 (.iconst 0) 1 51 := by decide +kernel
theorem d_X7_share_51 : Dc cX7_share 51 (.iaload) 1 52 := by decide +kernel
theorem d_X7_share_52 : Dq cX7_share 52 (.if_icmp .ge) 80 55 := by decide +kernel
theorem d_X7_share_55 : Dc cX7_share 55 (.iload 4) 2 57 := by decide +kernel
theorem d_X7_share_57 : Dc cX7_share 57 (.iload_n 2) 1 58 := by decide +kernel
theorem d_X7_share_58 : Dc cX7_share 58 (.aload_n 0) 1 59 := by decide +kernel
theorem d_X7_share_59 : Dc cX7_share 59 (.getfield 31) 3 62 := by decide +kernel
theorem d_X7_share_62 : Dc cX7_share 62 (.bipush 13) 2 64 := by decide +kernel
theorem d_X7_share_64 : Dc cX7_share 64 (.iload 5) 2 66 := by decide +kernel
theorem d_X7_share_66 : Dc cX7_share 66 (.iadd) 1 67 := by decide +kernel
theorem d_X7_share_67 : Dc cX7_share 67 (.iaload) 1 68 := by decide +kernel
theorem d_X7_share_68 : Dc cX7_share 68 (.imul) 1 69 := by decide +kernel
theorem d_X7_share_69 : Dc cX7_share 69 (.iload_n 3) 1 70 := by decide +kernel
theorem d_X7_share_70 : Dc cX7_share 70 (.idiv) 1 71 := by decide +kernel
theorem d_X7_share_71 : Dc cX7_share 71 (.isub) 1 72 := by decide +kernel
theorem d_X7_share_72 : Dc cX7_share 72 (.istore 4) 2 74 := by decide +kernel
theorem d_X7_share_74 : Dc cX7_share 74 (.iinc 5 1) 3 77 := by decide +kernel
theorem d_X7_share_77 : Dq cX7_share 77 (.goto) 44 80 := by decide +kernel
theorem d_X7_share_80 : Dc cX7_share 80 (.iconst 0) 1 81 := by decide +kernel
theorem d_X7_share_81 : Dc cX7_share 81 (.istore 5) 2 83 := by decide +kernel
theorem d_X7_share_83 : Dc cX7_share 83 (.iconst 0) 1 84 := by decide +kernel
theorem d_X7_share_84 : Dc cX7_share 84 (.istore 6) 2 86 := by decide +kernel
theorem d_X7_share_86 : Dc cX7_share 86 (.iload 6) 2 88 := by decide +kernel
theorem d_X7_share_88 : Dc cX7_share 88 (.iload_n 1) 1 89 := by decide +kernel
theorem d_X7_share_89 : Dq cX7_share 89 (.if_icmp .ge) 121 92 := by decide +kernel
theorem d_X7_share_92 : Dc cX7_share 92 (.iload 5) 2 94 := by decide +kernel
theorem d_X7_share_94 : Dc cX7_share 94 (.aload_n 0) 1 95 := by decide +kernel
theorem d_X7_share_95 : Dc cX7_share 95 (.getfield 31) 3 98 := by decide +kernel
theorem d_X7_share_98 : Dc cX7_share 98 (.bipush 13) 2 100 := by decide +kernel
theorem d_X7_share_100 : Dc cX7_share 100 (.iload 6) 2 102 := by decide +kernel
theorem d_X7_share_102 : Dc cX7_share 102 (.iadd) 1 103 := by decide +kernel
theorem d_X7_share_103 : Dc cX7_share 103 (.iaload) 1 104 := by decide +kernel
theorem d_X7_share_104 : Dq cX7_share 104 (.ifCond .le) 111 107 := by decide +kernel
theorem d_X7_share_107 : Dc cX7_share 107 (.iconst 1) 1 108 := by decide +kernel
theorem d_X7_share_108 : Dq cX7_share 108 (.goto) 112 111 := by decide +kernel
theorem d_X7_share_111 : Dc cX7_share 111 (.iconst 0) 1 112 := by decide +kernel
theorem d_X7_share_112 : Dc cX7_share 112 (.iadd) 1 113 := by decide +kernel
theorem d_X7_share_113 : Dc cX7_share 113 (.istore 5) 2 115 := by decide +kernel
theorem d_X7_share_115 : Dc cX7_share 115 (.iinc 6 1) 3 118 := by decide +kernel
theorem d_X7_share_118 : Dq cX7_share 118 (.goto) 86 121 := by decide +kernel
theorem d_X7_share_121 : Dc cX7_share 121 (.iload_n 2) 1 122 := by decide +kernel
theorem d_X7_share_122 : Dc cX7_share 122 (.aload_n 0) 1 123 := by decide +kernel
theorem d_X7_share_123 : Dc cX7_share 123 (.getfield 31) 3 126 := by decide +kernel
theorem d_X7_share_126 : Dc cX7_share 126 (.bipush 13) 2 128 := by decide +kernel
theorem d_X7_share_128 : Dc cX7_share 128 (.iload_n 1) 1 129 := by decide +kernel
theorem d_X7_share_129 : Dc cX7_share 129 (.iadd) 1 130 := by decide +kernel
theorem d_X7_share_130 : Dc cX7_share 130 (.iaload) 1 131 := by decide +kernel
theorem d_X7_share_131 : Dc cX7_share 131 (.imul) 1 132 := by decide +kernel
theorem d_X7_share_132 : Dc cX7_share 132 (.iload_n 3) 1 133 := by decide +kernel
theorem d_X7_share_133 : Dc cX7_share 133 (.idiv) 1 134 := by decide +kernel
theorem d_X7_share_134 : Dc cX7_share 134 (.aload_n 0) 1 135 := by decide +kernel
theorem d_X7_share_135 : Dc cX7_share 135 (.getfield 31) 3 138 := by decide +kernel
theorem d_X7_share_138 : Dc cX7_share 138 (.bipush 13) 2 140 := by decide +kernel
theorem d_X7_share_140 : Dc cX7_share 140 (.iload_n 1) 1 141 := by decide +kernel
theorem d_X7_share_141 : Dc cX7_share 141 (.iadd) 1 142 := by decide +kernel
theorem d_X7_share_142 : Dc cX7_share 142 (.iaload) 1 143 := by decide +kernel
theorem d_X7_share_143 : Dq cX7_share 143 (.ifCond .le) 157 146 := by decide +kernel
theorem d_X7_share_146 : Dc cX7_share 146 (.iload 5) 2 148 := by decide +kernel
theorem d_X7_share_148 : Dc cX7_share 148 (.iload 4) 2 150 := by decide +kernel
theorem d_X7_share_150 : Dq cX7_share 150 (.if_icmp .ge) 157 153 := by decide +kernel
theorem d_X7_share_153 : Dc cX7_share 153 (.iconst 1) 1 154 := by decide +kernel
theorem d_X7_share_154 : Dq cX7_share 154 (.goto) 158 157 := by decide +kernel
theorem d_X7_share_157 : Dc cX7_share 157 (.iconst 0) 1 158 := by decide +kernel
theorem d_X7_share_158 : Dc cX7_share 158 (.iadd) 1 159 := by decide +kernel
theorem d_X7_share_159 : Dc cX7_share 159 (.ireturn) 1 160 := by decide +kernel
theorem d_X7_openBy_0 : Dc cX7_openBy 0 (.aload_n 0) 1 1 := by decide +kernel
theorem d_X7_openBy_1 : Dc cX7_openBy 1 (.getfield 31) 3 4 := by decide +kernel
theorem d_X7_openBy_4 : Dc cX7_openBy 4 (.iconst 2) 1 5 := by decide +kernel
theorem d_X7_openBy_5 : Dc cX7_openBy 5 (.iaload) 1 6 := by decide +kernel
theorem d_X7_openBy_6 : Dc cX7_openBy 6 (.istore_n 3) 1 7 := by decide +kernel
theorem d_X7_openBy_7 : Dc cX7_openBy 7 (.iconst 1) 1 8 := by decide +kernel
theorem d_X7_openBy_8 : Dc cX7_openBy 8 (.istore 4) 2 10 := by decide +kernel
theorem d_X7_openBy_10 : Dc cX7_openBy 10 (.iconst 1) 1 11 := by decide +kernel
theorem d_X7_openBy_11 : Dc cX7_openBy 11 (.istore 5) 2 13 := by decide +kernel
theorem d_X7_openBy_13 : Dc cX7_openBy 13 (.iload 5) 2 15 := by decide +kernel
theorem d_X7_openBy_15 : Dc cX7_openBy 15 (.iload_n 2) 1 16 := by decide +kernel
theorem d_X7_openBy_16 : Dq cX7_openBy 16 (.if_icmp .ge) 32 19 := by decide +kernel
theorem d_X7_openBy_19 : Dc cX7_openBy 19 (.iload 4) 2 21 := by decide +kernel
theorem d_X7_openBy_21 : Dc cX7_openBy 21 (.bipush 6) 2 23 := by decide +kernel
theorem d_X7_openBy_23 : Dc cX7_openBy 23 (.imul) 1 24 := by decide +kernel
theorem d_X7_openBy_24 : Dc cX7_openBy 24 (.istore 4) 2 26 := by decide +kernel
theorem d_X7_openBy_26 : Dc cX7_openBy 26 (.iinc 5 1) 3 29 := by decide +kernel
theorem d_X7_openBy_29 : Dq cX7_openBy 29 (.goto) 13 32 := by decide +kernel
theorem d_X7_openBy_32 : Dc cX7_openBy 32 (.iconst 0) 1 33 := by decide +kernel
theorem d_X7_openBy_33 : Dc cX7_openBy 33 (.istore 5) 2 35 := by decide +kernel
theorem d_X7_openBy_35 : Dc cX7_openBy 35 (.iload 5) 2 37 := by decide +kernel
theorem d_X7_openBy_37 : Dc cX7_openBy 37 (.iload_n 2) 1 38 := by decide +kernel
theorem d_X7_openBy_38 : Dq cX7_openBy 38 (.if_icmp .ge) 134 41 := by decide +kernel
theorem d_X7_openBy_41 : Dc cX7_openBy 41 (.iload_n 1) 1 42 := by decide +kernel
theorem d_X7_openBy_42 : Dc cX7_openBy 42 (.iload 4) 2 44 := by decide +kernel
theorem d_X7_openBy_44 : Dc cX7_openBy 44 (.idiv) 1 45 := by decide +kernel
theorem d_X7_openBy_45 : Dc cX7_openBy 45 (.bipush 6) 2 47 := by decide +kernel
theorem d_X7_openBy_47 : Dc cX7_openBy 47 (.irem) 1 48 := by decide +kernel
theorem d_X7_openBy_48 : Dc cX7_openBy 48 (.iconst 1) 1 49 := by decide +kernel
theorem d_X7_openBy_49 : Dc cX7_openBy 49 (.isub) 1 50 := by decide +kernel
theorem d_X7_openBy_50 : Dc cX7_openBy 50 (.istore 6) 2 52 := by decide +kernel
theorem d_X7_openBy_52 : Dc cX7_openBy 52 (.iload 4) 2 54 := by decide +kernel
theorem d_X7_openBy_54 : Dc cX7_openBy 54 (.iconst 5) 1 55 := by decide +kernel
theorem d_X7_openBy_55 : Dq cX7_openBy 55 (.if_icmp .le) 66 58 := by decide +kernel
theorem d_X7_openBy_58 : Dc cX7_openBy 58 (.iload 4) 2 60 := by decide +kernel
theorem d_X7_openBy_60 : Dc cX7_openBy 60 (.bipush 6) 2 62 := by decide +kernel
theorem d_X7_openBy_62 : Dc cX7_openBy 62 (.idiv) 1 63 := by decide +kernel
theorem d_X7_openBy_63 : Dq cX7_openBy 63 (.goto) 67 66 := by decide +kernel
theorem d_X7_openBy_66 : Dc cX7_openBy 66 (.iconst 1) 1 67 := by decide +kernel
theorem d_X7_openBy_67 : Dc cX7_openBy 67 (.istore 4) 2 69 := by decide +kernel
theorem d_X7_openBy_69 : Dc cX7_openBy 69 (.iload 5) 2 71 := by decide +kernel
theorem d_X7_openBy_71 : Dc cX7_openBy 71 (.iconst 2) 1 72 := by decide +kernel
theorem d_X7_openBy_72 : Dc cX7_openBy 72 (.irem) 1 73 := by decide +kernel
theorem d_X7_openBy_73 : Dq cX7_openBy 73 (.ifCond .ne) 80 76 := by decide +kernel
theorem d_X7_openBy_76 : Dc cX7_openBy 76 (.iconst 1) 1 77 := by decide +kernel
theorem d_X7_openBy_77 : Dq cX7_openBy 77 (.goto) 81 80 := by decide +kernel
theorem d_X7_openBy_80 : Dc cX7_openBy 80 (.iconst 0) 1 81 := by decide +kernel
theorem d_X7_openBy_81 : Dc cX7_openBy 81 (.istore 7) 2 83 := by decide +kernel
theorem d_X7_openBy_83 : Dc cX7_openBy 83 (.iload 6) 2 85 := by decide +kernel
theorem d_X7_openBy_85 : Dc cX7_openBy 85 (.aload_n 0) 1 86 := by decide +kernel
theorem d_X7_openBy_86 : Dc cX7_openBy 86 (.getfield 28) 3 89 := by decide +kernel
theorem d_X7_openBy_89 : Dc cX7_openBy 89 (.iconst 0) 1 90 := by decide +kernel
theorem d_X7_openBy_90 : Dc cX7_openBy 90 (.iaload) 1 91 := by decide +kernel
theorem d_X7_openBy_91 : Dq cX7_openBy 91 (.if_icmp .ge) 110 94 := by decide +kernel
theorem d_X7_openBy_94 : Dc cX7_openBy 94 (.iload 6) 2 96 := by decide +kernel
theorem d_X7_openBy_96 : Dq cX7_openBy 96 (.ifCond .lt) 112 99 := by decide +kernel
theorem d_X7_openBy_99 : Dc cX7_openBy 99 (.iload_n 3) 1 100 := by decide +kernel
theorem d_X7_openBy_100 : Dc cX7_openBy 100 (.iload 6) 2 102 := by decide +kernel
theorem d_X7_openBy_102 : Dc cX7_openBy 102 (.invokestatic 162) 3 105 := by decide +kernel
theorem d_X7_openBy_105 : Dc cX7_openBy 105 (.iload 7) 2 107 := by decide +kernel
theorem d_X7_openBy_107 : Dq cX7_openBy 107 (.if_icmp .eq) 112 110 := by decide +kernel
theorem d_X7_openBy_110 : Dc cX7_openBy 110 (.iconst (-1)) 1 111 := by decide +kernel
theorem d_X7_openBy_111 : Dc cX7_openBy 111 (.ireturn) 1 112 := by decide +kernel
theorem d_X7_openBy_112 : Dc cX7_openBy 112 (.iload_n 3) 1 113 := by decide +kernel
theorem d_X7_openBy_113 : Dc cX7_openBy 113 (.iload 6) 2 115 := by decide +kernel
theorem d_X7_openBy_115 : Dq cX7_openBy 115 (.ifCond .ge) 122 118 := by decide +kernel
theorem d_X7_openBy_118 : Dc cX7_openBy 118 (.iconst 0) 1 119 := by decide +kernel
theorem d_X7_openBy_119 : Dq cX7_openBy 119 (.goto) 126 122 := by decide +kernel
theorem d_X7_openBy_122 : Dc cX7_openBy 122 (.iconst 1) 1 123 := by decide +kernel
theorem d_X7_openBy_123 : Dc cX7_openBy 123 (.iload 6) 2 125 := by decide +kernel
theorem d_X7_openBy_125 : Dc cX7_openBy 125 (.ishl) 1 126 := by decide +kernel
theorem d_X7_openBy_126 : Dc cX7_openBy 126 (.ixor) 1 127 := by decide +kernel
theorem d_X7_openBy_127 : Dc cX7_openBy 127 (.istore_n 3) 1 128 := by decide +kernel
theorem d_X7_openBy_128 : Dc cX7_openBy 128 (.iinc 5 1) 3 131 := by decide +kernel
theorem d_X7_openBy_131 : Dq cX7_openBy 131 (.goto) 35 134 := by decide +kernel
theorem d_X7_openBy_134 : Dc cX7_openBy 134 (.iload_n 3) 1 135 := by decide +kernel
theorem d_X7_openBy_135 : Dc cX7_openBy 135 (.ireturn) 1 136 := by decide +kernel
theorem d_X7_byTurns_0 : Dc cX7_byTurns 0 (.aload_n 0) 1 1 := by decide +kernel
theorem d_X7_byTurns_1 : Dc cX7_byTurns 1 (.iconst 0) 1 2 := by decide +kernel
theorem d_X7_byTurns_2 : Dc cX7_byTurns 2 (.putfield 62) 3 5 := by decide +kernel
theorem d_X7_byTurns_5 : Dc cX7_byTurns 5 (.aload_n 0) 1 6 := by decide +kernel
theorem d_X7_byTurns_6 : Dc cX7_byTurns 6 (.invokevirtual 195) 3 9 := by decide +kernel
theorem d_X7_byTurns_9 : Dq cX7_byTurns 9 (.ifCond .eq) 15 12 := by decide +kernel
theorem d_X7_byTurns_12 : Dc cX7_byTurns 12 (.ldc 194) 2 14 := by decide +kernel
theorem d_X7_byTurns_14 : Dc cX7_byTurns 14 (.ireturn) 1 15 := by decide +kernel
theorem d_X7_byTurns_15 : Dc cX7_byTurns 15 (.iload_n 1) 1 16 := by decide +kernel
theorem d_X7_byTurns_16 : Dc cX7_byTurns 16 (.iconst 0) 1 17 := by decide +kernel
theorem d_X7_byTurns_17 : Dc cX7_byTurns 17 (.iconst 4) 1 18 := by decide +kernel
theorem d_X7_byTurns_18 : Dc cX7_byTurns 18 (.invokestatic 70) 3 21 := by decide +kernel
theorem d_X7_byTurns_21 : Dq cX7_byTurns 21 (.ifCond .eq) 34 24 := by decide +kernel
theorem d_X7_byTurns_24 : Dc cX7_byTurns 24 (.iload_n 2) 1 25 := by decide +kernel
theorem d_X7_byTurns_25 : Dc cX7_byTurns 25 (.iconst 1) 1 26 := by decide +kernel
theorem d_X7_byTurns_26 : Dc cX7_byTurns 26 (.bipush 20) 2 28 := by decide +kernel
theorem d_X7_byTurns_28 : Dc cX7_byTurns 28 (.invokestatic 70) 3 31 := by decide +kernel
theorem d_X7_byTurns_31 : Dq cX7_byTurns 31 (.ifCond .ne) 37 34 := by decide +kernel
theorem d_X7_byTurns_34 : Dc cX7_byTurns 34 (.ldc 78) 2 36 := by decide +kernel
theorem d_X7_byTurns_36 : Dc cX7_byTurns 36 (.ireturn) 1 37 := by decide +kernel
theorem d_X7_byTurns_37 : Dc cX7_byTurns 37 (.iconst 1) 1 38 := by decide +kernel
theorem d_X7_byTurns_38 : Dc cX7_byTurns 38 (.istore_n 3) 1 39 := by decide +kernel
theorem d_X7_byTurns_39 : Dc cX7_byTurns 39 (.iconst 0) 1 40 := by decide +kernel
theorem d_X7_byTurns_40 : Dc cX7_byTurns 40 (.istore 4) 2 42 := by decide +kernel
theorem d_X7_byTurns_42 : Dc cX7_byTurns 42 (.iload 4) 2 44 := by decide +kernel
theorem d_X7_byTurns_44 : Dc cX7_byTurns 44 (.iload_n 1) 1 45 := by decide +kernel
theorem d_X7_byTurns_45 : Dq cX7_byTurns 45 (.if_icmp .ge) 59 48 := by decide +kernel
theorem d_X7_byTurns_48 : Dc cX7_byTurns 48 (.iload_n 3) 1 49 := by decide +kernel
theorem d_X7_byTurns_49 : Dc cX7_byTurns 49 (.bipush 6) 2 51 := by decide +kernel
theorem d_X7_byTurns_51 : Dc cX7_byTurns 51 (.imul) 1 52 := by decide +kernel
theorem d_X7_byTurns_52 : Dc cX7_byTurns 52 (.istore_n 3) 1 53 := by decide +kernel
theorem d_X7_byTurns_53 : Dc cX7_byTurns 53 (.iinc 4 1) 3 56 := by decide +kernel
theorem d_X7_byTurns_56 : Dq cX7_byTurns 56 (.goto) 42 59 := by decide +kernel
theorem d_X7_byTurns_59 : Dc cX7_byTurns 59 (.iconst 0) 1 60 := by decide +kernel
theorem d_X7_byTurns_60 : Dc cX7_byTurns 60 (.istore 4) 2 62 := by decide +kernel
theorem d_X7_byTurns_62 : Dc cX7_byTurns 62 (.iload 4) 2 64 := by decide +kernel
theorem d_X7_byTurns_64 : Dc cX7_byTurns 64 (.iload_n 3) 1 65 := by decide +kernel
theorem d_X7_byTurns_65 : Dq cX7_byTurns 65 (.if_icmp .ge) 136 68 := by decide +kernel
theorem d_X7_byTurns_68 : Dc cX7_byTurns 68 (.aload_n 0) 1 69 := by decide +kernel
theorem d_X7_byTurns_69 : Dc cX7_byTurns 69 (.iload 4) 2 71 := by decide +kernel
theorem d_X7_byTurns_71 : Dc cX7_byTurns 71 (.iload_n 1) 1 72 := by decide +kernel
theorem d_X7_byTurns_72 : Dc cX7_byTurns 72 (.invokevirtual 237) 3 75 := by decide +kernel
theorem d_X7_byTurns_75 : Dc cX7_byTurns 75 (.istore 5) 2 77 := by decide +kernel
theorem d_X7_byTurns_77 : Dc cX7_byTurns 77 (.aload_n 0) 1 78 := by decide +kernel
theorem d_X7_byTurns_78 : Dc cX7_byTurns 78 (.getfield 56) 3 81 := by decide +kernel
theorem d_X7_byTurns_81 : Dc cX7_byTurns 81 (.iload 4) 2 83 := by decide +kernel
theorem d_X7_byTurns_83 : Dc cX7_byTurns 83 (.iconst (-1)) 1 84 := by decide +kernel
theorem d_X7_byTurns_84 : Dc cX7_byTurns 84 (.iastore) 1 85 := by decide +kernel
theorem d_X7_byTurns_85 : Dc cX7_byTurns 85 (.iload 5) 2 87 := by decide +kernel
theorem d_X7_byTurns_87 : Dq cX7_byTurns 87 (.ifCond .lt) 130 90 := by decide +kernel
theorem d_X7_byTurns_90 : Dc cX7_byTurns 90 (.aload_n 0) 1 91 := by decide +kernel
theorem d_X7_byTurns_91 : Dc cX7_byTurns 91 (.invokevirtual 178) 3 94 := by decide +kernel
theorem d_X7_byTurns_94 : Dc cX7_byTurns 94 (.aload_n 0) 1 95 := by decide +kernel
theorem d_X7_byTurns_95 : Dc cX7_byTurns 95 (.invokevirtual 181) 3 98 := by decide +kernel
theorem d_X7_byTurns_98 : Dc cX7_byTurns 98 (.aload_n 0) 1 99 := by decide +kernel
theorem d_X7_byTurns_99 : Dc cX7_byTurns 99 (.getfield 37) 3 102 := by decide +kernel
theorem d_X7_byTurns_102 : Dc cX7_byTurns 102 (.iconst 2) 1 103 := by decide +kernel
theorem d_X7_byTurns_103 : Dc cX7_byTurns 103 (.iload 5) 2 105 := by decide +kernel
theorem d_X7_byTurns_105 : Dc cX7_byTurns 105 (.iastore) 1 106 := by decide +kernel
theorem d_X7_byTurns_106 : Dc cX7_byTurns 106 (.aload_n 0) 1 107 := by decide +kernel
theorem d_X7_byTurns_107 : Dc cX7_byTurns 107 (.iload_n 2) 1 108 := by decide +kernel
theorem d_X7_byTurns_108 : Dc cX7_byTurns 108 (.invokevirtual 184) 3 111 := by decide +kernel
theorem d_X7_byTurns_111 : Dc cX7_byTurns 111 (.aload_n 0) 1 112 := by decide +kernel
theorem d_X7_byTurns_112 : Dc cX7_byTurns 112 (.getfield 56) 3 115 := by decide +kernel
theorem d_X7_byTurns_115 : Dc cX7_byTurns 115 (.iload 4) 2 117 := by decide +kernel
theorem d_X7_byTurns_117 : Dc cX7_byTurns 117 (.aload_n 0) 1 118 := by decide +kernel
theorem d_X7_byTurns_118 : Dc cX7_byTurns 118 (.aload_n 0) 1 119 := by decide +kernel
theorem d_X7_byTurns_119 : Dc cX7_byTurns 119 (.getfield 37) 3 122 := by decide +kernel
theorem d_X7_byTurns_122 : Dc cX7_byTurns 122 (.iconst 2) 1 123 := by decide +kernel
theorem d_X7_byTurns_123 : Dc cX7_byTurns 123 (.invokevirtual 191) 3 126 := by decide +kernel
theorem d_X7_byTurns_126 : Dc cX7_byTurns 126 (.invokestatic 228) 3 129 := by decide +kernel
theorem d_X7_byTurns_129 : Dc cX7_byTurns 129 (.iastore) 1 130 := by decide +kernel
theorem d_X7_byTurns_130 : Dc cX7_byTurns 130 (.iinc 4 1) 3 133 := by decide +kernel
theorem d_X7_byTurns_133 : Dq cX7_byTurns 133 (.goto) 62 136 := by decide +kernel
theorem d_X7_byTurns_136 : Dc cX7_byTurns 136 (.iload_n 1) 1 137 := by decide +kernel
theorem d_X7_byTurns_137 : Dc cX7_byTurns 137 (.iconst 1) 1 138 := by decide +kernel
theorem d_X7_byTurns_138 : Dc cX7_byTurns 138 (.isub) 1 139 := by decide +kernel
theorem d_X7_byTurns_139 : Dc cX7_byTurns 139 (.istore 4) 2 141 := by decide +kernel
theorem d_X7_byTurns_141 : Dc cX7_byTurns 141 (.iload 4) 2 143 := by decide +kernel
theorem d_X7_byTurns_143 : Dq cX7_byTurns 143 (.ifCond .lt) 270 146 := by decide +kernel
theorem d_X7_byTurns_146 : Dc cX7_byTurns 146 (.iload_n 3) 1 147 := by decide +kernel
theorem d_X7_byTurns_147 : Dc cX7_byTurns 147 (.bipush 6) 2 149 := by decide +kernel
theorem d_X7_byTurns_149 : Dc cX7_byTurns 149 (.idiv) 1 150 := by decide +kernel
theorem d_X7_byTurns_150 : Dc cX7_byTurns 150 (.istore_n 3) 1 151 := by decide +kernel
theorem d_X7_byTurns_151 : Dc cX7_byTurns 151 (.iconst 0) 1 152 := by decide +kernel
theorem d_X7_byTurns_152 : Dc cX7_byTurns 152 (.istore 5) 2 154 := by decide +kernel
theorem d_X7_byTurns_154 : Dc cX7_byTurns 154 (.iload 5) 2 156 := by decide +kernel
theorem d_X7_byTurns_156 : Dc cX7_byTurns 156 (.iload_n 3) 1 157 := by decide +kernel
theorem d_X7_byTurns_157 : Dq cX7_byTurns 157 (.if_icmp .ge) 264 160 := by decide +kernel
theorem d_X7_byTurns_160 : Dc cX7_byTurns 160 (.iconst (-1)) 1 161 := by decide +kernel
theorem d_X7_byTurns_161 : Dc cX7_byTurns 161 (.istore 6) 2 163 := by decide +kernel
theorem d_X7_byTurns_163 : Dc cX7_byTurns 163 (.iconst 0) 1 164 := by decide +kernel
theorem d_X7_byTurns_164 : Dc cX7_byTurns 164 (.istore 7) 2 166 := by decide +kernel
theorem d_X7_byTurns_166 : Dc cX7_byTurns 166 (.iload 7) 2 168 := by decide +kernel
theorem d_X7_byTurns_168 : Dc cX7_byTurns 168 (.bipush 6) 2 170 := by decide +kernel
theorem d_X7_byTurns_170 : Dq cX7_byTurns 170 (.if_icmp .ge) 249 173 := by decide +kernel
theorem d_X7_byTurns_173 : Dc cX7_byTurns 173 (.aload_n 0) 1 174 := by decide +kernel
theorem d_X7_byTurns_174 : Dc cX7_byTurns 174 (.getfield 56) 3 177 := by decide +kernel
theorem d_X7_byTurns_177 : Dc cX7_byTurns 177 (.bipush 6) 2 179 := by decide +kernel
theorem d_X7_byTurns_179 : Dc cX7_byTurns 179 (.iload 5) 2 181 := by decide +kernel
theorem d_X7_byTurns_181 : Dc cX7_byTurns 181 (.imul) 1 182 := by decide +kernel
theorem d_X7_byTurns_182 : Dc cX7_byTurns 182 (.iload 7) 2 184 := by decide +kernel
theorem d_X7_byTurns_184 : Dc cX7_byTurns 184 (.iadd) 1 185 := by decide +kernel
theorem d_X7_byTurns_185 : Dc cX7_byTurns 185 (.iaload) 1 186 := by decide +kernel
theorem d_X7_byTurns_186 : Dc cX7_byTurns 186 (.istore 8) 2 188 := by decide +kernel
theorem d_X7_byTurns_188 : Dc cX7_byTurns 188 (.iload 6) 2 190 := by decide +kernel
theorem d_X7_byTurns_190 : Dq cX7_byTurns 190 (.ifCond .lt) 217 193 := by decide +kernel
theorem d_X7_byTurns_193 : Dc cX7_byTurns 193 (.iload 4) 2 195 := by decide +kernel
theorem d_X7_byTurns_195 : Dc cX7_byTurns 195 (.iconst 2) 1 196 := by decide +kernel
theorem d_X7_byTurns_196 : Dc cX7_byTurns 196 (.irem) 1 197 := by decide +kernel
theorem d_X7_byTurns_197 : Dq cX7_byTurns 197 (.ifCond .ne) 210 200 := by decide +kernel
theorem d_X7_byTurns_200 : Dc cX7_byTurns 200 (.iload 8) 2 202 := by decide +kernel
theorem d_X7_byTurns_202 : Dc cX7_byTurns 202 (.iload 6) 2 204 := by decide +kernel
theorem d_X7_byTurns_204 : Dq cX7_byTurns 204 (.if_icmp .ge) 221 207 := by decide +kernel
theorem d_X7_byTurns_207 : Dq cX7_byTurns 207 (.goto) 217 210 := by decide +kernel
theorem d_X7_byTurns_210 : Dc cX7_byTurns 210 (.iload 8) 2 212 := by decide +kernel
theorem d_X7_byTurns_212 : Dc cX7_byTurns 212 (.iload 6) 2 214 := by decide +kernel
theorem d_X7_byTurns_214 : Dq cX7_byTurns 214 (.if_icmp .le) 221 217 := by decide +kernel
theorem d_X7_byTurns_217 : Dc cX7_byTurns 217 (.iconst 1) 1 218 := by decide +kernel
theorem d_X7_byTurns_218 : Dq cX7_byTurns 218 (.goto) 222 221 := by decide +kernel
theorem d_X7_byTurns_221 : Dc cX7_byTurns 221 (.iconst 0) 1 222 := by decide +kernel
theorem d_X7_byTurns_222 : Dc cX7_byTurns 222 (.istore 9) 2 224 := by decide +kernel
theorem d_X7_byTurns_224 : Dc cX7_byTurns 224 (.iload 8) 2 226 := by decide +kernel
theorem d_X7_byTurns_226 : Dq cX7_byTurns 226 (.ifCond .lt) 239 229 := by decide +kernel
theorem d_X7_byTurns_229 : Dc cX7_byTurns 229 (.iload 9) 2 231 := by decide +kernel
theorem d_X7_byTurns_231 : Dq cX7_byTurns 231 (.ifCond .eq) 239 234 := by decide +kernel
theorem d_X7_byTurns_234 : Dc cX7_byTurns 234 (.iload 8) 2 236 := by decide +kernel
theorem d_X7_byTurns_236 : Dq cX7_byTurns 236 (.goto) 241 239 := by decide +kernel
theorem d_X7_byTurns_239 : Dc cX7_byTurns 239 (.iload 6) 2 241 := by decide +kernel
theorem d_X7_byTurns_241 : Dc cX7_byTurns 241 (.istore 6) 2 243 := by decide +kernel
theorem d_X7_byTurns_243 : Dc cX7_byTurns 243 (.iinc 7 1) 3 246 := by decide +kernel
theorem d_X7_byTurns_246 : Dq cX7_byTurns 246 (.goto) 166 249 := by decide +kernel
theorem d_X7_byTurns_249 : Dc cX7_byTurns 249 (.aload_n 0) 1 250 := by decide +kernel
theorem d_X7_byTurns_250 : Dc cX7_byTurns 250 (.getfield 56) 3 253 := by decide +kernel
theorem d_X7_byTurns_253 : Dc cX7_byTurns 253 (.iload 5) 2 255 := by decide +kernel
theorem d_X7_byTurns_255 : Dc cX7_byTurns 255 (.iload 6) 2 257 := by decide +kernel
theorem d_X7_byTurns_257 : Dc cX7_byTurns 257 (.iastore) 1 258 := by decide +kernel
theorem d_X7_byTurns_258 : Dc cX7_byTurns 258 (.iinc 5 1) 3 261 := by decide +kernel
theorem d_X7_byTurns_261 : Dq cX7_byTurns 261 (.goto) 154 264 := by decide +kernel
theorem d_X7_byTurns_264 : Dc cX7_byTurns 264 (.iinc 4 (-1)) 3 267 := by decide +kernel
theorem d_X7_byTurns_267 : Dq cX7_byTurns 267 (.goto) 141 270 := by decide +kernel
theorem d_X7_byTurns_270 : Dc cX7_byTurns 270 (.aload_n 0) 1 271 := by decide +kernel
theorem d_X7_byTurns_271 : Dc cX7_byTurns 271 (.getfield 56) 3 274 := by decide +kernel
theorem d_X7_byTurns_274 : Dc cX7_byTurns 274 (.iconst 0) 1 275 := by decide +kernel
theorem d_X7_byTurns_275 : Dc cX7_byTurns 275 (.iaload) 1 276 := by decide +kernel
theorem d_X7_byTurns_276 : Dc cX7_byTurns 276 (.ireturn) 1 277 := by decide +kernel
theorem d_X7_against_0 : Dc cX7_against 0 (.aload_n 0) 1 1 := by decide +kernel
theorem d_X7_against_1 : Dc cX7_against 1 (.getfield 16) 3 4 := by decide +kernel
theorem d_X7_against_4 : Dc cX7_against 4 (.iload_n 1) 1 5 := by decide +kernel
theorem d_X7_against_5 : Dc cX7_against 5 (.iaload) 1 6 := by decide +kernel
theorem d_X7_against_6 : Dq cX7_against 6 (.ifCond .ge) 17 9 := by decide +kernel
theorem d_X7_against_9 : Dc cX7_against 9 (.aload_n 0) 1 10 := by decide +kernel
theorem d_X7_against_10 : Dc cX7_against 10 (.iconst 1) 1 11 := by decide +kernel
theorem d_X7_against_11 : Dc cX7_against 11 (.invokevirtual 79) 3 14 := by decide +kernel
theorem d_X7_against_14 : Dq cX7_against 14 (.goto) 36 17 := by decide +kernel
theorem d_X7_against_17 : Dc cX7_against 17 (.aload_n 0) 1 18 := by decide +kernel
theorem d_X7_against_18 : Dc cX7_against 18 (.iload_n 1) 1 19 := by decide +kernel
theorem d_X7_against_19 : Dc cX7_against 19 (.iload_n 2) 1 20 := by decide +kernel
theorem d_X7_against_20 : Dc cX7_against 20 (.iload_n 3) 1 21 := by decide +kernel
theorem d_X7_against_21 : Dc cX7_against 21 (.invokevirtual 86) 3 24 := by decide +kernel
theorem d_X7_against_24 : Dq cX7_against 24 (.ifCond .ne) 35 27 := by decide +kernel
theorem d_X7_against_27 : Dc cX7_against 27 (.aload_n 0) 1 28 := by decide +kernel
theorem d_X7_against_28 : Dc cX7_against 28 (.iconst 2) 1 29 := by decide +kernel
theorem d_X7_against_29 : Dc cX7_against 29 (.invokevirtual 79) 3 32 := by decide +kernel
theorem d_X7_against_32 : Dq cX7_against 32 (.goto) 36 35 := by decide +kernel
theorem d_X7_against_35 : Dc cX7_against 35 (.iconst 0) 1 36 := by decide +kernel
theorem d_X7_against_36 : Dc cX7_against 36 (.ireturn) 1 37 := by decide +kernel
theorem d_X7_goesSo_0 : Dc cX7_goesSo 0 (.iconst 0) 1 1 := by decide +kernel
theorem d_X7_goesSo_1 : Dc cX7_goesSo 1 (.istore 4) 2 3 := by decide +kernel
theorem d_X7_goesSo_3 : Dc cX7_goesSo 3 (.iload 4) 2 5 := by decide +kernel
theorem d_X7_goesSo_5 : Dc cX7_goesSo 5 (.iload_n 3) 1 6 := by decide +kernel
theorem d_X7_goesSo_6 : Dq cX7_goesSo 6 (.if_icmp .ge) 74 9 := by decide +kernel
theorem d_X7_goesSo_9 : Dc cX7_goesSo 9 (.aload_n 0) 1 10 := by decide +kernel
theorem d_X7_goesSo_10 : Dc cX7_goesSo 10 (.aload_n 0) 1 11 := by decide +kernel
theorem d_X7_goesSo_11 : Dc cX7_goesSo 11 (.getfield 34) 3 14 := by decide +kernel
theorem d_X7_goesSo_14 : Dc cX7_goesSo 14 (.aload_n 0) 1 15 := by decide +kernel
theorem d_X7_goesSo_15 : Dc cX7_goesSo 15 (.getfield 37) 3 18 := by decide +kernel
theorem d_X7_goesSo_18 : Dc cX7_goesSo 18 (.invokevirtual 174) 3 21 := by decide +kernel
theorem d_X7_goesSo_21 : Dc cX7_goesSo 21 (.aload_n 0) 1 22 := by decide +kernel
theorem d_X7_goesSo_22 : Dc cX7_goesSo 22 (.aload_n 0) 1 23 := by decide +kernel
theorem d_X7_goesSo_23 : Dc cX7_goesSo 23 (.getfield 37) 3 26 := by decide +kernel
theorem d_X7_goesSo_26 : Dc cX7_goesSo 26 (.iconst 1) 1 27 := by decide +kernel
theorem d_X7_goesSo_27 : Dc cX7_goesSo 27 (.invokevirtual 191) 3 30 := by decide +kernel
theorem d_X7_goesSo_30 : Dc cX7_goesSo 30 (.invokestatic 228) 3 33 := by decide +kernel
theorem d_X7_goesSo_33 : Dc cX7_goesSo 33 (.bipush 10) 2 35 := by decide +kernel
theorem d_X7_goesSo_35 : Dc cX7_goesSo 35 (.aload_n 0) 1 36 := by decide +kernel
theorem d_X7_goesSo_36 : Dc cX7_goesSo 36 (.aload_n 0) 1 37 := by decide +kernel
theorem d_X7_goesSo_37 : Dc cX7_goesSo 37 (.getfield 37) 3 40 := by decide +kernel
theorem d_X7_goesSo_40 : Dc cX7_goesSo 40 (.iconst 2) 1 41 := by decide +kernel
theorem d_X7_goesSo_41 : Dc cX7_goesSo 41 (.invokevirtual 191) 3 44 := by decide +kernel
theorem d_X7_goesSo_44 : Dc cX7_goesSo 44 (.invokestatic 228) 3 47 := by decide +kernel
theorem d_X7_goesSo_47 : Dc cX7_goesSo 47 (.imul) 1 48 := by decide +kernel
theorem d_X7_goesSo_48 : Dc cX7_goesSo 48 (.iadd) 1 49 := by decide +kernel
theorem d_X7_goesSo_49 : Dc cX7_goesSo 49 (.aload_n 0) 1 50 := by decide +kernel
theorem d_X7_goesSo_50 : Dc cX7_goesSo 50 (.getfield 7) 3 53 := by decide +kernel
theorem d_X7_goesSo_53 : Dc cX7_goesSo 53 (.bipush 40) 2 55 := by decide +kernel
theorem d_X7_goesSo_55 : Dc cX7_goesSo 55 (.iload_n 1) 1 56 := by decide +kernel
theorem d_X7_goesSo_56 : Dc cX7_goesSo 56 (.imul) 1 57 := by decide +kernel
theorem d_X7_goesSo_57 : Dc cX7_goesSo 57 (.iload_n 2) 1 58 := by decide +kernel
theorem d_X7_goesSo_58 : Dc cX7_goesSo 58 (.iadd) 1 59 := by decide +kernel
theorem d_X7_goesSo_59 : Dc cX7_goesSo 59 (.iload 4) 2 61 := by decide +kernel
theorem d_X7_goesSo_61 : Dc cX7_goesSo 61 (.iadd) 1 62 := by decide +kernel
theorem d_X7_goesSo_62 : Dc cX7_goesSo 62 (.iaload) 1 63 := by decide +kernel
theorem d_X7_goesSo_63 : Dq cX7_goesSo 63 (.if_icmp .eq) 68 66 := by decide +kernel
theorem d_X7_goesSo_66 : Dc cX7_goesSo 66 (.iconst 0) 1 67 := by decide +kernel
theorem d_X7_goesSo_67 : Dc cX7_goesSo 67 (.ireturn) 1 68 := by decide +kernel
theorem d_X7_goesSo_68 : Dc cX7_goesSo 68 (.iinc 4 1) 3 71 := by decide +kernel
theorem d_X7_goesSo_71 : Dq cX7_goesSo 71 (.goto) 3 74 := by decide +kernel
theorem d_X7_goesSo_74 : Dc cX7_goesSo 74 (.iconst 1) 1 75 := by decide +kernel
theorem d_X7_goesSo_75 : Dc cX7_goesSo 75 (.ireturn) 1 76 := by decide +kernel
theorem d_X7_who_0 : Dc cX7_who 0 (.aload_n 0) 1 1 := by decide +kernel
theorem d_X7_who_1 : Dc cX7_who 1 (.iconst 0) 1 2 := by decide +kernel
theorem d_X7_who_2 : Dc cX7_who 2 (.putfield 62) 3 5 := by decide +kernel
theorem d_X7_who_5 : Dc cX7_who 5 (.aload_n 0) 1 6 := by decide +kernel
theorem d_X7_who_6 : Dc cX7_who 6 (.iload_n 1) 1 7 := by decide +kernel
theorem d_X7_who_7 : Dc cX7_who 7 (.invokevirtual 201) 3 10 := by decide +kernel
theorem d_X7_who_10 : Dq cX7_who 10 (.ifCond .eq) 40 13 := by decide +kernel
theorem d_X7_who_13 : Dc cX7_who 13 (.iload_n 2) 1 14 := by decide +kernel
theorem d_X7_who_14 : Dc cX7_who 14 (.iconst 0) 1 15 := by decide +kernel
theorem d_X7_who_15 : Dc cX7_who 15 (.iconst 2) 1 16 := by decide +kernel
theorem d_X7_who_16 : Dc cX7_who 16 (.invokestatic 70) 3 19 := by decide +kernel
theorem d_X7_who_19 : Dq cX7_who 19 (.ifCond .eq) 40 22 := by decide +kernel
theorem d_X7_who_22 : Dc cX7_who 22 (.iload_n 3) 1 23 := by decide +kernel
theorem d_X7_who_23 : Dc cX7_who 23 (.invokestatic 74) 3 26 := by decide +kernel
theorem d_X7_who_26 : Dq cX7_who 26 (.ifCond .eq) 40 29 := by decide +kernel
theorem d_X7_who_29 : Dc cX7_who 29 (.iload 5) 2 31 := by decide +kernel
theorem d_X7_who_31 : Dc cX7_who 31 (.iconst 1) 1 32 := by decide +kernel
theorem d_X7_who_32 : Dc cX7_who 32 (.bipush 12) 2 34 := by decide +kernel
theorem d_X7_who_34 : Dc cX7_who 34 (.invokestatic 70) 3 37 := by decide +kernel
theorem d_X7_who_37 : Dq cX7_who 37 (.ifCond .ne) 43 40 := by decide +kernel
theorem d_X7_who_40 : Dc cX7_who 40 (.ldc 78) 2 42 := by decide +kernel
theorem d_X7_who_42 : Dc cX7_who 42 (.ireturn) 1 43 := by decide +kernel
theorem d_X7_who_43 : Dc cX7_who 43 (.aload_n 0) 1 44 := by decide +kernel
theorem d_X7_who_44 : Dc cX7_who 44 (.iload_n 3) 1 45 := by decide +kernel
theorem d_X7_who_45 : Dc cX7_who 45 (.iload 4) 2 47 := by decide +kernel
theorem d_X7_who_47 : Dc cX7_who 47 (.iload 5) 2 49 := by decide +kernel
theorem d_X7_who_49 : Dc cX7_who 49 (.invokevirtual 240) 3 52 := by decide +kernel
theorem d_X7_who_52 : Dc cX7_who 52 (.istore 6) 2 54 := by decide +kernel
theorem d_X7_who_54 : Dc cX7_who 54 (.iload 6) 2 56 := by decide +kernel
theorem d_X7_who_56 : Dq cX7_who 56 (.ifCond .eq) 62 59 := by decide +kernel
theorem d_X7_who_59 : Dc cX7_who 59 (.iload 6) 2 61 := by decide +kernel
theorem d_X7_who_61 : Dc cX7_who 61 (.ireturn) 1 62 := by decide +kernel
theorem d_X7_who_62 : Dc cX7_who 62 (.iconst 0) 1 63 := by decide +kernel
theorem d_X7_who_63 : Dc cX7_who 63 (.istore 7) 2 65 := by decide +kernel
theorem d_X7_who_65 : Dc cX7_who 65 (.iconst 0) 1 66 := by decide +kernel
theorem d_X7_who_66 : Dc cX7_who 66 (.istore 8) 2 68 := by decide +kernel
theorem d_X7_who_68 : Dc cX7_who 68 (.iload 8) 2 70 := by decide +kernel
theorem d_X7_who_70 : Dc cX7_who 70 (.bipush 10) 2 72 := by decide +kernel
theorem d_X7_who_72 : Dq cX7_who 72 (.if_icmp .ge) 194 75 := by decide +kernel
theorem d_X7_who_75 : Dc cX7_who 75 (.iload_n 2) 1 76 := by decide +kernel
theorem d_X7_who_76 : Dq cX7_who 76 (.ifCond .ne) 89 79 := by decide +kernel
theorem d_X7_who_79 : Dc cX7_who 79 (.iload 8) 2 81 := by decide +kernel
theorem d_X7_who_81 : Dc cX7_who 81 (.iconst 1) 1 82 := by decide +kernel
theorem d_X7_who_82 : Dc cX7_who 82 (.iconst 5) 1 83 := by decide +kernel
theorem d_X7_who_83 : Dc cX7_who 83 (.invokestatic 70) 3 86 := by decide +kernel
theorem d_X7_who_86 : Dq cX7_who 86 (.goto) 119 89 := by decide +kernel
theorem d_X7_who_89 : Dc cX7_who 89 (.iload_n 2) 1 90 := by decide +kernel
theorem d_X7_who_90 : Dc cX7_who 90 (.iconst 1) 1 91 := by decide +kernel
theorem d_X7_who_91 : Dq cX7_who 91 (.if_icmp .ne) 107 94 := by decide +kernel
theorem d_X7_who_94 : Dc cX7_who 94 (.iload 8) 2 96 := by decide +kernel
theorem d_X7_who_96 : Dq cX7_who 96 (.ifCond .le) 103 99 := by decide +kernel
theorem d_X7_who_99 : Dc cX7_who 99 (.iconst 1) 1 100 := by decide +kernel
theorem d_X7_who_100 : Dq cX7_who 100 (.goto) 119 103 := by decide +kernel
theorem d_X7_who_103 : Dc cX7_who 103 (.iconst 0) 1 104 := by decide +kernel
theorem d_X7_who_104 : Dq cX7_who 104 (.goto) 119 107 := by decide +kernel
theorem d_X7_who_107 : Dc cX7_who 107 (.iload 8) 2 109 := by decide +kernel
theorem d_X7_who_109 : Dc cX7_who 109 (.bipush 6) 2 111 := by decide +kernel
theorem d_X7_who_111 : Dq cX7_who 111 (.if_icmp .ge) 118 114 := by decide +kernel
theorem d_X7_who_114 : Dc cX7_who 114 (.iconst 1) 1 115 := by decide +kernel
theorem d_X7_who_115 : Dq cX7_who 115 (.goto) 119 118 := by decide +kernel
theorem d_X7_who_118 : Dc cX7_who 118 (.iconst 0) 1 119 := by decide +kernel
theorem d_X7_who_119 : Dc cX7_who 119 (.istore 9) 2 121 := by decide +kernel
theorem d_X7_who_121 : Dc cX7_who 121 (.iload 9) 2 123 := by decide +kernel
theorem d_X7_who_123 : Dq cX7_who 123 (.ifCond .eq) 188 126 := by decide +kernel
theorem d_X7_who_126 : Dc cX7_who 126 (.aload_n 0) 1 127 := by decide +kernel
theorem d_X7_who_127 : Dc cX7_who 127 (.invokevirtual 178) 3 130 := by decide +kernel
theorem d_X7_who_130 : Dc cX7_who 130 (.aload_n 0) 1 131 := by decide +kernel
theorem d_X7_who_131 : Dc cX7_who 131 (.invokevirtual 181) 3 134 := by decide +kernel
theorem d_X7_who_134 : Dc cX7_who 134 (.aload_n 0) 1 135 := by decide +kernel
theorem d_X7_who_135 : Dc cX7_who 135 (.getfield 34) 3 138 := by decide +kernel
theorem d_X7_who_138 : Dc cX7_who 138 (.iload_n 2) 1 139 := by decide +kernel
theorem d_X7_who_139 : Dq cX7_who 139 (.ifCond .ne) 146 142 := by decide +kernel
theorem d_X7_who_142 : Dc cX7_who 142 (.iconst 2) 1 143 := by decide +kernel
theorem d_X7_who_143 : Dq cX7_who 143 (.goto) 158 146 := by decide +kernel
theorem d_X7_who_146 : Dc cX7_who 146 (.iload_n 2) 1 147 := by decide +kernel
theorem d_X7_who_147 : Dc cX7_who 147 (.iconst 1) 1 148 := by decide +kernel
theorem d_X7_who_148 : Dq cX7_who 148 (.if_icmp .ne) 156 151 := by decide +kernel
theorem d_X7_who_151 : Dc cX7_who 151 (.bipush 7) 2 153 := by decide +kernel
theorem d_X7_who_153 : Dq cX7_who 153 (.goto) 158 156 := by decide +kernel
theorem d_X7_who_156 : Dc cX7_who 156 (.bipush 12) 2 158 := by decide +kernel
theorem d_X7_who_158 : Dc cX7_who 158 (.iload_n 1) 1 159 := by decide +kernel
theorem d_X7_who_159 : Dc cX7_who 159 (.iadd) 1 160 := by decide +kernel
theorem d_X7_who_160 : Dc cX7_who 160 (.iload 8) 2 162 := by decide +kernel
theorem d_X7_who_162 : Dc cX7_who 162 (.iastore) 1 163 := by decide +kernel
theorem d_X7_who_163 : Dc cX7_who 163 (.iload 7) 2 165 := by decide +kernel
theorem d_X7_who_165 : Dc cX7_who 165 (.aload_n 0) 1 166 := by decide +kernel
theorem d_X7_who_166 : Dc cX7_who 166 (.iload_n 3) 1 167 := by decide +kernel
theorem d_X7_who_167 : Dc cX7_who 167 (.iload 4) 2 169 := by decide +kernel
theorem d_X7_who_169 : Dc cX7_who 169 (.iload 5) 2 171 := by decide +kernel
theorem d_X7_who_171 : Dc cX7_who 171 (.invokevirtual 244) 3 174 := by decide +kernel
theorem d_X7_who_174 : Dq cX7_who 174 (.ifCond .eq) 184 177 := by decide +kernel
theorem d_X7_who_177 : Dc cX7_who 177 (.iconst 1) 1 178 := by decide +kernel
theorem d_X7_who_178 : Dc cX7_who 178 (.iload 8) 2 180 := by decide +kernel
theorem d_X7_who_180 : Dc cX7_who 180 (.ishl) 1 181 := by decide +kernel
theorem d_X7_who_181 : Dq cX7_who 181 (.goto) 185 184 := by decide +kernel
theorem d_X7_who_184 : Dc cX7_who 184 (.iconst 0) 1 185 := by decide +kernel
theorem d_X7_who_185 : Dc cX7_who 185 (.ior) 1 186 := by decide +kernel
theorem d_X7_who_186 : Dc cX7_who 186 (.istore 7) 2 188 := by decide +kernel
theorem d_X7_who_188 : Dc cX7_who 188 (.iinc 8 1) 3 191 := by decide +kernel
theorem d_X7_who_191 : Dq cX7_who 191 (.goto) 68 194 := by decide +kernel
theorem d_X7_who_194 : Dc cX7_who 194 (.aload_n 0) 1 195 := by decide +kernel
theorem d_X7_who_195 : Dc cX7_who 195 (.iload 7) 2 197 := by decide +kernel
theorem d_X7_who_197 : Dc cX7_who 197 (.invokevirtual 83) 3 200 := by decide +kernel
theorem d_X7_who_200 : Dc cX7_who 200 (.ireturn) 1 201 := by decide +kernel
theorem d_X7_sizes_0 : Dc cX7_sizes 0 (.aload_n 0) 1 1 := by decide +kernel
theorem d_X7_sizes_1 : Dc cX7_sizes 1 (.iconst 0) 1 2 := by decide +kernel
theorem d_X7_sizes_2 : Dc cX7_sizes 2 (.putfield 62) 3 5 := by decide +kernel
theorem d_X7_sizes_5 : Dc cX7_sizes 5 (.aload_n 0) 1 6 := by decide +kernel
theorem d_X7_sizes_6 : Dc cX7_sizes 6 (.iload_n 1) 1 7 := by decide +kernel
theorem d_X7_sizes_7 : Dc cX7_sizes 7 (.invokevirtual 204) 3 10 := by decide +kernel
theorem d_X7_sizes_10 : Dq cX7_sizes 10 (.ifCond .eq) 31 13 := by decide +kernel
theorem d_X7_sizes_13 : Dc cX7_sizes 13 (.iload_n 2) 1 14 := by decide +kernel
theorem d_X7_sizes_14 : Dc cX7_sizes 14 (.invokestatic 74) 3 17 := by decide +kernel
theorem d_X7_sizes_17 : Dq cX7_sizes 17 (.ifCond .eq) 31 20 := by decide +kernel
theorem d_X7_sizes_20 : Dc cX7_sizes 20 (.iload 4) 2 22 := by decide +kernel
theorem d_X7_sizes_22 : Dc cX7_sizes 22 (.iconst 1) 1 23 := by decide +kernel
theorem d_X7_sizes_23 : Dc cX7_sizes 23 (.bipush 12) 2 25 := by decide +kernel
theorem d_X7_sizes_25 : Dc cX7_sizes 25 (.invokestatic 70) 3 28 := by decide +kernel
theorem d_X7_sizes_28 : Dq cX7_sizes 28 (.ifCond .ne) 34 31 := by decide +kernel
theorem d_X7_sizes_31 : Dc cX7_sizes 31 (.ldc 78) 2 33 := by decide +kernel
theorem d_X7_sizes_33 : Dc cX7_sizes 33 (.ireturn) 1 34 := by decide +kernel
theorem d_X7_sizes_34 : Dc cX7_sizes 34 (.aload_n 0) 1 35 := by decide +kernel
theorem d_X7_sizes_35 : Dc cX7_sizes 35 (.getfield 31) 3 38 := by decide +kernel
theorem d_X7_sizes_38 : Dc cX7_sizes 38 (.bipush 30) 2 40 := by decide +kernel
theorem d_X7_sizes_40 : Dc cX7_sizes 40 (.iload_n 1) 1 41 := by decide +kernel
theorem d_X7_sizes_41 : Dc cX7_sizes 41 (.iadd) 1 42 := by decide +kernel
theorem d_X7_sizes_42 : Dc cX7_sizes 42 (.iaload) 1 43 := by decide +kernel
theorem d_X7_sizes_43 : Dc cX7_sizes 43 (.bipush 10) 2 45 := by decide +kernel
theorem d_X7_sizes_45 : Dq cX7_sizes 45 (.if_icmp .lt) 51 48 := by decide +kernel
theorem d_X7_sizes_48 : Dc cX7_sizes 48 (.ldc 194) 2 50 := by decide +kernel
theorem d_X7_sizes_50 : Dc cX7_sizes 50 (.ireturn) 1 51 := by decide +kernel
theorem d_X7_sizes_51 : Dc cX7_sizes 51 (.aload_n 0) 1 52 := by decide +kernel
theorem d_X7_sizes_52 : Dc cX7_sizes 52 (.iload_n 2) 1 53 := by decide +kernel
theorem d_X7_sizes_53 : Dc cX7_sizes 53 (.iload_n 3) 1 54 := by decide +kernel
theorem d_X7_sizes_54 : Dc cX7_sizes 54 (.iload 4) 2 56 := by decide +kernel
theorem d_X7_sizes_56 : Dc cX7_sizes 56 (.invokevirtual 240) 3 59 := by decide +kernel
theorem d_X7_sizes_59 : Dc cX7_sizes 59 (.istore 5) 2 61 := by decide +kernel
theorem d_X7_sizes_61 : Dc cX7_sizes 61 (.iload 5) 2 63 := by decide +kernel
theorem d_X7_sizes_63 : Dq cX7_sizes 63 (.ifCond .eq) 69 66 := by decide +kernel
theorem d_X7_sizes_66 : Dc cX7_sizes 66 (.iload 5) 2 68 := by decide +kernel
theorem d_X7_sizes_68 : Dc cX7_sizes 68 (.ireturn) 1 69 := by decide +kernel
theorem d_X7_sizes_69 : Dc cX7_sizes 69 (.iconst 0) 1 70 := by decide +kernel
theorem d_X7_sizes_70 : Dc cX7_sizes 70 (.istore 6) 2 72 := by decide +kernel
theorem d_X7_sizes_72 : Dc cX7_sizes 72 (.iconst 1) 1 73 := by decide +kernel
theorem d_X7_sizes_73 : Dc cX7_sizes 73 (.istore 7) 2 75 := by decide +kernel
theorem d_X7_sizes_75 : Dc cX7_sizes 75 (.iload 7) 2 77 := by decide +kernel
theorem d_X7_sizes_77 : Dc cX7_sizes 77 (.bipush 10) 2 79 := by decide +kernel
theorem d_X7_sizes_79 : Dq cX7_sizes 79 (.if_icmp .ge) 131 82 := by decide +kernel
theorem d_X7_sizes_82 : Dc cX7_sizes 82 (.aload_n 0) 1 83 := by decide +kernel
theorem d_X7_sizes_83 : Dc cX7_sizes 83 (.invokevirtual 178) 3 86 := by decide +kernel
theorem d_X7_sizes_86 : Dc cX7_sizes 86 (.aload_n 0) 1 87 := by decide +kernel
theorem d_X7_sizes_87 : Dc cX7_sizes 87 (.invokevirtual 181) 3 90 := by decide +kernel
theorem d_X7_sizes_90 : Dc cX7_sizes 90 (.aload_n 0) 1 91 := by decide +kernel
theorem d_X7_sizes_91 : Dc cX7_sizes 91 (.getfield 37) 3 94 := by decide +kernel
theorem d_X7_sizes_94 : Dc cX7_sizes 94 (.bipush 18) 2 96 := by decide +kernel
theorem d_X7_sizes_96 : Dc cX7_sizes 96 (.iload_n 1) 1 97 := by decide +kernel
theorem d_X7_sizes_97 : Dc cX7_sizes 97 (.iadd) 1 98 := by decide +kernel
theorem d_X7_sizes_98 : Dc cX7_sizes 98 (.iload 7) 2 100 := by decide +kernel
theorem d_X7_sizes_100 : Dc cX7_sizes 100 (.iastore) 1 101 := by decide +kernel
theorem d_X7_sizes_101 : Dc cX7_sizes 101 (.iload 6) 2 103 := by decide +kernel
theorem d_X7_sizes_103 : Dc cX7_sizes 103 (.aload_n 0) 1 104 := by decide +kernel
theorem d_X7_sizes_104 : Dc cX7_sizes 104 (.iload_n 2) 1 105 := by decide +kernel
theorem d_X7_sizes_105 : Dc cX7_sizes 105 (.iload_n 3) 1 106 := by decide +kernel
theorem d_X7_sizes_106 : Dc cX7_sizes 106 (.iload 4) 2 108 := by decide +kernel
theorem d_X7_sizes_108 : Dc cX7_sizes 108 (.invokevirtual 244) 3 111 := by decide +kernel
theorem d_X7_sizes_111 : Dq cX7_sizes 111 (.ifCond .eq) 121 114 := by decide +kernel
theorem d_X7_sizes_114 : Dc cX7_sizes 114 (.iconst 1) 1 115 := by decide +kernel
theorem d_X7_sizes_115 : Dc cX7_sizes 115 (.iload 7) 2 117 := by decide +kernel
theorem d_X7_sizes_117 : Dc cX7_sizes 117 (.ishl) 1 118 := by decide +kernel
theorem d_X7_sizes_118 : Dq cX7_sizes 118 (.goto) 122 121 := by decide +kernel
theorem d_X7_sizes_121 : Dc cX7_sizes 121 (.iconst 0) 1 122 := by decide +kernel
theorem d_X7_sizes_122 : Dc cX7_sizes 122 (.ior) 1 123 := by decide +kernel
theorem d_X7_sizes_123 : Dc cX7_sizes 123 (.istore 6) 2 125 := by decide +kernel
theorem d_X7_sizes_125 : Dc cX7_sizes 125 (.iinc 7 1) 3 128 := by decide +kernel
theorem d_X7_sizes_128 : Dq cX7_sizes 128 (.goto) 75 131 := by decide +kernel
theorem d_X7_sizes_131 : Dc cX7_sizes 131 (.aload_n 0) 1 132 := by decide +kernel
theorem d_X7_sizes_132 : Dc cX7_sizes 132 (.iload 6) 2 134 := by decide +kernel
theorem d_X7_sizes_134 : Dc cX7_sizes 134 (.invokevirtual 83) 3 137 := by decide +kernel
theorem d_X7_sizes_137 : Dc cX7_sizes 137 (.ireturn) 1 138 := by decide +kernel
theorem d_X7_gcd_0 : Dc cX7_gcd 0 (.lload_n 0) 1 1 := by decide +kernel
theorem d_X7_gcd_1 : Dc cX7_gcd 1 (.lstore 4) 2 3 := by decide +kernel
theorem d_X7_gcd_3 : Dc cX7_gcd 3 (.lload_n 2) 1 4 := by decide +kernel
theorem d_X7_gcd_4 : Dc cX7_gcd 4 (.lstore 6) 2 6 := by decide +kernel
theorem d_X7_gcd_6 : Dc cX7_gcd 6 (.lload 6) 2 8 := by decide +kernel
theorem d_X7_gcd_8 : Dc cX7_gcd 8 (.lconst 0) 1 9 := by decide +kernel
theorem d_X7_gcd_9 : Dc cX7_gcd 9 (.lcmp) 1 10 := by decide +kernel
theorem d_X7_gcd_10 : Dq cX7_gcd 10 (.ifCond .eq) 31 13 := by decide +kernel
theorem d_X7_gcd_13 : Dc cX7_gcd 13 (.lload 4) 2 15 := by decide +kernel
theorem d_X7_gcd_15 : Dc cX7_gcd 15 (.lload 6) 2 17 := by decide +kernel
theorem d_X7_gcd_17 : Dc cX7_gcd 17 (.lrem) 1 18 := by decide +kernel
theorem d_X7_gcd_18 : Dc cX7_gcd 18 (.lstore 8) 2 20 := by decide +kernel
theorem d_X7_gcd_20 : Dc cX7_gcd 20 (.lload 6) 2 22 := by decide +kernel
theorem d_X7_gcd_22 : Dc cX7_gcd 22 (.lstore 4) 2 24 := by decide +kernel
theorem d_X7_gcd_24 : Dc cX7_gcd 24 (.lload 8) 2 26 := by decide +kernel
theorem d_X7_gcd_26 : Dc cX7_gcd 26 (.lstore 6) 2 28 := by decide +kernel
theorem d_X7_gcd_28 : Dq cX7_gcd 28 (.goto) 6 31 := by decide +kernel
theorem d_X7_gcd_31 : Dc cX7_gcd 31 (.lload 4) 2 33 := by decide +kernel
theorem d_X7_gcd_33 : Dc cX7_gcd 33 (.lreturn) 1 34 := by decide +kernel
theorem d_X7_raised_0 : Dc cX7_raised 0 (.lconst 1) 1 1 := by decide +kernel
theorem d_X7_raised_1 : Dc cX7_raised 1 (.lstore_n 3) 1 2 := by decide +kernel
theorem d_X7_raised_2 : Dc cX7_raised 2 (.iconst 0) 1 3 := by decide +kernel
theorem d_X7_raised_3 : Dc cX7_raised 3 (.istore 5) 2 5 := by decide +kernel
theorem d_X7_raised_5 : Dc cX7_raised 5 (.iload 5) 2 7 := by decide +kernel
theorem d_X7_raised_7 : Dc cX7_raised 7 (.iload_n 2) 1 8 := by decide +kernel
theorem d_X7_raised_8 : Dq cX7_raised 8 (.if_icmp .ge) 21 11 := by decide +kernel
theorem d_X7_raised_11 : Dc cX7_raised 11 (.lload_n 3) 1 12 := by decide +kernel
theorem d_X7_raised_12 : Dc cX7_raised 12 (.lload_n 0) 1 13 := by decide +kernel
theorem d_X7_raised_13 : Dc cX7_raised 13 (.lmul) 1 14 := by decide +kernel
theorem d_X7_raised_14 : Dc cX7_raised 14 (.lstore_n 3) 1 15 := by decide +kernel
theorem d_X7_raised_15 : Dc cX7_raised 15 (.iinc 5 1) 3 18 := by decide +kernel
theorem d_X7_raised_18 : Dq cX7_raised 18 (.goto) 5 21 := by decide +kernel
theorem d_X7_raised_21 : Dc cX7_raised 21 (.lload_n 3) 1 22 := by decide +kernel
theorem d_X7_raised_22 : Dc cX7_raised 22 (.lreturn) 1 23 := by decide +kernel
theorem d_X7_breaks_0 : Dc cX7_breaks 0 (.aload_n 0) 1 1 := by decide +kernel
theorem d_X7_breaks_1 : Dc cX7_breaks 1 (.iconst 0) 1 2 := by decide +kernel
theorem d_X7_breaks_2 : Dc cX7_breaks 2 (.putfield 62) 3 5 := by decide +kernel
theorem d_X7_breaks_5 : Dc cX7_breaks 5 (.aload_n 0) 1 6 := by decide +kernel
theorem d_X7_breaks_6 : Dc cX7_breaks 6 (.iload_n 1) 1 7 := by decide +kernel
theorem d_X7_breaks_7 : Dc cX7_breaks 7 (.invokevirtual 204) 3 10 := by decide +kernel
theorem d_X7_breaks_10 : Dq cX7_breaks 10 (.ifCond .eq) 43 13 := by decide +kernel
theorem d_X7_breaks_13 : Dc cX7_breaks 13 (.iload_n 2) 1 14 := by decide +kernel
theorem d_X7_breaks_14 : Dc cX7_breaks 14 (.iconst 0) 1 15 := by decide +kernel
theorem d_X7_breaks_15 : Dc cX7_breaks 15 (.bipush 60) 2 17 := by decide +kernel
theorem d_X7_breaks_17 : Dc cX7_breaks 17 (.invokestatic 70) 3 20 := by decide +kernel
theorem d_X7_breaks_20 : Dq cX7_breaks 20 (.ifCond .eq) 43 23 := by decide +kernel
theorem d_X7_breaks_23 : Dc cX7_breaks 23 (.iload_n 3) 1 24 := by decide +kernel
theorem d_X7_breaks_24 : Dc cX7_breaks 24 (.iconst 0) 1 25 := by decide +kernel
theorem d_X7_breaks_25 : Dc cX7_breaks 25 (.bipush 10) 2 27 := by decide +kernel
theorem d_X7_breaks_27 : Dc cX7_breaks 27 (.invokestatic 70) 3 30 := by decide +kernel
theorem d_X7_breaks_30 : Dq cX7_breaks 30 (.ifCond .eq) 43 33 := by decide +kernel
theorem d_X7_breaks_33 : Dc cX7_breaks 33 (.iload 4) 2 35 := by decide +kernel
theorem d_X7_breaks_35 : Dc cX7_breaks 35 (.iconst 0) 1 36 := by decide +kernel
theorem d_X7_breaks_36 : Dc cX7_breaks 36 (.iconst 1) 1 37 := by decide +kernel
theorem d_X7_breaks_37 : Dc cX7_breaks 37 (.invokestatic 70) 3 40 := by decide +kernel
theorem d_X7_breaks_40 : Dq cX7_breaks 40 (.ifCond .ne) 47 43 := by decide +kernel
theorem d_X7_breaks_43 : Dc cX7_breaks 43 (.ldc2_w 247) 3 46 := by decide +kernel
theorem d_X7_breaks_46 : Dc cX7_breaks 46 (.lreturn) 1 47 := by decide +kernel
theorem d_X7_breaks_47 : Dc cX7_breaks 47 (.aload_n 0) 1 48 := by decide +kernel
theorem d_X7_breaks_48 : Dc cX7_breaks 48 (.getfield 31) 3 51 := by decide +kernel
theorem d_X7_breaks_51 : Dc cX7_breaks 51 (.iconst 2) 1 52 := by decide +kernel
theorem d_X7_breaks_52 : Dc cX7_breaks 52 (.iaload) 1 53 := by decide +kernel
theorem d_X7_breaks_53 : Dc cX7_breaks 53 (.istore 5) 2 55 := by decide +kernel
theorem d_X7_breaks_55 : Dc cX7_breaks 55 (.lconst 0) 1 56 := by decide +kernel
theorem d_X7_breaks_56 : Dc cX7_breaks 56 (.lstore 6) 2 58 := by decide +kernel
theorem d_X7_breaks_58 : Dc cX7_breaks 58 (.iconst 0) 1 59 := by decide +kernel
theorem d_X7_breaks_59 : Dc cX7_breaks 59 (.istore 8) 2 61 := by decide +kernel
theorem d_X7_breaks_61 : Dc cX7_breaks 61 (.iload 8) 2 63 := by decide +kernel
theorem d_X7_breaks_63 : Dc cX7_breaks 63 (.iconst 1) 1 64 := by decide +kernel
theorem d_X7_breaks_64 : Dc cX7_breaks 64 (.aload_n 0) 1 65 := by decide +kernel
theorem d_X7_breaks_65 : Dc cX7_breaks 65 (.getfield 28) 3 68 := by decide +kernel
theorem d_X7_breaks_68 : Dc cX7_breaks 68 (.iconst 0) 1 69 := by decide +kernel
theorem d_X7_breaks_69 : Dc cX7_breaks 69 (.iaload) 1 70 := by decide +kernel
theorem d_X7_breaks_70 : Dc cX7_breaks 70 (.ishl) 1 71 := by decide +kernel
theorem d_X7_breaks_71 : Dq cX7_breaks 71 (.if_icmp .ge) 169 74 := by decide +kernel
theorem d_X7_breaks_74 : Dc cX7_breaks 74 (.iload 8) 2 76 := by decide +kernel
theorem d_X7_breaks_76 : Dc cX7_breaks 76 (.iload 5) 2 78 := by decide +kernel
theorem d_X7_breaks_78 : Dc cX7_breaks 78 (.iconst (-1)) 1 79 := by decide +kernel
theorem d_X7_breaks_79 : Dc cX7_breaks 79 (.ixor) 1 80 := by decide +kernel
theorem d_X7_breaks_80 : Dc cX7_breaks 80 (.iand) 1 81 := by decide +kernel
theorem d_X7_breaks_81 : Dq cX7_breaks 81 (.ifCond .ne) 163 84 := by decide +kernel
theorem d_X7_breaks_84 : Dc cX7_breaks 84 (.aload_n 0) 1 85 := by decide +kernel
theorem d_X7_breaks_85 : Dc cX7_breaks 85 (.invokevirtual 178) 3 88 := by decide +kernel
theorem d_X7_breaks_88 : Dc cX7_breaks 88 (.aload_n 0) 1 89 := by decide +kernel
theorem d_X7_breaks_89 : Dc cX7_breaks 89 (.invokevirtual 181) 3 92 := by decide +kernel
theorem d_X7_breaks_92 : Dc cX7_breaks 92 (.aload_n 0) 1 93 := by decide +kernel
theorem d_X7_breaks_93 : Dc cX7_breaks 93 (.getfield 37) 3 96 := by decide +kernel
theorem d_X7_breaks_96 : Dc cX7_breaks 96 (.iconst 2) 1 97 := by decide +kernel
theorem d_X7_breaks_97 : Dc cX7_breaks 97 (.iload 5) 2 99 := by decide +kernel
theorem d_X7_breaks_99 : Dc cX7_breaks 99 (.iload 8) 2 101 := by decide +kernel
theorem d_X7_breaks_101 : Dc cX7_breaks 101 (.iconst (-1)) 1 102 := by decide +kernel
theorem d_X7_breaks_102 : Dc cX7_breaks 102 (.ixor) 1 103 := by decide +kernel
theorem d_X7_breaks_103 : Dc cX7_breaks 103 (.iand) 1 104 := by decide +kernel
theorem d_X7_breaks_104 : Dc cX7_breaks 104 (.iastore) 1 105 := by decide +kernel
theorem d_X7_breaks_105 : Dc cX7_breaks 105 (.aload_n 0) 1 106 := by decide +kernel
theorem d_X7_breaks_106 : Dc cX7_breaks 106 (.iload_n 2) 1 107 := by decide +kernel
theorem d_X7_breaks_107 : Dc cX7_breaks 107 (.invokevirtual 184) 3 110 := by decide +kernel
theorem d_X7_breaks_110 : Dc cX7_breaks 110 (.lload 6) 2 112 := by decide +kernel
theorem d_X7_breaks_112 : Dc cX7_breaks 112 (.aload_n 0) 1 113 := by decide +kernel
theorem d_X7_breaks_113 : Dc cX7_breaks 113 (.getfield 37) 3 116 := by decide +kernel
theorem d_X7_breaks_116 : Dc cX7_breaks 116 (.bipush 30) 2 118 := by decide +kernel
theorem d_X7_breaks_118 : Dc cX7_breaks 118 (.iload_n 1) 1 119 := by decide +kernel
theorem d_X7_breaks_119 : Dc cX7_breaks 119 (.iadd) 1 120 := by decide +kernel
theorem d_X7_breaks_120 : Dc cX7_breaks 120 (.iaload) 1 121 := by decide +kernel
theorem d_X7_breaks_121 : Dc cX7_breaks 121 (.iconst 2) 1 122 := by decide +kernel
theorem d_X7_breaks_122 : Dq cX7_breaks 122 (.if_icmp .ne) 159 125 := by decide +kernel
theorem d_X7_breaks_125 : Dc cX7_breaks 125 (.iload_n 3) 1 126 := by decide +kernel
theorem d_X7_breaks_126 : Dc cX7_breaks 126 (.i2l) 1 127 := by decide +kernel
theorem d_X7_breaks_127 : Dc cX7_breaks 127 (.iload 8) 2 129 := by decide +kernel
theorem d_X7_breaks_129 : Dc cX7_breaks 129 (.invokestatic 228) 3 132 := by decide +kernel
theorem d_X7_breaks_132 : Dc cX7_breaks 132 (.invokestatic 249) 3 135 := by decide +kernel
theorem d_X7_breaks_135 : Dc cX7_breaks 135 (.ldc2_w 253) 3 138 := by decide +kernel
theorem d_X7_breaks_138 : Dc cX7_breaks 138 (.iload_n 3) 1 139 := by decide +kernel
theorem d_X7_breaks_139 : Dc cX7_breaks 139 (.i2l) 1 140 := by decide +kernel
theorem d_X7_breaks_140 : Dc cX7_breaks 140 (.lsub) 1 141 := by decide +kernel
theorem d_X7_breaks_141 : Dc cX7_breaks 141 (.iload 5) 2 143 := by decide +kernel
theorem d_X7_breaks_143 : Dc cX7_breaks 143 (.invokestatic 228) 3 146 := by decide +kernel
theorem d_X7_breaks_146 : Dc cX7_breaks 146 (.iload 8) 2 148 := by decide +kernel
theorem d_X7_breaks_148 : Dc cX7_breaks 148 (.invokestatic 228) 3 151 := by decide +kernel
theorem d_X7_breaks_151 : Dc cX7_breaks 151 (.isub) 1 152 := by decide +kernel
theorem d_X7_breaks_152 : Dc cX7_breaks 152 (.invokestatic 249) 3 155 := by decide +kernel
theorem d_X7_breaks_155 : Dc cX7_breaks 155 (.lmul) 1 156 := by decide +kernel
theorem d_X7_breaks_156 : Dq cX7_breaks 156 (.goto) 160 159 := by decide +kernel
theorem d_X7_breaks_159 : Dc cX7_breaks 159 (.lconst 0) 1 160 := by decide +kernel
theorem d_X7_breaks_160 : Dc cX7_breaks 160 (.ladd) 1 161 := by decide +kernel
theorem d_X7_breaks_161 : Dc cX7_breaks 161 (.lstore 6) 2 163 := by decide +kernel
theorem d_X7_breaks_163 : Dc cX7_breaks 163 (.iinc 8 1) 3 166 := by decide +kernel
theorem d_X7_breaks_166 : Dq cX7_breaks 166 (.goto) 61 169 := by decide +kernel
theorem d_X7_breaks_169 : Dc cX7_breaks 169 (.ldc2_w 253) 3 172 := by decide +kernel
theorem d_X7_breaks_172 : Dc cX7_breaks 172 (.iload 5) 2 174 := by decide +kernel
theorem d_X7_breaks_174 : Dc cX7_breaks 174 (.invokestatic 228) 3 177 := by decide +kernel
theorem d_X7_breaks_177 : Dc cX7_breaks 177 (.invokestatic 249) 3 180 := by decide +kernel
theorem d_X7_breaks_180 : Dc cX7_breaks 180 (.lstore 8) 2 182 := by decide +kernel
theorem d_X7_breaks_182 : Dc cX7_breaks 182 (.lload 6) 2 184 := by decide +kernel
theorem d_X7_breaks_184 : Dc cX7_breaks 184 (.lload 8) 2 186 := by decide +kernel
theorem d_X7_breaks_186 : Dc cX7_breaks 186 (.invokestatic 255) 3 189 := by decide +kernel
theorem d_X7_breaks_189 : Dc cX7_breaks 189 (.lstore 10) 2 191 := by decide +kernel
theorem d_X7_breaks_191 : Dc cX7_breaks 191 (.iload 4) 2 193 := by decide +kernel
theorem d_X7_breaks_193 : Dq cX7_breaks 193 (.ifCond .ne) 204 196 := by decide +kernel
theorem d_X7_breaks_196 : Dc cX7_breaks 196 (.lload 6) 2 198 := by decide +kernel
theorem d_X7_breaks_198 : Dc cX7_breaks 198 (.lload 10) 2 200 := by decide +kernel
theorem d_X7_breaks_200 : Dc cX7_breaks 200 (.ldiv) 1 201 := by decide +kernel
theorem d_X7_breaks_201 : Dq cX7_breaks 201 (.goto) 209 204 := by decide +kernel
theorem d_X7_breaks_204 : Dc cX7_breaks 204 (.lload 8) 2 206 := by decide +kernel
theorem d_X7_breaks_206 : Dc cX7_breaks 206 (.lload 10) 2 208 := by decide +kernel
theorem d_X7_breaks_208 : Dc cX7_breaks 208 (.ldiv) 1 209 := by decide +kernel
theorem d_X7_breaks_209 : Dc cX7_breaks 209 (.lreturn) 1 210 := by decide +kernel
theorem d_X7_drawn_0 : Dc cX7_drawn 0 (.aload_n 0) 1 1 := by decide +kernel
theorem d_X7_drawn_1 : Dc cX7_drawn 1 (.iconst 0) 1 2 := by decide +kernel
theorem d_X7_drawn_2 : Dc cX7_drawn 2 (.putfield 62) 3 5 := by decide +kernel
theorem d_X7_drawn_5 : Dc cX7_drawn 5 (.aload_n 0) 1 6 := by decide +kernel
theorem d_X7_drawn_6 : Dc cX7_drawn 6 (.invokevirtual 195) 3 9 := by decide +kernel
theorem d_X7_drawn_9 : Dq cX7_drawn 9 (.ifCond .eq) 15 12 := by decide +kernel
theorem d_X7_drawn_12 : Dc cX7_drawn 12 (.ldc 194) 2 14 := by decide +kernel
theorem d_X7_drawn_14 : Dc cX7_drawn 14 (.ireturn) 1 15 := by decide +kernel
theorem d_X7_drawn_15 : Dc cX7_drawn 15 (.iload_n 1) 1 16 := by decide +kernel
theorem d_X7_drawn_16 : Dc cX7_drawn 16 (.iconst 0) 1 17 := by decide +kernel
theorem d_X7_drawn_17 : Dc cX7_drawn 17 (.bipush 60) 2 19 := by decide +kernel
theorem d_X7_drawn_19 : Dc cX7_drawn 19 (.invokestatic 70) 3 22 := by decide +kernel
theorem d_X7_drawn_22 : Dq cX7_drawn 22 (.ifCond .eq) 45 25 := by decide +kernel
theorem d_X7_drawn_25 : Dc cX7_drawn 25 (.iload_n 2) 1 26 := by decide +kernel
theorem d_X7_drawn_26 : Dc cX7_drawn 26 (.iconst 1) 1 27 := by decide +kernel
theorem d_X7_drawn_27 : Dc cX7_drawn 27 (.ldc_w 259) 3 30 := by decide +kernel
theorem d_X7_drawn_30 : Dc cX7_drawn 30 (.invokestatic 70) 3 33 := by decide +kernel
theorem d_X7_drawn_33 : Dq cX7_drawn 33 (.ifCond .eq) 45 36 := by decide +kernel
theorem d_X7_drawn_36 : Dc cX7_drawn 36 (.iload_n 3) 1 37 := by decide +kernel
theorem d_X7_drawn_37 : Dc cX7_drawn 37 (.iconst 0) 1 38 := by decide +kernel
theorem d_X7_drawn_38 : Dc cX7_drawn 38 (.iconst 1) 1 39 := by decide +kernel
theorem d_X7_drawn_39 : Dc cX7_drawn 39 (.invokestatic 70) 3 42 := by decide +kernel
theorem d_X7_drawn_42 : Dq cX7_drawn 42 (.ifCond .ne) 48 45 := by decide +kernel
theorem d_X7_drawn_45 : Dc cX7_drawn 45 (.ldc 78) 2 47 := by decide +kernel
theorem d_X7_drawn_47 : Dc cX7_drawn 47 (.ireturn) 1 48 := by decide +kernel
theorem d_X7_drawn_48 : Dc cX7_drawn 48 (.aload_n 0) 1 49 := by decide +kernel
theorem d_X7_drawn_49 : Dc cX7_drawn 49 (.invokevirtual 178) 3 52 := by decide +kernel
theorem d_X7_drawn_52 : Dc cX7_drawn 52 (.aload_n 0) 1 53 := by decide +kernel
theorem d_X7_drawn_53 : Dc cX7_drawn 53 (.invokevirtual 181) 3 56 := by decide +kernel
theorem d_X7_drawn_56 : Dc cX7_drawn 56 (.iload_n 2) 1 57 := by decide +kernel
theorem d_X7_drawn_57 : Dc cX7_drawn 57 (.i2l) 1 58 := by decide +kernel
theorem d_X7_drawn_58 : Dc cX7_drawn 58 (.lstore 4) 2 60 := by decide +kernel
theorem d_X7_drawn_60 : Dc cX7_drawn 60 (.iconst 0) 1 61 := by decide +kernel
theorem d_X7_drawn_61 : Dc cX7_drawn 61 (.istore 6) 2 63 := by decide +kernel
theorem d_X7_drawn_63 : Dc cX7_drawn 63 (.iload 6) 2 65 := by decide +kernel
theorem d_X7_drawn_65 : Dc cX7_drawn 65 (.iload_n 1) 1 66 := by decide +kernel
theorem d_X7_drawn_66 : Dq cX7_drawn 66 (.if_icmp .ge) 236 69 := by decide +kernel
theorem d_X7_drawn_69 : Dc cX7_drawn 69 (.lload 4) 2 71 := by decide +kernel
theorem d_X7_drawn_71 : Dc cX7_drawn 71 (.ldc2_w 260) 3 74 := by decide +kernel
theorem d_X7_drawn_74 : Dc cX7_drawn 74 (.lmul) 1 75 := by decide +kernel
theorem d_X7_drawn_75 : Dc cX7_drawn 75 (.ldc2_w 262) 3 78 := by decide +kernel
theorem d_X7_drawn_78 : Dc cX7_drawn 78 (.lrem) 1 79 := by decide +kernel
theorem d_X7_drawn_79 : Dc cX7_drawn 79 (.lstore 4) 2 81 := by decide +kernel
theorem d_X7_drawn_81 : Dc cX7_drawn 81 (.lload 4) 2 83 := by decide +kernel
theorem d_X7_drawn_83 : Dc cX7_drawn 83 (.l2i) 1 84 := by decide +kernel
theorem d_X7_drawn_84 : Dc cX7_drawn 84 (.istore 7) 2 86 := by decide +kernel
theorem d_X7_drawn_86 : Dc cX7_drawn 86 (.iload 7) 2 88 := by decide +kernel
theorem d_X7_drawn_88 : Dc cX7_drawn 88 (.aload_n 0) 1 89 := by decide +kernel
theorem d_X7_drawn_89 : Dc cX7_drawn 89 (.getfield 28) 3 92 := by decide +kernel
theorem d_X7_drawn_92 : Dc cX7_drawn 92 (.iconst 1) 1 93 := by decide +kernel
theorem d_X7_drawn_93 : Dc cX7_drawn 93 (.iaload) 1 94 := by decide +kernel
theorem d_X7_drawn_94 : Dc cX7_drawn 94 (.irem) 1 95 := by decide +kernel
theorem d_X7_drawn_95 : Dc cX7_drawn 95 (.istore 8) 2 97 := by decide +kernel
theorem d_X7_drawn_97 : Dc cX7_drawn 97 (.aload_n 0) 1 98 := by decide +kernel
theorem d_X7_drawn_98 : Dc cX7_drawn 98 (.getfield 37) 3 101 := by decide +kernel
theorem d_X7_drawn_101 : Dc cX7_drawn 101 (.bipush 30) 2 103 := by decide +kernel
theorem d_X7_drawn_103 : Dc cX7_drawn 103 (.iload 8) 2 105 := by decide +kernel
theorem d_X7_drawn_105 : Dc cX7_drawn 105 (.iadd) 1 106 := by decide +kernel
theorem d_X7_drawn_106 : Dc cX7_drawn 106 (.iaload) 1 107 := by decide +kernel
theorem d_X7_drawn_107 : Dc cX7_drawn 107 (.iconst 2) 1 108 := by decide +kernel
theorem d_X7_drawn_108 : Dq cX7_drawn 108 (.if_icmp .ne) 191 111 := by decide +kernel
theorem d_X7_drawn_111 : Dc cX7_drawn 111 (.aload_n 0) 1 112 := by decide +kernel
theorem d_X7_drawn_112 : Dc cX7_drawn 112 (.getfield 37) 3 115 := by decide +kernel
theorem d_X7_drawn_115 : Dc cX7_drawn 115 (.bipush 30) 2 117 := by decide +kernel
theorem d_X7_drawn_117 : Dc cX7_drawn 117 (.iload 8) 2 119 := by decide +kernel
theorem d_X7_drawn_119 : Dc cX7_drawn 119 (.iadd) 1 120 := by decide +kernel
theorem d_X7_drawn_120 : Dc cX7_drawn 120 (.iconst 0) 1 121 := by decide +kernel
theorem d_X7_drawn_121 : Dc cX7_drawn 121 (.iastore) 1 122 := by decide +kernel
theorem d_X7_drawn_122 : Dc cX7_drawn 122 (.aload_n 0) 1 123 := by decide +kernel
theorem d_X7_drawn_123 : Dc cX7_drawn 123 (.getfield 37) 3 126 := by decide +kernel
theorem d_X7_drawn_126 : Dc cX7_drawn 126 (.bipush 18) 2 128 := by decide +kernel
theorem d_X7_drawn_128 : Dc cX7_drawn 128 (.iload 8) 2 130 := by decide +kernel
theorem d_X7_drawn_130 : Dc cX7_drawn 130 (.iadd) 1 131 := by decide +kernel
theorem d_X7_drawn_131 : Dc cX7_drawn 131 (.iload 7) 2 133 := by decide +kernel
theorem d_X7_drawn_133 : Dc cX7_drawn 133 (.bipush 9) 2 135 := by decide +kernel
theorem d_X7_drawn_135 : Dc cX7_drawn 135 (.irem) 1 136 := by decide +kernel
theorem d_X7_drawn_136 : Dc cX7_drawn 136 (.iconst 1) 1 137 := by decide +kernel
theorem d_X7_drawn_137 : Dc cX7_drawn 137 (.iadd) 1 138 := by decide +kernel
theorem d_X7_drawn_138 : Dc cX7_drawn 138 (.iastore) 1 139 := by decide +kernel
theorem d_X7_drawn_139 : Dc cX7_drawn 139 (.aload_n 0) 1 140 := by decide +kernel
theorem d_X7_drawn_140 : Dc cX7_drawn 140 (.getfield 37) 3 143 := by decide +kernel
theorem d_X7_drawn_143 : Dc cX7_drawn 143 (.iconst 0) 1 144 := by decide +kernel
theorem d_X7_drawn_144 : Dc cX7_drawn 144 (.iaload) 1 145 := by decide +kernel
theorem d_X7_drawn_145 : Dc cX7_drawn 145 (.iload 7) 2 147 := by decide +kernel
theorem d_X7_drawn_147 : Dc cX7_drawn 147 (.bipush 20) 2 149 := by decide +kernel
theorem d_X7_drawn_149 : Dc cX7_drawn 149 (.irem) 1 150 := by decide +kernel
theorem d_X7_drawn_150 : Dc cX7_drawn 150 (.iadd) 1 151 := by decide +kernel
theorem d_X7_drawn_151 : Dc cX7_drawn 151 (.istore 9) 2 153 := by decide +kernel
theorem d_X7_drawn_153 : Dc cX7_drawn 153 (.aload_n 0) 1 154 := by decide +kernel
theorem d_X7_drawn_154 : Dc cX7_drawn 154 (.getfield 37) 3 157 := by decide +kernel
theorem d_X7_drawn_157 : Dc cX7_drawn 157 (.bipush 24) 2 159 := by decide +kernel
theorem d_X7_drawn_159 : Dc cX7_drawn 159 (.iload 8) 2 161 := by decide +kernel
theorem d_X7_drawn_161 : Dc cX7_drawn 161 (.iadd) 1 162 := by decide +kernel
theorem d_X7_drawn_162 : Dc cX7_drawn 162 (.iload 9) 2 164 := by decide +kernel
theorem d_X7_drawn_164 : Dc cX7_drawn 164 (.bipush 99) 2 166 := by decide +kernel
theorem d_X7_drawn_166 : Dq cX7_drawn 166 (.if_icmp .le) 174 169 := by decide +kernel
theorem d_X7_drawn_169 : Dc cX7_drawn 169 (.bipush 99) 2 171 := by decide +kernel
theorem d_X7_drawn_171 : Dq cX7_drawn 171 (.goto) 176 174 := by decide +kernel
theorem d_X7_drawn_174 : Dc cX7_drawn 174 (.iload 9) 2 176 := by decide +kernel
theorem d_X7_drawn_176 : Dc cX7_drawn 176 (.iastore) 1 177 := by decide +kernel
theorem d_X7_drawn_177 : Dc cX7_drawn 177 (.aload_n 0) 1 178 := by decide +kernel
theorem d_X7_drawn_178 : Dc cX7_drawn 178 (.getfield 37) 3 181 := by decide +kernel
theorem d_X7_drawn_181 : Dc cX7_drawn 181 (.bipush 36) 2 183 := by decide +kernel
theorem d_X7_drawn_183 : Dc cX7_drawn 183 (.iload 8) 2 185 := by decide +kernel
theorem d_X7_drawn_185 : Dc cX7_drawn 185 (.iadd) 1 186 := by decide +kernel
theorem d_X7_drawn_186 : Dc cX7_drawn 186 (.iconst 0) 1 187 := by decide +kernel
theorem d_X7_drawn_187 : Dc cX7_drawn 187 (.iastore) 1 188 := by decide +kernel
theorem d_X7_drawn_188 : Dq cX7_drawn 188 (.goto) 218 191 := by decide +kernel
theorem d_X7_drawn_191 : Dc cX7_drawn 191 (.iload 7) 2 193 := by decide +kernel
theorem d_X7_drawn_193 : Dc cX7_drawn 193 (.iconst 3) 1 194 := by decide +kernel
theorem d_X7_drawn_194 : Dc cX7_drawn 194 (.irem) 1 195 := by decide +kernel
theorem d_X7_drawn_195 : Dq cX7_drawn 195 (.ifCond .ne) 218 198 := by decide +kernel
theorem d_X7_drawn_198 : Dc cX7_drawn 198 (.aload_n 0) 1 199 := by decide +kernel
theorem d_X7_drawn_199 : Dc cX7_drawn 199 (.getfield 37) 3 202 := by decide +kernel
theorem d_X7_drawn_202 : Dc cX7_drawn 202 (.iconst 2) 1 203 := by decide +kernel
theorem d_X7_drawn_203 : Dc cX7_drawn 203 (.dup2) 1 204 := by decide +kernel
theorem d_X7_drawn_204 : Dc cX7_drawn 204 (.iaload) 1 205 := by decide +kernel
theorem d_X7_drawn_205 : Dc cX7_drawn 205 (.iconst 1) 1 206 := by decide +kernel
theorem d_X7_drawn_206 : Dc cX7_drawn 206 (.iload 7) 2 208 := by decide +kernel
theorem d_X7_drawn_208 : Dc cX7_drawn 208 (.aload_n 0) 1 209 := by decide +kernel
theorem d_X7_drawn_209 : Dc cX7_drawn 209 (.getfield 28) 3 212 := by decide +kernel
theorem d_X7_drawn_212 : Dc cX7_drawn 212 (.iconst 0) 1 213 := by decide +kernel
theorem d_X7_drawn_213 : Dc cX7_drawn 213 (.iaload) 1 214 := by decide +kernel
theorem d_X7_drawn_214 : Dc cX7_drawn 214 (.irem) 1 215 := by decide +kernel
theorem d_X7_drawn_215 : Dc cX7_drawn 215 (.ishl) 1 216 := by decide +kernel
theorem d_X7_drawn_216 : Dc cX7_drawn 216 (.ixor) 1 217 := by decide +kernel
theorem d_X7_drawn_217 : Dc cX7_drawn 217 (.iastore) 1 218 := by decide +kernel
theorem d_X7_drawn_218 : Dc cX7_drawn 218 (.aload_n 0) 1 219 := by decide +kernel
theorem d_X7_drawn_219 : Dc cX7_drawn 219 (.aload_n 0) 1 220 := by decide +kernel
theorem d_X7_drawn_220 : Dc cX7_drawn 220 (.getfield 34) 3 223 := by decide +kernel
theorem d_X7_drawn_223 : Dc cX7_drawn 223 (.aload_n 0) 1 224 := by decide +kernel
theorem d_X7_drawn_224 : Dc cX7_drawn 224 (.getfield 37) 3 227 := by decide +kernel
theorem d_X7_drawn_227 : Dc cX7_drawn 227 (.invokevirtual 174) 3 230 := by decide +kernel
theorem d_X7_drawn_230 : Dc cX7_drawn 230 (.iinc 6 1) 3 233 := by decide +kernel
theorem d_X7_drawn_233 : Dq cX7_drawn 233 (.goto) 63 236 := by decide +kernel
theorem d_X7_drawn_236 : Dc cX7_drawn 236 (.iload_n 3) 1 237 := by decide +kernel
theorem d_X7_drawn_237 : Dq cX7_drawn 237 (.ifCond .ne) 247 240 := by decide +kernel
theorem d_X7_drawn_240 : Dc cX7_drawn 240 (.aload_n 0) 1 241 := by decide +kernel
theorem d_X7_drawn_241 : Dc cX7_drawn 241 (.getfield 155) 3 244 := by decide +kernel
theorem d_X7_drawn_244 : Dq cX7_drawn 244 (.goto) 255 247 := by decide +kernel
theorem d_X7_drawn_247 : Dc cX7_drawn 247 (.aload_n 0) 1 248 := by decide +kernel
theorem d_X7_drawn_248 : Dc cX7_drawn 248 (.aload_n 0) 1 249 := by decide +kernel
theorem d_X7_drawn_249 : Dc cX7_drawn 249 (.getfield 37) 3 252 := by decide +kernel
theorem d_X7_drawn_252 : Dc cX7_drawn 252 (.invokevirtual 215) 3 255 := by decide +kernel
theorem d_X7_drawn_255 : Dc cX7_drawn 255 (.ireturn) 1 256 := by decide +kernel
theorem d_X7_image_0 : Dc cX7_image 0 (.aload_n 0) 1 1 := by decide +kernel
theorem d_X7_image_1 : Dc cX7_image 1 (.iconst 0) 1 2 := by decide +kernel
theorem d_X7_image_2 : Dc cX7_image 2 (.putfield 62) 3 5 := by decide +kernel
theorem d_X7_image_5 : Dc cX7_image 5 (.iload_n 1) 1 6 := by decide +kernel
theorem d_X7_image_6 : Dc cX7_image 6 (.iconst 0) 1 7 := by decide +kernel
theorem d_X7_image_7 : Dc cX7_image 7 (.iconst 1) 1 8 := by decide +kernel
theorem d_X7_image_8 : Dc cX7_image 8 (.invokestatic 70) 3 11 := by decide +kernel
theorem d_X7_image_11 : Dq cX7_image 11 (.ifCond .ne) 17 14 := by decide +kernel
theorem d_X7_image_14 : Dc cX7_image 14 (.ldc 78) 2 16 := by decide +kernel
theorem d_X7_image_16 : Dc cX7_image 16 (.ireturn) 1 17 := by decide +kernel
theorem d_X7_image_17 : Dc cX7_image 17 (.aload_n 0) 1 18 := by decide +kernel
theorem d_X7_image_18 : Dc cX7_image 18 (.invokevirtual 195) 3 21 := by decide +kernel
theorem d_X7_image_21 : Dq cX7_image 21 (.ifCond .eq) 27 24 := by decide +kernel
theorem d_X7_image_24 : Dc cX7_image 24 (.ldc 194) 2 26 := by decide +kernel
theorem d_X7_image_26 : Dc cX7_image 26 (.ireturn) 1 27 := by decide +kernel
theorem d_X7_image_27 : Dc cX7_image 27 (.iconst 0) 1 28 := by decide +kernel
theorem d_X7_image_28 : Dc cX7_image 28 (.istore_n 2) 1 29 := by decide +kernel
theorem d_X7_image_29 : Dc cX7_image 29 (.iload_n 2) 1 30 := by decide +kernel
theorem d_X7_image_30 : Dc cX7_image 30 (.bipush 17) 2 32 := by decide +kernel
theorem d_X7_image_32 : Dq cX7_image 32 (.if_icmp .ge) 58 35 := by decide +kernel
theorem d_X7_image_35 : Dc cX7_image 35 (.aload_n 0) 1 36 := by decide +kernel
theorem d_X7_image_36 : Dc cX7_image 36 (.getfield 46) 3 39 := by decide +kernel
theorem d_X7_image_39 : Dc cX7_image 39 (.bipush 59) 2 41 := by decide +kernel
theorem d_X7_image_41 : Dc cX7_image 41 (.iload_n 1) 1 42 := by decide +kernel
theorem d_X7_image_42 : Dc cX7_image 42 (.imul) 1 43 := by decide +kernel
theorem d_X7_image_43 : Dc cX7_image 43 (.iload_n 2) 1 44 := by decide +kernel
theorem d_X7_image_44 : Dc cX7_image 44 (.iadd) 1 45 := by decide +kernel
theorem d_X7_image_45 : Dc cX7_image 45 (.aload_n 0) 1 46 := by decide +kernel
theorem d_X7_image_46 : Dc cX7_image 46 (.getfield 28) 3 49 := by decide +kernel
theorem d_X7_image_49 : Dc cX7_image 49 (.iload_n 2) 1 50 := by decide +kernel
theorem d_X7_image_50 : Dc cX7_image 50 (.iaload) 1 51 := by decide +kernel
theorem d_X7_image_51 : Dc cX7_image 51 (.iastore) 1 52 := by decide +kernel
theorem d_X7_image_52 : Dc cX7_image 52 (.iinc 2 1) 3 55 := by decide +kernel
theorem d_X7_image_55 : Dq cX7_image 55 (.goto) 29 58 := by decide +kernel
theorem d_X7_image_58 : Dc cX7_image 58 (.iconst 0) 1 59 := by decide +kernel
theorem d_X7_image_59 : Dc cX7_image 59 (.istore_n 2) 1 60 := by decide +kernel
theorem d_X7_image_60 : Dc cX7_image 60 (.iload_n 2) 1 61 := by decide +kernel
theorem d_X7_image_61 : Dc cX7_image 61 (.bipush 42) 2 63 := by decide +kernel
theorem d_X7_image_63 : Dq cX7_image 63 (.if_icmp .ge) 92 66 := by decide +kernel
theorem d_X7_image_66 : Dc cX7_image 66 (.aload_n 0) 1 67 := by decide +kernel
theorem d_X7_image_67 : Dc cX7_image 67 (.getfield 46) 3 70 := by decide +kernel
theorem d_X7_image_70 : Dc cX7_image 70 (.bipush 59) 2 72 := by decide +kernel
theorem d_X7_image_72 : Dc cX7_image 72 (.iload_n 1) 1 73 := by decide +kernel
theorem d_X7_image_73 : Dc cX7_image 73 (.imul) 1 74 := by decide +kernel
theorem d_X7_image_74 : Dc cX7_image 74 (.bipush 17) 2 76 := by decide +kernel
theorem d_X7_image_76 : Dc cX7_image 76 (.iadd) 1 77 := by decide +kernel
theorem d_X7_image_77 : Dc cX7_image 77 (.iload_n 2) 1 78 := by decide +kernel
theorem d_X7_image_78 : Dc cX7_image 78 (.iadd) 1 79 := by decide +kernel
theorem d_X7_image_79 : Dc cX7_image 79 (.aload_n 0) 1 80 := by decide +kernel
theorem d_X7_image_80 : Dc cX7_image 80 (.getfield 31) 3 83 := by decide +kernel
theorem d_X7_image_83 : Dc cX7_image 83 (.iload_n 2) 1 84 := by decide +kernel
theorem d_X7_image_84 : Dc cX7_image 84 (.iaload) 1 85 := by decide +kernel
theorem d_X7_image_85 : Dc cX7_image 85 (.iastore) 1 86 := by decide +kernel
theorem d_X7_image_86 : Dc cX7_image 86 (.iinc 2 1) 3 89 := by decide +kernel
theorem d_X7_image_89 : Dq cX7_image 89 (.goto) 60 92 := by decide +kernel
theorem d_X7_image_92 : Dc cX7_image 92 (.aload_n 0) 1 93 := by decide +kernel
theorem d_X7_image_93 : Dc cX7_image 93 (.getfield 49) 3 96 := by decide +kernel
theorem d_X7_image_96 : Dc cX7_image 96 (.iload_n 1) 1 97 := by decide +kernel
theorem d_X7_image_97 : Dc cX7_image 97 (.iconst 1) 1 98 := by decide +kernel
theorem d_X7_image_98 : Dc cX7_image 98 (.bastore) 1 99 := by decide +kernel
theorem d_X7_image_99 : Dc cX7_image 99 (.iconst 1) 1 100 := by decide +kernel
theorem d_X7_image_100 : Dc cX7_image 100 (.ireturn) 1 101 := by decide +kernel
theorem d_X7_restore_0 : Dc cX7_restore 0 (.aload_n 0) 1 1 := by decide +kernel
theorem d_X7_restore_1 : Dc cX7_restore 1 (.iconst 0) 1 2 := by decide +kernel
theorem d_X7_restore_2 : Dc cX7_restore 2 (.putfield 62) 3 5 := by decide +kernel
theorem d_X7_restore_5 : Dc cX7_restore 5 (.iload_n 1) 1 6 := by decide +kernel
theorem d_X7_restore_6 : Dc cX7_restore 6 (.iconst 0) 1 7 := by decide +kernel
theorem d_X7_restore_7 : Dc cX7_restore 7 (.iconst 1) 1 8 := by decide +kernel
theorem d_X7_restore_8 : Dc cX7_restore 8 (.invokestatic 70) 3 11 := by decide +kernel
theorem d_X7_restore_11 : Dq cX7_restore 11 (.ifCond .ne) 17 14 := by decide +kernel
theorem d_X7_restore_14 : Dc cX7_restore 14 (.ldc 78) 2 16 := by decide +kernel
theorem d_X7_restore_16 : Dc cX7_restore 16 (.ireturn) 1 17 := by decide +kernel
theorem d_X7_restore_17 : Dc cX7_restore 17 (.aload_n 0) 1 18 := by decide +kernel
theorem d_X7_restore_18 : Dc cX7_restore 18 (.getfield 49) 3 21 := by decide +kernel
theorem d_X7_restore_21 : Dc cX7_restore 21 (.iload_n 1) 1 22 := by decide +kernel
theorem d_X7_restore_22 : Dc cX7_restore 22 (.baload) 1 23 := by decide +kernel
theorem d_X7_restore_23 : Dq cX7_restore 23 (.ifCond .ne) 29 26 := by decide +kernel
theorem d_X7_restore_26 : Dc cX7_restore 26 (.ldc 194) 2 28 := by decide +kernel
theorem d_X7_restore_28 : Dc cX7_restore 28 (.ireturn) 1 29 := by decide +kernel
theorem d_X7_restore_29 : Dc cX7_restore 29 (.iconst 0) 1 30 := by decide +kernel
theorem d_X7_restore_30 : Dc cX7_restore 30 (.istore_n 2) 1 31 := by decide +kernel
theorem d_X7_restore_31 : Dc cX7_restore 31 (.iload_n 2) 1 32 := by decide +kernel
theorem d_X7_restore_32 : Dc cX7_restore 32 (.bipush 17) 2 34 := by decide +kernel
theorem d_X7_restore_34 : Dq cX7_restore 34 (.if_icmp .ge) 60 37 := by decide +kernel
theorem d_X7_restore_37 : Dc cX7_restore 37 (.aload_n 0) 1 38 := by decide +kernel
theorem d_X7_restore_38 : Dc cX7_restore 38 (.getfield 28) 3 41 := by decide +kernel
theorem d_X7_restore_41 : Dc cX7_restore 41 (.iload_n 2) 1 42 := by decide +kernel
theorem d_X7_restore_42 : Dc cX7_restore 42 (.aload_n 0) 1 43 := by decide +kernel
theorem d_X7_restore_43 : Dc cX7_restore 43 (.getfield 46) 3 46 := by decide +kernel
theorem d_X7_restore_46 : Dc cX7_restore 46 (.bipush 59) 2 48 := by decide +kernel
theorem d_X7_restore_48 : Dc cX7_restore 48 (.iload_n 1) 1 49 := by decide +kernel
theorem d_X7_restore_49 : Dc cX7_restore 49 (.imul) 1 50 := by decide +kernel
theorem d_X7_restore_50 : Dc cX7_restore 50 (.iload_n 2) 1 51 := by decide +kernel
theorem d_X7_restore_51 : Dc cX7_restore 51 (.iadd) 1 52 := by decide +kernel
theorem d_X7_restore_52 : Dc cX7_restore 52 (.iaload) 1 53 := by decide +kernel
theorem d_X7_restore_53 : Dc cX7_restore 53 (.iastore) 1 54 := by decide +kernel
theorem d_X7_restore_54 : Dc cX7_restore 54 (.iinc 2 1) 3 57 := by decide +kernel
theorem d_X7_restore_57 : Dq cX7_restore 57 (.goto) 31 60 := by decide +kernel
theorem d_X7_restore_60 : Dc cX7_restore 60 (.iconst 0) 1 61 := by decide +kernel
theorem d_X7_restore_61 : Dc cX7_restore 61 (.istore_n 2) 1 62 := by decide +kernel
theorem d_X7_restore_62 : Dc cX7_restore 62 (.iload_n 2) 1 63 := by decide +kernel
theorem d_X7_restore_63 : Dc cX7_restore 63 (.bipush 42) 2 65 := by decide +kernel
theorem d_X7_restore_65 : Dq cX7_restore 65 (.if_icmp .ge) 94 68 := by decide +kernel
theorem d_X7_restore_68 : Dc cX7_restore 68 (.aload_n 0) 1 69 := by decide +kernel
theorem d_X7_restore_69 : Dc cX7_restore 69 (.getfield 31) 3 72 := by decide +kernel
theorem d_X7_restore_72 : Dc cX7_restore 72 (.iload_n 2) 1 73 := by decide +kernel
theorem d_X7_restore_73 : Dc cX7_restore 73 (.aload_n 0) 1 74 := by decide +kernel
theorem d_X7_restore_74 : Dc cX7_restore 74 (.getfield 46) 3 77 := by decide +kernel
theorem d_X7_restore_77 : Dc cX7_restore 77 (.bipush 59) 2 79 := by decide +kernel
theorem d_X7_restore_79 : Dc cX7_restore 79 (.iload_n 1) 1 80 := by decide +kernel
theorem d_X7_restore_80 : Dc cX7_restore 80 (.imul) 1 81 := by decide +kernel
theorem d_X7_restore_81 : Dc cX7_restore 81 (.bipush 17) 2 83 := by decide +kernel
theorem d_X7_restore_83 : Dc cX7_restore 83 (.iadd) 1 84 := by decide +kernel
theorem d_X7_restore_84 : Dc cX7_restore 84 (.iload_n 2) 1 85 := by decide +kernel
theorem d_X7_restore_85 : Dc cX7_restore 85 (.iadd) 1 86 := by decide +kernel
theorem d_X7_restore_86 : Dc cX7_restore 86 (.iaload) 1 87 := by decide +kernel
theorem d_X7_restore_87 : Dc cX7_restore 87 (.iastore) 1 88 := by decide +kernel
theorem d_X7_restore_88 : Dc cX7_restore 88 (.iinc 2 1) 3 91 := by decide +kernel
theorem d_X7_restore_91 : Dq cX7_restore 91 (.goto) 62 94 := by decide +kernel
theorem d_X7_restore_94 : Dc cX7_restore 94 (.aload_n 0) 1 95 := by decide +kernel
theorem d_X7_restore_95 : Dc cX7_restore 95 (.iconst 0) 1 96 := by decide +kernel
theorem d_X7_restore_96 : Dc cX7_restore 96 (.putfield 149) 3 99 := by decide +kernel
theorem d_X7_restore_99 : Dc cX7_restore 99 (.iconst 1) 1 100 := by decide +kernel
theorem d_X7_restore_100 : Dc cX7_restore 100 (.ireturn) 1 101 := by decide +kernel
theorem d_X7_kind_0 : Dc cX7_kind 0 (.aload_n 0) 1 1 := by decide +kernel
theorem d_X7_kind_1 : Dc cX7_kind 1 (.iconst 0) 1 2 := by decide +kernel
theorem d_X7_kind_2 : Dc cX7_kind 2 (.putfield 62) 3 5 := by decide +kernel
theorem d_X7_kind_5 : Dc cX7_kind 5 (.aload_n 0) 1 6 := by decide +kernel
theorem d_X7_kind_6 : Dc cX7_kind 6 (.iload_n 1) 1 7 := by decide +kernel
theorem d_X7_kind_7 : Dc cX7_kind 7 (.invokevirtual 201) 3 10 := by decide +kernel
theorem d_X7_kind_10 : Dq cX7_kind 10 (.ifCond .eq) 24 13 := by decide +kernel
theorem d_X7_kind_13 : Dc cX7_kind 13 (.aload_n 0) 1 14 := by decide +kernel
theorem d_X7_kind_14 : Dc cX7_kind 14 (.getfield 28) 3 17 := by decide +kernel
theorem d_X7_kind_17 : Dc cX7_kind 17 (.iconst 2) 1 18 := by decide +kernel
theorem d_X7_kind_18 : Dc cX7_kind 18 (.iload_n 1) 1 19 := by decide +kernel
theorem d_X7_kind_19 : Dc cX7_kind 19 (.iadd) 1 20 := by decide +kernel
theorem d_X7_kind_20 : Dc cX7_kind 20 (.iaload) 1 21 := by decide +kernel
theorem d_X7_kind_21 : Dq cX7_kind 21 (.goto) 26 24 := by decide +kernel
theorem d_X7_kind_24 : Dc cX7_kind 24 (.ldc 78) 2 26 := by decide +kernel
theorem d_X7_kind_26 : Dc cX7_kind 26 (.ireturn) 1 27 := by decide +kernel
theorem d_X7_as_0 : Dc cX7_as 0 (.aload_n 0) 1 1 := by decide +kernel
theorem d_X7_as_1 : Dc cX7_as 1 (.iconst 0) 1 2 := by decide +kernel
theorem d_X7_as_2 : Dc cX7_as 2 (.putfield 62) 3 5 := by decide +kernel
theorem d_X7_as_5 : Dc cX7_as 5 (.aload_n 0) 1 6 := by decide +kernel
theorem d_X7_as_6 : Dc cX7_as 6 (.iload_n 1) 1 7 := by decide +kernel
theorem d_X7_as_7 : Dc cX7_as 7 (.invokevirtual 201) 3 10 := by decide +kernel
theorem d_X7_as_10 : Dq cX7_as 10 (.ifCond .eq) 22 13 := by decide +kernel
theorem d_X7_as_13 : Dc cX7_as 13 (.iload_n 2) 1 14 := by decide +kernel
theorem d_X7_as_14 : Dc cX7_as 14 (.iconst 0) 1 15 := by decide +kernel
theorem d_X7_as_15 : Dc cX7_as 15 (.iconst 5) 1 16 := by decide +kernel
theorem d_X7_as_16 : Dc cX7_as 16 (.invokestatic 70) 3 19 := by decide +kernel
theorem d_X7_as_19 : Dq cX7_as 19 (.ifCond .ne) 25 22 := by decide +kernel
theorem d_X7_as_22 : Dc cX7_as 22 (.ldc 78) 2 24 := by decide +kernel
theorem d_X7_as_24 : Dc cX7_as 24 (.ireturn) 1 25 := by decide +kernel
theorem d_X7_as_25 : Dc cX7_as 25 (.aload_n 0) 1 26 := by decide +kernel
theorem d_X7_as_26 : Dc cX7_as 26 (.getfield 28) 3 29 := by decide +kernel
theorem d_X7_as_29 : Dc cX7_as 29 (.iconst 2) 1 30 := by decide +kernel
theorem d_X7_as_30 : Dc cX7_as 30 (.iload_n 1) 1 31 := by decide +kernel
theorem d_X7_as_31 : Dc cX7_as 31 (.iadd) 1 32 := by decide +kernel
theorem d_X7_as_32 : Dc cX7_as 32 (.iaload) 1 33 := by decide +kernel
theorem d_X7_as_33 : Dc cX7_as 33 (.istore_n 3) 1 34 := by decide +kernel
theorem d_X7_as_34 : Dc cX7_as 34 (.iload_n 2) 1 35 := by decide +kernel
theorem d_X7_as_35 : Dq cX7_as 35 (.ifCond .eq) 67 38 := by decide +kernel
theorem d_X7_as_38 : Dc cX7_as 38 (.iload_n 2) 1 39 := by decide +kernel
theorem d_X7_as_39 : Dc cX7_as 39 (.iload_n 3) 1 40 := by decide +kernel
theorem d_X7_as_40 : Dq cX7_as 40 (.if_icmp .eq) 67 43 := by decide +kernel
theorem d_X7_as_43 : Dc cX7_as 43 (.iload_n 2) 1 44 := by decide +kernel
theorem d_X7_as_44 : Dc cX7_as 44 (.iconst 1) 1 45 := by decide +kernel
theorem d_X7_as_45 : Dq cX7_as 45 (.if_icmp .ne) 55 48 := by decide +kernel
theorem d_X7_as_48 : Dc cX7_as 48 (.iload_n 3) 1 49 := by decide +kernel
theorem d_X7_as_49 : Dc cX7_as 49 (.invokestatic 152) 3 52 := by decide +kernel
theorem d_X7_as_52 : Dq cX7_as 52 (.ifCond .ne) 67 55 := by decide +kernel
theorem d_X7_as_55 : Dc cX7_as 55 (.iload_n 2) 1 56 := by decide +kernel
theorem d_X7_as_56 : Dc cX7_as 56 (.iconst 4) 1 57 := by decide +kernel
theorem d_X7_as_57 : Dq cX7_as 57 (.if_icmp .ne) 71 60 := by decide +kernel
theorem d_X7_as_60 : Dc cX7_as 60 (.iload_n 3) 1 61 := by decide +kernel
theorem d_X7_as_61 : Dc cX7_as 61 (.invokestatic 152) 3 64 := by decide +kernel
theorem d_X7_as_64 : Dq cX7_as 64 (.ifCond .ne) 71 67 := by decide +kernel
theorem d_X7_as_67 : Dc cX7_as 67 (.iconst 1) 1 68 := by decide +kernel
theorem d_X7_as_68 : Dq cX7_as 68 (.goto) 72 71 := by decide +kernel
theorem d_X7_as_71 : Dc cX7_as 71 (.iconst 0) 1 72 := by decide +kernel
theorem d_X7_as_72 : Dc cX7_as 72 (.istore 4) 2 74 := by decide +kernel
theorem d_X7_as_74 : Dc cX7_as 74 (.iload 4) 2 76 := by decide +kernel
theorem d_X7_as_76 : Dq cX7_as 76 (.ifCond .eq) 87 79 := by decide +kernel
theorem d_X7_as_79 : Dc cX7_as 79 (.aload_n 0) 1 80 := by decide +kernel
theorem d_X7_as_80 : Dc cX7_as 80 (.iload_n 1) 1 81 := by decide +kernel
theorem d_X7_as_81 : Dc cX7_as 81 (.invokevirtual 83) 3 84 := by decide +kernel
theorem d_X7_as_84 : Dq cX7_as 84 (.goto) 92 87 := by decide +kernel
theorem d_X7_as_87 : Dc cX7_as 87 (.aload_n 0) 1 88 := by decide +kernel
theorem d_X7_as_88 : Dc cX7_as 88 (.iconst 3) 1 89 := by decide +kernel
theorem d_X7_as_89 : Dc cX7_as 89 (.invokevirtual 79) 3 92 := by decide +kernel
theorem d_X7_as_92 : Dc cX7_as 92 (.ireturn) 1 93 := by decide +kernel
theorem d_X7_leaves_0 : Dc cX7_leaves 0 (.aload_n 0) 1 1 := by decide +kernel
theorem d_X7_leaves_1 : Dc cX7_leaves 1 (.getfield 264) 3 4 := by decide +kernel
theorem d_X7_leaves_4 : Dc cX7_leaves 4 (.bipush 16) 2 6 := by decide +kernel
theorem d_X7_leaves_6 : Dq cX7_leaves 6 (.if_icmp .ge) 29 9 := by decide +kernel
theorem d_X7_leaves_9 : Dc cX7_leaves 9 (.aload_n 0) 1 10 := by decide +kernel
theorem d_X7_leaves_10 : Dc cX7_leaves 10 (.getfield 53) 3 13 := by decide +kernel
theorem d_X7_leaves_13 : Dc cX7_leaves 13 (.aload_n 0) 1 14 := by decide +kernel
theorem d_X7_leaves_14 : Dc cX7_leaves 14 (.getfield 264) 3 17 := by decide +kernel
theorem d_X7_leaves_17 : Dc cX7_leaves 17 (.iload_n 1) 1 18 := by decide +kernel
theorem d_X7_leaves_18 : Dc cX7_leaves 18 (.iastore) 1 19 := by decide +kernel
theorem d_X7_leaves_19 : Dc cX7_leaves 19 (.aload_n 0) 1 20 := by decide +kernel
theorem d_X7_leaves_20 : Dc cX7_leaves 20 (.dup) 1 21 := by decide +kernel
theorem d_X7_leaves_21 : Dc cX7_leaves 21 (.getfield 264) 3 24 := by decide +kernel
theorem d_X7_leaves_24 : Dc cX7_leaves 24 (.iconst 1) 1 25 := by decide +kernel
theorem d_X7_leaves_25 : Dc cX7_leaves 25 (.iadd) 1 26 := by decide +kernel
theorem d_X7_leaves_26 : Dc cX7_leaves 26 (.putfield 264) 3 29 := by decide +kernel
theorem d_X7_leaves_29 : Dc cX7_leaves 29 (.return_) 1 30 := by decide +kernel
theorem d_X7_lentRoom_0 : Dc cX7_lentRoom 0 (.aload_n 0) 1 1 := by decide +kernel
theorem d_X7_lentRoom_1 : Dc cX7_lentRoom 1 (.bipush 10) 2 3 := by decide +kernel
theorem d_X7_lentRoom_3 : Dc cX7_lentRoom 3 (.invokevirtual 267) 3 6 := by decide +kernel
theorem d_X7_lentRoom_6 : Dc cX7_lentRoom 6 (.aload_n 0) 1 7 := by decide +kernel
theorem d_X7_lentRoom_7 : Dc cX7_lentRoom 7 (.getfield 28) 3 10 := by decide +kernel
theorem d_X7_lentRoom_10 : Dc cX7_lentRoom 10 (.bipush 7) 2 12 := by decide +kernel
theorem d_X7_lentRoom_12 : Dc cX7_lentRoom 12 (.iload_n 1) 1 13 := by decide +kernel
theorem d_X7_lentRoom_13 : Dc cX7_lentRoom 13 (.iadd) 1 14 := by decide +kernel
theorem d_X7_lentRoom_14 : Dc cX7_lentRoom 14 (.iaload) 1 15 := by decide +kernel
theorem d_X7_lentRoom_15 : Dc cX7_lentRoom 15 (.ireturn) 1 16 := by decide +kernel
theorem d_X7_lentNumber_0 : Dc cX7_lentNumber 0 (.aload_n 0) 1 1 := by decide +kernel
theorem d_X7_lentNumber_1 : Dc cX7_lentNumber 1 (.bipush 20) 2 3 := by decide +kernel
theorem d_X7_lentNumber_3 : Dc cX7_lentNumber 3 (.invokevirtual 267) 3 6 := by decide +kernel
theorem d_X7_lentNumber_6 : Dc cX7_lentNumber 6 (.iload_n 1) 1 7 := by decide +kernel
theorem d_X7_lentNumber_7 : Dc cX7_lentNumber 7 (.ireturn) 1 8 := by decide +kernel
theorem d_X7_washerMark_0 : Dc cX7_washerMark 0 (.aload_n 0) 1 1 := by decide +kernel
theorem d_X7_washerMark_1 : Dc cX7_washerMark 1 (.getfield 28) 3 4 := by decide +kernel
theorem d_X7_washerMark_4 : Dc cX7_washerMark 4 (.iconst 2) 1 5 := by decide +kernel
theorem d_X7_washerMark_5 : Dc cX7_washerMark 5 (.iload_n 1) 1 6 := by decide +kernel
theorem d_X7_washerMark_6 : Dc cX7_washerMark 6 (.iadd) 1 7 := by decide +kernel
theorem d_X7_washerMark_7 : Dc cX7_washerMark 7 (.iaload) 1 8 := by decide +kernel
theorem d_X7_washerMark_8 : Dc cX7_washerMark 8 (.istore_n 2) 1 9 := by decide +kernel
theorem d_X7_washerMark_9 : Dc cX7_washerMark 9 (.iload_n 2) 1 10 := by decide +kernel
theorem d_X7_washerMark_10 : Dc cX7_washerMark 10 (.iconst 1) 1 11 := by decide +kernel
theorem d_X7_washerMark_11 : Dq cX7_washerMark 11 (.if_icmp .eq) 30 14 := by decide +kernel
theorem d_X7_washerMark_14 : Dc cX7_washerMark 14 (.aload_n 0) 1 15 := by decide +kernel
theorem d_X7_washerMark_15 : Dc cX7_washerMark 15 (.iload_n 2) 1 16 := by decide +kernel
theorem d_X7_washerMark_16 : Dc cX7_washerMark 16 (.iconst 2) 1 17 := by decide +kernel
theorem d_X7_washerMark_17 : Dq cX7_washerMark 17 (.if_icmp .ne) 25 20 := by decide +kernel
theorem d_X7_washerMark_20 : Dc cX7_washerMark 20 (.bipush 24) 2 22 := by decide +kernel
theorem d_X7_washerMark_22 : Dq cX7_washerMark 22 (.goto) 27 25 := by decide +kernel
theorem d_X7_washerMark_25 : Dc cX7_washerMark 25 (.bipush 22) 2 27 := by decide +kernel
theorem d_X7_washerMark_27 : Dc cX7_washerMark 27 (.invokevirtual 267) 3 30 := by decide +kernel
theorem d_X7_washerMark_30 : Dc cX7_washerMark 30 (.aload_n 0) 1 31 := by decide +kernel
theorem d_X7_washerMark_31 : Dc cX7_washerMark 31 (.bipush 21) 2 33 := by decide +kernel
theorem d_X7_washerMark_33 : Dc cX7_washerMark 33 (.invokevirtual 267) 3 36 := by decide +kernel
theorem d_X7_washerMark_36 : Dc cX7_washerMark 36 (.aload_n 0) 1 37 := by decide +kernel
theorem d_X7_washerMark_37 : Dc cX7_washerMark 37 (.iload_n 1) 1 38 := by decide +kernel
theorem d_X7_washerMark_38 : Dc cX7_washerMark 38 (.invokevirtual 270) 3 41 := by decide +kernel
theorem d_X7_washerMark_41 : Dc cX7_washerMark 41 (.aload_n 0) 1 42 := by decide +kernel
theorem d_X7_washerMark_42 : Dc cX7_washerMark 42 (.getfield 31) 3 45 := by decide +kernel
theorem d_X7_washerMark_45 : Dc cX7_washerMark 45 (.bipush 13) 2 47 := by decide +kernel
theorem d_X7_washerMark_47 : Dc cX7_washerMark 47 (.iload_n 1) 1 48 := by decide +kernel
theorem d_X7_washerMark_48 : Dc cX7_washerMark 48 (.iadd) 1 49 := by decide +kernel
theorem d_X7_washerMark_49 : Dc cX7_washerMark 49 (.iaload) 1 50 := by decide +kernel
theorem d_X7_washerMark_50 : Dc cX7_washerMark 50 (.iadd) 1 51 := by decide +kernel
theorem d_X7_washerMark_51 : Dc cX7_washerMark 51 (.istore_n 3) 1 52 := by decide +kernel
theorem d_X7_washerMark_52 : Dc cX7_washerMark 52 (.iload_n 2) 1 53 := by decide +kernel
theorem d_X7_washerMark_53 : Dc cX7_washerMark 53 (.iconst 2) 1 54 := by decide +kernel
theorem d_X7_washerMark_54 : Dq cX7_washerMark 54 (.if_icmp .ne) 63 57 := by decide +kernel
theorem d_X7_washerMark_57 : Dc cX7_washerMark 57 (.iconst 2) 1 58 := by decide +kernel
theorem d_X7_washerMark_58 : Dc cX7_washerMark 58 (.iload_n 3) 1 59 := by decide +kernel
theorem d_X7_washerMark_59 : Dc cX7_washerMark 59 (.imul) 1 60 := by decide +kernel
theorem d_X7_washerMark_60 : Dq cX7_washerMark 60 (.goto) 77 63 := by decide +kernel
theorem d_X7_washerMark_63 : Dc cX7_washerMark 63 (.iload_n 2) 1 64 := by decide +kernel
theorem d_X7_washerMark_64 : Dc cX7_washerMark 64 (.iconst 3) 1 65 := by decide +kernel
theorem d_X7_washerMark_65 : Dq cX7_washerMark 65 (.if_icmp .ne) 76 68 := by decide +kernel
theorem d_X7_washerMark_68 : Dc cX7_washerMark 68 (.iload_n 3) 1 69 := by decide +kernel
theorem d_X7_washerMark_69 : Dc cX7_washerMark 69 (.sipush 1000) 3 72 := by decide +kernel
theorem d_X7_washerMark_72 : Dc cX7_washerMark 72 (.isub) 1 73 := by decide +kernel
theorem d_X7_washerMark_73 : Dq cX7_washerMark 73 (.goto) 77 76 := by decide +kernel
theorem d_X7_washerMark_76 : Dc cX7_washerMark 76 (.iload_n 3) 1 77 := by decide +kernel
theorem d_X7_washerMark_77 : Dc cX7_washerMark 77 (.ireturn) 1 78 := by decide +kernel
theorem d_X7_washerSize_0 : Dc cX7_washerSize 0 (.aload_n 0) 1 1 := by decide +kernel
theorem d_X7_washerSize_1 : Dc cX7_washerSize 1 (.getfield 28) 3 4 := by decide +kernel
theorem d_X7_washerSize_4 : Dc cX7_washerSize 4 (.iconst 2) 1 5 := by decide +kernel
theorem d_X7_washerSize_5 : Dc cX7_washerSize 5 (.iload_n 1) 1 6 := by decide +kernel
theorem d_X7_washerSize_6 : Dc cX7_washerSize 6 (.iadd) 1 7 := by decide +kernel
theorem d_X7_washerSize_7 : Dc cX7_washerSize 7 (.iaload) 1 8 := by decide +kernel
theorem d_X7_washerSize_8 : Dc cX7_washerSize 8 (.iconst 2) 1 9 := by decide +kernel
theorem d_X7_washerSize_9 : Dq cX7_washerSize 9 (.if_icmp .ne) 16 12 := by decide +kernel
theorem d_X7_washerSize_12 : Dc cX7_washerSize 12 (.iconst 1) 1 13 := by decide +kernel
theorem d_X7_washerSize_13 : Dq cX7_washerSize 13 (.goto) 17 16 := by decide +kernel
theorem d_X7_washerSize_16 : Dc cX7_washerSize 16 (.iconst 0) 1 17 := by decide +kernel
theorem d_X7_washerSize_17 : Dc cX7_washerSize 17 (.istore_n 2) 1 18 := by decide +kernel
theorem d_X7_washerSize_18 : Dc cX7_washerSize 18 (.iload_n 2) 1 19 := by decide +kernel
theorem d_X7_washerSize_19 : Dq cX7_washerSize 19 (.ifCond .eq) 28 22 := by decide +kernel
theorem d_X7_washerSize_22 : Dc cX7_washerSize 22 (.aload_n 0) 1 23 := by decide +kernel
theorem d_X7_washerSize_23 : Dc cX7_washerSize 23 (.bipush 12) 2 25 := by decide +kernel
theorem d_X7_washerSize_25 : Dc cX7_washerSize 25 (.invokevirtual 267) 3 28 := by decide +kernel
theorem d_X7_washerSize_28 : Dc cX7_washerSize 28 (.aload_n 0) 1 29 := by decide +kernel
theorem d_X7_washerSize_29 : Dc cX7_washerSize 29 (.bipush 11) 2 31 := by decide +kernel
theorem d_X7_washerSize_31 : Dc cX7_washerSize 31 (.invokevirtual 267) 3 34 := by decide +kernel
theorem d_X7_washerSize_34 : Dc cX7_washerSize 34 (.aload_n 0) 1 35 := by decide +kernel
theorem d_X7_washerSize_35 : Dc cX7_washerSize 35 (.iload_n 1) 1 36 := by decide +kernel
theorem d_X7_washerSize_36 : Dc cX7_washerSize 36 (.invokevirtual 273) 3 39 := by decide +kernel
theorem d_X7_washerSize_39 : Dc cX7_washerSize 39 (.istore_n 3) 1 40 := by decide +kernel
theorem d_X7_washerSize_40 : Dc cX7_washerSize 40 (.iload_n 3) 1 41 := by decide +kernel
theorem d_X7_washerSize_41 : Dc cX7_washerSize 41 (.aload_n 0) 1 42 := by decide +kernel
theorem d_X7_washerSize_42 : Dc cX7_washerSize 42 (.iload_n 1) 1 43 := by decide +kernel
theorem d_X7_washerSize_43 : Dc cX7_washerSize 43 (.invokevirtual 276) 3 46 := by decide +kernel
theorem d_X7_washerSize_46 : Dc cX7_washerSize 46 (.iadd) 1 47 := by decide +kernel
theorem d_X7_washerSize_47 : Dc cX7_washerSize 47 (.istore 4) 2 49 := by decide +kernel
theorem d_X7_washerSize_49 : Dc cX7_washerSize 49 (.iload_n 2) 1 50 := by decide +kernel
theorem d_X7_washerSize_50 : Dq cX7_washerSize 50 (.ifCond .eq) 59 53 := by decide +kernel
theorem d_X7_washerSize_53 : Dc cX7_washerSize 53 (.iload 4) 2 55 := by decide +kernel
theorem d_X7_washerSize_55 : Dc cX7_washerSize 55 (.ineg) 1 56 := by decide +kernel
theorem d_X7_washerSize_56 : Dq cX7_washerSize 56 (.goto) 61 59 := by decide +kernel
theorem d_X7_washerSize_59 : Dc cX7_washerSize 59 (.iload 4) 2 61 := by decide +kernel
theorem d_X7_washerSize_61 : Dc cX7_washerSize 61 (.ireturn) 1 62 := by decide +kernel
theorem d_X7_dryerSize_0 : Dc cX7_dryerSize 0 (.aload_n 0) 1 1 := by decide +kernel
theorem d_X7_dryerSize_1 : Dc cX7_dryerSize 1 (.getfield 28) 3 4 := by decide +kernel
theorem d_X7_dryerSize_4 : Dc cX7_dryerSize 4 (.iconst 2) 1 5 := by decide +kernel
theorem d_X7_dryerSize_5 : Dc cX7_dryerSize 5 (.iload_n 1) 1 6 := by decide +kernel
theorem d_X7_dryerSize_6 : Dc cX7_dryerSize 6 (.iadd) 1 7 := by decide +kernel
theorem d_X7_dryerSize_7 : Dc cX7_dryerSize 7 (.iaload) 1 8 := by decide +kernel
theorem d_X7_dryerSize_8 : Dc cX7_dryerSize 8 (.iconst 5) 1 9 := by decide +kernel
theorem d_X7_dryerSize_9 : Dq cX7_dryerSize 9 (.if_icmp .ne) 16 12 := by decide +kernel
theorem d_X7_dryerSize_12 : Dc cX7_dryerSize 12 (.iconst 1) 1 13 := by decide +kernel
theorem d_X7_dryerSize_13 : Dq cX7_dryerSize 13 (.goto) 17 16 := by decide +kernel
theorem d_X7_dryerSize_16 : Dc cX7_dryerSize 16 (.iconst 0) 1 17 := by decide +kernel
theorem d_X7_dryerSize_17 : Dc cX7_dryerSize 17 (.istore_n 2) 1 18 := by decide +kernel
theorem d_X7_dryerSize_18 : Dc cX7_dryerSize 18 (.iload_n 2) 1 19 := by decide +kernel
theorem d_X7_dryerSize_19 : Dq cX7_dryerSize 19 (.ifCond .eq) 28 22 := by decide +kernel
theorem d_X7_dryerSize_22 : Dc cX7_dryerSize 22 (.aload_n 0) 1 23 := by decide +kernel
theorem d_X7_dryerSize_23 : Dc cX7_dryerSize 23 (.bipush 14) 2 25 := by decide +kernel
theorem d_X7_dryerSize_25 : Dc cX7_dryerSize 25 (.invokevirtual 267) 3 28 := by decide +kernel
theorem d_X7_dryerSize_28 : Dc cX7_dryerSize 28 (.aload_n 0) 1 29 := by decide +kernel
theorem d_X7_dryerSize_29 : Dc cX7_dryerSize 29 (.bipush 13) 2 31 := by decide +kernel
theorem d_X7_dryerSize_31 : Dc cX7_dryerSize 31 (.invokevirtual 267) 3 34 := by decide +kernel
theorem d_X7_dryerSize_34 : Dc cX7_dryerSize 34 (.aload_n 0) 1 35 := by decide +kernel
theorem d_X7_dryerSize_35 : Dc cX7_dryerSize 35 (.iload_n 1) 1 36 := by decide +kernel
theorem d_X7_dryerSize_36 : Dc cX7_dryerSize 36 (.invokevirtual 273) 3 39 := by decide +kernel
theorem d_X7_dryerSize_39 : Dc cX7_dryerSize 39 (.bipush 100) 2 41 := by decide +kernel
theorem d_X7_dryerSize_41 : Dc cX7_dryerSize 41 (.isub) 1 42 := by decide +kernel
theorem d_X7_dryerSize_42 : Dc cX7_dryerSize 42 (.istore_n 3) 1 43 := by decide +kernel
theorem d_X7_dryerSize_43 : Dc cX7_dryerSize 43 (.iload_n 2) 1 44 := by decide +kernel
theorem d_X7_dryerSize_44 : Dq cX7_dryerSize 44 (.ifCond .eq) 53 47 := by decide +kernel
theorem d_X7_dryerSize_47 : Dc cX7_dryerSize 47 (.iconst 2) 1 48 := by decide +kernel
theorem d_X7_dryerSize_48 : Dc cX7_dryerSize 48 (.iload_n 3) 1 49 := by decide +kernel
theorem d_X7_dryerSize_49 : Dc cX7_dryerSize 49 (.imul) 1 50 := by decide +kernel
theorem d_X7_dryerSize_50 : Dq cX7_dryerSize 50 (.goto) 54 53 := by decide +kernel
theorem d_X7_dryerSize_53 : Dc cX7_dryerSize 53 (.iload_n 3) 1 54 := by decide +kernel
theorem d_X7_dryerSize_54 : Dc cX7_dryerSize 54 (.ireturn) 1 55 := by decide +kernel
theorem d_X7_dryerMark_0 : Dc cX7_dryerMark 0 (.aload_n 0) 1 1 := by decide +kernel
theorem d_X7_dryerMark_1 : Dc cX7_dryerMark 1 (.bipush 23) 2 3 := by decide +kernel
theorem d_X7_dryerMark_3 : Dc cX7_dryerMark 3 (.invokevirtual 267) 3 6 := by decide +kernel
theorem d_X7_dryerMark_6 : Dc cX7_dryerMark 6 (.aload_n 0) 1 7 := by decide +kernel
theorem d_X7_dryerMark_7 : Dc cX7_dryerMark 7 (.iload_n 1) 1 8 := by decide +kernel
theorem d_X7_dryerMark_8 : Dc cX7_dryerMark 8 (.invokevirtual 270) 3 11 := by decide +kernel
theorem d_X7_dryerMark_11 : Dc cX7_dryerMark 11 (.istore_n 2) 1 12 := by decide +kernel
theorem d_X7_dryerMark_12 : Dc cX7_dryerMark 12 (.iload_n 2) 1 13 := by decide +kernel
theorem d_X7_dryerMark_13 : Dc cX7_dryerMark 13 (.aload_n 0) 1 14 := by decide +kernel
theorem d_X7_dryerMark_14 : Dc cX7_dryerMark 14 (.iload_n 1) 1 15 := by decide +kernel
theorem d_X7_dryerMark_15 : Dc cX7_dryerMark 15 (.invokevirtual 279) 3 18 := by decide +kernel
theorem d_X7_dryerMark_18 : Dc cX7_dryerMark 18 (.isub) 1 19 := by decide +kernel
theorem d_X7_dryerMark_19 : Dc cX7_dryerMark 19 (.ireturn) 1 20 := by decide +kernel
theorem d_X7_ask_0 : Dc cX7_ask 0 (.aload_n 0) 1 1 := by decide +kernel
theorem d_X7_ask_1 : Dc cX7_ask 1 (.iconst 0) 1 2 := by decide +kernel
theorem d_X7_ask_2 : Dc cX7_ask 2 (.putfield 62) 3 5 := by decide +kernel
theorem d_X7_ask_5 : Dc cX7_ask 5 (.aload_n 0) 1 6 := by decide +kernel
theorem d_X7_ask_6 : Dc cX7_ask 6 (.iload_n 1) 1 7 := by decide +kernel
theorem d_X7_ask_7 : Dc cX7_ask 7 (.invokevirtual 201) 3 10 := by decide +kernel
theorem d_X7_ask_10 : Dq cX7_ask 10 (.ifCond .eq) 22 13 := by decide +kernel
theorem d_X7_ask_13 : Dc cX7_ask 13 (.iload_n 2) 1 14 := by decide +kernel
theorem d_X7_ask_14 : Dc cX7_ask 14 (.iconst 0) 1 15 := by decide +kernel
theorem d_X7_ask_15 : Dc cX7_ask 15 (.iconst 1) 1 16 := by decide +kernel
theorem d_X7_ask_16 : Dc cX7_ask 16 (.invokestatic 70) 3 19 := by decide +kernel
theorem d_X7_ask_19 : Dq cX7_ask 19 (.ifCond .ne) 25 22 := by decide +kernel
theorem d_X7_ask_22 : Dc cX7_ask 22 (.ldc 78) 2 24 := by decide +kernel
theorem d_X7_ask_24 : Dc cX7_ask 24 (.ireturn) 1 25 := by decide +kernel
theorem d_X7_ask_25 : Dc cX7_ask 25 (.aload_n 0) 1 26 := by decide +kernel
theorem d_X7_ask_26 : Dc cX7_ask 26 (.iconst 0) 1 27 := by decide +kernel
theorem d_X7_ask_27 : Dc cX7_ask 27 (.putfield 264) 3 30 := by decide +kernel
theorem d_X7_ask_30 : Dc cX7_ask 30 (.aload_n 0) 1 31 := by decide +kernel
theorem d_X7_ask_31 : Dc cX7_ask 31 (.getfield 28) 3 34 := by decide +kernel
theorem d_X7_ask_34 : Dc cX7_ask 34 (.iconst 2) 1 35 := by decide +kernel
theorem d_X7_ask_35 : Dc cX7_ask 35 (.iload_n 1) 1 36 := by decide +kernel
theorem d_X7_ask_36 : Dc cX7_ask 36 (.iadd) 1 37 := by decide +kernel
theorem d_X7_ask_37 : Dc cX7_ask 37 (.iaload) 1 38 := by decide +kernel
theorem d_X7_ask_38 : Dc cX7_ask 38 (.invokestatic 152) 3 41 := by decide +kernel
theorem d_X7_ask_41 : Dc cX7_ask 41 (.istore_n 3) 1 42 := by decide +kernel
theorem d_X7_ask_42 : Dc cX7_ask 42 (.iload_n 2) 1 43 := by decide +kernel
theorem d_X7_ask_43 : Dq cX7_ask 43 (.ifCond .ne) 66 46 := by decide +kernel
theorem d_X7_ask_46 : Dc cX7_ask 46 (.iload_n 3) 1 47 := by decide +kernel
theorem d_X7_ask_47 : Dq cX7_ask 47 (.ifCond .eq) 58 50 := by decide +kernel
theorem d_X7_ask_50 : Dc cX7_ask 50 (.aload_n 0) 1 51 := by decide +kernel
theorem d_X7_ask_51 : Dc cX7_ask 51 (.iload_n 1) 1 52 := by decide +kernel
theorem d_X7_ask_52 : Dc cX7_ask 52 (.invokevirtual 282) 3 55 := by decide +kernel
theorem d_X7_ask_55 : Dq cX7_ask 55 (.goto) 83 58 := by decide +kernel
theorem d_X7_ask_58 : Dc cX7_ask 58 (.aload_n 0) 1 59 := by decide +kernel
theorem d_X7_ask_59 : Dc cX7_ask 59 (.iload_n 1) 1 60 := by decide +kernel
theorem d_X7_ask_60 : Dc cX7_ask 60 (.invokevirtual 279) 3 63 := by decide +kernel
theorem d_X7_ask_63 : Dq cX7_ask 63 (.goto) 83 66 := by decide +kernel
theorem d_X7_ask_66 : Dc cX7_ask 66 (.iload_n 3) 1 67 := by decide +kernel
theorem d_X7_ask_67 : Dq cX7_ask 67 (.ifCond .eq) 78 70 := by decide +kernel
theorem d_X7_ask_70 : Dc cX7_ask 70 (.aload_n 0) 1 71 := by decide +kernel
theorem d_X7_ask_71 : Dc cX7_ask 71 (.iload_n 1) 1 72 := by decide +kernel
theorem d_X7_ask_72 : Dc cX7_ask 72 (.invokevirtual 276) 3 75 := by decide +kernel
theorem d_X7_ask_75 : Dq cX7_ask 75 (.goto) 83 78 := by decide +kernel
theorem d_X7_ask_78 : Dc cX7_ask 78 (.aload_n 0) 1 79 := by decide +kernel
theorem d_X7_ask_79 : Dc cX7_ask 79 (.iload_n 1) 1 80 := by decide +kernel
theorem d_X7_ask_80 : Dc cX7_ask 80 (.invokevirtual 285) 3 83 := by decide +kernel
theorem d_X7_ask_83 : Dc cX7_ask 83 (.ireturn) 1 84 := by decide +kernel
theorem d_X7_trace_0 : Dc cX7_trace 0 (.aload_n 0) 1 1 := by decide +kernel
theorem d_X7_trace_1 : Dc cX7_trace 1 (.iconst 0) 1 2 := by decide +kernel
theorem d_X7_trace_2 : Dc cX7_trace 2 (.putfield 62) 3 5 := by decide +kernel
theorem d_X7_trace_5 : Dc cX7_trace 5 (.iload_n 1) 1 6 := by decide +kernel
theorem d_X7_trace_6 : Dc cX7_trace 6 (.iconst 0) 1 7 := by decide +kernel
theorem d_X7_trace_7 : Dc cX7_trace 7 (.aload_n 0) 1 8 := by decide +kernel
theorem d_X7_trace_8 : Dc cX7_trace 8 (.getfield 264) 3 11 := by decide +kernel
theorem d_X7_trace_11 : Dc cX7_trace 11 (.iconst 1) 1 12 := by decide +kernel
theorem d_X7_trace_12 : Dc cX7_trace 12 (.isub) 1 13 := by decide +kernel
theorem d_X7_trace_13 : Dc cX7_trace 13 (.invokestatic 70) 3 16 := by decide +kernel
theorem d_X7_trace_16 : Dq cX7_trace 16 (.ifCond .eq) 28 19 := by decide +kernel
theorem d_X7_trace_19 : Dc cX7_trace 19 (.aload_n 0) 1 20 := by decide +kernel
theorem d_X7_trace_20 : Dc cX7_trace 20 (.getfield 53) 3 23 := by decide +kernel
theorem d_X7_trace_23 : Dc cX7_trace 23 (.iload_n 1) 1 24 := by decide +kernel
theorem d_X7_trace_24 : Dc cX7_trace 24 (.iaload) 1 25 := by decide +kernel
theorem d_X7_trace_25 : Dq cX7_trace 25 (.goto) 30 28 := by decide +kernel
theorem d_X7_trace_28 : Dc cX7_trace 28 (.ldc 207) 2 30 := by decide +kernel
theorem d_X7_trace_30 : Dc cX7_trace 30 (.ireturn) 1 31 := by decide +kernel
theorem d_X7_rowsThere_0 : Dc cX7_rowsThere 0 (.iconst 0) 1 1 := by decide +kernel
theorem d_X7_rowsThere_1 : Dc cX7_rowsThere 1 (.istore_n 1) 1 2 := by decide +kernel
theorem d_X7_rowsThere_2 : Dc cX7_rowsThere 2 (.iconst 0) 1 3 := by decide +kernel
theorem d_X7_rowsThere_3 : Dc cX7_rowsThere 3 (.istore_n 2) 1 4 := by decide +kernel
theorem d_X7_rowsThere_4 : Dc cX7_rowsThere 4 (.iload_n 2) 1 5 := by decide +kernel
theorem d_X7_rowsThere_5 : Dc cX7_rowsThere 5 (.bipush 8) 2 7 := by decide +kernel
theorem d_X7_rowsThere_7 : Dq cX7_rowsThere 7 (.if_icmp .ge) 33 10 := by decide +kernel
theorem d_X7_rowsThere_10 : Dc cX7_rowsThere 10 (.iload_n 1) 1 11 := by decide +kernel
theorem d_X7_rowsThere_11 : Dc cX7_rowsThere 11 (.aload_n 0) 1 12 := by decide +kernel
theorem d_X7_rowsThere_12 : Dc cX7_rowsThere 12 (.getfield 16) 3 15 := by decide +kernel
theorem d_X7_rowsThere_15 : Dc cX7_rowsThere 15 (.iload_n 2) 1 16 := by decide +kernel
theorem d_X7_rowsThere_16 : Dc cX7_rowsThere 16 (.iaload) 1 17 := by decide +kernel
theorem d_X7_rowsThere_17 : Dq cX7_rowsThere 17 (.ifCond .ge) 24 20 := by decide +kernel
theorem d_X7_rowsThere_20 : Dc cX7_rowsThere 20 (.iconst 0) 1 21 := by decide +kernel
theorem d_X7_rowsThere_21 : Dq cX7_rowsThere 21 (.goto) 25 24 := by decide +kernel
theorem d_X7_rowsThere_24 : Dc cX7_rowsThere 24 (.iconst 1) 1 25 := by decide +kernel
theorem d_X7_rowsThere_25 : Dc cX7_rowsThere 25 (.iadd) 1 26 := by decide +kernel
theorem d_X7_rowsThere_26 : Dc cX7_rowsThere 26 (.istore_n 1) 1 27 := by decide +kernel
theorem d_X7_rowsThere_27 : Dc cX7_rowsThere 27 (.iinc 2 1) 3 30 := by decide +kernel
theorem d_X7_rowsThere_30 : Dq cX7_rowsThere 30 (.goto) 4 33 := by decide +kernel
theorem d_X7_rowsThere_33 : Dc cX7_rowsThere 33 (.iload_n 1) 1 34 := by decide +kernel
theorem d_X7_rowsThere_34 : Dc cX7_rowsThere 34 (.ireturn) 1 35 := by decide +kernel
theorem d_X7_count_0 : Dc cX7_count 0 (.aload_n 0) 1 1 := by decide +kernel
theorem d_X7_count_1 : Dc cX7_count 1 (.iconst 0) 1 2 := by decide +kernel
theorem d_X7_count_2 : Dc cX7_count 2 (.putfield 62) 3 5 := by decide +kernel
theorem d_X7_count_5 : Dc cX7_count 5 (.iload_n 1) 1 6 := by decide +kernel
theorem d_X7_count_6 : Dc cX7_count 6 (.iconst 0) 1 7 := by decide +kernel
theorem d_X7_count_7 : Dc cX7_count 7 (.bipush 8) 2 9 := by decide +kernel
theorem d_X7_count_9 : Dc cX7_count 9 (.invokestatic 70) 3 12 := by decide +kernel
theorem d_X7_count_12 : Dq cX7_count 12 (.ifCond .ne) 18 15 := by decide +kernel
theorem d_X7_count_15 : Dc cX7_count 15 (.ldc 78) 2 17 := by decide +kernel
theorem d_X7_count_17 : Dc cX7_count 17 (.ireturn) 1 18 := by decide +kernel
theorem d_X7_count_18 : Dc cX7_count 18 (.iload_n 1) 1 19 := by decide +kernel
theorem d_X7_count_19 : Dc cX7_count 19 (.iconst 4) 1 20 := by decide +kernel
theorem d_X7_count_20 : Dq cX7_count 20 (.if_icmp .ge) 69 23 := by decide +kernel
theorem d_X7_count_23 : Dc cX7_count 23 (.iload_n 1) 1 24 := by decide +kernel
theorem d_X7_count_24 : Dq cX7_count 24 (.ifCond .ne) 34 27 := by decide +kernel
theorem d_X7_count_27 : Dc cX7_count 27 (.aload_n 0) 1 28 := by decide +kernel
theorem d_X7_count_28 : Dc cX7_count 28 (.invokevirtual 288) 3 31 := by decide +kernel
theorem d_X7_count_31 : Dq cX7_count 31 (.goto) 68 34 := by decide +kernel
theorem d_X7_count_34 : Dc cX7_count 34 (.iload_n 1) 1 35 := by decide +kernel
theorem d_X7_count_35 : Dc cX7_count 35 (.iconst 1) 1 36 := by decide +kernel
theorem d_X7_count_36 : Dq cX7_count 36 (.if_icmp .ne) 48 39 := by decide +kernel
theorem d_X7_count_39 : Dc cX7_count 39 (.aload_n 0) 1 40 := by decide +kernel
theorem d_X7_count_40 : Dc cX7_count 40 (.getfield 28) 3 43 := by decide +kernel
theorem d_X7_count_43 : Dc cX7_count 43 (.iconst 0) 1 44 := by decide +kernel
theorem d_X7_count_44 : Dc cX7_count 44 (.iaload) 1 45 := by decide +kernel
theorem d_X7_count_45 : Dq cX7_count 45 (.goto) 68 48 := by decide +kernel
theorem d_X7_count_48 : Dc cX7_count 48 (.iload_n 1) 1 49 := by decide +kernel
theorem d_X7_count_49 : Dc cX7_count 49 (.iconst 2) 1 50 := by decide +kernel
theorem d_X7_count_50 : Dq cX7_count 50 (.if_icmp .ne) 62 53 := by decide +kernel
theorem d_X7_count_53 : Dc cX7_count 53 (.aload_n 0) 1 54 := by decide +kernel
theorem d_X7_count_54 : Dc cX7_count 54 (.getfield 28) 3 57 := by decide +kernel
theorem d_X7_count_57 : Dc cX7_count 57 (.iconst 1) 1 58 := by decide +kernel
theorem d_X7_count_58 : Dc cX7_count 58 (.iaload) 1 59 := by decide +kernel
theorem d_X7_count_59 : Dq cX7_count 59 (.goto) 68 62 := by decide +kernel
theorem d_X7_count_62 : Dc cX7_count 62 (.aload_n 0) 1 63 := by decide +kernel
theorem d_X7_count_63 : Dc cX7_count 63 (.getfield 31) 3 66 := by decide +kernel
theorem d_X7_count_66 : Dc cX7_count 66 (.iconst 0) 1 67 := by decide +kernel
theorem d_X7_count_67 : Dc cX7_count 67 (.iaload) 1 68 := by decide +kernel
theorem d_X7_count_68 : Dc cX7_count 68 (.ireturn) 1 69 := by decide +kernel
theorem d_X7_count_69 : Dc cX7_count 69 (.iload_n 1) 1 70 := by decide +kernel
theorem d_X7_count_70 : Dc cX7_count 70 (.bipush 7) 2 72 := by decide +kernel
theorem d_X7_count_72 : Dq cX7_count 72 (.if_icmp .ge) 116 75 := by decide +kernel
theorem d_X7_count_75 : Dc cX7_count 75 (.iload_n 1) 1 76 := by decide +kernel
theorem d_X7_count_76 : Dc cX7_count 76 (.iconst 4) 1 77 := by decide +kernel
theorem d_X7_count_77 : Dq cX7_count 77 (.if_icmp .ne) 95 80 := by decide +kernel
theorem d_X7_count_80 : Dc cX7_count 80 (.aload_n 0) 1 81 := by decide +kernel
theorem d_X7_count_81 : Dc cX7_count 81 (.aload_n 0) 1 82 := by decide +kernel
theorem d_X7_count_82 : Dc cX7_count 82 (.getfield 31) 3 85 := by decide +kernel
theorem d_X7_count_85 : Dc cX7_count 85 (.iconst 2) 1 86 := by decide +kernel
theorem d_X7_count_86 : Dc cX7_count 86 (.invokevirtual 191) 3 89 := by decide +kernel
theorem d_X7_count_89 : Dc cX7_count 89 (.invokestatic 228) 3 92 := by decide +kernel
theorem d_X7_count_92 : Dq cX7_count 92 (.goto) 115 95 := by decide +kernel
theorem d_X7_count_95 : Dc cX7_count 95 (.iload_n 1) 1 96 := by decide +kernel
theorem d_X7_count_96 : Dc cX7_count 96 (.iconst 5) 1 97 := by decide +kernel
theorem d_X7_count_97 : Dq cX7_count 97 (.if_icmp .ne) 107 100 := by decide +kernel
theorem d_X7_count_100 : Dc cX7_count 100 (.aload_n 0) 1 101 := by decide +kernel
theorem d_X7_count_101 : Dc cX7_count 101 (.invokevirtual 234) 3 104 := by decide +kernel
theorem d_X7_count_104 : Dq cX7_count 104 (.goto) 115 107 := by decide +kernel
theorem d_X7_count_107 : Dc cX7_count 107 (.aload_n 0) 1 108 := by decide +kernel
theorem d_X7_count_108 : Dc cX7_count 108 (.aload_n 0) 1 109 := by decide +kernel
theorem d_X7_count_109 : Dc cX7_count 109 (.getfield 31) 3 112 := by decide +kernel
theorem d_X7_count_112 : Dc cX7_count 112 (.invokevirtual 215) 3 115 := by decide +kernel
theorem d_X7_count_115 : Dc cX7_count 115 (.ireturn) 1 116 := by decide +kernel
theorem d_X7_count_116 : Dc cX7_count 116 (.iload_n 1) 1 117 := by decide +kernel
theorem d_X7_count_117 : Dc cX7_count 117 (.bipush 7) 2 119 := by decide +kernel
theorem d_X7_count_119 : Dq cX7_count 119 (.if_icmp .ne) 129 122 := by decide +kernel
theorem d_X7_count_122 : Dc cX7_count 122 (.aload_n 0) 1 123 := by decide +kernel
theorem d_X7_count_123 : Dc cX7_count 123 (.getfield 149) 3 126 := by decide +kernel
theorem d_X7_count_126 : Dq cX7_count 126 (.goto) 133 129 := by decide +kernel
theorem d_X7_count_129 : Dc cX7_count 129 (.aload_n 0) 1 130 := by decide +kernel
theorem d_X7_count_130 : Dc cX7_count 130 (.getfield 89) 3 133 := by decide +kernel
theorem d_X7_count_133 : Dc cX7_count 133 (.ireturn) 1 134 := by decide +kernel
theorem d_X7_status_0 : Dc cX7_status 0 (.aload_n 0) 1 1 := by decide +kernel
theorem d_X7_status_1 : Dc cX7_status 1 (.iconst 0) 1 2 := by decide +kernel
theorem d_X7_status_2 : Dc cX7_status 2 (.putfield 62) 3 5 := by decide +kernel
theorem d_X7_status_5 : Dc cX7_status 5 (.aload_n 0) 1 6 := by decide +kernel
theorem d_X7_status_6 : Dc cX7_status 6 (.getfield 66) 3 9 := by decide +kernel
theorem d_X7_status_9 : Dc cX7_status 9 (.ireturn) 1 10 := by decide +kernel
end
section
/-! THE HEAP OF THE LAW'S LOOP: a fixed shape, its ints by number of the cell and place -/
abbrev Hv : Type := Nat → Nat → Int32
def hallC (o : Nat) : List (Nat × List (Option Nat)) := (2, [none, none, none, none, none, some (o + 1), some (o + 2), some (o + 3), some (o + 4), some (o + 5), some (o + 6), some (o + 7), some (o + 8), some (o + 9), some (o + 10), some (o + 11)]) :: (List.replicate 6 (8, List.replicate 5 none) ++ List.replicate 5 (8, List.replicate 6 none))
def actC (n : Nat) (o : Nat) : List (Nat × List (Option Nat)) := match n with
  | 0 => []
  | n + 1 => hallC o ++ actC n (o + 12)
def arI (n : Nat) : Nat × List (Option Nat) := (8, List.replicate n none)
def SP1 : List (Nat × List (Option Nat)) :=
  [(6, [some 1, some 13, some 15, some 27, some 39, some 329, some 330, some 333, some 335, none]), (4, [some 2, some 3, some 4]), arI 8, arI 8, (11, [some 5, some 6, some 7, some 8, some 9, some 10, some 11, some 12])] ++ List.replicate 8 (arI 40) ++ [(5, [some 14, none, none, none, none, none, none]), arI 110] ++ hallC 15 ++ hallC 27
  ++ [(0, [some 40, none, none]), (10, (List.range 24).map (fun i => some (41 + 12 * i)))] ++ actC 24 41 ++ [(10, [some 336, some 348]), (3, [some 331, none, none, none, some 332]), arI 6, arI 6, (1, [some 334, none]), arI 16, arI 32] ++ hallC 336 ++ hallC 348
def SP2 : List (Nat × List (Option Nat)) :=
  [(7, [none, some 361, some 362, some 363, none, some 364, none, none, none, none, none, none, none, none, some 365, some 366, some 367, some 368, some 369, some 370, some 371, none, some 372, none, some 373, some 374, some 375, none, some 376, some 377]),
   arI 320, arI 8, arI 8, arI 110, arI 17, arI 42, arI 17, arI 42, arI 17, arI 42, arI 6, arI 1008, arI 118, (9, List.replicate 2 none), arI 16, arI 1296, arI 6]
def SP : List (Nat × List (Option Nat)) := SP1 ++ SP2
theorem SP_len : SP.length = 378 := by decide +kernel
def cn (h : Hv) (o : Nat) (sl : List (Option Nat)) : List Value := sl.mapIdx (fun j r => match r with
  | none => .int (h o j)
  | some q => .ref q)
def mk (h : Hv) : Hp := SP.mapIdx (fun i e => (e.1, cn h i e.2))
def hset (h : Hv) (o j : Nat) (v : Int32) : Hv := fun a b => if a = o ∧ b = j then v else h a b
def hcpy (h : Hv) (a b sp dp n : Nat) : Hv := fun o j => if o = b ∧ dp ≤ j ∧ j < dp + n then h a (sp + (j - dp)) else h o j
theorem mk_len (h : Hv) : (mk h).length = 378 := by
  unfold mk
  rw [List.length_mapIdx, SP_len]
theorem mk_at {h : Hv} {o t : Nat} {sl : List (Option Nat)} (ho : SP[o]? = some (t, sl)) : (mk h)[o]? = some (t, cn h o sl) := by
  unfold mk
  rw [List.getElem?_mapIdx, ho]
  rfl
theorem cn_len (h : Hv) (o : Nat) (sl : List (Option Nat)) : (cn h o sl).length = sl.length := by
  unfold cn
  rw [List.length_mapIdx]
theorem cn_int {h : Hv} {o j : Nat} {sl : List (Option Nat)} (hj : sl[j]? = some none) : (cn h o sl)[j]? = some (.int (h o j)) := by
  unfold cn
  rw [List.getElem?_mapIdx, hj]
  rfl
theorem cn_ref {h : Hv} {o j q : Nat} {sl : List (Option Nat)} (hj : sl[j]? = some (some q)) : (cn h o sl)[j]? = some (.ref q) := by
  unfold cn
  rw [List.getElem?_mapIdx, hj]
  rfl
theorem mk_set {h : Hv} {o t j : Nat} {sl : List (Option Nat)} {v : Int32} (ho : SP[o]? = some (t, sl)) (hj : sl[j]? = some none) : (mk h).set o (t, (cn h o sl).set j (.int v)) = mk (hset h o j v) := by
  have hlo : o < (mk h).length := by
    rw [mk_len, ← SP_len]
    exact (List.getElem?_eq_some_iff.mp ho).1
  have hlj : j < sl.length := (List.getElem?_eq_some_iff.mp hj).1
  apply List.ext_getElem?
  intro i
  by_cases hi : o = i
  · subst hi
    rw [List.getElem?_set_self hlo, mk_at ho]
    refine congrArg some (congrArg (Prod.mk t) ?_)
    apply List.ext_getElem?
    intro q
    by_cases hq : j = q
    · subst hq
      rw [List.getElem?_set_self (by rw [cn_len]; exact hlj), cn_int hj]
      simp [hset]
    · rw [List.getElem?_set_ne hq]
      unfold cn
      rw [List.getElem?_mapIdx, List.getElem?_mapIdx]
      congr 1
      funext r
      cases r with
      | none => simp [hset, Ne.symm hq]
      | some z => rfl
  · rw [List.getElem?_set_ne hi]
    unfold mk
    rw [List.getElem?_mapIdx, List.getElem?_mapIdx]
    congr 1
    funext e
    refine congrArg (Prod.mk e.1) ?_
    unfold cn
    congr 1
    funext q r
    cases r with
    | none => simp [hset, Ne.symm hi]
    | some z => rfl
theorem mk_cpy {h : Hv} {a b na nb sp dp n : Nat} (ha : SP[a]? = some (8, List.replicate na none)) (hb : SP[b]? = some (8, List.replicate nb none)) (h4 : sp + n ≤ na) (h5 : dp + n ≤ nb) : (mk h).set b (8, cpyV (cn h a (List.replicate na none)) (cn h b (List.replicate nb none)) sp dp n) = mk (hcpy h a b sp dp n) := by
  have hlo : b < (mk h).length := by
    rw [mk_len, ← SP_len]
    exact (List.getElem?_eq_some_iff.mp hb).1
  apply List.ext_getElem?
  intro i
  by_cases hi : b = i
  · subst hi
    rw [List.getElem?_set_self hlo, mk_at hb]
    refine congrArg some (congrArg (Prod.mk 8) ?_)
    apply List.ext_getElem?
    intro q
    by_cases hq : q < nb
    · rw [cn_int (by rw [List.getElem?_replicate, if_pos hq])]
      unfold cpyV
      rw [List.getElem?_map, List.getElem?_range (by rw [cn_len, List.length_replicate]; exact hq)]
      show some _ = _
      refine congrArg some ?_
      unfold hcpy
      dsimp only
      by_cases hc : dp ≤ q ∧ q < dp + n
      · rw [if_pos hc, if_pos ⟨rfl, hc⟩, getD_of (cn_int (h := h) (o := a) (by rw [List.getElem?_replicate, if_pos (by omega)]))]
      · rw [if_neg hc, if_neg (fun e => hc e.2), getD_of (cn_int (h := h) (o := b) (by rw [List.getElem?_replicate, if_pos hq]))]
    · rw [List.getElem?_eq_none (by rw [cpyV_len, cn_len, List.length_replicate]; omega), List.getElem?_eq_none (by rw [cn_len, List.length_replicate]; omega)]
  · rw [List.getElem?_set_ne hi]
    unfold mk
    rw [List.getElem?_mapIdx, List.getElem?_mapIdx]
    congr 1
    funext e
    refine congrArg (Prod.mk e.1) ?_
    unfold cn
    congr 1
    funext q r
    cases r with
    | none => simp [hcpy, Ne.symm hi]
    | some z => rfl
def Ph (P : Option Value → Hv → Prop) : Option Value → Hp → Prop := fun v hp => ∃ h, hp = mk h ∧ P v h
abbrev GdH (M : Meth) (d pc : Nat) (L : List (Option Value)) (st : List Value) (h : Hv) (P : Option Value → Hv → Prop) : Prop := Gd M d 0 0 pc L st (mk h) 0 0 (Ph P)
def MtH (M : Meth) (d : Nat) (As : List Value) (h : Hv) (P : Option Value → Hv → Prop) : Prop := Mt M d 0 0 As (mk h) (Ph P)
/-- a method that answers just v, and leaves h1 -/
def MtF (M : Meth) (d : Nat) (As : List Value) (h : Hv) (v : Option Value) (h1 : Hv) : Prop := MtH M d As h (fun v' h' => v' = v ∧ h' = h1)
section Rules
variable {M : Meth} {d pc pc' : Nat} {L : List (Option Value)} {st : List Value} {h : Hv} {P : Option Value → Hv → Prop}
theorem MtH.of {As : List Value} (L : List (Option Value)) (hy : plainName M.1.cls = true) (hn : Nat.ble (leA As).length M.2.2.1 = true) (hL : Le M.2.2.1 As = L) (k : GdH M d 0 L [] h P) : MtH M d As h P := Mt.of L hy hn hL k
theorem MtF.of {As : List Value} {v : Option Value} {h1 : Hv} (L : List (Option Value)) (hy : plainName M.1.cls = true) (hn : Nat.ble (leA As).length M.2.2.1 = true) (hL : Le M.2.2.1 As = L) (k : GdH M d 0 L [] h (fun v' h' => v' = v ∧ h' = h1)) : MtF M d As h v h1 := Mt.of L hy hn hL k
theorem h_getI {idx ci kf o : Nat} {fin : Bool} {ty : FieldType} {sl : List (Option Nat)} (hd : Dc M.2.1 pc (.getfield idx) 3 pc') (hf : FL M.1.cls idx ci kf fin ty) (ho : SP[o]? = some (ci, sl)) (hj : sl[kf]? = some none) (k : GdH M d pc' L (.int (h o kf) :: st) h P) : GdH M d pc L (.ref o :: st) h P := g_get hd hf (mk_at ho) (cn_int hj) k
theorem h_getR {idx ci kf o q : Nat} {fin : Bool} {ty : FieldType} {sl : List (Option Nat)} (hd : Dc M.2.1 pc (.getfield idx) 3 pc') (hf : FL M.1.cls idx ci kf fin ty) (ho : SP[o]? = some (ci, sl)) (hj : sl[kf]? = some (some q)) (k : GdH M d pc' L (.ref q :: st) h P) : GdH M d pc L (.ref o :: st) h P := g_get hd hf (mk_at ho) (cn_ref hj) k
theorem h_putI {idx ci kf o : Nat} {sl : List (Option Nat)} {v : Int32} (hd : Dc M.2.1 pc (.putfield idx) 3 pc') (hf : FL M.1.cls idx ci kf false .int) (ho : SP[o]? = some (ci, sl)) (hj : sl[kf]? = some none) (k : GdH M d pc' L st (hset h o kf v) P) : GdH M d pc L (.int v :: .ref o :: st) h P := by
  refine g_put hd hf (mk_at ho) (by rw [cn_len]; exact (List.getElem?_eq_some_iff.mp hj).1) (fun _ _ => ⟨rfl, rfl⟩) ?_
  rw [mk_set ho hj]
  exact k
theorem vp_in_lt {i : Int32} {n : Nat} (h : vp_in i n) : i.toNatClampNeg < n := Nat.not_le.mp fun q => h (Or.inr q)
theorem h_iald {o n : Nat} {i : Int32} (hd : Dc M.2.1 pc .iaload 1 pc') (ho : SP[o]? = some (8, List.replicate n none)) (hi : vp_in i n) (k : GdH M d pc' L (.int (h o i.toNatClampNeg) :: st) h P) : GdH M d pc L (.int i :: .ref o :: st) h P :=
  g_iald hd (mk_at ho) (fun q => hi (Or.inl q)) (cn_int (by rw [List.getElem?_replicate, if_pos (vp_in_lt hi)])) k
theorem h_iast {o n : Nat} {i x : Int32} (hd : Dc M.2.1 pc .iastore 1 pc') (ho : SP[o]? = some (8, List.replicate n none)) (hi : vp_in i n) (k : GdH M d pc' L st (hset h o i.toNatClampNeg x) P) : GdH M d pc L (.int x :: .int i :: .ref o :: st) h P := by
  refine g_iast hd (mk_at ho) (by rw [cn_len, List.length_replicate]; exact hi) ?_
  rw [mk_set ho (by rw [List.getElem?_replicate, if_pos (vp_in_lt hi)])]
  exact k
theorem h_zald {o n : Nat} {i : Int32} (hd : Dc M.2.1 pc .baload 1 pc') (ho : SP[o]? = some (9, List.replicate n none)) (hi : vp_in i n) (k : GdH M d pc' L (.int (h o i.toNatClampNeg) :: st) h P) : GdH M d pc L (.int i :: .ref o :: st) h P :=
  g_zald hd (mk_at ho) (fun q => hi (Or.inl q)) (cn_int (by rw [List.getElem?_replicate, if_pos (vp_in_lt hi)])) k
theorem h_zast {o n : Nat} {i x : Int32} (hd : Dc M.2.1 pc .bastore 1 pc') (ho : SP[o]? = some (9, List.replicate n none)) (hi : vp_in i n) (k : GdH M d pc' L st (hset h o i.toNatClampNeg (vp_nar .boolean x)) P) : GdH M d pc L (.int x :: .int i :: .ref o :: st) h P := by
  refine g_zast hd (mk_at ho) (by rw [cn_len, List.length_replicate]; exact hi) ?_
  rw [mk_set ho (by rw [List.getElem?_replicate, if_pos (vp_in_lt hi)])]
  exact k
theorem h_aaldH {o q : Nat} {i : Int32} {sl : List (Option Nat)} (hd : Dc M.2.1 pc .aaload 1 pc') (ho : SP[o]? = some (10, sl)) (h0 : ¬ i < 0) (hj : sl[i.toNatClampNeg]? = some (some q)) (k : GdH M d pc' L (.ref q :: st) h P) : GdH M d pc L (.int i :: .ref o :: st) h P := g_aaldH hd (mk_at ho) h0 (cn_ref hj) k
theorem h_aaldI {o q : Nat} {i : Int32} {sl : List (Option Nat)} (hd : Dc M.2.1 pc .aaload 1 pc') (ho : SP[o]? = some (11, sl)) (h0 : ¬ i < 0) (hj : sl[i.toNatClampNeg]? = some (some q)) (k : GdH M d pc' L (.ref q :: st) h P) : GdH M d pc L (.int i :: .ref o :: st) h P := g_aaldI hd (mk_at ho) h0 (cn_ref hj) k
theorem h_copy {idx a b na nb : Nat} {sp dp n : Int32} (hd : Dc M.2.1 pc (.invokestatic idx) 3 pc') (hc : ACopy M.1.cls idx) (ha : SP[a]? = some (8, List.replicate na none)) (hb : SP[b]? = some (8, List.replicate nb none)) (h1 : ¬ sp < 0) (h2 : ¬ dp < 0) (h3 : ¬ n < 0) (h4 : sp.toNatClampNeg + n.toNatClampNeg ≤ na) (h5 : dp.toNatClampNeg + n.toNatClampNeg ≤ nb) (hd1 : 1 ≤ d) (hst : (st.map fun v => v.category).sum ≤ 8)
    (k : GdH M d pc' L st (hcpy h a b sp.toNatClampNeg dp.toNatClampNeg n.toNatClampNeg) P) : GdH M d pc L (.int n :: .int dp :: .ref b :: .int sp :: .ref a :: st) h P := by
  refine g_copy hd hc (mk_at ha) (mk_at hb) h1 h2 h3 (by rw [cn_len, List.length_replicate]; exact h4) (by rw [cn_len, List.length_replicate]; exact h5) hd1 hst ?_
  rw [mk_cpy ha hb h4 h5]
  exact k
theorem h_iret {x : Int32} (hd : Dc M.2.1 pc .ireturn 1 pc') (hr : M.2.2.2 = some .int) (hP : P (some (.int x)) h) : GdH M d pc L [.int x] h P := g_iret hd hr (Nat.le_refl 0) (Nat.le_refl 0) ⟨h, rfl, hP⟩
theorem h_zret {x : Int32} (hd : Dc M.2.1 pc .ireturn 1 pc') (hr : M.2.2.2 = some .boolean) (hx : narrow .boolean (.int x) = .int x) (hP : P (some (.int x)) h) : GdH M d pc L [.int x] h P := g_zret hd hr hx (Nat.le_refl 0) (Nat.le_refl 0) ⟨h, rfl, hP⟩
theorem h_lret {x : Int64} (hd : Dc M.2.1 pc .lreturn 1 pc') (hr : M.2.2.2 = some .long) (hP : P (some (.long x)) h) : GdH M d pc L [.long x] h P := g_lret hd hr (Nat.le_refl 0) (Nat.le_refl 0) ⟨h, rfl, hP⟩
theorem h_aret {x : Nat} {n : String} (hd : Dc M.2.1 pc .areturn 1 pc') (hr : M.2.2.2 = some (.object n)) (hP : P (some (.ref x)) h) : GdH M d pc L [.ref x] h P := g_aret hd hr (Or.inl ⟨n, rfl⟩) (Nat.le_refl 0) (Nat.le_refl 0) ⟨h, rfl, hP⟩
theorem h_vret (hd : Dc M.2.1 pc .return_ 1 pc') (hr : M.2.2.2 = none) (hP : P none h) : GdH M d pc L [] h P := g_vret hd hr (Nat.le_refl 0) (Nat.le_refl 0) ⟨h, rfl, hP⟩
theorem h_callV {N : Meth} {idx n d' o ci : Nat} {As : List Value} {P' : Option Value → Hv → Prop} {q : vw_C} {sl : List (Option Nat)} (hd : Dc M.2.1 pc (.invokevirtual idx) 3 pc') (hc : CLV M.1.cls idx N n) (hN : MtH N d' (.ref o :: As) h P') (ho : SP[o]? = some (ci, sl)) (hci : ci < 8) (hq : vwCl[ci]? = some q) (hq1 : q.1 = N.1.cls) (hn : As.length = n) (hst : (st.map fun v => v.category).sum ≤ 8) (hd' : d' + 1 ≤ d)
    (k : ∀ v h', P' v h' → GdH M d pc' L (v.toList ++ st) h' P) : GdH M d pc L (As.reverse ++ .ref o :: st) h P := by
  refine g_callV hd hc hN (mk_at ho) hci hq hq1 hn hst hd' (Nat.le_refl 0) (Nat.le_refl 0) (fun v hp' hp => ?_) (fun v hp' hp => ?_)
  · obtain ⟨h', e9, -⟩ := hp
    rw [e9, mk_len, mk_len]
  · obtain ⟨h', e9, hp⟩ := hp
    rw [e9]
    exact k v h' hp
theorem h_callS {N : Meth} {idx n d' : Nat} {As : List Value} {P' : Option Value → Hv → Prop} (hd : Dc M.2.1 pc (.invokestatic idx) 3 pc') (hc : CLS M.1.cls idx N n) (hN : MtH N d' As h P') (hn : As.length = n) (hst : (st.map fun v => v.category).sum ≤ 8) (hd' : d' + 1 ≤ d)
    (k : ∀ v h', P' v h' → GdH M d pc' L (v.toList ++ st) h' P) : GdH M d pc L (As.reverse ++ st) h P := by
  refine g_callS hd hc hN hn hst hd' (Nat.le_refl 0) (Nat.le_refl 0) (fun v hp' hp => ?_) (fun v hp' hp => ?_)
  · obtain ⟨h', e9, -⟩ := hp
    rw [e9, mk_len, mk_len]
  · obtain ⟨h', e9, hp⟩ := hp
    rw [e9]
    exact k v h' hp
theorem h_V0i {N : Meth} {idx d' o ci : Nat}  {r : Int32} {h1 : Hv} {sl : List (Option Nat)} (hd : Dc M.2.1 pc (.invokevirtual idx) 3 pc') (hc : CLV M.1.cls idx N 0) (hN : MtF N d' [.ref o] h (some (.int r)) h1) (ho : SP[o]? = some (ci, sl)) (hci : ci < 8) (hq : (vwCl[ci]?).map (fun q => q.1) = some N.1.cls) (hst : (st.map fun v => v.category).sum ≤ 8) (hd' : d' + 1 ≤ d) (k : GdH M d pc' L (.int r :: st) h1 P) : GdH M d pc L (.ref o :: st) h P := by
  obtain ⟨q, hq0, hq1⟩ := Option.map_eq_some_iff.mp hq
  refine h_callV (As := []) hd hc hN ho hci hq0 hq1 rfl hst hd' ?_
  rintro v' h' ⟨rfl, rfl⟩
  exact k
theorem h_S0i {N : Meth} {idx d' : Nat}  {r : Int32} {h1 : Hv} (hd : Dc M.2.1 pc (.invokestatic idx) 3 pc') (hc : CLS M.1.cls idx N 0) (hN : MtF N d' [] h (some (.int r)) h1) (hst : (st.map fun v => v.category).sum ≤ 8) (hd' : d' + 1 ≤ d) (k : GdH M d pc' L (.int r :: st) h1 P) : GdH M d pc L (st) h P := by
  refine h_callS (As := []) hd hc hN rfl hst hd' ?_
  rintro v' h' ⟨rfl, rfl⟩
  exact k
theorem h_V0v {N : Meth} {idx d' o ci : Nat}   {h1 : Hv} {sl : List (Option Nat)} (hd : Dc M.2.1 pc (.invokevirtual idx) 3 pc') (hc : CLV M.1.cls idx N 0) (hN : MtF N d' [.ref o] h (none) h1) (ho : SP[o]? = some (ci, sl)) (hci : ci < 8) (hq : (vwCl[ci]?).map (fun q => q.1) = some N.1.cls) (hst : (st.map fun v => v.category).sum ≤ 8) (hd' : d' + 1 ≤ d) (k : GdH M d pc' L st h1 P) : GdH M d pc L (.ref o :: st) h P := by
  obtain ⟨q, hq0, hq1⟩ := Option.map_eq_some_iff.mp hq
  refine h_callV (As := []) hd hc hN ho hci hq0 hq1 rfl hst hd' ?_
  rintro v' h' ⟨rfl, rfl⟩
  exact k
theorem h_S0v {N : Meth} {idx d' : Nat}   {h1 : Hv} (hd : Dc M.2.1 pc (.invokestatic idx) 3 pc') (hc : CLS M.1.cls idx N 0) (hN : MtF N d' [] h (none) h1) (hst : (st.map fun v => v.category).sum ≤ 8) (hd' : d' + 1 ≤ d) (k : GdH M d pc' L st h1 P) : GdH M d pc L (st) h P := by
  refine h_callS (As := []) hd hc hN rfl hst hd' ?_
  rintro v' h' ⟨rfl, rfl⟩
  exact k
theorem h_V0l {N : Meth} {idx d' o ci : Nat}  {r : Int64} {h1 : Hv} {sl : List (Option Nat)} (hd : Dc M.2.1 pc (.invokevirtual idx) 3 pc') (hc : CLV M.1.cls idx N 0) (hN : MtF N d' [.ref o] h (some (.long r)) h1) (ho : SP[o]? = some (ci, sl)) (hci : ci < 8) (hq : (vwCl[ci]?).map (fun q => q.1) = some N.1.cls) (hst : (st.map fun v => v.category).sum ≤ 8) (hd' : d' + 1 ≤ d) (k : GdH M d pc' L (.long r :: st) h1 P) : GdH M d pc L (.ref o :: st) h P := by
  obtain ⟨q, hq0, hq1⟩ := Option.map_eq_some_iff.mp hq
  refine h_callV (As := []) hd hc hN ho hci hq0 hq1 rfl hst hd' ?_
  rintro v' h' ⟨rfl, rfl⟩
  exact k
theorem h_S0l {N : Meth} {idx d' : Nat}  {r : Int64} {h1 : Hv} (hd : Dc M.2.1 pc (.invokestatic idx) 3 pc') (hc : CLS M.1.cls idx N 0) (hN : MtF N d' [] h (some (.long r)) h1) (hst : (st.map fun v => v.category).sum ≤ 8) (hd' : d' + 1 ≤ d) (k : GdH M d pc' L (.long r :: st) h1 P) : GdH M d pc L (st) h P := by
  refine h_callS (As := []) hd hc hN rfl hst hd' ?_
  rintro v' h' ⟨rfl, rfl⟩
  exact k
theorem h_V0a {N : Meth} {idx d' o ci : Nat}  {r : Nat} {h1 : Hv} {sl : List (Option Nat)} (hd : Dc M.2.1 pc (.invokevirtual idx) 3 pc') (hc : CLV M.1.cls idx N 0) (hN : MtF N d' [.ref o] h (some (.ref r)) h1) (ho : SP[o]? = some (ci, sl)) (hci : ci < 8) (hq : (vwCl[ci]?).map (fun q => q.1) = some N.1.cls) (hst : (st.map fun v => v.category).sum ≤ 8) (hd' : d' + 1 ≤ d) (k : GdH M d pc' L (.ref r :: st) h1 P) : GdH M d pc L (.ref o :: st) h P := by
  obtain ⟨q, hq0, hq1⟩ := Option.map_eq_some_iff.mp hq
  refine h_callV (As := []) hd hc hN ho hci hq0 hq1 rfl hst hd' ?_
  rintro v' h' ⟨rfl, rfl⟩
  exact k
theorem h_S0a {N : Meth} {idx d' : Nat}  {r : Nat} {h1 : Hv} (hd : Dc M.2.1 pc (.invokestatic idx) 3 pc') (hc : CLS M.1.cls idx N 0) (hN : MtF N d' [] h (some (.ref r)) h1) (hst : (st.map fun v => v.category).sum ≤ 8) (hd' : d' + 1 ≤ d) (k : GdH M d pc' L (.ref r :: st) h1 P) : GdH M d pc L (st) h P := by
  refine h_callS (As := []) hd hc hN rfl hst hd' ?_
  rintro v' h' ⟨rfl, rfl⟩
  exact k
theorem h_V0P {N : Meth} {idx d' o ci : Nat}  {P' : Option Value → Hv → Prop} {sl : List (Option Nat)} (hd : Dc M.2.1 pc (.invokevirtual idx) 3 pc') (hc : CLV M.1.cls idx N 0) (hN : MtH N d' [.ref o] h P') (ho : SP[o]? = some (ci, sl)) (hci : ci < 8) (hq : (vwCl[ci]?).map (fun q => q.1) = some N.1.cls) (hst : (st.map fun v => v.category).sum ≤ 8) (hd' : d' + 1 ≤ d) (k : ∀ v h', P' v h' → GdH M d pc' L (v.toList ++ st) h' P) : GdH M d pc L (.ref o :: st) h P := by
  obtain ⟨q, hq0, hq1⟩ := Option.map_eq_some_iff.mp hq
  exact h_callV (As := []) hd hc hN ho hci hq0 hq1 rfl hst hd' k
theorem h_V1i {N : Meth} {idx d' o ci : Nat} {a0 : Value} {r : Int32} {h1 : Hv} {sl : List (Option Nat)} (hd : Dc M.2.1 pc (.invokevirtual idx) 3 pc') (hc : CLV M.1.cls idx N 1) (hN : MtF N d' [.ref o, a0] h (some (.int r)) h1) (ho : SP[o]? = some (ci, sl)) (hci : ci < 8) (hq : (vwCl[ci]?).map (fun q => q.1) = some N.1.cls) (hst : (st.map fun v => v.category).sum ≤ 8) (hd' : d' + 1 ≤ d) (k : GdH M d pc' L (.int r :: st) h1 P) : GdH M d pc L (a0 :: .ref o :: st) h P := by
  obtain ⟨q, hq0, hq1⟩ := Option.map_eq_some_iff.mp hq
  refine h_callV (As := [a0]) hd hc hN ho hci hq0 hq1 rfl hst hd' ?_
  rintro v' h' ⟨rfl, rfl⟩
  exact k
theorem h_S1i {N : Meth} {idx d' : Nat} {a0 : Value} {r : Int32} {h1 : Hv} (hd : Dc M.2.1 pc (.invokestatic idx) 3 pc') (hc : CLS M.1.cls idx N 1) (hN : MtF N d' [a0] h (some (.int r)) h1) (hst : (st.map fun v => v.category).sum ≤ 8) (hd' : d' + 1 ≤ d) (k : GdH M d pc' L (.int r :: st) h1 P) : GdH M d pc L (a0 :: st) h P := by
  refine h_callS (As := [a0]) hd hc hN rfl hst hd' ?_
  rintro v' h' ⟨rfl, rfl⟩
  exact k
theorem h_V1v {N : Meth} {idx d' o ci : Nat} {a0 : Value}  {h1 : Hv} {sl : List (Option Nat)} (hd : Dc M.2.1 pc (.invokevirtual idx) 3 pc') (hc : CLV M.1.cls idx N 1) (hN : MtF N d' [.ref o, a0] h (none) h1) (ho : SP[o]? = some (ci, sl)) (hci : ci < 8) (hq : (vwCl[ci]?).map (fun q => q.1) = some N.1.cls) (hst : (st.map fun v => v.category).sum ≤ 8) (hd' : d' + 1 ≤ d) (k : GdH M d pc' L st h1 P) : GdH M d pc L (a0 :: .ref o :: st) h P := by
  obtain ⟨q, hq0, hq1⟩ := Option.map_eq_some_iff.mp hq
  refine h_callV (As := [a0]) hd hc hN ho hci hq0 hq1 rfl hst hd' ?_
  rintro v' h' ⟨rfl, rfl⟩
  exact k
theorem h_S1v {N : Meth} {idx d' : Nat} {a0 : Value}  {h1 : Hv} (hd : Dc M.2.1 pc (.invokestatic idx) 3 pc') (hc : CLS M.1.cls idx N 1) (hN : MtF N d' [a0] h (none) h1) (hst : (st.map fun v => v.category).sum ≤ 8) (hd' : d' + 1 ≤ d) (k : GdH M d pc' L st h1 P) : GdH M d pc L (a0 :: st) h P := by
  refine h_callS (As := [a0]) hd hc hN rfl hst hd' ?_
  rintro v' h' ⟨rfl, rfl⟩
  exact k
theorem h_V1l {N : Meth} {idx d' o ci : Nat} {a0 : Value} {r : Int64} {h1 : Hv} {sl : List (Option Nat)} (hd : Dc M.2.1 pc (.invokevirtual idx) 3 pc') (hc : CLV M.1.cls idx N 1) (hN : MtF N d' [.ref o, a0] h (some (.long r)) h1) (ho : SP[o]? = some (ci, sl)) (hci : ci < 8) (hq : (vwCl[ci]?).map (fun q => q.1) = some N.1.cls) (hst : (st.map fun v => v.category).sum ≤ 8) (hd' : d' + 1 ≤ d) (k : GdH M d pc' L (.long r :: st) h1 P) : GdH M d pc L (a0 :: .ref o :: st) h P := by
  obtain ⟨q, hq0, hq1⟩ := Option.map_eq_some_iff.mp hq
  refine h_callV (As := [a0]) hd hc hN ho hci hq0 hq1 rfl hst hd' ?_
  rintro v' h' ⟨rfl, rfl⟩
  exact k
theorem h_S1l {N : Meth} {idx d' : Nat} {a0 : Value} {r : Int64} {h1 : Hv} (hd : Dc M.2.1 pc (.invokestatic idx) 3 pc') (hc : CLS M.1.cls idx N 1) (hN : MtF N d' [a0] h (some (.long r)) h1) (hst : (st.map fun v => v.category).sum ≤ 8) (hd' : d' + 1 ≤ d) (k : GdH M d pc' L (.long r :: st) h1 P) : GdH M d pc L (a0 :: st) h P := by
  refine h_callS (As := [a0]) hd hc hN rfl hst hd' ?_
  rintro v' h' ⟨rfl, rfl⟩
  exact k
theorem h_V1a {N : Meth} {idx d' o ci : Nat} {a0 : Value} {r : Nat} {h1 : Hv} {sl : List (Option Nat)} (hd : Dc M.2.1 pc (.invokevirtual idx) 3 pc') (hc : CLV M.1.cls idx N 1) (hN : MtF N d' [.ref o, a0] h (some (.ref r)) h1) (ho : SP[o]? = some (ci, sl)) (hci : ci < 8) (hq : (vwCl[ci]?).map (fun q => q.1) = some N.1.cls) (hst : (st.map fun v => v.category).sum ≤ 8) (hd' : d' + 1 ≤ d) (k : GdH M d pc' L (.ref r :: st) h1 P) : GdH M d pc L (a0 :: .ref o :: st) h P := by
  obtain ⟨q, hq0, hq1⟩ := Option.map_eq_some_iff.mp hq
  refine h_callV (As := [a0]) hd hc hN ho hci hq0 hq1 rfl hst hd' ?_
  rintro v' h' ⟨rfl, rfl⟩
  exact k
theorem h_S1a {N : Meth} {idx d' : Nat} {a0 : Value} {r : Nat} {h1 : Hv} (hd : Dc M.2.1 pc (.invokestatic idx) 3 pc') (hc : CLS M.1.cls idx N 1) (hN : MtF N d' [a0] h (some (.ref r)) h1) (hst : (st.map fun v => v.category).sum ≤ 8) (hd' : d' + 1 ≤ d) (k : GdH M d pc' L (.ref r :: st) h1 P) : GdH M d pc L (a0 :: st) h P := by
  refine h_callS (As := [a0]) hd hc hN rfl hst hd' ?_
  rintro v' h' ⟨rfl, rfl⟩
  exact k
theorem h_V1P {N : Meth} {idx d' o ci : Nat} {a0 : Value} {P' : Option Value → Hv → Prop} {sl : List (Option Nat)} (hd : Dc M.2.1 pc (.invokevirtual idx) 3 pc') (hc : CLV M.1.cls idx N 1) (hN : MtH N d' [.ref o, a0] h P') (ho : SP[o]? = some (ci, sl)) (hci : ci < 8) (hq : (vwCl[ci]?).map (fun q => q.1) = some N.1.cls) (hst : (st.map fun v => v.category).sum ≤ 8) (hd' : d' + 1 ≤ d) (k : ∀ v h', P' v h' → GdH M d pc' L (v.toList ++ st) h' P) : GdH M d pc L (a0 :: .ref o :: st) h P := by
  obtain ⟨q, hq0, hq1⟩ := Option.map_eq_some_iff.mp hq
  exact h_callV (As := [a0]) hd hc hN ho hci hq0 hq1 rfl hst hd' k
theorem h_V2i {N : Meth} {idx d' o ci : Nat} {a0 a1 : Value} {r : Int32} {h1 : Hv} {sl : List (Option Nat)} (hd : Dc M.2.1 pc (.invokevirtual idx) 3 pc') (hc : CLV M.1.cls idx N 2) (hN : MtF N d' [.ref o, a0, a1] h (some (.int r)) h1) (ho : SP[o]? = some (ci, sl)) (hci : ci < 8) (hq : (vwCl[ci]?).map (fun q => q.1) = some N.1.cls) (hst : (st.map fun v => v.category).sum ≤ 8) (hd' : d' + 1 ≤ d) (k : GdH M d pc' L (.int r :: st) h1 P) : GdH M d pc L (a1 :: a0 :: .ref o :: st) h P := by
  obtain ⟨q, hq0, hq1⟩ := Option.map_eq_some_iff.mp hq
  refine h_callV (As := [a0, a1]) hd hc hN ho hci hq0 hq1 rfl hst hd' ?_
  rintro v' h' ⟨rfl, rfl⟩
  exact k
theorem h_S2i {N : Meth} {idx d' : Nat} {a0 a1 : Value} {r : Int32} {h1 : Hv} (hd : Dc M.2.1 pc (.invokestatic idx) 3 pc') (hc : CLS M.1.cls idx N 2) (hN : MtF N d' [a0, a1] h (some (.int r)) h1) (hst : (st.map fun v => v.category).sum ≤ 8) (hd' : d' + 1 ≤ d) (k : GdH M d pc' L (.int r :: st) h1 P) : GdH M d pc L (a1 :: a0 :: st) h P := by
  refine h_callS (As := [a0, a1]) hd hc hN rfl hst hd' ?_
  rintro v' h' ⟨rfl, rfl⟩
  exact k
theorem h_V2v {N : Meth} {idx d' o ci : Nat} {a0 a1 : Value}  {h1 : Hv} {sl : List (Option Nat)} (hd : Dc M.2.1 pc (.invokevirtual idx) 3 pc') (hc : CLV M.1.cls idx N 2) (hN : MtF N d' [.ref o, a0, a1] h (none) h1) (ho : SP[o]? = some (ci, sl)) (hci : ci < 8) (hq : (vwCl[ci]?).map (fun q => q.1) = some N.1.cls) (hst : (st.map fun v => v.category).sum ≤ 8) (hd' : d' + 1 ≤ d) (k : GdH M d pc' L st h1 P) : GdH M d pc L (a1 :: a0 :: .ref o :: st) h P := by
  obtain ⟨q, hq0, hq1⟩ := Option.map_eq_some_iff.mp hq
  refine h_callV (As := [a0, a1]) hd hc hN ho hci hq0 hq1 rfl hst hd' ?_
  rintro v' h' ⟨rfl, rfl⟩
  exact k
theorem h_S2v {N : Meth} {idx d' : Nat} {a0 a1 : Value}  {h1 : Hv} (hd : Dc M.2.1 pc (.invokestatic idx) 3 pc') (hc : CLS M.1.cls idx N 2) (hN : MtF N d' [a0, a1] h (none) h1) (hst : (st.map fun v => v.category).sum ≤ 8) (hd' : d' + 1 ≤ d) (k : GdH M d pc' L st h1 P) : GdH M d pc L (a1 :: a0 :: st) h P := by
  refine h_callS (As := [a0, a1]) hd hc hN rfl hst hd' ?_
  rintro v' h' ⟨rfl, rfl⟩
  exact k
theorem h_V2l {N : Meth} {idx d' o ci : Nat} {a0 a1 : Value} {r : Int64} {h1 : Hv} {sl : List (Option Nat)} (hd : Dc M.2.1 pc (.invokevirtual idx) 3 pc') (hc : CLV M.1.cls idx N 2) (hN : MtF N d' [.ref o, a0, a1] h (some (.long r)) h1) (ho : SP[o]? = some (ci, sl)) (hci : ci < 8) (hq : (vwCl[ci]?).map (fun q => q.1) = some N.1.cls) (hst : (st.map fun v => v.category).sum ≤ 8) (hd' : d' + 1 ≤ d) (k : GdH M d pc' L (.long r :: st) h1 P) : GdH M d pc L (a1 :: a0 :: .ref o :: st) h P := by
  obtain ⟨q, hq0, hq1⟩ := Option.map_eq_some_iff.mp hq
  refine h_callV (As := [a0, a1]) hd hc hN ho hci hq0 hq1 rfl hst hd' ?_
  rintro v' h' ⟨rfl, rfl⟩
  exact k
theorem h_S2l {N : Meth} {idx d' : Nat} {a0 a1 : Value} {r : Int64} {h1 : Hv} (hd : Dc M.2.1 pc (.invokestatic idx) 3 pc') (hc : CLS M.1.cls idx N 2) (hN : MtF N d' [a0, a1] h (some (.long r)) h1) (hst : (st.map fun v => v.category).sum ≤ 8) (hd' : d' + 1 ≤ d) (k : GdH M d pc' L (.long r :: st) h1 P) : GdH M d pc L (a1 :: a0 :: st) h P := by
  refine h_callS (As := [a0, a1]) hd hc hN rfl hst hd' ?_
  rintro v' h' ⟨rfl, rfl⟩
  exact k
theorem h_V2a {N : Meth} {idx d' o ci : Nat} {a0 a1 : Value} {r : Nat} {h1 : Hv} {sl : List (Option Nat)} (hd : Dc M.2.1 pc (.invokevirtual idx) 3 pc') (hc : CLV M.1.cls idx N 2) (hN : MtF N d' [.ref o, a0, a1] h (some (.ref r)) h1) (ho : SP[o]? = some (ci, sl)) (hci : ci < 8) (hq : (vwCl[ci]?).map (fun q => q.1) = some N.1.cls) (hst : (st.map fun v => v.category).sum ≤ 8) (hd' : d' + 1 ≤ d) (k : GdH M d pc' L (.ref r :: st) h1 P) : GdH M d pc L (a1 :: a0 :: .ref o :: st) h P := by
  obtain ⟨q, hq0, hq1⟩ := Option.map_eq_some_iff.mp hq
  refine h_callV (As := [a0, a1]) hd hc hN ho hci hq0 hq1 rfl hst hd' ?_
  rintro v' h' ⟨rfl, rfl⟩
  exact k
theorem h_S2a {N : Meth} {idx d' : Nat} {a0 a1 : Value} {r : Nat} {h1 : Hv} (hd : Dc M.2.1 pc (.invokestatic idx) 3 pc') (hc : CLS M.1.cls idx N 2) (hN : MtF N d' [a0, a1] h (some (.ref r)) h1) (hst : (st.map fun v => v.category).sum ≤ 8) (hd' : d' + 1 ≤ d) (k : GdH M d pc' L (.ref r :: st) h1 P) : GdH M d pc L (a1 :: a0 :: st) h P := by
  refine h_callS (As := [a0, a1]) hd hc hN rfl hst hd' ?_
  rintro v' h' ⟨rfl, rfl⟩
  exact k
theorem h_V2P {N : Meth} {idx d' o ci : Nat} {a0 a1 : Value} {P' : Option Value → Hv → Prop} {sl : List (Option Nat)} (hd : Dc M.2.1 pc (.invokevirtual idx) 3 pc') (hc : CLV M.1.cls idx N 2) (hN : MtH N d' [.ref o, a0, a1] h P') (ho : SP[o]? = some (ci, sl)) (hci : ci < 8) (hq : (vwCl[ci]?).map (fun q => q.1) = some N.1.cls) (hst : (st.map fun v => v.category).sum ≤ 8) (hd' : d' + 1 ≤ d) (k : ∀ v h', P' v h' → GdH M d pc' L (v.toList ++ st) h' P) : GdH M d pc L (a1 :: a0 :: .ref o :: st) h P := by
  obtain ⟨q, hq0, hq1⟩ := Option.map_eq_some_iff.mp hq
  exact h_callV (As := [a0, a1]) hd hc hN ho hci hq0 hq1 rfl hst hd' k
theorem h_V3i {N : Meth} {idx d' o ci : Nat} {a0 a1 a2 : Value} {r : Int32} {h1 : Hv} {sl : List (Option Nat)} (hd : Dc M.2.1 pc (.invokevirtual idx) 3 pc') (hc : CLV M.1.cls idx N 3) (hN : MtF N d' [.ref o, a0, a1, a2] h (some (.int r)) h1) (ho : SP[o]? = some (ci, sl)) (hci : ci < 8) (hq : (vwCl[ci]?).map (fun q => q.1) = some N.1.cls) (hst : (st.map fun v => v.category).sum ≤ 8) (hd' : d' + 1 ≤ d) (k : GdH M d pc' L (.int r :: st) h1 P) : GdH M d pc L (a2 :: a1 :: a0 :: .ref o :: st) h P := by
  obtain ⟨q, hq0, hq1⟩ := Option.map_eq_some_iff.mp hq
  refine h_callV (As := [a0, a1, a2]) hd hc hN ho hci hq0 hq1 rfl hst hd' ?_
  rintro v' h' ⟨rfl, rfl⟩
  exact k
theorem h_S3i {N : Meth} {idx d' : Nat} {a0 a1 a2 : Value} {r : Int32} {h1 : Hv} (hd : Dc M.2.1 pc (.invokestatic idx) 3 pc') (hc : CLS M.1.cls idx N 3) (hN : MtF N d' [a0, a1, a2] h (some (.int r)) h1) (hst : (st.map fun v => v.category).sum ≤ 8) (hd' : d' + 1 ≤ d) (k : GdH M d pc' L (.int r :: st) h1 P) : GdH M d pc L (a2 :: a1 :: a0 :: st) h P := by
  refine h_callS (As := [a0, a1, a2]) hd hc hN rfl hst hd' ?_
  rintro v' h' ⟨rfl, rfl⟩
  exact k
theorem h_V3v {N : Meth} {idx d' o ci : Nat} {a0 a1 a2 : Value}  {h1 : Hv} {sl : List (Option Nat)} (hd : Dc M.2.1 pc (.invokevirtual idx) 3 pc') (hc : CLV M.1.cls idx N 3) (hN : MtF N d' [.ref o, a0, a1, a2] h (none) h1) (ho : SP[o]? = some (ci, sl)) (hci : ci < 8) (hq : (vwCl[ci]?).map (fun q => q.1) = some N.1.cls) (hst : (st.map fun v => v.category).sum ≤ 8) (hd' : d' + 1 ≤ d) (k : GdH M d pc' L st h1 P) : GdH M d pc L (a2 :: a1 :: a0 :: .ref o :: st) h P := by
  obtain ⟨q, hq0, hq1⟩ := Option.map_eq_some_iff.mp hq
  refine h_callV (As := [a0, a1, a2]) hd hc hN ho hci hq0 hq1 rfl hst hd' ?_
  rintro v' h' ⟨rfl, rfl⟩
  exact k
theorem h_S3v {N : Meth} {idx d' : Nat} {a0 a1 a2 : Value}  {h1 : Hv} (hd : Dc M.2.1 pc (.invokestatic idx) 3 pc') (hc : CLS M.1.cls idx N 3) (hN : MtF N d' [a0, a1, a2] h (none) h1) (hst : (st.map fun v => v.category).sum ≤ 8) (hd' : d' + 1 ≤ d) (k : GdH M d pc' L st h1 P) : GdH M d pc L (a2 :: a1 :: a0 :: st) h P := by
  refine h_callS (As := [a0, a1, a2]) hd hc hN rfl hst hd' ?_
  rintro v' h' ⟨rfl, rfl⟩
  exact k
theorem h_V3l {N : Meth} {idx d' o ci : Nat} {a0 a1 a2 : Value} {r : Int64} {h1 : Hv} {sl : List (Option Nat)} (hd : Dc M.2.1 pc (.invokevirtual idx) 3 pc') (hc : CLV M.1.cls idx N 3) (hN : MtF N d' [.ref o, a0, a1, a2] h (some (.long r)) h1) (ho : SP[o]? = some (ci, sl)) (hci : ci < 8) (hq : (vwCl[ci]?).map (fun q => q.1) = some N.1.cls) (hst : (st.map fun v => v.category).sum ≤ 8) (hd' : d' + 1 ≤ d) (k : GdH M d pc' L (.long r :: st) h1 P) : GdH M d pc L (a2 :: a1 :: a0 :: .ref o :: st) h P := by
  obtain ⟨q, hq0, hq1⟩ := Option.map_eq_some_iff.mp hq
  refine h_callV (As := [a0, a1, a2]) hd hc hN ho hci hq0 hq1 rfl hst hd' ?_
  rintro v' h' ⟨rfl, rfl⟩
  exact k
theorem h_S3l {N : Meth} {idx d' : Nat} {a0 a1 a2 : Value} {r : Int64} {h1 : Hv} (hd : Dc M.2.1 pc (.invokestatic idx) 3 pc') (hc : CLS M.1.cls idx N 3) (hN : MtF N d' [a0, a1, a2] h (some (.long r)) h1) (hst : (st.map fun v => v.category).sum ≤ 8) (hd' : d' + 1 ≤ d) (k : GdH M d pc' L (.long r :: st) h1 P) : GdH M d pc L (a2 :: a1 :: a0 :: st) h P := by
  refine h_callS (As := [a0, a1, a2]) hd hc hN rfl hst hd' ?_
  rintro v' h' ⟨rfl, rfl⟩
  exact k
theorem h_V3a {N : Meth} {idx d' o ci : Nat} {a0 a1 a2 : Value} {r : Nat} {h1 : Hv} {sl : List (Option Nat)} (hd : Dc M.2.1 pc (.invokevirtual idx) 3 pc') (hc : CLV M.1.cls idx N 3) (hN : MtF N d' [.ref o, a0, a1, a2] h (some (.ref r)) h1) (ho : SP[o]? = some (ci, sl)) (hci : ci < 8) (hq : (vwCl[ci]?).map (fun q => q.1) = some N.1.cls) (hst : (st.map fun v => v.category).sum ≤ 8) (hd' : d' + 1 ≤ d) (k : GdH M d pc' L (.ref r :: st) h1 P) : GdH M d pc L (a2 :: a1 :: a0 :: .ref o :: st) h P := by
  obtain ⟨q, hq0, hq1⟩ := Option.map_eq_some_iff.mp hq
  refine h_callV (As := [a0, a1, a2]) hd hc hN ho hci hq0 hq1 rfl hst hd' ?_
  rintro v' h' ⟨rfl, rfl⟩
  exact k
theorem h_S3a {N : Meth} {idx d' : Nat} {a0 a1 a2 : Value} {r : Nat} {h1 : Hv} (hd : Dc M.2.1 pc (.invokestatic idx) 3 pc') (hc : CLS M.1.cls idx N 3) (hN : MtF N d' [a0, a1, a2] h (some (.ref r)) h1) (hst : (st.map fun v => v.category).sum ≤ 8) (hd' : d' + 1 ≤ d) (k : GdH M d pc' L (.ref r :: st) h1 P) : GdH M d pc L (a2 :: a1 :: a0 :: st) h P := by
  refine h_callS (As := [a0, a1, a2]) hd hc hN rfl hst hd' ?_
  rintro v' h' ⟨rfl, rfl⟩
  exact k
theorem h_V3P {N : Meth} {idx d' o ci : Nat} {a0 a1 a2 : Value} {P' : Option Value → Hv → Prop} {sl : List (Option Nat)} (hd : Dc M.2.1 pc (.invokevirtual idx) 3 pc') (hc : CLV M.1.cls idx N 3) (hN : MtH N d' [.ref o, a0, a1, a2] h P') (ho : SP[o]? = some (ci, sl)) (hci : ci < 8) (hq : (vwCl[ci]?).map (fun q => q.1) = some N.1.cls) (hst : (st.map fun v => v.category).sum ≤ 8) (hd' : d' + 1 ≤ d) (k : ∀ v h', P' v h' → GdH M d pc' L (v.toList ++ st) h' P) : GdH M d pc L (a2 :: a1 :: a0 :: .ref o :: st) h P := by
  obtain ⟨q, hq0, hq1⟩ := Option.map_eq_some_iff.mp hq
  exact h_callV (As := [a0, a1, a2]) hd hc hN ho hci hq0 hq1 rfl hst hd' k
theorem h_V4i {N : Meth} {idx d' o ci : Nat} {a0 a1 a2 a3 : Value} {r : Int32} {h1 : Hv} {sl : List (Option Nat)} (hd : Dc M.2.1 pc (.invokevirtual idx) 3 pc') (hc : CLV M.1.cls idx N 4) (hN : MtF N d' [.ref o, a0, a1, a2, a3] h (some (.int r)) h1) (ho : SP[o]? = some (ci, sl)) (hci : ci < 8) (hq : (vwCl[ci]?).map (fun q => q.1) = some N.1.cls) (hst : (st.map fun v => v.category).sum ≤ 8) (hd' : d' + 1 ≤ d) (k : GdH M d pc' L (.int r :: st) h1 P) : GdH M d pc L (a3 :: a2 :: a1 :: a0 :: .ref o :: st) h P := by
  obtain ⟨q, hq0, hq1⟩ := Option.map_eq_some_iff.mp hq
  refine h_callV (As := [a0, a1, a2, a3]) hd hc hN ho hci hq0 hq1 rfl hst hd' ?_
  rintro v' h' ⟨rfl, rfl⟩
  exact k
theorem h_S4i {N : Meth} {idx d' : Nat} {a0 a1 a2 a3 : Value} {r : Int32} {h1 : Hv} (hd : Dc M.2.1 pc (.invokestatic idx) 3 pc') (hc : CLS M.1.cls idx N 4) (hN : MtF N d' [a0, a1, a2, a3] h (some (.int r)) h1) (hst : (st.map fun v => v.category).sum ≤ 8) (hd' : d' + 1 ≤ d) (k : GdH M d pc' L (.int r :: st) h1 P) : GdH M d pc L (a3 :: a2 :: a1 :: a0 :: st) h P := by
  refine h_callS (As := [a0, a1, a2, a3]) hd hc hN rfl hst hd' ?_
  rintro v' h' ⟨rfl, rfl⟩
  exact k
theorem h_V4v {N : Meth} {idx d' o ci : Nat} {a0 a1 a2 a3 : Value}  {h1 : Hv} {sl : List (Option Nat)} (hd : Dc M.2.1 pc (.invokevirtual idx) 3 pc') (hc : CLV M.1.cls idx N 4) (hN : MtF N d' [.ref o, a0, a1, a2, a3] h (none) h1) (ho : SP[o]? = some (ci, sl)) (hci : ci < 8) (hq : (vwCl[ci]?).map (fun q => q.1) = some N.1.cls) (hst : (st.map fun v => v.category).sum ≤ 8) (hd' : d' + 1 ≤ d) (k : GdH M d pc' L st h1 P) : GdH M d pc L (a3 :: a2 :: a1 :: a0 :: .ref o :: st) h P := by
  obtain ⟨q, hq0, hq1⟩ := Option.map_eq_some_iff.mp hq
  refine h_callV (As := [a0, a1, a2, a3]) hd hc hN ho hci hq0 hq1 rfl hst hd' ?_
  rintro v' h' ⟨rfl, rfl⟩
  exact k
theorem h_S4v {N : Meth} {idx d' : Nat} {a0 a1 a2 a3 : Value}  {h1 : Hv} (hd : Dc M.2.1 pc (.invokestatic idx) 3 pc') (hc : CLS M.1.cls idx N 4) (hN : MtF N d' [a0, a1, a2, a3] h (none) h1) (hst : (st.map fun v => v.category).sum ≤ 8) (hd' : d' + 1 ≤ d) (k : GdH M d pc' L st h1 P) : GdH M d pc L (a3 :: a2 :: a1 :: a0 :: st) h P := by
  refine h_callS (As := [a0, a1, a2, a3]) hd hc hN rfl hst hd' ?_
  rintro v' h' ⟨rfl, rfl⟩
  exact k
theorem h_V4l {N : Meth} {idx d' o ci : Nat} {a0 a1 a2 a3 : Value} {r : Int64} {h1 : Hv} {sl : List (Option Nat)} (hd : Dc M.2.1 pc (.invokevirtual idx) 3 pc') (hc : CLV M.1.cls idx N 4) (hN : MtF N d' [.ref o, a0, a1, a2, a3] h (some (.long r)) h1) (ho : SP[o]? = some (ci, sl)) (hci : ci < 8) (hq : (vwCl[ci]?).map (fun q => q.1) = some N.1.cls) (hst : (st.map fun v => v.category).sum ≤ 8) (hd' : d' + 1 ≤ d) (k : GdH M d pc' L (.long r :: st) h1 P) : GdH M d pc L (a3 :: a2 :: a1 :: a0 :: .ref o :: st) h P := by
  obtain ⟨q, hq0, hq1⟩ := Option.map_eq_some_iff.mp hq
  refine h_callV (As := [a0, a1, a2, a3]) hd hc hN ho hci hq0 hq1 rfl hst hd' ?_
  rintro v' h' ⟨rfl, rfl⟩
  exact k
theorem h_S4l {N : Meth} {idx d' : Nat} {a0 a1 a2 a3 : Value} {r : Int64} {h1 : Hv} (hd : Dc M.2.1 pc (.invokestatic idx) 3 pc') (hc : CLS M.1.cls idx N 4) (hN : MtF N d' [a0, a1, a2, a3] h (some (.long r)) h1) (hst : (st.map fun v => v.category).sum ≤ 8) (hd' : d' + 1 ≤ d) (k : GdH M d pc' L (.long r :: st) h1 P) : GdH M d pc L (a3 :: a2 :: a1 :: a0 :: st) h P := by
  refine h_callS (As := [a0, a1, a2, a3]) hd hc hN rfl hst hd' ?_
  rintro v' h' ⟨rfl, rfl⟩
  exact k
theorem h_V4a {N : Meth} {idx d' o ci : Nat} {a0 a1 a2 a3 : Value} {r : Nat} {h1 : Hv} {sl : List (Option Nat)} (hd : Dc M.2.1 pc (.invokevirtual idx) 3 pc') (hc : CLV M.1.cls idx N 4) (hN : MtF N d' [.ref o, a0, a1, a2, a3] h (some (.ref r)) h1) (ho : SP[o]? = some (ci, sl)) (hci : ci < 8) (hq : (vwCl[ci]?).map (fun q => q.1) = some N.1.cls) (hst : (st.map fun v => v.category).sum ≤ 8) (hd' : d' + 1 ≤ d) (k : GdH M d pc' L (.ref r :: st) h1 P) : GdH M d pc L (a3 :: a2 :: a1 :: a0 :: .ref o :: st) h P := by
  obtain ⟨q, hq0, hq1⟩ := Option.map_eq_some_iff.mp hq
  refine h_callV (As := [a0, a1, a2, a3]) hd hc hN ho hci hq0 hq1 rfl hst hd' ?_
  rintro v' h' ⟨rfl, rfl⟩
  exact k
theorem h_S4a {N : Meth} {idx d' : Nat} {a0 a1 a2 a3 : Value} {r : Nat} {h1 : Hv} (hd : Dc M.2.1 pc (.invokestatic idx) 3 pc') (hc : CLS M.1.cls idx N 4) (hN : MtF N d' [a0, a1, a2, a3] h (some (.ref r)) h1) (hst : (st.map fun v => v.category).sum ≤ 8) (hd' : d' + 1 ≤ d) (k : GdH M d pc' L (.ref r :: st) h1 P) : GdH M d pc L (a3 :: a2 :: a1 :: a0 :: st) h P := by
  refine h_callS (As := [a0, a1, a2, a3]) hd hc hN rfl hst hd' ?_
  rintro v' h' ⟨rfl, rfl⟩
  exact k
theorem h_V4P {N : Meth} {idx d' o ci : Nat} {a0 a1 a2 a3 : Value} {P' : Option Value → Hv → Prop} {sl : List (Option Nat)} (hd : Dc M.2.1 pc (.invokevirtual idx) 3 pc') (hc : CLV M.1.cls idx N 4) (hN : MtH N d' [.ref o, a0, a1, a2, a3] h P') (ho : SP[o]? = some (ci, sl)) (hci : ci < 8) (hq : (vwCl[ci]?).map (fun q => q.1) = some N.1.cls) (hst : (st.map fun v => v.category).sum ≤ 8) (hd' : d' + 1 ≤ d) (k : ∀ v h', P' v h' → GdH M d pc' L (v.toList ++ st) h' P) : GdH M d pc L (a3 :: a2 :: a1 :: a0 :: .ref o :: st) h P := by
  obtain ⟨q, hq0, hq1⟩ := Option.map_eq_some_iff.mp hq
  exact h_callV (As := [a0, a1, a2, a3]) hd hc hN ho hci hq0 hq1 rfl hst hd' k
theorem h_V5i {N : Meth} {idx d' o ci : Nat} {a0 a1 a2 a3 a4 : Value} {r : Int32} {h1 : Hv} {sl : List (Option Nat)} (hd : Dc M.2.1 pc (.invokevirtual idx) 3 pc') (hc : CLV M.1.cls idx N 5) (hN : MtF N d' [.ref o, a0, a1, a2, a3, a4] h (some (.int r)) h1) (ho : SP[o]? = some (ci, sl)) (hci : ci < 8) (hq : (vwCl[ci]?).map (fun q => q.1) = some N.1.cls) (hst : (st.map fun v => v.category).sum ≤ 8) (hd' : d' + 1 ≤ d) (k : GdH M d pc' L (.int r :: st) h1 P) : GdH M d pc L (a4 :: a3 :: a2 :: a1 :: a0 :: .ref o :: st) h P := by
  obtain ⟨q, hq0, hq1⟩ := Option.map_eq_some_iff.mp hq
  refine h_callV (As := [a0, a1, a2, a3, a4]) hd hc hN ho hci hq0 hq1 rfl hst hd' ?_
  rintro v' h' ⟨rfl, rfl⟩
  exact k
theorem h_S5i {N : Meth} {idx d' : Nat} {a0 a1 a2 a3 a4 : Value} {r : Int32} {h1 : Hv} (hd : Dc M.2.1 pc (.invokestatic idx) 3 pc') (hc : CLS M.1.cls idx N 5) (hN : MtF N d' [a0, a1, a2, a3, a4] h (some (.int r)) h1) (hst : (st.map fun v => v.category).sum ≤ 8) (hd' : d' + 1 ≤ d) (k : GdH M d pc' L (.int r :: st) h1 P) : GdH M d pc L (a4 :: a3 :: a2 :: a1 :: a0 :: st) h P := by
  refine h_callS (As := [a0, a1, a2, a3, a4]) hd hc hN rfl hst hd' ?_
  rintro v' h' ⟨rfl, rfl⟩
  exact k
theorem h_V5v {N : Meth} {idx d' o ci : Nat} {a0 a1 a2 a3 a4 : Value}  {h1 : Hv} {sl : List (Option Nat)} (hd : Dc M.2.1 pc (.invokevirtual idx) 3 pc') (hc : CLV M.1.cls idx N 5) (hN : MtF N d' [.ref o, a0, a1, a2, a3, a4] h (none) h1) (ho : SP[o]? = some (ci, sl)) (hci : ci < 8) (hq : (vwCl[ci]?).map (fun q => q.1) = some N.1.cls) (hst : (st.map fun v => v.category).sum ≤ 8) (hd' : d' + 1 ≤ d) (k : GdH M d pc' L st h1 P) : GdH M d pc L (a4 :: a3 :: a2 :: a1 :: a0 :: .ref o :: st) h P := by
  obtain ⟨q, hq0, hq1⟩ := Option.map_eq_some_iff.mp hq
  refine h_callV (As := [a0, a1, a2, a3, a4]) hd hc hN ho hci hq0 hq1 rfl hst hd' ?_
  rintro v' h' ⟨rfl, rfl⟩
  exact k
theorem h_S5v {N : Meth} {idx d' : Nat} {a0 a1 a2 a3 a4 : Value}  {h1 : Hv} (hd : Dc M.2.1 pc (.invokestatic idx) 3 pc') (hc : CLS M.1.cls idx N 5) (hN : MtF N d' [a0, a1, a2, a3, a4] h (none) h1) (hst : (st.map fun v => v.category).sum ≤ 8) (hd' : d' + 1 ≤ d) (k : GdH M d pc' L st h1 P) : GdH M d pc L (a4 :: a3 :: a2 :: a1 :: a0 :: st) h P := by
  refine h_callS (As := [a0, a1, a2, a3, a4]) hd hc hN rfl hst hd' ?_
  rintro v' h' ⟨rfl, rfl⟩
  exact k
theorem h_V5l {N : Meth} {idx d' o ci : Nat} {a0 a1 a2 a3 a4 : Value} {r : Int64} {h1 : Hv} {sl : List (Option Nat)} (hd : Dc M.2.1 pc (.invokevirtual idx) 3 pc') (hc : CLV M.1.cls idx N 5) (hN : MtF N d' [.ref o, a0, a1, a2, a3, a4] h (some (.long r)) h1) (ho : SP[o]? = some (ci, sl)) (hci : ci < 8) (hq : (vwCl[ci]?).map (fun q => q.1) = some N.1.cls) (hst : (st.map fun v => v.category).sum ≤ 8) (hd' : d' + 1 ≤ d) (k : GdH M d pc' L (.long r :: st) h1 P) : GdH M d pc L (a4 :: a3 :: a2 :: a1 :: a0 :: .ref o :: st) h P := by
  obtain ⟨q, hq0, hq1⟩ := Option.map_eq_some_iff.mp hq
  refine h_callV (As := [a0, a1, a2, a3, a4]) hd hc hN ho hci hq0 hq1 rfl hst hd' ?_
  rintro v' h' ⟨rfl, rfl⟩
  exact k
theorem h_S5l {N : Meth} {idx d' : Nat} {a0 a1 a2 a3 a4 : Value} {r : Int64} {h1 : Hv} (hd : Dc M.2.1 pc (.invokestatic idx) 3 pc') (hc : CLS M.1.cls idx N 5) (hN : MtF N d' [a0, a1, a2, a3, a4] h (some (.long r)) h1) (hst : (st.map fun v => v.category).sum ≤ 8) (hd' : d' + 1 ≤ d) (k : GdH M d pc' L (.long r :: st) h1 P) : GdH M d pc L (a4 :: a3 :: a2 :: a1 :: a0 :: st) h P := by
  refine h_callS (As := [a0, a1, a2, a3, a4]) hd hc hN rfl hst hd' ?_
  rintro v' h' ⟨rfl, rfl⟩
  exact k
theorem h_V5a {N : Meth} {idx d' o ci : Nat} {a0 a1 a2 a3 a4 : Value} {r : Nat} {h1 : Hv} {sl : List (Option Nat)} (hd : Dc M.2.1 pc (.invokevirtual idx) 3 pc') (hc : CLV M.1.cls idx N 5) (hN : MtF N d' [.ref o, a0, a1, a2, a3, a4] h (some (.ref r)) h1) (ho : SP[o]? = some (ci, sl)) (hci : ci < 8) (hq : (vwCl[ci]?).map (fun q => q.1) = some N.1.cls) (hst : (st.map fun v => v.category).sum ≤ 8) (hd' : d' + 1 ≤ d) (k : GdH M d pc' L (.ref r :: st) h1 P) : GdH M d pc L (a4 :: a3 :: a2 :: a1 :: a0 :: .ref o :: st) h P := by
  obtain ⟨q, hq0, hq1⟩ := Option.map_eq_some_iff.mp hq
  refine h_callV (As := [a0, a1, a2, a3, a4]) hd hc hN ho hci hq0 hq1 rfl hst hd' ?_
  rintro v' h' ⟨rfl, rfl⟩
  exact k
theorem h_S5a {N : Meth} {idx d' : Nat} {a0 a1 a2 a3 a4 : Value} {r : Nat} {h1 : Hv} (hd : Dc M.2.1 pc (.invokestatic idx) 3 pc') (hc : CLS M.1.cls idx N 5) (hN : MtF N d' [a0, a1, a2, a3, a4] h (some (.ref r)) h1) (hst : (st.map fun v => v.category).sum ≤ 8) (hd' : d' + 1 ≤ d) (k : GdH M d pc' L (.ref r :: st) h1 P) : GdH M d pc L (a4 :: a3 :: a2 :: a1 :: a0 :: st) h P := by
  refine h_callS (As := [a0, a1, a2, a3, a4]) hd hc hN rfl hst hd' ?_
  rintro v' h' ⟨rfl, rfl⟩
  exact k
theorem h_V5P {N : Meth} {idx d' o ci : Nat} {a0 a1 a2 a3 a4 : Value} {P' : Option Value → Hv → Prop} {sl : List (Option Nat)} (hd : Dc M.2.1 pc (.invokevirtual idx) 3 pc') (hc : CLV M.1.cls idx N 5) (hN : MtH N d' [.ref o, a0, a1, a2, a3, a4] h P') (ho : SP[o]? = some (ci, sl)) (hci : ci < 8) (hq : (vwCl[ci]?).map (fun q => q.1) = some N.1.cls) (hst : (st.map fun v => v.category).sum ≤ 8) (hd' : d' + 1 ≤ d) (k : ∀ v h', P' v h' → GdH M d pc' L (v.toList ++ st) h' P) : GdH M d pc L (a4 :: a3 :: a2 :: a1 :: a0 :: .ref o :: st) h P := by
  obtain ⟨q, hq0, hq1⟩ := Option.map_eq_some_iff.mp hq
  exact h_callV (As := [a0, a1, a2, a3, a4]) hd hc hN ho hci hq0 hq1 rfl hst hd' k
end Rules
/-! the halls -/
def halls : List Nat := 15 :: 27 :: 336 :: 348 :: (List.range 24).map (fun i => 41 + 12 * i)
def isHall (o : Nat) : Prop := o ∈ halls
theorem halls_ok : ∀ o ∈ halls, (SP[o]? = some (2, [none, none, none, none, none, some (o + 1), some (o + 2), some (o + 3), some (o + 4), some (o + 5), some (o + 6), some (o + 7), some (o + 8), some (o + 9), some (o + 10), some (o + 11)])) ∧ (∀ j ∈ [1, 2, 3, 4, 5, 6], SP[o + j]? = some (8, List.replicate 5 none)) ∧ (∀ j ∈ [7, 8, 9, 10, 11], SP[o + j]? = some (8, List.replicate 6 none)) := by decide +kernel
theorem sp_hall {o : Nat} (h : isHall o) : SP[o]? = some (2, [none, none, none, none, none, some (o + 1), some (o + 2), some (o + 3), some (o + 4), some (o + 5), some (o + 6), some (o + 7), some (o + 8), some (o + 9), some (o + 10), some (o + 11)]) := (halls_ok o h).1
theorem sp_h1 {o : Nat} (h : isHall o) : SP[o + 1]? = some (8, List.replicate 5 none) := (halls_ok o h).2.1 1 (by decide)
theorem sp_h2 {o : Nat} (h : isHall o) : SP[o + 2]? = some (8, List.replicate 5 none) := (halls_ok o h).2.1 2 (by decide)
theorem sp_h3 {o : Nat} (h : isHall o) : SP[o + 3]? = some (8, List.replicate 5 none) := (halls_ok o h).2.1 3 (by decide)
theorem sp_h4 {o : Nat} (h : isHall o) : SP[o + 4]? = some (8, List.replicate 5 none) := (halls_ok o h).2.1 4 (by decide)
theorem sp_h5 {o : Nat} (h : isHall o) : SP[o + 5]? = some (8, List.replicate 5 none) := (halls_ok o h).2.1 5 (by decide)
theorem sp_h6 {o : Nat} (h : isHall o) : SP[o + 6]? = some (8, List.replicate 5 none) := (halls_ok o h).2.1 6 (by decide)
theorem sp_h7 {o : Nat} (h : isHall o) : SP[o + 7]? = some (8, List.replicate 6 none) := (halls_ok o h).2.2 7 (by decide)
theorem sp_h8 {o : Nat} (h : isHall o) : SP[o + 8]? = some (8, List.replicate 6 none) := (halls_ok o h).2.2 8 (by decide)
theorem sp_h9 {o : Nat} (h : isHall o) : SP[o + 9]? = some (8, List.replicate 6 none) := (halls_ok o h).2.2 9 (by decide)
theorem sp_h10 {o : Nat} (h : isHall o) : SP[o + 10]? = some (8, List.replicate 6 none) := (halls_ok o h).2.2 10 (by decide)
theorem sp_h11 {o : Nat} (h : isHall o) : SP[o + 11]? = some (8, List.replicate 6 none) := (halls_ok o h).2.2 11 (by decide)
theorem hall_15 : isHall 15 := by unfold isHall; decide
theorem hall_27 : isHall 27 := by unfold isHall; decide
theorem hall_act (i : Nat) (h : i < 24) : isHall (41 + 12 * i) := by
  unfold isHall halls
  simp only [List.mem_cons, List.mem_map, List.mem_range]
  exact Or.inr (Or.inr (Or.inr (Or.inr ⟨i, h, rfl⟩)))
theorem hall_img (k : Nat) (h : k < 2) : isHall (336 + 12 * k) := by
  rcases (show k = 0 ∨ k = 1 by omega) with rfl | rfl <;> (unfold isHall; decide)
theorem sp_L : SP[0]? = some (6, [some 1, some 13, some 15, some 27, some 39, some 329, some 330, some 333, some 335, none]) := by decide +kernel
theorem sp_Rows : SP[1]? = some (4, [some 2, some 3, some 4]) := by decide +kernel
theorem sp_lanes : SP[2]? = some (8, List.replicate 8 none) := by decide +kernel
theorem sp_lengths : SP[3]? = some (8, List.replicate 8 none) := by decide +kernel
theorem sp_items : SP[4]? = some (11, [some 5, some 6, some 7, some 8, some 9, some 10, some 11, some 12]) := by decide +kernel
theorem sp_Tape : SP[13]? = some (5, [some 14, none, none, none, none, none, none]) := by decide +kernel
theorem sp_bytes : SP[14]? = some (8, List.replicate 110 none) := by decide +kernel
theorem sp_Acts : SP[39]? = some (0, [some 40, none, none]) := by decide +kernel
theorem sp_before : SP[40]? = some (10, (List.range 24).map (fun i => some (41 + 12 * i))) := by decide +kernel
theorem sp_images : SP[329]? = some (10, [some 336, some 348]) := by decide +kernel
theorem sp_Orders : SP[330]? = some (3, [some 331, none, none, none, some 332]) := by decide +kernel
theorem sp_best : SP[331]? = some (8, List.replicate 6 none) := by decide +kernel
theorem sp_tried : SP[332]? = some (8, List.replicate 6 none) := by decide +kernel
theorem sp_Asks : SP[333]? = some (1, [some 334, none]) := by decide +kernel
theorem sp_numbers : SP[334]? = some (8, List.replicate 16 none) := by decide +kernel
theorem sp_dry : SP[335]? = some (8, List.replicate 32 none) := by decide +kernel
theorem sp_M : SP[360]? = some (7, [none, some 361, some 362, some 363, none, some 364, none, none, none, none, none, none, none, none, some 365, some 366, some 367, some 368, some 369, some 370, some 371, none, some 372, none, some 373, some 374, some 375, none, some 376, some 377]) := by decide +kernel
theorem sp_item0 : SP[5]? = some (8, List.replicate 40 none) := by decide +kernel
theorem sp_item1 : SP[6]? = some (8, List.replicate 40 none) := by decide +kernel
theorem sp_item2 : SP[7]? = some (8, List.replicate 40 none) := by decide +kernel
theorem sp_item3 : SP[8]? = some (8, List.replicate 40 none) := by decide +kernel
theorem sp_item4 : SP[9]? = some (8, List.replicate 40 none) := by decide +kernel
theorem sp_item5 : SP[10]? = some (8, List.replicate 40 none) := by decide +kernel
theorem sp_item6 : SP[11]? = some (8, List.replicate 40 none) := by decide +kernel
theorem sp_item7 : SP[12]? = some (8, List.replicate 40 none) := by decide +kernel
theorem sp_m_rows : SP[361]? = some (8, List.replicate 320 none) := by decide +kernel
theorem sp_m_lane : SP[362]? = some (8, List.replicate 8 none) := by decide +kernel
theorem sp_m_rowSize : SP[363]? = some (8, List.replicate 8 none) := by decide +kernel
theorem sp_m_tape : SP[364]? = some (8, List.replicate 110 none) := by decide +kernel
theorem sp_m_draft : SP[365]? = some (8, List.replicate 17 none) := by decide +kernel
theorem sp_m_draftNow : SP[366]? = some (8, List.replicate 42 none) := by decide +kernel
theorem sp_m_d : SP[367]? = some (8, List.replicate 17 none) := by decide +kernel
theorem sp_m_s : SP[368]? = some (8, List.replicate 42 none) := by decide +kernel
theorem sp_m_e : SP[369]? = some (8, List.replicate 17 none) := by decide +kernel
theorem sp_m_w : SP[370]? = some (8, List.replicate 42 none) := by decide +kernel
theorem sp_m_rank : SP[371]? = some (8, List.replicate 6 none) := by decide +kernel
theorem sp_m_undos : SP[372]? = some (8, List.replicate 1008 none) := by decide +kernel
theorem sp_m_kept : SP[373]? = some (8, List.replicate 118 none) := by decide +kernel
theorem sp_m_isKept : SP[374]? = some (9, List.replicate 2 none) := by decide +kernel
theorem sp_m_traced : SP[375]? = some (8, List.replicate 16 none) := by decide +kernel
theorem sp_m_value6 : SP[376]? = some (8, List.replicate 1296 none) := by decide +kernel
theorem sp_m_bestM : SP[377]? = some (8, List.replicate 6 none) := by decide +kernel
end
section
section Rules
variable {M : Meth} {d pc pc' : Nat} {L L' : List (Option Value)} {st : List Value} {h : Hv} {P : Option Value → Hv → Prop}
theorem w_istore_n {i : Fin 4} {x : Int32} (hd : Dc M.2.1 pc (.istore_n i) 1 pc') (hi : Nat.ble ((i : Nat) + 1) M.2.2.1 = true) (hn : nlong L i = true) (hL : L.set i (some (.int x)) = L') (k : GdH M d pc' L' st h P) : GdH M d pc L (.int x :: st) h P := g_istore_n hd hi hn (by rw [hL]; exact k)
theorem w_istore {i : Nat} {x : Int32} (hd : Dc M.2.1 pc (.istore i) 2 pc') (hi : Nat.ble (i + 1) M.2.2.1 = true) (hn : nlong L i = true) (hL : L.set i (some (.int x)) = L') (k : GdH M d pc' L' st h P) : GdH M d pc L (.int x :: st) h P := g_istore hd hi hn (by rw [hL]; exact k)
theorem w_astore_n {i : Fin 4} {x : Nat} (hd : Dc M.2.1 pc (.astore_n i) 1 pc') (hi : Nat.ble ((i : Nat) + 1) M.2.2.1 = true) (hn : nlong L i = true) (hL : L.set i (some (.ref x)) = L') (k : GdH M d pc' L' st h P) : GdH M d pc L (.ref x :: st) h P := g_astore_n hd hi hn (by rw [hL]; exact k)
theorem w_astore {i : Nat} {x : Nat} (hd : Dc M.2.1 pc (.astore i) 2 pc') (hi : Nat.ble (i + 1) M.2.2.1 = true) (hn : nlong L i = true) (hL : L.set i (some (.ref x)) = L') (k : GdH M d pc' L' st h P) : GdH M d pc L (.ref x :: st) h P := g_astore hd hi hn (by rw [hL]; exact k)
theorem w_lstore_n {i : Fin 4} {x : Int64} (hd : Dc M.2.1 pc (.lstore_n i) 1 pc') (hi : Nat.ble ((i : Nat) + 1 + 1) M.2.2.1 = true) (hn : nlong L i = true) (hL : (L.set i (some (.long x))).set (i + 1) none = L') (k : GdH M d pc' L' st h P) : GdH M d pc L (.long x :: st) h P := g_lstore_n hd hi hn (by rw [hL]; exact k)
theorem w_lstore {i : Nat} {x : Int64} (hd : Dc M.2.1 pc (.lstore i) 2 pc') (hi : Nat.ble (i + 1 + 1) M.2.2.1 = true) (hn : nlong L i = true) (hL : (L.set i (some (.long x))).set (i + 1) none = L') (k : GdH M d pc' L' st h P) : GdH M d pc L (.long x :: st) h P := g_lstore hd hi hn (by rw [hL]; exact k)
theorem w_iinc {i : Nat} {n : Int} {x w : Int32} (hd : Dc M.2.1 pc (.iinc i n) 3 pc') (hw : Int32.ofInt n = w) (hi : Nat.ble (i + 1) M.2.2.1 = true) (hn : nlong L i = true) (hl : L[i]? = some (some (.int x))) (hL : L.set i (some (.int (x + w))) = L') (k : GdH M d pc' L' st h P) : GdH M d pc L st h P := g_iinc hd hi hn hl (by rw [hw]) (by rw [hL]; exact k)
end Rules
def b2i (c : Prop) [Decidable c] : Int32 := if c then 1 else 0
theorem b2i_t {c : Prop} [Decidable c] (h : c) : b2i c = 1 := if_pos h
theorem b2i_f {c : Prop} [Decidable c] (h : ¬ c) : b2i c = 0 := if_neg h
theorem b2i_nar {c : Prop} [Decidable c] : narrow .boolean (.int (b2i c)) = .int (b2i c) := by
  unfold b2i
  split <;> rfl
theorem b2i_eq0 {c : Prop} [Decidable c] : b2i c = 0 ↔ ¬ c := by
  unfold b2i
  split
  · rename_i h
    exact ⟨fun e => absurd e (by decide), fun e => absurd h e⟩
  · rename_i h
    exact ⟨fun _ => h, fun _ => rfl⟩
theorem b2i_ne0 {c : Prop} [Decidable c] : ¬ b2i c = 0 ↔ c := by
  rw [b2i_eq0]
  exact Decidable.not_not
theorem b2i_congr {c e : Prop} [Decidable c] [Decidable e] (h : c ↔ e) : b2i c = b2i e := by
  unfold b2i
  by_cases hc : c
  · rw [if_pos hc, if_pos (h.mp hc)]
  · rw [if_neg hc, if_neg (fun q => hc (h.mpr q))]
theorem pF {v : Option Value} {h : Hv} {w : Option Value} {g : Hv} (h1 : v = w) (h2 : h = g) : v = w ∧ h = g := ⟨h1, h2⟩
end
section
/-! a block of cells seen by itself: a hall (12 cells from o on), the reference (18 cells from 360 on) -/
def blk (n : Nat) (h : Hv) (o : Nat) (g : Hv) : Hv := fun a b => if o ≤ a ∧ a < o + n then g (a - o) b else h a b
def vw (h : Hv) (o : Nat) : Hv := fun j b => h (o + j) b
abbrev pu (h : Hv) (o : Nat) (g : Hv) : Hv := blk 12 h o g
abbrev mu (h : Hv) (w : Hv) : Hv := blk 18 h 360 w
theorem blk_at {n : Nat} {h : Hv} {o : Nat} {g : Hv} {j b : Nat} (hj : j < n) : blk n h o g (o + j) b = g j b := by
  unfold blk
  rw [if_pos ⟨by omega, by omega⟩, Nat.add_sub_cancel_left]
theorem blk_0 {n : Nat} {h : Hv} {o : Nat} {g : Hv} {b : Nat} (hj : 0 < n) : blk n h o g o b = g 0 b := blk_at (j := 0) hj
theorem blk_out {n : Nat} {h : Hv} {o : Nat} {g : Hv} {a b : Nat} (ha : a < o ∨ o + n ≤ a) : blk n h o g a b = h a b := by
  unfold blk
  rw [if_neg (by omega)]
theorem blk_set {n : Nat} {h : Hv} {o : Nat} {g : Hv} {j b : Nat} {v : Int32} (hj : j < n) : hset (blk n h o g) (o + j) b v = blk n h o (hset g j b v) := by
  funext x y
  unfold hset blk
  dsimp only
  by_cases hx : o ≤ x ∧ x < o + n
  · rw [if_pos hx, if_pos hx]
    by_cases e : x = o + j
    · subst e
      rw [Nat.add_sub_cancel_left]
      by_cases ey : y = b
      · rw [if_pos ⟨rfl, ey⟩, if_pos ⟨rfl, ey⟩]
      · rw [if_neg (fun q => ey q.2), if_neg (fun q => ey q.2)]
    · rw [if_neg (fun q => e q.1), if_neg (fun q => e (by have h9 : x - o = j := q.1; omega))]
  · rw [if_neg hx, if_neg hx, if_neg (fun q => hx (by rw [q.1]; omega))]
theorem blk_set0 {n : Nat} {h : Hv} {o : Nat} {g : Hv} {b : Nat} {v : Int32} (hj : 0 < n) : hset (blk n h o g) o b v = blk n h o (hset g 0 b v) := blk_set (j := 0) hj
theorem blk_blk {n : Nat} {h : Hv} {o : Nat} {g g' : Hv} : blk n (blk n h o g) o g' = blk n h o g' := by
  funext x y
  unfold blk
  split <;> rfl
theorem blk_vw {n : Nat} {h : Hv} {o : Nat} : blk n h o (vw h o) = h := by
  funext x y
  unfold blk vw
  split
  · rename_i hx
    rw [Nat.add_sub_cancel' hx.1]
  · rfl
theorem vw_blk {n : Nat} {h : Hv} {o : Nat} {g : Hv} {j b : Nat} (hj : j < n) : vw (blk n h o g) o j b = g j b := blk_at hj
theorem vw_out {n : Nat} {h : Hv} {o q : Nat} {g : Hv} {j b : Nat} (hj : q + j < o ∨ o + n ≤ q + j) : vw (blk n h o g) q j b = vw h q j b := blk_out hj
theorem pu_at {h : Hv} {o : Nat} {g : Hv} {j b : Nat} (hj : j < 12) : pu h o g (o + j) b = g j b := blk_at hj
theorem pu_0 {h : Hv} {o : Nat} {g : Hv} {b : Nat} : pu h o g o b = g 0 b := blk_0 (by decide)
theorem pu_set {h : Hv} {o : Nat} {g : Hv} {j b : Nat} {v : Int32} (hj : j < 12) : hset (pu h o g) (o + j) b v = pu h o (hset g j b v) := blk_set hj
theorem pu_set0 {h : Hv} {o : Nat} {g : Hv} {b : Nat} {v : Int32} : hset (pu h o g) o b v = pu h o (hset g 0 b v) := blk_set0 (by decide)
theorem pu_pu {h : Hv} {o : Nat} {g g' : Hv} : pu (pu h o g) o g' = pu h o g' := blk_blk
theorem pu_vw {h : Hv} {o : Nat} : pu h o (vw h o) = h := blk_vw
theorem mu_at {h : Hv} {g : Hv} {j b : Nat} (hj : j < 18) : mu h g (360 + j) b = g j b := blk_at hj
theorem mu_0 {h : Hv} {g : Hv} {b : Nat} : mu h g 360 b = g 0 b := blk_0 (by decide)
theorem mu_set {h : Hv} {g : Hv} {j b : Nat} {v : Int32} (hj : j < 18) : hset (mu h g) (360 + j) b v = mu h (hset g j b v) := blk_set hj
theorem mu_set0 {h : Hv} {g : Hv} {b : Nat} {v : Int32} : hset (mu h g) 360 b v = mu h (hset g 0 b v) := blk_set0 (by decide)
theorem blk_cpy {h : Hv} {a o : Nat} {g : Hv} {j n : Nat} (ho : ∀ i, i < 12 → a ≠ o + i) (hj : j < 12) : hcpy (pu h o g) a (o + j) 0 0 n = pu h o (fun x y => if x = j ∧ y < n then h a y else g x y) := by
  funext x y
  unfold hcpy
  have hra : ∀ z, pu h o g a z = h a z := fun z => blk_out (by
    rcases Nat.lt_or_ge a o with q | q
    · exact Or.inl q
    · rcases Nat.lt_or_ge a (o + 12) with r | r
      · exact absurd (show a = o + (a - o) by omega) (ho (a - o) (by omega))
      · exact Or.inr r)
  by_cases hx : x = o + j
  · subst hx
    rw [pu_at hj, pu_at hj]
    by_cases hy : y < n
    · rw [if_pos ⟨rfl, Nat.zero_le y, by omega⟩, if_pos ⟨rfl, hy⟩, hra, Nat.zero_add, Nat.sub_zero]
    · rw [if_neg (fun q => hy (by omega)), if_neg (fun q => hy q.2)]
  · rw [if_neg (fun q => hx q.1)]
    unfold pu blk
    dsimp only
    by_cases hb : o ≤ x ∧ x < o + 12
    · rw [if_pos hb, if_pos hb, if_neg (fun q => hx (by omega))]
    · rw [if_neg hb, if_neg hb]
section Rules
variable {M : Meth} {d pc pc' : Nat} {L : List (Option Value)} {st : List Value} {h g : Hv} {P : Option Value → Hv → Prop}
theorem hh_getI {idx o kf : Nat} {fin : Bool} {ty : FieldType} (hd : Dc M.2.1 pc (.getfield idx) 3 pc') (hf : FL M.1.cls idx 2 kf fin ty) (ho : isHall o) (hk : kf < 5) (k : GdH M d pc' L (.int (g 0 kf) :: st) (pu h o g) P) : GdH M d pc L (.ref o :: st) (pu h o g) P := by
  refine h_getI hd hf (sp_hall ho) (by rcases (show kf = 0 ∨ kf = 1 ∨ kf = 2 ∨ kf = 3 ∨ kf = 4 by omega) with rfl | rfl | rfl | rfl | rfl <;> rfl) ?_
  rw [pu_0]
  exact k
theorem hh_putI {idx o kf : Nat} {v : Int32} (hd : Dc M.2.1 pc (.putfield idx) 3 pc') (hf : FL M.1.cls idx 2 kf false .int) (ho : isHall o) (hk : kf < 5) (k : GdH M d pc' L st (pu h o (hset g 0 kf v)) P) : GdH M d pc L (.int v :: .ref o :: st) (pu h o g) P := by
  refine h_putI hd hf (sp_hall ho) (by rcases (show kf = 0 ∨ kf = 1 ∨ kf = 2 ∨ kf = 3 ∨ kf = 4 by omega) with rfl | rfl | rfl | rfl | rfl <;> rfl) ?_
  rw [pu_set0]
  exact k
theorem hh_ald {o j n : Nat} {i : Int32} (hd : Dc M.2.1 pc .iaload 1 pc') (ho : SP[o + j]? = some (8, List.replicate n none)) (hj : j < 12) (hi : vp_in i n) (k : GdH M d pc' L (.int (g j i.toNatClampNeg) :: st) (pu h o g) P) : GdH M d pc L (.int i :: .ref (o + j) :: st) (pu h o g) P := by
  refine h_iald hd ho hi ?_
  rw [pu_at hj]
  exact k
theorem hh_ast {o j n : Nat} {i x : Int32} (hd : Dc M.2.1 pc .iastore 1 pc') (ho : SP[o + j]? = some (8, List.replicate n none)) (hj : j < 12) (hi : vp_in i n) (k : GdH M d pc' L st (pu h o (hset g j i.toNatClampNeg x)) P) : GdH M d pc L (.int x :: .int i :: .ref (o + j) :: st) (pu h o g) P := by
  refine h_iast hd ho hi ?_
  rw [pu_set hj]
  exact k
theorem mm_getI {idx kf : Nat} {fin : Bool} {ty : FieldType} {sl : List (Option Nat)} (hd : Dc M.2.1 pc (.getfield idx) 3 pc') (hf : FL M.1.cls idx 7 kf fin ty) (hs : SP[360]? = some (7, sl)) (hj : sl[kf]? = some none) (k : GdH M d pc' L (.int (g 0 kf) :: st) (mu h g) P) : GdH M d pc L (.ref 360 :: st) (mu h g) P := by
  refine h_getI hd hf hs hj ?_
  rw [mu_0]
  exact k
theorem mm_putI {idx kf : Nat} {v : Int32} {sl : List (Option Nat)} (hd : Dc M.2.1 pc (.putfield idx) 3 pc') (hf : FL M.1.cls idx 7 kf false .int) (hs : SP[360]? = some (7, sl)) (hj : sl[kf]? = some none) (k : GdH M d pc' L st (mu h (hset g 0 kf v)) P) : GdH M d pc L (.int v :: .ref 360 :: st) (mu h g) P := by
  refine h_putI hd hf hs hj ?_
  rw [mu_set0]
  exact k
theorem mm_ald {a j n : Nat} {i : Int32} (hd : Dc M.2.1 pc .iaload 1 pc') (ho : SP[a]? = some (8, List.replicate n none)) (ha : a = 360 + j) (hj : j < 18) (hi : vp_in i n) (k : GdH M d pc' L (.int (g j i.toNatClampNeg) :: st) (mu h g) P) : GdH M d pc L (.int i :: .ref a :: st) (mu h g) P := by
  subst ha
  refine h_iald hd ho hi ?_
  rw [mu_at hj]
  exact k
theorem mm_ast {a j n : Nat} {i x : Int32} (hd : Dc M.2.1 pc .iastore 1 pc') (ho : SP[a]? = some (8, List.replicate n none)) (ha : a = 360 + j) (hj : j < 18) (hi : vp_in i n) (k : GdH M d pc' L st (mu h (hset g j i.toNatClampNeg x)) P) : GdH M d pc L (.int x :: .int i :: .ref a :: st) (mu h g) P := by
  subst ha
  refine h_iast hd ho hi ?_
  rw [mu_set hj]
  exact k
theorem mm_zald {a j n : Nat} {i : Int32} (hd : Dc M.2.1 pc .baload 1 pc') (ho : SP[a]? = some (9, List.replicate n none)) (ha : a = 360 + j) (hj : j < 18) (hi : vp_in i n) (k : GdH M d pc' L (.int (g j i.toNatClampNeg) :: st) (mu h g) P) : GdH M d pc L (.int i :: .ref a :: st) (mu h g) P := by
  subst ha
  refine h_zald hd ho hi ?_
  rw [mu_at hj]
  exact k
theorem mm_zast {a j n : Nat} {i x : Int32} (hd : Dc M.2.1 pc .bastore 1 pc') (ho : SP[a]? = some (9, List.replicate n none)) (ha : a = 360 + j) (hj : j < 18) (hi : vp_in i n) (k : GdH M d pc' L st (mu h (hset g j i.toNatClampNeg (vp_nar .boolean x))) P) : GdH M d pc L (.int x :: .int i :: .ref a :: st) (mu h g) P := by
  subst ha
  refine h_zast hd ho hi ?_
  rw [mu_set hj]
  exact k
end Rules
/-! small rows -/
theorem in_nI {k n : Nat} (h : k < n) (hn : n < 2 ^ 31 := by decide) : vp_in (nI k) n := vp_in_nI h hn
theorem hs_at {g : Hv} {j b : Nat} {v : Int32} : hset g j b v j b = v := by
  unfold hset
  rw [if_pos ⟨rfl, rfl⟩]
theorem hs_ne {g : Hv} {j b x y : Nat} {v : Int32} (hn : ¬ (x = j ∧ y = b)) : hset g j b v x y = g x y := if_neg hn
theorem hs_j {g : Hv} {j b x y : Nat} {v : Int32} (hn : x ≠ j) : hset g j b v x y = g x y := if_neg (fun q => hn q.1)
theorem hs_b {g : Hv} {j b x y : Nat} {v : Int32} (hn : y ≠ b) : hset g j b v x y = g x y := if_neg (fun q => hn q.2)
theorem hs_hs {g : Hv} {j b : Nat} {v w : Int32} : hset (hset g j b v) j b w = hset g j b w := by
  funext x y
  unfold hset
  split <;> rfl
theorem hs_self {g : Hv} {j b : Nat} : hset g j b (g j b) = g := by
  funext x y
  unfold hset
  split
  · rename_i e
    rw [e.1, e.2]
  · rfl
end
section
/-! indices that are counted by naturals -/
theorem nAdd {x y : Int32} {a b : Nat} (hx : x = nI a) (hy : y = nI b) : x + y = nI (a + b) := by
  rw [hx, hy]
  exact nI_add a b
theorem nMul {x y : Int32} {a b : Nat} (hx : x = nI a) (hy : y = nI b) : x * y = nI (a * b) := by
  rw [hx, hy]
  exact pk_mul a b
theorem in_E {i : Int32} {k n : Nat} (hi : i = nI k) (hk : k < n) (hn : n < 2 ^ 31) : vp_in i n ∧ i.toNatClampNeg = k := by
  subst hi
  exact ⟨vp_in_nI hk hn, nI_clamp (by omega)⟩
section Rules
variable {M : Meth} {d pc pc' : Nat} {L : List (Option Value)} {st : List Value} {h g : Hv} {P : Option Value → Hv → Prop}
theorem h_aldE {o n k : Nat} {i : Int32} (hd : Dc M.2.1 pc .iaload 1 pc') (ho : SP[o]? = some (8, List.replicate n none)) (hi : i = nI k) (hk : k < n) (hn : n < 2 ^ 31) (kk : GdH M d pc' L (.int (h o k) :: st) h P) : GdH M d pc L (.int i :: .ref o :: st) h P := by
  obtain ⟨h1, h2⟩ := in_E hi hk hn
  refine h_iald hd ho h1 ?_
  rw [h2]
  exact kk
theorem h_astE {o n k : Nat} {i x : Int32} (hd : Dc M.2.1 pc .iastore 1 pc') (ho : SP[o]? = some (8, List.replicate n none)) (hi : i = nI k) (hk : k < n) (hn : n < 2 ^ 31) (kk : GdH M d pc' L st (hset h o k x) P) : GdH M d pc L (.int x :: .int i :: .ref o :: st) h P := by
  obtain ⟨h1, h2⟩ := in_E hi hk hn
  refine h_iast hd ho h1 ?_
  rw [h2]
  exact kk
theorem hh_aldE {o j n k : Nat} {i : Int32} (hd : Dc M.2.1 pc .iaload 1 pc') (ho : SP[o + j]? = some (8, List.replicate n none)) (hj : j < 12) (hi : i = nI k) (hk : k < n) (hn : n < 2 ^ 31) (kk : GdH M d pc' L (.int (g j k) :: st) (pu h o g) P) : GdH M d pc L (.int i :: .ref (o + j) :: st) (pu h o g) P := by
  obtain ⟨h1, h2⟩ := in_E hi hk hn
  refine hh_ald hd ho hj h1 ?_
  rw [h2]
  exact kk
theorem hh_astE {o j n k : Nat} {i x : Int32} (hd : Dc M.2.1 pc .iastore 1 pc') (ho : SP[o + j]? = some (8, List.replicate n none)) (hj : j < 12) (hi : i = nI k) (hk : k < n) (hn : n < 2 ^ 31) (kk : GdH M d pc' L st (pu h o (hset g j k x)) P) : GdH M d pc L (.int x :: .int i :: .ref (o + j) :: st) (pu h o g) P := by
  obtain ⟨h1, h2⟩ := in_E hi hk hn
  refine hh_ast hd ho hj h1 ?_
  rw [h2]
  exact kk
theorem mm_aldE {a j n k : Nat} {i : Int32} (hd : Dc M.2.1 pc .iaload 1 pc') (ho : SP[a]? = some (8, List.replicate n none)) (ha : a = 360 + j) (hj : j < 18) (hi : i = nI k) (hk : k < n) (hn : n < 2 ^ 31) (kk : GdH M d pc' L (.int (g j k) :: st) (mu h g) P) : GdH M d pc L (.int i :: .ref a :: st) (mu h g) P := by
  obtain ⟨h1, h2⟩ := in_E hi hk hn
  refine mm_ald hd ho ha hj h1 ?_
  rw [h2]
  exact kk
theorem mm_astE {a j n k : Nat} {i x : Int32} (hd : Dc M.2.1 pc .iastore 1 pc') (ho : SP[a]? = some (8, List.replicate n none)) (ha : a = 360 + j) (hj : j < 18) (hi : i = nI k) (hk : k < n) (hn : n < 2 ^ 31) (kk : GdH M d pc' L st (mu h (hset g j k x)) P) : GdH M d pc L (.int x :: .int i :: .ref a :: st) (mu h g) P := by
  obtain ⟨h1, h2⟩ := in_E hi hk hn
  refine mm_ast hd ho ha hj h1 ?_
  rw [h2]
  exact kk
theorem g_taldE {j k : Nat} {i : Int32} (hd : Dc M.2.1 pc .iaload 1 pc') (hj : j < 3) (hi : i = nI k) (hk : k < 6) (kk : GdH M d pc' L (.int (sT j k) :: st) h P) : GdH M d pc L (.int i :: .ref (1000000 + j) :: st) h P := by
  obtain ⟨h1, h2⟩ := in_E hi hk (by decide)
  refine g_tald hd hj h1 ?_
  rw [h2]
  exact kk
end Rules
theorem pl_X0 : plainName RX0 = true := by decide +kernel
theorem pl_X1 : plainName RX1 = true := by decide +kernel
theorem pl_X2 : plainName RX2 = true := by decide +kernel
theorem pl_X3 : plainName RX3 = true := by decide +kernel
theorem pl_X4 : plainName RX4 = true := by decide +kernel
theorem pl_X5 : plainName RX5 = true := by decide +kernel
theorem pl_X6 : plainName RX6 = true := by decide +kernel
theorem pl_X7 : plainName RX7 = true := by decide +kernel
theorem pl_J6 : plainName RJ6 = true := by decide +kernel

def MXw (own : String) (idx : Nat) (y : MethodName) (cd : ByteArray) (mx : Nat) (rt : Option FieldType) : Prop := Cond.methodLink own idx y ∈ TT ∧ Cond.static y ∈ TT ∧ Cond.initialized "java/lang/Math" ∈ TT ∧ Cond.code y cd mx rt ∈ TT
section Rules
variable {M : Meth} {d pc pc' : Nat} {L : List (Option Value)} {st : List Value} {h g : Hv} {P : Option Value → Hv → Prop}
theorem stL {B : Nat} {S : Nat → Nat} {st : List Value} {d mc ms n : Nat} (hd1 : 1 ≤ d) (hst : (st.map fun v => v.category).sum ≤ 8) (hn : n ≤ 60) : ((st.map (cv B S)).map fun v => v.category).sum + n ≤ (Rm d mc ms).locals := by
  rw [List.map_map]
  have e : ((fun v : Value => v.category) ∘ cv B S) = fun v => v.category := funext fun v => cv_cat B S v
  rw [e]
  show _ ≤ 100 * d
  omega
theorem g_mmax {idx : Nat} {x y : Int32} (hd : Dc M.2.1 pc (.invokestatic idx) 3 pc') (hc : MXw M.1.cls idx Lib.Math.max.name Lib.Math.max.code 2 (some .int)) (hst : (st.map fun v => v.category).sum ≤ 8) (hd1 : 1 ≤ d) (k : GdH M d pc' L (.int (if x < y then y else x) :: st) h P) : GdH M d pc L (.int y :: .int x :: st) h P := by
  obtain ⟨h1, rfl⟩ := hd
  exact fun l p e s m args below meth c B S D cy H locs ls C hZ hW hS hL => va_mmax C.1 C.2.1 (C.2.2.2.1.trans hL.1.symm) C.2.2.2.2.1 (C.2.2.2.2.2.1 _ hc.1) (C.2.2.2.2.2.1 _ hc.2.1) (C.2.2.2.2.2.1 _ hc.2.2.1) (C.2.2.2.2.2.1 _ hc.2.2.2) hd1 (stL hd1 hst (by decide)) (Nat.zero_le _) (Nat.zero_le _) h1 (k l p e s m args below meth c B S D cy H locs ls C hZ hW hS hL)
theorem g_mmin {idx : Nat} {x y : Int32} (hd : Dc M.2.1 pc (.invokestatic idx) 3 pc') (hc : MXw M.1.cls idx Lib.Math.min.name Lib.Math.min.code 2 (some .int)) (hst : (st.map fun v => v.category).sum ≤ 8) (hd1 : 1 ≤ d) (k : GdH M d pc' L (.int (if y < x then y else x) :: st) h P) : GdH M d pc L (.int y :: .int x :: st) h P := by
  obtain ⟨h1, rfl⟩ := hd
  exact fun l p e s m args below meth c B S D cy H locs ls C hZ hW hS hL => va_mmin C.1 C.2.1 (C.2.2.2.1.trans hL.1.symm) C.2.2.2.2.1 (C.2.2.2.2.2.1 _ hc.1) (C.2.2.2.2.2.1 _ hc.2.1) (C.2.2.2.2.2.1 _ hc.2.2.1) (C.2.2.2.2.2.1 _ hc.2.2.2) hd1 (stL hd1 hst (by decide)) (Nat.zero_le _) (Nat.zero_le _) h1 (k l p e s m args below meth c B S D cy H locs ls C hZ hW hS hL)
theorem g_mmaxL {idx : Nat} {x y : Int64} (hd : Dc M.2.1 pc (.invokestatic idx) 3 pc') (hc : MXw M.1.cls idx Lib.MathLoose.max_long.x Lib.MathLoose.max_long.code 4 (some .long)) (hst : (st.map fun v => v.category).sum ≤ 8) (hd1 : 1 ≤ d) (k : GdH M d pc' L (.long (if y < x then x else y) :: st) h P) : GdH M d pc L (.long y :: .long x :: st) h P := by
  obtain ⟨h1, rfl⟩ := hd
  exact fun l p e s m args below meth c B S D cy H locs ls C hZ hW hS hL => va_mmax_long C.1 C.2.1 (C.2.2.2.1.trans hL.1.symm) C.2.2.2.2.1 (C.2.2.2.2.2.1 _ hc.1) (C.2.2.2.2.2.1 _ hc.2.1) (C.2.2.2.2.2.1 _ hc.2.2.1) (C.2.2.2.2.2.1 _ hc.2.2.2) hd1 (stL hd1 hst (by decide)) (Nat.zero_le _) (Nat.zero_le _) h1 (k l p e s m args below meth c B S D cy H locs ls C hZ hW hS hL)
end Rules
theorem mx_6_295 : MXw RX6 295 Lib.Math.min.name Lib.Math.min.code 2 (some .int) := ⟨tt_of 732 (by decide +kernel) rfl, tt_of 501 (by decide +kernel) rfl, tt_of 85 (by decide +kernel) rfl, tt_of 502 (by decide +kernel) rfl⟩
theorem mx_6_300 : MXw RX6 300 Lib.Math.max.name Lib.Math.max.code 2 (some .int) := ⟨tt_of 737 (by decide +kernel) rfl, tt_of 533 (by decide +kernel) rfl, tt_of 85 (by decide +kernel) rfl, tt_of 534 (by decide +kernel) rfl⟩
theorem mx_6_325 : MXw RX6 325 Lib.MathLoose.max_long.x Lib.MathLoose.max_long.code 4 (some .long) := ⟨tt_of 770 (by decide +kernel) rfl, tt_of 771 (by decide +kernel) rfl, tt_of 85 (by decide +kernel) rfl, tt_of 772 (by decide +kernel) rfl⟩
theorem mx_0_29 : MXw RX0 29 Lib.Math.min.name Lib.Math.min.code 2 (some .int) := ⟨tt_of 500 (by decide +kernel) rfl, tt_of 501 (by decide +kernel) rfl, tt_of 85 (by decide +kernel) rfl, tt_of 502 (by decide +kernel) rfl⟩
theorem mx_2_71 : MXw RX2 71 Lib.Math.max.name Lib.Math.max.code 2 (some .int) := ⟨tt_of 532 (by decide +kernel) rfl, tt_of 533 (by decide +kernel) rfl, tt_of 85 (by decide +kernel) rfl, tt_of 534 (by decide +kernel) rfl⟩
theorem mx_2_101 : MXw RX2 101 Lib.Math.min.name Lib.Math.min.code 2 (some .int) := ⟨tt_of 515 (by decide +kernel) rfl, tt_of 501 (by decide +kernel) rfl, tt_of 85 (by decide +kernel) rfl, tt_of 502 (by decide +kernel) rfl⟩
end
