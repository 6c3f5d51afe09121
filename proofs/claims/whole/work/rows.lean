section
-- ===== PART A: goes FIRST, ahead of the names: the tables' words, and 'selects' of the private methods out of them =====
/-- a private method of a class that the tables say can be made, by its rows of tables_1 -/
def lw_okq (q : MethodName × Nat) : Prop := (q.1.cls ≠ "java/lang/invoke/MethodHandle" ∧ q.1.cls ≠ "java/lang/invoke/VarHandle") ∧ Cond.instantiable q.1.cls q.2 ∈ tables_1 ∧ Cond.privateMethod q.1 ∈ tables_1 ∧ Cond.instanceMethod q.1 ∈ tables_1
theorem lw_p0 : lw_okq (⟨"LaundryLoads", "found", "(I)I"⟩, 10) := ⟨⟨by decide +kernel, by decide +kernel⟩, List.mem_of_getElem? (i := 13) (by decide +kernel), List.mem_of_getElem? (i := 248) (by decide +kernel), List.mem_of_getElem? (i := 249) (by decide +kernel)⟩
theorem lw_p1 : lw_okq (⟨"LaundryLoads", "foundNothing", "(I)I"⟩, 10) := ⟨⟨by decide +kernel, by decide +kernel⟩, List.mem_of_getElem? (i := 13) (by decide +kernel), List.mem_of_getElem? (i := 257) (by decide +kernel), List.mem_of_getElem? (i := 258) (by decide +kernel)⟩
theorem lw_p2 : lw_okq (⟨"LaundryLoads$Tape", "toNextToken", "()V"⟩, 7) := ⟨⟨by decide +kernel, by decide +kernel⟩, List.mem_of_getElem? (i := 42) (by decide +kernel), List.mem_of_getElem? (i := 319) (by decide +kernel), List.mem_of_getElem? (i := 320) (by decide +kernel)⟩
theorem lw_p3 : lw_okq (⟨"LaundryLoads$Tape", "isFigure", "(I)Z"⟩, 7) := ⟨⟨by decide +kernel, by decide +kernel⟩, List.mem_of_getElem? (i := 42) (by decide +kernel), List.mem_of_getElem? (i := 323) (by decide +kernel), List.mem_of_getElem? (i := 324) (by decide +kernel)⟩
theorem lw_p4 : lw_okq (⟨"LaundryLoads$Tape", "readFigures", "()V"⟩, 7) := ⟨⟨by decide +kernel, by decide +kernel⟩, List.mem_of_getElem? (i := 42) (by decide +kernel), List.mem_of_getElem? (i := 327) (by decide +kernel), List.mem_of_getElem? (i := 328) (by decide +kernel)⟩
theorem lw_p5 : lw_okq (⟨"LaundryLoads$Tape", "readLaw", "(LLaundryLoads$Hall;)Z"⟩, 7) := ⟨⟨by decide +kernel, by decide +kernel⟩, List.mem_of_getElem? (i := 42) (by decide +kernel), List.mem_of_getElem? (i := 331) (by decide +kernel), List.mem_of_getElem? (i := 332) (by decide +kernel)⟩
theorem lw_p6 : lw_okq (⟨"LaundryLoads$Tape", "passes", "(I)Z"⟩, 7) := ⟨⟨by decide +kernel, by decide +kernel⟩, List.mem_of_getElem? (i := 42) (by decide +kernel), List.mem_of_getElem? (i := 335) (by decide +kernel), List.mem_of_getElem? (i := 336) (by decide +kernel)⟩
theorem lw_p7 : lw_okq (⟨"LaundryLoads$Tape", "failed", "(I)Z"⟩, 7) := ⟨⟨by decide +kernel, by decide +kernel⟩, List.mem_of_getElem? (i := 42) (by decide +kernel), List.mem_of_getElem? (i := 339) (by decide +kernel), List.mem_of_getElem? (i := 340) (by decide +kernel)⟩
theorem lw_p8 : lw_okq (⟨"LaundryLoads$Tape", "isNumber", "(II)Z"⟩, 7) := ⟨⟨by decide +kernel, by decide +kernel⟩, List.mem_of_getElem? (i := 42) (by decide +kernel), List.mem_of_getElem? (i := 343) (by decide +kernel), List.mem_of_getElem? (i := 344) (by decide +kernel)⟩
theorem lw_p9 : lw_okq (⟨"LaundryLoads$Tape", "takeNumber", "()I"⟩, 7) := ⟨⟨by decide +kernel, by decide +kernel⟩, List.mem_of_getElem? (i := 42) (by decide +kernel), List.mem_of_getElem? (i := 347) (by decide +kernel), List.mem_of_getElem? (i := 348) (by decide +kernel)⟩
theorem lw_p10 : lw_okq (⟨"LaundryLoads$Tape", "readMachines", "(LLaundryLoads$Hall;)Z"⟩, 7) := ⟨⟨by decide +kernel, by decide +kernel⟩, List.mem_of_getElem? (i := 42) (by decide +kernel), List.mem_of_getElem? (i := 351) (by decide +kernel), List.mem_of_getElem? (i := 352) (by decide +kernel)⟩
theorem lw_p11 : lw_okq (⟨"LaundryLoads$Tape", "readMachine", "(LLaundryLoads$Hall;)Z"⟩, 7) := ⟨⟨by decide +kernel, by decide +kernel⟩, List.mem_of_getElem? (i := 42) (by decide +kernel), List.mem_of_getElem? (i := 358) (by decide +kernel), List.mem_of_getElem? (i := 359) (by decide +kernel)⟩
theorem lw_p12 : lw_okq (⟨"LaundryLoads$Tape", "readLoads", "(LLaundryLoads$Hall;)Z"⟩, 7) := ⟨⟨by decide +kernel, by decide +kernel⟩, List.mem_of_getElem? (i := 42) (by decide +kernel), List.mem_of_getElem? (i := 366) (by decide +kernel), List.mem_of_getElem? (i := 367) (by decide +kernel)⟩
theorem lw_p13 : lw_okq (⟨"LaundryLoads$Tape", "readLoad", "(LLaundryLoads$Hall;)Z"⟩, 7) := ⟨⟨by decide +kernel, by decide +kernel⟩, List.mem_of_getElem? (i := 42) (by decide +kernel), List.mem_of_getElem? (i := 370) (by decide +kernel), List.mem_of_getElem? (i := 371) (by decide +kernel)⟩
theorem lw_p14 : lw_okq (⟨"LaundryLoads", "replaceHall", "(LLaundryLoads$Hall;)V"⟩, 10) := ⟨⟨by decide +kernel, by decide +kernel⟩, List.mem_of_getElem? (i := 13) (by decide +kernel), List.mem_of_getElem? (i := 383) (by decide +kernel), List.mem_of_getElem? (i := 384) (by decide +kernel)⟩
theorem lw_p15 : lw_okq (⟨"LaundryLoads", "beginAct", "()V"⟩, 10) := ⟨⟨by decide +kernel, by decide +kernel⟩, List.mem_of_getElem? (i := 13) (by decide +kernel), List.mem_of_getElem? (i := 418) (by decide +kernel), List.mem_of_getElem? (i := 419) (by decide +kernel)⟩
def lw_privs_1 : List (MethodName × Nat) := [(⟨"LaundryLoads", "found", "(I)I"⟩, 10), (⟨"LaundryLoads", "foundNothing", "(I)I"⟩, 10), (⟨"LaundryLoads$Tape", "toNextToken", "()V"⟩, 7), (⟨"LaundryLoads$Tape", "isFigure", "(I)Z"⟩, 7), (⟨"LaundryLoads$Tape", "readFigures", "()V"⟩, 7), (⟨"LaundryLoads$Tape", "readLaw", "(LLaundryLoads$Hall;)Z"⟩, 7), (⟨"LaundryLoads$Tape", "passes", "(I)Z"⟩, 7), (⟨"LaundryLoads$Tape", "failed", "(I)Z"⟩, 7), (⟨"LaundryLoads$Tape", "isNumber", "(II)Z"⟩, 7), (⟨"LaundryLoads$Tape", "takeNumber", "()I"⟩, 7), (⟨"LaundryLoads$Tape", "readMachines", "(LLaundryLoads$Hall;)Z"⟩, 7), (⟨"LaundryLoads$Tape", "readMachine", "(LLaundryLoads$Hall;)Z"⟩, 7), (⟨"LaundryLoads$Tape", "readLoads", "(LLaundryLoads$Hall;)Z"⟩, 7), (⟨"LaundryLoads$Tape", "readLoad", "(LLaundryLoads$Hall;)Z"⟩, 7), (⟨"LaundryLoads", "replaceHall", "(LLaundryLoads$Hall;)V"⟩, 10), (⟨"LaundryLoads", "beginAct", "()V"⟩, 10)]
theorem lw_r1 : ∀ q ∈ lw_privs_1, lw_okq q := List.forall_mem_cons.mpr ⟨lw_p0, List.forall_mem_cons.mpr ⟨lw_p1, List.forall_mem_cons.mpr ⟨lw_p2, List.forall_mem_cons.mpr ⟨lw_p3, List.forall_mem_cons.mpr ⟨lw_p4, List.forall_mem_cons.mpr ⟨lw_p5, List.forall_mem_cons.mpr ⟨lw_p6, List.forall_mem_cons.mpr ⟨lw_p7, List.forall_mem_cons.mpr ⟨lw_p8, List.forall_mem_cons.mpr ⟨lw_p9, List.forall_mem_cons.mpr ⟨lw_p10, List.forall_mem_cons.mpr ⟨lw_p11, List.forall_mem_cons.mpr ⟨lw_p12, List.forall_mem_cons.mpr ⟨lw_p13, List.forall_mem_cons.mpr ⟨lw_p14, List.forall_mem_cons.mpr ⟨lw_p15, fun _ h => absurd h List.not_mem_nil⟩⟩⟩⟩⟩⟩⟩⟩⟩⟩⟩⟩⟩⟩⟩⟩
theorem lw_p16 : lw_okq (⟨"LaundryLoads$Hall", "takeOut", "(I)V"⟩, 16) := ⟨⟨by decide +kernel, by decide +kernel⟩, List.mem_of_getElem? (i := 73) (by decide +kernel), List.mem_of_getElem? (i := 433) (by decide +kernel), List.mem_of_getElem? (i := 434) (by decide +kernel)⟩
theorem lw_p17 : lw_okq (⟨"LaundryLoads$Hall", "waitingFor", "(I)I"⟩, 16) := ⟨⟨by decide +kernel, by decide +kernel⟩, List.mem_of_getElem? (i := 73) (by decide +kernel), List.mem_of_getElem? (i := 446) (by decide +kernel), List.mem_of_getElem? (i := 447) (by decide +kernel)⟩
theorem lw_p18 : lw_okq (⟨"LaundryLoads$Hall", "putIn", "(II)V"⟩, 16) := ⟨⟨by decide +kernel, by decide +kernel⟩, List.mem_of_getElem? (i := 73) (by decide +kernel), List.mem_of_getElem? (i := 450) (by decide +kernel), List.mem_of_getElem? (i := 451) (by decide +kernel)⟩
theorem lw_p19 : lw_okq (⟨"LaundryLoads", "behind", "(I)LLaundryLoads$Hall;"⟩, 10) := ⟨⟨by decide +kernel, by decide +kernel⟩, List.mem_of_getElem? (i := 13) (by decide +kernel), List.mem_of_getElem? (i := 531) (by decide +kernel), List.mem_of_getElem? (i := 532) (by decide +kernel)⟩
theorem lw_p20 : lw_okq (⟨"LaundryLoads", "behindWithOpen", "(II)LLaundryLoads$Hall;"⟩, 10) := ⟨⟨by decide +kernel, by decide +kernel⟩, List.mem_of_getElem? (i := 13) (by decide +kernel), List.mem_of_getElem? (i := 535) (by decide +kernel), List.mem_of_getElem? (i := 536) (by decide +kernel)⟩
theorem lw_p21 : lw_okq (⟨"LaundryLoads", "asNow", "()LLaundryLoads$Hall;"⟩, 10) := ⟨⟨by decide +kernel, by decide +kernel⟩, List.mem_of_getElem? (i := 13) (by decide +kernel), List.mem_of_getElem? (i := 539) (by decide +kernel), List.mem_of_getElem? (i := 540) (by decide +kernel)⟩
theorem lw_p22 : lw_okq (⟨"LaundryLoads$Hall", "quietTicks", "(I)I"⟩, 16) := ⟨⟨by decide +kernel, by decide +kernel⟩, List.mem_of_getElem? (i := 73) (by decide +kernel), List.mem_of_getElem? (i := 548) (by decide +kernel), List.mem_of_getElem? (i := 549) (by decide +kernel)⟩
theorem lw_p23 : lw_okq (⟨"LaundryLoads$Hall", "passQuietTicks", "(I)V"⟩, 16) := ⟨⟨by decide +kernel, by decide +kernel⟩, List.mem_of_getElem? (i := 73) (by decide +kernel), List.mem_of_getElem? (i := 552) (by decide +kernel), List.mem_of_getElem? (i := 553) (by decide +kernel)⟩
theorem lw_p24 : lw_okq (⟨"LaundryLoads$Orders", "tryOne", "(LLaundryLoads$Hall;LLaundryLoads$Hall;IZ)V"⟩, 5) := ⟨⟨by decide +kernel, by decide +kernel⟩, List.mem_of_getElem? (i := 170) (by decide +kernel), List.mem_of_getElem? (i := 608) (by decide +kernel), List.mem_of_getElem? (i := 609) (by decide +kernel)⟩
theorem lw_p25 : lw_okq (⟨"LaundryLoads$Orders", "toNextOrder", "(I)Z"⟩, 5) := ⟨⟨by decide +kernel, by decide +kernel⟩, List.mem_of_getElem? (i := 170) (by decide +kernel), List.mem_of_getElem? (i := 616) (by decide +kernel), List.mem_of_getElem? (i := 617) (by decide +kernel)⟩
theorem lw_p26 : lw_okq (⟨"LaundryLoads$Orders", "swap", "(II)V"⟩, 5) := ⟨⟨by decide +kernel, by decide +kernel⟩, List.mem_of_getElem? (i := 170) (by decide +kernel), List.mem_of_getElem? (i := 620) (by decide +kernel), List.mem_of_getElem? (i := 621) (by decide +kernel)⟩
theorem lw_p27 : lw_okq (⟨"LaundryLoads", "weighShutting", "()V"⟩, 10) := ⟨⟨by decide +kernel, by decide +kernel⟩, List.mem_of_getElem? (i := 13) (by decide +kernel), List.mem_of_getElem? (i := 654) (by decide +kernel), List.mem_of_getElem? (i := 655) (by decide +kernel)⟩
theorem lw_p28 : lw_okq (⟨"LaundryLoads", "weighOpening", "()V"⟩, 10) := ⟨⟨by decide +kernel, by decide +kernel⟩, List.mem_of_getElem? (i := 13) (by decide +kernel), List.mem_of_getElem? (i := 659) (by decide +kernel), List.mem_of_getElem? (i := 660) (by decide +kernel)⟩
theorem lw_p29 : lw_okq (⟨"LaundryLoads", "fits", "(LLaundryLoads$Hall;III)Z"⟩, 10) := ⟨⟨by decide +kernel, by decide +kernel⟩, List.mem_of_getElem? (i := 13) (by decide +kernel), List.mem_of_getElem? (i := 675) (by decide +kernel), List.mem_of_getElem? (i := 676) (by decide +kernel)⟩
theorem lw_p30 : lw_okq (⟨"LaundryLoads", "casesOfStayingOpen", "(II)J"⟩, 10) := ⟨⟨by decide +kernel, by decide +kernel⟩, List.mem_of_getElem? (i := 13) (by decide +kernel), List.mem_of_getElem? (i := 688) (by decide +kernel), List.mem_of_getElem? (i := 689) (by decide +kernel)⟩
theorem lw_p31 : lw_okq (⟨"LaundryLoads$Asks", "answer", "(LLaundryLoads$Hall;III)I"⟩, 2) := ⟨⟨by decide +kernel, by decide +kernel⟩, List.mem_of_getElem? (i := 194) (by decide +kernel), List.mem_of_getElem? (i := 748) (by decide +kernel), List.mem_of_getElem? (i := 749) (by decide +kernel)⟩
def lw_privs_2 : List (MethodName × Nat) := [(⟨"LaundryLoads$Hall", "takeOut", "(I)V"⟩, 16), (⟨"LaundryLoads$Hall", "waitingFor", "(I)I"⟩, 16), (⟨"LaundryLoads$Hall", "putIn", "(II)V"⟩, 16), (⟨"LaundryLoads", "behind", "(I)LLaundryLoads$Hall;"⟩, 10), (⟨"LaundryLoads", "behindWithOpen", "(II)LLaundryLoads$Hall;"⟩, 10), (⟨"LaundryLoads", "asNow", "()LLaundryLoads$Hall;"⟩, 10), (⟨"LaundryLoads$Hall", "quietTicks", "(I)I"⟩, 16), (⟨"LaundryLoads$Hall", "passQuietTicks", "(I)V"⟩, 16), (⟨"LaundryLoads$Orders", "tryOne", "(LLaundryLoads$Hall;LLaundryLoads$Hall;IZ)V"⟩, 5), (⟨"LaundryLoads$Orders", "toNextOrder", "(I)Z"⟩, 5), (⟨"LaundryLoads$Orders", "swap", "(II)V"⟩, 5), (⟨"LaundryLoads", "weighShutting", "()V"⟩, 10), (⟨"LaundryLoads", "weighOpening", "()V"⟩, 10), (⟨"LaundryLoads", "fits", "(LLaundryLoads$Hall;III)Z"⟩, 10), (⟨"LaundryLoads", "casesOfStayingOpen", "(II)J"⟩, 10), (⟨"LaundryLoads$Asks", "answer", "(LLaundryLoads$Hall;III)I"⟩, 2)]
theorem lw_r2 : ∀ q ∈ lw_privs_2, lw_okq q := List.forall_mem_cons.mpr ⟨lw_p16, List.forall_mem_cons.mpr ⟨lw_p17, List.forall_mem_cons.mpr ⟨lw_p18, List.forall_mem_cons.mpr ⟨lw_p19, List.forall_mem_cons.mpr ⟨lw_p20, List.forall_mem_cons.mpr ⟨lw_p21, List.forall_mem_cons.mpr ⟨lw_p22, List.forall_mem_cons.mpr ⟨lw_p23, List.forall_mem_cons.mpr ⟨lw_p24, List.forall_mem_cons.mpr ⟨lw_p25, List.forall_mem_cons.mpr ⟨lw_p26, List.forall_mem_cons.mpr ⟨lw_p27, List.forall_mem_cons.mpr ⟨lw_p28, List.forall_mem_cons.mpr ⟨lw_p29, List.forall_mem_cons.mpr ⟨lw_p30, List.forall_mem_cons.mpr ⟨lw_p31, fun _ h => absurd h List.not_mem_nil⟩⟩⟩⟩⟩⟩⟩⟩⟩⟩⟩⟩⟩⟩⟩⟩
theorem lw_p32 : lw_okq (⟨"LaundryLoads$Asks", "leave", "(I)V"⟩, 2) := ⟨⟨by decide +kernel, by decide +kernel⟩, List.mem_of_getElem? (i := 194) (by decide +kernel), List.mem_of_getElem? (i := 752) (by decide +kernel), List.mem_of_getElem? (i := 753) (by decide +kernel)⟩
theorem lw_p33 : lw_okq (⟨"LaundryLoadsModel", "found", "(I)I"⟩, 30) := ⟨⟨by decide +kernel, by decide +kernel⟩, List.mem_of_getElem? (i := 772) (by decide +kernel), List.mem_of_getElem? (i := 881) (by decide +kernel), List.mem_of_getElem? (i := 882) (by decide +kernel)⟩
theorem lw_p34 : lw_okq (⟨"LaundryLoadsModel", "well", "(I)I"⟩, 30) := ⟨⟨by decide +kernel, by decide +kernel⟩, List.mem_of_getElem? (i := 772) (by decide +kernel), List.mem_of_getElem? (i := 886) (by decide +kernel), List.mem_of_getElem? (i := 887) (by decide +kernel)⟩
theorem lw_p35 : lw_okq (⟨"LaundryLoadsModel", "isPart", "(III)Z"⟩, 30) := ⟨⟨by decide +kernel, by decide +kernel⟩, List.mem_of_getElem? (i := 772) (by decide +kernel), List.mem_of_getElem? (i := 898) (by decide +kernel), List.mem_of_getElem? (i := 899) (by decide +kernel)⟩
theorem lw_p36 : lw_okq (⟨"LaundryLoadsModel", "reads", "()V"⟩, 30) := ⟨⟨by decide +kernel, by decide +kernel⟩, List.mem_of_getElem? (i := 772) (by decide +kernel), List.mem_of_getElem? (i := 915) (by decide +kernel), List.mem_of_getElem? (i := 916) (by decide +kernel)⟩
theorem lw_p37 : lw_okq (⟨"LaundryLoadsModel", "advances", "()V"⟩, 30) := ⟨⟨by decide +kernel, by decide +kernel⟩, List.mem_of_getElem? (i := 772) (by decide +kernel), List.mem_of_getElem? (i := 919) (by decide +kernel), List.mem_of_getElem? (i := 920) (by decide +kernel)⟩
theorem lw_p38 : lw_okq (⟨"LaundryLoadsModel", "letterAt", "(I)I"⟩, 30) := ⟨⟨by decide +kernel, by decide +kernel⟩, List.mem_of_getElem? (i := 772) (by decide +kernel), List.mem_of_getElem? (i := 923) (by decide +kernel), List.mem_of_getElem? (i := 924) (by decide +kernel)⟩
theorem lw_p39 : lw_okq (⟨"LaundryLoadsModel", "takes", "(II)V"⟩, 30) := ⟨⟨by decide +kernel, by decide +kernel⟩, List.mem_of_getElem? (i := 772) (by decide +kernel), List.mem_of_getElem? (i := 927) (by decide +kernel), List.mem_of_getElem? (i := 928) (by decide +kernel)⟩
theorem lw_p40 : lw_okq (⟨"LaundryLoadsModel", "isWell", "()Z"⟩, 30) := ⟨⟨by decide +kernel, by decide +kernel⟩, List.mem_of_getElem? (i := 772) (by decide +kernel), List.mem_of_getElem? (i := 931) (by decide +kernel), List.mem_of_getElem? (i := 932) (by decide +kernel)⟩
theorem lw_p41 : lw_okq (⟨"LaundryLoadsModel", "faulty", "(I)V"⟩, 30) := ⟨⟨by decide +kernel, by decide +kernel⟩, List.mem_of_getElem? (i := 772) (by decide +kernel), List.mem_of_getElem? (i := 935) (by decide +kernel), List.mem_of_getElem? (i := 936) (by decide +kernel)⟩
theorem lw_p42 : lw_okq (⟨"LaundryLoadsModel", "number", "(II)I"⟩, 30) := ⟨⟨by decide +kernel, by decide +kernel⟩, List.mem_of_getElem? (i := 772) (by decide +kernel), List.mem_of_getElem? (i := 939) (by decide +kernel), List.mem_of_getElem? (i := 940) (by decide +kernel)⟩
theorem lw_p43 : lw_okq (⟨"LaundryLoadsModel", "readsMachine", "()V"⟩, 30) := ⟨⟨by decide +kernel, by decide +kernel⟩, List.mem_of_getElem? (i := 772) (by decide +kernel), List.mem_of_getElem? (i := 946) (by decide +kernel), List.mem_of_getElem? (i := 947) (by decide +kernel)⟩
theorem lw_p44 : lw_okq (⟨"LaundryLoadsModel", "readsLoad", "()V"⟩, 30) := ⟨⟨by decide +kernel, by decide +kernel⟩, List.mem_of_getElem? (i := 772) (by decide +kernel), List.mem_of_getElem? (i := 950) (by decide +kernel), List.mem_of_getElem? (i := 951) (by decide +kernel)⟩
theorem lw_p45 : lw_okq (⟨"LaundryLoadsModel", "isNothing", "()Z"⟩, 30) := ⟨⟨by decide +kernel, by decide +kernel⟩, List.mem_of_getElem? (i := 772) (by decide +kernel), List.mem_of_getElem? (i := 968) (by decide +kernel), List.mem_of_getElem? (i := 969) (by decide +kernel)⟩
theorem lw_p46 : lw_okq (⟨"LaundryLoadsModel", "ranksByNumber", "()V"⟩, 30) := ⟨⟨by decide +kernel, by decide +kernel⟩, List.mem_of_getElem? (i := 772) (by decide +kernel), List.mem_of_getElem? (i := 972) (by decide +kernel), List.mem_of_getElem? (i := 973) (by decide +kernel)⟩
theorem lw_p47 : lw_okq (⟨"LaundryLoadsModel", "notes", "()V"⟩, 30) := ⟨⟨by decide +kernel, by decide +kernel⟩, List.mem_of_getElem? (i := 772) (by decide +kernel), List.mem_of_getElem? (i := 976) (by decide +kernel), List.mem_of_getElem? (i := 977) (by decide +kernel)⟩
def lw_privs_3 : List (MethodName × Nat) := [(⟨"LaundryLoads$Asks", "leave", "(I)V"⟩, 2), (⟨"LaundryLoadsModel", "found", "(I)I"⟩, 30), (⟨"LaundryLoadsModel", "well", "(I)I"⟩, 30), (⟨"LaundryLoadsModel", "isPart", "(III)Z"⟩, 30), (⟨"LaundryLoadsModel", "reads", "()V"⟩, 30), (⟨"LaundryLoadsModel", "advances", "()V"⟩, 30), (⟨"LaundryLoadsModel", "letterAt", "(I)I"⟩, 30), (⟨"LaundryLoadsModel", "takes", "(II)V"⟩, 30), (⟨"LaundryLoadsModel", "isWell", "()Z"⟩, 30), (⟨"LaundryLoadsModel", "faulty", "(I)V"⟩, 30), (⟨"LaundryLoadsModel", "number", "(II)I"⟩, 30), (⟨"LaundryLoadsModel", "readsMachine", "()V"⟩, 30), (⟨"LaundryLoadsModel", "readsLoad", "()V"⟩, 30), (⟨"LaundryLoadsModel", "isNothing", "()Z"⟩, 30), (⟨"LaundryLoadsModel", "ranksByNumber", "()V"⟩, 30), (⟨"LaundryLoadsModel", "notes", "()V"⟩, 30)]
theorem lw_r3 : ∀ q ∈ lw_privs_3, lw_okq q := List.forall_mem_cons.mpr ⟨lw_p32, List.forall_mem_cons.mpr ⟨lw_p33, List.forall_mem_cons.mpr ⟨lw_p34, List.forall_mem_cons.mpr ⟨lw_p35, List.forall_mem_cons.mpr ⟨lw_p36, List.forall_mem_cons.mpr ⟨lw_p37, List.forall_mem_cons.mpr ⟨lw_p38, List.forall_mem_cons.mpr ⟨lw_p39, List.forall_mem_cons.mpr ⟨lw_p40, List.forall_mem_cons.mpr ⟨lw_p41, List.forall_mem_cons.mpr ⟨lw_p42, List.forall_mem_cons.mpr ⟨lw_p43, List.forall_mem_cons.mpr ⟨lw_p44, List.forall_mem_cons.mpr ⟨lw_p45, List.forall_mem_cons.mpr ⟨lw_p46, List.forall_mem_cons.mpr ⟨lw_p47, fun _ h => absurd h List.not_mem_nil⟩⟩⟩⟩⟩⟩⟩⟩⟩⟩⟩⟩⟩⟩⟩⟩
theorem lw_p48 : lw_okq (⟨"LaundryLoadsModel", "ticksOne", "([I[I)V"⟩, 30) := ⟨⟨by decide +kernel, by decide +kernel⟩, List.mem_of_getElem? (i := 772) (by decide +kernel), List.mem_of_getElem? (i := 980) (by decide +kernel), List.mem_of_getElem? (i := 981) (by decide +kernel)⟩
theorem lw_p49 : lw_okq (⟨"LaundryLoadsModel", "comesOut", "([I[II)V"⟩, 30) := ⟨⟨by decide +kernel, by decide +kernel⟩, List.mem_of_getElem? (i := 772) (by decide +kernel), List.mem_of_getElem? (i := 984) (by decide +kernel), List.mem_of_getElem? (i := 985) (by decide +kernel)⟩
theorem lw_p50 : lw_okq (⟨"LaundryLoadsModel", "waits", "([I[II)I"⟩, 30) := ⟨⟨by decide +kernel, by decide +kernel⟩, List.mem_of_getElem? (i := 772) (by decide +kernel), List.mem_of_getElem? (i := 994) (by decide +kernel), List.mem_of_getElem? (i := 995) (by decide +kernel)⟩
theorem lw_p51 : lw_okq (⟨"LaundryLoadsModel", "howAll", "([II)I"⟩, 30) := ⟨⟨by decide +kernel, by decide +kernel⟩, List.mem_of_getElem? (i := 772) (by decide +kernel), List.mem_of_getElem? (i := 1001) (by decide +kernel), List.mem_of_getElem? (i := 1002) (by decide +kernel)⟩
theorem lw_p52 : lw_okq (⟨"LaundryLoadsModel", "isMachine", "(I)Z"⟩, 30) := ⟨⟨by decide +kernel, by decide +kernel⟩, List.mem_of_getElem? (i := 772) (by decide +kernel), List.mem_of_getElem? (i := 1009) (by decide +kernel), List.mem_of_getElem? (i := 1010) (by decide +kernel)⟩
theorem lw_p53 : lw_okq (⟨"LaundryLoadsModel", "isLoad", "(I)Z"⟩, 30) := ⟨⟨by decide +kernel, by decide +kernel⟩, List.mem_of_getElem? (i := 772) (by decide +kernel), List.mem_of_getElem? (i := 1021) (by decide +kernel), List.mem_of_getElem? (i := 1022) (by decide +kernel)⟩
theorem lw_p54 : lw_okq (⟨"LaundryLoadsModel", "withLoads", "()I"⟩, 30) := ⟨⟨by decide +kernel, by decide +kernel⟩, List.mem_of_getElem? (i := 772) (by decide +kernel), List.mem_of_getElem? (i := 1049) (by decide +kernel), List.mem_of_getElem? (i := 1050) (by decide +kernel)⟩
theorem lw_p55 : lw_okq (⟨"LaundryLoadsModel", "goesAhead", "(I)V"⟩, 30) := ⟨⟨by decide +kernel, by decide +kernel⟩, List.mem_of_getElem? (i := 772) (by decide +kernel), List.mem_of_getElem? (i := 1057) (by decide +kernel), List.mem_of_getElem? (i := 1058) (by decide +kernel)⟩
theorem lw_p56 : lw_okq (⟨"LaundryLoadsModel", "asNow", "()V"⟩, 30) := ⟨⟨by decide +kernel, by decide +kernel⟩, List.mem_of_getElem? (i := 772) (by decide +kernel), List.mem_of_getElem? (i := 1061) (by decide +kernel), List.mem_of_getElem? (i := 1062) (by decide +kernel)⟩
theorem lw_p57 : lw_okq (⟨"LaundryLoadsModel", "foretells", "(I)V"⟩, 30) := ⟨⟨by decide +kernel, by decide +kernel⟩, List.mem_of_getElem? (i := 772) (by decide +kernel), List.mem_of_getElem? (i := 1065) (by decide +kernel), List.mem_of_getElem? (i := 1066) (by decide +kernel)⟩
theorem lw_p58 : lw_okq (⟨"LaundryLoadsModel", "lateAll", "([I)I"⟩, 30) := ⟨⟨by decide +kernel, by decide +kernel⟩, List.mem_of_getElem? (i := 772) (by decide +kernel), List.mem_of_getElem? (i := 1077) (by decide +kernel), List.mem_of_getElem? (i := 1078) (by decide +kernel)⟩
theorem lw_p59 : lw_okq (⟨"LaundryLoadsModel", "isSo", "(II)Z"⟩, 30) := ⟨⟨by decide +kernel, by decide +kernel⟩, List.mem_of_getElem? (i := 772) (by decide +kernel), List.mem_of_getElem? (i := 1085) (by decide +kernel), List.mem_of_getElem? (i := 1086) (by decide +kernel)⟩
theorem lw_p60 : lw_okq (⟨"LaundryLoadsModel", "isAllDry", "()Z"⟩, 30) := ⟨⟨by decide +kernel, by decide +kernel⟩, List.mem_of_getElem? (i := 772) (by decide +kernel), List.mem_of_getElem? (i := 1093) (by decide +kernel), List.mem_of_getElem? (i := 1094) (by decide +kernel)⟩
theorem lw_p61 : lw_okq (⟨"LaundryLoadsModel", "nextOrder", "()Z"⟩, 30) := ⟨⟨by decide +kernel, by decide +kernel⟩, List.mem_of_getElem? (i := 772) (by decide +kernel), List.mem_of_getElem? (i := 1104) (by decide +kernel), List.mem_of_getElem? (i := 1105) (by decide +kernel)⟩
theorem lw_p62 : lw_okq (⟨"LaundryLoadsModel", "trades", "(II)V"⟩, 30) := ⟨⟨by decide +kernel, by decide +kernel⟩, List.mem_of_getElem? (i := 772) (by decide +kernel), List.mem_of_getElem? (i := 1108) (by decide +kernel), List.mem_of_getElem? (i := 1109) (by decide +kernel)⟩
theorem lw_p63 : lw_okq (⟨"LaundryLoadsModel", "doneAll", "()I"⟩, 30) := ⟨⟨by decide +kernel, by decide +kernel⟩, List.mem_of_getElem? (i := 772) (by decide +kernel), List.mem_of_getElem? (i := 1128) (by decide +kernel), List.mem_of_getElem? (i := 1129) (by decide +kernel)⟩
def lw_privs_4 : List (MethodName × Nat) := [(⟨"LaundryLoadsModel", "ticksOne", "([I[I)V"⟩, 30), (⟨"LaundryLoadsModel", "comesOut", "([I[II)V"⟩, 30), (⟨"LaundryLoadsModel", "waits", "([I[II)I"⟩, 30), (⟨"LaundryLoadsModel", "howAll", "([II)I"⟩, 30), (⟨"LaundryLoadsModel", "isMachine", "(I)Z"⟩, 30), (⟨"LaundryLoadsModel", "isLoad", "(I)Z"⟩, 30), (⟨"LaundryLoadsModel", "withLoads", "()I"⟩, 30), (⟨"LaundryLoadsModel", "goesAhead", "(I)V"⟩, 30), (⟨"LaundryLoadsModel", "asNow", "()V"⟩, 30), (⟨"LaundryLoadsModel", "foretells", "(I)V"⟩, 30), (⟨"LaundryLoadsModel", "lateAll", "([I)I"⟩, 30), (⟨"LaundryLoadsModel", "isSo", "(II)Z"⟩, 30), (⟨"LaundryLoadsModel", "isAllDry", "()Z"⟩, 30), (⟨"LaundryLoadsModel", "nextOrder", "()Z"⟩, 30), (⟨"LaundryLoadsModel", "trades", "(II)V"⟩, 30), (⟨"LaundryLoadsModel", "doneAll", "()I"⟩, 30)]
theorem lw_r4 : ∀ q ∈ lw_privs_4, lw_okq q := List.forall_mem_cons.mpr ⟨lw_p48, List.forall_mem_cons.mpr ⟨lw_p49, List.forall_mem_cons.mpr ⟨lw_p50, List.forall_mem_cons.mpr ⟨lw_p51, List.forall_mem_cons.mpr ⟨lw_p52, List.forall_mem_cons.mpr ⟨lw_p53, List.forall_mem_cons.mpr ⟨lw_p54, List.forall_mem_cons.mpr ⟨lw_p55, List.forall_mem_cons.mpr ⟨lw_p56, List.forall_mem_cons.mpr ⟨lw_p57, List.forall_mem_cons.mpr ⟨lw_p58, List.forall_mem_cons.mpr ⟨lw_p59, List.forall_mem_cons.mpr ⟨lw_p60, List.forall_mem_cons.mpr ⟨lw_p61, List.forall_mem_cons.mpr ⟨lw_p62, List.forall_mem_cons.mpr ⟨lw_p63, fun _ h => absurd h List.not_mem_nil⟩⟩⟩⟩⟩⟩⟩⟩⟩⟩⟩⟩⟩⟩⟩⟩
theorem lw_p64 : lw_okq (⟨"LaundryLoadsModel", "openBy", "(II)I"⟩, 30) := ⟨⟨by decide +kernel, by decide +kernel⟩, List.mem_of_getElem? (i := 772) (by decide +kernel), List.mem_of_getElem? (i := 1136) (by decide +kernel), List.mem_of_getElem? (i := 1137) (by decide +kernel)⟩
theorem lw_p65 : lw_okq (⟨"LaundryLoadsModel", "against", "(III)I"⟩, 30) := ⟨⟨by decide +kernel, by decide +kernel⟩, List.mem_of_getElem? (i := 772) (by decide +kernel), List.mem_of_getElem? (i := 1144) (by decide +kernel), List.mem_of_getElem? (i := 1145) (by decide +kernel)⟩
theorem lw_p66 : lw_okq (⟨"LaundryLoadsModel", "goesSo", "(III)Z"⟩, 30) := ⟨⟨by decide +kernel, by decide +kernel⟩, List.mem_of_getElem? (i := 772) (by decide +kernel), List.mem_of_getElem? (i := 1148) (by decide +kernel), List.mem_of_getElem? (i := 1149) (by decide +kernel)⟩
theorem lw_p67 : lw_okq (⟨"LaundryLoadsModel", "washerSize", "(I)I"⟩, 30) := ⟨⟨by decide +kernel, by decide +kernel⟩, List.mem_of_getElem? (i := 772) (by decide +kernel), List.mem_of_getElem? (i := 1195) (by decide +kernel), List.mem_of_getElem? (i := 1196) (by decide +kernel)⟩
theorem lw_p68 : lw_okq (⟨"LaundryLoadsModel", "leaves", "(I)V"⟩, 30) := ⟨⟨by decide +kernel, by decide +kernel⟩, List.mem_of_getElem? (i := 772) (by decide +kernel), List.mem_of_getElem? (i := 1199) (by decide +kernel), List.mem_of_getElem? (i := 1200) (by decide +kernel)⟩
theorem lw_p69 : lw_okq (⟨"LaundryLoadsModel", "lentRoom", "(I)I"⟩, 30) := ⟨⟨by decide +kernel, by decide +kernel⟩, List.mem_of_getElem? (i := 772) (by decide +kernel), List.mem_of_getElem? (i := 1203) (by decide +kernel), List.mem_of_getElem? (i := 1204) (by decide +kernel)⟩
theorem lw_p70 : lw_okq (⟨"LaundryLoadsModel", "washerMark", "(I)I"⟩, 30) := ⟨⟨by decide +kernel, by decide +kernel⟩, List.mem_of_getElem? (i := 772) (by decide +kernel), List.mem_of_getElem? (i := 1207) (by decide +kernel), List.mem_of_getElem? (i := 1208) (by decide +kernel)⟩
theorem lw_p71 : lw_okq (⟨"LaundryLoadsModel", "lentNumber", "(I)I"⟩, 30) := ⟨⟨by decide +kernel, by decide +kernel⟩, List.mem_of_getElem? (i := 772) (by decide +kernel), List.mem_of_getElem? (i := 1211) (by decide +kernel), List.mem_of_getElem? (i := 1212) (by decide +kernel)⟩
theorem lw_p72 : lw_okq (⟨"LaundryLoadsModel", "dryerSize", "(I)I"⟩, 30) := ⟨⟨by decide +kernel, by decide +kernel⟩, List.mem_of_getElem? (i := 772) (by decide +kernel), List.mem_of_getElem? (i := 1215) (by decide +kernel), List.mem_of_getElem? (i := 1216) (by decide +kernel)⟩
theorem lw_p73 : lw_okq (⟨"LaundryLoadsModel", "dryerMark", "(I)I"⟩, 30) := ⟨⟨by decide +kernel, by decide +kernel⟩, List.mem_of_getElem? (i := 772) (by decide +kernel), List.mem_of_getElem? (i := 1219) (by decide +kernel), List.mem_of_getElem? (i := 1220) (by decide +kernel)⟩
theorem lw_p74 : lw_okq (⟨"LaundryLoadsModel", "rowsThere", "()I"⟩, 30) := ⟨⟨by decide +kernel, by decide +kernel⟩, List.mem_of_getElem? (i := 772) (by decide +kernel), List.mem_of_getElem? (i := 1231) (by decide +kernel), List.mem_of_getElem? (i := 1232) (by decide +kernel)⟩
def lw_privs_5 : List (MethodName × Nat) := [(⟨"LaundryLoadsModel", "openBy", "(II)I"⟩, 30), (⟨"LaundryLoadsModel", "against", "(III)I"⟩, 30), (⟨"LaundryLoadsModel", "goesSo", "(III)Z"⟩, 30), (⟨"LaundryLoadsModel", "washerSize", "(I)I"⟩, 30), (⟨"LaundryLoadsModel", "leaves", "(I)V"⟩, 30), (⟨"LaundryLoadsModel", "lentRoom", "(I)I"⟩, 30), (⟨"LaundryLoadsModel", "washerMark", "(I)I"⟩, 30), (⟨"LaundryLoadsModel", "lentNumber", "(I)I"⟩, 30), (⟨"LaundryLoadsModel", "dryerSize", "(I)I"⟩, 30), (⟨"LaundryLoadsModel", "dryerMark", "(I)I"⟩, 30), (⟨"LaundryLoadsModel", "rowsThere", "()I"⟩, 30)]
theorem lw_r5 : ∀ q ∈ lw_privs_5, lw_okq q := List.forall_mem_cons.mpr ⟨lw_p64, List.forall_mem_cons.mpr ⟨lw_p65, List.forall_mem_cons.mpr ⟨lw_p66, List.forall_mem_cons.mpr ⟨lw_p67, List.forall_mem_cons.mpr ⟨lw_p68, List.forall_mem_cons.mpr ⟨lw_p69, List.forall_mem_cons.mpr ⟨lw_p70, List.forall_mem_cons.mpr ⟨lw_p71, List.forall_mem_cons.mpr ⟨lw_p72, List.forall_mem_cons.mpr ⟨lw_p73, List.forall_mem_cons.mpr ⟨lw_p74, fun _ h => absurd h List.not_mem_nil⟩⟩⟩⟩⟩⟩⟩⟩⟩⟩⟩
def lw_privs : List (MethodName × Nat) := lw_privs_1 ++ (lw_privs_2 ++ (lw_privs_3 ++ (lw_privs_4 ++ (lw_privs_5))))
def lw_tbl : List Cond := k2_sels lw_privs ++ tables_1
theorem lw_privs_ok : ∀ q ∈ lw_privs, lw_okq q := by
  show ∀ q ∈ lw_privs_1 ++ (lw_privs_2 ++ (lw_privs_3 ++ (lw_privs_4 ++ (lw_privs_5)))), lw_okq q
  exact List.forall_mem_append.mpr ⟨lw_r1, List.forall_mem_append.mpr ⟨lw_r2, List.forall_mem_append.mpr ⟨lw_r3, List.forall_mem_append.mpr ⟨lw_r4, lw_r5⟩⟩⟩⟩
end
section
def RX0 : String := "LaundryLoads$Acts"
def TX0 : u_T := fun k => match k with
  | 0 => ("LaundryLoads$Acts", "before", "[LLaundryLoads$Hall;", true)
  | 1 => ("LaundryLoads$Acts", "kept", "I", false)
  | _ => ("LaundryLoads$Acts", "newest", "I", false)
def tyX0 : Nat → FieldType := fun k => match k with
  | 0 => .array (.object "LaundryLoads$Hall")
  | 1 => .int
  | _ => .int
abbrev wsX00 : List Cond := u_ws RX0 TX0 3
theorem nmX0 : ∀ a, a < 3 → ∀ b, b < 3 → a ≠ b → (TX0 a).2.1 ≠ (TX0 b).2.1 := by decide +kernel
theorem tyX0_ok : ∀ k, k < 3 → parseFieldDescriptor (TX0 k).2.2.1 = some (tyX0 k) := by decide +kernel
abbrev cX0_init : ByteArray := prog_2_method_1_code
def yX0_init : MethodName := ⟨RX0, "<init>", "()V"⟩
abbrev cX0_keep : ByteArray := prog_2_method_2_code
def yX0_keep : MethodName := ⟨RX0, "keep", "(LLaundryLoads$Hall;)V"⟩
abbrev cX0_takeBack : ByteArray := prog_2_method_3_code
def yX0_takeBack : MethodName := ⟨RX0, "takeBack", "(LLaundryLoads$Hall;)V"⟩
def RX1 : String := "LaundryLoads$Asks"
def TX1 : u_T := fun k => match k with
  | 0 => ("LaundryLoads$Asks", "numbers", "[I", true)
  | _ => ("LaundryLoads$Asks", "traced", "I", false)
def tyX1 : Nat → FieldType := fun k => match k with
  | 0 => .array .int
  | _ => .int
abbrev wsX10 : List Cond := u_ws RX1 TX1 2
theorem nmX1 : ∀ a, a < 2 → ∀ b, b < 2 → a ≠ b → (TX1 a).2.1 ≠ (TX1 b).2.1 := by decide +kernel
theorem tyX1_ok : ∀ k, k < 2 → parseFieldDescriptor (TX1 k).2.2.1 = some (tyX1 k) := by decide +kernel
abbrev cX1_init : ByteArray := prog_3_method_1_code
def yX1_init : MethodName := ⟨RX1, "<init>", "()V"⟩
abbrev cX1_begin : ByteArray := prog_3_method_2_code
def yX1_begin : MethodName := ⟨RX1, "begin", "(LLaundryLoads$Hall;II)I"⟩
abbrev cX1_bodyFor : ByteArray := prog_3_method_3_code
def yX1_bodyFor : MethodName := ⟨RX1, "bodyFor", "(II)I"⟩
abbrev cX1_answer : ByteArray := prog_3_method_4_code
def yX1_answer : MethodName := ⟨RX1, "answer", "(LLaundryLoads$Hall;III)I"⟩
abbrev cX1_leave : ByteArray := prog_3_method_5_code
def yX1_leave : MethodName := ⟨RX1, "leave", "(I)V"⟩
def RX2 : String := "LaundryLoads$Hall"
def TX2 : u_T := fun k => match k with
  | 0 => ("LaundryLoads$Hall", "power", "I", false)
  | 1 => ("LaundryLoads$Hall", "tick", "I", false)
  | 2 => ("LaundryLoads$Hall", "machines", "I", false)
  | 3 => ("LaundryLoads$Hall", "loads", "I", false)
  | 4 => ("LaundryLoads$Hall", "openBits", "I", false)
  | 5 => ("LaundryLoads$Hall", "kinds", "[I", true)
  | 6 => ("LaundryLoads$Hall", "rooms", "[I", true)
  | 7 => ("LaundryLoads$Hall", "slows", "[I", true)
  | 8 => ("LaundryLoads$Hall", "holds", "[I", true)
  | 9 => ("LaundryLoads$Hall", "left", "[I", true)
  | 10 => ("LaundryLoads$Hall", "done", "[I", true)
  | 11 => ("LaundryLoads$Hall", "sizes", "[I", true)
  | 12 => ("LaundryLoads$Hall", "dues", "[I", true)
  | 13 => ("LaundryLoads$Hall", "hows", "[I", true)
  | 14 => ("LaundryLoads$Hall", "ends", "[I", true)
  | _ => ("LaundryLoads$Hall", "ranks", "[I", true)
def tyX2 : Nat → FieldType := fun k => match k with
  | 0 => .int
  | 1 => .int
  | 2 => .int
  | 3 => .int
  | 4 => .int
  | 5 => .array .int
  | 6 => .array .int
  | 7 => .array .int
  | 8 => .array .int
  | 9 => .array .int
  | 10 => .array .int
  | 11 => .array .int
  | 12 => .array .int
  | 13 => .array .int
  | 14 => .array .int
  | _ => .array .int
abbrev wsX20 : List Cond := u_ws RX2 TX2 16
theorem nmX2 : ∀ a, a < 16 → ∀ b, b < 16 → a ≠ b → (TX2 a).2.1 ≠ (TX2 b).2.1 := by decide +kernel
theorem tyX2_ok : ∀ k, k < 16 → parseFieldDescriptor (TX2 k).2.2.1 = some (tyX2 k) := by decide +kernel
abbrev cX2_init : ByteArray := prog_4_method_1_code
def yX2_init : MethodName := ⟨RX2, "<init>", "()V"⟩
abbrev cX2_clear : ByteArray := prog_4_method_2_code
def yX2_clear : MethodName := ⟨RX2, "clear", "()V"⟩
abbrev cX2_become : ByteArray := prog_4_method_3_code
def yX2_become : MethodName := ⟨RX2, "become", "(LLaundryLoads$Hall;)V"⟩
abbrev cX2_addMachine : ByteArray := prog_4_method_4_code
def yX2_addMachine : MethodName := ⟨RX2, "addMachine", "(III)V"⟩
abbrev cX2_addLoad : ByteArray := prog_4_method_5_code
def yX2_addLoad : MethodName := ⟨RX2, "addLoad", "(II)V"⟩
abbrev cX2_isNone : ByteArray := prog_4_method_6_code
def yX2_isNone : MethodName := ⟨RX2, "isNone", "()Z"⟩
abbrev cX2_hasMachine : ByteArray := prog_4_method_7_code
def yX2_hasMachine : MethodName := ⟨RX2, "hasMachine", "(I)Z"⟩
abbrev cX2_hasLoad : ByteArray := prog_4_method_8_code
def yX2_hasLoad : MethodName := ⟨RX2, "hasLoad", "(I)Z"⟩
abbrev cX2_isOpen : ByteArray := prog_4_method_9_code
def yX2_isOpen : MethodName := ⟨RX2, "isOpen", "(I)Z"⟩
abbrev cX2_turn : ByteArray := prog_4_method_10_code
def yX2_turn : MethodName := ⟨RX2, "turn", "(I)V"⟩
abbrev cX2_dirty : ByteArray := prog_4_method_11_code
def yX2_dirty : MethodName := ⟨RX2, "dirty", "(II)V"⟩
abbrev cX2_alter : ByteArray := prog_4_method_12_code
def yX2_alter : MethodName := ⟨RX2, "alter", "(III)V"⟩
abbrev cX2_washes : ByteArray := prog_4_method_13_code
def yX2_washes : MethodName := ⟨RX2, "washes", "(I)Z"⟩
abbrev cX2_lastsWith : ByteArray := prog_4_method_14_code
def yX2_lastsWith : MethodName := ⟨RX2, "lastsWith", "(II)I"⟩
abbrev cX2_passTick : ByteArray := prog_4_method_15_code
def yX2_passTick : MethodName := ⟨RX2, "passTick", "()V"⟩
abbrev cX2_passTicks : ByteArray := prog_4_method_16_code
def yX2_passTicks : MethodName := ⟨RX2, "passTicks", "(I)V"⟩
abbrev cX2_quietTicks : ByteArray := prog_4_method_17_code
def yX2_quietTicks : MethodName := ⟨RX2, "quietTicks", "(I)I"⟩
abbrev cX2_passQuietTicks : ByteArray := prog_4_method_18_code
def yX2_passQuietTicks : MethodName := ⟨RX2, "passQuietTicks", "(I)V"⟩
abbrev cX2_takeOut : ByteArray := prog_4_method_19_code
def yX2_takeOut : MethodName := ⟨RX2, "takeOut", "(I)V"⟩
abbrev cX2_putIn : ByteArray := prog_4_method_20_code
def yX2_putIn : MethodName := ⟨RX2, "putIn", "(II)V"⟩
abbrev cX2_waitingFor : ByteArray := prog_4_method_21_code
def yX2_waitingFor : MethodName := ⟨RX2, "waitingFor", "(I)I"⟩
abbrev cX2_draw : ByteArray := prog_4_method_22_code
def yX2_draw : MethodName := ⟨RX2, "draw", "(I)V"⟩
abbrev cX2_loadIn : ByteArray := prog_4_method_23_code
def yX2_loadIn : MethodName := ⟨RX2, "loadIn", "(I)I"⟩
abbrev cX2_isWashed : ByteArray := prog_4_method_24_code
def yX2_isWashed : MethodName := ⟨RX2, "isWashed", "(I)Z"⟩
abbrev cX2_lateOf : ByteArray := prog_4_method_25_code
def yX2_lateOf : MethodName := ⟨RX2, "lateOf", "(I)I"⟩
abbrev cX2_lateOfAll : ByteArray := prog_4_method_26_code
def yX2_lateOfAll : MethodName := ⟨RX2, "lateOfAll", "()I"⟩
abbrev cX2_whichAre : ByteArray := prog_4_method_27_code
def yX2_whichAre : MethodName := ⟨RX2, "whichAre", "(I)I"⟩
abbrev cX2_howManyAre : ByteArray := prog_4_method_28_code
def yX2_howManyAre : MethodName := ⟨RX2, "howManyAre", "(I)I"⟩
abbrev cX2_isAllDry : ByteArray := prog_4_method_29_code
def yX2_isAllDry : MethodName := ⟨RX2, "isAllDry", "()Z"⟩
abbrev cX2_busyBits : ByteArray := prog_4_method_30_code
def yX2_busyBits : MethodName := ⟨RX2, "busyBits", "()I"⟩
abbrev cX2_doneOfAll : ByteArray := prog_4_method_31_code
def yX2_doneOfAll : MethodName := ⟨RX2, "doneOfAll", "()I"⟩
abbrev cX2_sizeOfAll : ByteArray := prog_4_method_32_code
def yX2_sizeOfAll : MethodName := ⟨RX2, "sizeOfAll", "(I)I"⟩
def RX3 : String := "LaundryLoads$Orders"
def TX3 : u_T := fun k => match k with
  | 0 => ("LaundryLoads$Orders", "best", "[I", true)
  | 1 => ("LaundryLoads$Orders", "bestLate", "I", false)
  | 2 => ("LaundryLoads$Orders", "bestDry", "I", false)
  | 3 => ("LaundryLoads$Orders", "foundFor", "I", false)
  | _ => ("LaundryLoads$Orders", "tried", "[I", true)
def tyX3 : Nat → FieldType := fun k => match k with
  | 0 => .array .int
  | 1 => .int
  | 2 => .int
  | 3 => .int
  | _ => .array .int
abbrev wsX30 : List Cond := u_ws RX3 TX3 5
theorem nmX3 : ∀ a, a < 5 → ∀ b, b < 5 → a ≠ b → (TX3 a).2.1 ≠ (TX3 b).2.1 := by decide +kernel
theorem tyX3_ok : ∀ k, k < 5 → parseFieldDescriptor (TX3 k).2.2.1 = some (tyX3 k) := by decide +kernel
abbrev cX3_init : ByteArray := prog_5_method_1_code
def yX3_init : MethodName := ⟨RX3, "<init>", "()V"⟩
abbrev cX3_forget : ByteArray := prog_5_method_2_code
def yX3_forget : MethodName := ⟨RX3, "forget", "()V"⟩
abbrev cX3_find : ByteArray := prog_5_method_3_code
def yX3_find : MethodName := ⟨RX3, "find", "(LLaundryLoads$Hall;LLaundryLoads$Hall;I)V"⟩
abbrev cX3_tryOne : ByteArray := prog_5_method_4_code
def yX3_tryOne : MethodName := ⟨RX3, "tryOne", "(LLaundryLoads$Hall;LLaundryLoads$Hall;IZ)V"⟩
abbrev cX3_toNextOrder : ByteArray := prog_5_method_5_code
def yX3_toNextOrder : MethodName := ⟨RX3, "toNextOrder", "(I)Z"⟩
abbrev cX3_swap : ByteArray := prog_5_method_6_code
def yX3_swap : MethodName := ⟨RX3, "swap", "(II)V"⟩
def RX4 : String := "LaundryLoads$Rows"
def TX4 : u_T := fun k => match k with
  | 0 => ("LaundryLoads$Rows", "lanes", "[I", true)
  | 1 => ("LaundryLoads$Rows", "lengths", "[I", true)
  | _ => ("LaundryLoads$Rows", "items", "[[I", true)
def tyX4 : Nat → FieldType := fun k => match k with
  | 0 => .array .int
  | 1 => .array .int
  | _ => .array (.array .int)
abbrev wsX40 : List Cond := u_ws RX4 TX4 3
theorem nmX4 : ∀ a, a < 3 → ∀ b, b < 3 → a ≠ b → (TX4 a).2.1 ≠ (TX4 b).2.1 := by decide +kernel
theorem tyX4_ok : ∀ k, k < 3 → parseFieldDescriptor (TX4 k).2.2.1 = some (tyX4 k) := by decide +kernel
abbrev cX4_init : ByteArray := prog_6_method_1_code
def yX4_init : MethodName := ⟨RX4, "<init>", "()V"⟩
abbrev cX4_isOne : ByteArray := prog_6_method_2_code
def yX4_isOne : MethodName := ⟨RX4, "isOne", "(I)Z"⟩
abbrev cX4_isMissing : ByteArray := prog_6_method_3_code
def yX4_isMissing : MethodName := ⟨RX4, "isMissing", "(I)Z"⟩
abbrev cX4_hasPlaces : ByteArray := prog_6_method_4_code
def yX4_hasPlaces : MethodName := ⟨RX4, "hasPlaces", "(III)Z"⟩
abbrev cX4_findingOf : ByteArray := prog_6_method_5_code
def yX4_findingOf : MethodName := ⟨RX4, "findingOf", "(III)I"⟩
abbrev cX4_make : ByteArray := prog_6_method_6_code
def yX4_make : MethodName := ⟨RX4, "make", "(III)V"⟩
abbrev cX4_put : ByteArray := prog_6_method_7_code
def yX4_put : MethodName := ⟨RX4, "put", "(III)I"⟩
abbrev cX4_remove : ByteArray := prog_6_method_8_code
def yX4_remove : MethodName := ⟨RX4, "remove", "(I)I"⟩
abbrev cX4_howMany : ByteArray := prog_6_method_9_code
def yX4_howMany : MethodName := ⟨RX4, "howMany", "()I"⟩
def RX5 : String := "LaundryLoads$Tape"
def TX5 : u_T := fun k => match k with
  | 0 => ("LaundryLoads$Tape", "bytes", "[I", true)
  | 1 => ("LaundryLoads$Tape", "length", "I", false)
  | 2 => ("LaundryLoads$Tape", "token", "I", false)
  | 3 => ("LaundryLoads$Tape", "place", "I", false)
  | 4 => ("LaundryLoads$Tape", "next", "I", false)
  | 5 => ("LaundryLoads$Tape", "number", "I", false)
  | _ => ("LaundryLoads$Tape", "latestFault", "I", false)
def tyX5 : Nat → FieldType := fun k => match k with
  | 0 => .array .int
  | 1 => .int
  | 2 => .int
  | 3 => .int
  | 4 => .int
  | 5 => .int
  | _ => .int
abbrev wsX50 : List Cond := u_ws RX5 TX5 7
theorem nmX5 : ∀ a, a < 7 → ∀ b, b < 7 → a ≠ b → (TX5 a).2.1 ≠ (TX5 b).2.1 := by decide +kernel
theorem tyX5_ok : ∀ k, k < 7 → parseFieldDescriptor (TX5 k).2.2.1 = some (tyX5 k) := by decide +kernel
abbrev cX5_init : ByteArray := prog_7_method_1_code
def yX5_init : MethodName := ⟨RX5, "<init>", "()V"⟩
abbrev cX5_takeIn : ByteArray := prog_7_method_2_code
def yX5_takeIn : MethodName := ⟨RX5, "takeIn", "(I)Z"⟩
abbrev cX5_readInto : ByteArray := prog_7_method_3_code
def yX5_readInto : MethodName := ⟨RX5, "readInto", "(LLaundryLoads$Hall;)Z"⟩
abbrev cX5_readLaw : ByteArray := prog_7_method_4_code
def yX5_readLaw : MethodName := ⟨RX5, "readLaw", "(LLaundryLoads$Hall;)Z"⟩
abbrev cX5_readMachines : ByteArray := prog_7_method_5_code
def yX5_readMachines : MethodName := ⟨RX5, "readMachines", "(LLaundryLoads$Hall;)Z"⟩
abbrev cX5_readMachine : ByteArray := prog_7_method_6_code
def yX5_readMachine : MethodName := ⟨RX5, "readMachine", "(LLaundryLoads$Hall;)Z"⟩
abbrev cX5_readLoads : ByteArray := prog_7_method_7_code
def yX5_readLoads : MethodName := ⟨RX5, "readLoads", "(LLaundryLoads$Hall;)Z"⟩
abbrev cX5_readLoad : ByteArray := prog_7_method_8_code
def yX5_readLoad : MethodName := ⟨RX5, "readLoad", "(LLaundryLoads$Hall;)Z"⟩
abbrev cX5_kindOfLetter : ByteArray := prog_7_method_9_code
def yX5_kindOfLetter : MethodName := ⟨RX5, "kindOfLetter", "(I)I"⟩
abbrev cX5_failed : ByteArray := prog_7_method_10_code
def yX5_failed : MethodName := ⟨RX5, "failed", "(I)Z"⟩
abbrev cX5_passes : ByteArray := prog_7_method_11_code
def yX5_passes : MethodName := ⟨RX5, "passes", "(I)Z"⟩
abbrev cX5_isNumber : ByteArray := prog_7_method_12_code
def yX5_isNumber : MethodName := ⟨RX5, "isNumber", "(II)Z"⟩
abbrev cX5_takeNumber : ByteArray := prog_7_method_13_code
def yX5_takeNumber : MethodName := ⟨RX5, "takeNumber", "()I"⟩
abbrev cX5_toNextToken : ByteArray := prog_7_method_14_code
def yX5_toNextToken : MethodName := ⟨RX5, "toNextToken", "()V"⟩
abbrev cX5_readFigures : ByteArray := prog_7_method_15_code
def yX5_readFigures : MethodName := ⟨RX5, "readFigures", "()V"⟩
abbrev cX5_isFigure : ByteArray := prog_7_method_16_code
def yX5_isFigure : MethodName := ⟨RX5, "isFigure", "(I)Z"⟩
def RX6 : String := "LaundryLoads"
def TX6 : u_T := fun k => match k with
  | 0 => ("LaundryLoads", "rows", "LLaundryLoads$Rows;", true)
  | 1 => ("LaundryLoads", "tape", "LLaundryLoads$Tape;", true)
  | 2 => ("LaundryLoads", "hall", "LLaundryLoads$Hall;", true)
  | 3 => ("LaundryLoads", "guess", "LLaundryLoads$Hall;", true)
  | 4 => ("LaundryLoads", "acts", "LLaundryLoads$Acts;", true)
  | 5 => ("LaundryLoads", "images", "[LLaundryLoads$Hall;", true)
  | 6 => ("LaundryLoads", "orders", "LLaundryLoads$Orders;", true)
  | 7 => ("LaundryLoads", "asks", "LLaundryLoads$Asks;", true)
  | 8 => ("LaundryLoads", "dryByOpen", "[I", true)
  | _ => ("LaundryLoads", "latestFinding", "I", false)
def tyX6 : Nat → FieldType := fun k => match k with
  | 0 => .object "LaundryLoads$Rows"
  | 1 => .object "LaundryLoads$Tape"
  | 2 => .object "LaundryLoads$Hall"
  | 3 => .object "LaundryLoads$Hall"
  | 4 => .object "LaundryLoads$Acts"
  | 5 => .array (.object "LaundryLoads$Hall")
  | 6 => .object "LaundryLoads$Orders"
  | 7 => .object "LaundryLoads$Asks"
  | 8 => .array .int
  | _ => .int
abbrev wsX60 : List Cond := u_ws RX6 TX6 10
theorem nmX6 : ∀ a, a < 10 → ∀ b, b < 10 → a ≠ b → (TX6 a).2.1 ≠ (TX6 b).2.1 := by decide +kernel
theorem tyX6_ok : ∀ k, k < 10 → parseFieldDescriptor (TX6 k).2.2.1 = some (tyX6 k) := by decide +kernel
abbrev cX6_init : ByteArray := prog_1_method_1_code
def yX6_init : MethodName := ⟨RX6, "<init>", "()V"⟩
abbrev cX6_row : ByteArray := prog_1_method_2_code
def yX6_row : MethodName := ⟨RX6, "row", "(III)I"⟩
abbrev cX6_set : ByteArray := prog_1_method_3_code
def yX6_set : MethodName := ⟨RX6, "set", "(III)I"⟩
abbrev cX6_copy : ByteArray := prog_1_method_4_code
def yX6_copy : MethodName := ⟨RX6, "copy", "(IIIII)I"⟩
abbrev cX6_drop : ByteArray := prog_1_method_5_code
def yX6_drop : MethodName := ⟨RX6, "drop", "(I)I"⟩
abbrev cX6_found : ByteArray := prog_1_method_6_code
def yX6_found : MethodName := ⟨RX6, "found", "(I)I"⟩
abbrev cX6_foundNothing : ByteArray := prog_1_method_7_code
def yX6_foundNothing : MethodName := ⟨RX6, "foundNothing", "(I)I"⟩
abbrev cX6_feed : ByteArray := prog_1_method_8_code
def yX6_feed : MethodName := ⟨RX6, "feed", "(I)I"⟩
abbrev cX6_launderette : ByteArray := prog_1_method_9_code
def yX6_launderette : MethodName := ⟨RX6, "launderette", "()I"⟩
abbrev cX6_fault : ByteArray := prog_1_method_10_code
def yX6_fault : MethodName := ⟨RX6, "fault", "()I"⟩
abbrev cX6_undo : ByteArray := prog_1_method_11_code
def yX6_undo : MethodName := ⟨RX6, "undo", "()I"⟩
abbrev cX6_beginAct : ByteArray := prog_1_method_12_code
def yX6_beginAct : MethodName := ⟨RX6, "beginAct", "()V"⟩
abbrev cX6_replaceHall : ByteArray := prog_1_method_13_code
def yX6_replaceHall : MethodName := ⟨RX6, "replaceHall", "(LLaundryLoads$Hall;)V"⟩
abbrev cX6_ticks : ByteArray := prog_1_method_14_code
def yX6_ticks : MethodName := ⟨RX6, "ticks", "(I)I"⟩
abbrev cX6_shut : ByteArray := prog_1_method_15_code
def yX6_shut : MethodName := ⟨RX6, "shut", "(I)I"⟩
abbrev cX6_power : ByteArray := prog_1_method_16_code
def yX6_power : MethodName := ⟨RX6, "power", "(I)I"⟩
abbrev cX6_due : ByteArray := prog_1_method_17_code
def yX6_due : MethodName := ⟨RX6, "due", "(II)I"⟩
abbrev cX6_again : ByteArray := prog_1_method_18_code
def yX6_again : MethodName := ⟨RX6, "again", "(II)I"⟩
abbrev cX6_machine : ByteArray := prog_1_method_19_code
def yX6_machine : MethodName := ⟨RX6, "machine", "(II)I"⟩
abbrev cX6_load : ByteArray := prog_1_method_20_code
def yX6_load : MethodName := ⟨RX6, "load", "(II)I"⟩
abbrev cX6_lasts : ByteArray := prog_1_method_21_code
def yX6_lasts : MethodName := ⟨RX6, "lasts", "(II)I"⟩
abbrev cX6_stand : ByteArray := prog_1_method_22_code
def yX6_stand : MethodName := ⟨RX6, "stand", "(I)I"⟩
abbrev cX6_ahead : ByteArray := prog_1_method_23_code
def yX6_ahead : MethodName := ⟨RX6, "ahead", "(III)I"⟩
abbrev cX6_inside : ByteArray := prog_1_method_24_code
def yX6_inside : MethodName := ⟨RX6, "inside", "(III)I"⟩
abbrev cX6_all : ByteArray := prog_1_method_25_code
def yX6_all : MethodName := ⟨RX6, "all", "(II)I"⟩
abbrev cX6_when : ByteArray := prog_1_method_26_code
def yX6_when : MethodName := ⟨RX6, "when", "(II)I"⟩
abbrev cX6_over : ByteArray := prog_1_method_27_code
def yX6_over : MethodName := ⟨RX6, "over", "()I"⟩
abbrev cX6_order : ByteArray := prog_1_method_28_code
def yX6_order : MethodName := ⟨RX6, "order", "(II)I"⟩
abbrev cX6_need : ByteArray := prog_1_method_29_code
def yX6_need : MethodName := ⟨RX6, "need", "(I)I"⟩
abbrev cX6_open : ByteArray := prog_1_method_30_code
def yX6_open : MethodName := ⟨RX6, "open", "(II)I"⟩
abbrev cX6_fills : ByteArray := prog_1_method_31_code
def yX6_fills : MethodName := ⟨RX6, "fills", "(II)I"⟩
abbrev cX6_share : ByteArray := prog_1_method_32_code
def yX6_share : MethodName := ⟨RX6, "share", "(II)I"⟩
abbrev cX6_byTurns : ByteArray := prog_1_method_33_code
def yX6_byTurns : MethodName := ⟨RX6, "byTurns", "(II)I"⟩
abbrev cX6_weighShutting : ByteArray := prog_1_method_34_code
def yX6_weighShutting : MethodName := ⟨RX6, "weighShutting", "()V"⟩
abbrev cX6_weighOpening : ByteArray := prog_1_method_35_code
def yX6_weighOpening : MethodName := ⟨RX6, "weighOpening", "()V"⟩
abbrev cX6_who : ByteArray := prog_1_method_36_code
def yX6_who : MethodName := ⟨RX6, "who", "(IIIII)I"⟩
abbrev cX6_sizes : ByteArray := prog_1_method_37_code
def yX6_sizes : MethodName := ⟨RX6, "sizes", "(IIII)I"⟩
abbrev cX6_breaks : ByteArray := prog_1_method_38_code
def yX6_breaks : MethodName := ⟨RX6, "breaks", "(IIII)J"⟩
abbrev cX6_casesOfStayingOpen : ByteArray := prog_1_method_39_code
def yX6_casesOfStayingOpen : MethodName := ⟨RX6, "casesOfStayingOpen", "(II)J"⟩
abbrev cX6_greatestDivisor : ByteArray := prog_1_method_40_code
def yX6_greatestDivisor : MethodName := ⟨RX6, "greatestDivisor", "(JJ)J"⟩
abbrev cX6_drawn : ByteArray := prog_1_method_41_code
def yX6_drawn : MethodName := ⟨RX6, "drawn", "(III)I"⟩
abbrev cX6_image : ByteArray := prog_1_method_42_code
def yX6_image : MethodName := ⟨RX6, "image", "(I)I"⟩
abbrev cX6_restore : ByteArray := prog_1_method_43_code
def yX6_restore : MethodName := ⟨RX6, "restore", "(I)I"⟩
abbrev cX6_isPlanned : ByteArray := prog_1_method_44_code
def yX6_isPlanned : MethodName := ⟨RX6, "isPlanned", "(I)Z"⟩
abbrev cX6_isTold : ByteArray := prog_1_method_45_code
def yX6_isTold : MethodName := ⟨RX6, "isTold", "(I)Z"⟩
abbrev cX6_asNow : ByteArray := prog_1_method_46_code
def yX6_asNow : MethodName := ⟨RX6, "asNow", "()LLaundryLoads$Hall;"⟩
abbrev cX6_behind : ByteArray := prog_1_method_47_code
def yX6_behind : MethodName := ⟨RX6, "behind", "(I)LLaundryLoads$Hall;"⟩
abbrev cX6_behindWithOpen : ByteArray := prog_1_method_48_code
def yX6_behindWithOpen : MethodName := ⟨RX6, "behindWithOpen", "(II)LLaundryLoads$Hall;"⟩
abbrev cX6_fits : ByteArray := prog_1_method_49_code
def yX6_fits : MethodName := ⟨RX6, "fits", "(LLaundryLoads$Hall;III)Z"⟩
abbrev cX6_kind : ByteArray := prog_1_method_50_code
def yX6_kind : MethodName := ⟨RX6, "kind", "(I)I"⟩
abbrev cX6_as : ByteArray := prog_1_method_51_code
def yX6_as : MethodName := ⟨RX6, "as", "(II)I"⟩
abbrev cX6_isOfKind : ByteArray := prog_1_method_52_code
def yX6_isOfKind : MethodName := ⟨RX6, "isOfKind", "(II)Z"⟩
abbrev cX6_ask : ByteArray := prog_1_method_53_code
def yX6_ask : MethodName := ⟨RX6, "ask", "(II)I"⟩
abbrev cX6_trace : ByteArray := prog_1_method_54_code
def yX6_trace : MethodName := ⟨RX6, "trace", "(I)I"⟩
abbrev cX6_count : ByteArray := prog_1_method_55_code
def yX6_count : MethodName := ⟨RX6, "count", "(I)I"⟩
abbrev cX6_status : ByteArray := prog_1_method_56_code
def yX6_status : MethodName := ⟨RX6, "status", "()I"⟩
def RX7 : String := "LaundryLoadsModel"
def TX7 : u_T := fun k => match k with
  | 0 => ("LaundryLoadsModel", "thrown", "I", false)
  | 1 => ("LaundryLoadsModel", "rows", "[I", true)
  | 2 => ("LaundryLoadsModel", "lane", "[I", true)
  | 3 => ("LaundryLoadsModel", "rowSize", "[I", true)
  | 4 => ("LaundryLoadsModel", "statusLast", "I", false)
  | 5 => ("LaundryLoadsModel", "tape", "[I", true)
  | 6 => ("LaundryLoadsModel", "taped", "I", false)
  | 7 => ("LaundryLoadsModel", "next", "I", false)
  | 8 => ("LaundryLoadsModel", "begun", "I", false)
  | 9 => ("LaundryLoadsModel", "token", "I", false)
  | 10 => ("LaundryLoadsModel", "value", "I", false)
  | 11 => ("LaundryLoadsModel", "kindOfFault", "I", false)
  | 12 => ("LaundryLoadsModel", "faultPlace", "I", false)
  | 13 => ("LaundryLoadsModel", "faultLast", "I", false)
  | 14 => ("LaundryLoadsModel", "draft", "[I", true)
  | 15 => ("LaundryLoadsModel", "draftNow", "[I", true)
  | 16 => ("LaundryLoadsModel", "d", "[I", true)
  | 17 => ("LaundryLoadsModel", "s", "[I", true)
  | 18 => ("LaundryLoadsModel", "e", "[I", true)
  | 19 => ("LaundryLoadsModel", "w", "[I", true)
  | 20 => ("LaundryLoadsModel", "rank", "[I", true)
  | 21 => ("LaundryLoadsModel", "cameDry", "I", false)
  | 22 => ("LaundryLoadsModel", "undos", "[I", true)
  | 23 => ("LaundryLoadsModel", "undoMany", "I", false)
  | 24 => ("LaundryLoadsModel", "kept", "[I", true)
  | 25 => ("LaundryLoadsModel", "isKept", "[Z", true)
  | 26 => ("LaundryLoadsModel", "traced", "[I", true)
  | 27 => ("LaundryLoadsModel", "traceMany", "I", false)
  | 28 => ("LaundryLoadsModel", "value6", "[I", true)
  | _ => ("LaundryLoadsModel", "best", "[I", true)
def tyX7 : Nat → FieldType := fun k => match k with
  | 0 => .int
  | 1 => .array .int
  | 2 => .array .int
  | 3 => .array .int
  | 4 => .int
  | 5 => .array .int
  | 6 => .int
  | 7 => .int
  | 8 => .int
  | 9 => .int
  | 10 => .int
  | 11 => .int
  | 12 => .int
  | 13 => .int
  | 14 => .array .int
  | 15 => .array .int
  | 16 => .array .int
  | 17 => .array .int
  | 18 => .array .int
  | 19 => .array .int
  | 20 => .array .int
  | 21 => .int
  | 22 => .array .int
  | 23 => .int
  | 24 => .array .int
  | 25 => .array .boolean
  | 26 => .array .int
  | 27 => .int
  | 28 => .array .int
  | _ => .array .int
abbrev wsX70 : List Cond := u_ws RX7 TX7 30
theorem nmX7 : ∀ a, a < 30 → ∀ b, b < 30 → a ≠ b → (TX7 a).2.1 ≠ (TX7 b).2.1 := by decide +kernel
theorem tyX7_ok : ∀ k, k < 30 → parseFieldDescriptor (TX7 k).2.2.1 = some (tyX7 k) := by decide +kernel
abbrev cX7_init : ByteArray := prog_9_method_1_code
def yX7_init : MethodName := ⟨RX7, "<init>", "()V"⟩
abbrev cX7_in : ByteArray := prog_9_method_3_code
def yX7_in : MethodName := ⟨RX7, "in", "(III)Z"⟩
abbrev cX7_has : ByteArray := prog_9_method_4_code
def yX7_has : MethodName := ⟨RX7, "has", "(II)Z"⟩
abbrev cX7_ones : ByteArray := prog_9_method_5_code
def yX7_ones : MethodName := ⟨RX7, "ones", "(I)I"⟩
abbrev cX7_found : ByteArray := prog_9_method_6_code
def yX7_found : MethodName := ⟨RX7, "found", "(I)I"⟩
abbrev cX7_well : ByteArray := prog_9_method_7_code
def yX7_well : MethodName := ⟨RX7, "well", "(I)I"⟩
abbrev cX7_isRow : ByteArray := prog_9_method_8_code
def yX7_isRow : MethodName := ⟨RX7, "isRow", "(I)Z"⟩
abbrev cX7_row : ByteArray := prog_9_method_9_code
def yX7_row : MethodName := ⟨RX7, "row", "(III)I"⟩
abbrev cX7_set : ByteArray := prog_9_method_10_code
def yX7_set : MethodName := ⟨RX7, "set", "(III)I"⟩
abbrev cX7_isPart : ByteArray := prog_9_method_11_code
def yX7_isPart : MethodName := ⟨RX7, "isPart", "(III)Z"⟩
abbrev cX7_copy : ByteArray := prog_9_method_12_code
def yX7_copy : MethodName := ⟨RX7, "copy", "(IIIII)I"⟩
abbrev cX7_drop : ByteArray := prog_9_method_13_code
def yX7_drop : MethodName := ⟨RX7, "drop", "(I)I"⟩
abbrev cX7_feed : ByteArray := prog_9_method_14_code
def yX7_feed : MethodName := ⟨RX7, "feed", "(I)I"⟩
abbrev cX7_letterAt : ByteArray := prog_9_method_15_code
def yX7_letterAt : MethodName := ⟨RX7, "letterAt", "(I)I"⟩
abbrev cX7_advances : ByteArray := prog_9_method_16_code
def yX7_advances : MethodName := ⟨RX7, "advances", "()V"⟩
abbrev cX7_isWell : ByteArray := prog_9_method_17_code
def yX7_isWell : MethodName := ⟨RX7, "isWell", "()Z"⟩
abbrev cX7_faulty : ByteArray := prog_9_method_18_code
def yX7_faulty : MethodName := ⟨RX7, "faulty", "(I)V"⟩
abbrev cX7_number : ByteArray := prog_9_method_19_code
def yX7_number : MethodName := ⟨RX7, "number", "(II)I"⟩
abbrev cX7_takes : ByteArray := prog_9_method_20_code
def yX7_takes : MethodName := ⟨RX7, "takes", "(II)V"⟩
abbrev cX7_kindOf : ByteArray := prog_9_method_21_code
def yX7_kindOf : MethodName := ⟨RX7, "kindOf", "(I)I"⟩
abbrev cX7_readsMachine : ByteArray := prog_9_method_22_code
def yX7_readsMachine : MethodName := ⟨RX7, "readsMachine", "()V"⟩
abbrev cX7_readsLoad : ByteArray := prog_9_method_23_code
def yX7_readsLoad : MethodName := ⟨RX7, "readsLoad", "()V"⟩
abbrev cX7_reads : ByteArray := prog_9_method_24_code
def yX7_reads : MethodName := ⟨RX7, "reads", "()V"⟩
abbrev cX7_launderette : ByteArray := prog_9_method_25_code
def yX7_launderette : MethodName := ⟨RX7, "launderette", "()I"⟩
abbrev cX7_fault : ByteArray := prog_9_method_26_code
def yX7_fault : MethodName := ⟨RX7, "fault", "()I"⟩
abbrev cX7_isNothing : ByteArray := prog_9_method_27_code
def yX7_isNothing : MethodName := ⟨RX7, "isNothing", "()Z"⟩
abbrev cX7_isMachine : ByteArray := prog_9_method_28_code
def yX7_isMachine : MethodName := ⟨RX7, "isMachine", "(I)Z"⟩
abbrev cX7_isLoad : ByteArray := prog_9_method_29_code
def yX7_isLoad : MethodName := ⟨RX7, "isLoad", "(I)Z"⟩
abbrev cX7_washes : ByteArray := prog_9_method_30_code
def yX7_washes : MethodName := ⟨RX7, "washes", "(I)Z"⟩
abbrev cX7_lastsOf : ByteArray := prog_9_method_31_code
def yX7_lastsOf : MethodName := ⟨RX7, "lastsOf", "([I[III)I"⟩
abbrev cX7_comesOut : ByteArray := prog_9_method_32_code
def yX7_comesOut : MethodName := ⟨RX7, "comesOut", "([I[II)V"⟩
abbrev cX7_waits : ByteArray := prog_9_method_33_code
def yX7_waits : MethodName := ⟨RX7, "waits", "([I[II)I"⟩
abbrev cX7_ticksOne : ByteArray := prog_9_method_34_code
def yX7_ticksOne : MethodName := ⟨RX7, "ticksOne", "([I[I)V"⟩
abbrev cX7_ranksByNumber : ByteArray := prog_9_method_35_code
def yX7_ranksByNumber : MethodName := ⟨RX7, "ranksByNumber", "()V"⟩
abbrev cX7_asNow : ByteArray := prog_9_method_36_code
def yX7_asNow : MethodName := ⟨RX7, "asNow", "()V"⟩
abbrev cX7_foretells : ByteArray := prog_9_method_37_code
def yX7_foretells : MethodName := ⟨RX7, "foretells", "(I)V"⟩
abbrev cX7_goesAhead : ByteArray := prog_9_method_38_code
def yX7_goesAhead : MethodName := ⟨RX7, "goesAhead", "(I)V"⟩
abbrev cX7_lateOf : ByteArray := prog_9_method_39_code
def yX7_lateOf : MethodName := ⟨RX7, "lateOf", "([II)I"⟩
abbrev cX7_lateAll : ByteArray := prog_9_method_40_code
def yX7_lateAll : MethodName := ⟨RX7, "lateAll", "([I)I"⟩
abbrev cX7_howAll : ByteArray := prog_9_method_41_code
def yX7_howAll : MethodName := ⟨RX7, "howAll", "([II)I"⟩
abbrev cX7_isAllDry : ByteArray := prog_9_method_42_code
def yX7_isAllDry : MethodName := ⟨RX7, "isAllDry", "()Z"⟩
abbrev cX7_notes : ByteArray := prog_9_method_43_code
def yX7_notes : MethodName := ⟨RX7, "notes", "()V"⟩
abbrev cX7_undo : ByteArray := prog_9_method_44_code
def yX7_undo : MethodName := ⟨RX7, "undo", "()I"⟩
abbrev cX7_ticks : ByteArray := prog_9_method_45_code
def yX7_ticks : MethodName := ⟨RX7, "ticks", "(I)I"⟩
abbrev cX7_shut : ByteArray := prog_9_method_46_code
def yX7_shut : MethodName := ⟨RX7, "shut", "(I)I"⟩
abbrev cX7_power : ByteArray := prog_9_method_47_code
def yX7_power : MethodName := ⟨RX7, "power", "(I)I"⟩
abbrev cX7_due : ByteArray := prog_9_method_48_code
def yX7_due : MethodName := ⟨RX7, "due", "(II)I"⟩
abbrev cX7_again : ByteArray := prog_9_method_49_code
def yX7_again : MethodName := ⟨RX7, "again", "(II)I"⟩
abbrev cX7_machine : ByteArray := prog_9_method_50_code
def yX7_machine : MethodName := ⟨RX7, "machine", "(II)I"⟩
abbrev cX7_load : ByteArray := prog_9_method_51_code
def yX7_load : MethodName := ⟨RX7, "load", "(II)I"⟩
abbrev cX7_lasts : ByteArray := prog_9_method_52_code
def yX7_lasts : MethodName := ⟨RX7, "lasts", "(II)I"⟩
abbrev cX7_withLoads : ByteArray := prog_9_method_53_code
def yX7_withLoads : MethodName := ⟨RX7, "withLoads", "()I"⟩
abbrev cX7_stand : ByteArray := prog_9_method_54_code
def yX7_stand : MethodName := ⟨RX7, "stand", "(I)I"⟩
abbrev cX7_ahead : ByteArray := prog_9_method_55_code
def yX7_ahead : MethodName := ⟨RX7, "ahead", "(III)I"⟩
abbrev cX7_inside : ByteArray := prog_9_method_56_code
def yX7_inside : MethodName := ⟨RX7, "inside", "(III)I"⟩
abbrev cX7_all : ByteArray := prog_9_method_57_code
def yX7_all : MethodName := ⟨RX7, "all", "(II)I"⟩
abbrev cX7_isSo : ByteArray := prog_9_method_58_code
def yX7_isSo : MethodName := ⟨RX7, "isSo", "(II)Z"⟩
abbrev cX7_when : ByteArray := prog_9_method_59_code
def yX7_when : MethodName := ⟨RX7, "when", "(II)I"⟩
abbrev cX7_over : ByteArray := prog_9_method_60_code
def yX7_over : MethodName := ⟨RX7, "over", "()I"⟩
abbrev cX7_trades : ByteArray := prog_9_method_61_code
def yX7_trades : MethodName := ⟨RX7, "trades", "(II)V"⟩
abbrev cX7_nextOrder : ByteArray := prog_9_method_62_code
def yX7_nextOrder : MethodName := ⟨RX7, "nextOrder", "()Z"⟩
abbrev cX7_order : ByteArray := prog_9_method_63_code
def yX7_order : MethodName := ⟨RX7, "order", "(II)I"⟩
abbrev cX7_need : ByteArray := prog_9_method_64_code
def yX7_need : MethodName := ⟨RX7, "need", "(I)I"⟩
abbrev cX7_open : ByteArray := prog_9_method_65_code
def yX7_open : MethodName := ⟨RX7, "open", "(II)I"⟩
abbrev cX7_fills : ByteArray := prog_9_method_66_code
def yX7_fills : MethodName := ⟨RX7, "fills", "(II)I"⟩
abbrev cX7_doneAll : ByteArray := prog_9_method_67_code
def yX7_doneAll : MethodName := ⟨RX7, "doneAll", "()I"⟩
abbrev cX7_share : ByteArray := prog_9_method_68_code
def yX7_share : MethodName := ⟨RX7, "share", "(II)I"⟩
abbrev cX7_openBy : ByteArray := prog_9_method_69_code
def yX7_openBy : MethodName := ⟨RX7, "openBy", "(II)I"⟩
abbrev cX7_byTurns : ByteArray := prog_9_method_70_code
def yX7_byTurns : MethodName := ⟨RX7, "byTurns", "(II)I"⟩
abbrev cX7_against : ByteArray := prog_9_method_71_code
def yX7_against : MethodName := ⟨RX7, "against", "(III)I"⟩
abbrev cX7_goesSo : ByteArray := prog_9_method_72_code
def yX7_goesSo : MethodName := ⟨RX7, "goesSo", "(III)Z"⟩
abbrev cX7_who : ByteArray := prog_9_method_73_code
def yX7_who : MethodName := ⟨RX7, "who", "(IIIII)I"⟩
abbrev cX7_sizes : ByteArray := prog_9_method_74_code
def yX7_sizes : MethodName := ⟨RX7, "sizes", "(IIII)I"⟩
abbrev cX7_gcd : ByteArray := prog_9_method_75_code
def yX7_gcd : MethodName := ⟨RX7, "gcd", "(JJ)J"⟩
abbrev cX7_raised : ByteArray := prog_9_method_76_code
def yX7_raised : MethodName := ⟨RX7, "raised", "(JI)J"⟩
abbrev cX7_breaks : ByteArray := prog_9_method_77_code
def yX7_breaks : MethodName := ⟨RX7, "breaks", "(IIII)J"⟩
abbrev cX7_drawn : ByteArray := prog_9_method_78_code
def yX7_drawn : MethodName := ⟨RX7, "drawn", "(III)I"⟩
abbrev cX7_image : ByteArray := prog_9_method_79_code
def yX7_image : MethodName := ⟨RX7, "image", "(I)I"⟩
abbrev cX7_restore : ByteArray := prog_9_method_80_code
def yX7_restore : MethodName := ⟨RX7, "restore", "(I)I"⟩
abbrev cX7_kind : ByteArray := prog_9_method_81_code
def yX7_kind : MethodName := ⟨RX7, "kind", "(I)I"⟩
abbrev cX7_as : ByteArray := prog_9_method_82_code
def yX7_as : MethodName := ⟨RX7, "as", "(II)I"⟩
abbrev cX7_leaves : ByteArray := prog_9_method_83_code
def yX7_leaves : MethodName := ⟨RX7, "leaves", "(I)V"⟩
abbrev cX7_lentRoom : ByteArray := prog_9_method_84_code
def yX7_lentRoom : MethodName := ⟨RX7, "lentRoom", "(I)I"⟩
abbrev cX7_lentNumber : ByteArray := prog_9_method_85_code
def yX7_lentNumber : MethodName := ⟨RX7, "lentNumber", "(I)I"⟩
abbrev cX7_washerMark : ByteArray := prog_9_method_86_code
def yX7_washerMark : MethodName := ⟨RX7, "washerMark", "(I)I"⟩
abbrev cX7_washerSize : ByteArray := prog_9_method_87_code
def yX7_washerSize : MethodName := ⟨RX7, "washerSize", "(I)I"⟩
abbrev cX7_dryerSize : ByteArray := prog_9_method_88_code
def yX7_dryerSize : MethodName := ⟨RX7, "dryerSize", "(I)I"⟩
abbrev cX7_dryerMark : ByteArray := prog_9_method_89_code
def yX7_dryerMark : MethodName := ⟨RX7, "dryerMark", "(I)I"⟩
abbrev cX7_ask : ByteArray := prog_9_method_90_code
def yX7_ask : MethodName := ⟨RX7, "ask", "(II)I"⟩
abbrev cX7_trace : ByteArray := prog_9_method_91_code
def yX7_trace : MethodName := ⟨RX7, "trace", "(I)I"⟩
abbrev cX7_rowsThere : ByteArray := prog_9_method_92_code
def yX7_rowsThere : MethodName := ⟨RX7, "rowsThere", "()I"⟩
abbrev cX7_count : ByteArray := prog_9_method_93_code
def yX7_count : MethodName := ⟨RX7, "count", "(I)I"⟩
abbrev cX7_status : ByteArray := prog_9_method_94_code
def yX7_status : MethodName := ⟨RX7, "status", "()I"⟩
def RJ6 : String := "java/lang/Integer"
def TJ6 : u_T := fun k => match k with
  | _ => ("", "", "", false)
def tyJ6 : Nat → FieldType := fun k => match k with
  | _ => .int
abbrev wsJ60 : List Cond := u_ws RJ6 TJ6 0
theorem nmJ6 : ∀ a, a < 0 → ∀ b, b < 0 → a ≠ b → (TJ6 a).2.1 ≠ (TJ6 b).2.1 := by decide +kernel
theorem tyJ6_ok : ∀ k, k < 0 → parseFieldDescriptor (TJ6 k).2.2.1 = some (tyJ6 k) := by decide +kernel
abbrev cJ6_bitCount_0f7a4 : ByteArray := prog_10_method_49_code
def yJ6_bitCount_0f7a4 : MethodName := ⟨RJ6, "bitCount", "(I)I"⟩
def RJ9 : String := "java/lang/Math"
def TJ9 : u_T := fun k => match k with
  | _ => ("", "", "", false)
def tyJ9 : Nat → FieldType := fun k => match k with
  | _ => .int
abbrev wsJ90 : List Cond := u_ws RJ9 TJ9 0
theorem nmJ9 : ∀ a, a < 0 → ∀ b, b < 0 → a ≠ b → (TJ9 a).2.1 ≠ (TJ9 b).2.1 := by decide +kernel
theorem tyJ9_ok : ∀ k, k < 0 → parseFieldDescriptor (TJ9 k).2.2.1 = some (tyJ9 k) := by decide +kernel
abbrev cJ9_max_7cf53 : ByteArray := prog_11_method_65_code
def yJ9_max_7cf53 : MethodName := ⟨RJ9, "max", "(II)I"⟩
abbrev cJ9_max_f86c9 : ByteArray := prog_11_method_66_code
def yJ9_max_f86c9 : MethodName := ⟨RJ9, "max", "(JJ)J"⟩
abbrev cJ9_min_7cf53 : ByteArray := prog_11_method_69_code
def yJ9_min_7cf53 : MethodName := ⟨RJ9, "min", "(II)I"⟩
def RJ10 : String := "java/lang/System"
def TJ10 : u_T := fun k => match k with
  | _ => ("", "", "", false)
def tyJ10 : Nat → FieldType := fun k => match k with
  | _ => .int
abbrev wsJ100 : List Cond := u_ws RJ10 TJ10 0
theorem nmJ10 : ∀ a, a < 0 → ∀ b, b < 0 → a ≠ b → (TJ10 a).2.1 ≠ (TJ10 b).2.1 := by decide +kernel
theorem tyJ10_ok : ∀ k, k < 0 → parseFieldDescriptor (TJ10 k).2.2.1 = some (tyJ10 k) := by decide +kernel
def RL : String := "LaundryLoadsLaw"
abbrev cL_law : ByteArray := code
def yL_law : MethodName := ⟨RL, "law", "([I)Z"⟩
abbrev vwCl : List vw_C := [(RX0, TX0, 3), (RX1, TX1, 2), (RX2, TX2, 16), (RX3, TX3, 5), (RX4, TX4, 3), (RX5, TX5, 7), (RX6, TX6, 10), (RX7, TX7, 30)]
end
section
/-! THE JUDGEMENT Gd: the machine at a frame of one of our methods, over a heap told as a list of cells by their numbers -/
abbrev Hp : Type := List (Nat × List Value)
abbrev Meth : Type := MethodName × ByteArray × Nat × Option FieldType
def TT : List Cond := lw_tbl.filter goodWord
theorem tt_of {w : Cond} (i : Nat) (h : lw_tbl[i]? = some w) (hg : goodWord w = true) : w ∈ TT := List.mem_filter.mpr ⟨List.mem_of_getElem? h, hg⟩
theorem tt_good : GoodIn TT TT := fun w h => ⟨h, good_of_word (List.mem_filter.mp h).2⟩
/-- words that a warmed machine keeps by laws of their own -/
def NW : List Cond := [.methodLinkNest RX6 9 yX4_init RX6, .methodLinkNest RX6 18 yX5_init RX6, .methodLinkNest RX6 25 yX2_init RX6, .methodLinkNest RX0 17 yX2_init RX6, .methodLinkNest RX6 46 yX3_init RX6, .methodLinkNest RX6 53 yX1_init RX6, .fieldLinkNest RX1 32 RX6 "NEAREST" "[I" RX6, .fieldLinkNest RX1 35 RX6 "SIZE_BODIES" "[I" RX6, .fieldLinkNest RX1 38 RX6 "MARK_BODIES" "[I" RX6]
def Nx (U : State) : Prop := (∀ w ∈ NW, va_Nw w U) ∧ va_AO RX2 U ∧ va_Nw (.arrayOver (.array .int)) U
abbrev Dc (cc : ByteArray) (pc : Nat) (i : Instr) (n pc' : Nat) : Prop := decode cc pc = .ok (i, n) ∧ pc + n = pc'
/-- where a cell lies: the ones that the law makes from B on, the static rows apart -/
def ad (B : Nat) (S : Nat → Nat) (i : Nat) : Nat := if i < 1000000 then B + i else S (i - 1000000)
def cv (B : Nat) (S : Nat → Nat) (v : Value) : Value := match v with
  | .ref i => .ref (ad B S i)
  | w => w
def iv (v : Value) : Int32 := match v with
  | .int x => x
  | _ => 0
def rv (B : Nat) (S : Nat → Nat) (v : Value) : Option Nat := match v with
  | .ref i => some (ad B S i)
  | _ => none
def ce (B : Nat) (S : Nat → Nat) (cy : Nat → ClassId) (q : Nat × List Value) : va_E :=
  if q.1 < 8 then .inr (q.1, q.2.map (cv B S)) else if q.1 < 10 then .inl (cy q.1, q.2.length, .inl (fun j => iv (q.2.getD j .null)))
  else .inl (cy q.1, q.2.length, .inr (.inr (.inr (.inr (fun j => rv B S (q.2.getD j .null))))))
def wO (B : Nat) (S : Nat → Nat) (cy : Nat → ClassId) (hp : Hp) : va_W := hp.mapIdx (fun i q => (B + i, ce B S cy q))
def tyl (cy : Nat → ClassId) : List (ClassId × FieldType) := [(cy 8, .int), (cy 9, .boolean), (cy 10, .object RX2), (cy 11, .array .int)]
def Wd (B : Nat) (S : Nat → Nat) (D : va_G) (cy : Nat → ClassId) (hp : Hp) (U : State) (H : Heap) : Prop :=
  hp.length ≤ 1000000 ∧ va_P D vwCl (wO B S cy hp) H ∧ va_K D vwCl (tyl cy) U
def sN (j : Nat) : String := if j = 0 then "NEAREST" else if j = 1 then "SIZE_BODIES" else "MARK_BODIES"
def sT (j k : Nat) : Int32 := ([[-1, 0, 1, 1, 0, 4], [10, 11, 12, 0, 13, 14], [20, 21, 24, 22, 23, 0]] : List (List Int32)).getD j [] |>.getD k 0
def Sd (B : Nat) (S : Nat → Nat) (U : State) (H : Heap) : Prop := ∀ j : Nat, j < 3 → va_Z RX6 (sN j) "[I" (.ref (S j)) (fun q => B ≤ q) U H ∧ va_T .int (S j) 6 (fun k => .int (sT j k)) (fun q => B ≤ q) U H
def Cx (M : Meth) (p : Program) (s : State) (m : MethodId) (args : Array Value) (meth : Method) (c : Code) (B : Nat) (S : Nat → Nat) : Prop :=
  p.tables.exec = Jvm.exec ∧ c.code = M.2.1 ∧ meth.sig.returnType = M.2.2.2 ∧ c.maxLocals = M.2.2.1 ∧ s.vm.findClass M.1.cls = some m.cls ∧ (∀ w ∈ TT, w.before args s = true) ∧ meth.locks = false ∧ meth.name = M.1.name ∧ Sd B S s s.heap ∧ Nx s ∧ B ≤ s.heap.size
def Lh (M : Meth) (B : Nat) (S : Nat → Nat) (ls : Array Slot) (L : List (Option Value)) : Prop := ls.size = M.2.2.1 ∧ L.length = M.2.2.1 ∧ lv_wf ls ∧ ∀ (i : Nat) (v : Value), L[i]? = some (some v) → ls[i]? = some (.val (cv B S v))
def Qm (B : Nat) (S : Nat → Nat) (D : va_G) (cy : Nat → ClassId) (P : Option Value → Hp → Prop) : Array Value → State → Outcome → State → Prop := fun _ st oc t =>
  (∃ (v : Option Value) (hp' : Hp), oc = .returned (v.map (cv B S)) ∧ P v hp' ∧ Wd B S D cy hp' t t.heap) ∧ va_F (fun q => B ≤ q) st t
def Rm (d mc ms : Nat) : Room := { frames := d, cells := mc, slots := ms, locals := 100 * d }
def wM (M : Meth) : List Cond := .code M.1 M.2.1 M.2.2.1 M.2.2.2 :: TT
def Gd (M : Meth) (d mc ms pc : Nat) (L : List (Option Value)) (st : List Value) (hp : Hp) (nc ns : Nat) (P : Option Value → Hp → Prop) : Prop :=
  ∀ (l : Launch) (p : Program) (e : Env) (s : State) (m : MethodId) (args : Array Value) (below : List Frame) (meth : Method) (c : Code) (B : Nat) (S : Nat → Nat) (D : va_G) (cy : Nat → ClassId) (H : Heap) (locs : List Loc) (ls : Array Slot),
    Cx M p s m args meth c B S → s.heap.size + nc = B + hp.length → Wd B S D cy hp s H → va_S (fun q => B ≤ q) s.heap H locs → Lh M B S ls L →
    W p l e (Rm d mc ms) s m args below meth c H locs nc ns (MQ below (Qm B S D cy P) args s mc ms (fun q => B ≤ q)) (F0 m pc ls (st.map (cv B S)))
def Mt (M : Meth) (d mc ms : Nat) (As : List Value) (hp : Hp) (P : Option Value → Hp → Prop) : Prop :=
  ∀ (l : Launch) (B : Nat) (S : Nat → Nat) (D : va_G) (cy : Nat → ClassId), Met l M.1 (wM M) (Rm d mc ms) (va_Pc (As.map (cv B S)) (fun U => U.heap.size = B + hp.length ∧ Wd B S D cy hp U U.heap ∧ Sd B S U U.heap ∧ Nx U)) (Qm B S D cy P) mc ms (fun q => B ≤ q)
/-! what is kept -/
theorem aoa_moved {u U : State} (hvm : u.vm.Alike U.vm) (h : va_Nw (.arrayOver (.array .int)) u) : va_Nw (.arrayOver (.array .int)) U := by
  unfold va_Nw Cond.before Cond.holds at h ⊢
  simp only [Cond.value, beq_iff_eq] at h ⊢
  cases hc : u.vm.findClass (FieldType.array .int).toString with
  | none => simp [hc] at h
  | some comp =>
    simp only [hc, Option.bind_some, Option.bind_eq_some_iff, Option.map_eq_some_iff] at h
    obtain ⟨c, hi, k, hk, hb⟩ := h
    obtain ⟨k', hk', he⟩ := hvm.2.2 _ _ hk
    have hi2 : (U.vm.classes.findIdx? fun (x : Class) => match x.kind with | .array component _ => component == comp | _ => false) = some c := (va_idx_bare U.vm comp).symm.trans (by
      rw [hvm.bare_eq]
      exact (va_idx_bare u.vm comp).trans hi)
    have hkk : k'.kind = k.kind := by rw [he]
    have f1 : U.vm.findClass (FieldType.array .int).toString = some comp := by rw [hvm.findClass]; exact hc
    rw [f1, Option.bind_some]
    refine (congrArg (fun o : Option Nat => o.bind (fun c => (U.vm.classes[c]?).map fun (k : Class) => match k.kind with | .array _ ty => decide (ty = FieldType.array .int) && decide (U.vm.findClass ("[" ++ (FieldType.array .int).toString) = some c) | _ => false)) hi2).trans ?_
    rw [Option.bind_some, hk', Option.map_some, hkk, hvm.findClass]
    exact congrArg some hb
theorem nx_warm {s U : State} (hW : s.WarmedH U.vm) (h : Nx s) : Nx U := by
  refine ⟨fun w hw => ?_, h.2.1.moved hW.alike, ?_⟩
  · have h1 := h.1 w hw
    simp only [NW, List.mem_cons, List.not_mem_nil, or_false] at hw
    rcases hw with rfl | rfl | rfl | rfl | rfl | rfl | rfl | rfl | rfl
    · exact h1.warmM hW
    · exact h1.warmM hW
    · exact h1.warmM hW
    · exact h1.warmM hW
    · exact h1.warmM hW
    · exact h1.warmM hW
    · exact h1.warmF hW
    · exact h1.warmF hW
    · exact h1.warmF hW
  · exact aoa_moved hW.alike h.2.2
theorem nx_same {s U : State} (h : s.vm = U.vm) (hN : Nx s) : Nx U := by
  refine ⟨fun w hw => ?_, va_AO.moved (by rw [h]; exact Vm.Alike.refl _) hN.2.1, aoa_moved (by rw [h]; exact Vm.Alike.refl _) hN.2.2⟩
  have h1 := hN.1 w hw
  simp only [NW, List.mem_cons, List.not_mem_nil, or_false] at hw
  rcases hw with rfl | rfl | rfl | rfl | rfl | rfl | rfl | rfl | rfl <;> exact va_Nw.same rfl h h1
theorem sd_kept {B : Nat} {S : Nat → Nat} {U : State} {H H1 : Heap} (h : Sd B S U H) (hq : ∀ a : Nat, a < H.size → ¬ B ≤ a → H1[a]? = H[a]?) : Sd B S U H1 := fun j hj => ⟨(h j hj).1.kept hq, (h j hj).2.kept hq⟩
theorem sd_moved {B : Nat} {S : Nat → Nat} {u U : State} {H : Heap} (hvm : u.vm.Alike U.vm) (h : Sd B S u H) : Sd B S U H := fun j hj => ⟨va_Z.moved hvm (h j hj).1, va_T.moved hvm (h j hj).2⟩
theorem ad_lt {B : Nat} {S : Nat → Nat} {i : Nat} (h : i < 1000000) : ad B S i = B + i := if_pos h
theorem wO_at {B : Nat} {S : Nat → Nat} {cy : Nat → ClassId} {hp : Hp} {i : Nat} {q : Nat × List Value} (h : hp[i]? = some q) : (wO B S cy hp)[i]? = some (B + i, ce B S cy q) := by
  unfold wO
  rw [List.getElem?_mapIdx, h]
  rfl
theorem wO_back {B : Nat} {S : Nat → Nat} {cy : Nat → ClassId} {hp : Hp} {i : Nat} {x : Nat × va_E} (h : (wO B S cy hp)[i]? = some x) : ∃ q, hp[i]? = some q ∧ x = (B + i, ce B S cy q) := by
  unfold wO at h
  rw [List.getElem?_mapIdx] at h
  cases hi : hp[i]? with
  | none => rw [hi] at h; cases h
  | some q => rw [hi] at h; exact ⟨q, rfl, (Option.some.inj h).symm⟩
theorem wO_D {B : Nat} {S : Nat → Nat} {cy : Nat → ClassId} {hp : Hp} : va_D (fun q => B ≤ q) (wO B S cy hp) := by
  refine ⟨fun i j x y hi hj h => ?_, fun k x hx => ?_⟩
  · obtain ⟨q, -, rfl⟩ := wO_back hi
    obtain ⟨q', -, rfl⟩ := wO_back hj
    have h' : B + i = B + j := h
    omega
  · obtain ⟨q, -, rfl⟩ := wO_back hx
    exact Nat.le_add_right B k
theorem wd_le {B : Nat} {S : Nat → Nat} {D : va_G} {cy : Nat → ClassId} {hp : Hp} {U : State} {H : Heap} (h : Wd B S D cy hp U H) (hB : B ≤ H.size) : B + hp.length ≤ H.size := by
  rcases Nat.eq_zero_or_pos hp.length with h0 | h0
  · omega
  · have hx : hp[hp.length - 1]? = some (hp[hp.length - 1]'(by omega)) := List.getElem?_eq_getElem (by omega)
    have := (h.2.1 _ _ (wO_at hx)).lt
    have h2 : B + (hp.length - 1) < H.size := this
    omega
theorem wO_set {B : Nat} {S : Nat → Nat} {cy : Nat → ClassId} {hp : Hp} {i : Nat} {q : Nat × List Value} : (wO B S cy hp).set i (B + i, ce B S cy q) = wO B S cy (hp.set i q) := by
  apply List.ext_getElem?
  intro j
  unfold wO
  rw [List.getElem?_mapIdx]
  by_cases h : i = j
  · subst h
    by_cases hl : i < hp.length
    · rw [List.getElem?_set_self (by rw [List.length_mapIdx]; exact hl), List.getElem?_set_self hl]
      rfl
    · rw [List.getElem?_eq_none (by rw [List.length_set, List.length_mapIdx]; omega), List.getElem?_eq_none (by rw [List.length_set]; omega)]
      rfl
  · rw [List.getElem?_set_ne h, List.getElem?_set_ne h, List.getElem?_mapIdx]
theorem wO_push {B : Nat} {S : Nat → Nat} {cy : Nat → ClassId} {hp : Hp} {q : Nat × List Value} : wO B S cy hp ++ [(B + hp.length, ce B S cy q)] = wO B S cy (hp ++ [q]) := by
  unfold wO
  rw [List.mapIdx_append]
  simp
/-! the entry of a method -/
def leA (vs : List Value) : List (Option Value) := match vs with
  | [] => []
  | v :: vs => if v.category = 2 then some v :: none :: leA vs else some v :: leA vs
def Le (n : Nat) (vs : List Value) : List (Option Value) := leA vs ++ List.replicate (n - (leA vs).length) none
theorem cv_cat (B : Nat) (S : Nat → Nat) (v : Value) : (cv B S v).category = v.category := by cases v <;> rfl
theorem leA_len (B : Nat) (S : Nat → Nat) : ∀ vs : List Value, (lg_sl (vs.map (cv B S))).length = (leA vs).length
  | [] => rfl
  | v :: vs => by
    have ih := leA_len B S vs
    unfold lg_sl at ih ⊢
    rw [List.map_cons, List.flatMap_cons, List.length_append, ih, cv_cat, show leA (v :: vs) = if v.category = 2 then some v :: none :: leA vs else some v :: leA vs from rfl]
    by_cases h : v.category = 2
    · rw [if_pos h, if_pos h]
      simp only [List.length_cons, List.length_nil]
      omega
    · rw [if_neg h, if_neg h]
      simp only [List.length_cons, List.length_nil]
      omega
theorem leA_in (B : Nat) (S : Nat → Nat) : ∀ (vs : List Value) (b j : Nat) (v : Value), (leA vs)[j]? = some (some v) → (b + j, cv B S v) ∈ lv_args b (vs.map (cv B S))
  | [], b, j, v, h => by simp [leA] at h
  | w :: vs, b, j, v, h => by
    rw [List.map_cons, lv_args, cv_cat]
    unfold leA at h
    by_cases hc : w.category = 2
    · rw [if_pos hc] at h
      rw [if_pos hc]
      match j, h with
      | 0, h =>
        simp only [List.getElem?_cons_zero, Option.some.injEq] at h
        rw [← h]
        exact List.mem_cons_self
      | 1, h => simp at h
      | j + 2, h =>
        simp only [List.getElem?_cons_succ] at h
        have := leA_in B S vs (b + 2) j v h
        rw [show b + (j + 2) = b + 2 + j by omega]
        exact List.mem_cons_of_mem _ this
    · rw [if_neg hc] at h
      rw [if_neg hc]
      match j, h with
      | 0, h =>
        simp only [List.getElem?_cons_zero, Option.some.injEq] at h
        rw [← h]
        exact List.mem_cons_self
      | j + 1, h =>
        simp only [List.getElem?_cons_succ] at h
        have := leA_in B S vs (b + 1) j v h
        rw [show b + (j + 1) = b + 1 + j by omega]
        exact List.mem_cons_of_mem _ this
theorem Mt.of {M : Meth} {d mc ms : Nat} {As : List Value} {hp : Hp} {P : Option Value → Hp → Prop} (L : List (Option Value)) (hy : plainName M.1.cls = true) (hn : Nat.ble (leA As).length M.2.2.1 = true) (hL : Le M.2.2.1 As = L) (k : Gd M d mc ms 0 L [] hp 0 0 P) : Mt M d mc ms As hp P := by
  intro l B S D cy
  refine Met.ofW (cc := M.2.1) (maxL := M.2.2.1) (ret := M.2.2.2) hy rfl ?_
  intro p e s m args below meth c s₁ Bd hml hv
  obtain ⟨rfl, hz, hWd, hSd, hNx⟩ := hv
  have hts := atoms_spec (ws := wM M) Bd.pre
  have hle := Nat.le_of_ble_eq_true hn
  have C : Cx M p s m _ meth c B S := ⟨Bd.exec, Bd.bytes, Bd.returns, hml, findClass_of_methodNamed Bd.named, fun w hw => hts w (List.mem_cons_of_mem _ hw), Bd.notSynchronized, (name_of_methodNamed Bd.named Bd.method).1, hSd, hNx, by omega⟩
  have hl := lv_entry (As.map (cv B S)) (n := M.2.2.1) (by rw [leA_len]; exact hle)
  rw [lg_entry_eq]
  refine k l p e s m _ below meth c B S D cy s.heap [] _ C hz hWd va_S.rf ⟨hl.1, ?_, hl.2.1, fun i v h => ?_⟩
  · rw [← hL]
    unfold Le
    rw [List.length_append, List.length_replicate]
    omega
  · refine hl.2.2 (i, cv B S v) ?_
    have h2 := leA_in B S As 0 i v
    rw [Nat.zero_add] at h2
    refine h2 ?_
    rw [← hL] at h
    unfold Le at h
    by_cases hi : i < (leA As).length
    · rw [List.getElem?_append_left hi] at h
      exact h
    · rw [List.getElem?_append_right (by omega), List.getElem?_replicate] at h
      split at h
      · cases h
      · cases h
section Rules
variable {M : Meth} {d mc ms pc pc' : Nat} {L : List (Option Value)} {st : List Value} {hp : Hp} {nc ns : Nat} {P : Option Value → Hp → Prop}
theorem g_iadd {x y : Int32} (hd : Dc M.2.1 pc .iadd 1 pc')  (k : Gd M d mc ms pc' L (.int (x + y) :: st) hp nc ns P) : Gd M d mc ms pc L (.int y :: .int x :: st) hp nc ns P := by
  obtain ⟨h1, rfl⟩ := hd
  exact fun l p e s m args below meth c B S D cy H locs ls C hZ hW hS hL => lv_iadd C.1 C.2.1 h1 (k l p e s m args below meth c B S D cy H locs ls C hZ hW hS hL)
theorem g_isub {x y : Int32} (hd : Dc M.2.1 pc .isub 1 pc')  (k : Gd M d mc ms pc' L (.int (x - y) :: st) hp nc ns P) : Gd M d mc ms pc L (.int y :: .int x :: st) hp nc ns P := by
  obtain ⟨h1, rfl⟩ := hd
  exact fun l p e s m args below meth c B S D cy H locs ls C hZ hW hS hL => lv_isub C.1 C.2.1 h1 (k l p e s m args below meth c B S D cy H locs ls C hZ hW hS hL)
theorem g_imul {x y : Int32} (hd : Dc M.2.1 pc .imul 1 pc')  (k : Gd M d mc ms pc' L (.int (x * y) :: st) hp nc ns P) : Gd M d mc ms pc L (.int y :: .int x :: st) hp nc ns P := by
  obtain ⟨h1, rfl⟩ := hd
  exact fun l p e s m args below meth c B S D cy H locs ls C hZ hW hS hL => lv_imul C.1 C.2.1 h1 (k l p e s m args below meth c B S D cy H locs ls C hZ hW hS hL)
theorem g_iand {x y : Int32} (hd : Dc M.2.1 pc .iand 1 pc')  (k : Gd M d mc ms pc' L (.int (x &&& y) :: st) hp nc ns P) : Gd M d mc ms pc L (.int y :: .int x :: st) hp nc ns P := by
  obtain ⟨h1, rfl⟩ := hd
  exact fun l p e s m args below meth c B S D cy H locs ls C hZ hW hS hL => lv_iand C.1 C.2.1 h1 (k l p e s m args below meth c B S D cy H locs ls C hZ hW hS hL)
theorem g_ior {x y : Int32} (hd : Dc M.2.1 pc .ior 1 pc')  (k : Gd M d mc ms pc' L (.int (x ||| y) :: st) hp nc ns P) : Gd M d mc ms pc L (.int y :: .int x :: st) hp nc ns P := by
  obtain ⟨h1, rfl⟩ := hd
  exact fun l p e s m args below meth c B S D cy H locs ls C hZ hW hS hL => lv_ior C.1 C.2.1 h1 (k l p e s m args below meth c B S D cy H locs ls C hZ hW hS hL)
theorem g_ixor {x y : Int32} (hd : Dc M.2.1 pc .ixor 1 pc')  (k : Gd M d mc ms pc' L (.int (x ^^^ y) :: st) hp nc ns P) : Gd M d mc ms pc L (.int y :: .int x :: st) hp nc ns P := by
  obtain ⟨h1, rfl⟩ := hd
  exact fun l p e s m args below meth c B S D cy H locs ls C hZ hW hS hL => lv_ixor C.1 C.2.1 h1 (k l p e s m args below meth c B S D cy H locs ls C hZ hW hS hL)
theorem g_ishl {x y : Int32} (hd : Dc M.2.1 pc .ishl 1 pc')  (k : Gd M d mc ms pc' L (.int (x <<< (y &&& 31)) :: st) hp nc ns P) : Gd M d mc ms pc L (.int y :: .int x :: st) hp nc ns P := by
  obtain ⟨h1, rfl⟩ := hd
  exact fun l p e s m args below meth c B S D cy H locs ls C hZ hW hS hL => lv_ishl C.1 C.2.1 h1 (k l p e s m args below meth c B S D cy H locs ls C hZ hW hS hL)
theorem g_ishr {x y : Int32} (hd : Dc M.2.1 pc .ishr 1 pc')  (k : Gd M d mc ms pc' L (.int (x >>> (y &&& 31)) :: st) hp nc ns P) : Gd M d mc ms pc L (.int y :: .int x :: st) hp nc ns P := by
  obtain ⟨h1, rfl⟩ := hd
  exact fun l p e s m args below meth c B S D cy H locs ls C hZ hW hS hL => lv_ishr C.1 C.2.1 h1 (k l p e s m args below meth c B S D cy H locs ls C hZ hW hS hL)
theorem g_iushr {x y : Int32} (hd : Dc M.2.1 pc .iushr 1 pc')  (k : Gd M d mc ms pc' L (.int (x.toUInt32 >>> (y.toUInt32 &&& Int32.toUInt32 31)).toInt32 :: st) hp nc ns P) : Gd M d mc ms pc L (.int y :: .int x :: st) hp nc ns P := by
  obtain ⟨h1, rfl⟩ := hd
  exact fun l p e s m args below meth c B S D cy H locs ls C hZ hW hS hL => lv_iushr C.1 C.2.1 h1 rfl (k l p e s m args below meth c B S D cy H locs ls C hZ hW hS hL)
theorem g_idiv {x y : Int32} (hd : Dc M.2.1 pc .idiv 1 pc') (hne : ¬ y = 0) (k : Gd M d mc ms pc' L (.int (x / y) :: st) hp nc ns P) : Gd M d mc ms pc L (.int y :: .int x :: st) hp nc ns P := by
  obtain ⟨h1, rfl⟩ := hd
  exact fun l p e s m args below meth c B S D cy H locs ls C hZ hW hS hL => lv_idiv C.1 C.2.1 h1 hne (k l p e s m args below meth c B S D cy H locs ls C hZ hW hS hL)
theorem g_irem {x y : Int32} (hd : Dc M.2.1 pc .irem 1 pc') (hne : ¬ y = 0) (k : Gd M d mc ms pc' L (.int (x - x / y * y) :: st) hp nc ns P) : Gd M d mc ms pc L (.int y :: .int x :: st) hp nc ns P := by
  obtain ⟨h1, rfl⟩ := hd
  exact fun l p e s m args below meth c B S D cy H locs ls C hZ hW hS hL => lv_irem C.1 C.2.1 h1 hne (k l p e s m args below meth c B S D cy H locs ls C hZ hW hS hL)
theorem g_ldiv {x y : Int64} (hd : Dc M.2.1 pc .ldiv 1 pc') (hne : ¬ y = 0) (k : Gd M d mc ms pc' L (.long (x / y) :: st) hp nc ns P) : Gd M d mc ms pc L (.long y :: .long x :: st) hp nc ns P := by
  obtain ⟨h1, rfl⟩ := hd
  exact fun l p e s m args below meth c B S D cy H locs ls C hZ hW hS hL => lv_ldiv C.1 C.2.1 h1 hne (k l p e s m args below meth c B S D cy H locs ls C hZ hW hS hL)
theorem g_lrem {x y : Int64} (hd : Dc M.2.1 pc .lrem 1 pc') (hne : ¬ y = 0) (k : Gd M d mc ms pc' L (.long (x - x / y * y) :: st) hp nc ns P) : Gd M d mc ms pc L (.long y :: .long x :: st) hp nc ns P := by
  obtain ⟨h1, rfl⟩ := hd
  exact fun l p e s m args below meth c B S D cy H locs ls C hZ hW hS hL => lv_lrem C.1 C.2.1 h1 hne (k l p e s m args below meth c B S D cy H locs ls C hZ hW hS hL)
theorem g_ladd {x y : Int64} (hd : Dc M.2.1 pc .ladd 1 pc')  (k : Gd M d mc ms pc' L (.long (x + y) :: st) hp nc ns P) : Gd M d mc ms pc L (.long y :: .long x :: st) hp nc ns P := by
  obtain ⟨h1, rfl⟩ := hd
  exact fun l p e s m args below meth c B S D cy H locs ls C hZ hW hS hL => lv_ladd C.1 C.2.1 h1 (k l p e s m args below meth c B S D cy H locs ls C hZ hW hS hL)
theorem g_lsub {x y : Int64} (hd : Dc M.2.1 pc .lsub 1 pc')  (k : Gd M d mc ms pc' L (.long (x - y) :: st) hp nc ns P) : Gd M d mc ms pc L (.long y :: .long x :: st) hp nc ns P := by
  obtain ⟨h1, rfl⟩ := hd
  exact fun l p e s m args below meth c B S D cy H locs ls C hZ hW hS hL => lv_lsub C.1 C.2.1 h1 (k l p e s m args below meth c B S D cy H locs ls C hZ hW hS hL)
theorem g_lmul {x y : Int64} (hd : Dc M.2.1 pc .lmul 1 pc')  (k : Gd M d mc ms pc' L (.long (x * y) :: st) hp nc ns P) : Gd M d mc ms pc L (.long y :: .long x :: st) hp nc ns P := by
  obtain ⟨h1, rfl⟩ := hd
  exact fun l p e s m args below meth c B S D cy H locs ls C hZ hW hS hL => lv_lmul C.1 C.2.1 h1 (k l p e s m args below meth c B S D cy H locs ls C hZ hW hS hL)
theorem g_lcmp {x y : Int64} (hd : Dc M.2.1 pc .lcmp 1 pc')  (k : Gd M d mc ms pc' L (.int (lg_cmp x y) :: st) hp nc ns P) : Gd M d mc ms pc L (.long y :: .long x :: st) hp nc ns P := by
  obtain ⟨h1, rfl⟩ := hd
  exact fun l p e s m args below meth c B S D cy H locs ls C hZ hW hS hL => W.lcmp C.1 C.2.1 h1 (k l p e s m args below meth c B S D cy H locs ls C hZ hW hS hL)
theorem g_ineg {x : Int32} (hd : Dc M.2.1 pc .ineg 1 pc')  (k : Gd M d mc ms pc' L (.int (-x) :: st) hp nc ns P) : Gd M d mc ms pc L (.int x :: st) hp nc ns P := by
  obtain ⟨h1, rfl⟩ := hd
  exact fun l p e s m args below meth c B S D cy H locs ls C hZ hW hS hL => lv_ineg C.1 C.2.1 h1 (k l p e s m args below meth c B S D cy H locs ls C hZ hW hS hL)
theorem g_i2l {x : Int32} (hd : Dc M.2.1 pc .i2l 1 pc')  (k : Gd M d mc ms pc' L (.long x.toInt64 :: st) hp nc ns P) : Gd M d mc ms pc L (.int x :: st) hp nc ns P := by
  obtain ⟨h1, rfl⟩ := hd
  exact fun l p e s m args below meth c B S D cy H locs ls C hZ hW hS hL => lv_i2l C.1 C.2.1 h1 rfl (k l p e s m args below meth c B S D cy H locs ls C hZ hW hS hL)
theorem g_l2i {x : Int64} (hd : Dc M.2.1 pc .l2i 1 pc')  (k : Gd M d mc ms pc' L (.int x.toInt32 :: st) hp nc ns P) : Gd M d mc ms pc L (.long x :: st) hp nc ns P := by
  obtain ⟨h1, rfl⟩ := hd
  exact fun l p e s m args below meth c B S D cy H locs ls C hZ hW hS hL => lv_l2i C.1 C.2.1 h1 rfl (k l p e s m args below meth c B S D cy H locs ls C hZ hW hS hL)
theorem g_i2b {x : Int32} (hd : Dc M.2.1 pc .i2b 1 pc')  (k : Gd M d mc ms pc' L (.int x.toInt8.toInt32 :: st) hp nc ns P) : Gd M d mc ms pc L (.int x :: st) hp nc ns P := by
  obtain ⟨h1, rfl⟩ := hd
  exact fun l p e s m args below meth c B S D cy H locs ls C hZ hW hS hL => lv_i2b C.1 C.2.1 h1 rfl (k l p e s m args below meth c B S D cy H locs ls C hZ hW hS hL)
theorem g_i2s {x : Int32} (hd : Dc M.2.1 pc .i2s 1 pc')  (k : Gd M d mc ms pc' L (.int x.toInt16.toInt32 :: st) hp nc ns P) : Gd M d mc ms pc L (.int x :: st) hp nc ns P := by
  obtain ⟨h1, rfl⟩ := hd
  exact fun l p e s m args below meth c B S D cy H locs ls C hZ hW hS hL => lv_i2s C.1 C.2.1 h1 rfl (k l p e s m args below meth c B S D cy H locs ls C hZ hW hS hL)
theorem g_iconst {n : Int} {v : Int32} (hd : Dc M.2.1 pc (.iconst n) 1 pc') (hv : Int32.ofInt n = v) (k : Gd M d mc ms pc' L (.int v :: st) hp nc ns P) : Gd M d mc ms pc L st hp nc ns P := by
  obtain ⟨h1, rfl⟩ := hd
  exact fun l p e s m args below meth c B S D cy H locs ls C hZ hW hS hL => lv_iconst C.1 C.2.1 h1 hv (k l p e s m args below meth c B S D cy H locs ls C hZ hW hS hL)
theorem g_bipush {n : Int} {v : Int32} (hd : Dc M.2.1 pc (.bipush n) 2 pc') (hv : (Int8.ofInt n).toInt32 = v) (k : Gd M d mc ms pc' L (.int v :: st) hp nc ns P) : Gd M d mc ms pc L st hp nc ns P := by
  obtain ⟨h1, rfl⟩ := hd
  exact fun l p e s m args below meth c B S D cy H locs ls C hZ hW hS hL => lv_bipush C.1 C.2.1 h1 hv (k l p e s m args below meth c B S D cy H locs ls C hZ hW hS hL)
theorem g_sipush {n : Int} {v : Int32} (hd : Dc M.2.1 pc (.sipush n) 3 pc') (hv : (Int16.ofInt n).toInt32 = v) (k : Gd M d mc ms pc' L (.int v :: st) hp nc ns P) : Gd M d mc ms pc L st hp nc ns P := by
  obtain ⟨h1, rfl⟩ := hd
  exact fun l p e s m args below meth c B S D cy H locs ls C hZ hW hS hL => lv_sipush C.1 C.2.1 h1 hv (k l p e s m args below meth c B S D cy H locs ls C hZ hW hS hL)
theorem g_lconst {n : Fin 2} {v : Int64} (hd : Dc M.2.1 pc (.lconst n) 1 pc') (hv : Int64.ofNat (n : Nat) = v) (k : Gd M d mc ms pc' L (.long v :: st) hp nc ns P) : Gd M d mc ms pc L st hp nc ns P := by
  obtain ⟨h1, rfl⟩ := hd
  exact fun l p e s m args below meth c B S D cy H locs ls C hZ hW hS hL => lv_lconst C.1 C.2.1 h1 hv (k l p e s m args below meth c B S D cy H locs ls C hZ hW hS hL)
theorem g_iload_n {i : Fin 4} {x : Int32} (hd : Dc M.2.1 pc (.iload_n i) 1 pc') (hl : L[(i : Nat)]? = some (some (.int x))) (k : Gd M d mc ms pc' L (.int x :: st) hp nc ns P) : Gd M d mc ms pc L st hp nc ns P := by
  obtain ⟨h1, rfl⟩ := hd
  exact fun l p e s m args below meth c B S D cy H locs ls C hZ hW hS hL => lv_iload_n C.1 C.2.1 h1 rfl (hL.2.2.2 _ _ hl) (k l p e s m args below meth c B S D cy H locs ls C hZ hW hS hL)
theorem g_iload {i : Nat} {x : Int32} (hd : Dc M.2.1 pc (.iload i) 2 pc') (hl : L[i]? = some (some (.int x))) (k : Gd M d mc ms pc' L (.int x :: st) hp nc ns P) : Gd M d mc ms pc L st hp nc ns P := by
  obtain ⟨h1, rfl⟩ := hd
  exact fun l p e s m args below meth c B S D cy H locs ls C hZ hW hS hL => lv_iload C.1 C.2.1 h1 (hL.2.2.2 _ _ hl) (k l p e s m args below meth c B S D cy H locs ls C hZ hW hS hL)
theorem g_lload_n {i : Fin 4} {x : Int64} (hd : Dc M.2.1 pc (.lload_n i) 1 pc') (hl : L[(i : Nat)]? = some (some (.long x))) (k : Gd M d mc ms pc' L (.long x :: st) hp nc ns P) : Gd M d mc ms pc L st hp nc ns P := by
  obtain ⟨h1, rfl⟩ := hd
  exact fun l p e s m args below meth c B S D cy H locs ls C hZ hW hS hL => lv_lload_n C.1 C.2.1 h1 rfl (hL.2.2.2 _ _ hl) (k l p e s m args below meth c B S D cy H locs ls C hZ hW hS hL)
theorem g_lload {i : Nat} {x : Int64} (hd : Dc M.2.1 pc (.lload i) 2 pc') (hl : L[i]? = some (some (.long x))) (k : Gd M d mc ms pc' L (.long x :: st) hp nc ns P) : Gd M d mc ms pc L st hp nc ns P := by
  obtain ⟨h1, rfl⟩ := hd
  exact fun l p e s m args below meth c B S D cy H locs ls C hZ hW hS hL => lv_lload C.1 C.2.1 h1 (hL.2.2.2 _ _ hl) (k l p e s m args below meth c B S D cy H locs ls C hZ hW hS hL)
theorem g_aload_n {i : Fin 4} {x : Nat} (hd : Dc M.2.1 pc (.aload_n i) 1 pc') (hl : L[(i : Nat)]? = some (some (.ref x))) (k : Gd M d mc ms pc' L (.ref x :: st) hp nc ns P) : Gd M d mc ms pc L st hp nc ns P := by
  obtain ⟨h1, rfl⟩ := hd
  exact fun l p e s m args below meth c B S D cy H locs ls C hZ hW hS hL => lv_aload_n C.1 C.2.1 h1 rfl (hL.2.2.2 _ _ hl) (k l p e s m args below meth c B S D cy H locs ls C hZ hW hS hL)
theorem g_aload {i : Nat} {x : Nat} (hd : Dc M.2.1 pc (.aload i) 2 pc') (hl : L[i]? = some (some (.ref x))) (k : Gd M d mc ms pc' L (.ref x :: st) hp nc ns P) : Gd M d mc ms pc L st hp nc ns P := by
  obtain ⟨h1, rfl⟩ := hd
  exact fun l p e s m args below meth c B S D cy H locs ls C hZ hW hS hL => lv_aload C.1 C.2.1 h1 (hL.2.2.2 _ _ hl) (k l p e s m args below meth c B S D cy H locs ls C hZ hW hS hL)
theorem g_dup {v : Value} (hd : Dc M.2.1 pc .dup 1 pc') (hc : v.category = 1) (k : Gd M d mc ms pc' L (v :: v :: st) hp nc ns P) : Gd M d mc ms pc L (v :: st) hp nc ns P := by
  obtain ⟨h1, rfl⟩ := hd
  exact fun l p e s m args below meth c B S D cy H locs ls C hZ hW hS hL => lv_dup C.1 C.2.1 h1 ((cv_cat B S v).trans hc) (k l p e s m args below meth c B S D cy H locs ls C hZ hW hS hL)
theorem g_dup2 {v w : Value} (hd : Dc M.2.1 pc .dup2 1 pc') (hc : v.category = 1) (hc2 : w.category = 1) (k : Gd M d mc ms pc' L (v :: w :: v :: w :: st) hp nc ns P) : Gd M d mc ms pc L (v :: w :: st) hp nc ns P := by
  obtain ⟨h1, rfl⟩ := hd
  exact fun l p e s m args below meth c B S D cy H locs ls C hZ hW hS hL => lv_dup2_11 C.1 C.2.1 h1 ((cv_cat B S v).trans hc) ((cv_cat B S w).trans hc2) (k l p e s m args below meth c B S D cy H locs ls C hZ hW hS hL)
abbrev Dq (cc : ByteArray) (pc : Nat) (i : Int → Instr) (tgt pc' : Nat) : Prop := decode cc pc = .ok (i ((tgt : Int) - (pc : Int)), 3) ∧ pc + 3 = pc'
theorem tgt_ok (pc tgt : Nat) : (pc : Int) + ((tgt : Int) - (pc : Int)) = (tgt : Int) := by omega
theorem g_if_eq {x : Int32} {tgt : Nat} (hd : Dq M.2.1 pc (.ifCond .eq) tgt pc') (kt : x = 0 → Gd M d mc ms tgt L st hp nc ns P) (kf : ¬ x = 0 → Gd M d mc ms pc' L st hp nc ns P) : Gd M d mc ms pc L (.int x :: st) hp nc ns P := by
  obtain ⟨h1, rfl⟩ := hd
  exact fun l p e s m args below meth c B S D cy H locs ls C hZ hW hS hL => lv_if_eq C.1 C.2.1 h1 (tgt_ok pc tgt) (fun q => kt q l p e s m args below meth c B S D cy H locs ls C hZ hW hS hL) (fun q => kf q l p e s m args below meth c B S D cy H locs ls C hZ hW hS hL)
theorem g_icmp_eq {x y : Int32} {tgt : Nat} (hd : Dq M.2.1 pc (.if_icmp .eq) tgt pc') (kt : x = y → Gd M d mc ms tgt L st hp nc ns P) (kf : ¬ x = y → Gd M d mc ms pc' L st hp nc ns P) : Gd M d mc ms pc L (.int y :: .int x :: st) hp nc ns P := by
  obtain ⟨h1, rfl⟩ := hd
  exact fun l p e s m args below meth c B S D cy H locs ls C hZ hW hS hL => lv_icmp_eq C.1 C.2.1 h1 (tgt_ok pc tgt) (fun q => kt q l p e s m args below meth c B S D cy H locs ls C hZ hW hS hL) (fun q => kf q l p e s m args below meth c B S D cy H locs ls C hZ hW hS hL)
theorem g_if_ne {x : Int32} {tgt : Nat} (hd : Dq M.2.1 pc (.ifCond .ne) tgt pc') (kt : ¬ x = 0 → Gd M d mc ms tgt L st hp nc ns P) (kf : x = 0 → Gd M d mc ms pc' L st hp nc ns P) : Gd M d mc ms pc L (.int x :: st) hp nc ns P := by
  obtain ⟨h1, rfl⟩ := hd
  exact fun l p e s m args below meth c B S D cy H locs ls C hZ hW hS hL => lv_if_ne C.1 C.2.1 h1 (tgt_ok pc tgt) (fun q => kt q l p e s m args below meth c B S D cy H locs ls C hZ hW hS hL) (fun q => kf q l p e s m args below meth c B S D cy H locs ls C hZ hW hS hL)
theorem g_icmp_ne {x y : Int32} {tgt : Nat} (hd : Dq M.2.1 pc (.if_icmp .ne) tgt pc') (kt : ¬ x = y → Gd M d mc ms tgt L st hp nc ns P) (kf : x = y → Gd M d mc ms pc' L st hp nc ns P) : Gd M d mc ms pc L (.int y :: .int x :: st) hp nc ns P := by
  obtain ⟨h1, rfl⟩ := hd
  exact fun l p e s m args below meth c B S D cy H locs ls C hZ hW hS hL => lv_icmp_ne C.1 C.2.1 h1 (tgt_ok pc tgt) (fun q => kt q l p e s m args below meth c B S D cy H locs ls C hZ hW hS hL) (fun q => kf q l p e s m args below meth c B S D cy H locs ls C hZ hW hS hL)
theorem g_if_lt {x : Int32} {tgt : Nat} (hd : Dq M.2.1 pc (.ifCond .lt) tgt pc') (kt : x < 0 → Gd M d mc ms tgt L st hp nc ns P) (kf : ¬ x < 0 → Gd M d mc ms pc' L st hp nc ns P) : Gd M d mc ms pc L (.int x :: st) hp nc ns P := by
  obtain ⟨h1, rfl⟩ := hd
  exact fun l p e s m args below meth c B S D cy H locs ls C hZ hW hS hL => lv_if_lt C.1 C.2.1 h1 (tgt_ok pc tgt) (fun q => kt q l p e s m args below meth c B S D cy H locs ls C hZ hW hS hL) (fun q => kf q l p e s m args below meth c B S D cy H locs ls C hZ hW hS hL)
theorem g_icmp_lt {x y : Int32} {tgt : Nat} (hd : Dq M.2.1 pc (.if_icmp .lt) tgt pc') (kt : x < y → Gd M d mc ms tgt L st hp nc ns P) (kf : ¬ x < y → Gd M d mc ms pc' L st hp nc ns P) : Gd M d mc ms pc L (.int y :: .int x :: st) hp nc ns P := by
  obtain ⟨h1, rfl⟩ := hd
  exact fun l p e s m args below meth c B S D cy H locs ls C hZ hW hS hL => lv_icmp_lt C.1 C.2.1 h1 (tgt_ok pc tgt) (fun q => kt q l p e s m args below meth c B S D cy H locs ls C hZ hW hS hL) (fun q => kf q l p e s m args below meth c B S D cy H locs ls C hZ hW hS hL)
theorem g_if_ge {x : Int32} {tgt : Nat} (hd : Dq M.2.1 pc (.ifCond .ge) tgt pc') (kt : 0 ≤ x → Gd M d mc ms tgt L st hp nc ns P) (kf : ¬ 0 ≤ x → Gd M d mc ms pc' L st hp nc ns P) : Gd M d mc ms pc L (.int x :: st) hp nc ns P := by
  obtain ⟨h1, rfl⟩ := hd
  exact fun l p e s m args below meth c B S D cy H locs ls C hZ hW hS hL => lv_if_ge C.1 C.2.1 h1 (tgt_ok pc tgt) (fun q => kt q l p e s m args below meth c B S D cy H locs ls C hZ hW hS hL) (fun q => kf q l p e s m args below meth c B S D cy H locs ls C hZ hW hS hL)
theorem g_icmp_ge {x y : Int32} {tgt : Nat} (hd : Dq M.2.1 pc (.if_icmp .ge) tgt pc') (kt : y ≤ x → Gd M d mc ms tgt L st hp nc ns P) (kf : ¬ y ≤ x → Gd M d mc ms pc' L st hp nc ns P) : Gd M d mc ms pc L (.int y :: .int x :: st) hp nc ns P := by
  obtain ⟨h1, rfl⟩ := hd
  exact fun l p e s m args below meth c B S D cy H locs ls C hZ hW hS hL => lv_icmp_ge C.1 C.2.1 h1 (tgt_ok pc tgt) (fun q => kt q l p e s m args below meth c B S D cy H locs ls C hZ hW hS hL) (fun q => kf q l p e s m args below meth c B S D cy H locs ls C hZ hW hS hL)
theorem g_if_gt {x : Int32} {tgt : Nat} (hd : Dq M.2.1 pc (.ifCond .gt) tgt pc') (kt : 0 < x → Gd M d mc ms tgt L st hp nc ns P) (kf : ¬ 0 < x → Gd M d mc ms pc' L st hp nc ns P) : Gd M d mc ms pc L (.int x :: st) hp nc ns P := by
  obtain ⟨h1, rfl⟩ := hd
  exact fun l p e s m args below meth c B S D cy H locs ls C hZ hW hS hL => lv_if_gt C.1 C.2.1 h1 (tgt_ok pc tgt) (fun q => kt q l p e s m args below meth c B S D cy H locs ls C hZ hW hS hL) (fun q => kf q l p e s m args below meth c B S D cy H locs ls C hZ hW hS hL)
theorem g_icmp_gt {x y : Int32} {tgt : Nat} (hd : Dq M.2.1 pc (.if_icmp .gt) tgt pc') (kt : y < x → Gd M d mc ms tgt L st hp nc ns P) (kf : ¬ y < x → Gd M d mc ms pc' L st hp nc ns P) : Gd M d mc ms pc L (.int y :: .int x :: st) hp nc ns P := by
  obtain ⟨h1, rfl⟩ := hd
  exact fun l p e s m args below meth c B S D cy H locs ls C hZ hW hS hL => lv_icmp_gt C.1 C.2.1 h1 (tgt_ok pc tgt) (fun q => kt q l p e s m args below meth c B S D cy H locs ls C hZ hW hS hL) (fun q => kf q l p e s m args below meth c B S D cy H locs ls C hZ hW hS hL)
theorem g_if_le {x : Int32} {tgt : Nat} (hd : Dq M.2.1 pc (.ifCond .le) tgt pc') (kt : x ≤ 0 → Gd M d mc ms tgt L st hp nc ns P) (kf : ¬ x ≤ 0 → Gd M d mc ms pc' L st hp nc ns P) : Gd M d mc ms pc L (.int x :: st) hp nc ns P := by
  obtain ⟨h1, rfl⟩ := hd
  exact fun l p e s m args below meth c B S D cy H locs ls C hZ hW hS hL => lv_if_le C.1 C.2.1 h1 (tgt_ok pc tgt) (fun q => kt q l p e s m args below meth c B S D cy H locs ls C hZ hW hS hL) (fun q => kf q l p e s m args below meth c B S D cy H locs ls C hZ hW hS hL)
theorem g_icmp_le {x y : Int32} {tgt : Nat} (hd : Dq M.2.1 pc (.if_icmp .le) tgt pc') (kt : x ≤ y → Gd M d mc ms tgt L st hp nc ns P) (kf : ¬ x ≤ y → Gd M d mc ms pc' L st hp nc ns P) : Gd M d mc ms pc L (.int y :: .int x :: st) hp nc ns P := by
  obtain ⟨h1, rfl⟩ := hd
  exact fun l p e s m args below meth c B S D cy H locs ls C hZ hW hS hL => lv_icmp_le C.1 C.2.1 h1 (tgt_ok pc tgt) (fun q => kt q l p e s m args below meth c B S D cy H locs ls C hZ hW hS hL) (fun q => kf q l p e s m args below meth c B S D cy H locs ls C hZ hW hS hL)
theorem g_goto {tgt : Nat} (hd : Dq M.2.1 pc .goto tgt pc') (k : Gd M d mc ms tgt L st hp nc ns P) : Gd M d mc ms pc L st hp nc ns P := by
  obtain ⟨h1, -⟩ := hd
  exact fun l p e s m args below meth c B S D cy H locs ls C hZ hW hS hL => lv_goto C.1 C.2.1 h1 (tgt_ok pc tgt) (k l p e s m args below meth c B S D cy H locs ls C hZ hW hS hL)
theorem g_tableIn {dflt lo hi off : Int} {offs : Array Int} {len tgt : Nat} {x : Int32} (hd : decode M.2.1 pc = .ok (.tableswitch dflt lo hi offs, len)) (h1 : ¬ x.toInt < lo) (h2 : ¬ hi < x.toInt) (ho : offs[(x.toInt - lo).toNat]? = some off) (ht : (pc : Int) + off = (tgt : Int)) (k : Gd M d mc ms tgt L st hp nc ns P) : Gd M d mc ms pc L (.int x :: st) hp nc ns P :=
  fun l p e s m args below meth c B S D cy H locs ls C hZ hW hS hL => lv_tableIn C.1 C.2.1 hd h1 h2 ho ht (k l p e s m args below meth c B S D cy H locs ls C hZ hW hS hL)
theorem g_tableOut {dflt lo hi : Int} {offs : Array Int} {len tgt : Nat} {x : Int32} (hd : decode M.2.1 pc = .ok (.tableswitch dflt lo hi offs, len)) (h : x.toInt < lo ∨ hi < x.toInt) (ht : (pc : Int) + dflt = (tgt : Int)) (k : Gd M d mc ms tgt L st hp nc ns P) : Gd M d mc ms pc L (.int x :: st) hp nc ns P :=
  fun l p e s m args below meth c B S D cy H locs ls C hZ hW hS hL => lv_tableOut C.1 C.2.1 hd h ht (k l p e s m args below meth c B S D cy H locs ls C hZ hW hS hL)
theorem g_lookup {dflt off : Int} {ps : Array (Int × Int)} {len tgt : Nat} {x : Int32} (hd : decode M.2.1 pc = .ok (.lookupswitch dflt ps, len)) (hp0 : (ps.toList.zip (ps.toList.drop 1)).all (fun (a, next) => a.1 < next.1) = true) (ho : Op.lookupswitch.offset ps.toList dflt x.toInt = off) (ht : (pc : Int) + off = (tgt : Int)) (k : Gd M d mc ms tgt L st hp nc ns P) : Gd M d mc ms pc L (.int x :: st) hp nc ns P :=
  fun l p e s m args below meth c B S D cy H locs ls C hZ hW hS hL => lv_lookup C.1 C.2.1 hd hp0 ho ht (k l p e s m args below meth c B S D cy H locs ls C hZ hW hS hL)
theorem g_ldc {i : Nat} {v : Int32} (hd : Dc M.2.1 pc (.ldc i) 2 pc') (hc : Cond.constant M.1.cls i v ∈ TT) (k : Gd M d mc ms pc' L (.int v :: st) hp nc ns P) : Gd M d mc ms pc L st hp nc ns P := by
  obtain ⟨h1, rfl⟩ := hd
  exact fun l p e s m args below meth c B S D cy H locs ls C hZ hW hS hL => lv_ldc C.1 C.2.1 C.2.2.2.2.1 (C.2.2.2.2.2.1 _ hc) h1 (k l p e s m args below meth c B S D cy H locs ls C hZ hW hS hL)
theorem g_ldcw {i : Nat} {v : Int32} (hd : Dc M.2.1 pc (.ldc_w i) 3 pc') (hc : Cond.constant M.1.cls i v ∈ TT) (k : Gd M d mc ms pc' L (.int v :: st) hp nc ns P) : Gd M d mc ms pc L st hp nc ns P := by
  obtain ⟨h1, rfl⟩ := hd
  exact fun l p e s m args below meth c B S D cy H locs ls C hZ hW hS hL => lv_ldcw C.1 C.2.1 C.2.2.2.2.1 (C.2.2.2.2.2.1 _ hc) h1 (k l p e s m args below meth c B S D cy H locs ls C hZ hW hS hL)
theorem g_ldc2 {i : Nat} {v : Int64} (hd : Dc M.2.1 pc (.ldc2_w i) 3 pc') (hc : Cond.constantLong M.1.cls i v ∈ TT) (k : Gd M d mc ms pc' L (.long v :: st) hp nc ns P) : Gd M d mc ms pc L st hp nc ns P := by
  obtain ⟨h1, rfl⟩ := hd
  exact fun l p e s m args below meth c B S D cy H locs ls C hZ hW hS hL => lv_ldc2 C.1 C.2.1 C.2.2.2.2.1 (C.2.2.2.2.2.1 _ hc) h1 (k l p e s m args below meth c B S D cy H locs ls C hZ hW hS hL)
/-- no long lies just below a place -/
def nlong (L : List (Option Value)) (i : Nat) : Bool := match i with
  | 0 => true
  | i + 1 => match L[i]? with
    | some (some v) => v.category != 2
    | _ => true
def prL (B : Nat) (S : Nat → Nat) (L : List (Option Value)) : List (Nat × Value) := (List.range L.length).filterMap (fun i => match L[i]? with
  | some (some v) => some (i, cv B S v)
  | _ => none)
theorem prL_in {B : Nat} {S : Nat → Nat} {L : List (Option Value)} {i : Nat} {v : Value} (h : L[i]? = some (some v)) : (i, cv B S v) ∈ prL B S L := by
  refine List.mem_filterMap.mpr ⟨i, List.mem_range.mpr (List.getElem?_eq_some_iff.mp h).1, ?_⟩
  rw [h]
theorem prL_has {M : Meth} {B : Nat} {S : Nat → Nat} {ls : Array Slot} {L : List (Option Value)} (h : Lh M B S ls L) : lv_has ls M.2.2.1 (prL B S L) := by
  refine ⟨h.1, h.2.2.1, fun q hq => ?_⟩
  obtain ⟨i, -, hi⟩ := List.mem_filterMap.mp hq
  cases hL : L[i]? with
  | none => rw [hL] at hi; cases hi
  | some o =>
    cases o with
    | none => rw [hL] at hi; cases hi
    | some v =>
      rw [hL] at hi
      cases hi
      exact h.2.2.2 i v hL
theorem lh_set1 {M : Meth} {B : Nat} {S : Nat → Nat} {ls : Array Slot} {L : List (Option Value)} {i : Nat} {v : Value} (hl : L.length = M.2.2.1) (hn : nlong L i = true) (h : lv_has ls M.2.2.1 ((i, cv B S v) :: (prL B S L).filter (fun q => !(q.1 == i) && !(q.1 + 1 == i && q.2.category == 2)))) : Lh M B S ls (L.set i (some v)) := by
  refine ⟨h.1, by rw [List.length_set]; exact hl, h.2.1, fun j w hj => ?_⟩
  by_cases hij : i = j
  · subst hij
    have hlt : i < L.length := by
      have := (List.getElem?_eq_some_iff.mp hj).1
      rw [List.length_set] at this
      exact this
    rw [List.getElem?_set_self hlt] at hj
    cases hj
    exact h.2.2 (i, cv B S v) List.mem_cons_self
  · rw [List.getElem?_set_ne hij] at hj
    refine h.2.2 (j, cv B S w) (List.mem_cons_of_mem _ (List.mem_filter.mpr ⟨prL_in hj, ?_⟩))
    have e1 : (j == i) = false := by simp; omega
    have e2 : (j + 1 == i && (cv B S w).category == 2) = false := by
      rw [cv_cat]
      by_cases hj1 : j + 1 = i
      · subst hj1
        simp only [nlong, hj] at hn
        simpa using hn
      · have : (j + 1 == i) = false := by simpa using hj1
        rw [this]
        rfl
    show (!(j == i) && !(j + 1 == i && (cv B S w).category == 2)) = true
    rw [e1, e2]
    rfl
theorem lh_set2 {M : Meth} {B : Nat} {S : Nat → Nat} {ls : Array Slot} {L : List (Option Value)} {i : Nat} {v : Value} (hl : L.length = M.2.2.1) (hn : nlong L i = true) (hi : i + 1 < M.2.2.1) (h : lv_has ls M.2.2.1 ((i, cv B S v) :: (prL B S L).filter (fun q => !(q.1 == i) && (!(q.1 == i + 1) && !(q.1 + 1 == i && q.2.category == 2))))) : Lh M B S ls ((L.set i (some v)).set (i + 1) none) := by
  refine ⟨h.1, by rw [List.length_set, List.length_set]; exact hl, h.2.1, fun j w hj => ?_⟩
  by_cases h2 : i + 1 = j
  · subst h2
    rw [List.getElem?_set_self (by rw [List.length_set, hl]; exact hi)] at hj
    cases hj
  · rw [List.getElem?_set_ne h2] at hj
    by_cases hij : i = j
    · subst hij
      rw [List.getElem?_set_self (by omega)] at hj
      cases hj
      exact h.2.2 (i, cv B S v) List.mem_cons_self
    · rw [List.getElem?_set_ne hij] at hj
      refine h.2.2 (j, cv B S w) (List.mem_cons_of_mem _ (List.mem_filter.mpr ⟨prL_in hj, ?_⟩))
      have e1 : (j == i) = false := by simp; omega
      have e3 : (j == i + 1) = false := by simp; omega
      have e2 : (j + 1 == i && (cv B S w).category == 2) = false := by
        rw [cv_cat]
        by_cases hj1 : j + 1 = i
        · subst hj1
          simp only [nlong, hj] at hn
          simpa using hn
        · have : (j + 1 == i) = false := by simpa using hj1
          rw [this]
          rfl
      show (!(j == i) && (!(j == i + 1) && !(j + 1 == i && (cv B S w).category == 2))) = true
      rw [e1, e2, e3]
      rfl
theorem Nat.lt_of_ble_eq_true' {a b : Nat} (h : Nat.ble (a + 1) b = true) : a < b := Nat.le_of_ble_eq_true h
theorem g_istore_n {i : Fin 4} {x : Int32} (hd : Dc M.2.1 pc (.istore_n i) 1 pc') (hi : Nat.ble ((i : Nat) + 1) M.2.2.1 = true) (hn : nlong L i = true) (k : Gd M d mc ms pc' (L.set i (some (.int x))) st hp nc ns P) : Gd M d mc ms pc L (.int x :: st) hp nc ns P := by
  obtain ⟨h1, rfl⟩ := hd
  exact fun l p e s m args below meth c B S D cy H locs ls C hZ hW hS hL => lv_istore_n C.1 C.2.1 h1 rfl (prL_has hL) (Nat.lt_of_ble_eq_true' hi) rfl (fun ls' h' => k l p e s m args below meth c B S D cy H locs ls' C hZ hW hS (lh_set1 hL.2.1 hn h'))
theorem g_istore {i : Nat} {x : Int32} (hd : Dc M.2.1 pc (.istore i) 2 pc') (hi : Nat.ble (i + 1) M.2.2.1 = true) (hn : nlong L i = true) (k : Gd M d mc ms pc' (L.set i (some (.int x))) st hp nc ns P) : Gd M d mc ms pc L (.int x :: st) hp nc ns P := by
  obtain ⟨h1, rfl⟩ := hd
  exact fun l p e s m args below meth c B S D cy H locs ls C hZ hW hS hL => lv_istore C.1 C.2.1 h1 (prL_has hL) (Nat.lt_of_ble_eq_true' hi) rfl (fun ls' h' => k l p e s m args below meth c B S D cy H locs ls' C hZ hW hS (lh_set1 hL.2.1 hn h'))
theorem g_astore_n {i : Fin 4} {x : Nat} (hd : Dc M.2.1 pc (.astore_n i) 1 pc') (hi : Nat.ble ((i : Nat) + 1) M.2.2.1 = true) (hn : nlong L i = true) (k : Gd M d mc ms pc' (L.set i (some (.ref x))) st hp nc ns P) : Gd M d mc ms pc L (.ref x :: st) hp nc ns P := by
  obtain ⟨h1, rfl⟩ := hd
  exact fun l p e s m args below meth c B S D cy H locs ls C hZ hW hS hL => lv_astore_n C.1 C.2.1 h1 rfl (prL_has hL) (Nat.lt_of_ble_eq_true' hi) rfl (fun ls' h' => k l p e s m args below meth c B S D cy H locs ls' C hZ hW hS (lh_set1 hL.2.1 hn h'))
theorem g_astore {i : Nat} {x : Nat} (hd : Dc M.2.1 pc (.astore i) 2 pc') (hi : Nat.ble (i + 1) M.2.2.1 = true) (hn : nlong L i = true) (k : Gd M d mc ms pc' (L.set i (some (.ref x))) st hp nc ns P) : Gd M d mc ms pc L (.ref x :: st) hp nc ns P := by
  obtain ⟨h1, rfl⟩ := hd
  exact fun l p e s m args below meth c B S D cy H locs ls C hZ hW hS hL => lv_astore C.1 C.2.1 h1 (prL_has hL) (Nat.lt_of_ble_eq_true' hi) rfl (fun ls' h' => k l p e s m args below meth c B S D cy H locs ls' C hZ hW hS (lh_set1 hL.2.1 hn h'))
theorem g_lstore_n {i : Fin 4} {x : Int64} (hd : Dc M.2.1 pc (.lstore_n i) 1 pc') (hi : Nat.ble ((i : Nat) + 1 + 1) M.2.2.1 = true) (hn : nlong L i = true) (k : Gd M d mc ms pc' ((L.set i (some (.long x))).set (i + 1) none) st hp nc ns P) : Gd M d mc ms pc L (.long x :: st) hp nc ns P := by
  obtain ⟨h1, rfl⟩ := hd
  exact fun l p e s m args below meth c B S D cy H locs ls C hZ hW hS hL => lv_lstore_n C.1 C.2.1 h1 rfl (prL_has hL) (Nat.lt_of_ble_eq_true' hi) rfl (fun ls' h' => k l p e s m args below meth c B S D cy H locs ls' C hZ hW hS (lh_set2 hL.2.1 hn (Nat.lt_of_ble_eq_true' hi) h'))
theorem g_lstore {i : Nat} {x : Int64} (hd : Dc M.2.1 pc (.lstore i) 2 pc') (hi : Nat.ble (i + 1 + 1) M.2.2.1 = true) (hn : nlong L i = true) (k : Gd M d mc ms pc' ((L.set i (some (.long x))).set (i + 1) none) st hp nc ns P) : Gd M d mc ms pc L (.long x :: st) hp nc ns P := by
  obtain ⟨h1, rfl⟩ := hd
  exact fun l p e s m args below meth c B S D cy H locs ls C hZ hW hS hL => lv_lstore C.1 C.2.1 h1 (prL_has hL) (Nat.lt_of_ble_eq_true' hi) rfl (fun ls' h' => k l p e s m args below meth c B S D cy H locs ls' C hZ hW hS (lh_set2 hL.2.1 hn (Nat.lt_of_ble_eq_true' hi) h'))
theorem g_iinc {i : Nat} {n : Int} {x v : Int32} (hd : Dc M.2.1 pc (.iinc i n) 3 pc') (hi : Nat.ble (i + 1) M.2.2.1 = true) (hn : nlong L i = true) (hl : L[i]? = some (some (.int x))) (hv : x + Int32.ofInt n = v) (k : Gd M d mc ms pc' (L.set i (some (.int v))) st hp nc ns P) : Gd M d mc ms pc L st hp nc ns P := by
  obtain ⟨h1, rfl⟩ := hd
  refine fun l p e s m args below meth c B S D cy H locs ls C hZ hW hS hL => ?_
  obtain ⟨kk, hk⟩ := List.getElem?_of_mem (prL_in (B := B) (S := S) hl)
  exact lv_iinc C.1 C.2.1 h1 (prL_has hL) hk hv (Nat.lt_of_ble_eq_true' hi) rfl (fun ls' h' => k l p e s m args below meth c B S D cy H locs ls' C hZ hW hS (lh_set1 (v := .int v) hL.2.1 hn h'))
theorem g_iret {x : Int32} (hd : Dc M.2.1 pc .ireturn 1 pc') (hr : M.2.2.2 = some .int) (h1 : nc ≤ mc) (h2 : ns ≤ ms) (hP : P (some (.int x)) hp) : Gd M d mc ms pc L [.int x] hp nc ns P := by
  refine fun l p e s m args below meth c B S D cy H locs ls C hZ hW hS hL => ?_
  refine W.widen h1 h2 ?_
  exact W.iret C.1 C.2.1 (C.2.2.1.trans hr) (fun t ht hWm => ⟨⟨some (.int x), hp, rfl, hP, hW.1, by rw [ht]; exact hW.2.1, va_K.moved hWm.alike hW.2.2⟩, hS.F ht⟩) hS.2.2 hd.1 C.2.2.2.2.2.2.1
theorem g_zret {x : Int32} (hd : Dc M.2.1 pc .ireturn 1 pc') (hr : M.2.2.2 = some .boolean) (hx : narrow .boolean (.int x) = .int x) (h1 : nc ≤ mc) (h2 : ns ≤ ms) (hP : P (some (.int x)) hp) : Gd M d mc ms pc L [.int x] hp nc ns P := by
  refine fun l p e s m args below meth c B S D cy H locs ls C hZ hW hS hL => ?_
  refine W.widen h1 h2 ?_
  exact W.zret C.1 C.2.1 (C.2.2.1.trans hr) hx (fun t ht hWm => ⟨⟨some (.int x), hp, rfl, hP, hW.1, by rw [ht]; exact hW.2.1, va_K.moved hWm.alike hW.2.2⟩, hS.F ht⟩) hS.2.2 hd.1 C.2.2.2.2.2.2.1
theorem g_lret {x : Int64} (hd : Dc M.2.1 pc .lreturn 1 pc') (hr : M.2.2.2 = some .long) (h1 : nc ≤ mc) (h2 : ns ≤ ms) (hP : P (some (.long x)) hp) : Gd M d mc ms pc L [.long x] hp nc ns P := by
  refine fun l p e s m args below meth c B S D cy H locs ls C hZ hW hS hL => ?_
  refine W.widen h1 h2 ?_
  exact W.lret C.1 C.2.1 (C.2.2.1.trans hr) (fun t ht hWm => ⟨⟨some (.long x), hp, rfl, hP, hW.1, by rw [ht]; exact hW.2.1, va_K.moved hWm.alike hW.2.2⟩, hS.F ht⟩) hS.2.2 hd.1 C.2.2.2.2.2.2.1
theorem g_aret {x : Nat} {rt : FieldType} (hd : Dc M.2.1 pc .areturn 1 pc') (hr : M.2.2.2 = some rt) (hrt : (∃ n, rt = .object n) ∨ ∃ t, rt = .array t) (h1 : nc ≤ mc) (h2 : ns ≤ ms) (hP : P (some (.ref x)) hp) : Gd M d mc ms pc L [.ref x] hp nc ns P := by
  refine fun l p e s m args below meth c B S D cy H locs ls C hZ hW hS hL => ?_
  refine W.widen h1 h2 ?_
  exact W.aret C.1 C.2.1 (C.2.2.1.trans hr) hrt (Or.inr ⟨_, rfl⟩) (fun t ht hWm => ⟨⟨some (.ref x), hp, rfl, hP, hW.1, by rw [ht]; exact hW.2.1, va_K.moved hWm.alike hW.2.2⟩, hS.F ht⟩) hS.2.2 hd.1 C.2.2.2.2.2.2.1
theorem g_vret (hd : Dc M.2.1 pc .return_ 1 pc') (hr : M.2.2.2 = none) (h1 : nc ≤ mc) (h2 : ns ≤ ms) (hP : P none hp) : Gd M d mc ms pc L [] hp nc ns P := by
  refine fun l p e s m args below meth c B S D cy H locs ls C hZ hW hS hL => ?_
  refine W.widen h1 h2 ?_
  exact W.vret C.1 C.2.1 (C.2.2.1.trans hr) (fun t ht hWm => ⟨⟨none, hp, rfl, hP, hW.1, by rw [ht]; exact hW.2.1, va_K.moved hWm.alike hW.2.2⟩, hS.F ht⟩) hS.2.2 hd.1 C.2.2.2.2.2.2.1
end Rules
end
section
theorem ciw0 : ∀ w ∈ u_ws RX0 TX0 3, w ∈ TT := fun w hw => by
  obtain ⟨k, hk, rfl⟩ := List.mem_map.mp hw
  have hk := List.mem_range.mp hk
  match k, hk with
  | 0, _ => exact tt_of 237 (by decide +kernel) rfl
  | 1, _ => exact tt_of 239 (by decide +kernel) rfl
  | 2, _ => exact tt_of 241 (by decide +kernel) rfl
  | k + 3, h => exact absurd h (by omega)
theorem ciw1 : ∀ w ∈ u_ws RX1 TX1 2, w ∈ TT := fun w hw => by
  obtain ⟨k, hk, rfl⟩ := List.mem_map.mp hw
  have hk := List.mem_range.mp hk
  match k, hk with
  | 0, _ => exact tt_of 278 (by decide +kernel) rfl
  | 1, _ => exact tt_of 280 (by decide +kernel) rfl
  | k + 2, h => exact absurd h (by omega)
theorem ciw2 : ∀ w ∈ u_ws RX2 TX2 16, w ∈ TT := fun w hw => by
  obtain ⟨k, hk, rfl⟩ := List.mem_map.mp hw
  have hk := List.mem_range.mp hk
  match k, hk with
  | 0, _ => exact tt_of 191 (by decide +kernel) rfl
  | 1, _ => exact tt_of 193 (by decide +kernel) rfl
  | 2, _ => exact tt_of 195 (by decide +kernel) rfl
  | 3, _ => exact tt_of 197 (by decide +kernel) rfl
  | 4, _ => exact tt_of 199 (by decide +kernel) rfl
  | 5, _ => exact tt_of 201 (by decide +kernel) rfl
  | 6, _ => exact tt_of 203 (by decide +kernel) rfl
  | 7, _ => exact tt_of 205 (by decide +kernel) rfl
  | 8, _ => exact tt_of 207 (by decide +kernel) rfl
  | 9, _ => exact tt_of 209 (by decide +kernel) rfl
  | 10, _ => exact tt_of 211 (by decide +kernel) rfl
  | 11, _ => exact tt_of 213 (by decide +kernel) rfl
  | 12, _ => exact tt_of 215 (by decide +kernel) rfl
  | 13, _ => exact tt_of 217 (by decide +kernel) rfl
  | 14, _ => exact tt_of 219 (by decide +kernel) rfl
  | 15, _ => exact tt_of 221 (by decide +kernel) rfl
  | k + 16, h => exact absurd h (by omega)
theorem ciw3 : ∀ w ∈ u_ws RX3 TX3 5, w ∈ TT := fun w hw => by
  obtain ⟨k, hk, rfl⟩ := List.mem_map.mp hw
  have hk := List.mem_range.mp hk
  match k, hk with
  | 0, _ => exact tt_of 257 (by decide +kernel) rfl
  | 1, _ => exact tt_of 259 (by decide +kernel) rfl
  | 2, _ => exact tt_of 261 (by decide +kernel) rfl
  | 3, _ => exact tt_of 263 (by decide +kernel) rfl
  | 4, _ => exact tt_of 265 (by decide +kernel) rfl
  | k + 5, h => exact absurd h (by omega)
theorem ciw4 : ∀ w ∈ u_ws RX4 TX4 3, w ∈ TT := fun w hw => by
  obtain ⟨k, hk, rfl⟩ := List.mem_map.mp hw
  have hk := List.mem_range.mp hk
  match k, hk with
  | 0, _ => exact tt_of 108 (by decide +kernel) rfl
  | 1, _ => exact tt_of 110 (by decide +kernel) rfl
  | 2, _ => exact tt_of 112 (by decide +kernel) rfl
  | k + 3, h => exact absurd h (by omega)
theorem ciw5 : ∀ w ∈ u_ws RX5 TX5 7, w ∈ TT := fun w hw => by
  obtain ⟨k, hk, rfl⟩ := List.mem_map.mp hw
  have hk := List.mem_range.mp hk
  match k, hk with
  | 0, _ => exact tt_of 132 (by decide +kernel) rfl
  | 1, _ => exact tt_of 134 (by decide +kernel) rfl
  | 2, _ => exact tt_of 136 (by decide +kernel) rfl
  | 3, _ => exact tt_of 138 (by decide +kernel) rfl
  | 4, _ => exact tt_of 140 (by decide +kernel) rfl
  | 5, _ => exact tt_of 142 (by decide +kernel) rfl
  | 6, _ => exact tt_of 144 (by decide +kernel) rfl
  | k + 7, h => exact absurd h (by omega)
theorem ciw6 : ∀ w ∈ u_ws RX6 TX6 10, w ∈ TT := fun w hw => by
  obtain ⟨k, hk, rfl⟩ := List.mem_map.mp hw
  have hk := List.mem_range.mp hk
  match k, hk with
  | 0, _ => exact tt_of 293 (by decide +kernel) rfl
  | 1, _ => exact tt_of 295 (by decide +kernel) rfl
  | 2, _ => exact tt_of 297 (by decide +kernel) rfl
  | 3, _ => exact tt_of 299 (by decide +kernel) rfl
  | 4, _ => exact tt_of 301 (by decide +kernel) rfl
  | 5, _ => exact tt_of 303 (by decide +kernel) rfl
  | 6, _ => exact tt_of 305 (by decide +kernel) rfl
  | 7, _ => exact tt_of 307 (by decide +kernel) rfl
  | 8, _ => exact tt_of 309 (by decide +kernel) rfl
  | 9, _ => exact tt_of 311 (by decide +kernel) rfl
  | k + 10, h => exact absurd h (by omega)
theorem ciw7 : ∀ w ∈ u_ws RX7 TX7 30, w ∈ TT := fun w hw => by
  obtain ⟨k, hk, rfl⟩ := List.mem_map.mp hw
  have hk := List.mem_range.mp hk
  match k, hk with
  | 0, _ => exact tt_of 882 (by decide +kernel) rfl
  | 1, _ => exact tt_of 884 (by decide +kernel) rfl
  | 2, _ => exact tt_of 886 (by decide +kernel) rfl
  | 3, _ => exact tt_of 888 (by decide +kernel) rfl
  | 4, _ => exact tt_of 890 (by decide +kernel) rfl
  | 5, _ => exact tt_of 892 (by decide +kernel) rfl
  | 6, _ => exact tt_of 894 (by decide +kernel) rfl
  | 7, _ => exact tt_of 896 (by decide +kernel) rfl
  | 8, _ => exact tt_of 898 (by decide +kernel) rfl
  | 9, _ => exact tt_of 900 (by decide +kernel) rfl
  | 10, _ => exact tt_of 902 (by decide +kernel) rfl
  | 11, _ => exact tt_of 904 (by decide +kernel) rfl
  | 12, _ => exact tt_of 906 (by decide +kernel) rfl
  | 13, _ => exact tt_of 908 (by decide +kernel) rfl
  | 14, _ => exact tt_of 910 (by decide +kernel) rfl
  | 15, _ => exact tt_of 912 (by decide +kernel) rfl
  | 16, _ => exact tt_of 914 (by decide +kernel) rfl
  | 17, _ => exact tt_of 916 (by decide +kernel) rfl
  | 18, _ => exact tt_of 918 (by decide +kernel) rfl
  | 19, _ => exact tt_of 920 (by decide +kernel) rfl
  | 20, _ => exact tt_of 922 (by decide +kernel) rfl
  | 21, _ => exact tt_of 924 (by decide +kernel) rfl
  | 22, _ => exact tt_of 926 (by decide +kernel) rfl
  | 23, _ => exact tt_of 928 (by decide +kernel) rfl
  | 24, _ => exact tt_of 930 (by decide +kernel) rfl
  | 25, _ => exact tt_of 932 (by decide +kernel) rfl
  | 26, _ => exact tt_of 934 (by decide +kernel) rfl
  | 27, _ => exact tt_of 936 (by decide +kernel) rfl
  | 28, _ => exact tt_of 938 (by decide +kernel) rfl
  | 29, _ => exact tt_of 940 (by decide +kernel) rfl
  | k + 30, h => exact absurd h (by omega)
def CI (ci : Nat) (C : String) (T : u_T) (N : Nat) : Prop := vwCl[ci]? = some (C, T, N) ∧ ci < 8 ∧ (∀ w ∈ u_ws C T N, w ∈ TT) ∧ (∃ ty0 : Nat → FieldType, ∀ k, k < N → parseFieldDescriptor (T k).2.2.1 = some (ty0 k)) ∧ ∀ a, a < N → ∀ b, b < N → a ≠ b → (T a).2.1 ≠ (T b).2.1
theorem ci0 : CI 0 RX0 TX0 3 := ⟨rfl, by decide, ciw0, ⟨tyX0, tyX0_ok⟩, nmX0⟩
theorem ci1 : CI 1 RX1 TX1 2 := ⟨rfl, by decide, ciw1, ⟨tyX1, tyX1_ok⟩, nmX1⟩
theorem ci2 : CI 2 RX2 TX2 16 := ⟨rfl, by decide, ciw2, ⟨tyX2, tyX2_ok⟩, nmX2⟩
theorem ci3 : CI 3 RX3 TX3 5 := ⟨rfl, by decide, ciw3, ⟨tyX3, tyX3_ok⟩, nmX3⟩
theorem ci4 : CI 4 RX4 TX4 3 := ⟨rfl, by decide, ciw4, ⟨tyX4, tyX4_ok⟩, nmX4⟩
theorem ci5 : CI 5 RX5 TX5 7 := ⟨rfl, by decide, ciw5, ⟨tyX5, tyX5_ok⟩, nmX5⟩
theorem ci6 : CI 6 RX6 TX6 10 := ⟨rfl, by decide, ciw6, ⟨tyX6, tyX6_ok⟩, nmX6⟩
theorem ci7 : CI 7 RX7 TX7 30 := ⟨rfl, by decide, ciw7, ⟨tyX7, tyX7_ok⟩, nmX7⟩
/-- a field that an instruction of a class names: its class, its place, whether it is final, its type -/
def FL (own : String) (idx ci k : Nat) (fin : Bool) (ty : FieldType) : Prop := ∃ (C : String) (T : u_T) (N : Nat), CI ci C T N ∧ k < N ∧ (T k).1 = C ∧ Cond.fieldLink own idx C (T k).2.1 (T k).2.2.1 ∈ TT ∧ (T k).2.2.2 = fin ∧ parseFieldDescriptor (T k).2.2.1 = some ty
section Rules
variable {M : Meth} {d mc ms pc pc' : Nat} {L : List (Option Value)} {st : List Value} {hp : Hp} {nc ns : Nat} {P : Option Value → Hp → Prop}
theorem stk_ref {B : Nat} {S : Nat → Nat} {o : Nat} (h : o < 1000000) : cv B S (.ref o) = .ref (B + o) := by
  show Value.ref (ad B S o) = _
  rw [ad_lt h]
theorem ce_obj {B : Nat} {S : Nat → Nat} {cy : Nat → ClassId} {ci : Nat} {vs : List Value} (h : ci < 8) : ce B S cy (ci, vs) = .inr (ci, vs.map (cv B S)) := if_pos h
theorem ce_int {B : Nat} {S : Nat → Nat} {cy : Nat → ClassId} {t : Nat} {vs : List Value} (h : ¬ t < 8) (h2 : t < 10) : ce B S cy (t, vs) = .inl (cy t, vs.length, .inl (fun j => iv (vs.getD j .null))) := by
  unfold ce
  rw [if_neg h, if_pos h2]
theorem ce_ref {B : Nat} {S : Nat → Nat} {cy : Nat → ClassId} {t : Nat} {vs : List Value} (h : ¬ t < 10) : ce B S cy (t, vs) = .inl (cy t, vs.length, .inr (.inr (.inr (.inr (fun j => rv B S (vs.getD j .null)))))) := by
  unfold ce
  rw [if_neg (by omega), if_neg h]
theorem wd_lt {B : Nat} {S : Nat → Nat} {D : va_G} {cy : Nat → ClassId} {U : State} {H : Heap} {o : Nat} {q : Nat × List Value} (hW : Wd B S D cy hp U H) (ho : hp[o]? = some q) : o < 1000000 := Nat.lt_of_lt_of_le (List.getElem?_eq_some_iff.mp ho).1 hW.1
theorem g_get {idx ci kf o : Nat} {fin : Bool} {ty : FieldType} {vs : List Value} {v : Value} (hd : Dc M.2.1 pc (.getfield idx) 3 pc') (hf : FL M.1.cls idx ci kf fin ty) (ho : hp[o]? = some (ci, vs)) (hv : vs[kf]? = some v) (k : Gd M d mc ms pc' L (v :: st) hp nc ns P) : Gd M d mc ms pc L (.ref o :: st) hp nc ns P := by
  obtain ⟨h1, rfl⟩ := hd
  obtain ⟨CC, TC, N, ⟨hcl, hci, hin, -, -⟩, hk, hdec, hlk, -, -⟩ := hf
  refine fun l p e s m args below meth c B S D cy H locs ls C hZ hW hS hL => ?_
  rw [List.map_cons, stk_ref (wd_lt hW ho)]
  refine va_get (C := CC) (T := TC) (N := N) C.1 C.2.1 C.2.2.2.2.2.1 hin C.2.2.2.2.1 hW.2.2 hW.2.1 o ((wO_at ho).trans (by rw [ce_obj hci])) hcl kf hk (C.2.2.2.2.2.1 _ hlk) (fun x hx => by rw [← hdec]; exact hx) (v := cv B S v) (by rw [List.getElem?_map, hv]; rfl) h1 ?_
  exact k l p e s m args below meth c B S D cy H locs ls C hZ hW hS hL
theorem g_put {idx ci kf o : Nat} {ty : FieldType} {vs : List Value} {v : Value} (hd : Dc M.2.1 pc (.putfield idx) 3 pc') (hf : FL M.1.cls idx ci kf false ty) (ho : hp[o]? = some (ci, vs)) (hv : kf < vs.length) (hn : ∀ (B : Nat) (S : Nat → Nat), narrow ty (cv B S v) = cv B S v ∧ fits ty (cv B S v) = true) (k : Gd M d mc ms pc' L st (hp.set o (ci, vs.set kf v)) nc ns P) : Gd M d mc ms pc L (v :: .ref o :: st) hp nc ns P := by
  obtain ⟨h1, rfl⟩ := hd
  obtain ⟨CC, TC, N, ⟨hcl, hci, hin, ⟨ty0, hty⟩, hnm⟩, hk, hdec, hlk, hfin, hdd⟩ := hf
  refine fun l p e s m args below meth c B S D cy H locs ls C hZ hW hS hL => ?_
  rw [List.map_cons, List.map_cons, stk_ref (wd_lt hW ho)]
  refine va_put (C := CC) (T := TC) (N := N) C.1 C.2.1 C.2.2.2.2.2.1 hin ty0 hty hnm C.2.2.2.2.1 hW.2.2 hW.2.1 wO_D hS o ((wO_at ho).trans (by rw [ce_obj hci])) hcl kf hk (C.2.2.2.2.2.1 _ hlk) (fun x hx => by rw [← hdec]; exact hx) hfin hdd (hn B S).1 (hn B S).2 (by rw [List.length_map]; exact hv) h1 (fun H1 locs1 hP1 hD1 hS1 => ?_)
  have e0 : (wO B S cy hp).set o (B + o, .inr (ci, (vs.map (cv B S)).set kf (cv B S v))) = wO B S cy (hp.set o (ci, vs.set kf v)) := by
    rw [← wO_set, ce_obj hci, List.map_set]
  rw [e0] at hP1
  exact k l p e s m args below meth c B S D cy H1 locs1 ls C (by rw [List.length_set]; exact hZ) ⟨by rw [List.length_set]; exact hW.1, hP1, hW.2.2⟩ hS1 hL
end Rules
end
section
section Rules
variable {M : Meth} {d mc ms pc pc' : Nat} {L : List (Option Value)} {st : List Value} {hp : Hp} {nc ns : Nat} {P : Option Value → Hp → Prop}
theorem in_of {i : Int32} {vs : List Value} {v : Value} (h0 : ¬ i < 0) (hv : vs[i.toNatClampNeg]? = some v) : vp_in i vs.length := by
  intro h
  rcases h with h | h
  · exact h0 h
  · exact absurd (List.getElem?_eq_some_iff.mp hv).1 (by omega)
theorem getD_of {vs : List Value} {j : Nat} {v : Value} (hv : vs[j]? = some v) : vs.getD j .null = v := by
  rw [List.getD_eq_getElem?_getD, hv]
  rfl
theorem upd_set {vs : List Value} {j : Nat} (x : Int32) (hj : j < vs.length) : (fun q => iv ((vs.set j (.int x)).getD q .null)) = upd (fun q => iv (vs.getD q .null)) j x := by
  funext q
  unfold upd
  by_cases h : q = j
  · subst h
    rw [if_pos rfl, List.getD_eq_getElem?_getD, List.getElem?_set_self hj]
    rfl
  · rw [if_neg h, List.getD_eq_getElem?_getD, List.getElem?_set_ne (fun e => h e.symm), ← List.getD_eq_getElem?_getD]
theorem g_iald {o : Nat} {i x : Int32} {vs : List Value} (hd : Dc M.2.1 pc .iaload 1 pc') (ho : hp[o]? = some (8, vs)) (h0 : ¬ i < 0) (hv : vs[i.toNatClampNeg]? = some (.int x)) (k : Gd M d mc ms pc' L (.int x :: st) hp nc ns P) : Gd M d mc ms pc L (.int i :: .ref o :: st) hp nc ns P := by
  obtain ⟨h1, rfl⟩ := hd
  refine fun l p e s m args below meth c B S D cy H locs ls C hZ hW hS hL => ?_
  rw [List.map_cons, List.map_cons, stk_ref (wd_lt hW ho)]
  refine va_iald C.1 C.2.1 hW.2.2 hW.2.1 o 0 ((wO_at ho).trans (by rw [ce_int (by decide) (by decide)])) rfl (in_of h0 hv) h1 ?_
  have e0 : iv (vs.getD i.toNatClampNeg .null) = x := by rw [getD_of hv]; rfl
  rw [e0]
  exact k l p e s m args below meth c B S D cy H locs ls C hZ hW hS hL
theorem g_zald {o : Nat} {i x : Int32} {vs : List Value} (hd : Dc M.2.1 pc .baload 1 pc') (ho : hp[o]? = some (9, vs)) (h0 : ¬ i < 0) (hv : vs[i.toNatClampNeg]? = some (.int x)) (k : Gd M d mc ms pc' L (.int x :: st) hp nc ns P) : Gd M d mc ms pc L (.int i :: .ref o :: st) hp nc ns P := by
  obtain ⟨h1, rfl⟩ := hd
  refine fun l p e s m args below meth c B S D cy H locs ls C hZ hW hS hL => ?_
  rw [List.map_cons, List.map_cons, stk_ref (wd_lt hW ho)]
  refine va_zald C.1 C.2.1 hW.2.2 hW.2.1 o 1 ((wO_at ho).trans (by rw [ce_int (by decide) (by decide)])) rfl (in_of h0 hv) h1 ?_
  have e0 : iv (vs.getD i.toNatClampNeg .null) = x := by rw [getD_of hv]; rfl
  rw [e0]
  exact k l p e s m args below meth c B S D cy H locs ls C hZ hW hS hL
theorem g_iast {o : Nat} {i x : Int32} {vs : List Value} (hd : Dc M.2.1 pc .iastore 1 pc') (ho : hp[o]? = some (8, vs)) (h0 : vp_in i vs.length) (k : Gd M d mc ms pc' L st (hp.set o (8, vs.set i.toNatClampNeg (.int x))) nc ns P) : Gd M d mc ms pc L (.int x :: .int i :: .ref o :: st) hp nc ns P := by
  obtain ⟨h1, rfl⟩ := hd
  refine fun l p e s m args below meth c B S D cy H locs ls C hZ hW hS hL => ?_
  rw [List.map_cons, List.map_cons, List.map_cons, stk_ref (wd_lt hW ho)]
  refine va_iast C.1 C.2.1 hW.2.2 hW.2.1 wO_D hS o 0 ((wO_at ho).trans (by rw [ce_int (by decide) (by decide)])) rfl h0 h1 (fun H1 locs1 hP1 hD1 hS1 => ?_)
  have e0 : (wO B S cy hp).set o (B + o, .inl (cy 8, vs.length, .inl (upd (fun j => iv (vs.getD j .null)) i.toNatClampNeg x))) = wO B S cy (hp.set o (8, vs.set i.toNatClampNeg (.int x))) := by
    rw [← wO_set, ce_int (by decide) (by decide), List.length_set, upd_set _ (Nat.not_le.mp fun q => h0 (Or.inr q))]
  rw [e0] at hP1
  exact k l p e s m args below meth c B S D cy H1 locs1 ls C (by rw [List.length_set]; exact hZ) ⟨by rw [List.length_set]; exact hW.1, hP1, hW.2.2⟩ hS1 hL
theorem g_zast {o : Nat} {i x : Int32} {vs : List Value} (hd : Dc M.2.1 pc .bastore 1 pc') (ho : hp[o]? = some (9, vs)) (h0 : vp_in i vs.length) (k : Gd M d mc ms pc' L st (hp.set o (9, vs.set i.toNatClampNeg (.int (vp_nar .boolean x)))) nc ns P) : Gd M d mc ms pc L (.int x :: .int i :: .ref o :: st) hp nc ns P := by
  obtain ⟨h1, rfl⟩ := hd
  refine fun l p e s m args below meth c B S D cy H locs ls C hZ hW hS hL => ?_
  rw [List.map_cons, List.map_cons, List.map_cons, stk_ref (wd_lt hW ho)]
  refine va_zast C.1 C.2.1 hW.2.2 hW.2.1 wO_D hS o 1 ((wO_at ho).trans (by rw [ce_int (by decide) (by decide)])) rfl h0 h1 (fun H1 locs1 hP1 hD1 hS1 => ?_)
  have e0 : (wO B S cy hp).set o (B + o, .inl (cy 9, vs.length, .inl (upd (fun j => iv (vs.getD j .null)) i.toNatClampNeg (vp_nar .boolean x)))) = wO B S cy (hp.set o (9, vs.set i.toNatClampNeg (.int (vp_nar .boolean x)))) := by
    rw [← wO_set, ce_int (by decide) (by decide), List.length_set, upd_set _ (Nat.not_le.mp fun q => h0 (Or.inr q))]
  rw [e0] at hP1
  exact k l p e s m args below meth c B S D cy H1 locs1 ls C (by rw [List.length_set]; exact hZ) ⟨by rw [List.length_set]; exact hW.1, hP1, hW.2.2⟩ hS1 hL
theorem g_aaldH {o x : Nat} {i : Int32} {vs : List Value} (hd : Dc M.2.1 pc .aaload 1 pc') (ho : hp[o]? = some (10, vs)) (h0 : ¬ i < 0) (hv : vs[i.toNatClampNeg]? = some (.ref x)) (k : Gd M d mc ms pc' L (.ref x :: st) hp nc ns P) : Gd M d mc ms pc L (.int i :: .ref o :: st) hp nc ns P := by
  obtain ⟨h1, rfl⟩ := hd
  refine fun l p e s m args below meth c B S D cy H locs ls C hZ hW hS hL => ?_
  rw [List.map_cons, List.map_cons, stk_ref (wd_lt hW ho)]
  have hin := in_of h0 hv
  have hlt : i.toNatClampNeg < vs.length := Nat.not_le.mp fun q => hin (Or.inr q)
  have hcell : H[B + o]? = some (vp_cell (cy 10) (vs.length, .inr (.inr (.inr (.inr (fun j => rv B S (vs.getD j .null))))))) := by
    have h9 := hW.2.1 o _ (wO_at ho)
    rw [ce_ref (by decide)] at h9
    exact h9
  refine W.aald (v := .ref (ad B S x)) (ty := .object RX2) C.1 C.2.1 hcell ((hW.2.2.2 2 _ rfl).1 vs.length (fun j => va_rf (rv B S (vs.getD j .null)))) rfl (fun q => by cases q) (by show ¬ (i < 0 ∨ (arrV _ _ _).slots.size ≤ _); rw [arrV_size]; exact hin) (by show (arrV _ _ _).slots[_]? = _; rw [arrV_read _ _ hlt]; show some (va_rf (rv B S (vs.getD i.toNatClampNeg .null))) = _; rw [getD_of hv]; rfl) rfl rfl h1 ?_
  exact k l p e s m args below meth c B S D cy H locs ls C hZ hW hS hL
theorem g_aaldI {o x : Nat} {i : Int32} {vs : List Value} (hd : Dc M.2.1 pc .aaload 1 pc') (ho : hp[o]? = some (11, vs)) (h0 : ¬ i < 0) (hv : vs[i.toNatClampNeg]? = some (.ref x)) (k : Gd M d mc ms pc' L (.ref x :: st) hp nc ns P) : Gd M d mc ms pc L (.int i :: .ref o :: st) hp nc ns P := by
  obtain ⟨h1, rfl⟩ := hd
  refine fun l p e s m args below meth c B S D cy H locs ls C hZ hW hS hL => ?_
  rw [List.map_cons, List.map_cons, stk_ref (wd_lt hW ho)]
  have hin := in_of h0 hv
  have hlt : i.toNatClampNeg < vs.length := Nat.not_le.mp fun q => hin (Or.inr q)
  have hcell : H[B + o]? = some (vp_cell (cy 11) (vs.length, .inr (.inr (.inr (.inr (fun j => rv B S (vs.getD j .null))))))) := by
    have h9 := hW.2.1 o _ (wO_at ho)
    rw [ce_ref (by decide)] at h9
    exact h9
  refine W.aald (v := .ref (ad B S x)) (ty := .array .int) C.1 C.2.1 hcell ((hW.2.2.2 3 _ rfl).1 vs.length (fun j => va_rf (rv B S (vs.getD j .null)))) rfl (fun q => by cases q) (by show ¬ (i < 0 ∨ (arrV _ _ _).slots.size ≤ _); rw [arrV_size]; exact hin) (by show (arrV _ _ _).slots[_]? = _; rw [arrV_read _ _ hlt]; show some (va_rf (rv B S (vs.getD i.toNatClampNeg .null))) = _; rw [getD_of hv]; rfl) rfl rfl h1 ?_
  exact k l p e s m args below meth c B S D cy H locs ls C hZ hW hS hL
theorem g_gets {idx j : Nat} (hd : Dc M.2.1 pc (.getstatic idx) 3 pc') (hj : j < 3) (hl : Cond.fieldLink M.1.cls idx RX6 (sN j) "[I" ∈ TT) (k : Gd M d mc ms pc' L (.ref (1000000 + j) :: st) hp nc ns P) : Gd M d mc ms pc L st hp nc ns P := by
  obtain ⟨h1, rfl⟩ := hd
  refine fun l p e s m args below meth c B S D cy H locs ls C hZ hW hS hL => ?_
  have e0 : ad B S (1000000 + j) = S j := by
    unfold ad
    rw [if_neg (by omega), Nat.add_sub_cancel_left]
  have kk := k l p e s m args below meth c B S D cy H locs ls C hZ hW hS hL
  rw [List.map_cons, show cv B S (.ref (1000000 + j)) = .ref (S j) from congrArg Value.ref e0] at kk
  exact va_gets C.1 C.2.1 (C.2.2.2.2.2.2.2.2.1 j hj).1 hS C.2.2.2.2.1 (C.2.2.2.2.2.1 _ hl) (fun x hx => hx) h1 kk
theorem g_getsN {idx j : Nat} (hd : Dc M.2.1 pc (.getstatic idx) 3 pc') (hj : j < 3) (hl : Cond.fieldLinkNest M.1.cls idx RX6 (sN j) "[I" RX6 ∈ NW) (k : Gd M d mc ms pc' L (.ref (1000000 + j) :: st) hp nc ns P) : Gd M d mc ms pc L st hp nc ns P := by
  obtain ⟨h1, rfl⟩ := hd
  refine fun l p e s m args below meth c B S D cy H locs ls C hZ hW hS hL => ?_
  have e0 : ad B S (1000000 + j) = S j := by
    unfold ad
    rw [if_neg (by omega), Nat.add_sub_cancel_left]
  have kk := k l p e s m args below meth c B S D cy H locs ls C hZ hW hS hL
  rw [List.map_cons, show cv B S (.ref (1000000 + j)) = .ref (S j) from congrArg Value.ref e0] at kk
  exact va_getsN C.1 C.2.1 (C.2.2.2.2.2.2.2.2.1 j hj).1 hS C.2.2.2.2.1 (va_Nw.use rfl (C.2.2.2.2.2.2.2.2.2.1.1 _ hl)) (fun x hx => hx) h1 kk
theorem g_tald {j : Nat} {i : Int32} (hd : Dc M.2.1 pc .iaload 1 pc') (hj : j < 3) (h0 : vp_in i 6) (k : Gd M d mc ms pc' L (.int (sT j i.toNatClampNeg) :: st) hp nc ns P) : Gd M d mc ms pc L (.int i :: .ref (1000000 + j) :: st) hp nc ns P := by
  obtain ⟨h1, rfl⟩ := hd
  refine fun l p e s m args below meth c B S D cy H locs ls C hZ hW hS hL => ?_
  have e0 : ad B S (1000000 + j) = S j := by
    unfold ad
    rw [if_neg (by omega), Nat.add_sub_cancel_left]
  rw [List.map_cons, List.map_cons, show cv B S (.ref (1000000 + j)) = .ref (S j) from congrArg Value.ref e0]
  exact va_ti C.1 C.2.1 (C.2.2.2.2.2.2.2.2.1 j hj).2 hS h0 rfl h1 (k l p e s m args below meth c B S D cy H locs ls C hZ hW hS hL)
theorem g_tlen {j : Nat} (hd : Dc M.2.1 pc .arraylength 1 pc') (hj : j < 3) (k : Gd M d mc ms pc' L (.int 6 :: st) hp nc ns P) : Gd M d mc ms pc L (.ref (1000000 + j) :: st) hp nc ns P := by
  obtain ⟨h1, rfl⟩ := hd
  refine fun l p e s m args below meth c B S D cy H locs ls C hZ hW hS hL => ?_
  have e0 : ad B S (1000000 + j) = S j := by
    unfold ad
    rw [if_neg (by omega), Nat.add_sub_cancel_left]
  rw [List.map_cons, show cv B S (.ref (1000000 + j)) = .ref (S j) from congrArg Value.ref e0]
  exact va_tlen C.1 C.2.1 (C.2.2.2.2.2.2.2.2.1 j hj).2 hS (by decide) h1 (k l p e s m args below meth c B S D cy H locs ls C hZ hW hS hL)
def cpyV (vs ws : List Value) (sp dp n : Nat) : List Value := (List.range ws.length).map (fun j => if dp ≤ j ∧ j < dp + n then vs.getD (sp + (j - dp)) .null else ws.getD j .null)
theorem cpyV_len (vs ws : List Value) (sp dp n : Nat) : (cpyV vs ws sp dp n).length = ws.length := by
  unfold cpyV
  rw [List.length_map, List.length_range]
theorem cpyV_iv (vs ws : List Value) (sp dp n : Nat) (h : dp + n ≤ ws.length) : (fun j => iv ((cpyV vs ws sp dp n).getD j .null)) = va_cpy (fun j => iv (vs.getD j .null)) (fun j => iv (ws.getD j .null)) sp dp n := by
  funext j
  unfold cpyV va_cpy
  rw [List.getD_eq_getElem?_getD, List.getElem?_map]
  by_cases hj : j < ws.length
  · rw [List.getElem?_range hj]
    by_cases hc : dp ≤ j ∧ j < dp + n
    · simp [hc]
    · simp [hc]
  · rw [List.getElem?_eq_none (by rw [List.length_range]; omega), if_neg (by omega)]
    show _ = iv (ws.getD j .null)
    rw [List.getD_eq_getElem?_getD, List.getElem?_eq_none (by omega)]
    rfl
def ACopy (own : String) (idx : Nat) : Prop := Cond.methodLink own idx arraycopyName ∈ TT ∧ Cond.native arraycopyName ∈ TT ∧ Cond.static arraycopyName ∈ TT ∧ Cond.initialized "java/lang/System" ∈ TT
theorem g_copy {idx a b : Nat} {sp dp n : Int32} {vs ws : List Value} (hd : Dc M.2.1 pc (.invokestatic idx) 3 pc') (hc : ACopy M.1.cls idx) (ha : hp[a]? = some (8, vs)) (hb : hp[b]? = some (8, ws)) (h1 : ¬ sp < 0) (h2 : ¬ dp < 0) (h3 : ¬ n < 0) (h4 : sp.toNatClampNeg + n.toNatClampNeg ≤ vs.length) (h5 : dp.toNatClampNeg + n.toNatClampNeg ≤ ws.length) (hd1 : 1 ≤ d) (hst : (st.map fun v => v.category).sum ≤ 8)
    (k : Gd M d mc ms pc' L st (hp.set b (8, cpyV vs ws sp.toNatClampNeg dp.toNatClampNeg n.toNatClampNeg)) nc ns P) : Gd M d mc ms pc L (.int n :: .int dp :: .ref b :: .int sp :: .ref a :: st) hp nc ns P := by
  obtain ⟨h0, rfl⟩ := hd
  refine fun l p e s m args below meth c B S D cy H locs ls C hZ hW hS hL => ?_
  simp only [List.map_cons]
  rw [stk_ref (wd_lt hW ha), stk_ref (wd_lt hW hb)]
  have hst2 : ((st.map (cv B S)).map fun v => v.category).sum ≤ 8 := by
    rw [List.map_map]
    have e : ((fun v : Value => v.category) ∘ cv B S) = fun v => v.category := funext fun v => cv_cat B S v
    rw [e]
    exact hst
  have hlo : ((st.map (cv B S)).map fun v => v.category).sum + (nativeFrameWords "java/lang/System" "arraycopy" 5 + 11) ≤ (Rm d mc ms).locals := by
    have h9 : nativeFrameWords "java/lang/System" "arraycopy" 5 + 11 ≤ 60 := by decide
    show _ ≤ 100 * d
    omega
  refine va_copyi C.1 C.2.1 (C.2.2.2.1.trans hL.1.symm) C.2.2.2.2.1 (C.2.2.2.2.2.1 _ hc.1) (C.2.2.2.2.2.1 _ hc.2.1) (C.2.2.2.2.2.1 _ hc.2.2.1) (C.2.2.2.2.2.1 _ hc.2.2.2) hW.2.2 hW.2.1 wO_D hS a b 0 0 ((wO_at ha).trans (by rw [ce_int (by decide) (by decide)])) ((wO_at hb).trans (by rw [ce_int (by decide) (by decide)])) rfl rfl rfl h1 h2 h3 h4 h5 (fun i _ => rfl) hd1 hlo h0 (fun H1 locs1 hP1 hD1 hS1 => ?_)
  have e0 : (wO B S cy hp).set b (B + b, .inl (cy 8, ws.length, .inl (va_cpy (fun j => iv (vs.getD j .null)) (fun j => iv (ws.getD j .null)) sp.toNatClampNeg dp.toNatClampNeg n.toNatClampNeg))) = wO B S cy (hp.set b (8, cpyV vs ws sp.toNatClampNeg dp.toNatClampNeg n.toNatClampNeg)) := by
    rw [← wO_set, ce_int (by decide) (by decide), cpyV_len, cpyV_iv _ _ _ _ _ h5]
  rw [e0] at hP1
  exact k l p e s m args below meth c B S D cy H1 locs1 ls C (by rw [List.length_set]; exact hZ) ⟨by rw [List.length_set]; exact hW.1, hP1, hW.2.2⟩ hS1 hL
def CLc (N : Meth) (n : Nat) : Prop := Cond.initialized N.1.cls ∈ TT ∧ Cond.code N.1 N.2.1 N.2.2.1 N.2.2.2 ∈ TT ∧ (N.1.cls ≠ "java/lang/invoke/MethodHandle" ∧ N.1.cls ≠ "java/lang/invoke/VarHandle" ∧ (parseMethodDescriptor N.1.desc).map (fun d => d.parameters.length) = some n) ∧ N.2.2.1 ≤ 60
def CLV (own : String) (idx : Nat) (N : Meth) (n : Nat) : Prop := Cond.methodLink own idx N.1 ∈ TT ∧ Cond.instanceMethod N.1 ∈ TT ∧ Cond.selects N.1.cls N.1 N.1 ∈ TT ∧ CLc N n
def CLS (own : String) (idx : Nat) (N : Meth) (n : Nat) : Prop := Cond.methodLink own idx N.1 ∈ TT ∧ Cond.static N.1 ∈ TT ∧ CLc N n
def CLI (own : String) (idx : Nat) (N : Meth) (n : Nat) : Prop := Cond.methodLink own idx N.1 ∈ TT ∧ Cond.instanceMethod N.1 ∈ TT ∧ N.1.name = "<init>" ∧ N.2.2.2 = none ∧ CLc N n
def CLJ (own : String) (idx : Nat) (N : Meth) (n : Nat) : Prop := Cond.methodLinkNest own idx N.1 RX6 ∈ NW ∧ Cond.instanceMethod N.1 ∈ TT ∧ N.1.name = "<init>" ∧ N.2.2.2 = none ∧ CLc N n
theorem goodM {N : Meth} {n : Nat} (h : CLc N n) : GoodIn TT (wM N) := fun w hw => by
  rcases List.mem_cons.mp hw with rfl | hw
  · exact tt_good _ h.2.1
  · exact tt_good w hw
theorem stW {B : Nat} {S : Nat → Nat} {st : List Value} {m : MethodId} {pc : Nat} {ls : Array Slot} {r : List Value} (hst : (st.map fun v => v.category).sum ≤ 8) : 2 * (F0 m pc ls r).monitorRoom + ((st.map (cv B S)).map fun v => v.category).sum ≤ 8 := by
  refine lv_room ?_
  rw [List.map_map]
  have e : ((fun v : Value => v.category) ∘ cv B S) = fun v => v.category := funext fun v => cv_cat B S v
  rw [e]
  exact hst
theorem blindM {B : Nat} {S : Nat → Nat} {D : va_G} {cy : Nat → ClassId} {hp : Hp} {As : List Value} : FrameBlind (va_Pc As (fun U => U.heap.size = B + hp.length ∧ Wd B S D cy hp U U.heap ∧ Sd B S U U.heap ∧ Nx U)) := fun a U g mk q =>
  ⟨q.1, q.2.1, ⟨q.2.2.1.1, q.2.2.1.2.1, va_K.moved (u := U) (U := U.calling g mk a) (Vm.Alike.refl U.vm) q.2.2.1.2.2⟩, sd_moved (u := U) (U := U.calling g mk a) (Vm.Alike.refl U.vm) q.2.2.2.1, nx_same (s := U) (U := U.calling g mk a) rfl q.2.2.2.2⟩
/-- behind a call -/
theorem behind_call {mc' ms' : Nat} {P' : Option Value → Hp → Prop} {l : Launch} {p : Program} {e : Env} {s : State} {m : MethodId} {args : Array Value} {below : List Frame} {meth : Method} {c : Code} {B : Nat} {S : Nat → Nat} {D : va_G} {cy : Nat → ClassId} {H : Heap} {locs : List Loc} {ls : Array Slot} {a : Array Value} {stk : List Value}
    (C : Cx M p s m args meth c B S) (hZ : s.heap.size + nc = B + hp.length) (hW : Wd B S D cy hp s H) (hS : va_S (fun q => B ≤ q) s.heap H locs) (hL : Lh M B S ls L)
    (hlen : ∀ v hp', P' v hp' → hp'.length = hp.length + mc') (k : ∀ v hp', P' v hp' → Gd M d mc ms (pc + 3) L (v.toList ++ st) hp' (nc + mc') (ns + ms') P)
    (hr : va_Run p l e (Rm d mc ms) s m args below meth c H locs nc ns mc' ms' (F0 m pc ls stk) (st.map (cv B S)) (Qm B S D cy P' a) (fun q => B ≤ q)) :
    W p l e (Rm d mc ms) s m args below meth c H locs nc ns (MQ below (Qm B S D cy P) args s mc ms (fun q => B ≤ q)) (F0 m pc ls stk) := by
  intro T hT X
  obtain ⟨v, st₀, t, T', Lc, h0, X', hLc, e1, e2, ⟨⟨v', hp', hv, hP', hWd'⟩, hz, hk⟩, stp⟩ := hr T hT X
  cases hv
  rw [h0] at hz hk
  have kk := k v' hp' hP' l p e s m args below meth c B S D cy T'.heap (locs ++ Lc) ls C (by rw [hlen v' hp' hP']; omega) ⟨hWd'.1, by rw [e1]; exact hWd'.2.1, hW.2.2⟩ ⟨Nat.le_trans hS.1 (by rw [e1]; exact hz), fun q h1 h2 => by rw [e1, hk q (Nat.lt_of_lt_of_le h1 hS.1) h2]; exact hS.2.1 q h1 h2, fun q hq => by
      rcases List.mem_append.mp hq with h | h
      · exact hS.2.2 q h
      · exact hLc q h⟩ hL
  obtain ⟨t2, a1, b1⟩ := kk T' rfl X'
  refine ⟨t2, stp t2 ?_, b1⟩
  have e3 : (v'.map (cv B S)).toList ++ st.map (cv B S) = (v'.toList ++ st).map (cv B S) := by cases v' <;> simp
  rw [e3]
  exact a1
theorem g_callV {N : Meth} {idx n d' mc' ms' o ci : Nat} {As vs : List Value} {P' : Option Value → Hp → Prop} {q : vw_C} (hd : Dc M.2.1 pc (.invokevirtual idx) 3 pc') (hc : CLV M.1.cls idx N n) (hN : Mt N d' mc' ms' (.ref o :: As) hp P') (ho : hp[o]? = some (ci, vs)) (hci : ci < 8) (hq : vwCl[ci]? = some q) (hq1 : q.1 = N.1.cls) (hn : As.length = n) (hst : (st.map fun v => v.category).sum ≤ 8) (hd' : d' + 1 ≤ d) (hmc : nc + mc' ≤ mc) (hms : ns + ms' ≤ ms) (hlen : ∀ v hp', P' v hp' → hp'.length = hp.length + mc') (k : ∀ v hp', P' v hp' → Gd M d mc ms pc' L (v.toList ++ st) hp' (nc + mc') (ns + ms') P) : Gd M d mc ms pc L (As.reverse ++ .ref o :: st) hp nc ns P := by
  obtain ⟨h1, rfl⟩ := hd
  refine fun l p e s m args below meth c B S D cy H locs ls C hZ hW hS hL => ?_
  intro T hT X
  have hsz : H.size = B + hp.length := by
    have g1 := X.heapSize
    rw [hT] at g1
    have g2 := wd_le hW (Nat.le_trans C.2.2.2.2.2.2.2.2.2.2 hS.1)
    omega
  refine behind_call C hZ hW hS hL hlen k (va_runV (As := As.map (cv B S)) (C := N.1.cls) (b := B + o) (bytes := N.2.1) (maxL := N.2.2.1) (ret := N.2.2.2) (n := n) ⟨C.1, C.2.1, C.2.2.2.1, C.2.2.2.2.1, C.2.2.2.2.2.1⟩ (hN l B S D cy) ⟨callB_of n C.2.2.2.2.2.1 (goodM hc.2.2.2) rfl rfl rfl (C.2.2.2.2.2.1 _ hc.2.2.2.1) (C.2.2.2.2.2.1 _ hc.1) hc.2.2.2.2.2.1 ⟨hd', by show 8 + (N.2.2.1 + 11) + 100 * d' ≤ 100 * d; have := hc.2.2.2.2.2.2; omega⟩, C.2.2.2.2.2.1 _ hc.2.1, C.2.2.2.2.2.1 _ hc.2.2.1⟩ ⟨blindM, ?_, ?_⟩ rfl (by rw [List.length_map]; exact hn) hL.1 ?_ (stW hst) h1 ⟨hmc, hms⟩) T hT X
  · obtain ⟨cell, g1, g2, g3⟩ := va_recv hW.2.2 hW.2.1 (q := q) (ci := ci) (q0 := o) (a := B + o) hq ((wO_at ho).trans (by rw [ce_obj hci]))
    exact ⟨cell, g1, g2, by rw [← hq1]; exact g3⟩
  · exact fun U hU hWm => ⟨by rw [List.map_cons, stk_ref (wd_lt hW ho)], by rw [hU]; exact hsz, ⟨hW.1, by rw [hU]; exact hW.2.1, va_K.moved hWm.alike hW.2.2⟩, sd_moved hWm.alike (by rw [hU]; exact sd_kept C.2.2.2.2.2.2.2.2.1 hS.2.1), nx_warm hWm C.2.2.2.2.2.2.2.2.2.1⟩
  · show ((As.reverse ++ .ref o :: st).map (cv B S)) = _
    rw [List.map_append, List.map_reverse, List.map_cons, stk_ref (wd_lt hW ho)]
theorem g_callS {N : Meth} {idx n d' mc' ms' : Nat} {As : List Value} {P' : Option Value → Hp → Prop} (hd : Dc M.2.1 pc (.invokestatic idx) 3 pc') (hc : CLS M.1.cls idx N n) (hN : Mt N d' mc' ms' As hp P') (hn : As.length = n) (hst : (st.map fun v => v.category).sum ≤ 8) (hd' : d' + 1 ≤ d) (hmc : nc + mc' ≤ mc) (hms : ns + ms' ≤ ms) (hlen : ∀ v hp', P' v hp' → hp'.length = hp.length + mc') (k : ∀ v hp', P' v hp' → Gd M d mc ms pc' L (v.toList ++ st) hp' (nc + mc') (ns + ms') P) : Gd M d mc ms pc L (As.reverse ++ st) hp nc ns P := by
  obtain ⟨h1, rfl⟩ := hd
  refine fun l p e s m args below meth c B S D cy H locs ls C hZ hW hS hL => ?_
  intro T hT X
  have hsz : H.size = B + hp.length := by
    have g1 := X.heapSize
    rw [hT] at g1
    have g2 := wd_le hW (Nat.le_trans C.2.2.2.2.2.2.2.2.2.2 hS.1)
    omega
  refine behind_call C hZ hW hS hL hlen k (va_runS (As := As.map (cv B S)) (bytes := N.2.1) (maxL := N.2.2.1) (ret := N.2.2.2) (n := n) ⟨C.1, C.2.1, C.2.2.2.1, C.2.2.2.2.1, C.2.2.2.2.2.1⟩ (hN l B S D cy) ⟨callB_of n C.2.2.2.2.2.1 (goodM hc.2.2) rfl rfl rfl (C.2.2.2.2.2.1 _ hc.2.2.1) (C.2.2.2.2.2.1 _ hc.1) hc.2.2.2.2.1 ⟨hd', by show 8 + (N.2.2.1 + 11) + 100 * d' ≤ 100 * d; have := hc.2.2.2.2.2; omega⟩, C.2.2.2.2.2.1 _ hc.2.1⟩ ⟨blindM, ?_⟩ rfl (by rw [List.length_map]; exact hn) hL.1 ?_ (stW hst) h1 ⟨hmc, hms⟩) T hT X
  · exact fun U hU hWm => ⟨rfl, by rw [hU]; exact hsz, ⟨hW.1, by rw [hU]; exact hW.2.1, va_K.moved hWm.alike hW.2.2⟩, sd_moved hWm.alike (by rw [hU]; exact sd_kept C.2.2.2.2.2.2.2.2.1 hS.2.1), nx_warm hWm C.2.2.2.2.2.2.2.2.2.1⟩
  · show ((As.reverse ++ st).map (cv B S)) = _
    rw [List.map_append, List.map_reverse]
theorem g_callI {N : Meth} {idx n d' mc' ms' o : Nat} {As : List Value} {P' : Option Value → Hp → Prop} {q : Nat × List Value} (hd : Dc M.2.1 pc (.invokespecial idx) 3 pc') (hc : CLI M.1.cls idx N n) (hN : Mt N d' mc' ms' (.ref o :: As) hp P') (ho : hp[o]? = some q) (hn : As.length = n) (hst : (st.map fun v => v.category).sum ≤ 8) (hd' : d' + 1 ≤ d) (hmc : nc + mc' ≤ mc) (hms : ns + ms' ≤ ms) (hlen : ∀ v hp', P' v hp' → hp'.length = hp.length + mc') (k : ∀ v hp', P' v hp' → Gd M d mc ms pc' L (v.toList ++ st) hp' (nc + mc') (ns + ms') P) : Gd M d mc ms pc L (As.reverse ++ .ref o :: st) hp nc ns P := by
  obtain ⟨h1, rfl⟩ := hd
  refine fun l p e s m args below meth c B S D cy H locs ls C hZ hW hS hL => ?_
  intro T hT X
  have hsz : H.size = B + hp.length := by
    have g1 := X.heapSize
    rw [hT] at g1
    have g2 := wd_le hW (Nat.le_trans C.2.2.2.2.2.2.2.2.2.2 hS.1)
    omega
  refine behind_call C hZ hW hS hL hlen k (va_runI (As := As.map (cv B S)) (b := B + o) (bytes := N.2.1) (maxL := N.2.2.1) (n := n) ⟨C.1, C.2.1, C.2.2.2.1, C.2.2.2.2.1, C.2.2.2.2.2.1⟩ (hN l B S D cy) ⟨callB_of n C.2.2.2.2.2.1 (goodM hc.2.2.2.2) (by rw [wM, hc.2.2.2.1]) rfl rfl (C.2.2.2.2.2.1 _ hc.2.2.2.2.1) (C.2.2.2.2.2.1 _ hc.1) hc.2.2.2.2.2.2.1 ⟨hd', by show 8 + (N.2.2.1 + 11) + 100 * d' ≤ 100 * d; have := hc.2.2.2.2.2.2.2; omega⟩, hc.2.2.1, C.2.2.2.2.2.1 _ hc.2.1⟩ ⟨blindM, ?_⟩ rfl (by rw [List.length_map]; exact hn) hL.1 ?_ (stW hst) h1 ⟨hmc, hms⟩) T hT X
  · exact fun U hU hWm => ⟨by rw [List.map_cons, stk_ref (wd_lt hW ho)], by rw [hU]; exact hsz, ⟨hW.1, by rw [hU]; exact hW.2.1, va_K.moved hWm.alike hW.2.2⟩, sd_moved hWm.alike (by rw [hU]; exact sd_kept C.2.2.2.2.2.2.2.2.1 hS.2.1), nx_warm hWm C.2.2.2.2.2.2.2.2.2.1⟩
  · show ((As.reverse ++ .ref o :: st).map (cv B S)) = _
    rw [List.map_append, List.map_reverse, List.map_cons, stk_ref (wd_lt hW ho)]
theorem g_callJ {N : Meth} {idx n d' mc' ms' o : Nat} {As : List Value} {P' : Option Value → Hp → Prop} {q : Nat × List Value} (hd : Dc M.2.1 pc (.invokespecial idx) 3 pc') (hc : CLJ M.1.cls idx N n) (hN : Mt N d' mc' ms' (.ref o :: As) hp P') (ho : hp[o]? = some q) (hn : As.length = n) (hst : (st.map fun v => v.category).sum ≤ 8) (hd' : d' + 1 ≤ d) (hmc : nc + mc' ≤ mc) (hms : ns + ms' ≤ ms) (hlen : ∀ v hp', P' v hp' → hp'.length = hp.length + mc') (k : ∀ v hp', P' v hp' → Gd M d mc ms pc' L (v.toList ++ st) hp' (nc + mc') (ns + ms') P) : Gd M d mc ms pc L (As.reverse ++ .ref o :: st) hp nc ns P := by
  obtain ⟨h1, rfl⟩ := hd
  refine fun l p e s m args below meth c B S D cy H locs ls C hZ hW hS hL => ?_
  intro T hT X
  have hsz : H.size = B + hp.length := by
    have g1 := X.heapSize
    rw [hT] at g1
    have g2 := wd_le hW (Nat.le_trans C.2.2.2.2.2.2.2.2.2.2 hS.1)
    omega
  refine behind_call C hZ hW hS hL hlen k (va_runIN (As := As.map (cv B S)) (b := B + o) (bytes := N.2.1) (maxL := N.2.2.1) (n := n) (host := RX6) ⟨C.1, C.2.1, C.2.2.2.1, C.2.2.2.2.1, C.2.2.2.2.2.1⟩ (hN l B S D cy) ⟨va_cnB n C.2.2.2.2.2.1 (goodM hc.2.2.2.2) (by rw [wM, hc.2.2.2.1]) rfl rfl (C.2.2.2.2.2.2.2.2.2.1.1 _ hc.1) (C.2.2.2.2.2.1 _ hc.2.2.2.2.1) hc.2.2.2.2.2.2.1 ⟨hd', by show 8 + (N.2.2.1 + 11) + 100 * d' ≤ 100 * d; have := hc.2.2.2.2.2.2.2; omega⟩, hc.2.2.1, C.2.2.2.2.2.1 _ hc.2.1⟩ ⟨blindM, ?_⟩ rfl (by rw [List.length_map]; exact hn) hL.1 ?_ (stW hst) h1 ⟨hmc, hms⟩) T hT X
  · exact fun U hU hWm => ⟨by rw [List.map_cons, stk_ref (wd_lt hW ho)], by rw [hU]; exact hsz, ⟨hW.1, by rw [hU]; exact hW.2.1, va_K.moved hWm.alike hW.2.2⟩, sd_moved hWm.alike (by rw [hU]; exact sd_kept C.2.2.2.2.2.2.2.2.1 hS.2.1), nx_warm hWm C.2.2.2.2.2.2.2.2.2.1⟩
  · show ((As.reverse ++ .ref o :: st).map (cv B S)) = _
    rw [List.map_append, List.map_reverse, List.map_cons, stk_ref (wd_lt hW ho)]
end Rules
end
