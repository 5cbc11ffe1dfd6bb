-- ===== PART A: goes FIRST, ahead of the names: the tables' words, and 'selects' of the private methods out of them =====
/-- a private method of a class that the tables say can be made, by its rows of tables_1 -/
def lw_okq (q : MethodName × Nat) : Prop := (q.1.cls ≠ "java/lang/invoke/MethodHandle" ∧ q.1.cls ≠ "java/lang/invoke/VarHandle") ∧ Cond.instantiable q.1.cls q.2 ∈ tables_1 ∧ Cond.privateMethod q.1 ∈ tables_1 ∧ Cond.instanceMethod q.1 ∈ tables_1
theorem lw_p0 : lw_okq (⟨"ClosureMachine$Terms", "size", "(I)I"⟩, 4) := ⟨⟨by decide +kernel, by decide +kernel⟩, List.mem_of_getElem? (i := 23) (by decide +kernel), List.mem_of_getElem? (i := 257) (by decide +kernel), List.mem_of_getElem? (i := 258) (by decide +kernel)⟩
theorem lw_p1 : lw_okq (⟨"ClosureMachine$TypeReader", "countAlls", "(I)I"⟩, 1) := ⟨⟨by decide +kernel, by decide +kernel⟩, List.mem_of_getElem? (i := 77) (by decide +kernel), List.mem_of_getElem? (i := 393) (by decide +kernel), List.mem_of_getElem? (i := 394) (by decide +kernel)⟩
theorem lw_p2 : lw_okq (⟨"ClosureMachine$TypeReader", "under", "(II)I"⟩, 1) := ⟨⟨by decide +kernel, by decide +kernel⟩, List.mem_of_getElem? (i := 77) (by decide +kernel), List.mem_of_getElem? (i := 402) (by decide +kernel), List.mem_of_getElem? (i := 403) (by decide +kernel)⟩
theorem lw_p3 : lw_okq (⟨"ClosureMachine$TypeReader", "isFamily", "(ILClosureMachine$Global;II)Z"⟩, 1) := ⟨⟨by decide +kernel, by decide +kernel⟩, List.mem_of_getElem? (i := 77) (by decide +kernel), List.mem_of_getElem? (i := 406) (by decide +kernel), List.mem_of_getElem? (i := 407) (by decide +kernel)⟩
theorem lw_p4 : lw_okq (⟨"ClosureMachine$TypeReader", "isVariable", "(II)Z"⟩, 1) := ⟨⟨by decide +kernel, by decide +kernel⟩, List.mem_of_getElem? (i := 77) (by decide +kernel), List.mem_of_getElem? (i := 410) (by decide +kernel), List.mem_of_getElem? (i := 411) (by decide +kernel)⟩
theorem lw_p5 : lw_okq (⟨"ClosureMachine$Machine", "drop", "(II)I"⟩, 11) := ⟨⟨by decide +kernel, by decide +kernel⟩, List.mem_of_getElem? (i := 87) (by decide +kernel), List.mem_of_getElem? (i := 438) (by decide +kernel), List.mem_of_getElem? (i := 439) (by decide +kernel)⟩
theorem lw_p6 : lw_okq (⟨"ClosureMachine$Machine", "unfold", "()Z"⟩, 11) := ⟨⟨by decide +kernel, by decide +kernel⟩, List.mem_of_getElem? (i := 87) (by decide +kernel), List.mem_of_getElem? (i := 458) (by decide +kernel), List.mem_of_getElem? (i := 459) (by decide +kernel)⟩
theorem lw_p7 : lw_okq (⟨"ClosureMachine$Machine", "waitForLast", "()Z"⟩, 11) := ⟨⟨by decide +kernel, by decide +kernel⟩, List.mem_of_getElem? (i := 87) (by decide +kernel), List.mem_of_getElem? (i := 468) (by decide +kernel), List.mem_of_getElem? (i := 469) (by decide +kernel)⟩
theorem lw_p8 : lw_okq (⟨"ClosureMachine$Machine", "nth", "(II)I"⟩, 11) := ⟨⟨by decide +kernel, by decide +kernel⟩, List.mem_of_getElem? (i := 87) (by decide +kernel), List.mem_of_getElem? (i := 480) (by decide +kernel), List.mem_of_getElem? (i := 481) (by decide +kernel)⟩
theorem lw_p9 : lw_okq (⟨"ClosureMachine$Machine", "apply", "()Z"⟩, 11) := ⟨⟨by decide +kernel, by decide +kernel⟩, List.mem_of_getElem? (i := 87) (by decide +kernel), List.mem_of_getElem? (i := 489) (by decide +kernel), List.mem_of_getElem? (i := 490) (by decide +kernel)⟩
theorem lw_p10 : lw_okq (⟨"ClosureMachine$Machine", "bind", "()Z"⟩, 11) := ⟨⟨by decide +kernel, by decide +kernel⟩, List.mem_of_getElem? (i := 87) (by decide +kernel), List.mem_of_getElem? (i := 493) (by decide +kernel), List.mem_of_getElem? (i := 494) (by decide +kernel)⟩
theorem lw_p11 : lw_okq (⟨"ClosureMachine$Machine", "copy", "(II)I"⟩, 11) := ⟨⟨by decide +kernel, by decide +kernel⟩, List.mem_of_getElem? (i := 87) (by decide +kernel), List.mem_of_getElem? (i := 497) (by decide +kernel), List.mem_of_getElem? (i := 498) (by decide +kernel)⟩
theorem lw_p12 : lw_okq (⟨"ClosureMachine$Machine", "bindLet", "()Z"⟩, 11) := ⟨⟨by decide +kernel, by decide +kernel⟩, List.mem_of_getElem? (i := 87) (by decide +kernel), List.mem_of_getElem? (i := 505) (by decide +kernel), List.mem_of_getElem? (i := 506) (by decide +kernel)⟩
theorem lw_p13 : lw_okq (⟨"ClosureMachine$Machine", "isFun", "(I)Z"⟩, 11) := ⟨⟨by decide +kernel, by decide +kernel⟩, List.mem_of_getElem? (i := 87) (by decide +kernel), List.mem_of_getElem? (i := 509) (by decide +kernel), List.mem_of_getElem? (i := 510) (by decide +kernel)⟩
theorem lw_p14 : lw_okq (⟨"ClosureMachine$Machine", "bindHypothesis", "()Z"⟩, 11) := ⟨⟨by decide +kernel, by decide +kernel⟩, List.mem_of_getElem? (i := 87) (by decide +kernel), List.mem_of_getElem? (i := 517) (by decide +kernel), List.mem_of_getElem? (i := 518) (by decide +kernel)⟩
theorem lw_p15 : lw_okq (⟨"ClosureMachine$Machine", "unfoldHypothesis", "()Z"⟩, 11) := ⟨⟨by decide +kernel, by decide +kernel⟩, List.mem_of_getElem? (i := 87) (by decide +kernel), List.mem_of_getElem? (i := 525) (by decide +kernel), List.mem_of_getElem? (i := 526) (by decide +kernel)⟩
def lw_privs_1 : List (MethodName × Nat) := [(⟨"ClosureMachine$Terms", "size", "(I)I"⟩, 4), (⟨"ClosureMachine$TypeReader", "countAlls", "(I)I"⟩, 1), (⟨"ClosureMachine$TypeReader", "under", "(II)I"⟩, 1), (⟨"ClosureMachine$TypeReader", "isFamily", "(ILClosureMachine$Global;II)Z"⟩, 1), (⟨"ClosureMachine$TypeReader", "isVariable", "(II)Z"⟩, 1), (⟨"ClosureMachine$Machine", "drop", "(II)I"⟩, 11), (⟨"ClosureMachine$Machine", "unfold", "()Z"⟩, 11), (⟨"ClosureMachine$Machine", "waitForLast", "()Z"⟩, 11), (⟨"ClosureMachine$Machine", "nth", "(II)I"⟩, 11), (⟨"ClosureMachine$Machine", "apply", "()Z"⟩, 11), (⟨"ClosureMachine$Machine", "bind", "()Z"⟩, 11), (⟨"ClosureMachine$Machine", "copy", "(II)I"⟩, 11), (⟨"ClosureMachine$Machine", "bindLet", "()Z"⟩, 11), (⟨"ClosureMachine$Machine", "isFun", "(I)Z"⟩, 11), (⟨"ClosureMachine$Machine", "bindHypothesis", "()Z"⟩, 11), (⟨"ClosureMachine$Machine", "unfoldHypothesis", "()Z"⟩, 11)]
theorem lw_r1 : ∀ q ∈ lw_privs_1, lw_okq q := List.forall_mem_cons.mpr ⟨lw_p0, List.forall_mem_cons.mpr ⟨lw_p1, List.forall_mem_cons.mpr ⟨lw_p2, List.forall_mem_cons.mpr ⟨lw_p3, List.forall_mem_cons.mpr ⟨lw_p4, List.forall_mem_cons.mpr ⟨lw_p5, List.forall_mem_cons.mpr ⟨lw_p6, List.forall_mem_cons.mpr ⟨lw_p7, List.forall_mem_cons.mpr ⟨lw_p8, List.forall_mem_cons.mpr ⟨lw_p9, List.forall_mem_cons.mpr ⟨lw_p10, List.forall_mem_cons.mpr ⟨lw_p11, List.forall_mem_cons.mpr ⟨lw_p12, List.forall_mem_cons.mpr ⟨lw_p13, List.forall_mem_cons.mpr ⟨lw_p14, List.forall_mem_cons.mpr ⟨lw_p15, fun _ h => absurd h List.not_mem_nil⟩⟩⟩⟩⟩⟩⟩⟩⟩⟩⟩⟩⟩⟩⟩⟩
theorem lw_p16 : lw_okq (⟨"ClosureMachine$Machine", "copyFirst", "(III)I"⟩, 11) := ⟨⟨by decide +kernel, by decide +kernel⟩, List.mem_of_getElem? (i := 87) (by decide +kernel), List.mem_of_getElem? (i := 530) (by decide +kernel), List.mem_of_getElem? (i := 531) (by decide +kernel)⟩
theorem lw_p17 : lw_okq (⟨"ClosureMachine$Machine", "putArgument", "()Z"⟩, 11) := ⟨⟨by decide +kernel, by decide +kernel⟩, List.mem_of_getElem? (i := 87) (by decide +kernel), List.mem_of_getElem? (i := 538) (by decide +kernel), List.mem_of_getElem? (i := 539) (by decide +kernel)⟩
theorem lw_p18 : lw_okq (⟨"ClosureMachine$Machine", "resumeOne", "()Z"⟩, 11) := ⟨⟨by decide +kernel, by decide +kernel⟩, List.mem_of_getElem? (i := 87) (by decide +kernel), List.mem_of_getElem? (i := 542) (by decide +kernel), List.mem_of_getElem? (i := 543) (by decide +kernel)⟩
theorem lw_p19 : lw_okq (⟨"ClosureMachine$Machine", "constructorOf", "(I)LClosureMachine$Global;"⟩, 11) := ⟨⟨by decide +kernel, by decide +kernel⟩, List.mem_of_getElem? (i := 87) (by decide +kernel), List.mem_of_getElem? (i := 547) (by decide +kernel), List.mem_of_getElem? (i := 548) (by decide +kernel)⟩
theorem lw_p20 : lw_okq (⟨"ClosureMachine$Machine", "choose", "(LClosureMachine$Global;LClosureMachine$Global;II)V"⟩, 11) := ⟨⟨by decide +kernel, by decide +kernel⟩, List.mem_of_getElem? (i := 87) (by decide +kernel), List.mem_of_getElem? (i := 555) (by decide +kernel), List.mem_of_getElem? (i := 556) (by decide +kernel)⟩
theorem lw_p21 : lw_okq (⟨"ClosureMachine$Reader", "writeSpine", "(I)I"⟩, 5) := ⟨⟨by decide +kernel, by decide +kernel⟩, List.mem_of_getElem? (i := 136) (by decide +kernel), List.mem_of_getElem? (i := 595) (by decide +kernel), List.mem_of_getElem? (i := 596) (by decide +kernel)⟩
theorem lw_p22 : lw_okq (⟨"ClosureMachine$Reader", "openBinder", "(II)V"⟩, 5) := ⟨⟨by decide +kernel, by decide +kernel⟩, List.mem_of_getElem? (i := 136) (by decide +kernel), List.mem_of_getElem? (i := 606) (by decide +kernel), List.mem_of_getElem? (i := 607) (by decide +kernel)⟩
theorem lw_p23 : lw_okq (⟨"ClosureMachine$Reader", "place", "(III)V"⟩, 5) := ⟨⟨by decide +kernel, by decide +kernel⟩, List.mem_of_getElem? (i := 136) (by decide +kernel), List.mem_of_getElem? (i := 616) (by decide +kernel), List.mem_of_getElem? (i := 617) (by decide +kernel)⟩
theorem lw_p24 : lw_okq (⟨"ClosureMachineModel", "isRoom", "(I)Z"⟩, 48) := ⟨⟨by decide +kernel, by decide +kernel⟩, List.mem_of_getElem? (i := 650) (by decide +kernel), List.mem_of_getElem? (i := 843) (by decide +kernel), List.mem_of_getElem? (i := 844) (by decide +kernel)⟩
theorem lw_p25 : lw_okq (⟨"ClosureMachineModel", "term", "(III)I"⟩, 48) := ⟨⟨by decide +kernel, by decide +kernel⟩, List.mem_of_getElem? (i := 650) (by decide +kernel), List.mem_of_getElem? (i := 848) (by decide +kernel), List.mem_of_getElem? (i := 849) (by decide +kernel)⟩
theorem lw_p26 : lw_okq (⟨"ClosureMachineModel", "isTerm", "(I)Z"⟩, 48) := ⟨⟨by decide +kernel, by decide +kernel⟩, List.mem_of_getElem? (i := 650) (by decide +kernel), List.mem_of_getElem? (i := 856) (by decide +kernel), List.mem_of_getElem? (i := 857) (by decide +kernel)⟩
theorem lw_p27 : lw_okq (⟨"ClosureMachineModel", "two", "(IIII)I"⟩, 48) := ⟨⟨by decide +kernel, by decide +kernel⟩, List.mem_of_getElem? (i := 650) (by decide +kernel), List.mem_of_getElem? (i := 860) (by decide +kernel), List.mem_of_getElem? (i := 861) (by decide +kernel)⟩
theorem lw_p28 : lw_okq (⟨"ClosureMachineModel", "global", "(I)I"⟩, 48) := ⟨⟨by decide +kernel, by decide +kernel⟩, List.mem_of_getElem? (i := 650) (by decide +kernel), List.mem_of_getElem? (i := 890) (by decide +kernel), List.mem_of_getElem? (i := 891) (by decide +kernel)⟩
theorem lw_p29 : lw_okq (⟨"ClosureMachineModel", "isPut", "(III)Z"⟩, 48) := ⟨⟨by decide +kernel, by decide +kernel⟩, List.mem_of_getElem? (i := 650) (by decide +kernel), List.mem_of_getElem? (i := 910) (by decide +kernel), List.mem_of_getElem? (i := 911) (by decide +kernel)⟩
theorem lw_p30 : lw_okq (⟨"ClosureMachineModel", "recursive", "(IIII)V"⟩, 48) := ⟨⟨by decide +kernel, by decide +kernel⟩, List.mem_of_getElem? (i := 650) (by decide +kernel), List.mem_of_getElem? (i := 914) (by decide +kernel), List.mem_of_getElem? (i := 915) (by decide +kernel)⟩
theorem lw_p31 : lw_okq (⟨"ClosureMachineModel", "isGood", "(II)Z"⟩, 48) := ⟨⟨by decide +kernel, by decide +kernel⟩, List.mem_of_getElem? (i := 650) (by decide +kernel), List.mem_of_getElem? (i := 926) (by decide +kernel), List.mem_of_getElem? (i := 927) (by decide +kernel)⟩
def lw_privs_2 : List (MethodName × Nat) := [(⟨"ClosureMachine$Machine", "copyFirst", "(III)I"⟩, 11), (⟨"ClosureMachine$Machine", "putArgument", "()Z"⟩, 11), (⟨"ClosureMachine$Machine", "resumeOne", "()Z"⟩, 11), (⟨"ClosureMachine$Machine", "constructorOf", "(I)LClosureMachine$Global;"⟩, 11), (⟨"ClosureMachine$Machine", "choose", "(LClosureMachine$Global;LClosureMachine$Global;II)V"⟩, 11), (⟨"ClosureMachine$Reader", "writeSpine", "(I)I"⟩, 5), (⟨"ClosureMachine$Reader", "openBinder", "(II)V"⟩, 5), (⟨"ClosureMachine$Reader", "place", "(III)V"⟩, 5), (⟨"ClosureMachineModel", "isRoom", "(I)Z"⟩, 48), (⟨"ClosureMachineModel", "term", "(III)I"⟩, 48), (⟨"ClosureMachineModel", "isTerm", "(I)Z"⟩, 48), (⟨"ClosureMachineModel", "two", "(IIII)I"⟩, 48), (⟨"ClosureMachineModel", "global", "(I)I"⟩, 48), (⟨"ClosureMachineModel", "isPut", "(III)Z"⟩, 48), (⟨"ClosureMachineModel", "recursive", "(IIII)V"⟩, 48), (⟨"ClosureMachineModel", "isGood", "(II)Z"⟩, 48)]
theorem lw_r2 : ∀ q ∈ lw_privs_2, lw_okq q := List.forall_mem_cons.mpr ⟨lw_p16, List.forall_mem_cons.mpr ⟨lw_p17, List.forall_mem_cons.mpr ⟨lw_p18, List.forall_mem_cons.mpr ⟨lw_p19, List.forall_mem_cons.mpr ⟨lw_p20, List.forall_mem_cons.mpr ⟨lw_p21, List.forall_mem_cons.mpr ⟨lw_p22, List.forall_mem_cons.mpr ⟨lw_p23, List.forall_mem_cons.mpr ⟨lw_p24, List.forall_mem_cons.mpr ⟨lw_p25, List.forall_mem_cons.mpr ⟨lw_p26, List.forall_mem_cons.mpr ⟨lw_p27, List.forall_mem_cons.mpr ⟨lw_p28, List.forall_mem_cons.mpr ⟨lw_p29, List.forall_mem_cons.mpr ⟨lw_p30, List.forall_mem_cons.mpr ⟨lw_p31, fun _ h => absurd h List.not_mem_nil⟩⟩⟩⟩⟩⟩⟩⟩⟩⟩⟩⟩⟩⟩⟩⟩
theorem lw_p32 : lw_okq (⟨"ClosureMachineModel", "begin", "(I)V"⟩, 48) := ⟨⟨by decide +kernel, by decide +kernel⟩, List.mem_of_getElem? (i := 650) (by decide +kernel), List.mem_of_getElem? (i := 930) (by decide +kernel), List.mem_of_getElem? (i := 931) (by decide +kernel)⟩
theorem lw_p33 : lw_okq (⟨"ClosureMachineModel", "env", "(IIII)I"⟩, 48) := ⟨⟨by decide +kernel, by decide +kernel⟩, List.mem_of_getElem? (i := 650) (by decide +kernel), List.mem_of_getElem? (i := 934) (by decide +kernel), List.mem_of_getElem? (i := 935) (by decide +kernel)⟩
theorem lw_p34 : lw_okq (⟨"ClosureMachineModel", "reduce", "(II)I"⟩, 48) := ⟨⟨by decide +kernel, by decide +kernel⟩, List.mem_of_getElem? (i := 650) (by decide +kernel), List.mem_of_getElem? (i := 938) (by decide +kernel), List.mem_of_getElem? (i := 939) (by decide +kernel)⟩
theorem lw_p35 : lw_okq (⟨"ClosureMachineModel", "meant", "()I"⟩, 48) := ⟨⟨by decide +kernel, by decide +kernel⟩, List.mem_of_getElem? (i := 650) (by decide +kernel), List.mem_of_getElem? (i := 943) (by decide +kernel), List.mem_of_getElem? (i := 944) (by decide +kernel)⟩
theorem lw_p36 : lw_okq (⟨"ClosureMachineModel", "arg", "(III)I"⟩, 48) := ⟨⟨by decide +kernel, by decide +kernel⟩, List.mem_of_getElem? (i := 650) (by decide +kernel), List.mem_of_getElem? (i := 947) (by decide +kernel), List.mem_of_getElem? (i := 948) (by decide +kernel)⟩
theorem lw_p37 : lw_okq (⟨"ClosureMachineModel", "brings", "()I"⟩, 48) := ⟨⟨by decide +kernel, by decide +kernel⟩, List.mem_of_getElem? (i := 650) (by decide +kernel), List.mem_of_getElem? (i := 952) (by decide +kernel), List.mem_of_getElem? (i := 953) (by decide +kernel)⟩
theorem lw_p38 : lw_okq (⟨"ClosureMachineModel", "val", "(IIII)I"⟩, 48) := ⟨⟨by decide +kernel, by decide +kernel⟩, List.mem_of_getElem? (i := 650) (by decide +kernel), List.mem_of_getElem? (i := 956) (by decide +kernel), List.mem_of_getElem? (i := 957) (by decide +kernel)⟩
theorem lw_p39 : lw_okq (⟨"ClosureMachineModel", "bind", "(I)I"⟩, 48) := ⟨⟨by decide +kernel, by decide +kernel⟩, List.mem_of_getElem? (i := 650) (by decide +kernel), List.mem_of_getElem? (i := 960) (by decide +kernel), List.mem_of_getElem? (i := 961) (by decide +kernel)⟩
theorem lw_p40 : lw_okq (⟨"ClosureMachineModel", "within", "(II)I"⟩, 48) := ⟨⟨by decide +kernel, by decide +kernel⟩, List.mem_of_getElem? (i := 650) (by decide +kernel), List.mem_of_getElem? (i := 964) (by decide +kernel), List.mem_of_getElem? (i := 965) (by decide +kernel)⟩
theorem lw_p41 : lw_okq (⟨"ClosureMachineModel", "full", "(I)I"⟩, 48) := ⟨⟨by decide +kernel, by decide +kernel⟩, List.mem_of_getElem? (i := 650) (by decide +kernel), List.mem_of_getElem? (i := 968) (by decide +kernel), List.mem_of_getElem? (i := 969) (by decide +kernel)⟩
theorem lw_p42 : lw_okq (⟨"ClosureMachineModel", "step", "()I"⟩, 48) := ⟨⟨by decide +kernel, by decide +kernel⟩, List.mem_of_getElem? (i := 650) (by decide +kernel), List.mem_of_getElem? (i := 972) (by decide +kernel), List.mem_of_getElem? (i := 973) (by decide +kernel)⟩
theorem lw_p43 : lw_okq (⟨"ClosureMachineModel", "drop", "(II)I"⟩, 48) := ⟨⟨by decide +kernel, by decide +kernel⟩, List.mem_of_getElem? (i := 650) (by decide +kernel), List.mem_of_getElem? (i := 976) (by decide +kernel), List.mem_of_getElem? (i := 977) (by decide +kernel)⟩
theorem lw_p44 : lw_okq (⟨"ClosureMachineModel", "variable", "(I)I"⟩, 48) := ⟨⟨by decide +kernel, by decide +kernel⟩, List.mem_of_getElem? (i := 650) (by decide +kernel), List.mem_of_getElem? (i := 980) (by decide +kernel), List.mem_of_getElem? (i := 981) (by decide +kernel)⟩
theorem lw_p45 : lw_okq (⟨"ClosureMachineModel", "isRec", "(I)Z"⟩, 48) := ⟨⟨by decide +kernel, by decide +kernel⟩, List.mem_of_getElem? (i := 650) (by decide +kernel), List.mem_of_getElem? (i := 984) (by decide +kernel), List.mem_of_getElem? (i := 985) (by decide +kernel)⟩
theorem lw_p46 : lw_okq (⟨"ClosureMachineModel", "lengthOf", "(I)I"⟩, 48) := ⟨⟨by decide +kernel, by decide +kernel⟩, List.mem_of_getElem? (i := 650) (by decide +kernel), List.mem_of_getElem? (i := 988) (by decide +kernel), List.mem_of_getElem? (i := 989) (by decide +kernel)⟩
theorem lw_p47 : lw_okq (⟨"ClosureMachineModel", "argAt", "(II)I"⟩, 48) := ⟨⟨by decide +kernel, by decide +kernel⟩, List.mem_of_getElem? (i := 650) (by decide +kernel), List.mem_of_getElem? (i := 992) (by decide +kernel), List.mem_of_getElem? (i := 993) (by decide +kernel)⟩
def lw_privs_3 : List (MethodName × Nat) := [(⟨"ClosureMachineModel", "begin", "(I)V"⟩, 48), (⟨"ClosureMachineModel", "env", "(IIII)I"⟩, 48), (⟨"ClosureMachineModel", "reduce", "(II)I"⟩, 48), (⟨"ClosureMachineModel", "meant", "()I"⟩, 48), (⟨"ClosureMachineModel", "arg", "(III)I"⟩, 48), (⟨"ClosureMachineModel", "brings", "()I"⟩, 48), (⟨"ClosureMachineModel", "val", "(IIII)I"⟩, 48), (⟨"ClosureMachineModel", "bind", "(I)I"⟩, 48), (⟨"ClosureMachineModel", "within", "(II)I"⟩, 48), (⟨"ClosureMachineModel", "full", "(I)I"⟩, 48), (⟨"ClosureMachineModel", "step", "()I"⟩, 48), (⟨"ClosureMachineModel", "drop", "(II)I"⟩, 48), (⟨"ClosureMachineModel", "variable", "(I)I"⟩, 48), (⟨"ClosureMachineModel", "isRec", "(I)Z"⟩, 48), (⟨"ClosureMachineModel", "lengthOf", "(I)I"⟩, 48), (⟨"ClosureMachineModel", "argAt", "(II)I"⟩, 48)]
theorem lw_r3 : ∀ q ∈ lw_privs_3, lw_okq q := List.forall_mem_cons.mpr ⟨lw_p32, List.forall_mem_cons.mpr ⟨lw_p33, List.forall_mem_cons.mpr ⟨lw_p34, List.forall_mem_cons.mpr ⟨lw_p35, List.forall_mem_cons.mpr ⟨lw_p36, List.forall_mem_cons.mpr ⟨lw_p37, List.forall_mem_cons.mpr ⟨lw_p38, List.forall_mem_cons.mpr ⟨lw_p39, List.forall_mem_cons.mpr ⟨lw_p40, List.forall_mem_cons.mpr ⟨lw_p41, List.forall_mem_cons.mpr ⟨lw_p42, List.forall_mem_cons.mpr ⟨lw_p43, List.forall_mem_cons.mpr ⟨lw_p44, List.forall_mem_cons.mpr ⟨lw_p45, List.forall_mem_cons.mpr ⟨lw_p46, List.forall_mem_cons.mpr ⟨lw_p47, fun _ h => absurd h List.not_mem_nil⟩⟩⟩⟩⟩⟩⟩⟩⟩⟩⟩⟩⟩⟩⟩⟩
theorem lw_p48 : lw_okq (⟨"ClosureMachineModel", "back", "(III)I"⟩, 48) := ⟨⟨by decide +kernel, by decide +kernel⟩, List.mem_of_getElem? (i := 650) (by decide +kernel), List.mem_of_getElem? (i := 996) (by decide +kernel), List.mem_of_getElem? (i := 997) (by decide +kernel)⟩
theorem lw_p49 : lw_okq (⟨"ClosureMachineModel", "contract", "(IIII)V"⟩, 48) := ⟨⟨by decide +kernel, by decide +kernel⟩, List.mem_of_getElem? (i := 650) (by decide +kernel), List.mem_of_getElem? (i := 1000) (by decide +kernel), List.mem_of_getElem? (i := 1001) (by decide +kernel)⟩
theorem lw_p50 : lw_okq (⟨"ClosureMachineModel", "around", "(IIIII)I"⟩, 48) := ⟨⟨by decide +kernel, by decide +kernel⟩, List.mem_of_getElem? (i := 650) (by decide +kernel), List.mem_of_getElem? (i := 1004) (by decide +kernel), List.mem_of_getElem? (i := 1005) (by decide +kernel)⟩
theorem lw_p51 : lw_okq (⟨"ClosureMachineModel", "nameOf", "(I)I"⟩, 48) := ⟨⟨by decide +kernel, by decide +kernel⟩, List.mem_of_getElem? (i := 650) (by decide +kernel), List.mem_of_getElem? (i := 1008) (by decide +kernel), List.mem_of_getElem? (i := 1009) (by decide +kernel)⟩
theorem lw_p52 : lw_okq (⟨"ClosureMachineModel", "lay", "(IIII)V"⟩, 48) := ⟨⟨by decide +kernel, by decide +kernel⟩, List.mem_of_getElem? (i := 650) (by decide +kernel), List.mem_of_getElem? (i := 1020) (by decide +kernel), List.mem_of_getElem? (i := 1021) (by decide +kernel)⟩
theorem lw_p53 : lw_okq (⟨"ClosureMachineModel", "show", "(II)V"⟩, 48) := ⟨⟨by decide +kernel, by decide +kernel⟩, List.mem_of_getElem? (i := 650) (by decide +kernel), List.mem_of_getElem? (i := 1024) (by decide +kernel), List.mem_of_getElem? (i := 1025) (by decide +kernel)⟩
theorem lw_p54 : lw_okq (⟨"ClosureMachineModel", "node", "(III)V"⟩, 48) := ⟨⟨by decide +kernel, by decide +kernel⟩, List.mem_of_getElem? (i := 650) (by decide +kernel), List.mem_of_getElem? (i := 1028) (by decide +kernel), List.mem_of_getElem? (i := 1029) (by decide +kernel)⟩
theorem lw_p55 : lw_okq (⟨"ClosureMachineModel", "looseness", "(I)I"⟩, 48) := ⟨⟨by decide +kernel, by decide +kernel⟩, List.mem_of_getElem? (i := 650) (by decide +kernel), List.mem_of_getElem? (i := 1039) (by decide +kernel), List.mem_of_getElem? (i := 1040) (by decide +kernel)⟩
def lw_privs_4 : List (MethodName × Nat) := [(⟨"ClosureMachineModel", "back", "(III)I"⟩, 48), (⟨"ClosureMachineModel", "contract", "(IIII)V"⟩, 48), (⟨"ClosureMachineModel", "around", "(IIIII)I"⟩, 48), (⟨"ClosureMachineModel", "nameOf", "(I)I"⟩, 48), (⟨"ClosureMachineModel", "lay", "(IIII)V"⟩, 48), (⟨"ClosureMachineModel", "show", "(II)V"⟩, 48), (⟨"ClosureMachineModel", "node", "(III)V"⟩, 48), (⟨"ClosureMachineModel", "looseness", "(I)I"⟩, 48)]
theorem lw_r4 : ∀ q ∈ lw_privs_4, lw_okq q := List.forall_mem_cons.mpr ⟨lw_p48, List.forall_mem_cons.mpr ⟨lw_p49, List.forall_mem_cons.mpr ⟨lw_p50, List.forall_mem_cons.mpr ⟨lw_p51, List.forall_mem_cons.mpr ⟨lw_p52, List.forall_mem_cons.mpr ⟨lw_p53, List.forall_mem_cons.mpr ⟨lw_p54, List.forall_mem_cons.mpr ⟨lw_p55, fun _ h => absurd h List.not_mem_nil⟩⟩⟩⟩⟩⟩⟩⟩
def lw_privs : List (MethodName × Nat) := lw_privs_1 ++ (lw_privs_2 ++ (lw_privs_3 ++ (lw_privs_4)))
def lw_tbl : List Cond := k2_sels lw_privs ++ tables_1
theorem lw_privs_ok : ∀ q ∈ lw_privs, lw_okq q := by
  show ∀ q ∈ lw_privs_1 ++ (lw_privs_2 ++ (lw_privs_3 ++ (lw_privs_4))), lw_okq q
  exact List.forall_mem_append.mpr ⟨lw_r1, List.forall_mem_append.mpr ⟨lw_r2, List.forall_mem_append.mpr ⟨lw_r3, lw_r4⟩⟩⟩
/-! names, by program: the classes (rc_), their fields (tc_), the fields' types (yc_) -/
def rc_0 : String := "ClosureMachine$Rows"
def tc_0 : u_T := fun k => match k with
  | 0 => ("ClosureMachine$Rows", "most", "I", true)
  | 1 => ("ClosureMachine$Rows", "numbers", "[I", false)
  | _ => ("ClosureMachine$Rows", "count", "I", false)
def yc_0 : Nat → FieldType := fun k => match k with
  | 0 => .int
  | 1 => (.array .int)
  | _ => .int
theorem nc_0 : ∀ a, a < 3 → ∀ b, b < 3 → a ≠ b → (tc_0 a).2.1 ≠ (tc_0 b).2.1 := by decide +kernel
theorem yk_0 : ∀ k, k < 3 → parseFieldDescriptor (tc_0 k).2.2.1 = some (yc_0 k) := by decide +kernel
def rc_1 : String := "ClosureMachine$Terms"
def tc_1 : u_T := fun k => match k with
  | 0 => ("ClosureMachine$Terms", "nodes", "LClosureMachine$Rows;", true)
  | 1 => ("ClosureMachine$Terms", "numbered", "LClosureMachine$Rows;", true)
  | 2 => ("ClosureMachine$Terms", "walk", "LClosureMachine$Rows;", true)
  | _ => ("ClosureMachine$Terms", "nodesInAll", "I", false)
def yc_1 : Nat → FieldType := fun k => match k with
  | 0 => (.object "ClosureMachine$Rows")
  | 1 => (.object "ClosureMachine$Rows")
  | 2 => (.object "ClosureMachine$Rows")
  | _ => .int
theorem nc_1 : ∀ a, a < 4 → ∀ b, b < 4 → a ≠ b → (tc_1 a).2.1 ≠ (tc_1 b).2.1 := by decide +kernel
theorem yk_1 : ∀ k, k < 4 → parseFieldDescriptor (tc_1 k).2.2.1 = some (yc_1 k) := by decide +kernel
def rc_2 : String := "ClosureMachine$Globals"
def tc_2 : u_T := fun k => match k with
  | 0 => ("ClosureMachine$Globals", "all", "[LClosureMachine$Global;", true)
  | _ => ("ClosureMachine$Globals", "count", "I", false)
def yc_2 : Nat → FieldType := fun k => match k with
  | 0 => (.array (.object "ClosureMachine$Global"))
  | _ => .int
theorem nc_2 : ∀ a, a < 2 → ∀ b, b < 2 → a ≠ b → (tc_2 a).2.1 ≠ (tc_2 b).2.1 := by decide +kernel
theorem yk_2 : ∀ k, k < 2 → parseFieldDescriptor (tc_2 k).2.2.1 = some (yc_2 k) := by decide +kernel
def rc_3 : String := "ClosureMachine$TypeReader"
def tc_3 : u_T := fun k => match k with
  | _ => ("ClosureMachine$TypeReader", "terms", "LClosureMachine$Terms;", true)
def yc_3 : Nat → FieldType := fun k => match k with
  | _ => (.object "ClosureMachine$Terms")
theorem nc_3 : ∀ a, a < 1 → ∀ b, b < 1 → a ≠ b → (tc_3 a).2.1 ≠ (tc_3 b).2.1 := by decide +kernel
theorem yk_3 : ∀ k, k < 1 → parseFieldDescriptor (tc_3 k).2.2.1 = some (yc_3 k) := by decide +kernel
def rc_4 : String := "ClosureMachine$Machine"
def tc_4 : u_T := fun k => match k with
  | 0 => ("ClosureMachine$Machine", "terms", "LClosureMachine$Terms;", true)
  | 1 => ("ClosureMachine$Machine", "globals", "LClosureMachine$Globals;", true)
  | 2 => ("ClosureMachine$Machine", "cells", "LClosureMachine$Rows;", true)
  | 3 => ("ClosureMachine$Machine", "hypotheses", "LClosureMachine$Rows;", true)
  | 4 => ("ClosureMachine$Machine", "waiting", "LClosureMachine$Rows;", true)
  | 5 => ("ClosureMachine$Machine", "fuel", "I", false)
  | 6 => ("ClosureMachine$Machine", "spent", "I", false)
  | 7 => ("ClosureMachine$Machine", "mode", "I", false)
  | 8 => ("ClosureMachine$Machine", "at", "I", false)
  | 9 => ("ClosureMachine$Machine", "env", "I", false)
  | _ => ("ClosureMachine$Machine", "stack", "I", false)
def yc_4 : Nat → FieldType := fun k => match k with
  | 0 => (.object "ClosureMachine$Terms")
  | 1 => (.object "ClosureMachine$Globals")
  | 2 => (.object "ClosureMachine$Rows")
  | 3 => (.object "ClosureMachine$Rows")
  | 4 => (.object "ClosureMachine$Rows")
  | 5 => .int
  | 6 => .int
  | 7 => .int
  | 8 => .int
  | 9 => .int
  | _ => .int
theorem nc_4 : ∀ a, a < 11 → ∀ b, b < 11 → a ≠ b → (tc_4 a).2.1 ≠ (tc_4 b).2.1 := by decide +kernel
theorem yk_4 : ∀ k, k < 11 → parseFieldDescriptor (tc_4 k).2.2.1 = some (yc_4 k) := by decide +kernel
def rc_5 : String := "ClosureMachine$Reader"
def tc_5 : u_T := fun k => match k with
  | 0 => ("ClosureMachine$Reader", "terms", "LClosureMachine$Terms;", true)
  | 1 => ("ClosureMachine$Reader", "machine", "LClosureMachine$Machine;", true)
  | 2 => ("ClosureMachine$Reader", "places", "LClosureMachine$Rows;", true)
  | 3 => ("ClosureMachine$Reader", "root", "I", false)
  | _ => ("ClosureMachine$Reader", "loose", "I", false)
def yc_5 : Nat → FieldType := fun k => match k with
  | 0 => (.object "ClosureMachine$Terms")
  | 1 => (.object "ClosureMachine$Machine")
  | 2 => (.object "ClosureMachine$Rows")
  | 3 => .int
  | _ => .int
theorem nc_5 : ∀ a, a < 5 → ∀ b, b < 5 → a ≠ b → (tc_5 a).2.1 ≠ (tc_5 b).2.1 := by decide +kernel
theorem yk_5 : ∀ k, k < 5 → parseFieldDescriptor (tc_5 k).2.2.1 = some (yc_5 k) := by decide +kernel
def rc_6 : String := "ClosureMachine"
def tc_6 : u_T := fun k => match k with
  | 0 => ("ClosureMachine", "store", "LClosureMachine$Terms;", true)
  | 1 => ("ClosureMachine", "globals", "LClosureMachine$Globals;", true)
  | 2 => ("ClosureMachine", "types", "LClosureMachine$TypeReader;", true)
  | 3 => ("ClosureMachine", "machine", "LClosureMachine$Machine;", true)
  | 4 => ("ClosureMachine", "reader", "LClosureMachine$Reader;", true)
  | 5 => ("ClosureMachine", "costOfLast", "I", false)
  | 6 => ("ClosureMachine", "foundKind", "I", false)
  | 7 => ("ClosureMachine", "foundNumber", "I", false)
  | _ => ("ClosureMachine", "foundCount", "I", false)
def yc_6 : Nat → FieldType := fun k => match k with
  | 0 => (.object "ClosureMachine$Terms")
  | 1 => (.object "ClosureMachine$Globals")
  | 2 => (.object "ClosureMachine$TypeReader")
  | 3 => (.object "ClosureMachine$Machine")
  | 4 => (.object "ClosureMachine$Reader")
  | 5 => .int
  | 6 => .int
  | 7 => .int
  | _ => .int
theorem nc_6 : ∀ a, a < 9 → ∀ b, b < 9 → a ≠ b → (tc_6 a).2.1 ≠ (tc_6 b).2.1 := by decide +kernel
theorem yk_6 : ∀ k, k < 9 → parseFieldDescriptor (tc_6 k).2.2.1 = some (yc_6 k) := by decide +kernel
def rc_7 : String := "ClosureMachine$Global"
def tc_7 : u_T := fun k => match k with
  | 0 => ("ClosureMachine$Global", "kind", "I", true)
  | 1 => ("ClosureMachine$Global", "value", "I", false)
  | 2 => ("ClosureMachine$Global", "parameters", "I", false)
  | 3 => ("ClosureMachine$Global", "indices", "I", false)
  | 4 => ("ClosureMachine$Global", "constructors", "I", false)
  | 5 => ("ClosureMachine$Global", "family", "I", false)
  | 6 => ("ClosureMachine$Global", "place", "I", false)
  | 7 => ("ClosureMachine$Global", "recursive", "[I", false)
  | _ => ("ClosureMachine$Global", "hypotheses", "I", false)
def yc_7 : Nat → FieldType := fun k => match k with
  | 0 => .int
  | 1 => .int
  | 2 => .int
  | 3 => .int
  | 4 => .int
  | 5 => .int
  | 6 => .int
  | 7 => (.array .int)
  | _ => .int
theorem nc_7 : ∀ a, a < 9 → ∀ b, b < 9 → a ≠ b → (tc_7 a).2.1 ≠ (tc_7 b).2.1 := by decide +kernel
theorem yk_7 : ∀ k, k < 9 → parseFieldDescriptor (tc_7 k).2.2.1 = some (yc_7 k) := by decide +kernel
def rc_8 : String := "ClosureMachineModel$Rows"
def tc_8 : u_T := fun k => match k with
  | 0 => ("ClosureMachineModel$Rows", "kind", "[I", false)
  | 1 => ("ClosureMachineModel$Rows", "value", "[I", false)
  | 2 => ("ClosureMachineModel$Rows", "sort", "[I", false)
  | 3 => ("ClosureMachineModel$Rows", "length", "[I", false)
  | _ => ("ClosureMachineModel$Rows", "count", "I", false)
def yc_8 : Nat → FieldType := fun k => match k with
  | 0 => (.array .int)
  | 1 => (.array .int)
  | 2 => (.array .int)
  | 3 => (.array .int)
  | _ => .int
theorem nc_8 : ∀ a, a < 5 → ∀ b, b < 5 → a ≠ b → (tc_8 a).2.1 ≠ (tc_8 b).2.1 := by decide +kernel
theorem yk_8 : ∀ k, k < 5 → parseFieldDescriptor (tc_8 k).2.2.1 = some (yc_8 k) := by decide +kernel
def rc_9 : String := "ClosureMachineModel"
def tc_9 : u_T := fun k => match k with
  | 0 => ("ClosureMachineModel", "\x72", "LClosureMachineModel$Rows;", true)
  | 1 => ("ClosureMachineModel", "begin", "[I", true)
  | 2 => ("ClosureMachineModel", "size", "[I", true)
  | 3 => ("ClosureMachineModel", "loose", "[I", true)
  | 4 => ("ClosureMachineModel", "terms", "I", false)
  | 5 => ("ClosureMachineModel", "nodes", "I", false)
  | 6 => ("ClosureMachineModel", "sort", "[I", true)
  | 7 => ("ClosureMachineModel", "value", "[I", true)
  | 8 => ("ClosureMachineModel", "type", "[I", true)
  | 9 => ("ClosureMachineModel", "many", "[I", true)
  | 10 => ("ClosureMachineModel", "family", "[I", true)
  | 11 => ("ClosureMachineModel", "parameters", "[I", true)
  | 12 => ("ClosureMachineModel", "indices", "[I", true)
  | 13 => ("ClosureMachineModel", "constructors", "[I", true)
  | 14 => ("ClosureMachineModel", "globals", "I", false)
  | 15 => ("ClosureMachineModel", "recOf", "[I", false)
  | 16 => ("ClosureMachineModel", "recAt", "[I", false)
  | 17 => ("ClosureMachineModel", "recType", "[I", false)
  | 18 => ("ClosureMachineModel", "recYs", "[I", false)
  | 19 => ("ClosureMachineModel", "recs", "I", false)
  | 20 => ("ClosureMachineModel", "told", "Z", false)
  | 21 => ("ClosureMachineModel", "headKind", "I", false)
  | 22 => ("ClosureMachineModel", "headNumber", "I", false)
  | 23 => ("ClosureMachineModel", "headArgs", "I", false)
  | 24 => ("ClosureMachineModel", "lastCost", "I", false)
  | 25 => ("ClosureMachineModel", "eKind", "[I", false)
  | 26 => ("ClosureMachineModel", "eTerm", "[I", false)
  | 27 => ("ClosureMachineModel", "eEnv", "[I", false)
  | 28 => ("ClosureMachineModel", "eNext", "[I", false)
  | 29 => ("ClosureMachineModel", "envs", "I", false)
  | 30 => ("ClosureMachineModel", "aTerm", "[I", false)
  | 31 => ("ClosureMachineModel", "aEnv", "[I", false)
  | 32 => ("ClosureMachineModel", "aNext", "[I", false)
  | 33 => ("ClosureMachineModel", "args", "I", false)
  | 34 => ("ClosureMachineModel", "vKind", "[I", false)
  | 35 => ("ClosureMachineModel", "vTerm", "[I", false)
  | 36 => ("ClosureMachineModel", "vEnv", "[I", false)
  | 37 => ("ClosureMachineModel", "vArgs", "[I", false)
  | 38 => ("ClosureMachineModel", "values", "I", false)
  | 39 => ("ClosureMachineModel", "waiting", "[I", false)
  | 40 => ("ClosureMachineModel", "top", "I", false)
  | 41 => ("ClosureMachineModel", "tasks", "[I", false)
  | 42 => ("ClosureMachineModel", "task", "I", false)
  | 43 => ("ClosureMachineModel", "cost", "I", false)
  | 44 => ("ClosureMachineModel", "fuel", "I", false)
  | 45 => ("ClosureMachineModel", "t", "I", false)
  | 46 => ("ClosureMachineModel", "e", "I", false)
  | _ => ("ClosureMachineModel", "list", "I", false)
def yc_9 : Nat → FieldType := fun k => match k with
  | 0 => (.object "ClosureMachineModel$Rows")
  | 1 => (.array .int)
  | 2 => (.array .int)
  | 3 => (.array .int)
  | 4 => .int
  | 5 => .int
  | 6 => (.array .int)
  | 7 => (.array .int)
  | 8 => (.array .int)
  | 9 => (.array .int)
  | 10 => (.array .int)
  | 11 => (.array .int)
  | 12 => (.array .int)
  | 13 => (.array .int)
  | 14 => .int
  | 15 => (.array .int)
  | 16 => (.array .int)
  | 17 => (.array .int)
  | 18 => (.array .int)
  | 19 => .int
  | 20 => .boolean
  | 21 => .int
  | 22 => .int
  | 23 => .int
  | 24 => .int
  | 25 => (.array .int)
  | 26 => (.array .int)
  | 27 => (.array .int)
  | 28 => (.array .int)
  | 29 => .int
  | 30 => (.array .int)
  | 31 => (.array .int)
  | 32 => (.array .int)
  | 33 => .int
  | 34 => (.array .int)
  | 35 => (.array .int)
  | 36 => (.array .int)
  | 37 => (.array .int)
  | 38 => .int
  | 39 => (.array .int)
  | 40 => .int
  | 41 => (.array .int)
  | 42 => .int
  | 43 => .int
  | 44 => .int
  | 45 => .int
  | 46 => .int
  | _ => .int
theorem nc_9 : ∀ a, a < 48 → ∀ b, b < 48 → a ≠ b → (tc_9 a).2.1 ≠ (tc_9 b).2.1 := by decide +kernel
theorem yk_9 : ∀ k, k < 48 → parseFieldDescriptor (tc_9 k).2.2.1 = some (yc_9 k) := by decide +kernel
abbrev vwCl : List vw_C := [(rc_0, tc_0, 3), (rc_1, tc_1, 4), (rc_2, tc_2, 2), (rc_3, tc_3, 1), (rc_4, tc_4, 11), (rc_5, tc_5, 5), (rc_6, tc_6, 9), (rc_7, tc_7, 9), (rc_8, tc_8, 5), (rc_9, tc_9, 48)]
def zk_all : List Cond := lw_tbl.filter goodWord
theorem zk_in (i : Nat) {w : Cond} (h : tables_1[i]? = some w) (hg : goodWord w = true) : w ∈ zk_all := List.mem_filter.mpr ⟨List.mem_append_right _ (List.mem_of_getElem? h), hg⟩
theorem zk_inS (i : Nat) {q : MethodName × Nat} (h : lw_privs[i]? = some q) (hg : goodWord (Cond.selects q.1.cls q.1 q.1) = true) : Cond.selects q.1.cls q.1 q.1 ∈ zk_all := List.mem_filter.mpr ⟨List.mem_append_left _ (List.mem_map.mpr ⟨q, List.mem_of_getElem? h, rfl⟩), hg⟩
set_option maxRecDepth 20000 in
theorem zc_0 : ∀ w ∈ u_ws rc_0 tc_0 3, w ∈ zk_all := by
  have h : u_ws rc_0 tc_0 3 = [38, 40, 42].filterMap (fun i => tables_1[i]?) := by decide +kernel
  have g : (u_ws rc_0 tc_0 3).all goodWord = true := by decide +kernel
  intro w hw
  have hg := List.all_eq_true.mp g w hw
  rw [h] at hw
  obtain ⟨i, -, hi⟩ := List.mem_filterMap.mp hw
  exact zk_in i hi hg
set_option maxRecDepth 20000 in
theorem zc_1 : ∀ w ∈ u_ws rc_1 tc_1 4, w ∈ zk_all := by
  have h : u_ws rc_1 tc_1 4 = [52, 54, 56, 58].filterMap (fun i => tables_1[i]?) := by decide +kernel
  have g : (u_ws rc_1 tc_1 4).all goodWord = true := by decide +kernel
  intro w hw
  have hg := List.all_eq_true.mp g w hw
  rw [h] at hw
  obtain ⟨i, -, hi⟩ := List.mem_filterMap.mp hw
  exact zk_in i hi hg
set_option maxRecDepth 20000 in
theorem zc_2 : ∀ w ∈ u_ws rc_2 tc_2 2, w ∈ zk_all := by
  have h : u_ws rc_2 tc_2 2 = [71, 73].filterMap (fun i => tables_1[i]?) := by decide +kernel
  have g : (u_ws rc_2 tc_2 2).all goodWord = true := by decide +kernel
  intro w hw
  have hg := List.all_eq_true.mp g w hw
  rw [h] at hw
  obtain ⟨i, -, hi⟩ := List.mem_filterMap.mp hw
  exact zk_in i hi hg
set_option maxRecDepth 20000 in
theorem zc_3 : ∀ w ∈ u_ws rc_3 tc_3 1, w ∈ zk_all := by
  have h : u_ws rc_3 tc_3 1 = [83].filterMap (fun i => tables_1[i]?) := by decide +kernel
  have g : (u_ws rc_3 tc_3 1).all goodWord = true := by decide +kernel
  intro w hw
  have hg := List.all_eq_true.mp g w hw
  rw [h] at hw
  obtain ⟨i, -, hi⟩ := List.mem_filterMap.mp hw
  exact zk_in i hi hg
set_option maxRecDepth 20000 in
theorem zc_4 : ∀ w ∈ u_ws rc_4 tc_4 11, w ∈ zk_all := by
  have h : u_ws rc_4 tc_4 11 = [112, 114, 116, 118, 120, 122, 124, 126, 128, 130, 132].filterMap (fun i => tables_1[i]?) := by decide +kernel
  have g : (u_ws rc_4 tc_4 11).all goodWord = true := by decide +kernel
  intro w hw
  have hg := List.all_eq_true.mp g w hw
  rw [h] at hw
  obtain ⟨i, -, hi⟩ := List.mem_filterMap.mp hw
  exact zk_in i hi hg
set_option maxRecDepth 20000 in
theorem zc_5 : ∀ w ∈ u_ws rc_5 tc_5 5, w ∈ zk_all := by
  have h : u_ws rc_5 tc_5 5 = [149, 151, 153, 155, 157].filterMap (fun i => tables_1[i]?) := by decide +kernel
  have g : (u_ws rc_5 tc_5 5).all goodWord = true := by decide +kernel
  intro w hw
  have hg := List.all_eq_true.mp g w hw
  rw [h] at hw
  obtain ⟨i, -, hi⟩ := List.mem_filterMap.mp hw
  exact zk_in i hi hg
set_option maxRecDepth 20000 in
theorem zc_6 : ∀ w ∈ u_ws rc_6 tc_6 9, w ∈ zk_all := by
  have h : u_ws rc_6 tc_6 9 = [169, 171, 173, 175, 177, 179, 181, 183, 185].filterMap (fun i => tables_1[i]?) := by decide +kernel
  have g : (u_ws rc_6 tc_6 9).all goodWord = true := by decide +kernel
  intro w hw
  have hg := List.all_eq_true.mp g w hw
  rw [h] at hw
  obtain ⟨i, -, hi⟩ := List.mem_filterMap.mp hw
  exact zk_in i hi hg
set_option maxRecDepth 20000 in
theorem zc_7 : ∀ w ∈ u_ws rc_7 tc_7 9, w ∈ zk_all := by
  have h : u_ws rc_7 tc_7 9 = [345, 347, 349, 351, 353, 355, 357, 359, 361].filterMap (fun i => tables_1[i]?) := by decide +kernel
  have g : (u_ws rc_7 tc_7 9).all goodWord = true := by decide +kernel
  intro w hw
  have hg := List.all_eq_true.mp g w hw
  rw [h] at hw
  obtain ⟨i, -, hi⟩ := List.mem_filterMap.mp hw
  exact zk_in i hi hg
set_option maxRecDepth 20000 in
theorem zc_8 : ∀ w ∈ u_ws rc_8 tc_8 5, w ∈ zk_all := by
  have h : u_ws rc_8 tc_8 5 = [671, 673, 675, 677, 679].filterMap (fun i => tables_1[i]?) := by decide +kernel
  have g : (u_ws rc_8 tc_8 5).all goodWord = true := by decide +kernel
  intro w hw
  have hg := List.all_eq_true.mp g w hw
  rw [h] at hw
  obtain ⟨i, -, hi⟩ := List.mem_filterMap.mp hw
  exact zk_in i hi hg
set_option maxRecDepth 20000 in
theorem zc_9 : ∀ w ∈ u_ws rc_9 tc_9 48, w ∈ zk_all := by
  have h : u_ws rc_9 tc_9 48 = [738, 740, 742, 744, 746, 748, 750, 752, 754, 756, 758, 760, 762, 764, 766, 768, 770, 772, 774, 776, 778, 780, 782, 784, 786, 788, 790, 792, 794, 796, 798, 800, 802, 804, 806, 808, 810, 812, 814, 816, 818, 820, 822, 824, 826, 828, 830, 832].filterMap (fun i => tables_1[i]?) := by decide +kernel
  have g : (u_ws rc_9 tc_9 48).all goodWord = true := by decide +kernel
  intro w hw
  have hg := List.all_eq_true.mp g w hw
  rw [h] at hw
  obtain ⟨i, -, hi⟩ := List.mem_filterMap.mp hw
  exact zk_in i hi hg
theorem zk_cls_ok : ∀ (ci : Nat) (C : String) (T : u_T) (N : Nat), vwCl[ci]? = some (C, T, N) → (∀ w ∈ u_ws C T N, w ∈ zk_all) ∧ ∃ ty : Nat → FieldType, (∀ k, k < N → parseFieldDescriptor (T k).2.2.1 = some (ty k)) ∧ ∀ a, a < N → ∀ b, b < N → a ≠ b → (T a).2.1 ≠ (T b).2.1 := by
  intro ci C T N h
  match ci, h with
  | 0, h => cases h; exact ⟨zc_0, yc_0, yk_0, nc_0⟩
  | 1, h => cases h; exact ⟨zc_1, yc_1, yk_1, nc_1⟩
  | 2, h => cases h; exact ⟨zc_2, yc_2, yk_2, nc_2⟩
  | 3, h => cases h; exact ⟨zc_3, yc_3, yk_3, nc_3⟩
  | 4, h => cases h; exact ⟨zc_4, yc_4, yk_4, nc_4⟩
  | 5, h => cases h; exact ⟨zc_5, yc_5, yk_5, nc_5⟩
  | 6, h => cases h; exact ⟨zc_6, yc_6, yk_6, nc_6⟩
  | 7, h => cases h; exact ⟨zc_7, yc_7, yk_7, nc_7⟩
  | 8, h => cases h; exact ⟨zc_8, yc_8, yk_8, nc_8⟩
  | 9, h => cases h; exact ⟨zc_9, yc_9, yk_9, nc_9⟩
  | k + 10, h => simp [vwCl] at h
/-- the array types: ints; then those of references -/
def zk_ty : List FieldType := [.int, .object "ClosureMachine$Global"]
def zk_nw : List Cond := [.methodLinkNest "ClosureMachine" 9 ⟨"ClosureMachine$Terms", "<init>", "()V"⟩ "ClosureMachine", .methodLinkNest "ClosureMachine" 18 ⟨"ClosureMachine$Globals", "<init>", "()V"⟩ "ClosureMachine", .arrayOver (.object "ClosureMachine$Global"), .methodLinkNest "ClosureMachineModel" 9 ⟨"ClosureMachineModel$Rows", "<init>", "()V"⟩ "ClosureMachineModel", .fieldLinkNest "ClosureMachineModel" 152 "ClosureMachineModel$Rows" "kind" "[I" "ClosureMachineModel", .fieldLinkNest "ClosureMachineModel" 155 "ClosureMachineModel$Rows" "value" "[I" "ClosureMachineModel", .fieldLinkNest "ClosureMachineModel" 156 "ClosureMachineModel$Rows" "sort" "[I" "ClosureMachineModel", .fieldLinkNest "ClosureMachineModel" 133 "ClosureMachineModel$Rows" "length" "[I" "ClosureMachineModel", .fieldLinkNest "ClosureMachineModel" 136 "ClosureMachineModel$Rows" "count" "I" "ClosureMachineModel", .methodLinkNest "ClosureMachineModel" 172 ⟨"ClosureMachineModel$Rows", "wide", "([I)[I"⟩ "ClosureMachineModel"]
set_option maxRecDepth 20000 in
theorem zk_nw_in : ∀ w ∈ zk_nw, w ∈ lw_tbl := by
  have h : zk_nw = [24, 63, 68, 657, 662, 664, 666, 668, 670, 920].filterMap (fun i => tables_1[i]?) := by decide +kernel
  intro w hw
  rw [h] at hw
  obtain ⟨i, -, hi⟩ := List.mem_filterMap.mp hw
  exact List.mem_append_right _ (List.mem_of_getElem? hi)
