section
-- ===== PART A: goes FIRST, ahead of the names: the tables' words, and 'selects' of the private methods out of them =====
/-- a private method of a class that the tables say can be made, by its rows of tables_1 -/
def lw_okq (q : MethodName × Nat) : Prop := (q.1.cls ≠ "java/lang/invoke/MethodHandle" ∧ q.1.cls ≠ "java/lang/invoke/VarHandle") ∧ Cond.instantiable q.1.cls q.2 ∈ tables_1 ∧ Cond.privateMethod q.1 ∈ tables_1 ∧ Cond.instanceMethod q.1 ∈ tables_1
theorem lw_p0 : lw_okq (⟨"ClosureMachine$Terms", "size", "(I)I"⟩, 4) := ⟨⟨by decide +kernel, by decide +kernel⟩, List.mem_of_getElem? (i := 23) (by decide +kernel), List.mem_of_getElem? (i := 257) (by decide +kernel), List.mem_of_getElem? (i := 258) (by decide +kernel)⟩
theorem lw_p1 : lw_okq (⟨"ClosureMachine$TypeReader", "countAlls", "(I)I"⟩, 1) := ⟨⟨by decide +kernel, by decide +kernel⟩, List.mem_of_getElem? (i := 77) (by decide +kernel), List.mem_of_getElem? (i := 393) (by decide +kernel), List.mem_of_getElem? (i := 394) (by decide +kernel)⟩
theorem lw_p2 : lw_okq (⟨"ClosureMachine$TypeReader", "under", "(II)I"⟩, 1) := ⟨⟨by decide +kernel, by decide +kernel⟩, List.mem_of_getElem? (i := 77) (by decide +kernel), List.mem_of_getElem? (i := 402) (by decide +kernel), List.mem_of_getElem? (i := 403) (by decide +kernel)⟩
theorem lw_p3 : lw_okq (⟨"ClosureMachine$TypeReader", "isFamily", "(ILClosureMachine$Global;II)Z"⟩, 1) := ⟨⟨by decide +kernel, by decide +kernel⟩, List.mem_of_getElem? (i := 77) (by decide +kernel), List.mem_of_getElem? (i := 406) (by decide +kernel), List.mem_of_getElem? (i := 407) (by decide +kernel)⟩
theorem lw_p4 : lw_okq (⟨"ClosureMachine$TypeReader", "isVariable", "(II)Z"⟩, 1) := ⟨⟨by decide +kernel, by decide +kernel⟩, List.mem_of_getElem? (i := 77) (by decide +kernel), List.mem_of_getElem? (i := 410) (by decide +kernel), List.mem_of_getElem? (i := 411) (by decide +kernel)⟩
theorem lw_p5 : lw_okq (⟨"ClosureMachine$Machine", "drop", "(II)I"⟩, 11) := ⟨⟨by decide +kernel, by decide +kernel⟩, List.mem_of_getElem? (i := 87) (by decide +kernel), List.mem_of_getElem? (i := 438) (by decide +kernel), List.mem_of_getElem? (i := 439) (by decide +kernel)⟩
theorem lw_p6 : lw_okq (⟨"ClosureMachine$Machine", "unfold", "()Z"⟩, 11) := ⟨⟨by decide +kernel, by decide +kernel⟩, List.mem_of_getElem? (i := 87) (by decide +kernel), List.mem_of_getElem? (i := 458) (by decide +kernel), List.mem_of_getElem? (i := 459) (by decide +kernel)⟩
theorem lw_p7 : lw_okq (⟨"ClosureMachine$Machine", "waitForLast", "()Z"⟩, 11) := ⟨⟨by decide +kernel, by decide +kernel⟩, List.mem_of_getElem? (i := 87) (by decide +kernel), List.mem_of_getElem? (i := 468) (by decide +kernel), List.mem_of_getElem? (i := 469) (by decide +kernel)⟩
theorem lw_p8 : lw_okq (⟨"ClosureMachine$Machine", "nth", "(II)I"⟩, 11) := ⟨⟨by decide +kernel, by decide +kernel⟩, List.mem_of_getElem? (i := 87) (by decide +kernel), List.mem_of_getElem? (i := 480) (by decide +kernel), List.mem_of_getElem? (i := 481) (by decide +kernel)⟩
theorem lw_p9 : lw_okq (⟨"ClosureMachine$Machine", "apply", "()Z"⟩, 11) := ⟨⟨by decide +kernel, by decide +kernel⟩, List.mem_of_getElem? (i := 87) (by decide +kernel), List.mem_of_getElem? (i := 489) (by decide +kernel), List.mem_of_getElem? (i := 490) (by decide +kernel)⟩
theorem lw_p10 : lw_okq (⟨"ClosureMachine$Machine", "bind", "()Z"⟩, 11) := ⟨⟨by decide +kernel, by decide +kernel⟩, List.mem_of_getElem? (i := 87) (by decide +kernel), List.mem_of_getElem? (i := 493) (by decide +kernel), List.mem_of_getElem? (i := 494) (by decide +kernel)⟩
theorem lw_p11 : lw_okq (⟨"ClosureMachine$Machine", "copy", "(II)I"⟩, 11) := ⟨⟨by decide +kernel, by decide +kernel⟩, List.mem_of_getElem? (i := 87) (by decide +kernel), List.mem_of_getElem? (i := 497) (by decide +kernel), List.mem_of_getElem? (i := 498) (by decide +kernel)⟩
theorem lw_p12 : lw_okq (⟨"ClosureMachine$Machine", "bindLet", "()Z"⟩, 11) := ⟨⟨by decide +kernel, by decide +kernel⟩, List.mem_of_getElem? (i := 87) (by decide +kernel), List.mem_of_getElem? (i := 505) (by decide +kernel), List.mem_of_getElem? (i := 506) (by decide +kernel)⟩
theorem lw_p13 : lw_okq (⟨"ClosureMachine$Machine", "isFun", "(I)Z"⟩, 11) := ⟨⟨by decide +kernel, by decide +kernel⟩, List.mem_of_getElem? (i := 87) (by decide +kernel), List.mem_of_getElem? (i := 509) (by decide +kernel), List.mem_of_getElem? (i := 510) (by decide +kernel)⟩
theorem lw_p14 : lw_okq (⟨"ClosureMachine$Machine", "bindHypothesis", "()Z"⟩, 11) := ⟨⟨by decide +kernel, by decide +kernel⟩, List.mem_of_getElem? (i := 87) (by decide +kernel), List.mem_of_getElem? (i := 517) (by decide +kernel), List.mem_of_getElem? (i := 518) (by decide +kernel)⟩
theorem lw_p15 : lw_okq (⟨"ClosureMachine$Machine", "unfoldHypothesis", "()Z"⟩, 11) := ⟨⟨by decide +kernel, by decide +kernel⟩, List.mem_of_getElem? (i := 87) (by decide +kernel), List.mem_of_getElem? (i := 525) (by decide +kernel), List.mem_of_getElem? (i := 526) (by decide +kernel)⟩
def lw_privs_1 : List (MethodName × Nat) := [(⟨"ClosureMachine$Terms", "size", "(I)I"⟩, 4), (⟨"ClosureMachine$TypeReader", "countAlls", "(I)I"⟩, 1), (⟨"ClosureMachine$TypeReader", "under", "(II)I"⟩, 1), (⟨"ClosureMachine$TypeReader", "isFamily", "(ILClosureMachine$Global;II)Z"⟩, 1), (⟨"ClosureMachine$TypeReader", "isVariable", "(II)Z"⟩, 1), (⟨"ClosureMachine$Machine", "drop", "(II)I"⟩, 11), (⟨"ClosureMachine$Machine", "unfold", "()Z"⟩, 11), (⟨"ClosureMachine$Machine", "waitForLast", "()Z"⟩, 11), (⟨"ClosureMachine$Machine", "nth", "(II)I"⟩, 11), (⟨"ClosureMachine$Machine", "apply", "()Z"⟩, 11), (⟨"ClosureMachine$Machine", "bind", "()Z"⟩, 11), (⟨"ClosureMachine$Machine", "copy", "(II)I"⟩, 11), (⟨"ClosureMachine$Machine", "bindLet", "()Z"⟩, 11), (⟨"ClosureMachine$Machine", "isFun", "(I)Z"⟩, 11), (⟨"ClosureMachine$Machine", "bindHypothesis", "()Z"⟩, 11), (⟨"ClosureMachine$Machine", "unfoldHypothesis", "()Z"⟩, 11)]
theorem lw_r1 : ∀ q ∈ lw_privs_1, lw_okq q := List.forall_mem_cons.mpr ⟨lw_p0, List.forall_mem_cons.mpr ⟨lw_p1, List.forall_mem_cons.mpr ⟨lw_p2, List.forall_mem_cons.mpr ⟨lw_p3, List.forall_mem_cons.mpr ⟨lw_p4, List.forall_mem_cons.mpr ⟨lw_p5, List.forall_mem_cons.mpr ⟨lw_p6, List.forall_mem_cons.mpr ⟨lw_p7, List.forall_mem_cons.mpr ⟨lw_p8, List.forall_mem_cons.mpr ⟨lw_p9, List.forall_mem_cons.mpr ⟨lw_p10, List.forall_mem_cons.mpr ⟨lw_p11, List.forall_mem_cons.mpr ⟨lw_p12, List.forall_mem_cons.mpr ⟨lw_p13, List.forall_mem_cons.mpr ⟨lw_p14, List.forall_mem_cons.mpr ⟨lw_p15, fun _ h => absurd h List.not_mem_nil⟩⟩⟩⟩⟩⟩⟩⟩⟩⟩⟩⟩⟩⟩⟩⟩
theorem lw_p16 : lw_okq (⟨"ClosureMachine$Machine", "copyFirst", "(III)I"⟩, 11) := ⟨⟨by decide +kernel, by decide +kernel⟩, List.mem_of_getElem? (i := 87) (by decide +kernel), List.mem_of_getElem? (i := 530) (by decide +kernel), List.mem_of_getElem? (i := 531) (by decide +kernel)⟩
theorem lw_p17 : lw_okq (⟨"ClosureMachine$Machine", "putArgument", "()Z"⟩, 11) := ⟨⟨by decide +kernel, by decide +kernel⟩, List.mem_of_getElem? (i := 87) (by decide +kernel), List.mem_of_getElem? (i := 538) (by decide +kernel), List.mem_of_getElem? (i := 539) (by decide +kernel)⟩
theorem lw_p18 : lw_okq (⟨"ClosureMachine$Machine", "resumeOne", "()Z"⟩, 11) := ⟨⟨by decide +kernel, by decide +kernel⟩, List.mem_of_getElem? (i := 87) (by decide +kernel), List.mem_of_getElem? (i := 542) (by decide +kernel), List.mem_of_getElem? (i := 543) (by decide +kernel)⟩
theorem lw_p19 : lw_okq (⟨"ClosureMachine$Machine", "constructorOf", "(I)LClosureMachine$Global;"⟩, 11) := ⟨⟨by decide +kernel, by decide +kernel⟩, List.mem_of_getElem? (i := 87) (by decide +kernel), List.mem_of_getElem? (i := 547) (by decide +kernel), List.mem_of_getElem? (i := 548) (by decide +kernel)⟩
theorem lw_p20 : lw_okq (⟨"ClosureMachine$Machine", "choose", "(LClosureMachine$Global;LClosureMachine$Global;II)V"⟩, 11) := ⟨⟨by decide +kernel, by decide +kernel⟩, List.mem_of_getElem? (i := 87) (by decide +kernel), List.mem_of_getElem? (i := 555) (by decide +kernel), List.mem_of_getElem? (i := 556) (by decide +kernel)⟩
theorem lw_p21 : lw_okq (⟨"ClosureMachine$Reader", "writeSpine", "(I)I"⟩, 5) := ⟨⟨by decide +kernel, by decide +kernel⟩, List.mem_of_getElem? (i := 136) (by decide +kernel), List.mem_of_getElem? (i := 595) (by decide +kernel), List.mem_of_getElem? (i := 596) (by decide +kernel)⟩
theorem lw_p22 : lw_okq (⟨"ClosureMachine$Reader", "openBinder", "(II)V"⟩, 5) := ⟨⟨by decide +kernel, by decide +kernel⟩, List.mem_of_getElem? (i := 136) (by decide +kernel), List.mem_of_getElem? (i := 606) (by decide +kernel), List.mem_of_getElem? (i := 607) (by decide +kernel)⟩
theorem lw_p23 : lw_okq (⟨"ClosureMachine$Reader", "place", "(III)V"⟩, 5) := ⟨⟨by decide +kernel, by decide +kernel⟩, List.mem_of_getElem? (i := 136) (by decide +kernel), List.mem_of_getElem? (i := 616) (by decide +kernel), List.mem_of_getElem? (i := 617) (by decide +kernel)⟩
theorem lw_p24 : lw_okq (⟨"ClosureMachineModel", "isRoom", "(I)Z"⟩, 48) := ⟨⟨by decide +kernel, by decide +kernel⟩, List.mem_of_getElem? (i := 650) (by decide +kernel), List.mem_of_getElem? (i := 843) (by decide +kernel), List.mem_of_getElem? (i := 844) (by decide +kernel)⟩
theorem lw_p25 : lw_okq (⟨"ClosureMachineModel", "term", "(III)I"⟩, 48) := ⟨⟨by decide +kernel, by decide +kernel⟩, List.mem_of_getElem? (i := 650) (by decide +kernel), List.mem_of_getElem? (i := 848) (by decide +kernel), List.mem_of_getElem? (i := 849) (by decide +kernel)⟩
theorem lw_p26 : lw_okq (⟨"ClosureMachineModel", "isTerm", "(I)Z"⟩, 48) := ⟨⟨by decide +kernel, by decide +kernel⟩, List.mem_of_getElem? (i := 650) (by decide +kernel), List.mem_of_getElem? (i := 856) (by decide +kernel), List.mem_of_getElem? (i := 857) (by decide +kernel)⟩
theorem lw_p27 : lw_okq (⟨"ClosureMachineModel", "two", "(IIII)I"⟩, 48) := ⟨⟨by decide +kernel, by decide +kernel⟩, List.mem_of_getElem? (i := 650) (by decide +kernel), List.mem_of_getElem? (i := 860) (by decide +kernel), List.mem_of_getElem? (i := 861) (by decide +kernel)⟩
theorem lw_p28 : lw_okq (⟨"ClosureMachineModel", "global", "(I)I"⟩, 48) := ⟨⟨by decide +kernel, by decide +kernel⟩, List.mem_of_getElem? (i := 650) (by decide +kernel), List.mem_of_getElem? (i := 890) (by decide +kernel), List.mem_of_getElem? (i := 891) (by decide +kernel)⟩
theorem lw_p29 : lw_okq (⟨"ClosureMachineModel", "isPut", "(III)Z"⟩, 48) := ⟨⟨by decide +kernel, by decide +kernel⟩, List.mem_of_getElem? (i := 650) (by decide +kernel), List.mem_of_getElem? (i := 910) (by decide +kernel), List.mem_of_getElem? (i := 911) (by decide +kernel)⟩
theorem lw_p30 : lw_okq (⟨"ClosureMachineModel", "recursive", "(IIII)V"⟩, 48) := ⟨⟨by decide +kernel, by decide +kernel⟩, List.mem_of_getElem? (i := 650) (by decide +kernel), List.mem_of_getElem? (i := 914) (by decide +kernel), List.mem_of_getElem? (i := 915) (by decide +kernel)⟩
theorem lw_p31 : lw_okq (⟨"ClosureMachineModel", "isGood", "(II)Z"⟩, 48) := ⟨⟨by decide +kernel, by decide +kernel⟩, List.mem_of_getElem? (i := 650) (by decide +kernel), List.mem_of_getElem? (i := 926) (by decide +kernel), List.mem_of_getElem? (i := 927) (by decide +kernel)⟩
def lw_privs_2 : List (MethodName × Nat) := [(⟨"ClosureMachine$Machine", "copyFirst", "(III)I"⟩, 11), (⟨"ClosureMachine$Machine", "putArgument", "()Z"⟩, 11), (⟨"ClosureMachine$Machine", "resumeOne", "()Z"⟩, 11), (⟨"ClosureMachine$Machine", "constructorOf", "(I)LClosureMachine$Global;"⟩, 11), (⟨"ClosureMachine$Machine", "choose", "(LClosureMachine$Global;LClosureMachine$Global;II)V"⟩, 11), (⟨"ClosureMachine$Reader", "writeSpine", "(I)I"⟩, 5), (⟨"ClosureMachine$Reader", "openBinder", "(II)V"⟩, 5), (⟨"ClosureMachine$Reader", "place", "(III)V"⟩, 5), (⟨"ClosureMachineModel", "isRoom", "(I)Z"⟩, 48), (⟨"ClosureMachineModel", "term", "(III)I"⟩, 48), (⟨"ClosureMachineModel", "isTerm", "(I)Z"⟩, 48), (⟨"ClosureMachineModel", "two", "(IIII)I"⟩, 48), (⟨"ClosureMachineModel", "global", "(I)I"⟩, 48), (⟨"ClosureMachineModel", "isPut", "(III)Z"⟩, 48), (⟨"ClosureMachineModel", "recursive", "(IIII)V"⟩, 48), (⟨"ClosureMachineModel", "isGood", "(II)Z"⟩, 48)]
theorem lw_r2 : ∀ q ∈ lw_privs_2, lw_okq q := List.forall_mem_cons.mpr ⟨lw_p16, List.forall_mem_cons.mpr ⟨lw_p17, List.forall_mem_cons.mpr ⟨lw_p18, List.forall_mem_cons.mpr ⟨lw_p19, List.forall_mem_cons.mpr ⟨lw_p20, List.forall_mem_cons.mpr ⟨lw_p21, List.forall_mem_cons.mpr ⟨lw_p22, List.forall_mem_cons.mpr ⟨lw_p23, List.forall_mem_cons.mpr ⟨lw_p24, List.forall_mem_cons.mpr ⟨lw_p25, List.forall_mem_cons.mpr ⟨lw_p26, List.forall_mem_cons.mpr ⟨lw_p27, List.forall_mem_cons.mpr ⟨lw_p28, List.forall_mem_cons.mpr ⟨lw_p29, List.forall_mem_cons.mpr ⟨lw_p30, List.forall_mem_cons.mpr ⟨lw_p31, fun _ h => absurd h List.not_mem_nil⟩⟩⟩⟩⟩⟩⟩⟩⟩⟩⟩⟩⟩⟩⟩⟩
theorem lw_p32 : lw_okq (⟨"ClosureMachineModel", "begin", "(I)V"⟩, 48) := ⟨⟨by decide +kernel, by decide +kernel⟩, List.mem_of_getElem? (i := 650) (by decide +kernel), List.mem_of_getElem? (i := 930) (by decide +kernel), List.mem_of_getElem? (i := 931) (by decide +kernel)⟩
theorem lw_p33 : lw_okq (⟨"ClosureMachineModel", "env", "(IIII)I"⟩, 48) := ⟨⟨by decide +kernel, by decide +kernel⟩, List.mem_of_getElem? (i := 650) (by decide +kernel), List.mem_of_getElem? (i := 934) (by decide +kernel), List.mem_of_getElem? (i := 935) (by decide +kernel)⟩
theorem lw_p34 : lw_okq (⟨"ClosureMachineModel", "reduce", "(II)I"⟩, 48) := ⟨⟨by decide +kernel, by decide +kernel⟩, List.mem_of_getElem? (i := 650) (by decide +kernel), List.mem_of_getElem? (i := 938) (by decide +kernel), List.mem_of_getElem? (i := 939) (by decide +kernel)⟩
theorem lw_p35 : lw_okq (⟨"ClosureMachineModel", "meant", "()I"⟩, 48) := ⟨⟨by decide +kernel, by decide +kernel⟩, List.mem_of_getElem? (i := 650) (by decide +kernel), List.mem_of_getElem? (i := 943) (by decide +kernel), List.mem_of_getElem? (i := 944) (by decide +kernel)⟩
theorem lw_p36 : lw_okq (⟨"ClosureMachineModel", "arg", "(III)I"⟩, 48) := ⟨⟨by decide +kernel, by decide +kernel⟩, List.mem_of_getElem? (i := 650) (by decide +kernel), List.mem_of_getElem? (i := 947) (by decide +kernel), List.mem_of_getElem? (i := 948) (by decide +kernel)⟩
theorem lw_p37 : lw_okq (⟨"ClosureMachineModel", "brings", "()I"⟩, 48) := ⟨⟨by decide +kernel, by decide +kernel⟩, List.mem_of_getElem? (i := 650) (by decide +kernel), List.mem_of_getElem? (i := 952) (by decide +kernel), List.mem_of_getElem? (i := 953) (by decide +kernel)⟩
theorem lw_p38 : lw_okq (⟨"ClosureMachineModel", "val", "(IIII)I"⟩, 48) := ⟨⟨by decide +kernel, by decide +kernel⟩, List.mem_of_getElem? (i := 650) (by decide +kernel), List.mem_of_getElem? (i := 956) (by decide +kernel), List.mem_of_getElem? (i := 957) (by decide +kernel)⟩
theorem lw_p39 : lw_okq (⟨"ClosureMachineModel", "bind", "(I)I"⟩, 48) := ⟨⟨by decide +kernel, by decide +kernel⟩, List.mem_of_getElem? (i := 650) (by decide +kernel), List.mem_of_getElem? (i := 960) (by decide +kernel), List.mem_of_getElem? (i := 961) (by decide +kernel)⟩
theorem lw_p40 : lw_okq (⟨"ClosureMachineModel", "within", "(II)I"⟩, 48) := ⟨⟨by decide +kernel, by decide +kernel⟩, List.mem_of_getElem? (i := 650) (by decide +kernel), List.mem_of_getElem? (i := 964) (by decide +kernel), List.mem_of_getElem? (i := 965) (by decide +kernel)⟩
theorem lw_p41 : lw_okq (⟨"ClosureMachineModel", "full", "(I)I"⟩, 48) := ⟨⟨by decide +kernel, by decide +kernel⟩, List.mem_of_getElem? (i := 650) (by decide +kernel), List.mem_of_getElem? (i := 968) (by decide +kernel), List.mem_of_getElem? (i := 969) (by decide +kernel)⟩
theorem lw_p42 : lw_okq (⟨"ClosureMachineModel", "step", "()I"⟩, 48) := ⟨⟨by decide +kernel, by decide +kernel⟩, List.mem_of_getElem? (i := 650) (by decide +kernel), List.mem_of_getElem? (i := 972) (by decide +kernel), List.mem_of_getElem? (i := 973) (by decide +kernel)⟩
theorem lw_p43 : lw_okq (⟨"ClosureMachineModel", "drop", "(II)I"⟩, 48) := ⟨⟨by decide +kernel, by decide +kernel⟩, List.mem_of_getElem? (i := 650) (by decide +kernel), List.mem_of_getElem? (i := 976) (by decide +kernel), List.mem_of_getElem? (i := 977) (by decide +kernel)⟩
theorem lw_p44 : lw_okq (⟨"ClosureMachineModel", "variable", "(I)I"⟩, 48) := ⟨⟨by decide +kernel, by decide +kernel⟩, List.mem_of_getElem? (i := 650) (by decide +kernel), List.mem_of_getElem? (i := 980) (by decide +kernel), List.mem_of_getElem? (i := 981) (by decide +kernel)⟩
theorem lw_p45 : lw_okq (⟨"ClosureMachineModel", "isRec", "(I)Z"⟩, 48) := ⟨⟨by decide +kernel, by decide +kernel⟩, List.mem_of_getElem? (i := 650) (by decide +kernel), List.mem_of_getElem? (i := 984) (by decide +kernel), List.mem_of_getElem? (i := 985) (by decide +kernel)⟩
theorem lw_p46 : lw_okq (⟨"ClosureMachineModel", "lengthOf", "(I)I"⟩, 48) := ⟨⟨by decide +kernel, by decide +kernel⟩, List.mem_of_getElem? (i := 650) (by decide +kernel), List.mem_of_getElem? (i := 988) (by decide +kernel), List.mem_of_getElem? (i := 989) (by decide +kernel)⟩
theorem lw_p47 : lw_okq (⟨"ClosureMachineModel", "argAt", "(II)I"⟩, 48) := ⟨⟨by decide +kernel, by decide +kernel⟩, List.mem_of_getElem? (i := 650) (by decide +kernel), List.mem_of_getElem? (i := 992) (by decide +kernel), List.mem_of_getElem? (i := 993) (by decide +kernel)⟩
def lw_privs_3 : List (MethodName × Nat) := [(⟨"ClosureMachineModel", "begin", "(I)V"⟩, 48), (⟨"ClosureMachineModel", "env", "(IIII)I"⟩, 48), (⟨"ClosureMachineModel", "reduce", "(II)I"⟩, 48), (⟨"ClosureMachineModel", "meant", "()I"⟩, 48), (⟨"ClosureMachineModel", "arg", "(III)I"⟩, 48), (⟨"ClosureMachineModel", "brings", "()I"⟩, 48), (⟨"ClosureMachineModel", "val", "(IIII)I"⟩, 48), (⟨"ClosureMachineModel", "bind", "(I)I"⟩, 48), (⟨"ClosureMachineModel", "within", "(II)I"⟩, 48), (⟨"ClosureMachineModel", "full", "(I)I"⟩, 48), (⟨"ClosureMachineModel", "step", "()I"⟩, 48), (⟨"ClosureMachineModel", "drop", "(II)I"⟩, 48), (⟨"ClosureMachineModel", "variable", "(I)I"⟩, 48), (⟨"ClosureMachineModel", "isRec", "(I)Z"⟩, 48), (⟨"ClosureMachineModel", "lengthOf", "(I)I"⟩, 48), (⟨"ClosureMachineModel", "argAt", "(II)I"⟩, 48)]
theorem lw_r3 : ∀ q ∈ lw_privs_3, lw_okq q := List.forall_mem_cons.mpr ⟨lw_p32, List.forall_mem_cons.mpr ⟨lw_p33, List.forall_mem_cons.mpr ⟨lw_p34, List.forall_mem_cons.mpr ⟨lw_p35, List.forall_mem_cons.mpr ⟨lw_p36, List.forall_mem_cons.mpr ⟨lw_p37, List.forall_mem_cons.mpr ⟨lw_p38, List.forall_mem_cons.mpr ⟨lw_p39, List.forall_mem_cons.mpr ⟨lw_p40, List.forall_mem_cons.mpr ⟨lw_p41, List.forall_mem_cons.mpr ⟨lw_p42, List.forall_mem_cons.mpr ⟨lw_p43, List.forall_mem_cons.mpr ⟨lw_p44, List.forall_mem_cons.mpr ⟨lw_p45, List.forall_mem_cons.mpr ⟨lw_p46, List.forall_mem_cons.mpr ⟨lw_p47, fun _ h => absurd h List.not_mem_nil⟩⟩⟩⟩⟩⟩⟩⟩⟩⟩⟩⟩⟩⟩⟩⟩
theorem lw_p48 : lw_okq (⟨"ClosureMachineModel", "back", "(III)I"⟩, 48) := ⟨⟨by decide +kernel, by decide +kernel⟩, List.mem_of_getElem? (i := 650) (by decide +kernel), List.mem_of_getElem? (i := 996) (by decide +kernel), List.mem_of_getElem? (i := 997) (by decide +kernel)⟩
theorem lw_p49 : lw_okq (⟨"ClosureMachineModel", "contract", "(IIII)V"⟩, 48) := ⟨⟨by decide +kernel, by decide +kernel⟩, List.mem_of_getElem? (i := 650) (by decide +kernel), List.mem_of_getElem? (i := 1000) (by decide +kernel), List.mem_of_getElem? (i := 1001) (by decide +kernel)⟩
theorem lw_p50 : lw_okq (⟨"ClosureMachineModel", "around", "(IIIII)I"⟩, 48) := ⟨⟨by decide +kernel, by decide +kernel⟩, List.mem_of_getElem? (i := 650) (by decide +kernel), List.mem_of_getElem? (i := 1004) (by decide +kernel), List.mem_of_getElem? (i := 1005) (by decide +kernel)⟩
theorem lw_p51 : lw_okq (⟨"ClosureMachineModel", "nameOf", "(I)I"⟩, 48) := ⟨⟨by decide +kernel, by decide +kernel⟩, List.mem_of_getElem? (i := 650) (by decide +kernel), List.mem_of_getElem? (i := 1008) (by decide +kernel), List.mem_of_getElem? (i := 1009) (by decide +kernel)⟩
theorem lw_p52 : lw_okq (⟨"ClosureMachineModel", "lay", "(IIII)V"⟩, 48) := ⟨⟨by decide +kernel, by decide +kernel⟩, List.mem_of_getElem? (i := 650) (by decide +kernel), List.mem_of_getElem? (i := 1020) (by decide +kernel), List.mem_of_getElem? (i := 1021) (by decide +kernel)⟩
theorem lw_p53 : lw_okq (⟨"ClosureMachineModel", "show", "(II)V"⟩, 48) := ⟨⟨by decide +kernel, by decide +kernel⟩, List.mem_of_getElem? (i := 650) (by decide +kernel), List.mem_of_getElem? (i := 1024) (by decide +kernel), List.mem_of_getElem? (i := 1025) (by decide +kernel)⟩
theorem lw_p54 : lw_okq (⟨"ClosureMachineModel", "node", "(III)V"⟩, 48) := ⟨⟨by decide +kernel, by decide +kernel⟩, List.mem_of_getElem? (i := 650) (by decide +kernel), List.mem_of_getElem? (i := 1028) (by decide +kernel), List.mem_of_getElem? (i := 1029) (by decide +kernel)⟩
theorem lw_p55 : lw_okq (⟨"ClosureMachineModel", "looseness", "(I)I"⟩, 48) := ⟨⟨by decide +kernel, by decide +kernel⟩, List.mem_of_getElem? (i := 650) (by decide +kernel), List.mem_of_getElem? (i := 1039) (by decide +kernel), List.mem_of_getElem? (i := 1040) (by decide +kernel)⟩
def lw_privs_4 : List (MethodName × Nat) := [(⟨"ClosureMachineModel", "back", "(III)I"⟩, 48), (⟨"ClosureMachineModel", "contract", "(IIII)V"⟩, 48), (⟨"ClosureMachineModel", "around", "(IIIII)I"⟩, 48), (⟨"ClosureMachineModel", "nameOf", "(I)I"⟩, 48), (⟨"ClosureMachineModel", "lay", "(IIII)V"⟩, 48), (⟨"ClosureMachineModel", "show", "(II)V"⟩, 48), (⟨"ClosureMachineModel", "node", "(III)V"⟩, 48), (⟨"ClosureMachineModel", "looseness", "(I)I"⟩, 48)]
theorem lw_r4 : ∀ q ∈ lw_privs_4, lw_okq q := List.forall_mem_cons.mpr ⟨lw_p48, List.forall_mem_cons.mpr ⟨lw_p49, List.forall_mem_cons.mpr ⟨lw_p50, List.forall_mem_cons.mpr ⟨lw_p51, List.forall_mem_cons.mpr ⟨lw_p52, List.forall_mem_cons.mpr ⟨lw_p53, List.forall_mem_cons.mpr ⟨lw_p54, List.forall_mem_cons.mpr ⟨lw_p55, fun _ h => absurd h List.not_mem_nil⟩⟩⟩⟩⟩⟩⟩⟩
def lw_privs : List (MethodName × Nat) := lw_privs_1 ++ (lw_privs_2 ++ (lw_privs_3 ++ (lw_privs_4)))
def lw_tbl : List Cond := k2_sels lw_privs ++ tables_1
theorem lw_privs_ok : ∀ q ∈ lw_privs, lw_okq q := by
  show ∀ q ∈ lw_privs_1 ++ (lw_privs_2 ++ (lw_privs_3 ++ (lw_privs_4))), lw_okq q
  exact List.forall_mem_append.mpr ⟨lw_r1, List.forall_mem_append.mpr ⟨lw_r2, List.forall_mem_append.mpr ⟨lw_r3, lw_r4⟩⟩⟩
/-! names, by program: the classes (rc_), their fields (tc_), the fields' types (yc_) -/
def rc_0 : String := "ClosureMachine$Rows"
def tc_0 : u_T := fun k => match k with
  | 0 => ("ClosureMachine$Rows", "most", "I", true)
  | 1 => ("ClosureMachine$Rows", "numbers", "[I", false)
  | _ => ("ClosureMachine$Rows", "count", "I", false)
def yc_0 : Nat → FieldType := fun k => match k with
  | 0 => .int
  | 1 => (.array .int)
  | _ => .int
theorem nc_0 : ∀ a, a < 3 → ∀ b, b < 3 → a ≠ b → (tc_0 a).2.1 ≠ (tc_0 b).2.1 := by decide +kernel
theorem yk_0 : ∀ k, k < 3 → parseFieldDescriptor (tc_0 k).2.2.1 = some (yc_0 k) := by decide +kernel
def rc_1 : String := "ClosureMachine$Terms"
def tc_1 : u_T := fun k => match k with
  | 0 => ("ClosureMachine$Terms", "nodes", "LClosureMachine$Rows;", true)
  | 1 => ("ClosureMachine$Terms", "numbered", "LClosureMachine$Rows;", true)
  | 2 => ("ClosureMachine$Terms", "walk", "LClosureMachine$Rows;", true)
  | _ => ("ClosureMachine$Terms", "nodesInAll", "I", false)
def yc_1 : Nat → FieldType := fun k => match k with
  | 0 => (.object "ClosureMachine$Rows")
  | 1 => (.object "ClosureMachine$Rows")
  | 2 => (.object "ClosureMachine$Rows")
  | _ => .int
theorem nc_1 : ∀ a, a < 4 → ∀ b, b < 4 → a ≠ b → (tc_1 a).2.1 ≠ (tc_1 b).2.1 := by decide +kernel
theorem yk_1 : ∀ k, k < 4 → parseFieldDescriptor (tc_1 k).2.2.1 = some (yc_1 k) := by decide +kernel
def rc_2 : String := "ClosureMachine$Globals"
def tc_2 : u_T := fun k => match k with
  | 0 => ("ClosureMachine$Globals", "all", "[LClosureMachine$Global;", true)
  | _ => ("ClosureMachine$Globals", "count", "I", false)
def yc_2 : Nat → FieldType := fun k => match k with
  | 0 => (.array (.object "ClosureMachine$Global"))
  | _ => .int
theorem nc_2 : ∀ a, a < 2 → ∀ b, b < 2 → a ≠ b → (tc_2 a).2.1 ≠ (tc_2 b).2.1 := by decide +kernel
theorem yk_2 : ∀ k, k < 2 → parseFieldDescriptor (tc_2 k).2.2.1 = some (yc_2 k) := by decide +kernel
def rc_3 : String := "ClosureMachine$TypeReader"
def tc_3 : u_T := fun k => match k with
  | _ => ("ClosureMachine$TypeReader", "terms", "LClosureMachine$Terms;", true)
def yc_3 : Nat → FieldType := fun k => match k with
  | _ => (.object "ClosureMachine$Terms")
theorem nc_3 : ∀ a, a < 1 → ∀ b, b < 1 → a ≠ b → (tc_3 a).2.1 ≠ (tc_3 b).2.1 := by decide +kernel
theorem yk_3 : ∀ k, k < 1 → parseFieldDescriptor (tc_3 k).2.2.1 = some (yc_3 k) := by decide +kernel
def rc_4 : String := "ClosureMachine$Machine"
def tc_4 : u_T := fun k => match k with
  | 0 => ("ClosureMachine$Machine", "terms", "LClosureMachine$Terms;", true)
  | 1 => ("ClosureMachine$Machine", "globals", "LClosureMachine$Globals;", true)
  | 2 => ("ClosureMachine$Machine", "cells", "LClosureMachine$Rows;", true)
  | 3 => ("ClosureMachine$Machine", "hypotheses", "LClosureMachine$Rows;", true)
  | 4 => ("ClosureMachine$Machine", "waiting", "LClosureMachine$Rows;", true)
  | 5 => ("ClosureMachine$Machine", "fuel", "I", false)
  | 6 => ("ClosureMachine$Machine", "spent", "I", false)
  | 7 => ("ClosureMachine$Machine", "mode", "I", false)
  | 8 => ("ClosureMachine$Machine", "at", "I", false)
  | 9 => ("ClosureMachine$Machine", "env", "I", false)
  | _ => ("ClosureMachine$Machine", "stack", "I", false)
def yc_4 : Nat → FieldType := fun k => match k with
  | 0 => (.object "ClosureMachine$Terms")
  | 1 => (.object "ClosureMachine$Globals")
  | 2 => (.object "ClosureMachine$Rows")
  | 3 => (.object "ClosureMachine$Rows")
  | 4 => (.object "ClosureMachine$Rows")
  | 5 => .int
  | 6 => .int
  | 7 => .int
  | 8 => .int
  | 9 => .int
  | _ => .int
theorem nc_4 : ∀ a, a < 11 → ∀ b, b < 11 → a ≠ b → (tc_4 a).2.1 ≠ (tc_4 b).2.1 := by decide +kernel
theorem yk_4 : ∀ k, k < 11 → parseFieldDescriptor (tc_4 k).2.2.1 = some (yc_4 k) := by decide +kernel
def rc_5 : String := "ClosureMachine$Reader"
def tc_5 : u_T := fun k => match k with
  | 0 => ("ClosureMachine$Reader", "terms", "LClosureMachine$Terms;", true)
  | 1 => ("ClosureMachine$Reader", "machine", "LClosureMachine$Machine;", true)
  | 2 => ("ClosureMachine$Reader", "places", "LClosureMachine$Rows;", true)
  | 3 => ("ClosureMachine$Reader", "root", "I", false)
  | _ => ("ClosureMachine$Reader", "loose", "I", false)
def yc_5 : Nat → FieldType := fun k => match k with
  | 0 => (.object "ClosureMachine$Terms")
  | 1 => (.object "ClosureMachine$Machine")
  | 2 => (.object "ClosureMachine$Rows")
  | 3 => .int
  | _ => .int
theorem nc_5 : ∀ a, a < 5 → ∀ b, b < 5 → a ≠ b → (tc_5 a).2.1 ≠ (tc_5 b).2.1 := by decide +kernel
theorem yk_5 : ∀ k, k < 5 → parseFieldDescriptor (tc_5 k).2.2.1 = some (yc_5 k) := by decide +kernel
def rc_6 : String := "ClosureMachine"
def tc_6 : u_T := fun k => match k with
  | 0 => ("ClosureMachine", "store", "LClosureMachine$Terms;", true)
  | 1 => ("ClosureMachine", "globals", "LClosureMachine$Globals;", true)
  | 2 => ("ClosureMachine", "types", "LClosureMachine$TypeReader;", true)
  | 3 => ("ClosureMachine", "machine", "LClosureMachine$Machine;", true)
  | 4 => ("ClosureMachine", "reader", "LClosureMachine$Reader;", true)
  | 5 => ("ClosureMachine", "costOfLast", "I", false)
  | 6 => ("ClosureMachine", "foundKind", "I", false)
  | 7 => ("ClosureMachine", "foundNumber", "I", false)
  | _ => ("ClosureMachine", "foundCount", "I", false)
def yc_6 : Nat → FieldType := fun k => match k with
  | 0 => (.object "ClosureMachine$Terms")
  | 1 => (.object "ClosureMachine$Globals")
  | 2 => (.object "ClosureMachine$TypeReader")
  | 3 => (.object "ClosureMachine$Machine")
  | 4 => (.object "ClosureMachine$Reader")
  | 5 => .int
  | 6 => .int
  | 7 => .int
  | _ => .int
theorem nc_6 : ∀ a, a < 9 → ∀ b, b < 9 → a ≠ b → (tc_6 a).2.1 ≠ (tc_6 b).2.1 := by decide +kernel
theorem yk_6 : ∀ k, k < 9 → parseFieldDescriptor (tc_6 k).2.2.1 = some (yc_6 k) := by decide +kernel
def rc_7 : String := "ClosureMachine$Global"
def tc_7 : u_T := fun k => match k with
  | 0 => ("ClosureMachine$Global", "kind", "I", true)
  | 1 => ("ClosureMachine$Global", "value", "I", false)
  | 2 => ("ClosureMachine$Global", "parameters", "I", false)
  | 3 => ("ClosureMachine$Global", "indices", "I", false)
  | 4 => ("ClosureMachine$Global", "constructors", "I", false)
  | 5 => ("ClosureMachine$Global", "family", "I", false)
  | 6 => ("ClosureMachine$Global", "place", "I", false)
  | 7 => ("ClosureMachine$Global", "recursive", "[I", false)
  | _ => ("ClosureMachine$Global", "hypotheses", "I", false)
def yc_7 : Nat → FieldType := fun k => match k with
  | 0 => .int
  | 1 => .int
  | 2 => .int
  | 3 => .int
  | 4 => .int
  | 5 => .int
  | 6 => .int
  | 7 => (.array .int)
  | _ => .int
theorem nc_7 : ∀ a, a < 9 → ∀ b, b < 9 → a ≠ b → (tc_7 a).2.1 ≠ (tc_7 b).2.1 := by decide +kernel
theorem yk_7 : ∀ k, k < 9 → parseFieldDescriptor (tc_7 k).2.2.1 = some (yc_7 k) := by decide +kernel
def rc_8 : String := "ClosureMachineModel$Rows"
def tc_8 : u_T := fun k => match k with
  | 0 => ("ClosureMachineModel$Rows", "kind", "[I", false)
  | 1 => ("ClosureMachineModel$Rows", "value", "[I", false)
  | 2 => ("ClosureMachineModel$Rows", "sort", "[I", false)
  | 3 => ("ClosureMachineModel$Rows", "length", "[I", false)
  | _ => ("ClosureMachineModel$Rows", "count", "I", false)
def yc_8 : Nat → FieldType := fun k => match k with
  | 0 => (.array .int)
  | 1 => (.array .int)
  | 2 => (.array .int)
  | 3 => (.array .int)
  | _ => .int
theorem nc_8 : ∀ a, a < 5 → ∀ b, b < 5 → a ≠ b → (tc_8 a).2.1 ≠ (tc_8 b).2.1 := by decide +kernel
theorem yk_8 : ∀ k, k < 5 → parseFieldDescriptor (tc_8 k).2.2.1 = some (yc_8 k) := by decide +kernel
def rc_9 : String := "ClosureMachineModel"
def tc_9 : u_T := fun k => match k with
  | 0 => ("ClosureMachineModel", "\x72", "LClosureMachineModel$Rows;", true)
  | 1 => ("ClosureMachineModel", "begin", "[I", true)
  | 2 => ("ClosureMachineModel", "size", "[I", true)
  | 3 => ("ClosureMachineModel", "loose", "[I", true)
  | 4 => ("ClosureMachineModel", "terms", "I", false)
  | 5 => ("ClosureMachineModel", "nodes", "I", false)
  | 6 => ("ClosureMachineModel", "sort", "[I", true)
  | 7 => ("ClosureMachineModel", "value", "[I", true)
  | 8 => ("ClosureMachineModel", "type", "[I", true)
  | 9 => ("ClosureMachineModel", "many", "[I", true)
  | 10 => ("ClosureMachineModel", "family", "[I", true)
  | 11 => ("ClosureMachineModel", "parameters", "[I", true)
  | 12 => ("ClosureMachineModel", "indices", "[I", true)
  | 13 => ("ClosureMachineModel", "constructors", "[I", true)
  | 14 => ("ClosureMachineModel", "globals", "I", false)
  | 15 => ("ClosureMachineModel", "recOf", "[I", false)
  | 16 => ("ClosureMachineModel", "recAt", "[I", false)
  | 17 => ("ClosureMachineModel", "recType", "[I", false)
  | 18 => ("ClosureMachineModel", "recYs", "[I", false)
  | 19 => ("ClosureMachineModel", "recs", "I", false)
  | 20 => ("ClosureMachineModel", "told", "Z", false)
  | 21 => ("ClosureMachineModel", "headKind", "I", false)
  | 22 => ("ClosureMachineModel", "headNumber", "I", false)
  | 23 => ("ClosureMachineModel", "headArgs", "I", false)
  | 24 => ("ClosureMachineModel", "lastCost", "I", false)
  | 25 => ("ClosureMachineModel", "eKind", "[I", false)
  | 26 => ("ClosureMachineModel", "eTerm", "[I", false)
  | 27 => ("ClosureMachineModel", "eEnv", "[I", false)
  | 28 => ("ClosureMachineModel", "eNext", "[I", false)
  | 29 => ("ClosureMachineModel", "envs", "I", false)
  | 30 => ("ClosureMachineModel", "aTerm", "[I", false)
  | 31 => ("ClosureMachineModel", "aEnv", "[I", false)
  | 32 => ("ClosureMachineModel", "aNext", "[I", false)
  | 33 => ("ClosureMachineModel", "args", "I", false)
  | 34 => ("ClosureMachineModel", "vKind", "[I", false)
  | 35 => ("ClosureMachineModel", "vTerm", "[I", false)
  | 36 => ("ClosureMachineModel", "vEnv", "[I", false)
  | 37 => ("ClosureMachineModel", "vArgs", "[I", false)
  | 38 => ("ClosureMachineModel", "values", "I", false)
  | 39 => ("ClosureMachineModel", "waiting", "[I", false)
  | 40 => ("ClosureMachineModel", "top", "I", false)
  | 41 => ("ClosureMachineModel", "tasks", "[I", false)
  | 42 => ("ClosureMachineModel", "task", "I", false)
  | 43 => ("ClosureMachineModel", "cost", "I", false)
  | 44 => ("ClosureMachineModel", "fuel", "I", false)
  | 45 => ("ClosureMachineModel", "t", "I", false)
  | 46 => ("ClosureMachineModel", "e", "I", false)
  | _ => ("ClosureMachineModel", "list", "I", false)
def yc_9 : Nat → FieldType := fun k => match k with
  | 0 => (.object "ClosureMachineModel$Rows")
  | 1 => (.array .int)
  | 2 => (.array .int)
  | 3 => (.array .int)
  | 4 => .int
  | 5 => .int
  | 6 => (.array .int)
  | 7 => (.array .int)
  | 8 => (.array .int)
  | 9 => (.array .int)
  | 10 => (.array .int)
  | 11 => (.array .int)
  | 12 => (.array .int)
  | 13 => (.array .int)
  | 14 => .int
  | 15 => (.array .int)
  | 16 => (.array .int)
  | 17 => (.array .int)
  | 18 => (.array .int)
  | 19 => .int
  | 20 => .boolean
  | 21 => .int
  | 22 => .int
  | 23 => .int
  | 24 => .int
  | 25 => (.array .int)
  | 26 => (.array .int)
  | 27 => (.array .int)
  | 28 => (.array .int)
  | 29 => .int
  | 30 => (.array .int)
  | 31 => (.array .int)
  | 32 => (.array .int)
  | 33 => .int
  | 34 => (.array .int)
  | 35 => (.array .int)
  | 36 => (.array .int)
  | 37 => (.array .int)
  | 38 => .int
  | 39 => (.array .int)
  | 40 => .int
  | 41 => (.array .int)
  | 42 => .int
  | 43 => .int
  | 44 => .int
  | 45 => .int
  | 46 => .int
  | _ => .int
theorem nc_9 : ∀ a, a < 48 → ∀ b, b < 48 → a ≠ b → (tc_9 a).2.1 ≠ (tc_9 b).2.1 := by decide +kernel
theorem yk_9 : ∀ k, k < 48 → parseFieldDescriptor (tc_9 k).2.2.1 = some (yc_9 k) := by decide +kernel
abbrev vwCl : List vw_C := [(rc_0, tc_0, 3), (rc_1, tc_1, 4), (rc_2, tc_2, 2), (rc_3, tc_3, 1), (rc_4, tc_4, 11), (rc_5, tc_5, 5), (rc_6, tc_6, 9), (rc_7, tc_7, 9), (rc_8, tc_8, 5), (rc_9, tc_9, 48)]
def zk_all : List Cond := lw_tbl.filter goodWord
theorem zk_in (i : Nat) {w : Cond} (h : tables_1[i]? = some w) (hg : goodWord w = true) : w ∈ zk_all := List.mem_filter.mpr ⟨List.mem_append_right _ (List.mem_of_getElem? h), hg⟩
theorem zk_inS (i : Nat) {q : MethodName × Nat} (h : lw_privs[i]? = some q) (hg : goodWord (Cond.selects q.1.cls q.1 q.1) = true) : Cond.selects q.1.cls q.1 q.1 ∈ zk_all := List.mem_filter.mpr ⟨List.mem_append_left _ (List.mem_map.mpr ⟨q, List.mem_of_getElem? h, rfl⟩), hg⟩
set_option maxRecDepth 20000 in
theorem zc_0 : ∀ w ∈ u_ws rc_0 tc_0 3, w ∈ zk_all := by
  have h : u_ws rc_0 tc_0 3 = [38, 40, 42].filterMap (fun i => tables_1[i]?) := by decide +kernel
  have g : (u_ws rc_0 tc_0 3).all goodWord = true := by decide +kernel
  intro w hw
  have hg := List.all_eq_true.mp g w hw
  rw [h] at hw
  obtain ⟨i, -, hi⟩ := List.mem_filterMap.mp hw
  exact zk_in i hi hg
set_option maxRecDepth 20000 in
theorem zc_1 : ∀ w ∈ u_ws rc_1 tc_1 4, w ∈ zk_all := by
  have h : u_ws rc_1 tc_1 4 = [52, 54, 56, 58].filterMap (fun i => tables_1[i]?) := by decide +kernel
  have g : (u_ws rc_1 tc_1 4).all goodWord = true := by decide +kernel
  intro w hw
  have hg := List.all_eq_true.mp g w hw
  rw [h] at hw
  obtain ⟨i, -, hi⟩ := List.mem_filterMap.mp hw
  exact zk_in i hi hg
set_option maxRecDepth 20000 in
theorem zc_2 : ∀ w ∈ u_ws rc_2 tc_2 2, w ∈ zk_all := by
  have h : u_ws rc_2 tc_2 2 = [71, 73].filterMap (fun i => tables_1[i]?) := by decide +kernel
  have g : (u_ws rc_2 tc_2 2).all goodWord = true := by decide +kernel
  intro w hw
  have hg := List.all_eq_true.mp g w hw
  rw [h] at hw
  obtain ⟨i, -, hi⟩ := List.mem_filterMap.mp hw
  exact zk_in i hi hg
set_option maxRecDepth 20000 in
theorem zc_3 : ∀ w ∈ u_ws rc_3 tc_3 1, w ∈ zk_all := by
  have h : u_ws rc_3 tc_3 1 = [83].filterMap (fun i => tables_1[i]?) := by decide +kernel
  have g : (u_ws rc_3 tc_3 1).all goodWord = true := by decide +kernel
  intro w hw
  have hg := List.all_eq_true.mp g w hw
  rw [h] at hw
  obtain ⟨i, -, hi⟩ := List.mem_filterMap.mp hw
  exact zk_in i hi hg
set_option maxRecDepth 20000 in
theorem zc_4 : ∀ w ∈ u_ws rc_4 tc_4 11, w ∈ zk_all := by
  have h : u_ws rc_4 tc_4 11 = [112, 114, 116, 118, 120, 122, 124, 126, 128, 130, 132].filterMap (fun i => tables_1[i]?) := by decide +kernel
  have g : (u_ws rc_4 tc_4 11).all goodWord = true := by decide +kernel
  intro w hw
  have hg := List.all_eq_true.mp g w hw
  rw [h] at hw
  obtain ⟨i, -, hi⟩ := List.mem_filterMap.mp hw
  exact zk_in i hi hg
set_option maxRecDepth 20000 in
theorem zc_5 : ∀ w ∈ u_ws rc_5 tc_5 5, w ∈ zk_all := by
  have h : u_ws rc_5 tc_5 5 = [149, 151, 153, 155, 157].filterMap (fun i => tables_1[i]?) := by decide +kernel
  have g : (u_ws rc_5 tc_5 5).all goodWord = true := by decide +kernel
  intro w hw
  have hg := List.all_eq_true.mp g w hw
  rw [h] at hw
  obtain ⟨i, -, hi⟩ := List.mem_filterMap.mp hw
  exact zk_in i hi hg
set_option maxRecDepth 20000 in
theorem zc_6 : ∀ w ∈ u_ws rc_6 tc_6 9, w ∈ zk_all := by
  have h : u_ws rc_6 tc_6 9 = [169, 171, 173, 175, 177, 179, 181, 183, 185].filterMap (fun i => tables_1[i]?) := by decide +kernel
  have g : (u_ws rc_6 tc_6 9).all goodWord = true := by decide +kernel
  intro w hw
  have hg := List.all_eq_true.mp g w hw
  rw [h] at hw
  obtain ⟨i, -, hi⟩ := List.mem_filterMap.mp hw
  exact zk_in i hi hg
set_option maxRecDepth 20000 in
theorem zc_7 : ∀ w ∈ u_ws rc_7 tc_7 9, w ∈ zk_all := by
  have h : u_ws rc_7 tc_7 9 = [345, 347, 349, 351, 353, 355, 357, 359, 361].filterMap (fun i => tables_1[i]?) := by decide +kernel
  have g : (u_ws rc_7 tc_7 9).all goodWord = true := by decide +kernel
  intro w hw
  have hg := List.all_eq_true.mp g w hw
  rw [h] at hw
  obtain ⟨i, -, hi⟩ := List.mem_filterMap.mp hw
  exact zk_in i hi hg
set_option maxRecDepth 20000 in
theorem zc_8 : ∀ w ∈ u_ws rc_8 tc_8 5, w ∈ zk_all := by
  have h : u_ws rc_8 tc_8 5 = [671, 673, 675, 677, 679].filterMap (fun i => tables_1[i]?) := by decide +kernel
  have g : (u_ws rc_8 tc_8 5).all goodWord = true := by decide +kernel
  intro w hw
  have hg := List.all_eq_true.mp g w hw
  rw [h] at hw
  obtain ⟨i, -, hi⟩ := List.mem_filterMap.mp hw
  exact zk_in i hi hg
set_option maxRecDepth 20000 in
theorem zc_9 : ∀ w ∈ u_ws rc_9 tc_9 48, w ∈ zk_all := by
  have h : u_ws rc_9 tc_9 48 = [738, 740, 742, 744, 746, 748, 750, 752, 754, 756, 758, 760, 762, 764, 766, 768, 770, 772, 774, 776, 778, 780, 782, 784, 786, 788, 790, 792, 794, 796, 798, 800, 802, 804, 806, 808, 810, 812, 814, 816, 818, 820, 822, 824, 826, 828, 830, 832].filterMap (fun i => tables_1[i]?) := by decide +kernel
  have g : (u_ws rc_9 tc_9 48).all goodWord = true := by decide +kernel
  intro w hw
  have hg := List.all_eq_true.mp g w hw
  rw [h] at hw
  obtain ⟨i, -, hi⟩ := List.mem_filterMap.mp hw
  exact zk_in i hi hg
theorem zk_cls_ok : ∀ (ci : Nat) (C : String) (T : u_T) (N : Nat), vwCl[ci]? = some (C, T, N) → (∀ w ∈ u_ws C T N, w ∈ zk_all) ∧ ∃ ty : Nat → FieldType, (∀ k, k < N → parseFieldDescriptor (T k).2.2.1 = some (ty k)) ∧ ∀ a, a < N → ∀ b, b < N → a ≠ b → (T a).2.1 ≠ (T b).2.1 := by
  intro ci C T N h
  match ci, h with
  | 0, h => cases h; exact ⟨zc_0, yc_0, yk_0, nc_0⟩
  | 1, h => cases h; exact ⟨zc_1, yc_1, yk_1, nc_1⟩
  | 2, h => cases h; exact ⟨zc_2, yc_2, yk_2, nc_2⟩
  | 3, h => cases h; exact ⟨zc_3, yc_3, yk_3, nc_3⟩
  | 4, h => cases h; exact ⟨zc_4, yc_4, yk_4, nc_4⟩
  | 5, h => cases h; exact ⟨zc_5, yc_5, yk_5, nc_5⟩
  | 6, h => cases h; exact ⟨zc_6, yc_6, yk_6, nc_6⟩
  | 7, h => cases h; exact ⟨zc_7, yc_7, yk_7, nc_7⟩
  | 8, h => cases h; exact ⟨zc_8, yc_8, yk_8, nc_8⟩
  | 9, h => cases h; exact ⟨zc_9, yc_9, yk_9, nc_9⟩
  | k + 10, h => simp [vwCl] at h
/-- the array types: ints; then those of references -/
def zk_ty : List FieldType := [.int, .object "ClosureMachine$Global"]
def zk_nw : List Cond := [.methodLinkNest "ClosureMachine" 9 ⟨"ClosureMachine$Terms", "<init>", "()V"⟩ "ClosureMachine", .methodLinkNest "ClosureMachine" 18 ⟨"ClosureMachine$Globals", "<init>", "()V"⟩ "ClosureMachine", .arrayOver (.object "ClosureMachine$Global"), .methodLinkNest "ClosureMachineModel" 9 ⟨"ClosureMachineModel$Rows", "<init>", "()V"⟩ "ClosureMachineModel", .fieldLinkNest "ClosureMachineModel" 152 "ClosureMachineModel$Rows" "kind" "[I" "ClosureMachineModel", .fieldLinkNest "ClosureMachineModel" 155 "ClosureMachineModel$Rows" "value" "[I" "ClosureMachineModel", .fieldLinkNest "ClosureMachineModel" 156 "ClosureMachineModel$Rows" "sort" "[I" "ClosureMachineModel", .fieldLinkNest "ClosureMachineModel" 133 "ClosureMachineModel$Rows" "length" "[I" "ClosureMachineModel", .fieldLinkNest "ClosureMachineModel" 136 "ClosureMachineModel$Rows" "count" "I" "ClosureMachineModel", .methodLinkNest "ClosureMachineModel" 172 ⟨"ClosureMachineModel$Rows", "wide", "([I)[I"⟩ "ClosureMachineModel"]
set_option maxRecDepth 20000 in
theorem zk_nw_in : ∀ w ∈ zk_nw, w ∈ lw_tbl := by
  have h : zk_nw = [24, 63, 68, 657, 662, 664, 666, 668, 670, 920].filterMap (fun i => tables_1[i]?) := by decide +kernel
  intro w hw
  rw [h] at hw
  obtain ⟨i, -, hi⟩ := List.mem_filterMap.mp hw
  exact List.mem_append_right _ (List.mem_of_getElem? hi)
end
section
/-! THE PURE MEMORY AND ITS JUDGEMENT. A cell is an array of ints (length, contents), an array of references (its place among the array types, length, contents) or an object (its class's place, its fields).
A memory: the next address, the slots made so far, the cells. A world Z: the launch, the array classes, the classes' numbers, the first own address, the script's address, its length, its ints. -/
abbrev zk_E : Type := (Nat × (Nat → Int32)) ⊕ ((Nat × Nat × (Nat → Option Nat)) ⊕ (Nat × List Value))
abbrev zk_M : Type := Nat × Nat × (Nat → Option zk_E)
abbrev zk_Z : Type := Launch × (Nat → ClassId) × va_G × Nat × Nat × Nat × (Nat → Int32)
/-- a method: its name, its code, its locals, what it returns; the frames and the words of locals that it asks for below itself -/
abbrev zk_Mt : Type := MethodName × ByteArray × Nat × Option FieldType × Nat × Nat
def zk_tr (Z : zk_Z) (e : zk_E) : va_E := match e with
  | .inl a => .inl (Z.2.1 0, a.1, .inl a.2)
  | .inr (.inl a) => .inl (Z.2.1 a.1, a.2.1, .inr (.inr (.inr (.inr a.2.2))))
  | .inr (.inr o) => .inr o
/-- the heap holds the memory -/
def zk_H (Z : zk_Z) (M : zk_M) (H : Heap) : Prop := H.size = M.1 ∧ ∀ (a : Nat) (e : zk_E), M.2.2 a = some e → Z.2.2.2.1 ≤ a ∧ va_at Z.2.2.1 vwCl (a, zk_tr Z e) H
def zk_A (Z : zk_Z) : Nat → Prop := fun q => Z.2.2.2.1 ≤ q
def zk_tys (Z : zk_Z) : List (ClassId × FieldType) := (List.range zk_ty.length).map fun i => (Z.2.1 i, zk_ty.getD i .int)
theorem zk_tys_at {Z : zk_Z} {i : Nat} {t : FieldType} (h : zk_ty[i]? = some t) : (zk_tys Z)[i]? = some (Z.2.1 i, t) := by
  have hl := (List.getElem?_eq_some_iff.mp h).1
  have e : zk_ty.getD i .int = t := by rw [List.getD_eq_getElem?_getD, h]; rfl
  rw [zk_tys, List.getElem?_map, List.getElem?_range hl]
  show some (Z.2.1 i, zk_ty.getD i .int) = _
  rw [e]
def zk_ws (μ : zk_Mt) : List Cond := Cond.code μ.1 μ.2.1 μ.2.2.1 μ.2.2.2.1 :: zk_all
/-- what holds of the machine while a method of ours runs -/
def zk_Ctx (Z : zk_Z) (μ : zk_Mt) (p : Program) (s : State) (m : MethodId) (args : Array Value) (meth : Method) (c : Code) : Prop :=
  p.tables.exec = Jvm.exec ∧ c.code = μ.2.1 ∧ meth.sig.returnType = μ.2.2.2.1 ∧ c.maxLocals = μ.2.2.1 ∧ s.vm.findClass μ.1.cls = some m.cls ∧ (∀ w ∈ zk_all, w.before args s = true) ∧ meth.locks = false ∧ (μ.1.name = "<init>" → meth.name = "<init>") ∧ va_K Z.2.2.1 vwCl (zk_tys Z) s ∧ Z.2.2.2.1 ≤ s.heap.size ∧ va_X Z.2.2.2.2.1 Z.2.2.2.2.2.1 Z.2.2.2.2.2.2 s s.heap ∧ Z.2.2.2.2.1 < Z.2.2.2.1 ∧ ∀ w ∈ zk_nw, va_Nw w s
def zk_Pc (Z : zk_Z) (as : List Value) (M : zk_M) : Array Value → State → Prop := fun v U => v = as.toArray ∧ zk_H Z M U.heap ∧ va_K Z.2.2.1 vwCl (zk_tys Z) U ∧ Z.2.2.2.1 ≤ U.heap.size ∧ va_X Z.2.2.2.2.1 Z.2.2.2.2.2.1 Z.2.2.2.2.2.2 U U.heap ∧ Z.2.2.2.2.1 < Z.2.2.2.1 ∧ ∀ w ∈ zk_nw, va_Nw w U
def zk_Q (Z : zk_Z) (r : Option Value) (M : zk_M) : Array Value → State → Outcome → State → Prop := fun _ st o t => o = .returned r ∧ zk_H Z M t.heap ∧ va_F (zk_A Z) st t
def zk_rm (μ : zk_Mt) (C S : Nat) : Room := { frames := μ.2.2.2.2.1, cells := C, slots := S, locals := μ.2.2.2.2.2 }
/-- the locals: what is listed is held, each of one slot -/
def zk_Lo (ls : Array Slot) (n : Nat) (lo : List (Option Value)) : Prop := ls.size = n ∧ lv_wf ls ∧ ∀ (i : Nat) (v : Value), lo[i]? = some (some v) → v.category = 1 ∧ ls[i]? = some (.val v)
def zk_ll (lo : List (Option Value)) : List (Nat × Value) := (List.range lo.length).filterMap fun j => (lo.getD j none).map fun v => (j, v)
theorem zk_ll_mem {lo : List (Option Value)} {q : Nat × Value} : q ∈ zk_ll lo ↔ lo[q.1]? = some (some q.2) := by
  obtain ⟨j, w⟩ := q
  constructor
  · intro h
    obtain ⟨i, hi, he⟩ := List.mem_filterMap.mp h
    have hl := List.mem_range.mp hi
    rw [List.getD_eq_getElem?_getD, List.getElem?_eq_getElem hl] at he
    cases hx : lo[i] with
    | none => simp [hx] at he
    | some x =>
      simp [hx] at he
      obtain ⟨e1, e2⟩ := he
      subst e1; subst e2
      show lo[i]? = some (some x)
      rw [List.getElem?_eq_getElem hl, hx]
  · intro h
    have h : lo[j]? = some (some w) := h
    refine List.mem_filterMap.mpr ⟨j, List.mem_range.mpr (List.getElem?_eq_some_iff.mp h).1, ?_⟩
    rw [List.getD_eq_getElem?_getD, h]
    rfl
theorem zk_Lo.has {ls : Array Slot} {n : Nat} {lo : List (Option Value)} (h : zk_Lo ls n lo) : lv_has ls n (zk_ll lo) := ⟨h.1, h.2.1, fun q hq => (h.2.2 q.1 q.2 (zk_ll_mem.mp hq)).2⟩
theorem zk_Lo.at {ls : Array Slot} {n : Nat} {lo : List (Option Value)} (h : zk_Lo ls n lo) {i : Nat} {v : Value} (hv : lo[i]? = some (some v)) : ls[i]? = some (.val v) := (h.2.2 i v hv).2
theorem zk_Lo.set {ls ls' : Array Slot} {n i : Nat} {v : Value} {lo : List (Option Value)} (h : zk_Lo ls n lo) (hc : v.category = 1) (h' : lv_has ls' n ((i, v) :: (zk_ll lo).filter (fun q => !(q.1 == i) && !(q.1 + 1 == i && q.2.category == 2)))) : zk_Lo ls' n (lo.set i (some v)) := by
  refine ⟨h'.1, h'.2.1, fun j w hj => ?_⟩
  by_cases hji : j = i
  · subst hji
    have hl : j < lo.length := by
      have := (List.getElem?_eq_some_iff.mp hj).1
      simpa using this
    rw [List.getElem?_set_self hl] at hj
    cases hj
    exact ⟨hc, h'.2.2 (j, v) List.mem_cons_self⟩
  · rw [List.getElem?_set_ne (Ne.symm hji)] at hj
    have hw := (h.2.2 j w hj).1
    refine ⟨hw, h'.2.2 (j, w) (List.mem_cons_of_mem _ (List.mem_filter.mpr ⟨zk_ll_mem.mpr hj, ?_⟩))⟩
    simp [hji, hw]
/-- FROM HERE, WITH THIS MEMORY, THE METHOD RETURNS r, AND THE MEMORY IS THEN M' -/
def zk_X (Z : zk_Z) (μ : zk_Mt) (pc : Nat) (lo : List (Option Value)) (st : List Value) (M : zk_M) (r : Option Value) (M' : zk_M) : Prop :=
  M.1 ≤ M'.1 ∧ M.2.1 ≤ M'.2.1 ∧ ∀ (p : Program) (e : Env) (s : State) (m : MethodId) (args : Array Value) (below : List Frame) (meth : Method) (c : Code) (H : Heap) (locs : List Loc) (cells slots C S : Nat) (ls : Array Slot),
    zk_Ctx Z μ p s m args meth c → zk_H Z M H → va_S (zk_A Z) s.heap H locs → zk_Lo ls μ.2.2.1 lo → cells + (M'.1 - M.1) ≤ C → slots + (M'.2.1 - M.2.1) ≤ S →
    W p Z.1 e (zk_rm μ C S) s m args below meth c H locs cells slots (MQ below (zk_Q Z r M') args s C S (zk_A Z)) (F0 m pc ls st)
def zk_P (Z : zk_Z) (μ : zk_Mt) (pc : Nat) (lo : List (Option Value)) (st : List Value) (M : zk_M) (R : Option Value → zk_M → Prop) : Prop := ∃ (r : Option Value) (M' : zk_M), R r M' ∧ zk_X Z μ pc lo st M r M'
/-- A CONTRACT: called with these, with this memory, it returns r, and the memory is then M' -/
def zk_C (Z : zk_Z) (μ : zk_Mt) (as : List Value) (M : zk_M) (r : Option Value) (M' : zk_M) : Prop :=
  M.1 ≤ M'.1 ∧ M.2.1 ≤ M'.2.1 ∧ Met Z.1 μ.1 (zk_ws μ) (zk_rm μ (M'.1 - M.1) (M'.2.1 - M.2.1)) (zk_Pc Z as M) (zk_Q Z r M') (M'.1 - M.1) (M'.2.1 - M.2.1) (zk_A Z)
def zk_K (Z : zk_Z) (μ : zk_Mt) (as : List Value) (M : zk_M) (R : Option Value → zk_M → Prop) : Prop := ∃ (r : Option Value) (M' : zk_M), R r M' ∧ zk_C Z μ as M r M'
theorem zk_P.mono {Z : zk_Z} {μ : zk_Mt} {pc : Nat} {lo : List (Option Value)} {st : List Value} {M : zk_M} {R R' : Option Value → zk_M → Prop} (h : zk_P Z μ pc lo st M R) (hr : ∀ r M', R r M' → R' r M') : zk_P Z μ pc lo st M R' := by
  obtain ⟨r, M', h1, h2⟩ := h
  exact ⟨r, M', hr r M' h1, h2⟩
theorem zk_sl {as : List Value} (hc : ∀ v ∈ as, v.category = 1) : (lg_sl as).length = as.length := by
  induction as with
  | nil => rfl
  | cons v as ih =>
    have hv : ¬ v.category = 2 := by rw [hc v List.mem_cons_self]; decide
    have e : lg_sl (v :: as) = Slot.val v :: lg_sl as := by simp [lg_sl, hv]
    rw [e, List.length_cons, List.length_cons, ih fun w hw => hc w (List.mem_cons_of_mem _ hw)]
theorem zk_args {as : List Value} (hc : ∀ v ∈ as, v.category = 1) : ∀ (k i : Nat) (v : Value), as[i]? = some v → (k + i, v) ∈ lv_args k as := by
  induction as with
  | nil => intro k i v h; simp at h
  | cons w as ih =>
    intro k i v h
    have hw : ¬ w.category = 2 := by rw [hc w List.mem_cons_self]; decide
    cases i with
    | zero =>
      rw [List.getElem?_cons_zero] at h
      cases h
      exact List.mem_cons_self
    | succ i =>
      rw [List.getElem?_cons_succ] at h
      have := ih (fun w hw => hc w (List.mem_cons_of_mem _ hw)) (k + 1) i v h
      rw [lv_args, if_neg hw]
      refine List.mem_cons_of_mem _ ?_
      rw [show k + (i + 1) = k + 1 + i by omega]
      exact this
theorem zk_enter {Z : zk_Z} {μ : zk_Mt} {as : List Value} {M : zk_M} {r : Option Value} {M' : zk_M} (hp : plainName μ.1.cls = true) (hn : as.length ≤ μ.2.2.1) (hc : ∀ v ∈ as, v.category = 1) (h : zk_X Z μ 0 (as.map some ++ List.replicate (μ.2.2.1 - as.length) none) [] M r M') : zk_C Z μ as M r M' := by
  refine ⟨h.1, h.2.1, Met.ofW (cc := μ.2.1) (maxL := μ.2.2.1) (ret := μ.2.2.2.1) hp rfl ?_⟩
  intro p e s m args below meth c s₁ B hml hv
  obtain ⟨rfl, hH, hK, hbs, hX, hbb, hnw⟩ := hv
  have ctx : zk_Ctx Z μ p s m as.toArray meth c := ⟨B.exec, B.bytes, B.returns, hml, findClass_of_methodNamed B.named, (fun w hw => atoms_spec (ws := zk_ws μ) B.pre w (List.mem_cons_of_mem _ hw)), B.notSynchronized, (fun h => (name_of_methodNamed B.named B.method).1.trans h), hK, hbs, hX, hbb, hnw⟩
  have hl := lv_entry as (n := μ.2.2.1) (by rw [zk_sl hc]; exact hn)
  rw [lg_entry_eq]
  refine h.2.2 p e s m as.toArray below meth c s.heap [] 0 0 _ _ _ ctx hH va_S.rf ⟨hl.1, hl.2.1, fun i v hi => ?_⟩ (by simp) (by simp)
  by_cases hia : i < as.length
  · rw [List.getElem?_append_left (by simpa using hia), List.getElem?_map] at hi
    cases hx : as[i]? with
    | none => rw [hx] at hi; cases hi
    | some w =>
      rw [hx] at hi
      cases hi
      have hm := zk_args hc 0 i v hx
      rw [Nat.zero_add] at hm
      exact ⟨hc v (List.mem_of_getElem? hx), hl.2.2 _ hm⟩
  · rw [List.getElem?_append_right (by simpa using hia)] at hi
    have := List.mem_of_getElem? hi
    have := (List.mem_replicate.mp this).2
    cases this
theorem zk_enterK {Z : zk_Z} {μ : zk_Mt} {as : List Value} {M : zk_M} {R : Option Value → zk_M → Prop} (hp : plainName μ.1.cls = true) (hn : as.length ≤ μ.2.2.1) (hc : ∀ v ∈ as, v.category = 1) (h : zk_P Z μ 0 (as.map some ++ List.replicate (μ.2.2.1 - as.length) none) [] M R) : zk_K Z μ as M R := by
  obtain ⟨r, M', h1, h2⟩ := h
  exact ⟨r, M', h1, zk_enter hp hn hc h2⟩
end
section
section ZKR
variable {Z : zk_Z} {μ : zk_Mt} {pc : Nat} {lo : List (Option Value)} {st : List Value} {M : zk_M} {R : Option Value → zk_M → Prop}
/-- a step that leaves the memory as it is -/
theorem zk_lift {pc' : Nat} {lo' : List (Option Value)} {st' : List Value}
    (hstep : ∀ (p : Program) (e : Env) (s : State) (m : MethodId) (args : Array Value) (below : List Frame) (meth : Method) (c : Code) (H : Heap) (locs : List Loc) (cells slots C S : Nat) (ls : Array Slot) (Q : State → Prop),
      zk_Ctx Z μ p s m args meth c → zk_H Z M H → va_S (zk_A Z) s.heap H locs → zk_Lo ls μ.2.2.1 lo → cells ≤ C → slots ≤ S →
      (∀ ls' : Array Slot, zk_Lo ls' μ.2.2.1 lo' → W p Z.1 e (zk_rm μ C S) s m args below meth c H locs cells slots Q (F0 m pc' ls' st')) → W p Z.1 e (zk_rm μ C S) s m args below meth c H locs cells slots Q (F0 m pc ls st))
    (k : zk_P Z μ pc' lo' st' M R) : zk_P Z μ pc lo st M R := by
  obtain ⟨r, M', hR, h1, h2, h⟩ := k
  exact ⟨r, M', hR, h1, h2, fun p e s m args below meth c H locs cells slots C S ls cx hH hS hl hc hs => hstep p e s m args below meth c H locs cells slots C S ls _ cx hH hS hl (by omega) (by omega) fun ls' hl' => h p e s m args below meth c H locs cells slots C S ls' cx hH hS hl' hc hs⟩
theorem zk_iconst {n : Int} {v : Int32} (q : Nat) (hd : decode μ.2.1 pc = .ok (.iconst n, 1)) (hv : Int32.ofInt n = v) (hq : pc + 1 = q) (k : zk_P Z μ q lo (.int v :: st) M R) : zk_P Z μ pc lo st M R := by
  subst hq
  exact zk_lift (fun p e s m args below meth c H locs cells slots C S ls Q cx hH hS hl hcc hss kk => lv_iconst cx.1 cx.2.1 hd hv (kk ls hl)) k
theorem zk_bipush {n : Int} {v : Int32} (q : Nat) (hd : decode μ.2.1 pc = .ok (.bipush n, 2)) (hv : (Int8.ofInt n).toInt32 = v) (hq : pc + 2 = q) (k : zk_P Z μ q lo (.int v :: st) M R) : zk_P Z μ pc lo st M R := by
  subst hq
  exact zk_lift (fun p e s m args below meth c H locs cells slots C S ls Q cx hH hS hl hcc hss kk => lv_bipush cx.1 cx.2.1 hd hv (kk ls hl)) k
theorem zk_sipush {n : Int} {v : Int32} (q : Nat) (hd : decode μ.2.1 pc = .ok (.sipush n, 3)) (hv : (Int16.ofInt n).toInt32 = v) (hq : pc + 3 = q) (k : zk_P Z μ q lo (.int v :: st) M R) : zk_P Z μ pc lo st M R := by
  subst hq
  exact zk_lift (fun p e s m args below meth c H locs cells slots C S ls Q cx hH hS hl hcc hss kk => lv_sipush cx.1 cx.2.1 hd hv (kk ls hl)) k
theorem zk_ldc {n : Nat} {v : Int32} (q : Nat) (hd : decode μ.2.1 pc = .ok (.ldc n, 2)) (hv : Cond.constant μ.1.cls n v ∈ zk_all) (hq : pc + 2 = q) (k : zk_P Z μ q lo (.int v :: st) M R) : zk_P Z μ pc lo st M R := by
  subst hq
  exact zk_lift (fun p e s m args below meth c H locs cells slots C S ls Q cx hH hS hl hcc hss kk => lv_ldc cx.1 cx.2.1 cx.2.2.2.2.1 (cx.2.2.2.2.2.1 _ hv) hd (kk ls hl)) k
theorem zk_null  (q : Nat) (hd : decode μ.2.1 pc = .ok (.aconst_null, 1)) (hq : pc + 1 = q) (k : zk_P Z μ q lo (.null :: st) M R) : zk_P Z μ pc lo st M R := by
  subst hq
  exact zk_lift (fun p e s m args below meth c H locs cells slots C S ls Q cx hH hS hl hcc hss kk => lv_null cx.1 cx.2.1 hd (kk ls hl)) k
theorem zk_iload {i : Nat} {x : Int32} (q : Nat) (hd : decode μ.2.1 pc = .ok (.iload i, 2)) (hv : lo[i]? = some (some (.int x))) (hq : pc + 2 = q) (k : zk_P Z μ q lo (.int x :: st) M R) : zk_P Z μ pc lo st M R := by
  subst hq
  exact zk_lift (fun p e s m args below meth c H locs cells slots C S ls Q cx hH hS hl hcc hss kk => lv_iload cx.1 cx.2.1 hd (hl.at hv) (kk ls hl)) k
theorem zk_aload {i x : Nat} (q : Nat) (hd : decode μ.2.1 pc = .ok (.aload i, 2)) (hv : lo[i]? = some (some (.ref x))) (hq : pc + 2 = q) (k : zk_P Z μ q lo (.ref x :: st) M R) : zk_P Z μ pc lo st M R := by
  subst hq
  exact zk_lift (fun p e s m args below meth c H locs cells slots C S ls Q cx hH hS hl hcc hss kk => lv_aload cx.1 cx.2.1 hd (hl.at hv) (kk ls hl)) k
theorem zk_aloadN {i : Nat} (q : Nat) (hd : decode μ.2.1 pc = .ok (.aload i, 2)) (hv : lo[i]? = some (some .null)) (hq : pc + 2 = q) (k : zk_P Z μ q lo (.null :: st) M R) : zk_P Z μ pc lo st M R := by
  subst hq
  exact zk_lift (fun p e s m args below meth c H locs cells slots C S ls Q cx hH hS hl hcc hss kk => lv_aloadN cx.1 cx.2.1 hd (hl.at hv) (kk ls hl)) k
theorem zk_iload_0 {x : Int32} (q : Nat) (hd : decode μ.2.1 pc = .ok (.iload_n 0, 1)) (hv : lo[0]? = some (some (.int x))) (hq : pc + 1 = q) (k : zk_P Z μ q lo (.int x :: st) M R) : zk_P Z μ pc lo st M R := by
  subst hq
  exact zk_lift (fun p e s m args below meth c H locs cells slots C S ls Q cx hH hS hl hcc hss kk => lv_iload_n cx.1 cx.2.1 hd rfl (hl.at hv) (kk ls hl)) k
theorem zk_iload_1 {x : Int32} (q : Nat) (hd : decode μ.2.1 pc = .ok (.iload_n 1, 1)) (hv : lo[1]? = some (some (.int x))) (hq : pc + 1 = q) (k : zk_P Z μ q lo (.int x :: st) M R) : zk_P Z μ pc lo st M R := by
  subst hq
  exact zk_lift (fun p e s m args below meth c H locs cells slots C S ls Q cx hH hS hl hcc hss kk => lv_iload_n cx.1 cx.2.1 hd rfl (hl.at hv) (kk ls hl)) k
theorem zk_iload_2 {x : Int32} (q : Nat) (hd : decode μ.2.1 pc = .ok (.iload_n 2, 1)) (hv : lo[2]? = some (some (.int x))) (hq : pc + 1 = q) (k : zk_P Z μ q lo (.int x :: st) M R) : zk_P Z μ pc lo st M R := by
  subst hq
  exact zk_lift (fun p e s m args below meth c H locs cells slots C S ls Q cx hH hS hl hcc hss kk => lv_iload_n cx.1 cx.2.1 hd rfl (hl.at hv) (kk ls hl)) k
theorem zk_iload_3 {x : Int32} (q : Nat) (hd : decode μ.2.1 pc = .ok (.iload_n 3, 1)) (hv : lo[3]? = some (some (.int x))) (hq : pc + 1 = q) (k : zk_P Z μ q lo (.int x :: st) M R) : zk_P Z μ pc lo st M R := by
  subst hq
  exact zk_lift (fun p e s m args below meth c H locs cells slots C S ls Q cx hH hS hl hcc hss kk => lv_iload_n cx.1 cx.2.1 hd rfl (hl.at hv) (kk ls hl)) k
theorem zk_aload_0 {x : Nat} (q : Nat) (hd : decode μ.2.1 pc = .ok (.aload_n 0, 1)) (hv : lo[0]? = some (some (.ref x))) (hq : pc + 1 = q) (k : zk_P Z μ q lo (.ref x :: st) M R) : zk_P Z μ pc lo st M R := by
  subst hq
  exact zk_lift (fun p e s m args below meth c H locs cells slots C S ls Q cx hH hS hl hcc hss kk => lv_aload_n cx.1 cx.2.1 hd rfl (hl.at hv) (kk ls hl)) k
theorem zk_aload_1 {x : Nat} (q : Nat) (hd : decode μ.2.1 pc = .ok (.aload_n 1, 1)) (hv : lo[1]? = some (some (.ref x))) (hq : pc + 1 = q) (k : zk_P Z μ q lo (.ref x :: st) M R) : zk_P Z μ pc lo st M R := by
  subst hq
  exact zk_lift (fun p e s m args below meth c H locs cells slots C S ls Q cx hH hS hl hcc hss kk => lv_aload_n cx.1 cx.2.1 hd rfl (hl.at hv) (kk ls hl)) k
theorem zk_aload_2 {x : Nat} (q : Nat) (hd : decode μ.2.1 pc = .ok (.aload_n 2, 1)) (hv : lo[2]? = some (some (.ref x))) (hq : pc + 1 = q) (k : zk_P Z μ q lo (.ref x :: st) M R) : zk_P Z μ pc lo st M R := by
  subst hq
  exact zk_lift (fun p e s m args below meth c H locs cells slots C S ls Q cx hH hS hl hcc hss kk => lv_aload_n cx.1 cx.2.1 hd rfl (hl.at hv) (kk ls hl)) k
theorem zk_aload_3 {x : Nat} (q : Nat) (hd : decode μ.2.1 pc = .ok (.aload_n 3, 1)) (hv : lo[3]? = some (some (.ref x))) (hq : pc + 1 = q) (k : zk_P Z μ q lo (.ref x :: st) M R) : zk_P Z μ pc lo st M R := by
  subst hq
  exact zk_lift (fun p e s m args below meth c H locs cells slots C S ls Q cx hH hS hl hcc hss kk => lv_aload_n cx.1 cx.2.1 hd rfl (hl.at hv) (kk ls hl)) k
theorem zk_aloadN_0  (q : Nat) (hd : decode μ.2.1 pc = .ok (.aload_n 0, 1)) (hv : lo[0]? = some (some .null)) (hq : pc + 1 = q) (k : zk_P Z μ q lo (.null :: st) M R) : zk_P Z μ pc lo st M R := by
  subst hq
  exact zk_lift (fun p e s m args below meth c H locs cells slots C S ls Q cx hH hS hl hcc hss kk => lv_aload_nN cx.1 cx.2.1 hd rfl (hl.at hv) (kk ls hl)) k
theorem zk_aloadN_1  (q : Nat) (hd : decode μ.2.1 pc = .ok (.aload_n 1, 1)) (hv : lo[1]? = some (some .null)) (hq : pc + 1 = q) (k : zk_P Z μ q lo (.null :: st) M R) : zk_P Z μ pc lo st M R := by
  subst hq
  exact zk_lift (fun p e s m args below meth c H locs cells slots C S ls Q cx hH hS hl hcc hss kk => lv_aload_nN cx.1 cx.2.1 hd rfl (hl.at hv) (kk ls hl)) k
theorem zk_aloadN_2  (q : Nat) (hd : decode μ.2.1 pc = .ok (.aload_n 2, 1)) (hv : lo[2]? = some (some .null)) (hq : pc + 1 = q) (k : zk_P Z μ q lo (.null :: st) M R) : zk_P Z μ pc lo st M R := by
  subst hq
  exact zk_lift (fun p e s m args below meth c H locs cells slots C S ls Q cx hH hS hl hcc hss kk => lv_aload_nN cx.1 cx.2.1 hd rfl (hl.at hv) (kk ls hl)) k
theorem zk_aloadN_3  (q : Nat) (hd : decode μ.2.1 pc = .ok (.aload_n 3, 1)) (hv : lo[3]? = some (some .null)) (hq : pc + 1 = q) (k : zk_P Z μ q lo (.null :: st) M R) : zk_P Z μ pc lo st M R := by
  subst hq
  exact zk_lift (fun p e s m args below meth c H locs cells slots C S ls Q cx hH hS hl hcc hss kk => lv_aload_nN cx.1 cx.2.1 hd rfl (hl.at hv) (kk ls hl)) k
theorem zk_iadd {x y : Int32} (q : Nat) (hd : decode μ.2.1 pc = .ok (.iadd, 1)) (hq : pc + 1 = q) (k : zk_P Z μ q lo (.int (x + y) :: st) M R) : zk_P Z μ pc lo (.int y :: .int x :: st) M R := by
  subst hq
  exact zk_lift (fun p e s m args below meth c H locs cells slots C S ls Q cx hH hS hl hcc hss kk => lv_iadd cx.1 cx.2.1 hd (kk ls hl)) k
theorem zk_isub {x y : Int32} (q : Nat) (hd : decode μ.2.1 pc = .ok (.isub, 1)) (hq : pc + 1 = q) (k : zk_P Z μ q lo (.int (x - y) :: st) M R) : zk_P Z μ pc lo (.int y :: .int x :: st) M R := by
  subst hq
  exact zk_lift (fun p e s m args below meth c H locs cells slots C S ls Q cx hH hS hl hcc hss kk => lv_isub cx.1 cx.2.1 hd (kk ls hl)) k
theorem zk_imul {x y : Int32} (q : Nat) (hd : decode μ.2.1 pc = .ok (.imul, 1)) (hq : pc + 1 = q) (k : zk_P Z μ q lo (.int (x * y) :: st) M R) : zk_P Z μ pc lo (.int y :: .int x :: st) M R := by
  subst hq
  exact zk_lift (fun p e s m args below meth c H locs cells slots C S ls Q cx hH hS hl hcc hss kk => lv_imul cx.1 cx.2.1 hd (kk ls hl)) k
theorem zk_iand {x y : Int32} (q : Nat) (hd : decode μ.2.1 pc = .ok (.iand, 1)) (hq : pc + 1 = q) (k : zk_P Z μ q lo (.int (x &&& y) :: st) M R) : zk_P Z μ pc lo (.int y :: .int x :: st) M R := by
  subst hq
  exact zk_lift (fun p e s m args below meth c H locs cells slots C S ls Q cx hH hS hl hcc hss kk => lv_iand cx.1 cx.2.1 hd (kk ls hl)) k
theorem zk_ior {x y : Int32} (q : Nat) (hd : decode μ.2.1 pc = .ok (.ior, 1)) (hq : pc + 1 = q) (k : zk_P Z μ q lo (.int (x ||| y) :: st) M R) : zk_P Z μ pc lo (.int y :: .int x :: st) M R := by
  subst hq
  exact zk_lift (fun p e s m args below meth c H locs cells slots C S ls Q cx hH hS hl hcc hss kk => lv_ior cx.1 cx.2.1 hd (kk ls hl)) k
theorem zk_ixor {x y : Int32} (q : Nat) (hd : decode μ.2.1 pc = .ok (.ixor, 1)) (hq : pc + 1 = q) (k : zk_P Z μ q lo (.int (x ^^^ y) :: st) M R) : zk_P Z μ pc lo (.int y :: .int x :: st) M R := by
  subst hq
  exact zk_lift (fun p e s m args below meth c H locs cells slots C S ls Q cx hH hS hl hcc hss kk => lv_ixor cx.1 cx.2.1 hd (kk ls hl)) k
theorem zk_ineg {x : Int32} (q : Nat) (hd : decode μ.2.1 pc = .ok (.ineg, 1)) (hq : pc + 1 = q) (k : zk_P Z μ q lo (.int (-x) :: st) M R) : zk_P Z μ pc lo (.int x :: st) M R := by
  subst hq
  exact zk_lift (fun p e s m args below meth c H locs cells slots C S ls Q cx hH hS hl hcc hss kk => lv_ineg cx.1 cx.2.1 hd (kk ls hl)) k
theorem zk_dup {v : Value} (q : Nat) (hd : decode μ.2.1 pc = .ok (.dup, 1)) (hc : v.category = 1) (hq : pc + 1 = q) (k : zk_P Z μ q lo (v :: v :: st) M R) : zk_P Z μ pc lo (v :: st) M R := by
  subst hq
  exact zk_lift (fun p e s m args below meth c H locs cells slots C S ls Q cx hH hS hl hcc hss kk => lv_dup cx.1 cx.2.1 hd hc (kk ls hl)) k
theorem zk_pop {v : Value} (q : Nat) (hd : decode μ.2.1 pc = .ok (.pop, 1)) (hc : v.category = 1) (hq : pc + 1 = q) (k : zk_P Z μ q lo st M R) : zk_P Z μ pc lo (v :: st) M R := by
  subst hq
  exact zk_lift (fun p e s m args below meth c H locs cells slots C S ls Q cx hH hS hl hcc hss kk => lv_pop cx.1 cx.2.1 hd hc (kk ls hl)) k
theorem zk_dup_x1 {v w : Value} (q : Nat) (hd : decode μ.2.1 pc = .ok (.dup_x1, 1)) (hc : v.category = 1) (hc2 : w.category = 1) (hq : pc + 1 = q) (k : zk_P Z μ q lo (v :: w :: v :: st) M R) : zk_P Z μ pc lo (v :: w :: st) M R := by
  subst hq
  exact zk_lift (fun p e s m args below meth c H locs cells slots C S ls Q cx hH hS hl hcc hss kk => lv_dup_x1 cx.1 cx.2.1 hd hc hc2 (kk ls hl)) k
theorem zk_dup_x2 {v w x : Value} (q : Nat) (hd : decode μ.2.1 pc = .ok (.dup_x2, 1)) (hc : v.category = 1) (hc2 : w.category = 1) (hc3 : x.category = 1) (hq : pc + 1 = q) (k : zk_P Z μ q lo (v :: w :: x :: v :: st) M R) : zk_P Z μ pc lo (v :: w :: x :: st) M R := by
  subst hq
  exact zk_lift (fun p e s m args below meth c H locs cells slots C S ls Q cx hH hS hl hcc hss kk => lv_dup_x2 cx.1 cx.2.1 hd hc hc2 hc3 (kk ls hl)) k
theorem zk_dup2 {v w : Value} (q : Nat) (hd : decode μ.2.1 pc = .ok (.dup2, 1)) (hc : v.category = 1) (hc2 : w.category = 1) (hq : pc + 1 = q) (k : zk_P Z μ q lo (v :: w :: v :: w :: st) M R) : zk_P Z μ pc lo (v :: w :: st) M R := by
  subst hq
  exact zk_lift (fun p e s m args below meth c H locs cells slots C S ls Q cx hH hS hl hcc hss kk => lv_dup2_11 cx.1 cx.2.1 hd hc hc2 (kk ls hl)) k
theorem zk_goto {off : Int} (tgt : Nat) (hd : decode μ.2.1 pc = .ok (.goto off, 3)) (ht : (pc : Int) + off = (tgt : Int)) (k : zk_P Z μ tgt lo st M R) : zk_P Z μ pc lo st M R :=
  zk_lift (fun p e s m args below meth c H locs cells slots C S ls Q cx hH hS hl hcc hss kk => lv_goto cx.1 cx.2.1 hd ht (kk ls hl)) k
theorem zk_if_eq {x : Int32} {off : Int} (tgt q : Nat) (hd : decode μ.2.1 pc = .ok (.ifCond .eq off, 3)) (ht : (pc : Int) + off = (tgt : Int)) (hq : pc + 3 = q) (kt : x = 0 → zk_P Z μ tgt lo st M R) (kf : ¬ x = 0 → zk_P Z μ q lo st M R) : zk_P Z μ pc lo (.int x :: st) M R := by
  subst hq
  by_cases h : x = 0
  · exact zk_lift (fun p e s m args below meth c H locs cells slots C S ls Q cx hH hS hl hcc hss kk => lv_if_eq cx.1 cx.2.1 hd ht (fun _ => (kk ls hl)) (fun z => by first | exact absurd h z | exact absurd z h)) (kt h)
  · exact zk_lift (fun p e s m args below meth c H locs cells slots C S ls Q cx hH hS hl hcc hss kk => lv_if_eq cx.1 cx.2.1 hd ht (fun z => by first | exact absurd h z | exact absurd z h) (fun _ => (kk ls hl))) (kf (by first | exact h | exact Decidable.not_not.mp h))
theorem zk_icmp_eq {x y : Int32} {off : Int} (tgt q : Nat) (hd : decode μ.2.1 pc = .ok (.if_icmp .eq off, 3)) (ht : (pc : Int) + off = (tgt : Int)) (hq : pc + 3 = q) (kt : x = y → zk_P Z μ tgt lo st M R) (kf : ¬ x = y → zk_P Z μ q lo st M R) : zk_P Z μ pc lo (.int y :: .int x :: st) M R := by
  subst hq
  by_cases h : x = y
  · exact zk_lift (fun p e s m args below meth c H locs cells slots C S ls Q cx hH hS hl hcc hss kk => lv_icmp_eq cx.1 cx.2.1 hd ht (fun _ => (kk ls hl)) (fun z => by first | exact absurd h z | exact absurd z h)) (kt h)
  · exact zk_lift (fun p e s m args below meth c H locs cells slots C S ls Q cx hH hS hl hcc hss kk => lv_icmp_eq cx.1 cx.2.1 hd ht (fun z => by first | exact absurd h z | exact absurd z h) (fun _ => (kk ls hl))) (kf (by first | exact h | exact Decidable.not_not.mp h))
theorem zk_if_ne {x : Int32} {off : Int} (tgt q : Nat) (hd : decode μ.2.1 pc = .ok (.ifCond .ne off, 3)) (ht : (pc : Int) + off = (tgt : Int)) (hq : pc + 3 = q) (kt : ¬ x = 0 → zk_P Z μ tgt lo st M R) (kf : x = 0 → zk_P Z μ q lo st M R) : zk_P Z μ pc lo (.int x :: st) M R := by
  subst hq
  by_cases h : ¬ x = 0
  · exact zk_lift (fun p e s m args below meth c H locs cells slots C S ls Q cx hH hS hl hcc hss kk => lv_if_ne cx.1 cx.2.1 hd ht (fun _ => (kk ls hl)) (fun z => by first | exact absurd h z | exact absurd z h)) (kt h)
  · exact zk_lift (fun p e s m args below meth c H locs cells slots C S ls Q cx hH hS hl hcc hss kk => lv_if_ne cx.1 cx.2.1 hd ht (fun z => by first | exact absurd h z | exact absurd z h) (fun _ => (kk ls hl))) (kf (by first | exact h | exact Decidable.not_not.mp h))
theorem zk_icmp_ne {x y : Int32} {off : Int} (tgt q : Nat) (hd : decode μ.2.1 pc = .ok (.if_icmp .ne off, 3)) (ht : (pc : Int) + off = (tgt : Int)) (hq : pc + 3 = q) (kt : ¬ x = y → zk_P Z μ tgt lo st M R) (kf : x = y → zk_P Z μ q lo st M R) : zk_P Z μ pc lo (.int y :: .int x :: st) M R := by
  subst hq
  by_cases h : ¬ x = y
  · exact zk_lift (fun p e s m args below meth c H locs cells slots C S ls Q cx hH hS hl hcc hss kk => lv_icmp_ne cx.1 cx.2.1 hd ht (fun _ => (kk ls hl)) (fun z => by first | exact absurd h z | exact absurd z h)) (kt h)
  · exact zk_lift (fun p e s m args below meth c H locs cells slots C S ls Q cx hH hS hl hcc hss kk => lv_icmp_ne cx.1 cx.2.1 hd ht (fun z => by first | exact absurd h z | exact absurd z h) (fun _ => (kk ls hl))) (kf (by first | exact h | exact Decidable.not_not.mp h))
theorem zk_if_lt {x : Int32} {off : Int} (tgt q : Nat) (hd : decode μ.2.1 pc = .ok (.ifCond .lt off, 3)) (ht : (pc : Int) + off = (tgt : Int)) (hq : pc + 3 = q) (kt : x < 0 → zk_P Z μ tgt lo st M R) (kf : ¬ x < 0 → zk_P Z μ q lo st M R) : zk_P Z μ pc lo (.int x :: st) M R := by
  subst hq
  by_cases h : x < 0
  · exact zk_lift (fun p e s m args below meth c H locs cells slots C S ls Q cx hH hS hl hcc hss kk => lv_if_lt cx.1 cx.2.1 hd ht (fun _ => (kk ls hl)) (fun z => by first | exact absurd h z | exact absurd z h)) (kt h)
  · exact zk_lift (fun p e s m args below meth c H locs cells slots C S ls Q cx hH hS hl hcc hss kk => lv_if_lt cx.1 cx.2.1 hd ht (fun z => by first | exact absurd h z | exact absurd z h) (fun _ => (kk ls hl))) (kf (by first | exact h | exact Decidable.not_not.mp h))
theorem zk_icmp_lt {x y : Int32} {off : Int} (tgt q : Nat) (hd : decode μ.2.1 pc = .ok (.if_icmp .lt off, 3)) (ht : (pc : Int) + off = (tgt : Int)) (hq : pc + 3 = q) (kt : x < y → zk_P Z μ tgt lo st M R) (kf : ¬ x < y → zk_P Z μ q lo st M R) : zk_P Z μ pc lo (.int y :: .int x :: st) M R := by
  subst hq
  by_cases h : x < y
  · exact zk_lift (fun p e s m args below meth c H locs cells slots C S ls Q cx hH hS hl hcc hss kk => lv_icmp_lt cx.1 cx.2.1 hd ht (fun _ => (kk ls hl)) (fun z => by first | exact absurd h z | exact absurd z h)) (kt h)
  · exact zk_lift (fun p e s m args below meth c H locs cells slots C S ls Q cx hH hS hl hcc hss kk => lv_icmp_lt cx.1 cx.2.1 hd ht (fun z => by first | exact absurd h z | exact absurd z h) (fun _ => (kk ls hl))) (kf (by first | exact h | exact Decidable.not_not.mp h))
theorem zk_if_ge {x : Int32} {off : Int} (tgt q : Nat) (hd : decode μ.2.1 pc = .ok (.ifCond .ge off, 3)) (ht : (pc : Int) + off = (tgt : Int)) (hq : pc + 3 = q) (kt : 0 ≤ x → zk_P Z μ tgt lo st M R) (kf : ¬ 0 ≤ x → zk_P Z μ q lo st M R) : zk_P Z μ pc lo (.int x :: st) M R := by
  subst hq
  by_cases h : 0 ≤ x
  · exact zk_lift (fun p e s m args below meth c H locs cells slots C S ls Q cx hH hS hl hcc hss kk => lv_if_ge cx.1 cx.2.1 hd ht (fun _ => (kk ls hl)) (fun z => by first | exact absurd h z | exact absurd z h)) (kt h)
  · exact zk_lift (fun p e s m args below meth c H locs cells slots C S ls Q cx hH hS hl hcc hss kk => lv_if_ge cx.1 cx.2.1 hd ht (fun z => by first | exact absurd h z | exact absurd z h) (fun _ => (kk ls hl))) (kf (by first | exact h | exact Decidable.not_not.mp h))
theorem zk_icmp_ge {x y : Int32} {off : Int} (tgt q : Nat) (hd : decode μ.2.1 pc = .ok (.if_icmp .ge off, 3)) (ht : (pc : Int) + off = (tgt : Int)) (hq : pc + 3 = q) (kt : y ≤ x → zk_P Z μ tgt lo st M R) (kf : ¬ y ≤ x → zk_P Z μ q lo st M R) : zk_P Z μ pc lo (.int y :: .int x :: st) M R := by
  subst hq
  by_cases h : y ≤ x
  · exact zk_lift (fun p e s m args below meth c H locs cells slots C S ls Q cx hH hS hl hcc hss kk => lv_icmp_ge cx.1 cx.2.1 hd ht (fun _ => (kk ls hl)) (fun z => by first | exact absurd h z | exact absurd z h)) (kt h)
  · exact zk_lift (fun p e s m args below meth c H locs cells slots C S ls Q cx hH hS hl hcc hss kk => lv_icmp_ge cx.1 cx.2.1 hd ht (fun z => by first | exact absurd h z | exact absurd z h) (fun _ => (kk ls hl))) (kf (by first | exact h | exact Decidable.not_not.mp h))
theorem zk_if_gt {x : Int32} {off : Int} (tgt q : Nat) (hd : decode μ.2.1 pc = .ok (.ifCond .gt off, 3)) (ht : (pc : Int) + off = (tgt : Int)) (hq : pc + 3 = q) (kt : 0 < x → zk_P Z μ tgt lo st M R) (kf : ¬ 0 < x → zk_P Z μ q lo st M R) : zk_P Z μ pc lo (.int x :: st) M R := by
  subst hq
  by_cases h : 0 < x
  · exact zk_lift (fun p e s m args below meth c H locs cells slots C S ls Q cx hH hS hl hcc hss kk => lv_if_gt cx.1 cx.2.1 hd ht (fun _ => (kk ls hl)) (fun z => by first | exact absurd h z | exact absurd z h)) (kt h)
  · exact zk_lift (fun p e s m args below meth c H locs cells slots C S ls Q cx hH hS hl hcc hss kk => lv_if_gt cx.1 cx.2.1 hd ht (fun z => by first | exact absurd h z | exact absurd z h) (fun _ => (kk ls hl))) (kf (by first | exact h | exact Decidable.not_not.mp h))
theorem zk_icmp_gt {x y : Int32} {off : Int} (tgt q : Nat) (hd : decode μ.2.1 pc = .ok (.if_icmp .gt off, 3)) (ht : (pc : Int) + off = (tgt : Int)) (hq : pc + 3 = q) (kt : y < x → zk_P Z μ tgt lo st M R) (kf : ¬ y < x → zk_P Z μ q lo st M R) : zk_P Z μ pc lo (.int y :: .int x :: st) M R := by
  subst hq
  by_cases h : y < x
  · exact zk_lift (fun p e s m args below meth c H locs cells slots C S ls Q cx hH hS hl hcc hss kk => lv_icmp_gt cx.1 cx.2.1 hd ht (fun _ => (kk ls hl)) (fun z => by first | exact absurd h z | exact absurd z h)) (kt h)
  · exact zk_lift (fun p e s m args below meth c H locs cells slots C S ls Q cx hH hS hl hcc hss kk => lv_icmp_gt cx.1 cx.2.1 hd ht (fun z => by first | exact absurd h z | exact absurd z h) (fun _ => (kk ls hl))) (kf (by first | exact h | exact Decidable.not_not.mp h))
theorem zk_if_le {x : Int32} {off : Int} (tgt q : Nat) (hd : decode μ.2.1 pc = .ok (.ifCond .le off, 3)) (ht : (pc : Int) + off = (tgt : Int)) (hq : pc + 3 = q) (kt : x ≤ 0 → zk_P Z μ tgt lo st M R) (kf : ¬ x ≤ 0 → zk_P Z μ q lo st M R) : zk_P Z μ pc lo (.int x :: st) M R := by
  subst hq
  by_cases h : x ≤ 0
  · exact zk_lift (fun p e s m args below meth c H locs cells slots C S ls Q cx hH hS hl hcc hss kk => lv_if_le cx.1 cx.2.1 hd ht (fun _ => (kk ls hl)) (fun z => by first | exact absurd h z | exact absurd z h)) (kt h)
  · exact zk_lift (fun p e s m args below meth c H locs cells slots C S ls Q cx hH hS hl hcc hss kk => lv_if_le cx.1 cx.2.1 hd ht (fun z => by first | exact absurd h z | exact absurd z h) (fun _ => (kk ls hl))) (kf (by first | exact h | exact Decidable.not_not.mp h))
theorem zk_icmp_le {x y : Int32} {off : Int} (tgt q : Nat) (hd : decode μ.2.1 pc = .ok (.if_icmp .le off, 3)) (ht : (pc : Int) + off = (tgt : Int)) (hq : pc + 3 = q) (kt : x ≤ y → zk_P Z μ tgt lo st M R) (kf : ¬ x ≤ y → zk_P Z μ q lo st M R) : zk_P Z μ pc lo (.int y :: .int x :: st) M R := by
  subst hq
  by_cases h : x ≤ y
  · exact zk_lift (fun p e s m args below meth c H locs cells slots C S ls Q cx hH hS hl hcc hss kk => lv_icmp_le cx.1 cx.2.1 hd ht (fun _ => (kk ls hl)) (fun z => by first | exact absurd h z | exact absurd z h)) (kt h)
  · exact zk_lift (fun p e s m args below meth c H locs cells slots C S ls Q cx hH hS hl hcc hss kk => lv_icmp_le cx.1 cx.2.1 hd ht (fun z => by first | exact absurd h z | exact absurd z h) (fun _ => (kk ls hl))) (kf (by first | exact h | exact Decidable.not_not.mp h))
theorem zk_acmp_eq {rx ry : Option Nat} {off : Int} (tgt q : Nat) (hd : decode μ.2.1 pc = .ok (.if_acmp .eq off, 3)) (ht : (pc : Int) + off = (tgt : Int)) (hq : pc + 3 = q) (kt : rx = ry → zk_P Z μ tgt lo st M R) (kf : ¬ rx = ry → zk_P Z μ q lo st M R) : zk_P Z μ pc lo (va_rf ry :: va_rf rx :: st) M R := by
  subst hq
  by_cases h : rx = ry
  · exact zk_lift (fun p e s m args below meth c H locs cells slots C S ls Q cx hH hS hl hcc hss kk => lv_acmp_eq cx.1 cx.2.1 hd ht (fun _ => (kk ls hl)) (fun z => by first | exact absurd h z | exact absurd z h)) (kt h)
  · exact zk_lift (fun p e s m args below meth c H locs cells slots C S ls Q cx hH hS hl hcc hss kk => lv_acmp_eq cx.1 cx.2.1 hd ht (fun z => by first | exact absurd h z | exact absurd z h) (fun _ => (kk ls hl))) (kf (by first | exact h | exact Decidable.not_not.mp h))
theorem zk_acmp_ne {rx ry : Option Nat} {off : Int} (tgt q : Nat) (hd : decode μ.2.1 pc = .ok (.if_acmp .ne off, 3)) (ht : (pc : Int) + off = (tgt : Int)) (hq : pc + 3 = q) (kt : ¬ rx = ry → zk_P Z μ tgt lo st M R) (kf : rx = ry → zk_P Z μ q lo st M R) : zk_P Z μ pc lo (va_rf ry :: va_rf rx :: st) M R := by
  subst hq
  by_cases h : ¬ rx = ry
  · exact zk_lift (fun p e s m args below meth c H locs cells slots C S ls Q cx hH hS hl hcc hss kk => lv_acmp_ne cx.1 cx.2.1 hd ht (fun _ => (kk ls hl)) (fun z => by first | exact absurd h z | exact absurd z h)) (kt h)
  · exact zk_lift (fun p e s m args below meth c H locs cells slots C S ls Q cx hH hS hl hcc hss kk => lv_acmp_ne cx.1 cx.2.1 hd ht (fun z => by first | exact absurd h z | exact absurd z h) (fun _ => (kk ls hl))) (kf (by first | exact h | exact Decidable.not_not.mp h))
theorem zk_ifnull {a : Nat} {off : Int} (q : Nat) (hd : decode μ.2.1 pc = .ok (.ifnull off, 3)) (hq : pc + 3 = q) (k : zk_P Z μ q lo st M R) : zk_P Z μ pc lo (.ref a :: st) M R := by
  subst hq
  exact zk_lift (fun p e s m args below meth c H locs cells slots C S ls Q cx hH hS hl hcc hss kk => lv_ifnull cx.1 cx.2.1 hd (kk ls hl)) k
theorem zk_ifnullN {off : Int} (tgt : Nat) (hd : decode μ.2.1 pc = .ok (.ifnull off, 3)) (ht : (pc : Int) + off = (tgt : Int)) (k : zk_P Z μ tgt lo st M R) : zk_P Z μ pc lo (.null :: st) M R :=
  zk_lift (fun p e s m args below meth c H locs cells slots C S ls Q cx hH hS hl hcc hss kk => lv_ifnullN cx.1 cx.2.1 hd ht (kk ls hl)) k
theorem zk_ifnonnull {a : Nat} {off : Int} (tgt : Nat) (hd : decode μ.2.1 pc = .ok (.ifnonnull off, 3)) (ht : (pc : Int) + off = (tgt : Int)) (k : zk_P Z μ tgt lo st M R) : zk_P Z μ pc lo (.ref a :: st) M R :=
  zk_lift (fun p e s m args below meth c H locs cells slots C S ls Q cx hH hS hl hcc hss kk => lv_ifnonnull cx.1 cx.2.1 hd ht (kk ls hl)) k
theorem zk_ifnonnullN {off : Int} (q : Nat) (hd : decode μ.2.1 pc = .ok (.ifnonnull off, 3)) (hq : pc + 3 = q) (k : zk_P Z μ q lo st M R) : zk_P Z μ pc lo (.null :: st) M R := by
  subst hq
  exact zk_lift (fun p e s m args below meth c H locs cells slots C S ls Q cx hH hS hl hcc hss kk => lv_ifnonnullN cx.1 cx.2.1 hd (kk ls hl)) k
theorem zk_tableIn {dflt low high : Int} {offs : Array Int} {len : Nat} {x : Int32} {off : Int} (tgt : Nat) (v : Int32) (hx : x = v) (hd : decode μ.2.1 pc = .ok (.tableswitch dflt low high offs, len)) (h1 : ¬ v.toInt < low) (h2 : ¬ high < v.toInt) (ho : offs[(v.toInt - low).toNat]? = some off) (ht : (pc : Int) + off = (tgt : Int)) (k : zk_P Z μ tgt lo st M R) : zk_P Z μ pc lo (.int x :: st) M R := by
  subst hx
  exact zk_lift (fun p e s m args below meth c H locs cells slots C S ls Q cx hH hS hl hcc hss kk => lv_tableIn cx.1 cx.2.1 hd h1 h2 ho ht (kk ls hl)) k
theorem zk_tableOut {dflt low high : Int} {offs : Array Int} {len : Nat} {x : Int32} (tgt : Nat) (hd : decode μ.2.1 pc = .ok (.tableswitch dflt low high offs, len)) (h : x.toInt < low ∨ high < x.toInt) (ht : (pc : Int) + dflt = (tgt : Int)) (k : zk_P Z μ tgt lo st M R) : zk_P Z μ pc lo (.int x :: st) M R :=
  zk_lift (fun p e s m args below meth c H locs cells slots C S ls Q cx hH hS hl hcc hss kk => lv_tableOut cx.1 cx.2.1 hd h ht (kk ls hl)) k
theorem zk_lookup {dflt : Int} {ps : Array (Int × Int)} {len : Nat} {x : Int32} {off : Int} (tgt : Nat) (hd : decode μ.2.1 pc = .ok (.lookupswitch dflt ps, len)) (hp : (ps.toList.zip (ps.toList.drop 1)).all (fun (a, next) => a.1 < next.1) = true) (ho : Op.lookupswitch.offset ps.toList dflt x.toInt = off) (ht : (pc : Int) + off = (tgt : Int)) (k : zk_P Z μ tgt lo st M R) : zk_P Z μ pc lo (.int x :: st) M R :=
  zk_lift (fun p e s m args below meth c H locs cells slots C S ls Q cx hH hS hl hcc hss kk => lv_lookup cx.1 cx.2.1 hd hp ho ht (kk ls hl)) k
theorem zk_istoreG {i : Nat} {x : Int32} {lo' : List (Option Value)} (q : Nat) (hd : decode μ.2.1 pc = .ok (.istore i, 2)) (hi : i < μ.2.2.1) (he : lo.set i (some (.int x)) = lo') (hq : pc + 2 = q) (k : zk_P Z μ q lo' st M R) : zk_P Z μ pc lo (.int x :: st) M R := by
  subst hq; subst he
  exact zk_lift (fun p e s m args below meth c H locs cells slots C S ls Q cx hH hS hl hcc hss kk => lv_istore cx.1 cx.2.1 hd hl.has hi rfl (fun ls' h' => kk ls' (hl.set rfl h'))) k
theorem zk_istoreG_n {j : Fin 4} {i : Nat} {x : Int32} {lo' : List (Option Value)} (q : Nat) (hd : decode μ.2.1 pc = .ok (.istore_n j, 1)) (hj : (j : Nat) = i) (hi : i < μ.2.2.1) (he : lo.set i (some (.int x)) = lo') (hq : pc + 1 = q) (k : zk_P Z μ q lo' st M R) : zk_P Z μ pc lo (.int x :: st) M R := by
  subst hq; subst he
  exact zk_lift (fun p e s m args below meth c H locs cells slots C S ls Q cx hH hS hl hcc hss kk => lv_istore_n cx.1 cx.2.1 hd hj hl.has hi rfl (fun ls' h' => kk ls' (hl.set rfl h'))) k
theorem zk_astoreG {i x : Nat} {lo' : List (Option Value)} (q : Nat) (hd : decode μ.2.1 pc = .ok (.astore i, 2)) (hi : i < μ.2.2.1) (he : lo.set i (some (.ref x)) = lo') (hq : pc + 2 = q) (k : zk_P Z μ q lo' st M R) : zk_P Z μ pc lo (.ref x :: st) M R := by
  subst hq; subst he
  exact zk_lift (fun p e s m args below meth c H locs cells slots C S ls Q cx hH hS hl hcc hss kk => lv_astore cx.1 cx.2.1 hd hl.has hi rfl (fun ls' h' => kk ls' (hl.set rfl h'))) k
theorem zk_astoreG_n {j : Fin 4} {i x : Nat} {lo' : List (Option Value)} (q : Nat) (hd : decode μ.2.1 pc = .ok (.astore_n j, 1)) (hj : (j : Nat) = i) (hi : i < μ.2.2.1) (he : lo.set i (some (.ref x)) = lo') (hq : pc + 1 = q) (k : zk_P Z μ q lo' st M R) : zk_P Z μ pc lo (.ref x :: st) M R := by
  subst hq; subst he
  exact zk_lift (fun p e s m args below meth c H locs cells slots C S ls Q cx hH hS hl hcc hss kk => lv_astore_n cx.1 cx.2.1 hd hj hl.has hi rfl (fun ls' h' => kk ls' (hl.set rfl h'))) k
theorem zk_astoreGN {i : Nat} {lo' : List (Option Value)} (q : Nat) (hd : decode μ.2.1 pc = .ok (.astore i, 2)) (hi : i < μ.2.2.1) (he : lo.set i (some .null) = lo') (hq : pc + 2 = q) (k : zk_P Z μ q lo' st M R) : zk_P Z μ pc lo (.null :: st) M R := by
  subst hq; subst he
  exact zk_lift (fun p e s m args below meth c H locs cells slots C S ls Q cx hH hS hl hcc hss kk => lv_astoreN cx.1 cx.2.1 hd hl.has hi rfl (fun ls' h' => kk ls' (hl.set rfl h'))) k
theorem zk_astoreGN_n {j : Fin 4} {i : Nat} {lo' : List (Option Value)} (q : Nat) (hd : decode μ.2.1 pc = .ok (.astore_n j, 1)) (hj : (j : Nat) = i) (hi : i < μ.2.2.1) (he : lo.set i (some .null) = lo') (hq : pc + 1 = q) (k : zk_P Z μ q lo' st M R) : zk_P Z μ pc lo (.null :: st) M R := by
  subst hq; subst he
  exact zk_lift (fun p e s m args below meth c H locs cells slots C S ls Q cx hH hS hl hcc hss kk => lv_astore_nN cx.1 cx.2.1 hd hj hl.has hi rfl (fun ls' h' => kk ls' (hl.set rfl h'))) k
theorem zk_iincG {i : Nat} {n : Int} {x y v : Int32} {lo' : List (Option Value)} (q : Nat) (hd : decode μ.2.1 pc = .ok (.iinc i n, 3)) (hv : lo[i]? = some (some (.int x))) (hn : Int32.ofInt n = v) (hy : x + v = y) (hi : i < μ.2.2.1) (he : lo.set i (some (.int y)) = lo') (hq : pc + 3 = q) (k : zk_P Z μ q lo' st M R) : zk_P Z μ pc lo st M R := by
  subst hq; subst he; subst hn
  obtain ⟨j, hj⟩ := List.getElem?_of_mem (zk_ll_mem (q := (i, Value.int x)).mpr hv)
  exact zk_lift (fun p e s m args below meth c H locs cells slots C S ls Q cx hH hS hl hcc hss kk => lv_iinc (v := y) cx.1 cx.2.1 hd hl.has hj hy hi rfl (fun ls' h' => kk ls' (hl.set rfl h'))) k
theorem zk_istore_0 {ai : Option Value} {x : Int32} (q : Nat) (hd : decode μ.2.1 pc = .ok (.istore_n 0, 1)) (hi : 0 < μ.2.2.1) (hq : pc + 1 = q) (k : zk_P Z μ q (some (.int x) :: lo) st M R) : zk_P Z μ pc (ai :: lo) (.int x :: st) M R := zk_istoreG_n q hd rfl hi rfl hq k
theorem zk_astore_0 {ai : Option Value} {x : Nat} (q : Nat) (hd : decode μ.2.1 pc = .ok (.astore_n 0, 1)) (hi : 0 < μ.2.2.1) (hq : pc + 1 = q) (k : zk_P Z μ q (some (.ref x) :: lo) st M R) : zk_P Z μ pc (ai :: lo) (.ref x :: st) M R := zk_astoreG_n q hd rfl hi rfl hq k
theorem zk_astoreN_0 {ai : Option Value}  (q : Nat) (hd : decode μ.2.1 pc = .ok (.astore_n 0, 1)) (hi : 0 < μ.2.2.1) (hq : pc + 1 = q) (k : zk_P Z μ q (some .null :: lo) st M R) : zk_P Z μ pc (ai :: lo) (.null :: st) M R := zk_astoreGN_n q hd rfl hi rfl hq k
theorem zk_iinc_0 {n : Int} {x v : Int32} (q : Nat) (hd : decode μ.2.1 pc = .ok (.iinc 0 n, 3)) (hn : Int32.ofInt n = v) (hi : 0 < μ.2.2.1) (hq : pc + 3 = q) (k : zk_P Z μ q (some (.int (x + v)) :: lo) st M R) : zk_P Z μ pc (some (.int x) :: lo) st M R := zk_iincG q hd rfl hn rfl hi rfl hq k
theorem zk_istore_1 {a0 ai : Option Value} {x : Int32} (q : Nat) (hd : decode μ.2.1 pc = .ok (.istore_n 1, 1)) (hi : 1 < μ.2.2.1) (hq : pc + 1 = q) (k : zk_P Z μ q (a0 :: some (.int x) :: lo) st M R) : zk_P Z μ pc (a0 :: ai :: lo) (.int x :: st) M R := zk_istoreG_n q hd rfl hi rfl hq k
theorem zk_astore_1 {a0 ai : Option Value} {x : Nat} (q : Nat) (hd : decode μ.2.1 pc = .ok (.astore_n 1, 1)) (hi : 1 < μ.2.2.1) (hq : pc + 1 = q) (k : zk_P Z μ q (a0 :: some (.ref x) :: lo) st M R) : zk_P Z μ pc (a0 :: ai :: lo) (.ref x :: st) M R := zk_astoreG_n q hd rfl hi rfl hq k
theorem zk_astoreN_1 {a0 ai : Option Value}  (q : Nat) (hd : decode μ.2.1 pc = .ok (.astore_n 1, 1)) (hi : 1 < μ.2.2.1) (hq : pc + 1 = q) (k : zk_P Z μ q (a0 :: some .null :: lo) st M R) : zk_P Z μ pc (a0 :: ai :: lo) (.null :: st) M R := zk_astoreGN_n q hd rfl hi rfl hq k
theorem zk_iinc_1 {a0 : Option Value} {n : Int} {x v : Int32} (q : Nat) (hd : decode μ.2.1 pc = .ok (.iinc 1 n, 3)) (hn : Int32.ofInt n = v) (hi : 1 < μ.2.2.1) (hq : pc + 3 = q) (k : zk_P Z μ q (a0 :: some (.int (x + v)) :: lo) st M R) : zk_P Z μ pc (a0 :: some (.int x) :: lo) st M R := zk_iincG q hd rfl hn rfl hi rfl hq k
theorem zk_istore_2 {a0 a1 ai : Option Value} {x : Int32} (q : Nat) (hd : decode μ.2.1 pc = .ok (.istore_n 2, 1)) (hi : 2 < μ.2.2.1) (hq : pc + 1 = q) (k : zk_P Z μ q (a0 :: a1 :: some (.int x) :: lo) st M R) : zk_P Z μ pc (a0 :: a1 :: ai :: lo) (.int x :: st) M R := zk_istoreG_n q hd rfl hi rfl hq k
theorem zk_astore_2 {a0 a1 ai : Option Value} {x : Nat} (q : Nat) (hd : decode μ.2.1 pc = .ok (.astore_n 2, 1)) (hi : 2 < μ.2.2.1) (hq : pc + 1 = q) (k : zk_P Z μ q (a0 :: a1 :: some (.ref x) :: lo) st M R) : zk_P Z μ pc (a0 :: a1 :: ai :: lo) (.ref x :: st) M R := zk_astoreG_n q hd rfl hi rfl hq k
theorem zk_astoreN_2 {a0 a1 ai : Option Value}  (q : Nat) (hd : decode μ.2.1 pc = .ok (.astore_n 2, 1)) (hi : 2 < μ.2.2.1) (hq : pc + 1 = q) (k : zk_P Z μ q (a0 :: a1 :: some .null :: lo) st M R) : zk_P Z μ pc (a0 :: a1 :: ai :: lo) (.null :: st) M R := zk_astoreGN_n q hd rfl hi rfl hq k
theorem zk_iinc_2 {a0 a1 : Option Value} {n : Int} {x v : Int32} (q : Nat) (hd : decode μ.2.1 pc = .ok (.iinc 2 n, 3)) (hn : Int32.ofInt n = v) (hi : 2 < μ.2.2.1) (hq : pc + 3 = q) (k : zk_P Z μ q (a0 :: a1 :: some (.int (x + v)) :: lo) st M R) : zk_P Z μ pc (a0 :: a1 :: some (.int x) :: lo) st M R := zk_iincG q hd rfl hn rfl hi rfl hq k
theorem zk_istore_3 {a0 a1 a2 ai : Option Value} {x : Int32} (q : Nat) (hd : decode μ.2.1 pc = .ok (.istore_n 3, 1)) (hi : 3 < μ.2.2.1) (hq : pc + 1 = q) (k : zk_P Z μ q (a0 :: a1 :: a2 :: some (.int x) :: lo) st M R) : zk_P Z μ pc (a0 :: a1 :: a2 :: ai :: lo) (.int x :: st) M R := zk_istoreG_n q hd rfl hi rfl hq k
theorem zk_astore_3 {a0 a1 a2 ai : Option Value} {x : Nat} (q : Nat) (hd : decode μ.2.1 pc = .ok (.astore_n 3, 1)) (hi : 3 < μ.2.2.1) (hq : pc + 1 = q) (k : zk_P Z μ q (a0 :: a1 :: a2 :: some (.ref x) :: lo) st M R) : zk_P Z μ pc (a0 :: a1 :: a2 :: ai :: lo) (.ref x :: st) M R := zk_astoreG_n q hd rfl hi rfl hq k
theorem zk_astoreN_3 {a0 a1 a2 ai : Option Value}  (q : Nat) (hd : decode μ.2.1 pc = .ok (.astore_n 3, 1)) (hi : 3 < μ.2.2.1) (hq : pc + 1 = q) (k : zk_P Z μ q (a0 :: a1 :: a2 :: some .null :: lo) st M R) : zk_P Z μ pc (a0 :: a1 :: a2 :: ai :: lo) (.null :: st) M R := zk_astoreGN_n q hd rfl hi rfl hq k
theorem zk_iinc_3 {a0 a1 a2 : Option Value} {n : Int} {x v : Int32} (q : Nat) (hd : decode μ.2.1 pc = .ok (.iinc 3 n, 3)) (hn : Int32.ofInt n = v) (hi : 3 < μ.2.2.1) (hq : pc + 3 = q) (k : zk_P Z μ q (a0 :: a1 :: a2 :: some (.int (x + v)) :: lo) st M R) : zk_P Z μ pc (a0 :: a1 :: a2 :: some (.int x) :: lo) st M R := zk_iincG q hd rfl hn rfl hi rfl hq k
theorem zk_istore_4 {a0 a1 a2 a3 ai : Option Value} {x : Int32} (q : Nat) (hd : decode μ.2.1 pc = .ok (.istore 4, 2)) (hi : 4 < μ.2.2.1) (hq : pc + 2 = q) (k : zk_P Z μ q (a0 :: a1 :: a2 :: a3 :: some (.int x) :: lo) st M R) : zk_P Z μ pc (a0 :: a1 :: a2 :: a3 :: ai :: lo) (.int x :: st) M R := zk_istoreG q hd hi rfl hq k
theorem zk_astore_4 {a0 a1 a2 a3 ai : Option Value} {x : Nat} (q : Nat) (hd : decode μ.2.1 pc = .ok (.astore 4, 2)) (hi : 4 < μ.2.2.1) (hq : pc + 2 = q) (k : zk_P Z μ q (a0 :: a1 :: a2 :: a3 :: some (.ref x) :: lo) st M R) : zk_P Z μ pc (a0 :: a1 :: a2 :: a3 :: ai :: lo) (.ref x :: st) M R := zk_astoreG q hd hi rfl hq k
theorem zk_astoreN_4 {a0 a1 a2 a3 ai : Option Value}  (q : Nat) (hd : decode μ.2.1 pc = .ok (.astore 4, 2)) (hi : 4 < μ.2.2.1) (hq : pc + 2 = q) (k : zk_P Z μ q (a0 :: a1 :: a2 :: a3 :: some .null :: lo) st M R) : zk_P Z μ pc (a0 :: a1 :: a2 :: a3 :: ai :: lo) (.null :: st) M R := zk_astoreGN q hd hi rfl hq k
theorem zk_iinc_4 {a0 a1 a2 a3 : Option Value} {n : Int} {x v : Int32} (q : Nat) (hd : decode μ.2.1 pc = .ok (.iinc 4 n, 3)) (hn : Int32.ofInt n = v) (hi : 4 < μ.2.2.1) (hq : pc + 3 = q) (k : zk_P Z μ q (a0 :: a1 :: a2 :: a3 :: some (.int (x + v)) :: lo) st M R) : zk_P Z μ pc (a0 :: a1 :: a2 :: a3 :: some (.int x) :: lo) st M R := zk_iincG q hd rfl hn rfl hi rfl hq k
theorem zk_istore_5 {a0 a1 a2 a3 a4 ai : Option Value} {x : Int32} (q : Nat) (hd : decode μ.2.1 pc = .ok (.istore 5, 2)) (hi : 5 < μ.2.2.1) (hq : pc + 2 = q) (k : zk_P Z μ q (a0 :: a1 :: a2 :: a3 :: a4 :: some (.int x) :: lo) st M R) : zk_P Z μ pc (a0 :: a1 :: a2 :: a3 :: a4 :: ai :: lo) (.int x :: st) M R := zk_istoreG q hd hi rfl hq k
theorem zk_astore_5 {a0 a1 a2 a3 a4 ai : Option Value} {x : Nat} (q : Nat) (hd : decode μ.2.1 pc = .ok (.astore 5, 2)) (hi : 5 < μ.2.2.1) (hq : pc + 2 = q) (k : zk_P Z μ q (a0 :: a1 :: a2 :: a3 :: a4 :: some (.ref x) :: lo) st M R) : zk_P Z μ pc (a0 :: a1 :: a2 :: a3 :: a4 :: ai :: lo) (.ref x :: st) M R := zk_astoreG q hd hi rfl hq k
theorem zk_astoreN_5 {a0 a1 a2 a3 a4 ai : Option Value}  (q : Nat) (hd : decode μ.2.1 pc = .ok (.astore 5, 2)) (hi : 5 < μ.2.2.1) (hq : pc + 2 = q) (k : zk_P Z μ q (a0 :: a1 :: a2 :: a3 :: a4 :: some .null :: lo) st M R) : zk_P Z μ pc (a0 :: a1 :: a2 :: a3 :: a4 :: ai :: lo) (.null :: st) M R := zk_astoreGN q hd hi rfl hq k
theorem zk_iinc_5 {a0 a1 a2 a3 a4 : Option Value} {n : Int} {x v : Int32} (q : Nat) (hd : decode μ.2.1 pc = .ok (.iinc 5 n, 3)) (hn : Int32.ofInt n = v) (hi : 5 < μ.2.2.1) (hq : pc + 3 = q) (k : zk_P Z μ q (a0 :: a1 :: a2 :: a3 :: a4 :: some (.int (x + v)) :: lo) st M R) : zk_P Z μ pc (a0 :: a1 :: a2 :: a3 :: a4 :: some (.int x) :: lo) st M R := zk_iincG q hd rfl hn rfl hi rfl hq k
theorem zk_istore_6 {a0 a1 a2 a3 a4 a5 ai : Option Value} {x : Int32} (q : Nat) (hd : decode μ.2.1 pc = .ok (.istore 6, 2)) (hi : 6 < μ.2.2.1) (hq : pc + 2 = q) (k : zk_P Z μ q (a0 :: a1 :: a2 :: a3 :: a4 :: a5 :: some (.int x) :: lo) st M R) : zk_P Z μ pc (a0 :: a1 :: a2 :: a3 :: a4 :: a5 :: ai :: lo) (.int x :: st) M R := zk_istoreG q hd hi rfl hq k
theorem zk_astore_6 {a0 a1 a2 a3 a4 a5 ai : Option Value} {x : Nat} (q : Nat) (hd : decode μ.2.1 pc = .ok (.astore 6, 2)) (hi : 6 < μ.2.2.1) (hq : pc + 2 = q) (k : zk_P Z μ q (a0 :: a1 :: a2 :: a3 :: a4 :: a5 :: some (.ref x) :: lo) st M R) : zk_P Z μ pc (a0 :: a1 :: a2 :: a3 :: a4 :: a5 :: ai :: lo) (.ref x :: st) M R := zk_astoreG q hd hi rfl hq k
theorem zk_astoreN_6 {a0 a1 a2 a3 a4 a5 ai : Option Value}  (q : Nat) (hd : decode μ.2.1 pc = .ok (.astore 6, 2)) (hi : 6 < μ.2.2.1) (hq : pc + 2 = q) (k : zk_P Z μ q (a0 :: a1 :: a2 :: a3 :: a4 :: a5 :: some .null :: lo) st M R) : zk_P Z μ pc (a0 :: a1 :: a2 :: a3 :: a4 :: a5 :: ai :: lo) (.null :: st) M R := zk_astoreGN q hd hi rfl hq k
theorem zk_iinc_6 {a0 a1 a2 a3 a4 a5 : Option Value} {n : Int} {x v : Int32} (q : Nat) (hd : decode μ.2.1 pc = .ok (.iinc 6 n, 3)) (hn : Int32.ofInt n = v) (hi : 6 < μ.2.2.1) (hq : pc + 3 = q) (k : zk_P Z μ q (a0 :: a1 :: a2 :: a3 :: a4 :: a5 :: some (.int (x + v)) :: lo) st M R) : zk_P Z μ pc (a0 :: a1 :: a2 :: a3 :: a4 :: a5 :: some (.int x) :: lo) st M R := zk_iincG q hd rfl hn rfl hi rfl hq k
theorem zk_istore_7 {a0 a1 a2 a3 a4 a5 a6 ai : Option Value} {x : Int32} (q : Nat) (hd : decode μ.2.1 pc = .ok (.istore 7, 2)) (hi : 7 < μ.2.2.1) (hq : pc + 2 = q) (k : zk_P Z μ q (a0 :: a1 :: a2 :: a3 :: a4 :: a5 :: a6 :: some (.int x) :: lo) st M R) : zk_P Z μ pc (a0 :: a1 :: a2 :: a3 :: a4 :: a5 :: a6 :: ai :: lo) (.int x :: st) M R := zk_istoreG q hd hi rfl hq k
theorem zk_astore_7 {a0 a1 a2 a3 a4 a5 a6 ai : Option Value} {x : Nat} (q : Nat) (hd : decode μ.2.1 pc = .ok (.astore 7, 2)) (hi : 7 < μ.2.2.1) (hq : pc + 2 = q) (k : zk_P Z μ q (a0 :: a1 :: a2 :: a3 :: a4 :: a5 :: a6 :: some (.ref x) :: lo) st M R) : zk_P Z μ pc (a0 :: a1 :: a2 :: a3 :: a4 :: a5 :: a6 :: ai :: lo) (.ref x :: st) M R := zk_astoreG q hd hi rfl hq k
theorem zk_astoreN_7 {a0 a1 a2 a3 a4 a5 a6 ai : Option Value}  (q : Nat) (hd : decode μ.2.1 pc = .ok (.astore 7, 2)) (hi : 7 < μ.2.2.1) (hq : pc + 2 = q) (k : zk_P Z μ q (a0 :: a1 :: a2 :: a3 :: a4 :: a5 :: a6 :: some .null :: lo) st M R) : zk_P Z μ pc (a0 :: a1 :: a2 :: a3 :: a4 :: a5 :: a6 :: ai :: lo) (.null :: st) M R := zk_astoreGN q hd hi rfl hq k
theorem zk_iinc_7 {a0 a1 a2 a3 a4 a5 a6 : Option Value} {n : Int} {x v : Int32} (q : Nat) (hd : decode μ.2.1 pc = .ok (.iinc 7 n, 3)) (hn : Int32.ofInt n = v) (hi : 7 < μ.2.2.1) (hq : pc + 3 = q) (k : zk_P Z μ q (a0 :: a1 :: a2 :: a3 :: a4 :: a5 :: a6 :: some (.int (x + v)) :: lo) st M R) : zk_P Z μ pc (a0 :: a1 :: a2 :: a3 :: a4 :: a5 :: a6 :: some (.int x) :: lo) st M R := zk_iincG q hd rfl hn rfl hi rfl hq k
theorem zk_istore_8 {a0 a1 a2 a3 a4 a5 a6 a7 ai : Option Value} {x : Int32} (q : Nat) (hd : decode μ.2.1 pc = .ok (.istore 8, 2)) (hi : 8 < μ.2.2.1) (hq : pc + 2 = q) (k : zk_P Z μ q (a0 :: a1 :: a2 :: a3 :: a4 :: a5 :: a6 :: a7 :: some (.int x) :: lo) st M R) : zk_P Z μ pc (a0 :: a1 :: a2 :: a3 :: a4 :: a5 :: a6 :: a7 :: ai :: lo) (.int x :: st) M R := zk_istoreG q hd hi rfl hq k
theorem zk_astore_8 {a0 a1 a2 a3 a4 a5 a6 a7 ai : Option Value} {x : Nat} (q : Nat) (hd : decode μ.2.1 pc = .ok (.astore 8, 2)) (hi : 8 < μ.2.2.1) (hq : pc + 2 = q) (k : zk_P Z μ q (a0 :: a1 :: a2 :: a3 :: a4 :: a5 :: a6 :: a7 :: some (.ref x) :: lo) st M R) : zk_P Z μ pc (a0 :: a1 :: a2 :: a3 :: a4 :: a5 :: a6 :: a7 :: ai :: lo) (.ref x :: st) M R := zk_astoreG q hd hi rfl hq k
theorem zk_astoreN_8 {a0 a1 a2 a3 a4 a5 a6 a7 ai : Option Value}  (q : Nat) (hd : decode μ.2.1 pc = .ok (.astore 8, 2)) (hi : 8 < μ.2.2.1) (hq : pc + 2 = q) (k : zk_P Z μ q (a0 :: a1 :: a2 :: a3 :: a4 :: a5 :: a6 :: a7 :: some .null :: lo) st M R) : zk_P Z μ pc (a0 :: a1 :: a2 :: a3 :: a4 :: a5 :: a6 :: a7 :: ai :: lo) (.null :: st) M R := zk_astoreGN q hd hi rfl hq k
theorem zk_iinc_8 {a0 a1 a2 a3 a4 a5 a6 a7 : Option Value} {n : Int} {x v : Int32} (q : Nat) (hd : decode μ.2.1 pc = .ok (.iinc 8 n, 3)) (hn : Int32.ofInt n = v) (hi : 8 < μ.2.2.1) (hq : pc + 3 = q) (k : zk_P Z μ q (a0 :: a1 :: a2 :: a3 :: a4 :: a5 :: a6 :: a7 :: some (.int (x + v)) :: lo) st M R) : zk_P Z μ pc (a0 :: a1 :: a2 :: a3 :: a4 :: a5 :: a6 :: a7 :: some (.int x) :: lo) st M R := zk_iincG q hd rfl hn rfl hi rfl hq k
theorem zk_istore_9 {a0 a1 a2 a3 a4 a5 a6 a7 a8 ai : Option Value} {x : Int32} (q : Nat) (hd : decode μ.2.1 pc = .ok (.istore 9, 2)) (hi : 9 < μ.2.2.1) (hq : pc + 2 = q) (k : zk_P Z μ q (a0 :: a1 :: a2 :: a3 :: a4 :: a5 :: a6 :: a7 :: a8 :: some (.int x) :: lo) st M R) : zk_P Z μ pc (a0 :: a1 :: a2 :: a3 :: a4 :: a5 :: a6 :: a7 :: a8 :: ai :: lo) (.int x :: st) M R := zk_istoreG q hd hi rfl hq k
theorem zk_astore_9 {a0 a1 a2 a3 a4 a5 a6 a7 a8 ai : Option Value} {x : Nat} (q : Nat) (hd : decode μ.2.1 pc = .ok (.astore 9, 2)) (hi : 9 < μ.2.2.1) (hq : pc + 2 = q) (k : zk_P Z μ q (a0 :: a1 :: a2 :: a3 :: a4 :: a5 :: a6 :: a7 :: a8 :: some (.ref x) :: lo) st M R) : zk_P Z μ pc (a0 :: a1 :: a2 :: a3 :: a4 :: a5 :: a6 :: a7 :: a8 :: ai :: lo) (.ref x :: st) M R := zk_astoreG q hd hi rfl hq k
theorem zk_astoreN_9 {a0 a1 a2 a3 a4 a5 a6 a7 a8 ai : Option Value}  (q : Nat) (hd : decode μ.2.1 pc = .ok (.astore 9, 2)) (hi : 9 < μ.2.2.1) (hq : pc + 2 = q) (k : zk_P Z μ q (a0 :: a1 :: a2 :: a3 :: a4 :: a5 :: a6 :: a7 :: a8 :: some .null :: lo) st M R) : zk_P Z μ pc (a0 :: a1 :: a2 :: a3 :: a4 :: a5 :: a6 :: a7 :: a8 :: ai :: lo) (.null :: st) M R := zk_astoreGN q hd hi rfl hq k
theorem zk_iinc_9 {a0 a1 a2 a3 a4 a5 a6 a7 a8 : Option Value} {n : Int} {x v : Int32} (q : Nat) (hd : decode μ.2.1 pc = .ok (.iinc 9 n, 3)) (hn : Int32.ofInt n = v) (hi : 9 < μ.2.2.1) (hq : pc + 3 = q) (k : zk_P Z μ q (a0 :: a1 :: a2 :: a3 :: a4 :: a5 :: a6 :: a7 :: a8 :: some (.int (x + v)) :: lo) st M R) : zk_P Z μ pc (a0 :: a1 :: a2 :: a3 :: a4 :: a5 :: a6 :: a7 :: a8 :: some (.int x) :: lo) st M R := zk_iincG q hd rfl hn rfl hi rfl hq k
theorem zk_istore_10 {a0 a1 a2 a3 a4 a5 a6 a7 a8 a9 ai : Option Value} {x : Int32} (q : Nat) (hd : decode μ.2.1 pc = .ok (.istore 10, 2)) (hi : 10 < μ.2.2.1) (hq : pc + 2 = q) (k : zk_P Z μ q (a0 :: a1 :: a2 :: a3 :: a4 :: a5 :: a6 :: a7 :: a8 :: a9 :: some (.int x) :: lo) st M R) : zk_P Z μ pc (a0 :: a1 :: a2 :: a3 :: a4 :: a5 :: a6 :: a7 :: a8 :: a9 :: ai :: lo) (.int x :: st) M R := zk_istoreG q hd hi rfl hq k
theorem zk_astore_10 {a0 a1 a2 a3 a4 a5 a6 a7 a8 a9 ai : Option Value} {x : Nat} (q : Nat) (hd : decode μ.2.1 pc = .ok (.astore 10, 2)) (hi : 10 < μ.2.2.1) (hq : pc + 2 = q) (k : zk_P Z μ q (a0 :: a1 :: a2 :: a3 :: a4 :: a5 :: a6 :: a7 :: a8 :: a9 :: some (.ref x) :: lo) st M R) : zk_P Z μ pc (a0 :: a1 :: a2 :: a3 :: a4 :: a5 :: a6 :: a7 :: a8 :: a9 :: ai :: lo) (.ref x :: st) M R := zk_astoreG q hd hi rfl hq k
theorem zk_astoreN_10 {a0 a1 a2 a3 a4 a5 a6 a7 a8 a9 ai : Option Value}  (q : Nat) (hd : decode μ.2.1 pc = .ok (.astore 10, 2)) (hi : 10 < μ.2.2.1) (hq : pc + 2 = q) (k : zk_P Z μ q (a0 :: a1 :: a2 :: a3 :: a4 :: a5 :: a6 :: a7 :: a8 :: a9 :: some .null :: lo) st M R) : zk_P Z μ pc (a0 :: a1 :: a2 :: a3 :: a4 :: a5 :: a6 :: a7 :: a8 :: a9 :: ai :: lo) (.null :: st) M R := zk_astoreGN q hd hi rfl hq k
theorem zk_iinc_10 {a0 a1 a2 a3 a4 a5 a6 a7 a8 a9 : Option Value} {n : Int} {x v : Int32} (q : Nat) (hd : decode μ.2.1 pc = .ok (.iinc 10 n, 3)) (hn : Int32.ofInt n = v) (hi : 10 < μ.2.2.1) (hq : pc + 3 = q) (k : zk_P Z μ q (a0 :: a1 :: a2 :: a3 :: a4 :: a5 :: a6 :: a7 :: a8 :: a9 :: some (.int (x + v)) :: lo) st M R) : zk_P Z μ pc (a0 :: a1 :: a2 :: a3 :: a4 :: a5 :: a6 :: a7 :: a8 :: a9 :: some (.int x) :: lo) st M R := zk_iincG q hd rfl hn rfl hi rfl hq k
theorem zk_istore_11 {a0 a1 a2 a3 a4 a5 a6 a7 a8 a9 a10 ai : Option Value} {x : Int32} (q : Nat) (hd : decode μ.2.1 pc = .ok (.istore 11, 2)) (hi : 11 < μ.2.2.1) (hq : pc + 2 = q) (k : zk_P Z μ q (a0 :: a1 :: a2 :: a3 :: a4 :: a5 :: a6 :: a7 :: a8 :: a9 :: a10 :: some (.int x) :: lo) st M R) : zk_P Z μ pc (a0 :: a1 :: a2 :: a3 :: a4 :: a5 :: a6 :: a7 :: a8 :: a9 :: a10 :: ai :: lo) (.int x :: st) M R := zk_istoreG q hd hi rfl hq k
theorem zk_astore_11 {a0 a1 a2 a3 a4 a5 a6 a7 a8 a9 a10 ai : Option Value} {x : Nat} (q : Nat) (hd : decode μ.2.1 pc = .ok (.astore 11, 2)) (hi : 11 < μ.2.2.1) (hq : pc + 2 = q) (k : zk_P Z μ q (a0 :: a1 :: a2 :: a3 :: a4 :: a5 :: a6 :: a7 :: a8 :: a9 :: a10 :: some (.ref x) :: lo) st M R) : zk_P Z μ pc (a0 :: a1 :: a2 :: a3 :: a4 :: a5 :: a6 :: a7 :: a8 :: a9 :: a10 :: ai :: lo) (.ref x :: st) M R := zk_astoreG q hd hi rfl hq k
theorem zk_astoreN_11 {a0 a1 a2 a3 a4 a5 a6 a7 a8 a9 a10 ai : Option Value}  (q : Nat) (hd : decode μ.2.1 pc = .ok (.astore 11, 2)) (hi : 11 < μ.2.2.1) (hq : pc + 2 = q) (k : zk_P Z μ q (a0 :: a1 :: a2 :: a3 :: a4 :: a5 :: a6 :: a7 :: a8 :: a9 :: a10 :: some .null :: lo) st M R) : zk_P Z μ pc (a0 :: a1 :: a2 :: a3 :: a4 :: a5 :: a6 :: a7 :: a8 :: a9 :: a10 :: ai :: lo) (.null :: st) M R := zk_astoreGN q hd hi rfl hq k
theorem zk_iinc_11 {a0 a1 a2 a3 a4 a5 a6 a7 a8 a9 a10 : Option Value} {n : Int} {x v : Int32} (q : Nat) (hd : decode μ.2.1 pc = .ok (.iinc 11 n, 3)) (hn : Int32.ofInt n = v) (hi : 11 < μ.2.2.1) (hq : pc + 3 = q) (k : zk_P Z μ q (a0 :: a1 :: a2 :: a3 :: a4 :: a5 :: a6 :: a7 :: a8 :: a9 :: a10 :: some (.int (x + v)) :: lo) st M R) : zk_P Z μ pc (a0 :: a1 :: a2 :: a3 :: a4 :: a5 :: a6 :: a7 :: a8 :: a9 :: a10 :: some (.int x) :: lo) st M R := zk_iincG q hd rfl hn rfl hi rfl hq k
theorem zk_istore_12 {a0 a1 a2 a3 a4 a5 a6 a7 a8 a9 a10 a11 ai : Option Value} {x : Int32} (q : Nat) (hd : decode μ.2.1 pc = .ok (.istore 12, 2)) (hi : 12 < μ.2.2.1) (hq : pc + 2 = q) (k : zk_P Z μ q (a0 :: a1 :: a2 :: a3 :: a4 :: a5 :: a6 :: a7 :: a8 :: a9 :: a10 :: a11 :: some (.int x) :: lo) st M R) : zk_P Z μ pc (a0 :: a1 :: a2 :: a3 :: a4 :: a5 :: a6 :: a7 :: a8 :: a9 :: a10 :: a11 :: ai :: lo) (.int x :: st) M R := zk_istoreG q hd hi rfl hq k
theorem zk_astore_12 {a0 a1 a2 a3 a4 a5 a6 a7 a8 a9 a10 a11 ai : Option Value} {x : Nat} (q : Nat) (hd : decode μ.2.1 pc = .ok (.astore 12, 2)) (hi : 12 < μ.2.2.1) (hq : pc + 2 = q) (k : zk_P Z μ q (a0 :: a1 :: a2 :: a3 :: a4 :: a5 :: a6 :: a7 :: a8 :: a9 :: a10 :: a11 :: some (.ref x) :: lo) st M R) : zk_P Z μ pc (a0 :: a1 :: a2 :: a3 :: a4 :: a5 :: a6 :: a7 :: a8 :: a9 :: a10 :: a11 :: ai :: lo) (.ref x :: st) M R := zk_astoreG q hd hi rfl hq k
theorem zk_astoreN_12 {a0 a1 a2 a3 a4 a5 a6 a7 a8 a9 a10 a11 ai : Option Value}  (q : Nat) (hd : decode μ.2.1 pc = .ok (.astore 12, 2)) (hi : 12 < μ.2.2.1) (hq : pc + 2 = q) (k : zk_P Z μ q (a0 :: a1 :: a2 :: a3 :: a4 :: a5 :: a6 :: a7 :: a8 :: a9 :: a10 :: a11 :: some .null :: lo) st M R) : zk_P Z μ pc (a0 :: a1 :: a2 :: a3 :: a4 :: a5 :: a6 :: a7 :: a8 :: a9 :: a10 :: a11 :: ai :: lo) (.null :: st) M R := zk_astoreGN q hd hi rfl hq k
theorem zk_iinc_12 {a0 a1 a2 a3 a4 a5 a6 a7 a8 a9 a10 a11 : Option Value} {n : Int} {x v : Int32} (q : Nat) (hd : decode μ.2.1 pc = .ok (.iinc 12 n, 3)) (hn : Int32.ofInt n = v) (hi : 12 < μ.2.2.1) (hq : pc + 3 = q) (k : zk_P Z μ q (a0 :: a1 :: a2 :: a3 :: a4 :: a5 :: a6 :: a7 :: a8 :: a9 :: a10 :: a11 :: some (.int (x + v)) :: lo) st M R) : zk_P Z μ pc (a0 :: a1 :: a2 :: a3 :: a4 :: a5 :: a6 :: a7 :: a8 :: a9 :: a10 :: a11 :: some (.int x) :: lo) st M R := zk_iincG q hd rfl hn rfl hi rfl hq k
theorem zk_istore_13 {a0 a1 a2 a3 a4 a5 a6 a7 a8 a9 a10 a11 a12 ai : Option Value} {x : Int32} (q : Nat) (hd : decode μ.2.1 pc = .ok (.istore 13, 2)) (hi : 13 < μ.2.2.1) (hq : pc + 2 = q) (k : zk_P Z μ q (a0 :: a1 :: a2 :: a3 :: a4 :: a5 :: a6 :: a7 :: a8 :: a9 :: a10 :: a11 :: a12 :: some (.int x) :: lo) st M R) : zk_P Z μ pc (a0 :: a1 :: a2 :: a3 :: a4 :: a5 :: a6 :: a7 :: a8 :: a9 :: a10 :: a11 :: a12 :: ai :: lo) (.int x :: st) M R := zk_istoreG q hd hi rfl hq k
theorem zk_astore_13 {a0 a1 a2 a3 a4 a5 a6 a7 a8 a9 a10 a11 a12 ai : Option Value} {x : Nat} (q : Nat) (hd : decode μ.2.1 pc = .ok (.astore 13, 2)) (hi : 13 < μ.2.2.1) (hq : pc + 2 = q) (k : zk_P Z μ q (a0 :: a1 :: a2 :: a3 :: a4 :: a5 :: a6 :: a7 :: a8 :: a9 :: a10 :: a11 :: a12 :: some (.ref x) :: lo) st M R) : zk_P Z μ pc (a0 :: a1 :: a2 :: a3 :: a4 :: a5 :: a6 :: a7 :: a8 :: a9 :: a10 :: a11 :: a12 :: ai :: lo) (.ref x :: st) M R := zk_astoreG q hd hi rfl hq k
theorem zk_astoreN_13 {a0 a1 a2 a3 a4 a5 a6 a7 a8 a9 a10 a11 a12 ai : Option Value}  (q : Nat) (hd : decode μ.2.1 pc = .ok (.astore 13, 2)) (hi : 13 < μ.2.2.1) (hq : pc + 2 = q) (k : zk_P Z μ q (a0 :: a1 :: a2 :: a3 :: a4 :: a5 :: a6 :: a7 :: a8 :: a9 :: a10 :: a11 :: a12 :: some .null :: lo) st M R) : zk_P Z μ pc (a0 :: a1 :: a2 :: a3 :: a4 :: a5 :: a6 :: a7 :: a8 :: a9 :: a10 :: a11 :: a12 :: ai :: lo) (.null :: st) M R := zk_astoreGN q hd hi rfl hq k
theorem zk_iinc_13 {a0 a1 a2 a3 a4 a5 a6 a7 a8 a9 a10 a11 a12 : Option Value} {n : Int} {x v : Int32} (q : Nat) (hd : decode μ.2.1 pc = .ok (.iinc 13 n, 3)) (hn : Int32.ofInt n = v) (hi : 13 < μ.2.2.1) (hq : pc + 3 = q) (k : zk_P Z μ q (a0 :: a1 :: a2 :: a3 :: a4 :: a5 :: a6 :: a7 :: a8 :: a9 :: a10 :: a11 :: a12 :: some (.int (x + v)) :: lo) st M R) : zk_P Z μ pc (a0 :: a1 :: a2 :: a3 :: a4 :: a5 :: a6 :: a7 :: a8 :: a9 :: a10 :: a11 :: a12 :: some (.int x) :: lo) st M R := zk_iincG q hd rfl hn rfl hi rfl hq k
theorem zk_istore_14 {a0 a1 a2 a3 a4 a5 a6 a7 a8 a9 a10 a11 a12 a13 ai : Option Value} {x : Int32} (q : Nat) (hd : decode μ.2.1 pc = .ok (.istore 14, 2)) (hi : 14 < μ.2.2.1) (hq : pc + 2 = q) (k : zk_P Z μ q (a0 :: a1 :: a2 :: a3 :: a4 :: a5 :: a6 :: a7 :: a8 :: a9 :: a10 :: a11 :: a12 :: a13 :: some (.int x) :: lo) st M R) : zk_P Z μ pc (a0 :: a1 :: a2 :: a3 :: a4 :: a5 :: a6 :: a7 :: a8 :: a9 :: a10 :: a11 :: a12 :: a13 :: ai :: lo) (.int x :: st) M R := zk_istoreG q hd hi rfl hq k
theorem zk_astore_14 {a0 a1 a2 a3 a4 a5 a6 a7 a8 a9 a10 a11 a12 a13 ai : Option Value} {x : Nat} (q : Nat) (hd : decode μ.2.1 pc = .ok (.astore 14, 2)) (hi : 14 < μ.2.2.1) (hq : pc + 2 = q) (k : zk_P Z μ q (a0 :: a1 :: a2 :: a3 :: a4 :: a5 :: a6 :: a7 :: a8 :: a9 :: a10 :: a11 :: a12 :: a13 :: some (.ref x) :: lo) st M R) : zk_P Z μ pc (a0 :: a1 :: a2 :: a3 :: a4 :: a5 :: a6 :: a7 :: a8 :: a9 :: a10 :: a11 :: a12 :: a13 :: ai :: lo) (.ref x :: st) M R := zk_astoreG q hd hi rfl hq k
theorem zk_astoreN_14 {a0 a1 a2 a3 a4 a5 a6 a7 a8 a9 a10 a11 a12 a13 ai : Option Value}  (q : Nat) (hd : decode μ.2.1 pc = .ok (.astore 14, 2)) (hi : 14 < μ.2.2.1) (hq : pc + 2 = q) (k : zk_P Z μ q (a0 :: a1 :: a2 :: a3 :: a4 :: a5 :: a6 :: a7 :: a8 :: a9 :: a10 :: a11 :: a12 :: a13 :: some .null :: lo) st M R) : zk_P Z μ pc (a0 :: a1 :: a2 :: a3 :: a4 :: a5 :: a6 :: a7 :: a8 :: a9 :: a10 :: a11 :: a12 :: a13 :: ai :: lo) (.null :: st) M R := zk_astoreGN q hd hi rfl hq k
theorem zk_iinc_14 {a0 a1 a2 a3 a4 a5 a6 a7 a8 a9 a10 a11 a12 a13 : Option Value} {n : Int} {x v : Int32} (q : Nat) (hd : decode μ.2.1 pc = .ok (.iinc 14 n, 3)) (hn : Int32.ofInt n = v) (hi : 14 < μ.2.2.1) (hq : pc + 3 = q) (k : zk_P Z μ q (a0 :: a1 :: a2 :: a3 :: a4 :: a5 :: a6 :: a7 :: a8 :: a9 :: a10 :: a11 :: a12 :: a13 :: some (.int (x + v)) :: lo) st M R) : zk_P Z μ pc (a0 :: a1 :: a2 :: a3 :: a4 :: a5 :: a6 :: a7 :: a8 :: a9 :: a10 :: a11 :: a12 :: a13 :: some (.int x) :: lo) st M R := zk_iincG q hd rfl hn rfl hi rfl hq k
theorem zk_istore_15 {a0 a1 a2 a3 a4 a5 a6 a7 a8 a9 a10 a11 a12 a13 a14 ai : Option Value} {x : Int32} (q : Nat) (hd : decode μ.2.1 pc = .ok (.istore 15, 2)) (hi : 15 < μ.2.2.1) (hq : pc + 2 = q) (k : zk_P Z μ q (a0 :: a1 :: a2 :: a3 :: a4 :: a5 :: a6 :: a7 :: a8 :: a9 :: a10 :: a11 :: a12 :: a13 :: a14 :: some (.int x) :: lo) st M R) : zk_P Z μ pc (a0 :: a1 :: a2 :: a3 :: a4 :: a5 :: a6 :: a7 :: a8 :: a9 :: a10 :: a11 :: a12 :: a13 :: a14 :: ai :: lo) (.int x :: st) M R := zk_istoreG q hd hi rfl hq k
theorem zk_astore_15 {a0 a1 a2 a3 a4 a5 a6 a7 a8 a9 a10 a11 a12 a13 a14 ai : Option Value} {x : Nat} (q : Nat) (hd : decode μ.2.1 pc = .ok (.astore 15, 2)) (hi : 15 < μ.2.2.1) (hq : pc + 2 = q) (k : zk_P Z μ q (a0 :: a1 :: a2 :: a3 :: a4 :: a5 :: a6 :: a7 :: a8 :: a9 :: a10 :: a11 :: a12 :: a13 :: a14 :: some (.ref x) :: lo) st M R) : zk_P Z μ pc (a0 :: a1 :: a2 :: a3 :: a4 :: a5 :: a6 :: a7 :: a8 :: a9 :: a10 :: a11 :: a12 :: a13 :: a14 :: ai :: lo) (.ref x :: st) M R := zk_astoreG q hd hi rfl hq k
theorem zk_astoreN_15 {a0 a1 a2 a3 a4 a5 a6 a7 a8 a9 a10 a11 a12 a13 a14 ai : Option Value}  (q : Nat) (hd : decode μ.2.1 pc = .ok (.astore 15, 2)) (hi : 15 < μ.2.2.1) (hq : pc + 2 = q) (k : zk_P Z μ q (a0 :: a1 :: a2 :: a3 :: a4 :: a5 :: a6 :: a7 :: a8 :: a9 :: a10 :: a11 :: a12 :: a13 :: a14 :: some .null :: lo) st M R) : zk_P Z μ pc (a0 :: a1 :: a2 :: a3 :: a4 :: a5 :: a6 :: a7 :: a8 :: a9 :: a10 :: a11 :: a12 :: a13 :: a14 :: ai :: lo) (.null :: st) M R := zk_astoreGN q hd hi rfl hq k
theorem zk_iinc_15 {a0 a1 a2 a3 a4 a5 a6 a7 a8 a9 a10 a11 a12 a13 a14 : Option Value} {n : Int} {x v : Int32} (q : Nat) (hd : decode μ.2.1 pc = .ok (.iinc 15 n, 3)) (hn : Int32.ofInt n = v) (hi : 15 < μ.2.2.1) (hq : pc + 3 = q) (k : zk_P Z μ q (a0 :: a1 :: a2 :: a3 :: a4 :: a5 :: a6 :: a7 :: a8 :: a9 :: a10 :: a11 :: a12 :: a13 :: a14 :: some (.int (x + v)) :: lo) st M R) : zk_P Z μ pc (a0 :: a1 :: a2 :: a3 :: a4 :: a5 :: a6 :: a7 :: a8 :: a9 :: a10 :: a11 :: a12 :: a13 :: a14 :: some (.int x) :: lo) st M R := zk_iincG q hd rfl hn rfl hi rfl hq k
theorem zk_istore_16 {a0 a1 a2 a3 a4 a5 a6 a7 a8 a9 a10 a11 a12 a13 a14 a15 ai : Option Value} {x : Int32} (q : Nat) (hd : decode μ.2.1 pc = .ok (.istore 16, 2)) (hi : 16 < μ.2.2.1) (hq : pc + 2 = q) (k : zk_P Z μ q (a0 :: a1 :: a2 :: a3 :: a4 :: a5 :: a6 :: a7 :: a8 :: a9 :: a10 :: a11 :: a12 :: a13 :: a14 :: a15 :: some (.int x) :: lo) st M R) : zk_P Z μ pc (a0 :: a1 :: a2 :: a3 :: a4 :: a5 :: a6 :: a7 :: a8 :: a9 :: a10 :: a11 :: a12 :: a13 :: a14 :: a15 :: ai :: lo) (.int x :: st) M R := zk_istoreG q hd hi rfl hq k
theorem zk_astore_16 {a0 a1 a2 a3 a4 a5 a6 a7 a8 a9 a10 a11 a12 a13 a14 a15 ai : Option Value} {x : Nat} (q : Nat) (hd : decode μ.2.1 pc = .ok (.astore 16, 2)) (hi : 16 < μ.2.2.1) (hq : pc + 2 = q) (k : zk_P Z μ q (a0 :: a1 :: a2 :: a3 :: a4 :: a5 :: a6 :: a7 :: a8 :: a9 :: a10 :: a11 :: a12 :: a13 :: a14 :: a15 :: some (.ref x) :: lo) st M R) : zk_P Z μ pc (a0 :: a1 :: a2 :: a3 :: a4 :: a5 :: a6 :: a7 :: a8 :: a9 :: a10 :: a11 :: a12 :: a13 :: a14 :: a15 :: ai :: lo) (.ref x :: st) M R := zk_astoreG q hd hi rfl hq k
theorem zk_astoreN_16 {a0 a1 a2 a3 a4 a5 a6 a7 a8 a9 a10 a11 a12 a13 a14 a15 ai : Option Value}  (q : Nat) (hd : decode μ.2.1 pc = .ok (.astore 16, 2)) (hi : 16 < μ.2.2.1) (hq : pc + 2 = q) (k : zk_P Z μ q (a0 :: a1 :: a2 :: a3 :: a4 :: a5 :: a6 :: a7 :: a8 :: a9 :: a10 :: a11 :: a12 :: a13 :: a14 :: a15 :: some .null :: lo) st M R) : zk_P Z μ pc (a0 :: a1 :: a2 :: a3 :: a4 :: a5 :: a6 :: a7 :: a8 :: a9 :: a10 :: a11 :: a12 :: a13 :: a14 :: a15 :: ai :: lo) (.null :: st) M R := zk_astoreGN q hd hi rfl hq k
theorem zk_iinc_16 {a0 a1 a2 a3 a4 a5 a6 a7 a8 a9 a10 a11 a12 a13 a14 a15 : Option Value} {n : Int} {x v : Int32} (q : Nat) (hd : decode μ.2.1 pc = .ok (.iinc 16 n, 3)) (hn : Int32.ofInt n = v) (hi : 16 < μ.2.2.1) (hq : pc + 3 = q) (k : zk_P Z μ q (a0 :: a1 :: a2 :: a3 :: a4 :: a5 :: a6 :: a7 :: a8 :: a9 :: a10 :: a11 :: a12 :: a13 :: a14 :: a15 :: some (.int (x + v)) :: lo) st M R) : zk_P Z μ pc (a0 :: a1 :: a2 :: a3 :: a4 :: a5 :: a6 :: a7 :: a8 :: a9 :: a10 :: a11 :: a12 :: a13 :: a14 :: a15 :: some (.int x) :: lo) st M R := zk_iincG q hd rfl hn rfl hi rfl hq k
theorem zk_istore_17 {a0 a1 a2 a3 a4 a5 a6 a7 a8 a9 a10 a11 a12 a13 a14 a15 a16 ai : Option Value} {x : Int32} (q : Nat) (hd : decode μ.2.1 pc = .ok (.istore 17, 2)) (hi : 17 < μ.2.2.1) (hq : pc + 2 = q) (k : zk_P Z μ q (a0 :: a1 :: a2 :: a3 :: a4 :: a5 :: a6 :: a7 :: a8 :: a9 :: a10 :: a11 :: a12 :: a13 :: a14 :: a15 :: a16 :: some (.int x) :: lo) st M R) : zk_P Z μ pc (a0 :: a1 :: a2 :: a3 :: a4 :: a5 :: a6 :: a7 :: a8 :: a9 :: a10 :: a11 :: a12 :: a13 :: a14 :: a15 :: a16 :: ai :: lo) (.int x :: st) M R := zk_istoreG q hd hi rfl hq k
theorem zk_astore_17 {a0 a1 a2 a3 a4 a5 a6 a7 a8 a9 a10 a11 a12 a13 a14 a15 a16 ai : Option Value} {x : Nat} (q : Nat) (hd : decode μ.2.1 pc = .ok (.astore 17, 2)) (hi : 17 < μ.2.2.1) (hq : pc + 2 = q) (k : zk_P Z μ q (a0 :: a1 :: a2 :: a3 :: a4 :: a5 :: a6 :: a7 :: a8 :: a9 :: a10 :: a11 :: a12 :: a13 :: a14 :: a15 :: a16 :: some (.ref x) :: lo) st M R) : zk_P Z μ pc (a0 :: a1 :: a2 :: a3 :: a4 :: a5 :: a6 :: a7 :: a8 :: a9 :: a10 :: a11 :: a12 :: a13 :: a14 :: a15 :: a16 :: ai :: lo) (.ref x :: st) M R := zk_astoreG q hd hi rfl hq k
theorem zk_astoreN_17 {a0 a1 a2 a3 a4 a5 a6 a7 a8 a9 a10 a11 a12 a13 a14 a15 a16 ai : Option Value}  (q : Nat) (hd : decode μ.2.1 pc = .ok (.astore 17, 2)) (hi : 17 < μ.2.2.1) (hq : pc + 2 = q) (k : zk_P Z μ q (a0 :: a1 :: a2 :: a3 :: a4 :: a5 :: a6 :: a7 :: a8 :: a9 :: a10 :: a11 :: a12 :: a13 :: a14 :: a15 :: a16 :: some .null :: lo) st M R) : zk_P Z μ pc (a0 :: a1 :: a2 :: a3 :: a4 :: a5 :: a6 :: a7 :: a8 :: a9 :: a10 :: a11 :: a12 :: a13 :: a14 :: a15 :: a16 :: ai :: lo) (.null :: st) M R := zk_astoreGN q hd hi rfl hq k
theorem zk_iinc_17 {a0 a1 a2 a3 a4 a5 a6 a7 a8 a9 a10 a11 a12 a13 a14 a15 a16 : Option Value} {n : Int} {x v : Int32} (q : Nat) (hd : decode μ.2.1 pc = .ok (.iinc 17 n, 3)) (hn : Int32.ofInt n = v) (hi : 17 < μ.2.2.1) (hq : pc + 3 = q) (k : zk_P Z μ q (a0 :: a1 :: a2 :: a3 :: a4 :: a5 :: a6 :: a7 :: a8 :: a9 :: a10 :: a11 :: a12 :: a13 :: a14 :: a15 :: a16 :: some (.int (x + v)) :: lo) st M R) : zk_P Z μ pc (a0 :: a1 :: a2 :: a3 :: a4 :: a5 :: a6 :: a7 :: a8 :: a9 :: a10 :: a11 :: a12 :: a13 :: a14 :: a15 :: a16 :: some (.int x) :: lo) st M R := zk_iincG q hd rfl hn rfl hi rfl hq k
theorem zk_istore_18 {a0 a1 a2 a3 a4 a5 a6 a7 a8 a9 a10 a11 a12 a13 a14 a15 a16 a17 ai : Option Value} {x : Int32} (q : Nat) (hd : decode μ.2.1 pc = .ok (.istore 18, 2)) (hi : 18 < μ.2.2.1) (hq : pc + 2 = q) (k : zk_P Z μ q (a0 :: a1 :: a2 :: a3 :: a4 :: a5 :: a6 :: a7 :: a8 :: a9 :: a10 :: a11 :: a12 :: a13 :: a14 :: a15 :: a16 :: a17 :: some (.int x) :: lo) st M R) : zk_P Z μ pc (a0 :: a1 :: a2 :: a3 :: a4 :: a5 :: a6 :: a7 :: a8 :: a9 :: a10 :: a11 :: a12 :: a13 :: a14 :: a15 :: a16 :: a17 :: ai :: lo) (.int x :: st) M R := zk_istoreG q hd hi rfl hq k
theorem zk_astore_18 {a0 a1 a2 a3 a4 a5 a6 a7 a8 a9 a10 a11 a12 a13 a14 a15 a16 a17 ai : Option Value} {x : Nat} (q : Nat) (hd : decode μ.2.1 pc = .ok (.astore 18, 2)) (hi : 18 < μ.2.2.1) (hq : pc + 2 = q) (k : zk_P Z μ q (a0 :: a1 :: a2 :: a3 :: a4 :: a5 :: a6 :: a7 :: a8 :: a9 :: a10 :: a11 :: a12 :: a13 :: a14 :: a15 :: a16 :: a17 :: some (.ref x) :: lo) st M R) : zk_P Z μ pc (a0 :: a1 :: a2 :: a3 :: a4 :: a5 :: a6 :: a7 :: a8 :: a9 :: a10 :: a11 :: a12 :: a13 :: a14 :: a15 :: a16 :: a17 :: ai :: lo) (.ref x :: st) M R := zk_astoreG q hd hi rfl hq k
theorem zk_astoreN_18 {a0 a1 a2 a3 a4 a5 a6 a7 a8 a9 a10 a11 a12 a13 a14 a15 a16 a17 ai : Option Value}  (q : Nat) (hd : decode μ.2.1 pc = .ok (.astore 18, 2)) (hi : 18 < μ.2.2.1) (hq : pc + 2 = q) (k : zk_P Z μ q (a0 :: a1 :: a2 :: a3 :: a4 :: a5 :: a6 :: a7 :: a8 :: a9 :: a10 :: a11 :: a12 :: a13 :: a14 :: a15 :: a16 :: a17 :: some .null :: lo) st M R) : zk_P Z μ pc (a0 :: a1 :: a2 :: a3 :: a4 :: a5 :: a6 :: a7 :: a8 :: a9 :: a10 :: a11 :: a12 :: a13 :: a14 :: a15 :: a16 :: a17 :: ai :: lo) (.null :: st) M R := zk_astoreGN q hd hi rfl hq k
theorem zk_iinc_18 {a0 a1 a2 a3 a4 a5 a6 a7 a8 a9 a10 a11 a12 a13 a14 a15 a16 a17 : Option Value} {n : Int} {x v : Int32} (q : Nat) (hd : decode μ.2.1 pc = .ok (.iinc 18 n, 3)) (hn : Int32.ofInt n = v) (hi : 18 < μ.2.2.1) (hq : pc + 3 = q) (k : zk_P Z μ q (a0 :: a1 :: a2 :: a3 :: a4 :: a5 :: a6 :: a7 :: a8 :: a9 :: a10 :: a11 :: a12 :: a13 :: a14 :: a15 :: a16 :: a17 :: some (.int (x + v)) :: lo) st M R) : zk_P Z μ pc (a0 :: a1 :: a2 :: a3 :: a4 :: a5 :: a6 :: a7 :: a8 :: a9 :: a10 :: a11 :: a12 :: a13 :: a14 :: a15 :: a16 :: a17 :: some (.int x) :: lo) st M R := zk_iincG q hd rfl hn rfl hi rfl hq k
theorem zk_istore_19 {a0 a1 a2 a3 a4 a5 a6 a7 a8 a9 a10 a11 a12 a13 a14 a15 a16 a17 a18 ai : Option Value} {x : Int32} (q : Nat) (hd : decode μ.2.1 pc = .ok (.istore 19, 2)) (hi : 19 < μ.2.2.1) (hq : pc + 2 = q) (k : zk_P Z μ q (a0 :: a1 :: a2 :: a3 :: a4 :: a5 :: a6 :: a7 :: a8 :: a9 :: a10 :: a11 :: a12 :: a13 :: a14 :: a15 :: a16 :: a17 :: a18 :: some (.int x) :: lo) st M R) : zk_P Z μ pc (a0 :: a1 :: a2 :: a3 :: a4 :: a5 :: a6 :: a7 :: a8 :: a9 :: a10 :: a11 :: a12 :: a13 :: a14 :: a15 :: a16 :: a17 :: a18 :: ai :: lo) (.int x :: st) M R := zk_istoreG q hd hi rfl hq k
theorem zk_astore_19 {a0 a1 a2 a3 a4 a5 a6 a7 a8 a9 a10 a11 a12 a13 a14 a15 a16 a17 a18 ai : Option Value} {x : Nat} (q : Nat) (hd : decode μ.2.1 pc = .ok (.astore 19, 2)) (hi : 19 < μ.2.2.1) (hq : pc + 2 = q) (k : zk_P Z μ q (a0 :: a1 :: a2 :: a3 :: a4 :: a5 :: a6 :: a7 :: a8 :: a9 :: a10 :: a11 :: a12 :: a13 :: a14 :: a15 :: a16 :: a17 :: a18 :: some (.ref x) :: lo) st M R) : zk_P Z μ pc (a0 :: a1 :: a2 :: a3 :: a4 :: a5 :: a6 :: a7 :: a8 :: a9 :: a10 :: a11 :: a12 :: a13 :: a14 :: a15 :: a16 :: a17 :: a18 :: ai :: lo) (.ref x :: st) M R := zk_astoreG q hd hi rfl hq k
theorem zk_astoreN_19 {a0 a1 a2 a3 a4 a5 a6 a7 a8 a9 a10 a11 a12 a13 a14 a15 a16 a17 a18 ai : Option Value}  (q : Nat) (hd : decode μ.2.1 pc = .ok (.astore 19, 2)) (hi : 19 < μ.2.2.1) (hq : pc + 2 = q) (k : zk_P Z μ q (a0 :: a1 :: a2 :: a3 :: a4 :: a5 :: a6 :: a7 :: a8 :: a9 :: a10 :: a11 :: a12 :: a13 :: a14 :: a15 :: a16 :: a17 :: a18 :: some .null :: lo) st M R) : zk_P Z μ pc (a0 :: a1 :: a2 :: a3 :: a4 :: a5 :: a6 :: a7 :: a8 :: a9 :: a10 :: a11 :: a12 :: a13 :: a14 :: a15 :: a16 :: a17 :: a18 :: ai :: lo) (.null :: st) M R := zk_astoreGN q hd hi rfl hq k
theorem zk_iinc_19 {a0 a1 a2 a3 a4 a5 a6 a7 a8 a9 a10 a11 a12 a13 a14 a15 a16 a17 a18 : Option Value} {n : Int} {x v : Int32} (q : Nat) (hd : decode μ.2.1 pc = .ok (.iinc 19 n, 3)) (hn : Int32.ofInt n = v) (hi : 19 < μ.2.2.1) (hq : pc + 3 = q) (k : zk_P Z μ q (a0 :: a1 :: a2 :: a3 :: a4 :: a5 :: a6 :: a7 :: a8 :: a9 :: a10 :: a11 :: a12 :: a13 :: a14 :: a15 :: a16 :: a17 :: a18 :: some (.int (x + v)) :: lo) st M R) : zk_P Z μ pc (a0 :: a1 :: a2 :: a3 :: a4 :: a5 :: a6 :: a7 :: a8 :: a9 :: a10 :: a11 :: a12 :: a13 :: a14 :: a15 :: a16 :: a17 :: a18 :: some (.int x) :: lo) st M R := zk_iincG q hd rfl hn rfl hi rfl hq k
theorem zk_istore_20 {a0 a1 a2 a3 a4 a5 a6 a7 a8 a9 a10 a11 a12 a13 a14 a15 a16 a17 a18 a19 ai : Option Value} {x : Int32} (q : Nat) (hd : decode μ.2.1 pc = .ok (.istore 20, 2)) (hi : 20 < μ.2.2.1) (hq : pc + 2 = q) (k : zk_P Z μ q (a0 :: a1 :: a2 :: a3 :: a4 :: a5 :: a6 :: a7 :: a8 :: a9 :: a10 :: a11 :: a12 :: a13 :: a14 :: a15 :: a16 :: a17 :: a18 :: a19 :: some (.int x) :: lo) st M R) : zk_P Z μ pc (a0 :: a1 :: a2 :: a3 :: a4 :: a5 :: a6 :: a7 :: a8 :: a9 :: a10 :: a11 :: a12 :: a13 :: a14 :: a15 :: a16 :: a17 :: a18 :: a19 :: ai :: lo) (.int x :: st) M R := zk_istoreG q hd hi rfl hq k
theorem zk_astore_20 {a0 a1 a2 a3 a4 a5 a6 a7 a8 a9 a10 a11 a12 a13 a14 a15 a16 a17 a18 a19 ai : Option Value} {x : Nat} (q : Nat) (hd : decode μ.2.1 pc = .ok (.astore 20, 2)) (hi : 20 < μ.2.2.1) (hq : pc + 2 = q) (k : zk_P Z μ q (a0 :: a1 :: a2 :: a3 :: a4 :: a5 :: a6 :: a7 :: a8 :: a9 :: a10 :: a11 :: a12 :: a13 :: a14 :: a15 :: a16 :: a17 :: a18 :: a19 :: some (.ref x) :: lo) st M R) : zk_P Z μ pc (a0 :: a1 :: a2 :: a3 :: a4 :: a5 :: a6 :: a7 :: a8 :: a9 :: a10 :: a11 :: a12 :: a13 :: a14 :: a15 :: a16 :: a17 :: a18 :: a19 :: ai :: lo) (.ref x :: st) M R := zk_astoreG q hd hi rfl hq k
theorem zk_astoreN_20 {a0 a1 a2 a3 a4 a5 a6 a7 a8 a9 a10 a11 a12 a13 a14 a15 a16 a17 a18 a19 ai : Option Value}  (q : Nat) (hd : decode μ.2.1 pc = .ok (.astore 20, 2)) (hi : 20 < μ.2.2.1) (hq : pc + 2 = q) (k : zk_P Z μ q (a0 :: a1 :: a2 :: a3 :: a4 :: a5 :: a6 :: a7 :: a8 :: a9 :: a10 :: a11 :: a12 :: a13 :: a14 :: a15 :: a16 :: a17 :: a18 :: a19 :: some .null :: lo) st M R) : zk_P Z μ pc (a0 :: a1 :: a2 :: a3 :: a4 :: a5 :: a6 :: a7 :: a8 :: a9 :: a10 :: a11 :: a12 :: a13 :: a14 :: a15 :: a16 :: a17 :: a18 :: a19 :: ai :: lo) (.null :: st) M R := zk_astoreGN q hd hi rfl hq k
theorem zk_iinc_20 {a0 a1 a2 a3 a4 a5 a6 a7 a8 a9 a10 a11 a12 a13 a14 a15 a16 a17 a18 a19 : Option Value} {n : Int} {x v : Int32} (q : Nat) (hd : decode μ.2.1 pc = .ok (.iinc 20 n, 3)) (hn : Int32.ofInt n = v) (hi : 20 < μ.2.2.1) (hq : pc + 3 = q) (k : zk_P Z μ q (a0 :: a1 :: a2 :: a3 :: a4 :: a5 :: a6 :: a7 :: a8 :: a9 :: a10 :: a11 :: a12 :: a13 :: a14 :: a15 :: a16 :: a17 :: a18 :: a19 :: some (.int (x + v)) :: lo) st M R) : zk_P Z μ pc (a0 :: a1 :: a2 :: a3 :: a4 :: a5 :: a6 :: a7 :: a8 :: a9 :: a10 :: a11 :: a12 :: a13 :: a14 :: a15 :: a16 :: a17 :: a18 :: a19 :: some (.int x) :: lo) st M R := zk_iincG q hd rfl hn rfl hi rfl hq k
theorem zk_istore_21 {a0 a1 a2 a3 a4 a5 a6 a7 a8 a9 a10 a11 a12 a13 a14 a15 a16 a17 a18 a19 a20 ai : Option Value} {x : Int32} (q : Nat) (hd : decode μ.2.1 pc = .ok (.istore 21, 2)) (hi : 21 < μ.2.2.1) (hq : pc + 2 = q) (k : zk_P Z μ q (a0 :: a1 :: a2 :: a3 :: a4 :: a5 :: a6 :: a7 :: a8 :: a9 :: a10 :: a11 :: a12 :: a13 :: a14 :: a15 :: a16 :: a17 :: a18 :: a19 :: a20 :: some (.int x) :: lo) st M R) : zk_P Z μ pc (a0 :: a1 :: a2 :: a3 :: a4 :: a5 :: a6 :: a7 :: a8 :: a9 :: a10 :: a11 :: a12 :: a13 :: a14 :: a15 :: a16 :: a17 :: a18 :: a19 :: a20 :: ai :: lo) (.int x :: st) M R := zk_istoreG q hd hi rfl hq k
theorem zk_astore_21 {a0 a1 a2 a3 a4 a5 a6 a7 a8 a9 a10 a11 a12 a13 a14 a15 a16 a17 a18 a19 a20 ai : Option Value} {x : Nat} (q : Nat) (hd : decode μ.2.1 pc = .ok (.astore 21, 2)) (hi : 21 < μ.2.2.1) (hq : pc + 2 = q) (k : zk_P Z μ q (a0 :: a1 :: a2 :: a3 :: a4 :: a5 :: a6 :: a7 :: a8 :: a9 :: a10 :: a11 :: a12 :: a13 :: a14 :: a15 :: a16 :: a17 :: a18 :: a19 :: a20 :: some (.ref x) :: lo) st M R) : zk_P Z μ pc (a0 :: a1 :: a2 :: a3 :: a4 :: a5 :: a6 :: a7 :: a8 :: a9 :: a10 :: a11 :: a12 :: a13 :: a14 :: a15 :: a16 :: a17 :: a18 :: a19 :: a20 :: ai :: lo) (.ref x :: st) M R := zk_astoreG q hd hi rfl hq k
theorem zk_astoreN_21 {a0 a1 a2 a3 a4 a5 a6 a7 a8 a9 a10 a11 a12 a13 a14 a15 a16 a17 a18 a19 a20 ai : Option Value}  (q : Nat) (hd : decode μ.2.1 pc = .ok (.astore 21, 2)) (hi : 21 < μ.2.2.1) (hq : pc + 2 = q) (k : zk_P Z μ q (a0 :: a1 :: a2 :: a3 :: a4 :: a5 :: a6 :: a7 :: a8 :: a9 :: a10 :: a11 :: a12 :: a13 :: a14 :: a15 :: a16 :: a17 :: a18 :: a19 :: a20 :: some .null :: lo) st M R) : zk_P Z μ pc (a0 :: a1 :: a2 :: a3 :: a4 :: a5 :: a6 :: a7 :: a8 :: a9 :: a10 :: a11 :: a12 :: a13 :: a14 :: a15 :: a16 :: a17 :: a18 :: a19 :: a20 :: ai :: lo) (.null :: st) M R := zk_astoreGN q hd hi rfl hq k
theorem zk_iinc_21 {a0 a1 a2 a3 a4 a5 a6 a7 a8 a9 a10 a11 a12 a13 a14 a15 a16 a17 a18 a19 a20 : Option Value} {n : Int} {x v : Int32} (q : Nat) (hd : decode μ.2.1 pc = .ok (.iinc 21 n, 3)) (hn : Int32.ofInt n = v) (hi : 21 < μ.2.2.1) (hq : pc + 3 = q) (k : zk_P Z μ q (a0 :: a1 :: a2 :: a3 :: a4 :: a5 :: a6 :: a7 :: a8 :: a9 :: a10 :: a11 :: a12 :: a13 :: a14 :: a15 :: a16 :: a17 :: a18 :: a19 :: a20 :: some (.int (x + v)) :: lo) st M R) : zk_P Z μ pc (a0 :: a1 :: a2 :: a3 :: a4 :: a5 :: a6 :: a7 :: a8 :: a9 :: a10 :: a11 :: a12 :: a13 :: a14 :: a15 :: a16 :: a17 :: a18 :: a19 :: a20 :: some (.int x) :: lo) st M R := zk_iincG q hd rfl hn rfl hi rfl hq k
theorem zk_istore_22 {a0 a1 a2 a3 a4 a5 a6 a7 a8 a9 a10 a11 a12 a13 a14 a15 a16 a17 a18 a19 a20 a21 ai : Option Value} {x : Int32} (q : Nat) (hd : decode μ.2.1 pc = .ok (.istore 22, 2)) (hi : 22 < μ.2.2.1) (hq : pc + 2 = q) (k : zk_P Z μ q (a0 :: a1 :: a2 :: a3 :: a4 :: a5 :: a6 :: a7 :: a8 :: a9 :: a10 :: a11 :: a12 :: a13 :: a14 :: a15 :: a16 :: a17 :: a18 :: a19 :: a20 :: a21 :: some (.int x) :: lo) st M R) : zk_P Z μ pc (a0 :: a1 :: a2 :: a3 :: a4 :: a5 :: a6 :: a7 :: a8 :: a9 :: a10 :: a11 :: a12 :: a13 :: a14 :: a15 :: a16 :: a17 :: a18 :: a19 :: a20 :: a21 :: ai :: lo) (.int x :: st) M R := zk_istoreG q hd hi rfl hq k
theorem zk_astore_22 {a0 a1 a2 a3 a4 a5 a6 a7 a8 a9 a10 a11 a12 a13 a14 a15 a16 a17 a18 a19 a20 a21 ai : Option Value} {x : Nat} (q : Nat) (hd : decode μ.2.1 pc = .ok (.astore 22, 2)) (hi : 22 < μ.2.2.1) (hq : pc + 2 = q) (k : zk_P Z μ q (a0 :: a1 :: a2 :: a3 :: a4 :: a5 :: a6 :: a7 :: a8 :: a9 :: a10 :: a11 :: a12 :: a13 :: a14 :: a15 :: a16 :: a17 :: a18 :: a19 :: a20 :: a21 :: some (.ref x) :: lo) st M R) : zk_P Z μ pc (a0 :: a1 :: a2 :: a3 :: a4 :: a5 :: a6 :: a7 :: a8 :: a9 :: a10 :: a11 :: a12 :: a13 :: a14 :: a15 :: a16 :: a17 :: a18 :: a19 :: a20 :: a21 :: ai :: lo) (.ref x :: st) M R := zk_astoreG q hd hi rfl hq k
theorem zk_astoreN_22 {a0 a1 a2 a3 a4 a5 a6 a7 a8 a9 a10 a11 a12 a13 a14 a15 a16 a17 a18 a19 a20 a21 ai : Option Value}  (q : Nat) (hd : decode μ.2.1 pc = .ok (.astore 22, 2)) (hi : 22 < μ.2.2.1) (hq : pc + 2 = q) (k : zk_P Z μ q (a0 :: a1 :: a2 :: a3 :: a4 :: a5 :: a6 :: a7 :: a8 :: a9 :: a10 :: a11 :: a12 :: a13 :: a14 :: a15 :: a16 :: a17 :: a18 :: a19 :: a20 :: a21 :: some .null :: lo) st M R) : zk_P Z μ pc (a0 :: a1 :: a2 :: a3 :: a4 :: a5 :: a6 :: a7 :: a8 :: a9 :: a10 :: a11 :: a12 :: a13 :: a14 :: a15 :: a16 :: a17 :: a18 :: a19 :: a20 :: a21 :: ai :: lo) (.null :: st) M R := zk_astoreGN q hd hi rfl hq k
theorem zk_iinc_22 {a0 a1 a2 a3 a4 a5 a6 a7 a8 a9 a10 a11 a12 a13 a14 a15 a16 a17 a18 a19 a20 a21 : Option Value} {n : Int} {x v : Int32} (q : Nat) (hd : decode μ.2.1 pc = .ok (.iinc 22 n, 3)) (hn : Int32.ofInt n = v) (hi : 22 < μ.2.2.1) (hq : pc + 3 = q) (k : zk_P Z μ q (a0 :: a1 :: a2 :: a3 :: a4 :: a5 :: a6 :: a7 :: a8 :: a9 :: a10 :: a11 :: a12 :: a13 :: a14 :: a15 :: a16 :: a17 :: a18 :: a19 :: a20 :: a21 :: some (.int (x + v)) :: lo) st M R) : zk_P Z μ pc (a0 :: a1 :: a2 :: a3 :: a4 :: a5 :: a6 :: a7 :: a8 :: a9 :: a10 :: a11 :: a12 :: a13 :: a14 :: a15 :: a16 :: a17 :: a18 :: a19 :: a20 :: a21 :: some (.int x) :: lo) st M R := zk_iincG q hd rfl hn rfl hi rfl hq k
theorem zk_istore_23 {a0 a1 a2 a3 a4 a5 a6 a7 a8 a9 a10 a11 a12 a13 a14 a15 a16 a17 a18 a19 a20 a21 a22 ai : Option Value} {x : Int32} (q : Nat) (hd : decode μ.2.1 pc = .ok (.istore 23, 2)) (hi : 23 < μ.2.2.1) (hq : pc + 2 = q) (k : zk_P Z μ q (a0 :: a1 :: a2 :: a3 :: a4 :: a5 :: a6 :: a7 :: a8 :: a9 :: a10 :: a11 :: a12 :: a13 :: a14 :: a15 :: a16 :: a17 :: a18 :: a19 :: a20 :: a21 :: a22 :: some (.int x) :: lo) st M R) : zk_P Z μ pc (a0 :: a1 :: a2 :: a3 :: a4 :: a5 :: a6 :: a7 :: a8 :: a9 :: a10 :: a11 :: a12 :: a13 :: a14 :: a15 :: a16 :: a17 :: a18 :: a19 :: a20 :: a21 :: a22 :: ai :: lo) (.int x :: st) M R := zk_istoreG q hd hi rfl hq k
theorem zk_astore_23 {a0 a1 a2 a3 a4 a5 a6 a7 a8 a9 a10 a11 a12 a13 a14 a15 a16 a17 a18 a19 a20 a21 a22 ai : Option Value} {x : Nat} (q : Nat) (hd : decode μ.2.1 pc = .ok (.astore 23, 2)) (hi : 23 < μ.2.2.1) (hq : pc + 2 = q) (k : zk_P Z μ q (a0 :: a1 :: a2 :: a3 :: a4 :: a5 :: a6 :: a7 :: a8 :: a9 :: a10 :: a11 :: a12 :: a13 :: a14 :: a15 :: a16 :: a17 :: a18 :: a19 :: a20 :: a21 :: a22 :: some (.ref x) :: lo) st M R) : zk_P Z μ pc (a0 :: a1 :: a2 :: a3 :: a4 :: a5 :: a6 :: a7 :: a8 :: a9 :: a10 :: a11 :: a12 :: a13 :: a14 :: a15 :: a16 :: a17 :: a18 :: a19 :: a20 :: a21 :: a22 :: ai :: lo) (.ref x :: st) M R := zk_astoreG q hd hi rfl hq k
theorem zk_astoreN_23 {a0 a1 a2 a3 a4 a5 a6 a7 a8 a9 a10 a11 a12 a13 a14 a15 a16 a17 a18 a19 a20 a21 a22 ai : Option Value}  (q : Nat) (hd : decode μ.2.1 pc = .ok (.astore 23, 2)) (hi : 23 < μ.2.2.1) (hq : pc + 2 = q) (k : zk_P Z μ q (a0 :: a1 :: a2 :: a3 :: a4 :: a5 :: a6 :: a7 :: a8 :: a9 :: a10 :: a11 :: a12 :: a13 :: a14 :: a15 :: a16 :: a17 :: a18 :: a19 :: a20 :: a21 :: a22 :: some .null :: lo) st M R) : zk_P Z μ pc (a0 :: a1 :: a2 :: a3 :: a4 :: a5 :: a6 :: a7 :: a8 :: a9 :: a10 :: a11 :: a12 :: a13 :: a14 :: a15 :: a16 :: a17 :: a18 :: a19 :: a20 :: a21 :: a22 :: ai :: lo) (.null :: st) M R := zk_astoreGN q hd hi rfl hq k
theorem zk_iinc_23 {a0 a1 a2 a3 a4 a5 a6 a7 a8 a9 a10 a11 a12 a13 a14 a15 a16 a17 a18 a19 a20 a21 a22 : Option Value} {n : Int} {x v : Int32} (q : Nat) (hd : decode μ.2.1 pc = .ok (.iinc 23 n, 3)) (hn : Int32.ofInt n = v) (hi : 23 < μ.2.2.1) (hq : pc + 3 = q) (k : zk_P Z μ q (a0 :: a1 :: a2 :: a3 :: a4 :: a5 :: a6 :: a7 :: a8 :: a9 :: a10 :: a11 :: a12 :: a13 :: a14 :: a15 :: a16 :: a17 :: a18 :: a19 :: a20 :: a21 :: a22 :: some (.int (x + v)) :: lo) st M R) : zk_P Z μ pc (a0 :: a1 :: a2 :: a3 :: a4 :: a5 :: a6 :: a7 :: a8 :: a9 :: a10 :: a11 :: a12 :: a13 :: a14 :: a15 :: a16 :: a17 :: a18 :: a19 :: a20 :: a21 :: a22 :: some (.int x) :: lo) st M R := zk_iincG q hd rfl hn rfl hi rfl hq k
theorem zk_ireturn {x : Int32} {ty : FieldType} (hd : decode μ.2.1 pc = .ok (.ireturn, 1)) (hr : μ.2.2.2.1 = some ty) (hn : narrow ty (.int x) = .int x) (hR : R (some (.int x)) M) : zk_P Z μ pc lo [.int x] M R :=
  ⟨_, M, hR, Nat.le_refl _, Nat.le_refl _, fun p e s m args below meth c H locs cells slots C S ls cx hH hS hl hc hs => by
    refine W.widen (k := C) (n := S) (by omega) (by omega) ?_
    exact W.zret cx.1 cx.2.1 (cx.2.2.1.trans hr) hn (fun t ht hW => ⟨rfl, by rw [ht]; exact hH, hS.F ht⟩) hS.2.2 hd cx.2.2.2.2.2.2.1⟩
theorem zk_return (hd : decode μ.2.1 pc = .ok (.return_, 1)) (hr : μ.2.2.2.1 = none) (hR : R none M) : zk_P Z μ pc lo [] M R :=
  ⟨_, M, hR, Nat.le_refl _, Nat.le_refl _, fun p e s m args below meth c H locs cells slots C S ls cx hH hS hl hc hs => by
    refine W.widen (k := C) (n := S) (by omega) (by omega) ?_
    exact W.vret cx.1 cx.2.1 (cx.2.2.1.trans hr) (fun t ht hW => ⟨rfl, by rw [ht]; exact hH, hS.F ht⟩) hS.2.2 hd cx.2.2.2.2.2.2.1⟩
theorem zk_areturn {v : Value} {ty : FieldType} (hd : decode μ.2.1 pc = .ok (.areturn, 1)) (hr : μ.2.2.2.1 = some ty) (ht : (∃ n, ty = .object n) ∨ ∃ t, ty = .array t) (hv : v = .null ∨ ∃ a, v = .ref a) (hR : R (some v) M) : zk_P Z μ pc lo [v] M R :=
  ⟨_, M, hR, Nat.le_refl _, Nat.le_refl _, fun p e s m args below meth c H locs cells slots C S ls cx hH hS hl hc hs => by
    refine W.widen (k := C) (n := S) (by omega) (by omega) ?_
    exact W.aret cx.1 cx.2.1 (cx.2.2.1.trans hr) ht hv (fun t ht hW => ⟨rfl, by rw [ht]; exact hH, hS.F ht⟩) hS.2.2 hd cx.2.2.2.2.2.2.1⟩
end ZKR
end
section
/-! THE RULES OF FIELDS, ARRAYS, NEW CELLS AND CALLS -/
theorem zk_one {D : va_G} {cl : List vw_C} {x : Nat × va_E} {H : Heap} (h : va_at D cl x H) : va_P D cl [x] H := by
  intro k q hq
  have hz : k < 1 := (List.getElem?_eq_some_iff.mp hq).1
  rw [show k = 0 by omega] at hq
  cases hq
  exact h
theorem zk_H.put {Z : zk_Z} {M : zk_M} {H H1 : Heap} {a : Nat} {e0 e : zk_E} (h : zk_H Z M H) (h0 : M.2.2 a = some e0) (hz : H1.size = H.size) (ho : ∀ q : Nat, q ≠ a → H1[q]? = H[q]?) (he : va_at Z.2.2.1 vwCl (a, zk_tr Z e) H1) : zk_H Z (M.1, M.2.1, va_up M.2.2 a (some e)) H1 := by
  refine ⟨by rw [hz]; exact h.1, fun b x hb => ?_⟩
  by_cases hba : b = a
  · subst hba
    have hb : va_up M.2.2 b (some e) b = some x := hb
    rw [va_up_self] at hb
    cases hb
    exact ⟨(h.2 b e0 h0).1, he⟩
  · have hb : va_up M.2.2 a (some e) b = some x := hb
    rw [va_up_ne _ _ hba] at hb
    exact ⟨(h.2 b x hb).1, (h.2 b x hb).2.kept (ho b hba)⟩
theorem zk_H.lt {Z : zk_Z} {M : zk_M} {H : Heap} (h : zk_H Z M H) {a : Nat} {e : zk_E} (ha : M.2.2 a = some e) : a < M.1 := by
  rw [← h.1]
  exact (h.2 a e ha).2.lt
theorem zk_H.push {Z : zk_Z} {M : zk_M} {H H1 : Heap} {e : zk_E} {n : Nat} (h : zk_H Z M H) (hz : H1.size = M.1 + 1) (ho : ∀ q : Nat, q < M.1 → H1[q]? = H[q]?) (he : va_at Z.2.2.1 vwCl (M.1, zk_tr Z e) H1) (hb : Z.2.2.2.1 ≤ M.1) : zk_H Z (M.1 + 1, M.2.1 + n, va_up M.2.2 M.1 (some e)) H1 := by
  refine ⟨hz, fun b x hx => ?_⟩
  have hx : va_up M.2.2 M.1 (some e) b = some x := hx
  by_cases hba : b = M.1
  · subst hba
    rw [va_up_self] at hx
    cases hx
    exact ⟨hb, he⟩
  · rw [va_up_ne _ _ hba] at hx
    exact ⟨(h.2 b x hx).1, (h.2 b x hx).2.kept (ho b (h.lt hx))⟩
section ZKM
variable {Z : zk_Z} {μ : zk_Mt} {pc : Nat} {lo : List (Option Value)} {st : List Value} {M : zk_M} {R : Option Value → zk_M → Prop}
/-- a step that writes to one cell -/
theorem zk_lift2 {pc' : Nat} {st' : List Value} {f : Nat → Option zk_E}
    (hstep : ∀ (p : Program) (e : Env) (s : State) (m : MethodId) (args : Array Value) (below : List Frame) (meth : Method) (c : Code) (H : Heap) (locs : List Loc) (cells slots C S : Nat) (ls : Array Slot) (Q : State → Prop),
      zk_Ctx Z μ p s m args meth c → zk_H Z M H → va_S (zk_A Z) s.heap H locs → zk_Lo ls μ.2.2.1 lo →
      (∀ (H1 : Heap) (locs1 : List Loc), zk_H Z (M.1, M.2.1, f) H1 → va_S (zk_A Z) s.heap H1 locs1 → W p Z.1 e (zk_rm μ C S) s m args below meth c H1 locs1 cells slots Q (F0 m pc' ls st')) → W p Z.1 e (zk_rm μ C S) s m args below meth c H locs cells slots Q (F0 m pc ls st))
    (k : zk_P Z μ pc' lo st' (M.1, M.2.1, f) R) : zk_P Z μ pc lo st M R := by
  obtain ⟨r, M', hR, h1, h2, h⟩ := k
  exact ⟨r, M', hR, h1, h2, fun p e s m args below meth c H locs cells slots C S ls cx hH hS hl hc hs => hstep p e s m args below meth c H locs cells slots C S ls _ cx hH hS hl fun H1 locs1 hH1 hS1 => h p e s m args below meth c H1 locs1 cells slots C S ls cx hH1 hS1 hl hc hs⟩
/-- a step that makes a cell -/
theorem zk_lift3 {pc' n : Nat} {st' : List Value} {f : Nat → Option zk_E}
    (hstep : ∀ (p : Program) (e : Env) (s : State) (m : MethodId) (args : Array Value) (below : List Frame) (meth : Method) (c : Code) (H : Heap) (locs : List Loc) (cells slots C S : Nat) (ls : Array Slot) (Q : State → Prop),
      zk_Ctx Z μ p s m args meth c → zk_H Z M H → va_S (zk_A Z) s.heap H locs → zk_Lo ls μ.2.2.1 lo → cells + 1 ≤ (zk_rm μ C S).cells → slots + n ≤ (zk_rm μ C S).slots →
      (∀ H1 : Heap, zk_H Z (M.1 + 1, M.2.1 + n, f) H1 → va_S (zk_A Z) s.heap H1 locs → W p Z.1 e (zk_rm μ C S) s m args below meth c H1 locs (cells + 1) (slots + n) Q (F0 m pc' ls st')) → W p Z.1 e (zk_rm μ C S) s m args below meth c H locs cells slots Q (F0 m pc ls st))
    (k : zk_P Z μ pc' lo st' (M.1 + 1, M.2.1 + n, f) R) : zk_P Z μ pc lo st M R := by
  obtain ⟨r, M', hR, h1, h2, h⟩ := k
  have h1 : M.1 + 1 ≤ M'.1 := h1
  have h2 : M.2.1 + n ≤ M'.2.1 := h2
  refine ⟨r, M', hR, by omega, by omega, fun p e s m args below meth c H locs cells slots C S ls cx hH hS hl hc hs => hstep p e s m args below meth c H locs cells slots C S ls _ cx hH hS hl (show cells + 1 ≤ C by omega) (show slots + n ≤ S by omega) fun H1 hH1 hS1 => h p e s m args below meth c H1 locs (cells + 1) (slots + n) C S ls cx hH1 hS1 hl (show cells + 1 + (M'.1 - (M.1 + 1)) ≤ C by omega) (show slots + n + (M'.2.1 - (M.2.1 + n)) ≤ S by omega)⟩
def zk_F (own : String) (idx ci k : Nat) : Prop := ∃ (C : String) (T : u_T) (N : Nat), vwCl[ci]? = some (C, T, N) ∧ k < N ∧ Cond.fieldLink own idx (T k).1 (T k).2.1 (T k).2.2.1 ∈ zk_all
def zk_Fp (own : String) (idx ci k : Nat) (ty : FieldType) (fin : Bool) : Prop := ∃ (C : String) (T : u_T) (N : Nat), vwCl[ci]? = some (C, T, N) ∧ k < N ∧ Cond.fieldLink own idx (T k).1 (T k).2.1 (T k).2.2.1 ∈ zk_all ∧ parseFieldDescriptor (T k).2.2.1 = some ty ∧ (T k).2.2.2 = fin ∧ (T k).1 = C
theorem zk_getfield {idx ci j a : Nat} {fs : List Value} {v : Value} (q : Nat) (hd : decode μ.2.1 pc = .ok (.getfield idx, 3)) (hf : zk_F μ.1.cls idx ci j) (hM : M.2.2 a = some (.inr (.inr (ci, fs)))) (hv : fs[j]? = some v) (hq : pc + 3 = q) (k : zk_P Z μ q lo (v :: st) M R) : zk_P Z μ pc lo (.ref a :: st) M R := by
  subst hq
  obtain ⟨C, T, N, hc, hj, hw⟩ := hf
  exact zk_lift (fun p e s m args below meth c H locs cells slots C0 S ls Q cx hH hS hl hcc hss kk =>
    va_get (D := Z.2.2.1) (cl := vwCl) (ci := ci) (fs := fs) cx.1 cx.2.1 cx.2.2.2.2.2.1 (zk_cls_ok ci C T N hc).1 cx.2.2.2.2.1 cx.2.2.2.2.2.2.2.2.1 (zk_one (hH.2 a _ hM).2) 0 rfl hc j hj (cx.2.2.2.2.2.1 _ hw) (fun _ h => h) hv hd (kk ls hl)) k
theorem zk_putG {idx ci j a : Nat} {fs : List Value} {v : Value} {ty : FieldType} (q : Nat) (hd : decode μ.2.1 pc = .ok (.putfield idx, 3)) (hf : zk_Fp μ.1.cls idx ci j ty false) (hM : M.2.2 a = some (.inr (.inr (ci, fs)))) (hn : narrow ty v = v) (hfit : fits ty v = true) (hlen : j < fs.length) (hq : pc + 3 = q) (k : zk_P Z μ q lo st (M.1, M.2.1, va_up M.2.2 a (some (.inr (.inr (ci, fs.set j v))))) R) : zk_P Z μ pc lo (v :: .ref a :: st) M R := by
  subst hq
  obtain ⟨C, T, N, hc, hj, hw, hty, hfin, -⟩ := hf
  obtain ⟨hin, ty0, hty0, hnm⟩ := zk_cls_ok ci C T N hc
  refine zk_lift2 (fun p e s m args below meth c H locs cells slots C0 S ls Q cx hH hS hl kk => ?_) k
  have hts := cx.2.2.2.2.2.1
  have hin' : ∀ w ∈ u_ws C T N, w ∈ zk_all := hin
  have hK := cx.2.2.2.2.2.2.2.2.1
  have hap := va_apart (own := μ.1.cls) hts hin' ty0 hty0 hnm hK hc
  obtain ⟨r, h1, cell, q1, q2, q3, q4⟩ := (hH.2 a _ hM).2
  have hr : r = (C, T, N) := Option.some.inj (h1.symm.trans hc)
  subst hr
  obtain ⟨hSl, hfc, kC, hkC, hkind⟩ := hK.1 ci _ hc
  obtain ⟨cf, kf, fi, f, hi, hsl⟩ := hSl j hj
  have hlay := hts _ (hin' _ (u_in_lay hj))
  unfold u_lay at hlay
  rw [if_neg (by rw [hfin]; decide)] at hlay
  have hst := (u_facts hfc hkC (u_lays hts hin' hj) hi).1
  have h6 := u_store hfc hkC hkind hlay hi hty hn hfit
  refine W.putK cx.1 cx.2.1 (f := f) ⟨cx.2.2.2.2.1, hts _ hw, ⟨_, _, _, hi⟩, hst⟩ (by rw [q2]; exact h6) q1 q3 (by rw [hsl]; exact k2_hasslot (q4 j hj)) rfl rfl hd fun H' e1 e2 e3 => ?_
  rw [hsl] at e1 ⊢
  exact kk H' _ (hH.put hM e2 e3 ⟨_, hc, t_OB.to (V := updV (vp_V fs) j v) ⟨_, e1, q2, q3, t_set q4 hap hj v⟩ (fun i _ => vp_updV_set hlen v i)⟩) (hS.put e2 e3 (hH.2 a _ hM).1)
theorem zk_putGF {idx ci j a : Nat} {fs : List Value} {v : Value} {ty : FieldType} (q : Nat) (hd : decode μ.2.1 pc = .ok (.putfield idx, 3)) (hf : zk_Fp μ.1.cls idx ci j ty true) (hcl : ∀ C T N, vwCl[ci]? = some (C, T, N) → C = μ.1.cls) (hinit : μ.1.name = "<init>") (hM : M.2.2 a = some (.inr (.inr (ci, fs)))) (hn : narrow ty v = v) (hfit : fits ty v = true) (hlen : j < fs.length) (hq : pc + 3 = q) (k : zk_P Z μ q lo st (M.1, M.2.1, va_up M.2.2 a (some (.inr (.inr (ci, fs.set j v))))) R) : zk_P Z μ pc lo (v :: .ref a :: st) M R := by
  subst hq
  obtain ⟨C, T, N, hc, hj, hw, hty, hfin, hdecl⟩ := hf
  have hown : C = μ.1.cls := hcl C T N hc
  obtain ⟨hin, ty0, hty0, hnm⟩ := zk_cls_ok ci C T N hc
  refine zk_lift2 (fun p e s m args below meth c H locs cells slots C0 S ls Q cx hH hS hl kk => ?_) k
  have hts := cx.2.2.2.2.2.1
  have hin' : ∀ w ∈ u_ws C T N, w ∈ zk_all := hin
  have hK := cx.2.2.2.2.2.2.2.2.1
  have hap := va_apart (own := μ.1.cls) hts hin' ty0 hty0 hnm hK hc
  obtain ⟨r, h1, cell, q1, q2, q3, q4⟩ := (hH.2 a _ hM).2
  have hr : r = (C, T, N) := Option.some.inj (h1.symm.trans hc)
  subst hr
  obtain ⟨hSl, hfc, kC, hkC, hkind⟩ := hK.1 ci _ hc
  obtain ⟨cf, kf, fi, f, hi, hsl⟩ := hSl j hj
  have hlay := hts _ (hin' _ (u_in_lay hj))
  unfold u_lay at hlay
  rw [if_pos hfin] at hlay
  have hst := (u_facts hfc hkC (u_lays hts hin' hj) hi).1
  have hcf : m.cls = cf := by
    obtain ⟨_, _, c', _, _, _, -, -, hf', -, -, -, hown2, -⟩ := Cond.laysFinal_spec hlay
    have e1 : c' = cf := by have := hi.symm.trans hf'; simp at this; exact this.1.symm
    rw [hdecl, hown] at hown2
    rw [← e1]; exact Option.some.inj (cx.2.2.2.2.1.symm.trans hown2)
  have h6 := u_fits hfc hkC hkind (Or.inr hlay) hi hty hn hfit
  refine W.putFinK cx.1 cx.2.1 cx.2.2.2.2.1 (hts _ hw) hi hst hcf (cx.2.2.2.2.2.2.2.1 hinit) (by rw [q2]; exact h6) q1 q3 (by rw [hsl]; exact k2_hasslot (q4 j hj)) rfl rfl hd fun H' e1 e2 e3 => ?_
  rw [hsl] at e1 ⊢
  exact kk H' _ (hH.put hM e2 e3 ⟨_, hc, t_OB.to (V := updV (vp_V fs) j v) ⟨_, e1, q2, q3, t_set q4 hap hj v⟩ (fun i _ => vp_updV_set hlen v i)⟩) (hS.put e2 e3 (hH.2 a _ hM).1)
/-- Object.<init> -/
theorem zk_objInit {idx a : Nat} (q : Nat) (hd : decode μ.2.1 pc = .ok (.invokespecial idx, 3)) (h1 : Cond.methodLink μ.1.cls idx objectInit ∈ zk_all) (h2 : Cond.instanceMethod objectInit ∈ zk_all) (h3 : Cond.code objectInit ⟨#[0xb1]⟩ 1 none ∈ zk_all) (hw : (st.map fun v => v.category).sum + 12 ≤ μ.2.2.2.2.2) (hd0 : 1 ≤ μ.2.2.2.2.1) (hq : pc + 3 = q) (k : zk_P Z μ q lo st M R) : zk_P Z μ pc lo (.ref a :: st) M R := by
  subst hq
  exact zk_lift (fun p e s m args below meth c H locs cells slots C0 S ls Q cx hH hS hl hcc hss kk =>
    W.objInit cx.1 cx.2.1 cx.2.2.2.2.1 (cx.2.2.2.2.2.1 _ h1) (cx.2.2.2.2.2.1 _ h2) (cx.2.2.2.2.2.1 _ h3) rfl (by rw [cx.2.2.2.1]; exact hl.1) rfl hd hd0 (show 2 * 0 + _ + 12 ≤ μ.2.2.2.2.2 by omega) (kk ls hl)) k
/-- new: an object -/
def zk_N (own : String) (idx ci N : Nat) (fs : List Value) : Prop := ∃ (C : String) (T : u_T) (ty : Nat → FieldType), vwCl[ci]? = some (C, T, N) ∧ Cond.classLink own idx C ∈ zk_all ∧ Cond.instantiable C N ∈ zk_all ∧ Cond.initialized C ∈ zk_all ∧ (∀ k, k < N → parseFieldDescriptor (T k).2.2.1 = some (ty k)) ∧ ∀ j, j < N → defaultValue (ty j) = vp_V fs j
theorem zk_new {idx ci N : Nat} {fs : List Value} (q : Nat) (hd : decode μ.2.1 pc = .ok (.new idx, 3)) (hf : zk_N μ.1.cls idx ci N fs) (hq : pc + 3 = q) (k : zk_P Z μ q lo (.ref M.1 :: st) (M.1 + 1, M.2.1 + N, va_up M.2.2 M.1 (some (.inr (.inr (ci, fs))))) R) : zk_P Z μ pc lo st M R := by
  subst hq
  obtain ⟨C, T, ty, hc, w1, w2, w3, hty, hfs⟩ := hf
  refine zk_lift3 (fun p e s m args below meth c H locs cells slots C0 S ls Q cx hH hS hl hcc hss kk => ?_) k
  have hts := cx.2.2.2.2.2.1
  have hK := cx.2.2.2.2.2.2.2.2.1
  have hKn := hK.1 ci _ hc
  refine W.newcK cx.1 cx.2.1 cx.2.2.2.2.1 (hts _ w1) (hts _ w2) (hts _ w3) rfl hd hcc hss hKn.2.1 hH.1 fun H1 kC hkC e1 z1 o1 => ?_
  have hb : Z.2.2.2.1 ≤ M.1 := by rw [← hH.1]; exact Nat.le_trans cx.2.2.2.2.2.2.2.2.2.1 hS.1
  have hsz := hH.1
  refine kk H1 (hH.push z1 o1 ⟨_, hc, (u_born ty hts (zk_cls_ok ci C T N hc).1 hKn hkC e1 hty).to hfs⟩ hb) ⟨Nat.le_trans hS.1 (by omega), fun x g1 g2 => (o1 x (by have := hS.1; omega)).trans (hS.2.1 x g1 g2), hS.2.2⟩
/-- new int[n] -/
theorem zk_newi {n : Int32} {N : Nat} (q : Nat) (hd : decode μ.2.1 pc = .ok (.newarray .int, 2)) (hw : Cond.arrayClass .int ∈ zk_all) (ht : zk_ty[0]? = some .int) (hn : ¬ n < 0) (hN : n.toNatClampNeg = N) (hbytes : N * 4 ≤ 536870912) (hq : pc + 2 = q) (k : zk_P Z μ q lo (.ref M.1 :: st) (M.1 + 1, M.2.1 + N, va_up M.2.2 M.1 (some (.inl (N, fun _ => 0)))) R) : zk_P Z μ pc lo (.int n :: st) M R := by
  subst hq
  refine zk_lift3 (fun p e s m args below meth c H locs cells slots C0 S ls Q cx hH hS hl hcc hss kk => ?_) k
  have hts := cx.2.2.2.2.2.1
  have hK := cx.2.2.2.2.2.2.2.2.1
  refine va_newaK cx.1 cx.2.1 (atype := .int) (hts _ hw) rfl hd rfl hn hN hbytes hcc hss hH.1 fun H1 cA e1 z1 o1 hAr hNm => ?_
  have hb : Z.2.2.2.1 ≤ M.1 := by rw [← hH.1]; exact Nat.le_trans cx.2.2.2.2.2.2.2.2.2.1 hS.1
  have hsz := hH.1
  have hcA : cA = Z.2.1 0 := by
    have h2 : s.vm.findClass ("[" ++ FieldType.int.toString) = some (Z.2.1 0) := (hK.2 0 _ (zk_tys_at ht)).2
    exact Option.some.inj (hNm.symm.trans h2)
  subst hcA
  refine kk H1 (hH.push z1 o1 ?_ hb) ⟨Nat.le_trans hS.1 (by omega), fun x g1 g2 => (o1 x (by have := hS.1; omega)).trans (hS.2.1 x g1 g2), hS.2.2⟩
  show H1[M.1]? = some (vp_cell _ _)
  rw [vp_cell_i]
  exact e1
/-- new C[n] -/
theorem zk_newq {idx t : Nat} {n : Int32} {N : Nat} {C : String} (q : Nat) (hd : decode μ.2.1 pc = .ok (.anewarray idx, 3)) (hw : Cond.classLink μ.1.cls idx C ∈ zk_all) (hw2 : Cond.arrayOver (.object C) ∈ zk_nw) (ht : zk_ty[t]? = some (.object C)) (hn : ¬ n < 0) (hN : n.toNatClampNeg = N) (hbytes : N * 4 ≤ 536870912) (hq : pc + 3 = q) (k : zk_P Z μ q lo (.ref M.1 :: st) (M.1 + 1, M.2.1 + N, va_up M.2.2 M.1 (some (.inr (.inl (t, N, fun _ => none))))) R) : zk_P Z μ pc lo (.int n :: st) M R := by
  subst hq; subst hN
  refine zk_lift3 (fun p e s m args below meth c H locs cells slots C0 S ls Q cx hH hS hl hcc hss kk => ?_) k
  have hts := cx.2.2.2.2.2.1
  have hK := cx.2.2.2.2.2.2.2.2.1
  refine W.anew cx.1 cx.2.1 cx.2.2.2.2.1 (hts _ hw) (va_AO.use (cx.2.2.2.2.2.2.2.2.2.2.2.2 _ hw2)) rfl hd rfl hn hbytes hcc hss fun cA kA comp f1 f2 f3 f4 => ?_
  generalize hH1 : H.push ({ cls := cA, slots := Array.replicate n.toNatClampNeg .null, vm := .none } : Cell) = H1
  have z1 : H1.size = M.1 + 1 := by rw [← hH1, Array.size_push, hH.1]
  have e1 : H1[M.1]? = some (arrV cA n.toNatClampNeg (fun _ => .null)) := by rw [← hH1, ← hH.1, Array.getElem?_push_size, ← arrV_new]
  have o1 : ∀ q : Nat, q < M.1 → H1[q]? = H[q]? := fun q hq => by rw [← hH1, Array.getElem?_push, if_neg (by rw [hH.1]; exact Nat.ne_of_lt hq)]
  have hb : Z.2.2.2.1 ≤ M.1 := by rw [← hH.1]; exact Nat.le_trans cx.2.2.2.2.2.2.2.2.2.1 hS.1
  have hsz := hH.1
  have hcA : cA = Z.2.1 t := by
    obtain ⟨_, _, -, -, -, h2⟩ := (hK.2 t _ (zk_tys_at ht)).2
    exact Option.some.inj (f1.symm.trans h2)
  subst hcA
  rw [hH.1]
  refine kk H1 (hH.push z1 o1 ?_ hb) ⟨Nat.le_trans hS.1 (by omega), fun x g1 g2 => (o1 x (by have := hS.1; omega)).trans (hS.2.1 x g1 g2), hS.2.2⟩
  show H1[M.1]? = some (vp_cell _ _)
  rw [vp_cell_q]
  exact e1
theorem zk_iaload {a n : Nat} {g : Nat → Int32} {i : Int32} (q : Nat) (hd : decode μ.2.1 pc = .ok (.iaload, 1)) (ht : zk_ty[0]? = some .int) (hM : M.2.2 a = some (.inl (n, g))) (hin : vp_in i n) (hq : pc + 1 = q) (k : zk_P Z μ q lo (.int (g i.toNatClampNeg) :: st) M R) : zk_P Z μ pc lo (.int i :: .ref a :: st) M R := by
  subst hq
  exact zk_lift (fun p e s m args below meth c H locs cells slots C0 S ls Q cx hH hS hl hcc hss kk =>
    va_iald (D := Z.2.2.1) (cl := vwCl) (n := n) (f := g) cx.1 cx.2.1 cx.2.2.2.2.2.2.2.2.1 (zk_one (hH.2 a _ hM).2) 0 0 rfl (zk_tys_at ht) hin hd (kk ls hl)) k
theorem zk_alen {a n : Nat} {g : Nat → Int32} (q : Nat) (hd : decode μ.2.1 pc = .ok (.arraylength, 1)) (ht : zk_ty[0]? = some .int) (hM : M.2.2 a = some (.inl (n, g))) (hq : pc + 1 = q) (k : zk_P Z μ q lo (.int (nI n) :: st) M R) : zk_P Z μ pc lo (.ref a :: st) M R := by
  subst hq
  exact zk_lift (fun p e s m args below meth c H locs cells slots C0 S ls Q cx hH hS hl hcc hss kk =>
    va_alen (D := Z.2.2.1) (cl := vwCl) (x := (n, .inl g)) cx.1 cx.2.1 cx.2.2.2.2.2.2.2.2.1 (zk_one (hH.2 a _ hM).2) 0 0 rfl (zk_tys_at ht) rfl hd (kk ls hl)) k
theorem zk_alenq {a t n : Nat} {g : Nat → Option Nat} {ty : FieldType} (q : Nat) (hd : decode μ.2.1 pc = .ok (.arraylength, 1)) (ht : zk_ty[t]? = some ty) (hM : M.2.2 a = some (.inr (.inl (t, n, g)))) (hq : pc + 1 = q) (k : zk_P Z μ q lo (.int (nI n) :: st) M R) : zk_P Z μ pc lo (.ref a :: st) M R := by
  subst hq
  exact zk_lift (fun p e s m args below meth c H locs cells slots C0 S ls Q cx hH hS hl hcc hss kk =>
    va_alen (D := Z.2.2.1) (cl := vwCl) (x := (n, .inr (.inr (.inr (.inr g))))) cx.1 cx.2.1 cx.2.2.2.2.2.2.2.2.1 (zk_one (hH.2 a _ hM).2) 0 t rfl (zk_tys_at ht) rfl hd (kk ls hl)) k
theorem zk_iastore {a n : Nat} {g : Nat → Int32} {i x : Int32} (q : Nat) (hd : decode μ.2.1 pc = .ok (.iastore, 1)) (ht : zk_ty[0]? = some .int) (hM : M.2.2 a = some (.inl (n, g))) (hin : vp_in i n) (hq : pc + 1 = q) (k : zk_P Z μ q lo st (M.1, M.2.1, va_up M.2.2 a (some (.inl (n, upd g i.toNatClampNeg x)))) R) : zk_P Z μ pc lo (.int x :: .int i :: .ref a :: st) M R := by
  subst hq
  refine zk_lift2 (fun p e s m args below meth c H locs cells slots C0 S ls Q cx hH hS hl kk => ?_) k
  have hK := cx.2.2.2.2.2.2.2.2.1
  refine W.iast cx.1 cx.2.1 (hH.2 a _ hM).2 ((hK.2 0 _ (zk_tys_at ht)).1 n (fun j => .int (g j))) (fun q => by cases q) (by show ¬ (i < 0 ∨ (arrV _ _ _).slots.size ≤ _); rw [arrV_size]; exact hin) rfl rfl hd fun H1 e1 z oq => ?_
  refine kk H1 _ (hH.put hM z oq ?_) (hS.put z oq (hH.2 a _ hM).1)
  show H1[a]? = some (vp_cell _ _)
  rw [e1]
  rw [vp_cell_i, vp_cell_i, arrV_store]
  congr 2
  funext j
  by_cases hj : j = i.toNatClampNeg
  · subst hj
    simp [updV, upd]
  · simp [updV, upd, hj]
theorem zk_aaload {a t n : Nat} {g : Nat → Option Nat} {C : String} {i : Int32} {v : Value} (q : Nat) (hd : decode μ.2.1 pc = .ok (.aaload, 1)) (ht : zk_ty[t]? = some (.object C)) (hM : M.2.2 a = some (.inr (.inl (t, n, g)))) (hin : vp_in i n) (hv : va_rf (g i.toNatClampNeg) = v) (hq : pc + 1 = q) (k : zk_P Z μ q lo (v :: st) M R) : zk_P Z μ pc lo (.int i :: .ref a :: st) M R := by
  subst hq; subst hv
  exact zk_lift (fun p e s m args below meth c H locs cells slots C0 S ls Q cx hH hS hl hcc hss kk =>
    va_aldq (D := Z.2.2.1) (cl := vwCl) (C := C) (n := n) (f := g) cx.1 cx.2.1 cx.2.2.2.2.2.2.2.2.1 (zk_one (hH.2 a _ hM).2) 0 t rfl (zk_tys_at ht) hin hd (kk ls hl)) k
theorem zk_aastore {a t n v ci N : Nat} {g : Nat → Option Nat} {C : String} {T : u_T} {vs : List Value} {i : Int32} (q : Nat) (hd : decode μ.2.1 pc = .ok (.aastore, 1)) (ht : zk_ty[t]? = some (.object C)) (hM : M.2.2 a = some (.inr (.inl (t, n, g)))) (hv : M.2.2 v = some (.inr (.inr (ci, vs)))) (hc : vwCl[ci]? = some (C, T, N)) (hin : vp_in i n) (hq : pc + 1 = q) (k : zk_P Z μ q lo st (M.1, M.2.1, va_up M.2.2 a (some (.inr (.inl (t, n, va_up g i.toNatClampNeg (some v)))))) R) : zk_P Z μ pc lo (.ref v :: .int i :: .ref a :: st) M R := by
  subst hq
  refine zk_lift2 (fun p e s m args below meth c H locs cells slots C0 S ls Q cx hH hS hl kk => ?_) k
  have hK := cx.2.2.2.2.2.2.2.2.1
  have hlt : i.toNatClampNeg < n := Nat.not_le.mp fun q => hin (Or.inr q)
  have h0 : ¬ i < 0 := fun q => hin (Or.inl q)
  obtain ⟨r', hr', cellV, g1, g2, g3, -⟩ := (hH.2 v _ hv).2
  have hcls := (hK.1 ci _ hc).2
  obtain ⟨kA, comp, k1, k2, k3, -⟩ := (hK.2 t _ (zk_tys_at ht)).2
  have hcomp : comp = Z.2.2.1.1 ci := Option.some.inj (k3.symm.trans hcls.1)
  subst hcomp
  obtain ⟨kC, hkC, -⟩ := hcls.2
  have ha : H[a]? = some (vp_cell (Z.2.1 t) (n, .inr (.inr (.inr (.inr g))))) := (hH.2 a _ hM).2
  refine W.aast cx.1 cx.2.1 ha (fun q h => by cases h) (fun h => by cases h) k1 k2 rfl hkC ⟨h0, by show _ < (arrV _ _ _).slots.size; rw [arrV_size]; exact hlt⟩ g1 (fun q h => by rw [g3] at h; cases h) (by rw [g2]; exact hkC) (by rw [g2]; exact va_assign hcls) rfl rfl hd fun H1 e1 z oq => ?_
  refine kk H1 _ (hH.put hM z oq ?_) (hS.put z oq (hH.2 a _ hM).1)
  show H1[a]? = some (vp_cell _ _)
  rw [e1]
  rw [vp_cell_q, vp_cell_q, arrV_store]
  congr 2
  funext j
  by_cases hj : j = i.toNatClampNeg
  · subst hj
    simp [updV, va_up, va_rf]
  · simp [updV, va_up, hj]
/-- the script -/
theorem zk_sload {i : Int32} (q : Nat) (hd : decode μ.2.1 pc = .ok (.iaload, 1)) (hin : vp_in i Z.2.2.2.2.2.1) (hq : pc + 1 = q) (k : zk_P Z μ q lo (.int (Z.2.2.2.2.2.2 i.toNatClampNeg) :: st) M R) : zk_P Z μ pc lo (.int i :: .ref Z.2.2.2.2.1 :: st) M R := by
  subst hq
  exact zk_lift (fun p e s m args below meth c H locs cells slots C0 S ls Q cx hH hS hl hcc hss kk =>
    va_sld cx.1 cx.2.1 cx.2.2.2.2.2.2.2.2.2.2.1 (Nat.lt_of_lt_of_le cx.2.2.2.2.2.2.2.2.2.2.2.1 cx.2.2.2.2.2.2.2.2.2.1) (Nat.not_le.mpr cx.2.2.2.2.2.2.2.2.2.2.2.1) hS hin hd (kk ls hl)) k
theorem zk_slen (q : Nat) (hd : decode μ.2.1 pc = .ok (.arraylength, 1)) (hq : pc + 1 = q) (k : zk_P Z μ q lo (.int (nI Z.2.2.2.2.2.1) :: st) M R) : zk_P Z μ pc lo (.ref Z.2.2.2.2.1 :: st) M R := by
  subst hq
  exact zk_lift (fun p e s m args below meth c H locs cells slots C0 S ls Q cx hH hS hl hcc hss kk =>
    va_slen cx.1 cx.2.1 cx.2.2.2.2.2.2.2.2.2.2.1 (Nat.lt_of_lt_of_le cx.2.2.2.2.2.2.2.2.2.2.2.1 cx.2.2.2.2.2.2.2.2.2.1) (Nat.not_le.mpr cx.2.2.2.2.2.2.2.2.2.2.2.1) hS hd (kk ls hl)) k
end ZKM
/-! CALLS -/
theorem zk_nw_is : ∀ w ∈ zk_nw, (∃ a i x h, w = Cond.methodLinkNest a i x h) ∨ (∃ a i b n d h, w = Cond.fieldLinkNest a i b n d h) ∨ ∃ C, w = Cond.arrayOver (.object C) := by
  intro w hw
  simp only [zk_nw, List.mem_cons, List.not_mem_nil, or_false] at hw
  rcases hw with rfl | rfl | rfl | rfl | rfl | rfl | rfl | rfl | rfl | rfl <;> first | exact Or.inl ⟨_, _, _, _, rfl⟩ | exact Or.inr (Or.inl ⟨_, _, _, _, _, _, rfl⟩) | exact Or.inr (Or.inr ⟨_, rfl⟩)
theorem zk_nw_same (w : Cond) (hw : w ∈ zk_nw) {u U : State} (e : u.vm = U.vm) (h : va_Nw w u) : va_Nw w U := by
  rcases zk_nw_is w hw with ⟨a, i, x, g, rfl⟩ | ⟨a, i, b, n, d, g, rfl⟩ | ⟨C, rfl⟩
  · exact va_Nw.same rfl e h
  · exact va_Nw.same rfl e h
  · exact va_AO.moved (by rw [e]; exact Vm.Alike.refl _) h
theorem zk_nw_warm (w : Cond) (hw : w ∈ zk_nw) {s U : State} (hW : s.WarmedH U.vm) (h : va_Nw w s) : va_Nw w U := by
  rcases zk_nw_is w hw with ⟨a, i, x, g, rfl⟩ | ⟨a, i, b, n, d, g, rfl⟩ | ⟨C, rfl⟩
  · exact va_Nw.warmM hW h
  · exact va_Nw.warmF hW h
  · exact va_AO.moved hW.alike h
theorem zk_blind {Z : zk_Z} {as : List Value} {M : zk_M} : FrameBlind (zk_Pc Z as M) := fun a U g mk h =>
  ⟨h.1, h.2.1, va_K.moved (u := U) (U := U.calling g mk a) (Vm.Alike.refl U.vm) h.2.2.1, h.2.2.2.1, va_X.moved (u := U) (U := U.calling g mk a) (Vm.Alike.refl U.vm) h.2.2.2.2.1, h.2.2.2.2.2.1, fun w hw => zk_nw_same w hw (u := U) (U := U.calling g mk a) rfl (h.2.2.2.2.2.2 w hw)⟩
theorem zk_pre {Z : zk_Z} {μ : zk_Mt} {p : Program} {s : State} {m : MethodId} {args : Array Value} {meth : Method} {c : Code} {M : zk_M} {H : Heap} {locs : List Loc} {as : List Value} (cx : zk_Ctx Z μ p s m args meth c) (hH : zk_H Z M H) (hS : va_S (zk_A Z) s.heap H locs) : PreS s H (zk_Pc Z as M) as := by
  obtain ⟨-, -, -, -, -, -, -, -, hK, hb, hX, hbb, hnw⟩ := cx
  refine ⟨zk_blind, fun U hU hW => ⟨rfl, by rw [hU]; exact hH, va_K.moved hW.alike hK, by rw [hU]; exact Nat.le_trans hb hS.1, ?_, hbb, fun w hw => zk_nw_warm w hw hW (hnw w hw)⟩⟩
  rw [hU]
  exact va_X.moved hW.alike (hX.kept (hS.2.1 _ (Nat.lt_of_lt_of_le hbb hb) (Nat.not_le.mpr hbb)))
theorem zk_back {Z : zk_Z} {p : Program} {l : Launch} {e : Env} {Rm : Room} {s : State} {m : MethodId} {args : Array Value} {below : List Frame} {meth : Method} {c : Code} {H : Heap} {locs : List Loc} {cells slots mc ms pc : Nat} {Q : State → Prop} {ls : Array Slot} {st0 rest : List Value} {a : Array Value} {r : Option Value} {M' : zk_M}
    (hr : va_Run p l e Rm s m args below meth c H locs cells slots mc ms (F0 m pc ls st0) rest (zk_Q Z r M' a) (zk_A Z)) (hS : va_S (zk_A Z) s.heap H locs)
    (kk : ∀ (H1 : Heap) (locs1 : List Loc), zk_H Z M' H1 → va_S (zk_A Z) s.heap H1 locs1 → W p l e Rm s m args below meth c H1 locs1 (cells + mc) (slots + ms) Q (F0 m (pc + 3) ls (r.toList ++ rest))) : W p l e Rm s m args below meth c H locs cells slots Q (F0 m pc ls st0) := by
  intro T hT X
  obtain ⟨v, st₀, t, T', L, h0, X', hL, e1, e2, ⟨hv, hH, hz, hk⟩, st⟩ := hr T hT X
  cases hv
  rw [h0] at hz hk
  obtain ⟨t2, a1, b1⟩ := kk T'.heap (locs ++ L) (by rw [e1]; exact hH)
    ⟨Nat.le_trans hS.1 (by rw [e1]; exact hz), fun q h1 h2 => by rw [e1, hk q (Nat.lt_of_lt_of_le h1 hS.1) h2]; exact hS.2.1 q h1 h2, fun q hq => by
      rcases List.mem_append.mp hq with h | h
      · exact hS.2.2 q h
      · exact hL q h⟩ T' rfl X'
  exact ⟨t2, st t2 a1, b1⟩
theorem zk_goodIn {μ2 : zk_Mt} {ws : List Cond} (h : ∀ w ∈ ws, w ∈ zk_all) (hc : Cond.code μ2.1 μ2.2.1 μ2.2.2.1 μ2.2.2.2.1 ∈ zk_all) : GoodIn zk_all (ws ++ zk_ws μ2) := by
  have key : ∀ w, w ∈ zk_all → w ∈ zk_all ∧ ((w.onTables && w.keeps) = true ∨ ∃ ty, w = .arrayClass ty) := fun w hw => ⟨hw, good_of_word (List.mem_filter.mp hw).2⟩
  intro w hw
  rcases List.mem_append.mp hw with h1 | h1
  · exact key w (h w h1)
  · rcases List.mem_cons.mp h1 with h2 | h2
    · rw [h2]; exact key _ hc
    · exact key w h2
/-- a method that may be called: its code word; its name is no method handle's; its locals are few; it has n parameters -/
def zk_Ok (μ : zk_Mt) (n : Nat) : Prop := Cond.code μ.1 μ.2.1 μ.2.2.1 μ.2.2.2.1 ∈ zk_all ∧ (μ.1.cls ≠ "java/lang/invoke/MethodHandle" ∧ μ.1.cls ≠ "java/lang/invoke/VarHandle" ∧ (parseMethodDescriptor μ.1.desc).map (fun d => d.parameters.length) = some n) ∧ Cond.initialized μ.1.cls ∈ zk_all
def zk_LV (own : String) (idx : Nat) (μ : zk_Mt) : Prop := Cond.methodLink own idx μ.1 ∈ zk_all ∧ Cond.instanceMethod μ.1 ∈ zk_all ∧ Cond.selects μ.1.cls μ.1 μ.1 ∈ zk_all
def zk_LS (own : String) (idx : Nat) (μ : zk_Mt) : Prop := Cond.methodLink own idx μ.1 ∈ zk_all ∧ Cond.static μ.1 ∈ zk_all
def zk_LIN (own : String) (idx : Nat) (μ : zk_Mt) (host : String) : Prop := Cond.methodLinkNest own idx μ.1 host ∈ zk_nw ∧ Cond.instanceMethod μ.1 ∈ zk_all ∧ μ.1.name = "<init>" ∧ μ.2.2.2.1 = none
def zk_LI (own : String) (idx : Nat) (μ : zk_Mt) : Prop := Cond.methodLink own idx μ.1 ∈ zk_all ∧ Cond.instanceMethod μ.1 ∈ zk_all ∧ μ.1.name = "<init>" ∧ μ.2.2.2.1 = none
section ZKC
variable {Z : zk_Z} {μ : zk_Mt} {pc : Nat} {lo : List (Option Value)} {st : List Value} {M : zk_M} {R : Option Value → zk_M → Prop}
theorem zk_callV {μ2 : zk_Mt} {idx n b ci N : Nat} {T : u_T} {fs As rest : List Value} {r : Option Value} {M1 : zk_M} (q : Nat) (hC : zk_C Z μ2 (.ref b :: As) M r M1) (hd : decode μ.2.1 pc = .ok (.invokevirtual idx, 3)) (hk : zk_Ok μ2 n) (hfr : μ2.2.2.2.2.1 + 1 ≤ μ.2.2.2.2.1 ∧ 8 + (μ2.2.2.1 + 11) + μ2.2.2.2.2.2 ≤ μ.2.2.2.2.2) (hl0 : zk_LV μ.1.cls idx μ2) (hM : M.2.2 b = some (.inr (.inr (ci, fs)))) (hci : vwCl[ci]? = some (μ2.1.cls, T, N)) (hn : As.length = n) (hst : st = As.reverse ++ .ref b :: rest) (hw : (rest.map fun v => v.category).sum ≤ 8) (hq : pc + 3 = q) (k : zk_P Z μ q lo (r.toList ++ rest) M1 R) : zk_P Z μ pc lo st M R := by
  subst hq; subst hst
  obtain ⟨r', M', hR, h1, h2, h⟩ := k
  obtain ⟨c1, c2, hMet⟩ := hC
  obtain ⟨k1, k2, k4⟩ := hk
  refine ⟨r', M', hR, Nat.le_trans c1 h1, Nat.le_trans c2 h2, fun p e s m args below meth c H locs cells slots C S ls cx hH hS hl hc hs => ?_⟩
  have hcw : CallW (zk_rm μ C S) s args μ.1.cls μ2.1.cls idx μ2.1 μ2.2.1 μ2.2.2.1 μ2.2.2.2.1 (zk_ws μ2) (zk_rm μ2 (M1.1 - M.1) (M1.2.1 - M.2.1)) (M1.1 - M.1) (M1.2.1 - M.2.1) n :=
    cwV n cx.2.2.2.2.2.1 (zk_goodIn (fun w hw => by rcases List.mem_cons.mp hw with rfl | hw; exact hl0.1; rcases List.mem_cons.mp hw with rfl | hw; exact hl0.2.1; rcases List.mem_cons.mp hw with rfl | hw; exact hl0.2.2; rcases List.mem_cons.mp hw with rfl | hw; exact k4; cases hw) k1) rfl rfl rfl ⟨rfl, k2⟩ hfr
  refine zk_back (va_runV (As := As) (rest := rest) ⟨cx.1, cx.2.1, cx.2.2.2.1, cx.2.2.2.2.1, cx.2.2.2.2.2.1⟩ hMet hcw ⟨zk_blind, va_recv cx.2.2.2.2.2.2.2.2.1 (zk_one (hH.2 b _ hM).2) (ci := ci) (q0 := 0) hci rfl, (zk_pre cx hH hS).2⟩ rfl hn hl.1 rfl (lv_room hw) hd ⟨show cells + (M1.1 - M.1) ≤ C by omega, show slots + (M1.2.1 - M.2.1) ≤ S by omega⟩) hS fun H1 locs1 hH1 hS1 => ?_
  exact h p e s m args below meth c H1 locs1 _ _ C S ls cx hH1 hS1 hl (by omega) (by omega)
theorem zk_callS {μ2 : zk_Mt} {idx n : Nat} {As rest : List Value} {r : Option Value} {M1 : zk_M} (q : Nat) (hC : zk_C Z μ2 As M r M1) (hd : decode μ.2.1 pc = .ok (.invokestatic idx, 3)) (hk : zk_Ok μ2 n) (hfr : μ2.2.2.2.2.1 + 1 ≤ μ.2.2.2.2.1 ∧ 8 + (μ2.2.2.1 + 11) + μ2.2.2.2.2.2 ≤ μ.2.2.2.2.2) (hl0 : zk_LS μ.1.cls idx μ2) (hn : As.length = n) (hst : st = As.reverse ++ rest) (hw : (rest.map fun v => v.category).sum ≤ 8) (hq : pc + 3 = q) (k : zk_P Z μ q lo (r.toList ++ rest) M1 R) : zk_P Z μ pc lo st M R := by
  subst hq; subst hst
  obtain ⟨r', M', hR, h1, h2, h⟩ := k
  obtain ⟨c1, c2, hMet⟩ := hC
  obtain ⟨k1, k2, k4⟩ := hk
  refine ⟨r', M', hR, Nat.le_trans c1 h1, Nat.le_trans c2 h2, fun p e s m args below meth c H locs cells slots C S ls cx hH hS hl hc hs => ?_⟩
  have hcw : CallB (zk_rm μ C S) s args μ.1.cls idx μ2.1 μ2.2.1 μ2.2.2.1 μ2.2.2.2.1 (zk_ws μ2) (zk_rm μ2 (M1.1 - M.1) (M1.2.1 - M.2.1)) (M1.1 - M.1) (M1.2.1 - M.2.1) n ∧ (Cond.static μ2.1).before args s = true :=
    va_cwS n cx.2.2.2.2.2.1 (zk_goodIn (fun w hw => by rcases List.mem_cons.mp hw with rfl | hw; exact hl0.1; rcases List.mem_cons.mp hw with rfl | hw; exact hl0.2; rcases List.mem_cons.mp hw with rfl | hw; exact k4; cases hw) k1) rfl rfl rfl k2 hfr
  refine zk_back (va_runS (As := As) (rest := rest) ⟨cx.1, cx.2.1, cx.2.2.2.1, cx.2.2.2.2.1, cx.2.2.2.2.2.1⟩ hMet hcw (zk_pre cx hH hS) rfl hn hl.1 rfl (lv_room hw) hd ⟨show cells + (M1.1 - M.1) ≤ C by omega, show slots + (M1.2.1 - M.2.1) ≤ S by omega⟩) hS fun H1 locs1 hH1 hS1 => ?_
  exact h p e s m args below meth c H1 locs1 _ _ C S ls cx hH1 hS1 hl (by omega) (by omega)
theorem zk_callI {μ2 : zk_Mt} {idx n b : Nat} {As rest : List Value} {r : Option Value} {M1 : zk_M} (q : Nat) (hC : zk_C Z μ2 (.ref b :: As) M r M1) (hd : decode μ.2.1 pc = .ok (.invokespecial idx, 3)) (hk : zk_Ok μ2 n) (hfr : μ2.2.2.2.2.1 + 1 ≤ μ.2.2.2.2.1 ∧ 8 + (μ2.2.2.1 + 11) + μ2.2.2.2.2.2 ≤ μ.2.2.2.2.2) (hl0 : zk_LI μ.1.cls idx μ2) (hn : As.length = n) (hst : st = As.reverse ++ .ref b :: rest) (hw : (rest.map fun v => v.category).sum ≤ 8) (hq : pc + 3 = q) (k : zk_P Z μ q lo (r.toList ++ rest) M1 R) : zk_P Z μ pc lo st M R := by
  subst hq; subst hst
  obtain ⟨r', M', hR, h1, h2, h⟩ := k
  obtain ⟨c1, c2, hMet⟩ := hC
  obtain ⟨k1, k2, k4⟩ := hk
  obtain ⟨l1, l2, l3, l4⟩ := hl0
  obtain ⟨y2, b2, n2, t2, f2, g2⟩ := μ2
  have l4 : t2 = none := l4
  subst l4
  refine ⟨r', M', hR, Nat.le_trans c1 h1, Nat.le_trans c2 h2, fun p e s m args below meth c H locs cells slots C S ls cx hH hS hl hc hs => ?_⟩
  have hts := cx.2.2.2.2.2.1
  have hcw := cwI (R := zk_rm μ C S) (s := s) (args := args) (own := μ.1.cls) (index := idx) (y := y2) (bytes := b2) (maxL := n2) (ws := zk_ws (y2, b2, n2, none, f2, g2)) (ws' := zk_all) (rm := zk_rm (y2, b2, n2, none, f2, g2) (M1.1 - M.1) (M1.2.1 - M.2.1)) (mc := M1.1 - M.1) (ms := M1.2.1 - M.2.1) n hts (zk_goodIn (ws := []) (fun w hw => by cases hw) k1) rfl rfl rfl (hts _ k4) (hts _ l1) (hts _ l2) l3 k2 hfr
  refine zk_back (va_runI (As := As) (rest := rest) ⟨cx.1, cx.2.1, cx.2.2.2.1, cx.2.2.2.2.1, hts⟩ hMet hcw (zk_pre cx hH hS) rfl hn hl.1 rfl (lv_room hw) hd ⟨show cells + (M1.1 - M.1) ≤ C by omega, show slots + (M1.2.1 - M.2.1) ≤ S by omega⟩) hS fun H1 locs1 hH1 hS1 => ?_
  exact h p e s m args below meth c H1 locs1 _ _ C S ls cx hH1 hS1 hl (by omega) (by omega)
theorem zk_callIN {μ2 : zk_Mt} {idx n b : Nat} {host : String} {As rest : List Value} {r : Option Value} {M1 : zk_M} (q : Nat) (hC : zk_C Z μ2 (.ref b :: As) M r M1) (hd : decode μ.2.1 pc = .ok (.invokespecial idx, 3)) (hk : zk_Ok μ2 n) (hfr : μ2.2.2.2.2.1 + 1 ≤ μ.2.2.2.2.1 ∧ 8 + (μ2.2.2.1 + 11) + μ2.2.2.2.2.2 ≤ μ.2.2.2.2.2) (hl0 : zk_LIN μ.1.cls idx μ2 host) (hn : As.length = n) (hst : st = As.reverse ++ .ref b :: rest) (hw : (rest.map fun v => v.category).sum ≤ 8) (hq : pc + 3 = q) (k : zk_P Z μ q lo (r.toList ++ rest) M1 R) : zk_P Z μ pc lo st M R := by
  subst hq; subst hst
  obtain ⟨r', M', hR, h1, h2, h⟩ := k
  obtain ⟨c1, c2, hMet⟩ := hC
  obtain ⟨k1, k2, k4⟩ := hk
  obtain ⟨l1, l2, l3, l4⟩ := hl0
  obtain ⟨y2, b2, n2, t2, f2, g2⟩ := μ2
  have l4 : t2 = none := l4
  subst l4
  refine ⟨r', M', hR, Nat.le_trans c1 h1, Nat.le_trans c2 h2, fun p e s m args below meth c H locs cells slots C S ls cx hH hS hl hc hs => ?_⟩
  have hts := cx.2.2.2.2.2.1
  have hcw : va_CN (zk_rm μ C S) s args μ.1.cls idx y2 host b2 n2 none (zk_ws (y2, b2, n2, none, f2, g2)) (zk_rm (y2, b2, n2, none, f2, g2) (M1.1 - M.1) (M1.2.1 - M.2.1)) (M1.1 - M.1) (M1.2.1 - M.2.1) n := va_cnB (ws' := zk_all) n hts (zk_goodIn (ws := []) (fun w hw => by cases hw) k1) rfl rfl rfl (cx.2.2.2.2.2.2.2.2.2.2.2.2 _ l1) (hts _ k4) k2 hfr
  refine zk_back (va_runIN (As := As) (rest := rest) ⟨cx.1, cx.2.1, cx.2.2.2.1, cx.2.2.2.2.1, hts⟩ hMet ⟨hcw, l3, hts _ l2⟩ (zk_pre cx hH hS) rfl hn hl.1 rfl (lv_room hw) hd ⟨show cells + (M1.1 - M.1) ≤ C by omega, show slots + (M1.2.1 - M.2.1) ≤ S by omega⟩) hS fun H1 locs1 hH1 hS1 => ?_
  exact h p e s m args below meth c H1 locs1 _ _ C S ls cx hH1 hS1 hl (by omega) (by omega)
end ZKC
end
section
/-! the rules that change the memory, as they are used: the new cells by what they hold, all others as before -/
section ZKU
variable {Z : zk_Z} {μ : zk_Mt} {pc : Nat} {lo : List (Option Value)} {st : List Value} {n s : Nat} {f : Nat → Option zk_E} {R : Option Value → zk_M → Prop}
theorem zk_put {idx ci j a : Nat} {fs : List Value} {v : Value} {ty : FieldType} (q : Nat) (hd : decode μ.2.1 pc = .ok (.putfield idx, 3)) (hf : zk_Fp μ.1.cls idx ci j ty false) (hM : f a = some (.inr (.inr (ci, fs)))) (hn : narrow ty v = v) (hfit : fits ty v = true) (hlen : j < fs.length) (hq : pc + 3 = q)
    (k : ∀ g : Nat → Option zk_E, g a = some (.inr (.inr (ci, fs.set j v))) → (∀ b, b ≠ a → g b = f b) → zk_P Z μ q lo st (n, s, g) R) : zk_P Z μ pc lo (v :: .ref a :: st) (n, s, f) R :=
  zk_putG (M := (n, s, f)) q hd hf hM hn hfit hlen hq (k _ (va_up_self _ _ _) (fun _ hb => va_up_ne _ _ hb))
theorem zk_putF {idx ci j a : Nat} {fs : List Value} {v : Value} {ty : FieldType} (q : Nat) (hd : decode μ.2.1 pc = .ok (.putfield idx, 3)) (hf : zk_Fp μ.1.cls idx ci j ty true) (hcl : ∀ C T N, vwCl[ci]? = some (C, T, N) → C = μ.1.cls) (hinit : μ.1.name = "<init>") (hM : f a = some (.inr (.inr (ci, fs)))) (hn : narrow ty v = v) (hfit : fits ty v = true) (hlen : j < fs.length) (hq : pc + 3 = q)
    (k : ∀ g : Nat → Option zk_E, g a = some (.inr (.inr (ci, fs.set j v))) → (∀ b, b ≠ a → g b = f b) → zk_P Z μ q lo st (n, s, g) R) : zk_P Z μ pc lo (v :: .ref a :: st) (n, s, f) R :=
  zk_putGF (M := (n, s, f)) q hd hf hcl hinit hM hn hfit hlen hq (k _ (va_up_self _ _ _) (fun _ hb => va_up_ne _ _ hb))
theorem zk_newK {idx ci N : Nat} {fs : List Value} (q : Nat) (hd : decode μ.2.1 pc = .ok (.new idx, 3)) (hf : zk_N μ.1.cls idx ci N fs) (hq : pc + 3 = q)
    (k : ∀ g : Nat → Option zk_E, g n = some (.inr (.inr (ci, fs))) → (∀ b, b ≠ n → g b = f b) → zk_P Z μ q lo (.ref n :: st) (n + 1, s + N, g) R) : zk_P Z μ pc lo st (n, s, f) R :=
  zk_new (M := (n, s, f)) q hd hf hq (k _ (va_up_self _ _ _) (fun _ hb => va_up_ne _ _ hb))
theorem zk_newiK {x : Int32} {N : Nat} (q : Nat) (hd : decode μ.2.1 pc = .ok (.newarray .int, 2)) (hw : Cond.arrayClass .int ∈ zk_all) (hn : ¬ x < 0) (hN : x.toNatClampNeg = N) (hbytes : N * 4 ≤ 536870912) (hq : pc + 2 = q)
    (k : ∀ g : Nat → Option zk_E, g n = some (.inl (N, fun _ => 0)) → (∀ b, b ≠ n → g b = f b) → zk_P Z μ q lo (.ref n :: st) (n + 1, s + N, g) R) : zk_P Z μ pc lo (.int x :: st) (n, s, f) R :=
  zk_newi (M := (n, s, f)) q hd hw rfl hn hN hbytes hq (k _ (va_up_self _ _ _) (fun _ hb => va_up_ne _ _ hb))
theorem zk_newqK {idx t : Nat} {x : Int32} {N : Nat} {C : String} (q : Nat) (hd : decode μ.2.1 pc = .ok (.anewarray idx, 3)) (hw : Cond.classLink μ.1.cls idx C ∈ zk_all) (hw2 : Cond.arrayOver (.object C) ∈ zk_nw) (ht : zk_ty[t]? = some (.object C)) (hn : ¬ x < 0) (hN : x.toNatClampNeg = N) (hbytes : N * 4 ≤ 536870912) (hq : pc + 3 = q)
    (k : ∀ g : Nat → Option zk_E, g n = some (.inr (.inl (t, N, fun _ => none))) → (∀ b, b ≠ n → g b = f b) → zk_P Z μ q lo (.ref n :: st) (n + 1, s + N, g) R) : zk_P Z μ pc lo (.int x :: st) (n, s, f) R :=
  zk_newq (M := (n, s, f)) q hd hw hw2 ht hn hN hbytes hq (k _ (va_up_self _ _ _) (fun _ hb => va_up_ne _ _ hb))
theorem zk_iastoreK {a N : Nat} {h : Nat → Int32} {i x : Int32} (q : Nat) (hd : decode μ.2.1 pc = .ok (.iastore, 1)) (hM : f a = some (.inl (N, h))) (hin : vp_in i N) (hq : pc + 1 = q)
    (k : ∀ g : Nat → Option zk_E, g a = some (.inl (N, upd h i.toNatClampNeg x)) → (∀ b, b ≠ a → g b = f b) → zk_P Z μ q lo st (n, s, g) R) : zk_P Z μ pc lo (.int x :: .int i :: .ref a :: st) (n, s, f) R :=
  zk_iastore (M := (n, s, f)) q hd rfl hM hin hq (k _ (va_up_self _ _ _) (fun _ hb => va_up_ne _ _ hb))
theorem zk_aastoreK {a t N v ci K : Nat} {h : Nat → Option Nat} {C : String} {T : u_T} {vs : List Value} {i : Int32} (q : Nat) (hd : decode μ.2.1 pc = .ok (.aastore, 1)) (ht : zk_ty[t]? = some (.object C)) (hM : f a = some (.inr (.inl (t, N, h)))) (hv : f v = some (.inr (.inr (ci, vs)))) (hc : vwCl[ci]? = some (C, T, K)) (hin : vp_in i N) (hq : pc + 1 = q)
    (k : ∀ g : Nat → Option zk_E, g a = some (.inr (.inl (t, N, va_up h i.toNatClampNeg (some v)))) → (∀ b, b ≠ a → g b = f b) → zk_P Z μ q lo st (n, s, g) R) : zk_P Z μ pc lo (.ref v :: .int i :: .ref a :: st) (n, s, f) R :=
  zk_aastore (M := (n, s, f)) q hd ht hM hv hc hin hq (k _ (va_up_self _ _ _) (fun _ hb => va_up_ne _ _ hb))
end ZKU
/-! calls by contracts that tell what holds behind them -/
section ZKV
variable {Z : zk_Z} {μ : zk_Mt} {pc : Nat} {lo : List (Option Value)} {st : List Value} {M : zk_M} {R R' : Option Value → zk_M → Prop}
theorem zk_cV {μ2 : zk_Mt} {idx n b ci N : Nat} {T : u_T} {fs As rest : List Value} (q : Nat) (hC : zk_K Z μ2 (.ref b :: As) M R') (hd : decode μ.2.1 pc = .ok (.invokevirtual idx, 3)) (hk : zk_Ok μ2 n) (hl0 : zk_LV μ.1.cls idx μ2) (hM : M.2.2 b = some (.inr (.inr (ci, fs)))) (hci : vwCl[ci]? = some (μ2.1.cls, T, N)) (hn : As.length = n) (hst : st = As.reverse ++ .ref b :: rest)
    (hfr : μ2.2.2.2.2.1 + 1 ≤ μ.2.2.2.2.1 ∧ 8 + (μ2.2.2.1 + 11) + μ2.2.2.2.2.2 ≤ μ.2.2.2.2.2) (hw : (rest.map fun v => v.category).sum ≤ 8) (hq : pc + 3 = q) (k : ∀ r M1, R' r M1 → zk_P Z μ q lo (r.toList ++ rest) M1 R) : zk_P Z μ pc lo st M R := by
  obtain ⟨r, M1, h1, h2⟩ := hC
  exact zk_callV q h2 hd hk hfr hl0 hM hci hn hst hw hq (k r M1 h1)
theorem zk_cS {μ2 : zk_Mt} {idx n : Nat} {As rest : List Value} (q : Nat) (hC : zk_K Z μ2 As M R') (hd : decode μ.2.1 pc = .ok (.invokestatic idx, 3)) (hk : zk_Ok μ2 n) (hl0 : zk_LS μ.1.cls idx μ2) (hn : As.length = n) (hst : st = As.reverse ++ rest)
    (hfr : μ2.2.2.2.2.1 + 1 ≤ μ.2.2.2.2.1 ∧ 8 + (μ2.2.2.1 + 11) + μ2.2.2.2.2.2 ≤ μ.2.2.2.2.2) (hw : (rest.map fun v => v.category).sum ≤ 8) (hq : pc + 3 = q) (k : ∀ r M1, R' r M1 → zk_P Z μ q lo (r.toList ++ rest) M1 R) : zk_P Z μ pc lo st M R := by
  obtain ⟨r, M1, h1, h2⟩ := hC
  exact zk_callS q h2 hd hk hfr hl0 hn hst hw hq (k r M1 h1)
theorem zk_cI {μ2 : zk_Mt} {idx n b : Nat} {As rest : List Value} (q : Nat) (hC : zk_K Z μ2 (.ref b :: As) M R') (hd : decode μ.2.1 pc = .ok (.invokespecial idx, 3)) (hk : zk_Ok μ2 n) (hl0 : zk_LI μ.1.cls idx μ2) (hn : As.length = n) (hst : st = As.reverse ++ .ref b :: rest)
    (hfr : μ2.2.2.2.2.1 + 1 ≤ μ.2.2.2.2.1 ∧ 8 + (μ2.2.2.1 + 11) + μ2.2.2.2.2.2 ≤ μ.2.2.2.2.2) (hw : (rest.map fun v => v.category).sum ≤ 8) (hq : pc + 3 = q) (k : ∀ r M1, R' r M1 → zk_P Z μ q lo (r.toList ++ rest) M1 R) : zk_P Z μ pc lo st M R := by
  obtain ⟨r, M1, h1, h2⟩ := hC
  exact zk_callI q h2 hd hk hfr hl0 hn hst hw hq (k r M1 h1)
theorem zk_cIN {μ2 : zk_Mt} {idx n b : Nat} {host : String} {As rest : List Value} (q : Nat) (hC : zk_K Z μ2 (.ref b :: As) M R') (hd : decode μ.2.1 pc = .ok (.invokespecial idx, 3)) (hk : zk_Ok μ2 n) (hl0 : zk_LIN μ.1.cls idx μ2 host) (hn : As.length = n) (hst : st = As.reverse ++ .ref b :: rest)
    (hfr : μ2.2.2.2.2.1 + 1 ≤ μ.2.2.2.2.1 ∧ 8 + (μ2.2.2.1 + 11) + μ2.2.2.2.2.2 ≤ μ.2.2.2.2.2) (hw : (rest.map fun v => v.category).sum ≤ 8) (hq : pc + 3 = q) (k : ∀ r M1, R' r M1 → zk_P Z μ q lo (r.toList ++ rest) M1 R) : zk_P Z μ pc lo st M R := by
  obtain ⟨r, M1, h1, h2⟩ := hC
  exact zk_callIN q h2 hd hk hfr hl0 hn hst hw hq (k r M1 h1)
def zk_Kv (Z : zk_Z) (μ : zk_Mt) (as : List Value) (M : zk_M) (R0 : zk_M → Prop) : Prop := zk_K Z μ as M (fun r M' => r = none ∧ R0 M')
def zk_Kr (Z : zk_Z) (μ : zk_Mt) (as : List Value) (M : zk_M) (R1 : Value → zk_M → Prop) : Prop := zk_K Z μ as M (fun r M' => ∃ v, r = some v ∧ R1 v M')
theorem zk_cVv {μ2 : zk_Mt} {idx n b ci N : Nat} {T : u_T} {fs As rest : List Value} {R0 : zk_M → Prop} (q : Nat) (hC : zk_Kv Z μ2 (.ref b :: As) M R0) (hd : decode μ.2.1 pc = .ok (.invokevirtual idx, 3)) (hk : zk_Ok μ2 n) (hl0 : zk_LV μ.1.cls idx μ2) (hM : M.2.2 b = some (.inr (.inr (ci, fs)))) (hci : vwCl[ci]? = some (μ2.1.cls, T, N)) (hn : As.length = n) (hst : st = As.reverse ++ .ref b :: rest) (hfr : μ2.2.2.2.2.1 + 1 ≤ μ.2.2.2.2.1 ∧ 8 + (μ2.2.2.1 + 11) + μ2.2.2.2.2.2 ≤ μ.2.2.2.2.2) (hw : (rest.map fun v => v.category).sum ≤ 8) (hq : pc + 3 = q) (k : ∀ M1, R0 M1 → zk_P Z μ q lo rest M1 R) : zk_P Z μ pc lo st M R := zk_cV q hC hd hk hl0 hM hci hn hst hfr hw hq (fun r M1 h => by obtain ⟨rfl, h⟩ := h; exact k M1 h)
theorem zk_cVr {μ2 : zk_Mt} {idx n b ci N : Nat} {T : u_T} {fs As rest : List Value} {R1 : Value → zk_M → Prop} (q : Nat) (hC : zk_Kr Z μ2 (.ref b :: As) M R1) (hd : decode μ.2.1 pc = .ok (.invokevirtual idx, 3)) (hk : zk_Ok μ2 n) (hl0 : zk_LV μ.1.cls idx μ2) (hM : M.2.2 b = some (.inr (.inr (ci, fs)))) (hci : vwCl[ci]? = some (μ2.1.cls, T, N)) (hn : As.length = n) (hst : st = As.reverse ++ .ref b :: rest) (hfr : μ2.2.2.2.2.1 + 1 ≤ μ.2.2.2.2.1 ∧ 8 + (μ2.2.2.1 + 11) + μ2.2.2.2.2.2 ≤ μ.2.2.2.2.2) (hw : (rest.map fun v => v.category).sum ≤ 8) (hq : pc + 3 = q) (k : ∀ v M1, R1 v M1 → zk_P Z μ q lo (v :: rest) M1 R) : zk_P Z μ pc lo st M R := zk_cV q hC hd hk hl0 hM hci hn hst hfr hw hq (fun r M1 h => by obtain ⟨v, rfl, h⟩ := h; exact k v M1 h)
theorem zk_cSv {μ2 : zk_Mt} {idx n : Nat} {As rest : List Value} {R0 : zk_M → Prop} (q : Nat) (hC : zk_Kv Z μ2 As M R0) (hd : decode μ.2.1 pc = .ok (.invokestatic idx, 3)) (hk : zk_Ok μ2 n) (hl0 : zk_LS μ.1.cls idx μ2) (hn : As.length = n) (hst : st = As.reverse ++ rest) (hfr : μ2.2.2.2.2.1 + 1 ≤ μ.2.2.2.2.1 ∧ 8 + (μ2.2.2.1 + 11) + μ2.2.2.2.2.2 ≤ μ.2.2.2.2.2) (hw : (rest.map fun v => v.category).sum ≤ 8) (hq : pc + 3 = q) (k : ∀ M1, R0 M1 → zk_P Z μ q lo rest M1 R) : zk_P Z μ pc lo st M R := zk_cS q hC hd hk hl0 hn hst hfr hw hq (fun r M1 h => by obtain ⟨rfl, h⟩ := h; exact k M1 h)
theorem zk_cSr {μ2 : zk_Mt} {idx n : Nat} {As rest : List Value} {R1 : Value → zk_M → Prop} (q : Nat) (hC : zk_Kr Z μ2 As M R1) (hd : decode μ.2.1 pc = .ok (.invokestatic idx, 3)) (hk : zk_Ok μ2 n) (hl0 : zk_LS μ.1.cls idx μ2) (hn : As.length = n) (hst : st = As.reverse ++ rest) (hfr : μ2.2.2.2.2.1 + 1 ≤ μ.2.2.2.2.1 ∧ 8 + (μ2.2.2.1 + 11) + μ2.2.2.2.2.2 ≤ μ.2.2.2.2.2) (hw : (rest.map fun v => v.category).sum ≤ 8) (hq : pc + 3 = q) (k : ∀ v M1, R1 v M1 → zk_P Z μ q lo (v :: rest) M1 R) : zk_P Z μ pc lo st M R := zk_cS q hC hd hk hl0 hn hst hfr hw hq (fun r M1 h => by obtain ⟨v, rfl, h⟩ := h; exact k v M1 h)
theorem zk_cIv {μ2 : zk_Mt} {idx n b : Nat} {As rest : List Value} {R0 : zk_M → Prop} (q : Nat) (hC : zk_Kv Z μ2 (.ref b :: As) M R0) (hd : decode μ.2.1 pc = .ok (.invokespecial idx, 3)) (hk : zk_Ok μ2 n) (hl0 : zk_LI μ.1.cls idx μ2) (hn : As.length = n) (hst : st = As.reverse ++ .ref b :: rest) (hfr : μ2.2.2.2.2.1 + 1 ≤ μ.2.2.2.2.1 ∧ 8 + (μ2.2.2.1 + 11) + μ2.2.2.2.2.2 ≤ μ.2.2.2.2.2) (hw : (rest.map fun v => v.category).sum ≤ 8) (hq : pc + 3 = q) (k : ∀ M1, R0 M1 → zk_P Z μ q lo rest M1 R) : zk_P Z μ pc lo st M R := zk_cI q hC hd hk hl0 hn hst hfr hw hq (fun r M1 h => by obtain ⟨rfl, h⟩ := h; exact k M1 h)
theorem zk_cINv {μ2 : zk_Mt} {idx n b : Nat} {host : String} {As rest : List Value} {R0 : zk_M → Prop} (q : Nat) (hC : zk_Kv Z μ2 (.ref b :: As) M R0) (hd : decode μ.2.1 pc = .ok (.invokespecial idx, 3)) (hk : zk_Ok μ2 n) (hl0 : zk_LIN μ.1.cls idx μ2 host) (hn : As.length = n) (hst : st = As.reverse ++ .ref b :: rest) (hfr : μ2.2.2.2.2.1 + 1 ≤ μ.2.2.2.2.1 ∧ 8 + (μ2.2.2.1 + 11) + μ2.2.2.2.2.2 ≤ μ.2.2.2.2.2) (hw : (rest.map fun v => v.category).sum ≤ 8) (hq : pc + 3 = q) (k : ∀ M1, R0 M1 → zk_P Z μ q lo rest M1 R) : zk_P Z μ pc lo st M R := zk_cIN q hC hd hk hl0 hn hst hfr hw hq (fun r M1 h => by obtain ⟨rfl, h⟩ := h; exact k M1 h)
end ZKV
end
section
abbrev mm_CmRows_init : zk_Mt := (⟨"ClosureMachine$Rows", "<init>", "(I)V"⟩, prog_6_method_1_code, 2, none, 1, 20)
set_option maxRecDepth 20000 in
theorem ok_CmRows_init : zk_Ok mm_CmRows_init 1 := ⟨zk_in 33 rfl rfl, ⟨by decide +kernel, by decide +kernel, by decide +kernel⟩, zk_in 3 (by decide +kernel) (by decide +kernel)⟩
theorem dc_CmRows_init_0 : decode prog_6_method_1_code 0 = .ok (.aload_n 0, 1) := by decide +kernel
theorem dc_CmRows_init_1 : decode prog_6_method_1_code 1 = .ok (.invokespecial 3, 3) := by decide +kernel
theorem dc_CmRows_init_4 : decode prog_6_method_1_code 4 = .ok (.aload_n 0, 1) := by decide +kernel
theorem dc_CmRows_init_5 : decode prog_6_method_1_code 5 = .ok (.iload_n 1, 1) := by decide +kernel
theorem dc_CmRows_init_6 : decode prog_6_method_1_code 6 = .ok (.putfield 9, 3) := by decide +kernel
theorem fp_CmRows_9 : zk_Fp "ClosureMachine$Rows" 9 0 0 (yc_0 0) true := ⟨rc_0, tc_0, 3, rfl, by decide, zk_in 35 (by decide +kernel) (by decide +kernel), by decide +kernel, rfl, rfl⟩
theorem dc_CmRows_init_9 : decode prog_6_method_1_code 9 = .ok (.aload_n 0, 1) := by decide +kernel
theorem dc_CmRows_init_10 : decode prog_6_method_1_code 10 = .ok (.sipush 256, 3) := by decide +kernel
theorem dc_CmRows_init_13 : decode prog_6_method_1_code 13 = .ok (.newarray .int, 2) := by decide +kernel
theorem dc_CmRows_init_15 : decode prog_6_method_1_code 15 = .ok (.putfield 15, 3) := by decide +kernel
theorem fp_CmRows_15 : zk_Fp "ClosureMachine$Rows" 15 0 1 (yc_0 1) false := ⟨rc_0, tc_0, 3, rfl, by decide, zk_in 36 (by decide +kernel) (by decide +kernel), by decide +kernel, rfl, rfl⟩
theorem dc_CmRows_init_18 : decode prog_6_method_1_code 18 = .ok (.aload_n 0, 1) := by decide +kernel
theorem dc_CmRows_init_19 : decode prog_6_method_1_code 19 = .ok (.iconst 0, 1) := by decide +kernel
theorem dc_CmRows_init_20 : decode prog_6_method_1_code 20 = .ok (.putfield 19, 3) := by decide +kernel
theorem fp_CmRows_19 : zk_Fp "ClosureMachine$Rows" 19 0 2 (yc_0 2) false := ⟨rc_0, tc_0, 3, rfl, by decide, zk_in 37 (by decide +kernel) (by decide +kernel), by decide +kernel, rfl, rfl⟩
theorem dc_CmRows_init_23 : decode prog_6_method_1_code 23 = .ok (.return_, 1) := by decide +kernel
abbrev mm_CmTerms_init : zk_Mt := (⟨"ClosureMachine$Terms", "<init>", "()V"⟩, prog_7_method_1_code, 1, none, 2, 41)
set_option maxRecDepth 20000 in
theorem ok_CmTerms_init : zk_Ok mm_CmTerms_init 0 := ⟨zk_in 26 rfl rfl, ⟨by decide +kernel, by decide +kernel, by decide +kernel⟩, zk_in 2 (by decide +kernel) (by decide +kernel)⟩
theorem dc_CmTerms_init_0 : decode prog_7_method_1_code 0 = .ok (.aload_n 0, 1) := by decide +kernel
theorem dc_CmTerms_init_1 : decode prog_7_method_1_code 1 = .ok (.invokespecial 5, 3) := by decide +kernel
theorem dc_CmTerms_init_4 : decode prog_7_method_1_code 4 = .ok (.aload_n 0, 1) := by decide +kernel
theorem dc_CmTerms_init_5 : decode prog_7_method_1_code 5 = .ok (.new 11, 3) := by decide +kernel
theorem nw_CmTerms_11 : zk_N "ClosureMachine$Terms" 11 0 3 [.int 0, .null, .int 0] := ⟨rc_0, tc_0, yc_0, rfl, zk_in 28 (by decide +kernel) (by decide +kernel), zk_in 29 (by decide +kernel) (by decide +kernel), zk_in 3 (by decide +kernel) (by decide +kernel), yk_0, by decide +kernel⟩
theorem dc_CmTerms_init_8 : decode prog_7_method_1_code 8 = .ok (.dup, 1) := by decide +kernel
theorem dc_CmTerms_init_9 : decode prog_7_method_1_code 9 = .ok (.ldc 13, 2) := by decide +kernel
theorem dc_CmTerms_init_11 : decode prog_7_method_1_code 11 = .ok (.invokespecial 14, 3) := by decide +kernel
theorem lk_CmTerms_14 : zk_LI "ClosureMachine$Terms" 14 mm_CmRows_init := ⟨zk_in 31 (by decide +kernel) (by decide +kernel), zk_in 32 (by decide +kernel) (by decide +kernel), rfl, rfl⟩
theorem dc_CmTerms_init_14 : decode prog_7_method_1_code 14 = .ok (.putfield 17, 3) := by decide +kernel
theorem fp_CmTerms_17 : zk_Fp "ClosureMachine$Terms" 17 1 0 (yc_1 0) true := ⟨rc_1, tc_1, 4, rfl, by decide, zk_in 46 (by decide +kernel) (by decide +kernel), by decide +kernel, rfl, rfl⟩
theorem dc_CmTerms_init_17 : decode prog_7_method_1_code 17 = .ok (.aload_n 0, 1) := by decide +kernel
theorem dc_CmTerms_init_18 : decode prog_7_method_1_code 18 = .ok (.new 11, 3) := by decide +kernel
theorem dc_CmTerms_init_21 : decode prog_7_method_1_code 21 = .ok (.dup, 1) := by decide +kernel
theorem dc_CmTerms_init_22 : decode prog_7_method_1_code 22 = .ok (.sipush 3000, 3) := by decide +kernel
theorem dc_CmTerms_init_25 : decode prog_7_method_1_code 25 = .ok (.invokespecial 14, 3) := by decide +kernel
theorem dc_CmTerms_init_28 : decode prog_7_method_1_code 28 = .ok (.putfield 21, 3) := by decide +kernel
theorem fp_CmTerms_21 : zk_Fp "ClosureMachine$Terms" 21 1 1 (yc_1 1) true := ⟨rc_1, tc_1, 4, rfl, by decide, zk_in 49 (by decide +kernel) (by decide +kernel), by decide +kernel, rfl, rfl⟩
theorem dc_CmTerms_init_31 : decode prog_7_method_1_code 31 = .ok (.aload_n 0, 1) := by decide +kernel
theorem dc_CmTerms_init_32 : decode prog_7_method_1_code 32 = .ok (.new 11, 3) := by decide +kernel
theorem dc_CmTerms_init_35 : decode prog_7_method_1_code 35 = .ok (.dup, 1) := by decide +kernel
theorem dc_CmTerms_init_36 : decode prog_7_method_1_code 36 = .ok (.sipush 8000, 3) := by decide +kernel
theorem dc_CmTerms_init_39 : decode prog_7_method_1_code 39 = .ok (.invokespecial 14, 3) := by decide +kernel
theorem dc_CmTerms_init_42 : decode prog_7_method_1_code 42 = .ok (.putfield 24, 3) := by decide +kernel
theorem fp_CmTerms_24 : zk_Fp "ClosureMachine$Terms" 24 1 2 (yc_1 2) true := ⟨rc_1, tc_1, 4, rfl, by decide, zk_in 50 (by decide +kernel) (by decide +kernel), by decide +kernel, rfl, rfl⟩
theorem dc_CmTerms_init_45 : decode prog_7_method_1_code 45 = .ok (.aload_n 0, 1) := by decide +kernel
theorem dc_CmTerms_init_46 : decode prog_7_method_1_code 46 = .ok (.iconst 0, 1) := by decide +kernel
theorem dc_CmTerms_init_47 : decode prog_7_method_1_code 47 = .ok (.putfield 27, 3) := by decide +kernel
theorem fp_CmTerms_27 : zk_Fp "ClosureMachine$Terms" 27 1 3 (yc_1 3) false := ⟨rc_1, tc_1, 4, rfl, by decide, zk_in 51 (by decide +kernel) (by decide +kernel), by decide +kernel, rfl, rfl⟩
theorem dc_CmTerms_init_50 : decode prog_7_method_1_code 50 = .ok (.return_, 1) := by decide +kernel
abbrev mm_CmGlobals_init : zk_Mt := (⟨"ClosureMachine$Globals", "<init>", "()V"⟩, prog_3_method_1_code, 1, none, 1, 20)
set_option maxRecDepth 20000 in
theorem ok_CmGlobals_init : zk_Ok mm_CmGlobals_init 0 := ⟨zk_in 65 rfl rfl, ⟨by decide +kernel, by decide +kernel, by decide +kernel⟩, zk_in 4 (by decide +kernel) (by decide +kernel)⟩
theorem dc_CmGlobals_init_0 : decode prog_3_method_1_code 0 = .ok (.aload_n 0, 1) := by decide +kernel
theorem dc_CmGlobals_init_1 : decode prog_3_method_1_code 1 = .ok (.invokespecial 3, 3) := by decide +kernel
theorem dc_CmGlobals_init_4 : decode prog_3_method_1_code 4 = .ok (.aload_n 0, 1) := by decide +kernel
theorem dc_CmGlobals_init_5 : decode prog_3_method_1_code 5 = .ok (.bipush 60, 2) := by decide +kernel
theorem dc_CmGlobals_init_7 : decode prog_3_method_1_code 7 = .ok (.anewarray 9, 3) := by decide +kernel
theorem dc_CmGlobals_init_10 : decode prog_3_method_1_code 10 = .ok (.putfield 11, 3) := by decide +kernel
theorem fp_CmGlobals_11 : zk_Fp "ClosureMachine$Globals" 11 2 0 (yc_2 0) true := ⟨rc_2, tc_2, 2, rfl, by decide, zk_in 69 (by decide +kernel) (by decide +kernel), by decide +kernel, rfl, rfl⟩
theorem dc_CmGlobals_init_13 : decode prog_3_method_1_code 13 = .ok (.aload_n 0, 1) := by decide +kernel
theorem dc_CmGlobals_init_14 : decode prog_3_method_1_code 14 = .ok (.iconst 0, 1) := by decide +kernel
theorem dc_CmGlobals_init_15 : decode prog_3_method_1_code 15 = .ok (.putfield 17, 3) := by decide +kernel
theorem fp_CmGlobals_17 : zk_Fp "ClosureMachine$Globals" 17 2 1 (yc_2 1) false := ⟨rc_2, tc_2, 2, rfl, by decide, zk_in 70 (by decide +kernel) (by decide +kernel), by decide +kernel, rfl, rfl⟩
theorem dc_CmGlobals_init_18 : decode prog_3_method_1_code 18 = .ok (.return_, 1) := by decide +kernel
abbrev mm_CmTypeReader_init : zk_Mt := (⟨"ClosureMachine$TypeReader", "<init>", "(LClosureMachine$Terms;)V"⟩, prog_8_method_1_code, 2, none, 1, 20)
set_option maxRecDepth 20000 in
theorem ok_CmTypeReader_init : zk_Ok mm_CmTypeReader_init 1 := ⟨zk_in 80 rfl rfl, ⟨by decide +kernel, by decide +kernel, by decide +kernel⟩, zk_in 5 (by decide +kernel) (by decide +kernel)⟩
theorem dc_CmTypeReader_init_0 : decode prog_8_method_1_code 0 = .ok (.aload_n 0, 1) := by decide +kernel
theorem dc_CmTypeReader_init_1 : decode prog_8_method_1_code 1 = .ok (.invokespecial 3, 3) := by decide +kernel
theorem dc_CmTypeReader_init_4 : decode prog_8_method_1_code 4 = .ok (.aload_n 0, 1) := by decide +kernel
theorem dc_CmTypeReader_init_5 : decode prog_8_method_1_code 5 = .ok (.aload_n 1, 1) := by decide +kernel
theorem dc_CmTypeReader_init_6 : decode prog_8_method_1_code 6 = .ok (.putfield 9, 3) := by decide +kernel
theorem fp_CmTypeReader_9 : zk_Fp "ClosureMachine$TypeReader" 9 3 0 (yc_3 0) true := ⟨rc_3, tc_3, 1, rfl, by decide, zk_in 82 (by decide +kernel) (by decide +kernel), by decide +kernel, rfl, rfl⟩
theorem dc_CmTypeReader_init_9 : decode prog_8_method_1_code 9 = .ok (.return_, 1) := by decide +kernel
abbrev mm_CmMachine_init : zk_Mt := (⟨"ClosureMachine$Machine", "<init>", "(LClosureMachine$Terms;LClosureMachine$Globals;)V"⟩, prog_4_method_1_code, 3, none, 2, 41)
set_option maxRecDepth 20000 in
theorem ok_CmMachine_init : zk_Ok mm_CmMachine_init 2 := ⟨zk_in 90 rfl rfl, ⟨by decide +kernel, by decide +kernel, by decide +kernel⟩, zk_in 6 (by decide +kernel) (by decide +kernel)⟩
theorem dc_CmMachine_init_0 : decode prog_4_method_1_code 0 = .ok (.aload_n 0, 1) := by decide +kernel
theorem dc_CmMachine_init_1 : decode prog_4_method_1_code 1 = .ok (.invokespecial 3, 3) := by decide +kernel
theorem dc_CmMachine_init_4 : decode prog_4_method_1_code 4 = .ok (.aload_n 0, 1) := by decide +kernel
theorem dc_CmMachine_init_5 : decode prog_4_method_1_code 5 = .ok (.new 9, 3) := by decide +kernel
theorem nw_CmMachine_9 : zk_N "ClosureMachine$Machine" 9 0 3 [.int 0, .null, .int 0] := ⟨rc_0, tc_0, yc_0, rfl, zk_in 92 (by decide +kernel) (by decide +kernel), zk_in 29 (by decide +kernel) (by decide +kernel), zk_in 3 (by decide +kernel) (by decide +kernel), yk_0, by decide +kernel⟩
theorem dc_CmMachine_init_8 : decode prog_4_method_1_code 8 = .ok (.dup, 1) := by decide +kernel
theorem dc_CmMachine_init_9 : decode prog_4_method_1_code 9 = .ok (.sipush 12000, 3) := by decide +kernel
theorem dc_CmMachine_init_12 : decode prog_4_method_1_code 12 = .ok (.invokespecial 13, 3) := by decide +kernel
theorem lk_CmMachine_13 : zk_LI "ClosureMachine$Machine" 13 mm_CmRows_init := ⟨zk_in 93 (by decide +kernel) (by decide +kernel), zk_in 32 (by decide +kernel) (by decide +kernel), rfl, rfl⟩
theorem dc_CmMachine_init_15 : decode prog_4_method_1_code 15 = .ok (.putfield 16, 3) := by decide +kernel
theorem fp_CmMachine_16 : zk_Fp "ClosureMachine$Machine" 16 4 2 (yc_4 2) true := ⟨rc_4, tc_4, 11, rfl, by decide, zk_in 96 (by decide +kernel) (by decide +kernel), by decide +kernel, rfl, rfl⟩
theorem dc_CmMachine_init_18 : decode prog_4_method_1_code 18 = .ok (.aload_n 0, 1) := by decide +kernel
theorem dc_CmMachine_init_19 : decode prog_4_method_1_code 19 = .ok (.new 9, 3) := by decide +kernel
theorem dc_CmMachine_init_22 : decode prog_4_method_1_code 22 = .ok (.dup, 1) := by decide +kernel
theorem dc_CmMachine_init_23 : decode prog_4_method_1_code 23 = .ok (.sipush 3000, 3) := by decide +kernel
theorem dc_CmMachine_init_26 : decode prog_4_method_1_code 26 = .ok (.invokespecial 13, 3) := by decide +kernel
theorem dc_CmMachine_init_29 : decode prog_4_method_1_code 29 = .ok (.putfield 20, 3) := by decide +kernel
theorem fp_CmMachine_20 : zk_Fp "ClosureMachine$Machine" 20 4 3 (yc_4 3) true := ⟨rc_4, tc_4, 11, rfl, by decide, zk_in 98 (by decide +kernel) (by decide +kernel), by decide +kernel, rfl, rfl⟩
theorem dc_CmMachine_init_32 : decode prog_4_method_1_code 32 = .ok (.aload_n 0, 1) := by decide +kernel
theorem dc_CmMachine_init_33 : decode prog_4_method_1_code 33 = .ok (.new 9, 3) := by decide +kernel
theorem dc_CmMachine_init_36 : decode prog_4_method_1_code 36 = .ok (.dup, 1) := by decide +kernel
theorem dc_CmMachine_init_37 : decode prog_4_method_1_code 37 = .ok (.sipush 3000, 3) := by decide +kernel
theorem dc_CmMachine_init_40 : decode prog_4_method_1_code 40 = .ok (.invokespecial 13, 3) := by decide +kernel
theorem dc_CmMachine_init_43 : decode prog_4_method_1_code 43 = .ok (.putfield 23, 3) := by decide +kernel
theorem fp_CmMachine_23 : zk_Fp "ClosureMachine$Machine" 23 4 4 (yc_4 4) true := ⟨rc_4, tc_4, 11, rfl, by decide, zk_in 99 (by decide +kernel) (by decide +kernel), by decide +kernel, rfl, rfl⟩
theorem dc_CmMachine_init_46 : decode prog_4_method_1_code 46 = .ok (.aload_n 0, 1) := by decide +kernel
theorem dc_CmMachine_init_47 : decode prog_4_method_1_code 47 = .ok (.iconst 0, 1) := by decide +kernel
theorem dc_CmMachine_init_48 : decode prog_4_method_1_code 48 = .ok (.putfield 26, 3) := by decide +kernel
theorem fp_CmMachine_26 : zk_Fp "ClosureMachine$Machine" 26 4 5 (yc_4 5) false := ⟨rc_4, tc_4, 11, rfl, by decide, zk_in 100 (by decide +kernel) (by decide +kernel), by decide +kernel, rfl, rfl⟩
theorem dc_CmMachine_init_51 : decode prog_4_method_1_code 51 = .ok (.aload_n 0, 1) := by decide +kernel
theorem dc_CmMachine_init_52 : decode prog_4_method_1_code 52 = .ok (.iconst 0, 1) := by decide +kernel
theorem dc_CmMachine_init_53 : decode prog_4_method_1_code 53 = .ok (.putfield 30, 3) := by decide +kernel
theorem fp_CmMachine_30 : zk_Fp "ClosureMachine$Machine" 30 4 6 (yc_4 6) false := ⟨rc_4, tc_4, 11, rfl, by decide, zk_in 101 (by decide +kernel) (by decide +kernel), by decide +kernel, rfl, rfl⟩
theorem dc_CmMachine_init_56 : decode prog_4_method_1_code 56 = .ok (.aload_n 0, 1) := by decide +kernel
theorem dc_CmMachine_init_57 : decode prog_4_method_1_code 57 = .ok (.bipush 21, 2) := by decide +kernel
theorem dc_CmMachine_init_59 : decode prog_4_method_1_code 59 = .ok (.putfield 33, 3) := by decide +kernel
theorem fp_CmMachine_33 : zk_Fp "ClosureMachine$Machine" 33 4 7 (yc_4 7) false := ⟨rc_4, tc_4, 11, rfl, by decide, zk_in 103 (by decide +kernel) (by decide +kernel), by decide +kernel, rfl, rfl⟩
theorem dc_CmMachine_init_62 : decode prog_4_method_1_code 62 = .ok (.aload_n 0, 1) := by decide +kernel
theorem dc_CmMachine_init_63 : decode prog_4_method_1_code 63 = .ok (.iconst 0, 1) := by decide +kernel
theorem dc_CmMachine_init_64 : decode prog_4_method_1_code 64 = .ok (.putfield 36, 3) := by decide +kernel
theorem fp_CmMachine_36 : zk_Fp "ClosureMachine$Machine" 36 4 8 (yc_4 8) false := ⟨rc_4, tc_4, 11, rfl, by decide, zk_in 105 (by decide +kernel) (by decide +kernel), by decide +kernel, rfl, rfl⟩
theorem dc_CmMachine_init_67 : decode prog_4_method_1_code 67 = .ok (.aload_n 0, 1) := by decide +kernel
theorem dc_CmMachine_init_68 : decode prog_4_method_1_code 68 = .ok (.iconst (-1), 1) := by decide +kernel
theorem dc_CmMachine_init_69 : decode prog_4_method_1_code 69 = .ok (.putfield 39, 3) := by decide +kernel
theorem fp_CmMachine_39 : zk_Fp "ClosureMachine$Machine" 39 4 9 (yc_4 9) false := ⟨rc_4, tc_4, 11, rfl, by decide, zk_in 107 (by decide +kernel) (by decide +kernel), by decide +kernel, rfl, rfl⟩
theorem dc_CmMachine_init_72 : decode prog_4_method_1_code 72 = .ok (.aload_n 0, 1) := by decide +kernel
theorem dc_CmMachine_init_73 : decode prog_4_method_1_code 73 = .ok (.iconst (-1), 1) := by decide +kernel
theorem dc_CmMachine_init_74 : decode prog_4_method_1_code 74 = .ok (.putfield 42, 3) := by decide +kernel
theorem fp_CmMachine_42 : zk_Fp "ClosureMachine$Machine" 42 4 10 (yc_4 10) false := ⟨rc_4, tc_4, 11, rfl, by decide, zk_in 109 (by decide +kernel) (by decide +kernel), by decide +kernel, rfl, rfl⟩
theorem dc_CmMachine_init_77 : decode prog_4_method_1_code 77 = .ok (.aload_n 0, 1) := by decide +kernel
theorem dc_CmMachine_init_78 : decode prog_4_method_1_code 78 = .ok (.aload_n 1, 1) := by decide +kernel
theorem dc_CmMachine_init_79 : decode prog_4_method_1_code 79 = .ok (.putfield 45, 3) := by decide +kernel
theorem fp_CmMachine_45 : zk_Fp "ClosureMachine$Machine" 45 4 0 (yc_4 0) true := ⟨rc_4, tc_4, 11, rfl, by decide, zk_in 94 (by decide +kernel) (by decide +kernel), by decide +kernel, rfl, rfl⟩
theorem dc_CmMachine_init_82 : decode prog_4_method_1_code 82 = .ok (.aload_n 0, 1) := by decide +kernel
theorem dc_CmMachine_init_83 : decode prog_4_method_1_code 83 = .ok (.aload_n 2, 1) := by decide +kernel
theorem dc_CmMachine_init_84 : decode prog_4_method_1_code 84 = .ok (.putfield 49, 3) := by decide +kernel
theorem fp_CmMachine_49 : zk_Fp "ClosureMachine$Machine" 49 4 1 (yc_4 1) true := ⟨rc_4, tc_4, 11, rfl, by decide, zk_in 95 (by decide +kernel) (by decide +kernel), by decide +kernel, rfl, rfl⟩
theorem dc_CmMachine_init_87 : decode prog_4_method_1_code 87 = .ok (.return_, 1) := by decide +kernel
abbrev mm_CmReader_init : zk_Mt := (⟨"ClosureMachine$Reader", "<init>", "(LClosureMachine$Terms;LClosureMachine$Machine;)V"⟩, prog_5_method_1_code, 3, none, 2, 41)
set_option maxRecDepth 20000 in
theorem ok_CmReader_init : zk_Ok mm_CmReader_init 2 := ⟨zk_in 139 rfl rfl, ⟨by decide +kernel, by decide +kernel, by decide +kernel⟩, zk_in 7 (by decide +kernel) (by decide +kernel)⟩
theorem dc_CmReader_init_0 : decode prog_5_method_1_code 0 = .ok (.aload_n 0, 1) := by decide +kernel
theorem dc_CmReader_init_1 : decode prog_5_method_1_code 1 = .ok (.invokespecial 3, 3) := by decide +kernel
theorem dc_CmReader_init_4 : decode prog_5_method_1_code 4 = .ok (.aload_n 0, 1) := by decide +kernel
theorem dc_CmReader_init_5 : decode prog_5_method_1_code 5 = .ok (.new 9, 3) := by decide +kernel
theorem nw_CmReader_9 : zk_N "ClosureMachine$Reader" 9 0 3 [.int 0, .null, .int 0] := ⟨rc_0, tc_0, yc_0, rfl, zk_in 141 (by decide +kernel) (by decide +kernel), zk_in 29 (by decide +kernel) (by decide +kernel), zk_in 3 (by decide +kernel) (by decide +kernel), yk_0, by decide +kernel⟩
theorem dc_CmReader_init_8 : decode prog_5_method_1_code 8 = .ok (.dup, 1) := by decide +kernel
theorem dc_CmReader_init_9 : decode prog_5_method_1_code 9 = .ok (.sipush 6000, 3) := by decide +kernel
theorem dc_CmReader_init_12 : decode prog_5_method_1_code 12 = .ok (.invokespecial 11, 3) := by decide +kernel
theorem lk_CmReader_11 : zk_LI "ClosureMachine$Reader" 11 mm_CmRows_init := ⟨zk_in 142 (by decide +kernel) (by decide +kernel), zk_in 32 (by decide +kernel) (by decide +kernel), rfl, rfl⟩
theorem dc_CmReader_init_15 : decode prog_5_method_1_code 15 = .ok (.putfield 14, 3) := by decide +kernel
theorem fp_CmReader_14 : zk_Fp "ClosureMachine$Reader" 14 5 2 (yc_5 2) true := ⟨rc_5, tc_5, 5, rfl, by decide, zk_in 145 (by decide +kernel) (by decide +kernel), by decide +kernel, rfl, rfl⟩
theorem dc_CmReader_init_18 : decode prog_5_method_1_code 18 = .ok (.aload_n 0, 1) := by decide +kernel
theorem dc_CmReader_init_19 : decode prog_5_method_1_code 19 = .ok (.iconst (-1), 1) := by decide +kernel
theorem dc_CmReader_init_20 : decode prog_5_method_1_code 20 = .ok (.putfield 20, 3) := by decide +kernel
theorem fp_CmReader_20 : zk_Fp "ClosureMachine$Reader" 20 5 3 (yc_5 3) false := ⟨rc_5, tc_5, 5, rfl, by decide, zk_in 146 (by decide +kernel) (by decide +kernel), by decide +kernel, rfl, rfl⟩
theorem dc_CmReader_init_23 : decode prog_5_method_1_code 23 = .ok (.aload_n 0, 1) := by decide +kernel
theorem dc_CmReader_init_24 : decode prog_5_method_1_code 24 = .ok (.iconst 0, 1) := by decide +kernel
theorem dc_CmReader_init_25 : decode prog_5_method_1_code 25 = .ok (.putfield 24, 3) := by decide +kernel
theorem fp_CmReader_24 : zk_Fp "ClosureMachine$Reader" 24 5 4 (yc_5 4) false := ⟨rc_5, tc_5, 5, rfl, by decide, zk_in 147 (by decide +kernel) (by decide +kernel), by decide +kernel, rfl, rfl⟩
theorem dc_CmReader_init_28 : decode prog_5_method_1_code 28 = .ok (.aload_n 0, 1) := by decide +kernel
theorem dc_CmReader_init_29 : decode prog_5_method_1_code 29 = .ok (.aload_n 1, 1) := by decide +kernel
theorem dc_CmReader_init_30 : decode prog_5_method_1_code 30 = .ok (.putfield 27, 3) := by decide +kernel
theorem fp_CmReader_27 : zk_Fp "ClosureMachine$Reader" 27 5 0 (yc_5 0) true := ⟨rc_5, tc_5, 5, rfl, by decide, zk_in 143 (by decide +kernel) (by decide +kernel), by decide +kernel, rfl, rfl⟩
theorem dc_CmReader_init_33 : decode prog_5_method_1_code 33 = .ok (.aload_n 0, 1) := by decide +kernel
theorem dc_CmReader_init_34 : decode prog_5_method_1_code 34 = .ok (.aload_n 2, 1) := by decide +kernel
theorem dc_CmReader_init_35 : decode prog_5_method_1_code 35 = .ok (.putfield 31, 3) := by decide +kernel
theorem fp_CmReader_31 : zk_Fp "ClosureMachine$Reader" 31 5 1 (yc_5 1) true := ⟨rc_5, tc_5, 5, rfl, by decide, zk_in 144 (by decide +kernel) (by decide +kernel), by decide +kernel, rfl, rfl⟩
theorem dc_CmReader_init_38 : decode prog_5_method_1_code 38 = .ok (.return_, 1) := by decide +kernel
abbrev mm_Cm_init : zk_Mt := (⟨"ClosureMachine", "<init>", "()V"⟩, prog_1_method_1_code, 1, none, 3, 63)
set_option maxRecDepth 20000 in
theorem ok_Cm_init : zk_Ok mm_Cm_init 0 := ⟨zk_in 18 rfl rfl, ⟨by decide +kernel, by decide +kernel, by decide +kernel⟩, zk_in 1 (by decide +kernel) (by decide +kernel)⟩
theorem dc_Cm_init_0 : decode prog_1_method_1_code 0 = .ok (.aload_n 0, 1) := by decide +kernel
theorem dc_Cm_init_1 : decode prog_1_method_1_code 1 = .ok (.invokespecial 1, 3) := by decide +kernel
theorem dc_Cm_init_4 : decode prog_1_method_1_code 4 = .ok (.aload_n 0, 1) := by decide +kernel
theorem dc_Cm_init_5 : decode prog_1_method_1_code 5 = .ok (.new 7, 3) := by decide +kernel
theorem nw_Cm_7 : zk_N "ClosureMachine" 7 1 4 [.null, .null, .null, .int 0] := ⟨rc_1, tc_1, yc_1, rfl, zk_in 22 (by decide +kernel) (by decide +kernel), zk_in 23 (by decide +kernel) (by decide +kernel), zk_in 2 (by decide +kernel) (by decide +kernel), yk_1, by decide +kernel⟩
theorem dc_Cm_init_8 : decode prog_1_method_1_code 8 = .ok (.dup, 1) := by decide +kernel
theorem dc_Cm_init_9 : decode prog_1_method_1_code 9 = .ok (.invokespecial 9, 3) := by decide +kernel
theorem lk_Cm_9 : zk_LIN "ClosureMachine" 9 mm_CmTerms_init "ClosureMachine" := ⟨List.mem_of_getElem? (i := 0) rfl, zk_in 25 (by decide +kernel) (by decide +kernel), rfl, rfl⟩
theorem dc_Cm_init_12 : decode prog_1_method_1_code 12 = .ok (.putfield 10, 3) := by decide +kernel
theorem fp_Cm_10 : zk_Fp "ClosureMachine" 10 6 0 (yc_6 0) true := ⟨rc_6, tc_6, 9, rfl, by decide, zk_in 160 (by decide +kernel) (by decide +kernel), by decide +kernel, rfl, rfl⟩
theorem dc_Cm_init_15 : decode prog_1_method_1_code 15 = .ok (.aload_n 0, 1) := by decide +kernel
theorem dc_Cm_init_16 : decode prog_1_method_1_code 16 = .ok (.new 16, 3) := by decide +kernel
theorem nw_Cm_16 : zk_N "ClosureMachine" 16 2 2 [.null, .int 0] := ⟨rc_2, tc_2, yc_2, rfl, zk_in 61 (by decide +kernel) (by decide +kernel), zk_in 62 (by decide +kernel) (by decide +kernel), zk_in 4 (by decide +kernel) (by decide +kernel), yk_2, by decide +kernel⟩
theorem dc_Cm_init_19 : decode prog_1_method_1_code 19 = .ok (.dup, 1) := by decide +kernel
theorem dc_Cm_init_20 : decode prog_1_method_1_code 20 = .ok (.invokespecial 18, 3) := by decide +kernel
theorem lk_Cm_18 : zk_LIN "ClosureMachine" 18 mm_CmGlobals_init "ClosureMachine" := ⟨List.mem_of_getElem? (i := 1) rfl, zk_in 64 (by decide +kernel) (by decide +kernel), rfl, rfl⟩
theorem dc_Cm_init_23 : decode prog_1_method_1_code 23 = .ok (.putfield 19, 3) := by decide +kernel
theorem fp_Cm_19 : zk_Fp "ClosureMachine" 19 6 1 (yc_6 1) true := ⟨rc_6, tc_6, 9, rfl, by decide, zk_in 161 (by decide +kernel) (by decide +kernel), by decide +kernel, rfl, rfl⟩
theorem dc_Cm_init_26 : decode prog_1_method_1_code 26 = .ok (.aload_n 0, 1) := by decide +kernel
theorem dc_Cm_init_27 : decode prog_1_method_1_code 27 = .ok (.new 23, 3) := by decide +kernel
theorem nw_Cm_23 : zk_N "ClosureMachine" 23 3 1 [.null] := ⟨rc_3, tc_3, yc_3, rfl, zk_in 76 (by decide +kernel) (by decide +kernel), zk_in 77 (by decide +kernel) (by decide +kernel), zk_in 5 (by decide +kernel) (by decide +kernel), yk_3, by decide +kernel⟩
theorem dc_Cm_init_30 : decode prog_1_method_1_code 30 = .ok (.dup, 1) := by decide +kernel
theorem dc_Cm_init_31 : decode prog_1_method_1_code 31 = .ok (.aload_n 0, 1) := by decide +kernel
theorem dc_Cm_init_32 : decode prog_1_method_1_code 32 = .ok (.getfield 10, 3) := by decide +kernel
theorem fg_Cm_10 : zk_F "ClosureMachine" 10 6 0 := ⟨rc_6, tc_6, 9, rfl, by decide, zk_in 160 (by decide +kernel) (by decide +kernel)⟩
theorem dc_Cm_init_35 : decode prog_1_method_1_code 35 = .ok (.invokespecial 25, 3) := by decide +kernel
theorem lk_Cm_25 : zk_LI "ClosureMachine" 25 mm_CmTypeReader_init := ⟨zk_in 78 (by decide +kernel) (by decide +kernel), zk_in 79 (by decide +kernel) (by decide +kernel), rfl, rfl⟩
theorem dc_Cm_init_38 : decode prog_1_method_1_code 38 = .ok (.putfield 28, 3) := by decide +kernel
theorem fp_Cm_28 : zk_Fp "ClosureMachine" 28 6 2 (yc_6 2) true := ⟨rc_6, tc_6, 9, rfl, by decide, zk_in 162 (by decide +kernel) (by decide +kernel), by decide +kernel, rfl, rfl⟩
theorem dc_Cm_init_41 : decode prog_1_method_1_code 41 = .ok (.aload_n 0, 1) := by decide +kernel
theorem dc_Cm_init_42 : decode prog_1_method_1_code 42 = .ok (.new 32, 3) := by decide +kernel
theorem nw_Cm_32 : zk_N "ClosureMachine" 32 4 11 [.null, .null, .null, .null, .null, .int 0, .int 0, .int 0, .int 0, .int 0, .int 0] := ⟨rc_4, tc_4, yc_4, rfl, zk_in 86 (by decide +kernel) (by decide +kernel), zk_in 87 (by decide +kernel) (by decide +kernel), zk_in 6 (by decide +kernel) (by decide +kernel), yk_4, by decide +kernel⟩
theorem dc_Cm_init_45 : decode prog_1_method_1_code 45 = .ok (.dup, 1) := by decide +kernel
theorem dc_Cm_init_46 : decode prog_1_method_1_code 46 = .ok (.aload_n 0, 1) := by decide +kernel
theorem dc_Cm_init_47 : decode prog_1_method_1_code 47 = .ok (.getfield 10, 3) := by decide +kernel
theorem dc_Cm_init_50 : decode prog_1_method_1_code 50 = .ok (.aload_n 0, 1) := by decide +kernel
theorem dc_Cm_init_51 : decode prog_1_method_1_code 51 = .ok (.getfield 19, 3) := by decide +kernel
theorem fg_Cm_19 : zk_F "ClosureMachine" 19 6 1 := ⟨rc_6, tc_6, 9, rfl, by decide, zk_in 161 (by decide +kernel) (by decide +kernel)⟩
theorem dc_Cm_init_54 : decode prog_1_method_1_code 54 = .ok (.invokespecial 34, 3) := by decide +kernel
theorem lk_Cm_34 : zk_LI "ClosureMachine" 34 mm_CmMachine_init := ⟨zk_in 88 (by decide +kernel) (by decide +kernel), zk_in 89 (by decide +kernel) (by decide +kernel), rfl, rfl⟩
theorem dc_Cm_init_57 : decode prog_1_method_1_code 57 = .ok (.putfield 37, 3) := by decide +kernel
theorem fp_Cm_37 : zk_Fp "ClosureMachine" 37 6 3 (yc_6 3) true := ⟨rc_6, tc_6, 9, rfl, by decide, zk_in 163 (by decide +kernel) (by decide +kernel), by decide +kernel, rfl, rfl⟩
theorem dc_Cm_init_60 : decode prog_1_method_1_code 60 = .ok (.aload_n 0, 1) := by decide +kernel
theorem dc_Cm_init_61 : decode prog_1_method_1_code 61 = .ok (.new 41, 3) := by decide +kernel
theorem nw_Cm_41 : zk_N "ClosureMachine" 41 5 5 [.null, .null, .null, .int 0, .int 0] := ⟨rc_5, tc_5, yc_5, rfl, zk_in 135 (by decide +kernel) (by decide +kernel), zk_in 136 (by decide +kernel) (by decide +kernel), zk_in 7 (by decide +kernel) (by decide +kernel), yk_5, by decide +kernel⟩
theorem dc_Cm_init_64 : decode prog_1_method_1_code 64 = .ok (.dup, 1) := by decide +kernel
theorem dc_Cm_init_65 : decode prog_1_method_1_code 65 = .ok (.aload_n 0, 1) := by decide +kernel
theorem dc_Cm_init_66 : decode prog_1_method_1_code 66 = .ok (.getfield 10, 3) := by decide +kernel
theorem dc_Cm_init_69 : decode prog_1_method_1_code 69 = .ok (.aload_n 0, 1) := by decide +kernel
theorem dc_Cm_init_70 : decode prog_1_method_1_code 70 = .ok (.getfield 37, 3) := by decide +kernel
theorem fg_Cm_37 : zk_F "ClosureMachine" 37 6 3 := ⟨rc_6, tc_6, 9, rfl, by decide, zk_in 163 (by decide +kernel) (by decide +kernel)⟩
theorem dc_Cm_init_73 : decode prog_1_method_1_code 73 = .ok (.invokespecial 43, 3) := by decide +kernel
theorem lk_Cm_43 : zk_LI "ClosureMachine" 43 mm_CmReader_init := ⟨zk_in 137 (by decide +kernel) (by decide +kernel), zk_in 138 (by decide +kernel) (by decide +kernel), rfl, rfl⟩
theorem dc_Cm_init_76 : decode prog_1_method_1_code 76 = .ok (.putfield 46, 3) := by decide +kernel
theorem fp_Cm_46 : zk_Fp "ClosureMachine" 46 6 4 (yc_6 4) true := ⟨rc_6, tc_6, 9, rfl, by decide, zk_in 164 (by decide +kernel) (by decide +kernel), by decide +kernel, rfl, rfl⟩
theorem dc_Cm_init_79 : decode prog_1_method_1_code 79 = .ok (.aload_n 0, 1) := by decide +kernel
theorem dc_Cm_init_80 : decode prog_1_method_1_code 80 = .ok (.iconst (-1), 1) := by decide +kernel
theorem dc_Cm_init_81 : decode prog_1_method_1_code 81 = .ok (.putfield 50, 3) := by decide +kernel
theorem fp_Cm_50 : zk_Fp "ClosureMachine" 50 6 5 (yc_6 5) false := ⟨rc_6, tc_6, 9, rfl, by decide, zk_in 165 (by decide +kernel) (by decide +kernel), by decide +kernel, rfl, rfl⟩
theorem dc_Cm_init_84 : decode prog_1_method_1_code 84 = .ok (.aload_n 0, 1) := by decide +kernel
theorem dc_Cm_init_85 : decode prog_1_method_1_code 85 = .ok (.iconst (-1), 1) := by decide +kernel
theorem dc_Cm_init_86 : decode prog_1_method_1_code 86 = .ok (.putfield 54, 3) := by decide +kernel
theorem fp_Cm_54 : zk_Fp "ClosureMachine" 54 6 6 (yc_6 6) false := ⟨rc_6, tc_6, 9, rfl, by decide, zk_in 166 (by decide +kernel) (by decide +kernel), by decide +kernel, rfl, rfl⟩
theorem dc_Cm_init_89 : decode prog_1_method_1_code 89 = .ok (.aload_n 0, 1) := by decide +kernel
theorem dc_Cm_init_90 : decode prog_1_method_1_code 90 = .ok (.iconst (-1), 1) := by decide +kernel
theorem dc_Cm_init_91 : decode prog_1_method_1_code 91 = .ok (.putfield 57, 3) := by decide +kernel
theorem fp_Cm_57 : zk_Fp "ClosureMachine" 57 6 7 (yc_6 7) false := ⟨rc_6, tc_6, 9, rfl, by decide, zk_in 167 (by decide +kernel) (by decide +kernel), by decide +kernel, rfl, rfl⟩
theorem dc_Cm_init_94 : decode prog_1_method_1_code 94 = .ok (.aload_n 0, 1) := by decide +kernel
theorem dc_Cm_init_95 : decode prog_1_method_1_code 95 = .ok (.iconst (-1), 1) := by decide +kernel
theorem dc_Cm_init_96 : decode prog_1_method_1_code 96 = .ok (.putfield 60, 3) := by decide +kernel
theorem fp_Cm_60 : zk_Fp "ClosureMachine" 60 6 8 (yc_6 8) false := ⟨rc_6, tc_6, 9, rfl, by decide, zk_in 168 (by decide +kernel) (by decide +kernel), by decide +kernel, rfl, rfl⟩
theorem dc_Cm_init_99 : decode prog_1_method_1_code 99 = .ok (.return_, 1) := by decide +kernel
end
section
theorem zk_enterB {Z : zk_Z} {μ : zk_Mt} {as : List Value} {M : zk_M} {R : Option Value → zk_M → Prop} (hp : plainName μ.1.cls = true) (hn : as.length ≤ μ.2.2.1) (hc : (as.all fun v => v.category == 1) = true) (h : zk_P Z μ 0 (as.map some ++ List.replicate (μ.2.2.1 - as.length) none) [] M R) : zk_K Z μ as M R :=
  zk_enterK hp hn (fun v hv => by simpa using List.all_eq_true.mp hc v hv) h
set_option maxHeartbeats 4000000 in
set_option maxRecDepth 100000 in
theorem ct_Rows {Z : zk_Z} {n s : Nat} {f : Nat → Option zk_E} {a : Nat} {x : Int32} (ha : f a = some (.inr (.inr (0, [.int 0, .null, .int 0])))) (hlt : a < n) : zk_Kv Z mm_CmRows_init [.ref a, .int x] (n, s, f) (fun M' => ∃ g : Nat → Option zk_E, M' = (n + 1, s + 256, g) ∧ g a = some (.inr (.inr (0, [.int x, .ref n, .int 0]))) ∧ g n = some (.inl (256, fun _ => 0)) ∧ ∀ b, b ≠ a → b ≠ n → g b = f b) := by
  refine zk_enterB (by decide) (Nat.le_of_ble_eq_true rfl) rfl ?_
  show zk_P Z mm_CmRows_init 0 [some (.ref a), some (.int x)] [] (n, s, f) _
  refine zk_aload_0 1 dc_CmRows_init_0 rfl rfl ?_
  refine zk_objInit 4 dc_CmRows_init_1 (zk_in 34 (by decide +kernel) (by decide +kernel)) (zk_in 20 (by decide +kernel) (by decide +kernel)) (zk_in 21 rfl rfl) (Nat.le_of_ble_eq_true rfl) (Nat.le_of_ble_eq_true rfl) rfl ?_
  refine zk_aload_0 5 dc_CmRows_init_4 rfl rfl ?_
  refine zk_iload_1 6 dc_CmRows_init_5 rfl rfl ?_
  refine zk_putF 9 dc_CmRows_init_6 fp_CmRows_9 (fun C T N h => by cases h; rfl) rfl ha rfl rfl (Nat.le_of_ble_eq_true rfl) rfl (fun f1 ha o1 => ?_)
  refine zk_aload_0 10 dc_CmRows_init_9 rfl rfl ?_
  refine zk_sipush (v := 256) 13 dc_CmRows_init_10 (by decide) rfl ?_
  refine zk_newiK (N := 256) 15 dc_CmRows_init_13 (zk_in 45 (by decide +kernel) (by decide +kernel)) (by decide) (by decide) (by decide) rfl (fun f2 hr o2 => ?_)
  have ha := (o2 (a) (by omega) ).trans ha
  refine zk_put 18 dc_CmRows_init_15 fp_CmRows_15 ha rfl rfl (Nat.le_of_ble_eq_true rfl) rfl (fun f3 ha o3 => ?_)
  have hr := (o3 (n) (by omega) ).trans hr
  refine zk_aload_0 19 dc_CmRows_init_18 rfl rfl ?_
  refine zk_iconst (v := 0) 20 dc_CmRows_init_19 (by decide) rfl ?_
  refine zk_put 23 dc_CmRows_init_20 fp_CmRows_19 ha rfl rfl (Nat.le_of_ble_eq_true rfl) rfl (fun f4 ha o4 => ?_)
  have hr := (o4 (n) (by omega) ).trans hr
  exact zk_return dc_CmRows_init_23 rfl ⟨rfl, _, rfl, ha, hr, fun b h1 h2 => by rw [o4 b (by omega), o3 b (by omega), o2 b (by omega), o1 b (by omega)]⟩
set_option maxHeartbeats 4000000 in
set_option maxRecDepth 100000 in
theorem ct_Terms {Z : zk_Z} {n s : Nat} {f : Nat → Option zk_E} {a : Nat} (ha : f a = some (.inr (.inr (1, [.null, .null, .null, .int 0])))) (hlt : a < n) : zk_Kv Z mm_CmTerms_init [.ref a] (n, s, f) (fun M' => ∃ g : Nat → Option zk_E, M' = (n + 6, s + 777, g) ∧ g a = some (.inr (.inr (1, [.ref n, .ref (n + 2), .ref (n + 4), .int 0]))) ∧ g n = some (.inr (.inr (0, [.int 46000, .ref (n + 1), .int 0]))) ∧ g (n + 1) = some (.inl (256, fun _ => 0)) ∧ g (n + 2) = some (.inr (.inr (0, [.int 3000, .ref (n + 2 + 1), .int 0]))) ∧ g (n + 3) = some (.inl (256, fun _ => 0)) ∧ g (n + 4) = some (.inr (.inr (0, [.int 8000, .ref (n + 4 + 1), .int 0]))) ∧ g (n + 5) = some (.inl (256, fun _ => 0)) ∧ ∀ b, b < n → b ≠ a → g b = f b) := by
  refine zk_enterB (by decide) (Nat.le_of_ble_eq_true rfl) rfl ?_
  show zk_P Z mm_CmTerms_init 0 [some (.ref a)] [] (n, s, f) _
  refine zk_aload_0 1 dc_CmTerms_init_0 rfl rfl ?_
  refine zk_objInit 4 dc_CmTerms_init_1 (zk_in 27 (by decide +kernel) (by decide +kernel)) (zk_in 20 (by decide +kernel) (by decide +kernel)) (zk_in 21 rfl rfl) (Nat.le_of_ble_eq_true rfl) (Nat.le_of_ble_eq_true rfl) rfl ?_
  refine zk_aload_0 5 dc_CmTerms_init_4 rfl rfl ?_
  refine zk_newK 8 dc_CmTerms_init_5 nw_CmTerms_11 rfl (fun f1 hq0 o1 => ?_)
  have ha := (o1 (a) (by omega) ).trans ha
  refine zk_dup 9 dc_CmTerms_init_8 rfl rfl ?_
  refine zk_ldc (v := 46000) 11 dc_CmTerms_init_9 (zk_in 30 (by decide +kernel) (by decide +kernel)) rfl ?_
  refine zk_cIv 14 (ct_Rows hq0 (by omega)) dc_CmTerms_init_11 ok_CmRows_init lk_CmTerms_14 rfl rfl ⟨Nat.le_of_ble_eq_true rfl, Nat.le_of_ble_eq_true rfl⟩ (Nat.le_of_ble_eq_true rfl) rfl (fun M1 hk => ?_)
  obtain ⟨g0, rfl, hq0, hr0, p0⟩ := hk
  have ha := (p0 (a) (by omega) (by omega) ).trans ha
  refine zk_putF 17 dc_CmTerms_init_14 fp_CmTerms_17 (fun C T N h => by cases h; rfl) rfl ha rfl rfl (Nat.le_of_ble_eq_true rfl) rfl (fun f2 ha o2 => ?_)
  have hq0 := (o2 (n) (by omega) ).trans hq0
  have hr0 := (o2 (n + 1) (by omega) ).trans hr0
  refine zk_aload_0 18 dc_CmTerms_init_17 rfl rfl ?_
  refine zk_newK 21 dc_CmTerms_init_18 nw_CmTerms_11 rfl (fun f3 hq1 o3 => ?_)
  have hq0 := (o3 (n) (by omega) ).trans hq0
  have hr0 := (o3 (n + 1) (by omega) ).trans hr0
  have ha := (o3 (a) (by omega) ).trans ha
  refine zk_dup 22 dc_CmTerms_init_21 rfl rfl ?_
  refine zk_sipush (v := 3000) 25 dc_CmTerms_init_22 (by decide) rfl ?_
  refine zk_cIv 28 (ct_Rows hq1 (by omega)) dc_CmTerms_init_25 ok_CmRows_init lk_CmTerms_14 rfl rfl ⟨Nat.le_of_ble_eq_true rfl, Nat.le_of_ble_eq_true rfl⟩ (Nat.le_of_ble_eq_true rfl) rfl (fun M1 hk => ?_)
  obtain ⟨g1, rfl, hq1, hr1, p1⟩ := hk
  have hq0 := (p1 (n) (by omega) (by omega) ).trans hq0
  have hr0 := (p1 (n + 1) (by omega) (by omega) ).trans hr0
  have ha := (p1 (a) (by omega) (by omega) ).trans ha
  refine zk_putF 31 dc_CmTerms_init_28 fp_CmTerms_21 (fun C T N h => by cases h; rfl) rfl ha rfl rfl (Nat.le_of_ble_eq_true rfl) rfl (fun f4 ha o4 => ?_)
  have hq0 := (o4 (n) (by omega) ).trans hq0
  have hr0 := (o4 (n + 1) (by omega) ).trans hr0
  have hq1 := (o4 (n + 2) (by omega) ).trans hq1
  have hr1 := (o4 (n + 2 + 1) (by omega) ).trans hr1
  refine zk_aload_0 32 dc_CmTerms_init_31 rfl rfl ?_
  refine zk_newK 35 dc_CmTerms_init_32 nw_CmTerms_11 rfl (fun f5 hq2 o5 => ?_)
  have hq0 := (o5 (n) (by omega) ).trans hq0
  have hr0 := (o5 (n + 1) (by omega) ).trans hr0
  have hq1 := (o5 (n + 2) (by omega) ).trans hq1
  have hr1 := (o5 (n + 2 + 1) (by omega) ).trans hr1
  have ha := (o5 (a) (by omega) ).trans ha
  refine zk_dup 36 dc_CmTerms_init_35 rfl rfl ?_
  refine zk_sipush (v := 8000) 39 dc_CmTerms_init_36 (by decide) rfl ?_
  refine zk_cIv 42 (ct_Rows hq2 (by omega)) dc_CmTerms_init_39 ok_CmRows_init lk_CmTerms_14 rfl rfl ⟨Nat.le_of_ble_eq_true rfl, Nat.le_of_ble_eq_true rfl⟩ (Nat.le_of_ble_eq_true rfl) rfl (fun M1 hk => ?_)
  obtain ⟨g2, rfl, hq2, hr2, p2⟩ := hk
  have hq0 := (p2 (n) (by omega) (by omega) ).trans hq0
  have hr0 := (p2 (n + 1) (by omega) (by omega) ).trans hr0
  have hq1 := (p2 (n + 2) (by omega) (by omega) ).trans hq1
  have hr1 := (p2 (n + 2 + 1) (by omega) (by omega) ).trans hr1
  have ha := (p2 (a) (by omega) (by omega) ).trans ha
  refine zk_putF 45 dc_CmTerms_init_42 fp_CmTerms_24 (fun C T N h => by cases h; rfl) rfl ha rfl rfl (Nat.le_of_ble_eq_true rfl) rfl (fun f6 ha o6 => ?_)
  have hq0 := (o6 (n) (by omega) ).trans hq0
  have hr0 := (o6 (n + 1) (by omega) ).trans hr0
  have hq1 := (o6 (n + 2) (by omega) ).trans hq1
  have hr1 := (o6 (n + 2 + 1) (by omega) ).trans hr1
  have hq2 := (o6 (n + 4) (by omega) ).trans hq2
  have hr2 := (o6 (n + 4 + 1) (by omega) ).trans hr2
  refine zk_aload_0 46 dc_CmTerms_init_45 rfl rfl ?_
  refine zk_iconst (v := 0) 47 dc_CmTerms_init_46 (by decide) rfl ?_
  refine zk_put 50 dc_CmTerms_init_47 fp_CmTerms_27 ha rfl rfl (Nat.le_of_ble_eq_true rfl) rfl (fun f7 ha o7 => ?_)
  have hq0 := (o7 (n) (by omega) ).trans hq0
  have hr0 := (o7 (n + 1) (by omega) ).trans hr0
  have hq1 := (o7 (n + 2) (by omega) ).trans hq1
  have hr1 := (o7 (n + 2 + 1) (by omega) ).trans hr1
  have hq2 := (o7 (n + 4) (by omega) ).trans hq2
  have hr2 := (o7 (n + 4 + 1) (by omega) ).trans hr2
  exact zk_return dc_CmTerms_init_50 rfl ⟨rfl, _, rfl, ha, hq0, hr0, hq1, hr1, hq2, hr2, fun b h1 h2 => by rw [o7 b (by omega), o6 b (by omega), p2 b (by omega) (by omega), o5 b (by omega), o4 b (by omega), p1 b (by omega) (by omega), o3 b (by omega), o2 b (by omega), p0 b (by omega) (by omega), o1 b (by omega)]⟩
set_option maxHeartbeats 4000000 in
set_option maxRecDepth 100000 in
theorem ct_Globals {Z : zk_Z} {n s : Nat} {f : Nat → Option zk_E} {a : Nat} (ha : f a = some (.inr (.inr (2, [.null, .int 0])))) (hlt : a < n) : zk_Kv Z mm_CmGlobals_init [.ref a] (n, s, f) (fun M' => ∃ g : Nat → Option zk_E, M' = (n + 1, s + 60, g) ∧ g a = some (.inr (.inr (2, [.ref n, .int 0]))) ∧ g n = some (.inr (.inl (1, 60, fun _ => none))) ∧ ∀ b, b < n → b ≠ a → g b = f b) := by
  refine zk_enterB (by decide) (Nat.le_of_ble_eq_true rfl) rfl ?_
  show zk_P Z mm_CmGlobals_init 0 [some (.ref a)] [] (n, s, f) _
  refine zk_aload_0 1 dc_CmGlobals_init_0 rfl rfl ?_
  refine zk_objInit 4 dc_CmGlobals_init_1 (zk_in 66 (by decide +kernel) (by decide +kernel)) (zk_in 20 (by decide +kernel) (by decide +kernel)) (zk_in 21 rfl rfl) (Nat.le_of_ble_eq_true rfl) (Nat.le_of_ble_eq_true rfl) rfl ?_
  refine zk_aload_0 5 dc_CmGlobals_init_4 rfl rfl ?_
  refine zk_bipush (v := 60) 7 dc_CmGlobals_init_5 (by decide) rfl ?_
  refine zk_newqK (t := 1) (N := 60) 10 dc_CmGlobals_init_7 (zk_in 67 (by decide +kernel) (by decide +kernel)) (List.mem_of_getElem? (i := 2) rfl) rfl (by decide) (by decide) (by decide) rfl (fun f1 hr o1 => ?_)
  have ha := (o1 (a) (by omega) ).trans ha
  refine zk_putF 13 dc_CmGlobals_init_10 fp_CmGlobals_11 (fun C T N h => by cases h; rfl) rfl ha rfl rfl (Nat.le_of_ble_eq_true rfl) rfl (fun f2 ha o2 => ?_)
  have hr := (o2 (n) (by omega) ).trans hr
  refine zk_aload_0 14 dc_CmGlobals_init_13 rfl rfl ?_
  refine zk_iconst (v := 0) 15 dc_CmGlobals_init_14 (by decide) rfl ?_
  refine zk_put 18 dc_CmGlobals_init_15 fp_CmGlobals_17 ha rfl rfl (Nat.le_of_ble_eq_true rfl) rfl (fun f3 ha o3 => ?_)
  have hr := (o3 (n) (by omega) ).trans hr
  exact zk_return dc_CmGlobals_init_18 rfl ⟨rfl, _, rfl, ha, hr, fun b h1 h2 => by rw [o3 b (by omega), o2 b (by omega), o1 b (by omega)]⟩
set_option maxHeartbeats 4000000 in
set_option maxRecDepth 100000 in
theorem ct_TypeReader {Z : zk_Z} {n s : Nat} {f : Nat → Option zk_E} {a t : Nat} (ha : f a = some (.inr (.inr (3, [.null])))) (hlt : a < n) : zk_Kv Z mm_CmTypeReader_init [.ref a, .ref t] (n, s, f) (fun M' => ∃ g : Nat → Option zk_E, M' = (n + 0, s + 0, g) ∧ g a = some (.inr (.inr (3, [.ref t]))) ∧ ∀ b, b < n → b ≠ a → g b = f b) := by
  refine zk_enterB (by decide) (Nat.le_of_ble_eq_true rfl) rfl ?_
  show zk_P Z mm_CmTypeReader_init 0 [some (.ref a), some (.ref t)] [] (n, s, f) _
  refine zk_aload_0 1 dc_CmTypeReader_init_0 rfl rfl ?_
  refine zk_objInit 4 dc_CmTypeReader_init_1 (zk_in 81 (by decide +kernel) (by decide +kernel)) (zk_in 20 (by decide +kernel) (by decide +kernel)) (zk_in 21 rfl rfl) (Nat.le_of_ble_eq_true rfl) (Nat.le_of_ble_eq_true rfl) rfl ?_
  refine zk_aload_0 5 dc_CmTypeReader_init_4 rfl rfl ?_
  refine zk_aload_1 6 dc_CmTypeReader_init_5 rfl rfl ?_
  refine zk_putF 9 dc_CmTypeReader_init_6 fp_CmTypeReader_9 (fun C T N h => by cases h; rfl) rfl ha rfl rfl (Nat.le_of_ble_eq_true rfl) rfl (fun f1 ha o1 => ?_)
  exact zk_return dc_CmTypeReader_init_9 rfl ⟨rfl, _, rfl, ha, fun b h1 h2 => by rw [o1 b (by omega)]⟩
set_option maxHeartbeats 4000000 in
set_option maxRecDepth 100000 in
theorem ct_Machine {Z : zk_Z} {n s : Nat} {f : Nat → Option zk_E} {a t u : Nat} (ha : f a = some (.inr (.inr (4, [.null, .null, .null, .null, .null, .int 0, .int 0, .int 0, .int 0, .int 0, .int 0])))) (hlt : a < n) : zk_Kv Z mm_CmMachine_init [.ref a, .ref t, .ref u] (n, s, f) (fun M' => ∃ g : Nat → Option zk_E, M' = (n + 6, s + 777, g) ∧ g a = some (.inr (.inr (4, [.ref t, .ref u, .ref n, .ref (n + 2), .ref (n + 4), .int 0, .int 0, .int 21, .int 0, .int (-1), .int (-1)]))) ∧ g n = some (.inr (.inr (0, [.int 12000, .ref (n + 1), .int 0]))) ∧ g (n + 1) = some (.inl (256, fun _ => 0)) ∧ g (n + 2) = some (.inr (.inr (0, [.int 3000, .ref (n + 2 + 1), .int 0]))) ∧ g (n + 3) = some (.inl (256, fun _ => 0)) ∧ g (n + 4) = some (.inr (.inr (0, [.int 3000, .ref (n + 4 + 1), .int 0]))) ∧ g (n + 5) = some (.inl (256, fun _ => 0)) ∧ ∀ b, b < n → b ≠ a → g b = f b) := by
  refine zk_enterB (by decide) (Nat.le_of_ble_eq_true rfl) rfl ?_
  show zk_P Z mm_CmMachine_init 0 [some (.ref a), some (.ref t), some (.ref u)] [] (n, s, f) _
  refine zk_aload_0 1 dc_CmMachine_init_0 rfl rfl ?_
  refine zk_objInit 4 dc_CmMachine_init_1 (zk_in 91 (by decide +kernel) (by decide +kernel)) (zk_in 20 (by decide +kernel) (by decide +kernel)) (zk_in 21 rfl rfl) (Nat.le_of_ble_eq_true rfl) (Nat.le_of_ble_eq_true rfl) rfl ?_
  refine zk_aload_0 5 dc_CmMachine_init_4 rfl rfl ?_
  refine zk_newK 8 dc_CmMachine_init_5 nw_CmMachine_9 rfl (fun f1 hq0 o1 => ?_)
  have ha := (o1 (a) (by omega) ).trans ha
  refine zk_dup 9 dc_CmMachine_init_8 rfl rfl ?_
  refine zk_sipush (v := 12000) 12 dc_CmMachine_init_9 (by decide) rfl ?_
  refine zk_cIv 15 (ct_Rows hq0 (by omega)) dc_CmMachine_init_12 ok_CmRows_init lk_CmMachine_13 rfl rfl ⟨Nat.le_of_ble_eq_true rfl, Nat.le_of_ble_eq_true rfl⟩ (Nat.le_of_ble_eq_true rfl) rfl (fun M1 hk => ?_)
  obtain ⟨g0, rfl, hq0, hr0, p0⟩ := hk
  have ha := (p0 (a) (by omega) (by omega) ).trans ha
  refine zk_putF 18 dc_CmMachine_init_15 fp_CmMachine_16 (fun C T N h => by cases h; rfl) rfl ha rfl rfl (Nat.le_of_ble_eq_true rfl) rfl (fun f2 ha o2 => ?_)
  have hq0 := (o2 (n) (by omega) ).trans hq0
  have hr0 := (o2 (n + 1) (by omega) ).trans hr0
  refine zk_aload_0 19 dc_CmMachine_init_18 rfl rfl ?_
  refine zk_newK 22 dc_CmMachine_init_19 nw_CmMachine_9 rfl (fun f3 hq1 o3 => ?_)
  have hq0 := (o3 (n) (by omega) ).trans hq0
  have hr0 := (o3 (n + 1) (by omega) ).trans hr0
  have ha := (o3 (a) (by omega) ).trans ha
  refine zk_dup 23 dc_CmMachine_init_22 rfl rfl ?_
  refine zk_sipush (v := 3000) 26 dc_CmMachine_init_23 (by decide) rfl ?_
  refine zk_cIv 29 (ct_Rows hq1 (by omega)) dc_CmMachine_init_26 ok_CmRows_init lk_CmMachine_13 rfl rfl ⟨Nat.le_of_ble_eq_true rfl, Nat.le_of_ble_eq_true rfl⟩ (Nat.le_of_ble_eq_true rfl) rfl (fun M1 hk => ?_)
  obtain ⟨g1, rfl, hq1, hr1, p1⟩ := hk
  have hq0 := (p1 (n) (by omega) (by omega) ).trans hq0
  have hr0 := (p1 (n + 1) (by omega) (by omega) ).trans hr0
  have ha := (p1 (a) (by omega) (by omega) ).trans ha
  refine zk_putF 32 dc_CmMachine_init_29 fp_CmMachine_20 (fun C T N h => by cases h; rfl) rfl ha rfl rfl (Nat.le_of_ble_eq_true rfl) rfl (fun f4 ha o4 => ?_)
  have hq0 := (o4 (n) (by omega) ).trans hq0
  have hr0 := (o4 (n + 1) (by omega) ).trans hr0
  have hq1 := (o4 (n + 2) (by omega) ).trans hq1
  have hr1 := (o4 (n + 2 + 1) (by omega) ).trans hr1
  refine zk_aload_0 33 dc_CmMachine_init_32 rfl rfl ?_
  refine zk_newK 36 dc_CmMachine_init_33 nw_CmMachine_9 rfl (fun f5 hq2 o5 => ?_)
  have hq0 := (o5 (n) (by omega) ).trans hq0
  have hr0 := (o5 (n + 1) (by omega) ).trans hr0
  have hq1 := (o5 (n + 2) (by omega) ).trans hq1
  have hr1 := (o5 (n + 2 + 1) (by omega) ).trans hr1
  have ha := (o5 (a) (by omega) ).trans ha
  refine zk_dup 37 dc_CmMachine_init_36 rfl rfl ?_
  refine zk_sipush (v := 3000) 40 dc_CmMachine_init_37 (by decide) rfl ?_
  refine zk_cIv 43 (ct_Rows hq2 (by omega)) dc_CmMachine_init_40 ok_CmRows_init lk_CmMachine_13 rfl rfl ⟨Nat.le_of_ble_eq_true rfl, Nat.le_of_ble_eq_true rfl⟩ (Nat.le_of_ble_eq_true rfl) rfl (fun M1 hk => ?_)
  obtain ⟨g2, rfl, hq2, hr2, p2⟩ := hk
  have hq0 := (p2 (n) (by omega) (by omega) ).trans hq0
  have hr0 := (p2 (n + 1) (by omega) (by omega) ).trans hr0
  have hq1 := (p2 (n + 2) (by omega) (by omega) ).trans hq1
  have hr1 := (p2 (n + 2 + 1) (by omega) (by omega) ).trans hr1
  have ha := (p2 (a) (by omega) (by omega) ).trans ha
  refine zk_putF 46 dc_CmMachine_init_43 fp_CmMachine_23 (fun C T N h => by cases h; rfl) rfl ha rfl rfl (Nat.le_of_ble_eq_true rfl) rfl (fun f6 ha o6 => ?_)
  have hq0 := (o6 (n) (by omega) ).trans hq0
  have hr0 := (o6 (n + 1) (by omega) ).trans hr0
  have hq1 := (o6 (n + 2) (by omega) ).trans hq1
  have hr1 := (o6 (n + 2 + 1) (by omega) ).trans hr1
  have hq2 := (o6 (n + 4) (by omega) ).trans hq2
  have hr2 := (o6 (n + 4 + 1) (by omega) ).trans hr2
  refine zk_aload_0 47 dc_CmMachine_init_46 rfl rfl ?_
  refine zk_iconst (v := 0) 48 dc_CmMachine_init_47 (by decide) rfl ?_
  refine zk_put 51 dc_CmMachine_init_48 fp_CmMachine_26 ha rfl rfl (Nat.le_of_ble_eq_true rfl) rfl (fun f7 ha o7 => ?_)
  have hq0 := (o7 (n) (by omega) ).trans hq0
  have hr0 := (o7 (n + 1) (by omega) ).trans hr0
  have hq1 := (o7 (n + 2) (by omega) ).trans hq1
  have hr1 := (o7 (n + 2 + 1) (by omega) ).trans hr1
  have hq2 := (o7 (n + 4) (by omega) ).trans hq2
  have hr2 := (o7 (n + 4 + 1) (by omega) ).trans hr2
  refine zk_aload_0 52 dc_CmMachine_init_51 rfl rfl ?_
  refine zk_iconst (v := 0) 53 dc_CmMachine_init_52 (by decide) rfl ?_
  refine zk_put 56 dc_CmMachine_init_53 fp_CmMachine_30 ha rfl rfl (Nat.le_of_ble_eq_true rfl) rfl (fun f8 ha o8 => ?_)
  have hq0 := (o8 (n) (by omega) ).trans hq0
  have hr0 := (o8 (n + 1) (by omega) ).trans hr0
  have hq1 := (o8 (n + 2) (by omega) ).trans hq1
  have hr1 := (o8 (n + 2 + 1) (by omega) ).trans hr1
  have hq2 := (o8 (n + 4) (by omega) ).trans hq2
  have hr2 := (o8 (n + 4 + 1) (by omega) ).trans hr2
  refine zk_aload_0 57 dc_CmMachine_init_56 rfl rfl ?_
  refine zk_bipush (v := 21) 59 dc_CmMachine_init_57 (by decide) rfl ?_
  refine zk_put 62 dc_CmMachine_init_59 fp_CmMachine_33 ha rfl rfl (Nat.le_of_ble_eq_true rfl) rfl (fun f9 ha o9 => ?_)
  have hq0 := (o9 (n) (by omega) ).trans hq0
  have hr0 := (o9 (n + 1) (by omega) ).trans hr0
  have hq1 := (o9 (n + 2) (by omega) ).trans hq1
  have hr1 := (o9 (n + 2 + 1) (by omega) ).trans hr1
  have hq2 := (o9 (n + 4) (by omega) ).trans hq2
  have hr2 := (o9 (n + 4 + 1) (by omega) ).trans hr2
  refine zk_aload_0 63 dc_CmMachine_init_62 rfl rfl ?_
  refine zk_iconst (v := 0) 64 dc_CmMachine_init_63 (by decide) rfl ?_
  refine zk_put 67 dc_CmMachine_init_64 fp_CmMachine_36 ha rfl rfl (Nat.le_of_ble_eq_true rfl) rfl (fun f10 ha o10 => ?_)
  have hq0 := (o10 (n) (by omega) ).trans hq0
  have hr0 := (o10 (n + 1) (by omega) ).trans hr0
  have hq1 := (o10 (n + 2) (by omega) ).trans hq1
  have hr1 := (o10 (n + 2 + 1) (by omega) ).trans hr1
  have hq2 := (o10 (n + 4) (by omega) ).trans hq2
  have hr2 := (o10 (n + 4 + 1) (by omega) ).trans hr2
  refine zk_aload_0 68 dc_CmMachine_init_67 rfl rfl ?_
  refine zk_iconst (v := -1) 69 dc_CmMachine_init_68 (by decide) rfl ?_
  refine zk_put 72 dc_CmMachine_init_69 fp_CmMachine_39 ha rfl rfl (Nat.le_of_ble_eq_true rfl) rfl (fun f11 ha o11 => ?_)
  have hq0 := (o11 (n) (by omega) ).trans hq0
  have hr0 := (o11 (n + 1) (by omega) ).trans hr0
  have hq1 := (o11 (n + 2) (by omega) ).trans hq1
  have hr1 := (o11 (n + 2 + 1) (by omega) ).trans hr1
  have hq2 := (o11 (n + 4) (by omega) ).trans hq2
  have hr2 := (o11 (n + 4 + 1) (by omega) ).trans hr2
  refine zk_aload_0 73 dc_CmMachine_init_72 rfl rfl ?_
  refine zk_iconst (v := -1) 74 dc_CmMachine_init_73 (by decide) rfl ?_
  refine zk_put 77 dc_CmMachine_init_74 fp_CmMachine_42 ha rfl rfl (Nat.le_of_ble_eq_true rfl) rfl (fun f12 ha o12 => ?_)
  have hq0 := (o12 (n) (by omega) ).trans hq0
  have hr0 := (o12 (n + 1) (by omega) ).trans hr0
  have hq1 := (o12 (n + 2) (by omega) ).trans hq1
  have hr1 := (o12 (n + 2 + 1) (by omega) ).trans hr1
  have hq2 := (o12 (n + 4) (by omega) ).trans hq2
  have hr2 := (o12 (n + 4 + 1) (by omega) ).trans hr2
  refine zk_aload_0 78 dc_CmMachine_init_77 rfl rfl ?_
  refine zk_aload_1 79 dc_CmMachine_init_78 rfl rfl ?_
  refine zk_putF 82 dc_CmMachine_init_79 fp_CmMachine_45 (fun C T N h => by cases h; rfl) rfl ha rfl rfl (Nat.le_of_ble_eq_true rfl) rfl (fun f13 ha o13 => ?_)
  have hq0 := (o13 (n) (by omega) ).trans hq0
  have hr0 := (o13 (n + 1) (by omega) ).trans hr0
  have hq1 := (o13 (n + 2) (by omega) ).trans hq1
  have hr1 := (o13 (n + 2 + 1) (by omega) ).trans hr1
  have hq2 := (o13 (n + 4) (by omega) ).trans hq2
  have hr2 := (o13 (n + 4 + 1) (by omega) ).trans hr2
  refine zk_aload_0 83 dc_CmMachine_init_82 rfl rfl ?_
  refine zk_aload_2 84 dc_CmMachine_init_83 rfl rfl ?_
  refine zk_putF 87 dc_CmMachine_init_84 fp_CmMachine_49 (fun C T N h => by cases h; rfl) rfl ha rfl rfl (Nat.le_of_ble_eq_true rfl) rfl (fun f14 ha o14 => ?_)
  have hq0 := (o14 (n) (by omega) ).trans hq0
  have hr0 := (o14 (n + 1) (by omega) ).trans hr0
  have hq1 := (o14 (n + 2) (by omega) ).trans hq1
  have hr1 := (o14 (n + 2 + 1) (by omega) ).trans hr1
  have hq2 := (o14 (n + 4) (by omega) ).trans hq2
  have hr2 := (o14 (n + 4 + 1) (by omega) ).trans hr2
  exact zk_return dc_CmMachine_init_87 rfl ⟨rfl, _, rfl, ha, hq0, hr0, hq1, hr1, hq2, hr2, fun b h1 h2 => by rw [o14 b (by omega), o13 b (by omega), o12 b (by omega), o11 b (by omega), o10 b (by omega), o9 b (by omega), o8 b (by omega), o7 b (by omega), o6 b (by omega), p2 b (by omega) (by omega), o5 b (by omega), o4 b (by omega), p1 b (by omega) (by omega), o3 b (by omega), o2 b (by omega), p0 b (by omega) (by omega), o1 b (by omega)]⟩
set_option maxHeartbeats 4000000 in
set_option maxRecDepth 100000 in
theorem ct_Reader {Z : zk_Z} {n s : Nat} {f : Nat → Option zk_E} {a t u : Nat} (ha : f a = some (.inr (.inr (5, [.null, .null, .null, .int 0, .int 0])))) (hlt : a < n) : zk_Kv Z mm_CmReader_init [.ref a, .ref t, .ref u] (n, s, f) (fun M' => ∃ g : Nat → Option zk_E, M' = (n + 2, s + 259, g) ∧ g a = some (.inr (.inr (5, [.ref t, .ref u, .ref n, .int (-1), .int 0]))) ∧ g n = some (.inr (.inr (0, [.int 6000, .ref (n + 1), .int 0]))) ∧ g (n + 1) = some (.inl (256, fun _ => 0)) ∧ ∀ b, b < n → b ≠ a → g b = f b) := by
  refine zk_enterB (by decide) (Nat.le_of_ble_eq_true rfl) rfl ?_
  show zk_P Z mm_CmReader_init 0 [some (.ref a), some (.ref t), some (.ref u)] [] (n, s, f) _
  refine zk_aload_0 1 dc_CmReader_init_0 rfl rfl ?_
  refine zk_objInit 4 dc_CmReader_init_1 (zk_in 140 (by decide +kernel) (by decide +kernel)) (zk_in 20 (by decide +kernel) (by decide +kernel)) (zk_in 21 rfl rfl) (Nat.le_of_ble_eq_true rfl) (Nat.le_of_ble_eq_true rfl) rfl ?_
  refine zk_aload_0 5 dc_CmReader_init_4 rfl rfl ?_
  refine zk_newK 8 dc_CmReader_init_5 nw_CmReader_9 rfl (fun f1 hq0 o1 => ?_)
  have ha := (o1 (a) (by omega) ).trans ha
  refine zk_dup 9 dc_CmReader_init_8 rfl rfl ?_
  refine zk_sipush (v := 6000) 12 dc_CmReader_init_9 (by decide) rfl ?_
  refine zk_cIv 15 (ct_Rows hq0 (by omega)) dc_CmReader_init_12 ok_CmRows_init lk_CmReader_11 rfl rfl ⟨Nat.le_of_ble_eq_true rfl, Nat.le_of_ble_eq_true rfl⟩ (Nat.le_of_ble_eq_true rfl) rfl (fun M1 hk => ?_)
  obtain ⟨g0, rfl, hq0, hr0, p0⟩ := hk
  have ha := (p0 (a) (by omega) (by omega) ).trans ha
  refine zk_putF 18 dc_CmReader_init_15 fp_CmReader_14 (fun C T N h => by cases h; rfl) rfl ha rfl rfl (Nat.le_of_ble_eq_true rfl) rfl (fun f2 ha o2 => ?_)
  have hq0 := (o2 (n) (by omega) ).trans hq0
  have hr0 := (o2 (n + 1) (by omega) ).trans hr0
  refine zk_aload_0 19 dc_CmReader_init_18 rfl rfl ?_
  refine zk_iconst (v := -1) 20 dc_CmReader_init_19 (by decide) rfl ?_
  refine zk_put 23 dc_CmReader_init_20 fp_CmReader_20 ha rfl rfl (Nat.le_of_ble_eq_true rfl) rfl (fun f3 ha o3 => ?_)
  have hq0 := (o3 (n) (by omega) ).trans hq0
  have hr0 := (o3 (n + 1) (by omega) ).trans hr0
  refine zk_aload_0 24 dc_CmReader_init_23 rfl rfl ?_
  refine zk_iconst (v := 0) 25 dc_CmReader_init_24 (by decide) rfl ?_
  refine zk_put 28 dc_CmReader_init_25 fp_CmReader_24 ha rfl rfl (Nat.le_of_ble_eq_true rfl) rfl (fun f4 ha o4 => ?_)
  have hq0 := (o4 (n) (by omega) ).trans hq0
  have hr0 := (o4 (n + 1) (by omega) ).trans hr0
  refine zk_aload_0 29 dc_CmReader_init_28 rfl rfl ?_
  refine zk_aload_1 30 dc_CmReader_init_29 rfl rfl ?_
  refine zk_putF 33 dc_CmReader_init_30 fp_CmReader_27 (fun C T N h => by cases h; rfl) rfl ha rfl rfl (Nat.le_of_ble_eq_true rfl) rfl (fun f5 ha o5 => ?_)
  have hq0 := (o5 (n) (by omega) ).trans hq0
  have hr0 := (o5 (n + 1) (by omega) ).trans hr0
  refine zk_aload_0 34 dc_CmReader_init_33 rfl rfl ?_
  refine zk_aload_2 35 dc_CmReader_init_34 rfl rfl ?_
  refine zk_putF 38 dc_CmReader_init_35 fp_CmReader_31 (fun C T N h => by cases h; rfl) rfl ha rfl rfl (Nat.le_of_ble_eq_true rfl) rfl (fun f6 ha o6 => ?_)
  have hq0 := (o6 (n) (by omega) ).trans hq0
  have hr0 := (o6 (n + 1) (by omega) ).trans hr0
  exact zk_return dc_CmReader_init_38 rfl ⟨rfl, _, rfl, ha, hq0, hr0, fun b h1 h2 => by rw [o6 b (by omega), o5 b (by omega), o4 b (by omega), o3 b (by omega), o2 b (by omega), p0 b (by omega) (by omega), o1 b (by omega)]⟩
set_option maxHeartbeats 4000000 in
set_option maxRecDepth 100000 in
theorem ct_Cm {Z : zk_Z} {n s : Nat} {f : Nat → Option zk_E} {a : Nat} (ha : f a = some (.inr (.inr (6, [.null, .null, .null, .null, .null, .int 0, .int 0, .int 0, .int 0])))) (hlt : a < n) : zk_Kv Z mm_Cm_init [.ref a] (n, s, f) (fun M' => ∃ g : Nat → Option zk_E, M' = (n + 20, s + 1896, g) ∧ g a = some (.inr (.inr (6, [.ref n, .ref (n + 7), .ref (n + 9), .ref (n + 10), .ref (n + 17), .int (-1), .int (-1), .int (-1), .int (-1)]))) ∧ g n = some (.inr (.inr (1, [.ref (n + 1), .ref (n + 3), .ref (n + 5), .int 0]))) ∧ g (n + 1) = some (.inr (.inr (0, [.int 46000, .ref (n + 2), .int 0]))) ∧ g (n + 2) = some (.inl (256, fun _ => 0)) ∧ g (n + 3) = some (.inr (.inr (0, [.int 3000, .ref (n + 4), .int 0]))) ∧ g (n + 4) = some (.inl (256, fun _ => 0)) ∧ g (n + 7) = some (.inr (.inr (2, [.ref (n + 8), .int 0]))) ∧ g (n + 8) = some (.inr (.inl (1, 60, fun _ => none))) ∧ ∀ b, b < n → b ≠ a → g b = f b) := by
  refine zk_enterB (by decide) (Nat.le_of_ble_eq_true rfl) rfl ?_
  show zk_P Z mm_Cm_init 0 [some (.ref a)] [] (n, s, f) _
  refine zk_aload_0 1 dc_Cm_init_0 rfl rfl ?_
  refine zk_objInit 4 dc_Cm_init_1 (zk_in 19 (by decide +kernel) (by decide +kernel)) (zk_in 20 (by decide +kernel) (by decide +kernel)) (zk_in 21 rfl rfl) (Nat.le_of_ble_eq_true rfl) (Nat.le_of_ble_eq_true rfl) rfl ?_
  refine zk_aload_0 5 dc_Cm_init_4 rfl rfl ?_
  refine zk_newK 8 dc_Cm_init_5 nw_Cm_7 rfl (fun f1 ht o1 => ?_)
  have ha := (o1 (a) (by omega) ).trans ha
  refine zk_dup 9 dc_Cm_init_8 rfl rfl ?_
  refine zk_cINv 12 (ct_Terms ht (by omega)) dc_Cm_init_9 ok_CmTerms_init lk_Cm_9 rfl rfl ⟨Nat.le_of_ble_eq_true rfl, Nat.le_of_ble_eq_true rfl⟩ (Nat.le_of_ble_eq_true rfl) rfl (fun M1 hk => ?_)
  obtain ⟨g0, rfl, ht, hq0, hr0, hq1, hr1, hq2, hr2, p0⟩ := hk
  have ha := (p0 (a) (by omega) (by omega) ).trans ha
  refine zk_putF 15 dc_Cm_init_12 fp_Cm_10 (fun C T N h => by cases h; rfl) rfl ha rfl rfl (Nat.le_of_ble_eq_true rfl) rfl (fun f2 ha o2 => ?_)
  have ht := (o2 (n) (by omega) ).trans ht
  have hq0 := (o2 (n + 1) (by omega) ).trans hq0
  have hq1 := (o2 (n + 3) (by omega) ).trans hq1
  have hq2 := (o2 (n + 5) (by omega) ).trans hq2
  have hr0 := (o2 (n + 2) (by omega) ).trans hr0
  have hr1 := (o2 (n + 4) (by omega) ).trans hr1
  have hr2 := (o2 (n + 6) (by omega) ).trans hr2
  refine zk_aload_0 16 dc_Cm_init_15 rfl rfl ?_
  refine zk_newK 19 dc_Cm_init_16 nw_Cm_16 rfl (fun f3 hg o3 => ?_)
  have ht := (o3 (n) (by omega) ).trans ht
  have hq0 := (o3 (n + 1) (by omega) ).trans hq0
  have hq1 := (o3 (n + 3) (by omega) ).trans hq1
  have hq2 := (o3 (n + 5) (by omega) ).trans hq2
  have hr0 := (o3 (n + 2) (by omega) ).trans hr0
  have hr1 := (o3 (n + 4) (by omega) ).trans hr1
  have hr2 := (o3 (n + 6) (by omega) ).trans hr2
  have ha := (o3 (a) (by omega) ).trans ha
  refine zk_dup 20 dc_Cm_init_19 rfl rfl ?_
  refine zk_cINv 23 (ct_Globals hg (by omega)) dc_Cm_init_20 ok_CmGlobals_init lk_Cm_18 rfl rfl ⟨Nat.le_of_ble_eq_true rfl, Nat.le_of_ble_eq_true rfl⟩ (Nat.le_of_ble_eq_true rfl) rfl (fun M1 hk => ?_)
  obtain ⟨g1, rfl, hg, hga, p1⟩ := hk
  have ht := (p1 (n) (by omega) (by omega) ).trans ht
  have hq0 := (p1 (n + 1) (by omega) (by omega) ).trans hq0
  have hq1 := (p1 (n + 3) (by omega) (by omega) ).trans hq1
  have hq2 := (p1 (n + 5) (by omega) (by omega) ).trans hq2
  have hr0 := (p1 (n + 2) (by omega) (by omega) ).trans hr0
  have hr1 := (p1 (n + 4) (by omega) (by omega) ).trans hr1
  have hr2 := (p1 (n + 6) (by omega) (by omega) ).trans hr2
  have ha := (p1 (a) (by omega) (by omega) ).trans ha
  refine zk_putF 26 dc_Cm_init_23 fp_Cm_19 (fun C T N h => by cases h; rfl) rfl ha rfl rfl (Nat.le_of_ble_eq_true rfl) rfl (fun f4 ha o4 => ?_)
  have ht := (o4 (n) (by omega) ).trans ht
  have hq0 := (o4 (n + 1) (by omega) ).trans hq0
  have hq1 := (o4 (n + 3) (by omega) ).trans hq1
  have hq2 := (o4 (n + 5) (by omega) ).trans hq2
  have hr0 := (o4 (n + 2) (by omega) ).trans hr0
  have hr1 := (o4 (n + 4) (by omega) ).trans hr1
  have hr2 := (o4 (n + 6) (by omega) ).trans hr2
  have hg := (o4 (n + 7) (by omega) ).trans hg
  have hga := (o4 (n + 8) (by omega) ).trans hga
  refine zk_aload_0 27 dc_Cm_init_26 rfl rfl ?_
  refine zk_newK 30 dc_Cm_init_27 nw_Cm_23 rfl (fun f5 hy o5 => ?_)
  have ht := (o5 (n) (by omega) ).trans ht
  have hq0 := (o5 (n + 1) (by omega) ).trans hq0
  have hq1 := (o5 (n + 3) (by omega) ).trans hq1
  have hq2 := (o5 (n + 5) (by omega) ).trans hq2
  have hr0 := (o5 (n + 2) (by omega) ).trans hr0
  have hr1 := (o5 (n + 4) (by omega) ).trans hr1
  have hr2 := (o5 (n + 6) (by omega) ).trans hr2
  have hg := (o5 (n + 7) (by omega) ).trans hg
  have hga := (o5 (n + 8) (by omega) ).trans hga
  have ha := (o5 (a) (by omega) ).trans ha
  refine zk_dup 31 dc_Cm_init_30 rfl rfl ?_
  refine zk_aload_0 32 dc_Cm_init_31 rfl rfl ?_
  refine zk_getfield 35 dc_Cm_init_32 fg_Cm_10 ha rfl rfl ?_
  refine zk_cIv 38 (ct_TypeReader hy (by omega)) dc_Cm_init_35 ok_CmTypeReader_init lk_Cm_25 rfl rfl ⟨Nat.le_of_ble_eq_true rfl, Nat.le_of_ble_eq_true rfl⟩ (Nat.le_of_ble_eq_true rfl) rfl (fun M1 hk => ?_)
  obtain ⟨g2, rfl, hy, p2⟩ := hk
  have ht := (p2 (n) (by omega) (by omega) ).trans ht
  have hq0 := (p2 (n + 1) (by omega) (by omega) ).trans hq0
  have hq1 := (p2 (n + 3) (by omega) (by omega) ).trans hq1
  have hq2 := (p2 (n + 5) (by omega) (by omega) ).trans hq2
  have hr0 := (p2 (n + 2) (by omega) (by omega) ).trans hr0
  have hr1 := (p2 (n + 4) (by omega) (by omega) ).trans hr1
  have hr2 := (p2 (n + 6) (by omega) (by omega) ).trans hr2
  have hg := (p2 (n + 7) (by omega) (by omega) ).trans hg
  have hga := (p2 (n + 8) (by omega) (by omega) ).trans hga
  have ha := (p2 (a) (by omega) (by omega) ).trans ha
  refine zk_putF 41 dc_Cm_init_38 fp_Cm_28 (fun C T N h => by cases h; rfl) rfl ha rfl rfl (Nat.le_of_ble_eq_true rfl) rfl (fun f6 ha o6 => ?_)
  have ht := (o6 (n) (by omega) ).trans ht
  have hq0 := (o6 (n + 1) (by omega) ).trans hq0
  have hq1 := (o6 (n + 3) (by omega) ).trans hq1
  have hq2 := (o6 (n + 5) (by omega) ).trans hq2
  have hr0 := (o6 (n + 2) (by omega) ).trans hr0
  have hr1 := (o6 (n + 4) (by omega) ).trans hr1
  have hr2 := (o6 (n + 6) (by omega) ).trans hr2
  have hg := (o6 (n + 7) (by omega) ).trans hg
  have hga := (o6 (n + 8) (by omega) ).trans hga
  have hy := (o6 (n + 9) (by omega) ).trans hy
  refine zk_aload_0 42 dc_Cm_init_41 rfl rfl ?_
  refine zk_newK 45 dc_Cm_init_42 nw_Cm_32 rfl (fun f7 hm o7 => ?_)
  have ht := (o7 (n) (by omega) ).trans ht
  have hq0 := (o7 (n + 1) (by omega) ).trans hq0
  have hq1 := (o7 (n + 3) (by omega) ).trans hq1
  have hq2 := (o7 (n + 5) (by omega) ).trans hq2
  have hr0 := (o7 (n + 2) (by omega) ).trans hr0
  have hr1 := (o7 (n + 4) (by omega) ).trans hr1
  have hr2 := (o7 (n + 6) (by omega) ).trans hr2
  have hg := (o7 (n + 7) (by omega) ).trans hg
  have hga := (o7 (n + 8) (by omega) ).trans hga
  have hy := (o7 (n + 9) (by omega) ).trans hy
  have ha := (o7 (a) (by omega) ).trans ha
  refine zk_dup 46 dc_Cm_init_45 rfl rfl ?_
  refine zk_aload_0 47 dc_Cm_init_46 rfl rfl ?_
  refine zk_getfield 50 dc_Cm_init_47 fg_Cm_10 ha rfl rfl ?_
  refine zk_aload_0 51 dc_Cm_init_50 rfl rfl ?_
  refine zk_getfield 54 dc_Cm_init_51 fg_Cm_19 ha rfl rfl ?_
  refine zk_cIv 57 (ct_Machine hm (by omega)) dc_Cm_init_54 ok_CmMachine_init lk_Cm_34 rfl rfl ⟨Nat.le_of_ble_eq_true rfl, Nat.le_of_ble_eq_true rfl⟩ (Nat.le_of_ble_eq_true rfl) rfl (fun M1 hk => ?_)
  obtain ⟨g3, rfl, hm, hq3, hr3, hq4, hr4, hq5, hr5, p3⟩ := hk
  have ht := (p3 (n) (by omega) (by omega) ).trans ht
  have hq0 := (p3 (n + 1) (by omega) (by omega) ).trans hq0
  have hq1 := (p3 (n + 3) (by omega) (by omega) ).trans hq1
  have hq2 := (p3 (n + 5) (by omega) (by omega) ).trans hq2
  have hr0 := (p3 (n + 2) (by omega) (by omega) ).trans hr0
  have hr1 := (p3 (n + 4) (by omega) (by omega) ).trans hr1
  have hr2 := (p3 (n + 6) (by omega) (by omega) ).trans hr2
  have hg := (p3 (n + 7) (by omega) (by omega) ).trans hg
  have hga := (p3 (n + 8) (by omega) (by omega) ).trans hga
  have hy := (p3 (n + 9) (by omega) (by omega) ).trans hy
  have ha := (p3 (a) (by omega) (by omega) ).trans ha
  refine zk_putF 60 dc_Cm_init_57 fp_Cm_37 (fun C T N h => by cases h; rfl) rfl ha rfl rfl (Nat.le_of_ble_eq_true rfl) rfl (fun f8 ha o8 => ?_)
  have ht := (o8 (n) (by omega) ).trans ht
  have hq0 := (o8 (n + 1) (by omega) ).trans hq0
  have hq1 := (o8 (n + 3) (by omega) ).trans hq1
  have hq2 := (o8 (n + 5) (by omega) ).trans hq2
  have hr0 := (o8 (n + 2) (by omega) ).trans hr0
  have hr1 := (o8 (n + 4) (by omega) ).trans hr1
  have hr2 := (o8 (n + 6) (by omega) ).trans hr2
  have hg := (o8 (n + 7) (by omega) ).trans hg
  have hga := (o8 (n + 8) (by omega) ).trans hga
  have hy := (o8 (n + 9) (by omega) ).trans hy
  have hm := (o8 (n + 10) (by omega) ).trans hm
  have hq3 := (o8 (n + 11) (by omega) ).trans hq3
  have hq4 := (o8 (n + 13) (by omega) ).trans hq4
  have hq5 := (o8 (n + 15) (by omega) ).trans hq5
  have hr3 := (o8 (n + 12) (by omega) ).trans hr3
  have hr4 := (o8 (n + 14) (by omega) ).trans hr4
  have hr5 := (o8 (n + 16) (by omega) ).trans hr5
  refine zk_aload_0 61 dc_Cm_init_60 rfl rfl ?_
  refine zk_newK 64 dc_Cm_init_61 nw_Cm_41 rfl (fun f9 hd o9 => ?_)
  have ht := (o9 (n) (by omega) ).trans ht
  have hq0 := (o9 (n + 1) (by omega) ).trans hq0
  have hq1 := (o9 (n + 3) (by omega) ).trans hq1
  have hq2 := (o9 (n + 5) (by omega) ).trans hq2
  have hr0 := (o9 (n + 2) (by omega) ).trans hr0
  have hr1 := (o9 (n + 4) (by omega) ).trans hr1
  have hr2 := (o9 (n + 6) (by omega) ).trans hr2
  have hg := (o9 (n + 7) (by omega) ).trans hg
  have hga := (o9 (n + 8) (by omega) ).trans hga
  have hy := (o9 (n + 9) (by omega) ).trans hy
  have hm := (o9 (n + 10) (by omega) ).trans hm
  have hq3 := (o9 (n + 11) (by omega) ).trans hq3
  have hq4 := (o9 (n + 13) (by omega) ).trans hq4
  have hq5 := (o9 (n + 15) (by omega) ).trans hq5
  have hr3 := (o9 (n + 12) (by omega) ).trans hr3
  have hr4 := (o9 (n + 14) (by omega) ).trans hr4
  have hr5 := (o9 (n + 16) (by omega) ).trans hr5
  have ha := (o9 (a) (by omega) ).trans ha
  refine zk_dup 65 dc_Cm_init_64 rfl rfl ?_
  refine zk_aload_0 66 dc_Cm_init_65 rfl rfl ?_
  refine zk_getfield 69 dc_Cm_init_66 fg_Cm_10 ha rfl rfl ?_
  refine zk_aload_0 70 dc_Cm_init_69 rfl rfl ?_
  refine zk_getfield 73 dc_Cm_init_70 fg_Cm_37 ha rfl rfl ?_
  refine zk_cIv 76 (ct_Reader hd (by omega)) dc_Cm_init_73 ok_CmReader_init lk_Cm_43 rfl rfl ⟨Nat.le_of_ble_eq_true rfl, Nat.le_of_ble_eq_true rfl⟩ (Nat.le_of_ble_eq_true rfl) rfl (fun M1 hk => ?_)
  obtain ⟨g4, rfl, hd, hq6, hr6, p4⟩ := hk
  have ht := (p4 (n) (by omega) (by omega) ).trans ht
  have hq0 := (p4 (n + 1) (by omega) (by omega) ).trans hq0
  have hq1 := (p4 (n + 3) (by omega) (by omega) ).trans hq1
  have hq2 := (p4 (n + 5) (by omega) (by omega) ).trans hq2
  have hr0 := (p4 (n + 2) (by omega) (by omega) ).trans hr0
  have hr1 := (p4 (n + 4) (by omega) (by omega) ).trans hr1
  have hr2 := (p4 (n + 6) (by omega) (by omega) ).trans hr2
  have hg := (p4 (n + 7) (by omega) (by omega) ).trans hg
  have hga := (p4 (n + 8) (by omega) (by omega) ).trans hga
  have hy := (p4 (n + 9) (by omega) (by omega) ).trans hy
  have hm := (p4 (n + 10) (by omega) (by omega) ).trans hm
  have hq3 := (p4 (n + 11) (by omega) (by omega) ).trans hq3
  have hq4 := (p4 (n + 13) (by omega) (by omega) ).trans hq4
  have hq5 := (p4 (n + 15) (by omega) (by omega) ).trans hq5
  have hr3 := (p4 (n + 12) (by omega) (by omega) ).trans hr3
  have hr4 := (p4 (n + 14) (by omega) (by omega) ).trans hr4
  have hr5 := (p4 (n + 16) (by omega) (by omega) ).trans hr5
  have ha := (p4 (a) (by omega) (by omega) ).trans ha
  refine zk_putF 79 dc_Cm_init_76 fp_Cm_46 (fun C T N h => by cases h; rfl) rfl ha rfl rfl (Nat.le_of_ble_eq_true rfl) rfl (fun f10 ha o10 => ?_)
  have ht := (o10 (n) (by omega) ).trans ht
  have hq0 := (o10 (n + 1) (by omega) ).trans hq0
  have hq1 := (o10 (n + 3) (by omega) ).trans hq1
  have hq2 := (o10 (n + 5) (by omega) ).trans hq2
  have hr0 := (o10 (n + 2) (by omega) ).trans hr0
  have hr1 := (o10 (n + 4) (by omega) ).trans hr1
  have hr2 := (o10 (n + 6) (by omega) ).trans hr2
  have hg := (o10 (n + 7) (by omega) ).trans hg
  have hga := (o10 (n + 8) (by omega) ).trans hga
  have hy := (o10 (n + 9) (by omega) ).trans hy
  have hm := (o10 (n + 10) (by omega) ).trans hm
  have hq3 := (o10 (n + 11) (by omega) ).trans hq3
  have hq4 := (o10 (n + 13) (by omega) ).trans hq4
  have hq5 := (o10 (n + 15) (by omega) ).trans hq5
  have hr3 := (o10 (n + 12) (by omega) ).trans hr3
  have hr4 := (o10 (n + 14) (by omega) ).trans hr4
  have hr5 := (o10 (n + 16) (by omega) ).trans hr5
  have hd := (o10 (n + 17) (by omega) ).trans hd
  have hq6 := (o10 (n + 18) (by omega) ).trans hq6
  have hr6 := (o10 (n + 19) (by omega) ).trans hr6
  refine zk_aload_0 80 dc_Cm_init_79 rfl rfl ?_
  refine zk_iconst (v := -1) 81 dc_Cm_init_80 (by decide) rfl ?_
  refine zk_put 84 dc_Cm_init_81 fp_Cm_50 ha rfl rfl (Nat.le_of_ble_eq_true rfl) rfl (fun f11 ha o11 => ?_)
  have ht := (o11 (n) (by omega) ).trans ht
  have hq0 := (o11 (n + 1) (by omega) ).trans hq0
  have hq1 := (o11 (n + 3) (by omega) ).trans hq1
  have hq2 := (o11 (n + 5) (by omega) ).trans hq2
  have hr0 := (o11 (n + 2) (by omega) ).trans hr0
  have hr1 := (o11 (n + 4) (by omega) ).trans hr1
  have hr2 := (o11 (n + 6) (by omega) ).trans hr2
  have hg := (o11 (n + 7) (by omega) ).trans hg
  have hga := (o11 (n + 8) (by omega) ).trans hga
  have hy := (o11 (n + 9) (by omega) ).trans hy
  have hm := (o11 (n + 10) (by omega) ).trans hm
  have hq3 := (o11 (n + 11) (by omega) ).trans hq3
  have hq4 := (o11 (n + 13) (by omega) ).trans hq4
  have hq5 := (o11 (n + 15) (by omega) ).trans hq5
  have hr3 := (o11 (n + 12) (by omega) ).trans hr3
  have hr4 := (o11 (n + 14) (by omega) ).trans hr4
  have hr5 := (o11 (n + 16) (by omega) ).trans hr5
  have hd := (o11 (n + 17) (by omega) ).trans hd
  have hq6 := (o11 (n + 18) (by omega) ).trans hq6
  have hr6 := (o11 (n + 19) (by omega) ).trans hr6
  refine zk_aload_0 85 dc_Cm_init_84 rfl rfl ?_
  refine zk_iconst (v := -1) 86 dc_Cm_init_85 (by decide) rfl ?_
  refine zk_put 89 dc_Cm_init_86 fp_Cm_54 ha rfl rfl (Nat.le_of_ble_eq_true rfl) rfl (fun f12 ha o12 => ?_)
  have ht := (o12 (n) (by omega) ).trans ht
  have hq0 := (o12 (n + 1) (by omega) ).trans hq0
  have hq1 := (o12 (n + 3) (by omega) ).trans hq1
  have hq2 := (o12 (n + 5) (by omega) ).trans hq2
  have hr0 := (o12 (n + 2) (by omega) ).trans hr0
  have hr1 := (o12 (n + 4) (by omega) ).trans hr1
  have hr2 := (o12 (n + 6) (by omega) ).trans hr2
  have hg := (o12 (n + 7) (by omega) ).trans hg
  have hga := (o12 (n + 8) (by omega) ).trans hga
  have hy := (o12 (n + 9) (by omega) ).trans hy
  have hm := (o12 (n + 10) (by omega) ).trans hm
  have hq3 := (o12 (n + 11) (by omega) ).trans hq3
  have hq4 := (o12 (n + 13) (by omega) ).trans hq4
  have hq5 := (o12 (n + 15) (by omega) ).trans hq5
  have hr3 := (o12 (n + 12) (by omega) ).trans hr3
  have hr4 := (o12 (n + 14) (by omega) ).trans hr4
  have hr5 := (o12 (n + 16) (by omega) ).trans hr5
  have hd := (o12 (n + 17) (by omega) ).trans hd
  have hq6 := (o12 (n + 18) (by omega) ).trans hq6
  have hr6 := (o12 (n + 19) (by omega) ).trans hr6
  refine zk_aload_0 90 dc_Cm_init_89 rfl rfl ?_
  refine zk_iconst (v := -1) 91 dc_Cm_init_90 (by decide) rfl ?_
  refine zk_put 94 dc_Cm_init_91 fp_Cm_57 ha rfl rfl (Nat.le_of_ble_eq_true rfl) rfl (fun f13 ha o13 => ?_)
  have ht := (o13 (n) (by omega) ).trans ht
  have hq0 := (o13 (n + 1) (by omega) ).trans hq0
  have hq1 := (o13 (n + 3) (by omega) ).trans hq1
  have hq2 := (o13 (n + 5) (by omega) ).trans hq2
  have hr0 := (o13 (n + 2) (by omega) ).trans hr0
  have hr1 := (o13 (n + 4) (by omega) ).trans hr1
  have hr2 := (o13 (n + 6) (by omega) ).trans hr2
  have hg := (o13 (n + 7) (by omega) ).trans hg
  have hga := (o13 (n + 8) (by omega) ).trans hga
  have hy := (o13 (n + 9) (by omega) ).trans hy
  have hm := (o13 (n + 10) (by omega) ).trans hm
  have hq3 := (o13 (n + 11) (by omega) ).trans hq3
  have hq4 := (o13 (n + 13) (by omega) ).trans hq4
  have hq5 := (o13 (n + 15) (by omega) ).trans hq5
  have hr3 := (o13 (n + 12) (by omega) ).trans hr3
  have hr4 := (o13 (n + 14) (by omega) ).trans hr4
  have hr5 := (o13 (n + 16) (by omega) ).trans hr5
  have hd := (o13 (n + 17) (by omega) ).trans hd
  have hq6 := (o13 (n + 18) (by omega) ).trans hq6
  have hr6 := (o13 (n + 19) (by omega) ).trans hr6
  refine zk_aload_0 95 dc_Cm_init_94 rfl rfl ?_
  refine zk_iconst (v := -1) 96 dc_Cm_init_95 (by decide) rfl ?_
  refine zk_put 99 dc_Cm_init_96 fp_Cm_60 ha rfl rfl (Nat.le_of_ble_eq_true rfl) rfl (fun f14 ha o14 => ?_)
  have ht := (o14 (n) (by omega) ).trans ht
  have hq0 := (o14 (n + 1) (by omega) ).trans hq0
  have hq1 := (o14 (n + 3) (by omega) ).trans hq1
  have hq2 := (o14 (n + 5) (by omega) ).trans hq2
  have hr0 := (o14 (n + 2) (by omega) ).trans hr0
  have hr1 := (o14 (n + 4) (by omega) ).trans hr1
  have hr2 := (o14 (n + 6) (by omega) ).trans hr2
  have hg := (o14 (n + 7) (by omega) ).trans hg
  have hga := (o14 (n + 8) (by omega) ).trans hga
  have hy := (o14 (n + 9) (by omega) ).trans hy
  have hm := (o14 (n + 10) (by omega) ).trans hm
  have hq3 := (o14 (n + 11) (by omega) ).trans hq3
  have hq4 := (o14 (n + 13) (by omega) ).trans hq4
  have hq5 := (o14 (n + 15) (by omega) ).trans hq5
  have hr3 := (o14 (n + 12) (by omega) ).trans hr3
  have hr4 := (o14 (n + 14) (by omega) ).trans hr4
  have hr5 := (o14 (n + 16) (by omega) ).trans hr5
  have hd := (o14 (n + 17) (by omega) ).trans hd
  have hq6 := (o14 (n + 18) (by omega) ).trans hq6
  have hr6 := (o14 (n + 19) (by omega) ).trans hr6
  exact zk_return dc_Cm_init_99 rfl ⟨rfl, _, rfl, ha, ht, hq0, hr0, hq1, hr1, hg, hga, fun b h1 h2 => by rw [o14 b (by omega), o13 b (by omega), o12 b (by omega), o11 b (by omega), o10 b (by omega), p4 b (by omega) (by omega), o9 b (by omega), o8 b (by omega), p3 b (by omega) (by omega), o7 b (by omega), o6 b (by omega), p2 b (by omega) (by omega), o5 b (by omega), o4 b (by omega), p1 b (by omega) (by omega), o3 b (by omega), o2 b (by omega), p0 b (by omega) (by omega), o1 b (by omega)]⟩
end
section
abbrev mm_MoRows_init : zk_Mt := (⟨"ClosureMachineModel$Rows", "<init>", "()V"⟩, prog_11_method_1_code, 1, none, 1, 20)
set_option maxRecDepth 20000 in
theorem ok_MoRows_init : zk_Ok mm_MoRows_init 0 := ⟨zk_in 659 rfl rfl, ⟨by decide +kernel, by decide +kernel, by decide +kernel⟩, zk_in 9 (by decide +kernel) (by decide +kernel)⟩
theorem dc_MoRows_init_0 : decode prog_11_method_1_code 0 = .ok (.aload_n 0, 1) := by decide +kernel
theorem dc_MoRows_init_1 : decode prog_11_method_1_code 1 = .ok (.invokespecial 3, 3) := by decide +kernel
theorem dc_MoRows_init_4 : decode prog_11_method_1_code 4 = .ok (.aload_n 0, 1) := by decide +kernel
theorem dc_MoRows_init_5 : decode prog_11_method_1_code 5 = .ok (.sipush 4096, 3) := by decide +kernel
theorem dc_MoRows_init_8 : decode prog_11_method_1_code 8 = .ok (.newarray .int, 2) := by decide +kernel
theorem dc_MoRows_init_10 : decode prog_11_method_1_code 10 = .ok (.putfield 9, 3) := by decide +kernel
theorem fp_MoRows_9 : zk_Fp "ClosureMachineModel$Rows" 9 8 0 (yc_8 0) false := ⟨rc_8, tc_8, 5, rfl, by decide, zk_in 661 (by decide +kernel) (by decide +kernel), by decide +kernel, rfl, rfl⟩
theorem dc_MoRows_init_13 : decode prog_11_method_1_code 13 = .ok (.aload_n 0, 1) := by decide +kernel
theorem dc_MoRows_init_14 : decode prog_11_method_1_code 14 = .ok (.sipush 4096, 3) := by decide +kernel
theorem dc_MoRows_init_17 : decode prog_11_method_1_code 17 = .ok (.newarray .int, 2) := by decide +kernel
theorem dc_MoRows_init_19 : decode prog_11_method_1_code 19 = .ok (.putfield 15, 3) := by decide +kernel
theorem fp_MoRows_15 : zk_Fp "ClosureMachineModel$Rows" 15 8 1 (yc_8 1) false := ⟨rc_8, tc_8, 5, rfl, by decide, zk_in 663 (by decide +kernel) (by decide +kernel), by decide +kernel, rfl, rfl⟩
theorem dc_MoRows_init_22 : decode prog_11_method_1_code 22 = .ok (.aload_n 0, 1) := by decide +kernel
theorem dc_MoRows_init_23 : decode prog_11_method_1_code 23 = .ok (.sipush 4096, 3) := by decide +kernel
theorem dc_MoRows_init_26 : decode prog_11_method_1_code 26 = .ok (.newarray .int, 2) := by decide +kernel
theorem dc_MoRows_init_28 : decode prog_11_method_1_code 28 = .ok (.putfield 18, 3) := by decide +kernel
theorem fp_MoRows_18 : zk_Fp "ClosureMachineModel$Rows" 18 8 2 (yc_8 2) false := ⟨rc_8, tc_8, 5, rfl, by decide, zk_in 665 (by decide +kernel) (by decide +kernel), by decide +kernel, rfl, rfl⟩
theorem dc_MoRows_init_31 : decode prog_11_method_1_code 31 = .ok (.aload_n 0, 1) := by decide +kernel
theorem dc_MoRows_init_32 : decode prog_11_method_1_code 32 = .ok (.sipush 4096, 3) := by decide +kernel
theorem dc_MoRows_init_35 : decode prog_11_method_1_code 35 = .ok (.newarray .int, 2) := by decide +kernel
theorem dc_MoRows_init_37 : decode prog_11_method_1_code 37 = .ok (.putfield 21, 3) := by decide +kernel
theorem fp_MoRows_21 : zk_Fp "ClosureMachineModel$Rows" 21 8 3 (yc_8 3) false := ⟨rc_8, tc_8, 5, rfl, by decide, zk_in 667 (by decide +kernel) (by decide +kernel), by decide +kernel, rfl, rfl⟩
theorem dc_MoRows_init_40 : decode prog_11_method_1_code 40 = .ok (.return_, 1) := by decide +kernel
abbrev mm_MoRows_add : zk_Mt := (⟨"ClosureMachineModel$Rows", "add", "(III)I"⟩, prog_11_method_3_code, 4, (Option.some .int), 2, 61)
set_option maxRecDepth 20000 in
theorem ok_MoRows_add : zk_Ok mm_MoRows_add 3 := ⟨zk_in 685 rfl rfl, ⟨by decide +kernel, by decide +kernel, by decide +kernel⟩, zk_in 9 (by decide +kernel) (by decide +kernel)⟩
theorem dc_MoRows_add_0 : decode prog_11_method_3_code 0 = .ok (.aload_n 0, 1) := by decide +kernel
theorem dc_MoRows_add_1 : decode prog_11_method_3_code 1 = .ok (.getfield 30, 3) := by decide +kernel
theorem fg_MoRows_30 : zk_F "ClosureMachineModel$Rows" 30 8 4 := ⟨rc_8, tc_8, 5, rfl, by decide, zk_in 669 (by decide +kernel) (by decide +kernel)⟩
theorem dc_MoRows_add_4 : decode prog_11_method_3_code 4 = .ok (.aload_n 0, 1) := by decide +kernel
theorem dc_MoRows_add_5 : decode prog_11_method_3_code 5 = .ok (.getfield 9, 3) := by decide +kernel
theorem fg_MoRows_9 : zk_F "ClosureMachineModel$Rows" 9 8 0 := ⟨rc_8, tc_8, 5, rfl, by decide, zk_in 661 (by decide +kernel) (by decide +kernel)⟩
theorem dc_MoRows_add_8 : decode prog_11_method_3_code 8 = .ok (.arraylength, 1) := by decide +kernel
theorem dc_MoRows_add_9 : decode prog_11_method_3_code 9 = .ok (.if_icmp .ne 47, 3) := by decide +kernel
theorem dc_MoRows_add_56 : decode prog_11_method_3_code 56 = .ok (.aload_n 0, 1) := by decide +kernel
theorem dc_MoRows_add_57 : decode prog_11_method_3_code 57 = .ok (.getfield 9, 3) := by decide +kernel
theorem dc_MoRows_add_60 : decode prog_11_method_3_code 60 = .ok (.aload_n 0, 1) := by decide +kernel
theorem dc_MoRows_add_61 : decode prog_11_method_3_code 61 = .ok (.getfield 30, 3) := by decide +kernel
theorem dc_MoRows_add_64 : decode prog_11_method_3_code 64 = .ok (.iload_n 1, 1) := by decide +kernel
theorem dc_MoRows_add_65 : decode prog_11_method_3_code 65 = .ok (.iastore, 1) := by decide +kernel
theorem dc_MoRows_add_66 : decode prog_11_method_3_code 66 = .ok (.aload_n 0, 1) := by decide +kernel
theorem dc_MoRows_add_67 : decode prog_11_method_3_code 67 = .ok (.getfield 15, 3) := by decide +kernel
theorem fg_MoRows_15 : zk_F "ClosureMachineModel$Rows" 15 8 1 := ⟨rc_8, tc_8, 5, rfl, by decide, zk_in 663 (by decide +kernel) (by decide +kernel)⟩
theorem dc_MoRows_add_70 : decode prog_11_method_3_code 70 = .ok (.aload_n 0, 1) := by decide +kernel
theorem dc_MoRows_add_71 : decode prog_11_method_3_code 71 = .ok (.getfield 30, 3) := by decide +kernel
theorem dc_MoRows_add_74 : decode prog_11_method_3_code 74 = .ok (.iload_n 2, 1) := by decide +kernel
theorem dc_MoRows_add_75 : decode prog_11_method_3_code 75 = .ok (.iastore, 1) := by decide +kernel
theorem dc_MoRows_add_76 : decode prog_11_method_3_code 76 = .ok (.aload_n 0, 1) := by decide +kernel
theorem dc_MoRows_add_77 : decode prog_11_method_3_code 77 = .ok (.getfield 18, 3) := by decide +kernel
theorem fg_MoRows_18 : zk_F "ClosureMachineModel$Rows" 18 8 2 := ⟨rc_8, tc_8, 5, rfl, by decide, zk_in 665 (by decide +kernel) (by decide +kernel)⟩
theorem dc_MoRows_add_80 : decode prog_11_method_3_code 80 = .ok (.aload_n 0, 1) := by decide +kernel
theorem dc_MoRows_add_81 : decode prog_11_method_3_code 81 = .ok (.getfield 30, 3) := by decide +kernel
theorem dc_MoRows_add_84 : decode prog_11_method_3_code 84 = .ok (.iload_n 3, 1) := by decide +kernel
theorem dc_MoRows_add_85 : decode prog_11_method_3_code 85 = .ok (.iastore, 1) := by decide +kernel
theorem dc_MoRows_add_86 : decode prog_11_method_3_code 86 = .ok (.aload_n 0, 1) := by decide +kernel
theorem dc_MoRows_add_87 : decode prog_11_method_3_code 87 = .ok (.getfield 21, 3) := by decide +kernel
theorem fg_MoRows_21 : zk_F "ClosureMachineModel$Rows" 21 8 3 := ⟨rc_8, tc_8, 5, rfl, by decide, zk_in 667 (by decide +kernel) (by decide +kernel)⟩
theorem dc_MoRows_add_90 : decode prog_11_method_3_code 90 = .ok (.aload_n 0, 1) := by decide +kernel
theorem dc_MoRows_add_91 : decode prog_11_method_3_code 91 = .ok (.getfield 30, 3) := by decide +kernel
theorem dc_MoRows_add_94 : decode prog_11_method_3_code 94 = .ok (.iconst 1, 1) := by decide +kernel
theorem dc_MoRows_add_95 : decode prog_11_method_3_code 95 = .ok (.iastore, 1) := by decide +kernel
theorem dc_MoRows_add_96 : decode prog_11_method_3_code 96 = .ok (.aload_n 0, 1) := by decide +kernel
theorem dc_MoRows_add_97 : decode prog_11_method_3_code 97 = .ok (.dup, 1) := by decide +kernel
theorem dc_MoRows_add_98 : decode prog_11_method_3_code 98 = .ok (.getfield 30, 3) := by decide +kernel
theorem dc_MoRows_add_101 : decode prog_11_method_3_code 101 = .ok (.dup_x1, 1) := by decide +kernel
theorem dc_MoRows_add_102 : decode prog_11_method_3_code 102 = .ok (.iconst 1, 1) := by decide +kernel
theorem dc_MoRows_add_103 : decode prog_11_method_3_code 103 = .ok (.iadd, 1) := by decide +kernel
theorem dc_MoRows_add_104 : decode prog_11_method_3_code 104 = .ok (.putfield 30, 3) := by decide +kernel
theorem fp_MoRows_30 : zk_Fp "ClosureMachineModel$Rows" 30 8 4 (yc_8 4) false := ⟨rc_8, tc_8, 5, rfl, by decide, zk_in 669 (by decide +kernel) (by decide +kernel), by decide +kernel, rfl, rfl⟩
theorem dc_MoRows_add_107 : decode prog_11_method_3_code 107 = .ok (.ireturn, 1) := by decide +kernel
abbrev mm_Mo_init : zk_Mt := (⟨"ClosureMachineModel", "<init>", "()V"⟩, prog_10_method_1_code, 2, none, 3, 84)
set_option maxRecDepth 20000 in
theorem ok_Mo_init : zk_Ok mm_Mo_init 0 := ⟨zk_in 653 rfl rfl, ⟨by decide +kernel, by decide +kernel, by decide +kernel⟩, zk_in 8 (by decide +kernel) (by decide +kernel)⟩
theorem dc_Mo_init_256 : decode prog_10_method_1_code 256 = .ok (.iload_n 1, 1) := by decide +kernel
theorem dc_Mo_init_257 : decode prog_10_method_1_code 257 = .ok (.sipush 2200, 3) := by decide +kernel
theorem dc_Mo_init_260 : decode prog_10_method_1_code 260 = .ok (.if_icmp .gt 20, 3) := by decide +kernel
theorem dc_Mo_init_263 : decode prog_10_method_1_code 263 = .ok (.aload_n 0, 1) := by decide +kernel
theorem dc_Mo_init_264 : decode prog_10_method_1_code 264 = .ok (.getfield 10, 3) := by decide +kernel
theorem fg_Mo_10 : zk_F "ClosureMachineModel" 10 9 0 := ⟨rc_9, tc_9, 48, rfl, by decide, zk_in 690 (by decide +kernel) (by decide +kernel)⟩
theorem dc_Mo_init_267 : decode prog_10_method_1_code 267 = .ok (.iconst 0, 1) := by decide +kernel
theorem dc_Mo_init_268 : decode prog_10_method_1_code 268 = .ok (.iload_n 1, 1) := by decide +kernel
theorem dc_Mo_init_269 : decode prog_10_method_1_code 269 = .ok (.iconst 0, 1) := by decide +kernel
theorem dc_Mo_init_270 : decode prog_10_method_1_code 270 = .ok (.invokevirtual 105, 3) := by decide +kernel
theorem lk_Mo_105 : zk_LV "ClosureMachineModel" 105 mm_MoRows_add := ⟨zk_in 682 (by decide +kernel) (by decide +kernel), zk_in 683 (by decide +kernel) (by decide +kernel), zk_in 684 (by decide +kernel) (by decide +kernel)⟩
theorem dc_Mo_init_273 : decode prog_10_method_1_code 273 = .ok (.pop, 1) := by decide +kernel
theorem dc_Mo_init_274 : decode prog_10_method_1_code 274 = .ok (.iinc 1 1, 3) := by decide +kernel
theorem dc_Mo_init_277 : decode prog_10_method_1_code 277 = .ok (.goto (-21), 3) := by decide +kernel
theorem dc_Mo_init_280 : decode prog_10_method_1_code 280 = .ok (.return_, 1) := by decide +kernel
theorem dc_Mo_init_0 : decode prog_10_method_1_code 0 = .ok (.aload_n 0, 1) := by decide +kernel
theorem dc_Mo_init_1 : decode prog_10_method_1_code 1 = .ok (.invokespecial 1, 3) := by decide +kernel
theorem dc_Mo_init_4 : decode prog_10_method_1_code 4 = .ok (.aload_n 0, 1) := by decide +kernel
theorem dc_Mo_init_5 : decode prog_10_method_1_code 5 = .ok (.new 7, 3) := by decide +kernel
theorem nw_Mo_7 : zk_N "ClosureMachineModel" 7 8 5 [.null, .null, .null, .null, .int 0] := ⟨rc_8, tc_8, yc_8, rfl, zk_in 655 (by decide +kernel) (by decide +kernel), zk_in 656 (by decide +kernel) (by decide +kernel), zk_in 9 (by decide +kernel) (by decide +kernel), yk_8, by decide +kernel⟩
theorem dc_Mo_init_8 : decode prog_10_method_1_code 8 = .ok (.dup, 1) := by decide +kernel
theorem dc_Mo_init_9 : decode prog_10_method_1_code 9 = .ok (.invokespecial 9, 3) := by decide +kernel
theorem lk_Mo_9 : zk_LIN "ClosureMachineModel" 9 mm_MoRows_init "ClosureMachineModel" := ⟨List.mem_of_getElem? (i := 3) rfl, zk_in 658 (by decide +kernel) (by decide +kernel), rfl, rfl⟩
theorem dc_Mo_init_12 : decode prog_10_method_1_code 12 = .ok (.putfield 10, 3) := by decide +kernel
theorem fp_Mo_10 : zk_Fp "ClosureMachineModel" 10 9 0 (yc_9 0) true := ⟨rc_9, tc_9, 48, rfl, by decide, zk_in 690 (by decide +kernel) (by decide +kernel), by decide +kernel, rfl, rfl⟩
theorem dc_Mo_init_15 : decode prog_10_method_1_code 15 = .ok (.aload_n 0, 1) := by decide +kernel
theorem dc_Mo_init_16 : decode prog_10_method_1_code 16 = .ok (.sipush 3000, 3) := by decide +kernel
theorem dc_Mo_init_19 : decode prog_10_method_1_code 19 = .ok (.newarray .int, 2) := by decide +kernel
theorem dc_Mo_init_21 : decode prog_10_method_1_code 21 = .ok (.putfield 16, 3) := by decide +kernel
theorem fp_Mo_16 : zk_Fp "ClosureMachineModel" 16 9 1 (yc_9 1) true := ⟨rc_9, tc_9, 48, rfl, by decide, zk_in 691 (by decide +kernel) (by decide +kernel), by decide +kernel, rfl, rfl⟩
theorem dc_Mo_init_24 : decode prog_10_method_1_code 24 = .ok (.aload_n 0, 1) := by decide +kernel
theorem dc_Mo_init_25 : decode prog_10_method_1_code 25 = .ok (.sipush 3000, 3) := by decide +kernel
theorem dc_Mo_init_28 : decode prog_10_method_1_code 28 = .ok (.newarray .int, 2) := by decide +kernel
theorem dc_Mo_init_30 : decode prog_10_method_1_code 30 = .ok (.putfield 20, 3) := by decide +kernel
theorem fp_Mo_20 : zk_Fp "ClosureMachineModel" 20 9 2 (yc_9 2) true := ⟨rc_9, tc_9, 48, rfl, by decide, zk_in 692 (by decide +kernel) (by decide +kernel), by decide +kernel, rfl, rfl⟩
theorem dc_Mo_init_33 : decode prog_10_method_1_code 33 = .ok (.aload_n 0, 1) := by decide +kernel
theorem dc_Mo_init_34 : decode prog_10_method_1_code 34 = .ok (.sipush 3000, 3) := by decide +kernel
theorem dc_Mo_init_37 : decode prog_10_method_1_code 37 = .ok (.newarray .int, 2) := by decide +kernel
theorem dc_Mo_init_39 : decode prog_10_method_1_code 39 = .ok (.putfield 23, 3) := by decide +kernel
theorem fp_Mo_23 : zk_Fp "ClosureMachineModel" 23 9 3 (yc_9 3) true := ⟨rc_9, tc_9, 48, rfl, by decide, zk_in 693 (by decide +kernel) (by decide +kernel), by decide +kernel, rfl, rfl⟩
theorem dc_Mo_init_42 : decode prog_10_method_1_code 42 = .ok (.aload_n 0, 1) := by decide +kernel
theorem dc_Mo_init_43 : decode prog_10_method_1_code 43 = .ok (.bipush 60, 2) := by decide +kernel
theorem dc_Mo_init_45 : decode prog_10_method_1_code 45 = .ok (.newarray .int, 2) := by decide +kernel
theorem dc_Mo_init_47 : decode prog_10_method_1_code 47 = .ok (.putfield 26, 3) := by decide +kernel
theorem fp_Mo_26 : zk_Fp "ClosureMachineModel" 26 9 6 (yc_9 6) true := ⟨rc_9, tc_9, 48, rfl, by decide, zk_in 696 (by decide +kernel) (by decide +kernel), by decide +kernel, rfl, rfl⟩
theorem dc_Mo_init_50 : decode prog_10_method_1_code 50 = .ok (.aload_n 0, 1) := by decide +kernel
theorem dc_Mo_init_51 : decode prog_10_method_1_code 51 = .ok (.bipush 60, 2) := by decide +kernel
theorem dc_Mo_init_53 : decode prog_10_method_1_code 53 = .ok (.newarray .int, 2) := by decide +kernel
theorem dc_Mo_init_55 : decode prog_10_method_1_code 55 = .ok (.putfield 29, 3) := by decide +kernel
theorem fp_Mo_29 : zk_Fp "ClosureMachineModel" 29 9 7 (yc_9 7) true := ⟨rc_9, tc_9, 48, rfl, by decide, zk_in 697 (by decide +kernel) (by decide +kernel), by decide +kernel, rfl, rfl⟩
theorem dc_Mo_init_58 : decode prog_10_method_1_code 58 = .ok (.aload_n 0, 1) := by decide +kernel
theorem dc_Mo_init_59 : decode prog_10_method_1_code 59 = .ok (.bipush 60, 2) := by decide +kernel
theorem dc_Mo_init_61 : decode prog_10_method_1_code 61 = .ok (.newarray .int, 2) := by decide +kernel
theorem dc_Mo_init_63 : decode prog_10_method_1_code 63 = .ok (.putfield 32, 3) := by decide +kernel
theorem fp_Mo_32 : zk_Fp "ClosureMachineModel" 32 9 8 (yc_9 8) true := ⟨rc_9, tc_9, 48, rfl, by decide, zk_in 698 (by decide +kernel) (by decide +kernel), by decide +kernel, rfl, rfl⟩
theorem dc_Mo_init_66 : decode prog_10_method_1_code 66 = .ok (.aload_n 0, 1) := by decide +kernel
theorem dc_Mo_init_67 : decode prog_10_method_1_code 67 = .ok (.bipush 60, 2) := by decide +kernel
theorem dc_Mo_init_69 : decode prog_10_method_1_code 69 = .ok (.newarray .int, 2) := by decide +kernel
theorem dc_Mo_init_71 : decode prog_10_method_1_code 71 = .ok (.putfield 35, 3) := by decide +kernel
theorem fp_Mo_35 : zk_Fp "ClosureMachineModel" 35 9 9 (yc_9 9) true := ⟨rc_9, tc_9, 48, rfl, by decide, zk_in 699 (by decide +kernel) (by decide +kernel), by decide +kernel, rfl, rfl⟩
theorem dc_Mo_init_74 : decode prog_10_method_1_code 74 = .ok (.aload_n 0, 1) := by decide +kernel
theorem dc_Mo_init_75 : decode prog_10_method_1_code 75 = .ok (.bipush 60, 2) := by decide +kernel
theorem dc_Mo_init_77 : decode prog_10_method_1_code 77 = .ok (.newarray .int, 2) := by decide +kernel
theorem dc_Mo_init_79 : decode prog_10_method_1_code 79 = .ok (.putfield 38, 3) := by decide +kernel
theorem fp_Mo_38 : zk_Fp "ClosureMachineModel" 38 9 10 (yc_9 10) true := ⟨rc_9, tc_9, 48, rfl, by decide, zk_in 700 (by decide +kernel) (by decide +kernel), by decide +kernel, rfl, rfl⟩
theorem dc_Mo_init_82 : decode prog_10_method_1_code 82 = .ok (.aload_n 0, 1) := by decide +kernel
theorem dc_Mo_init_83 : decode prog_10_method_1_code 83 = .ok (.bipush 60, 2) := by decide +kernel
theorem dc_Mo_init_85 : decode prog_10_method_1_code 85 = .ok (.newarray .int, 2) := by decide +kernel
theorem dc_Mo_init_87 : decode prog_10_method_1_code 87 = .ok (.putfield 41, 3) := by decide +kernel
theorem fp_Mo_41 : zk_Fp "ClosureMachineModel" 41 9 11 (yc_9 11) true := ⟨rc_9, tc_9, 48, rfl, by decide, zk_in 701 (by decide +kernel) (by decide +kernel), by decide +kernel, rfl, rfl⟩
theorem dc_Mo_init_90 : decode prog_10_method_1_code 90 = .ok (.aload_n 0, 1) := by decide +kernel
theorem dc_Mo_init_91 : decode prog_10_method_1_code 91 = .ok (.bipush 60, 2) := by decide +kernel
theorem dc_Mo_init_93 : decode prog_10_method_1_code 93 = .ok (.newarray .int, 2) := by decide +kernel
theorem dc_Mo_init_95 : decode prog_10_method_1_code 95 = .ok (.putfield 44, 3) := by decide +kernel
theorem fp_Mo_44 : zk_Fp "ClosureMachineModel" 44 9 12 (yc_9 12) true := ⟨rc_9, tc_9, 48, rfl, by decide, zk_in 702 (by decide +kernel) (by decide +kernel), by decide +kernel, rfl, rfl⟩
theorem dc_Mo_init_98 : decode prog_10_method_1_code 98 = .ok (.aload_n 0, 1) := by decide +kernel
theorem dc_Mo_init_99 : decode prog_10_method_1_code 99 = .ok (.bipush 60, 2) := by decide +kernel
theorem dc_Mo_init_101 : decode prog_10_method_1_code 101 = .ok (.newarray .int, 2) := by decide +kernel
theorem dc_Mo_init_103 : decode prog_10_method_1_code 103 = .ok (.putfield 47, 3) := by decide +kernel
theorem fp_Mo_47 : zk_Fp "ClosureMachineModel" 47 9 13 (yc_9 13) true := ⟨rc_9, tc_9, 48, rfl, by decide, zk_in 703 (by decide +kernel) (by decide +kernel), by decide +kernel, rfl, rfl⟩
theorem dc_Mo_init_106 : decode prog_10_method_1_code 106 = .ok (.aload_n 0, 1) := by decide +kernel
theorem dc_Mo_init_107 : decode prog_10_method_1_code 107 = .ok (.bipush 64, 2) := by decide +kernel
theorem dc_Mo_init_109 : decode prog_10_method_1_code 109 = .ok (.newarray .int, 2) := by decide +kernel
theorem dc_Mo_init_111 : decode prog_10_method_1_code 111 = .ok (.putfield 50, 3) := by decide +kernel
theorem fp_Mo_50 : zk_Fp "ClosureMachineModel" 50 9 15 (yc_9 15) false := ⟨rc_9, tc_9, 48, rfl, by decide, zk_in 705 (by decide +kernel) (by decide +kernel), by decide +kernel, rfl, rfl⟩
theorem dc_Mo_init_114 : decode prog_10_method_1_code 114 = .ok (.aload_n 0, 1) := by decide +kernel
theorem dc_Mo_init_115 : decode prog_10_method_1_code 115 = .ok (.bipush 64, 2) := by decide +kernel
theorem dc_Mo_init_117 : decode prog_10_method_1_code 117 = .ok (.newarray .int, 2) := by decide +kernel
theorem dc_Mo_init_119 : decode prog_10_method_1_code 119 = .ok (.putfield 53, 3) := by decide +kernel
theorem fp_Mo_53 : zk_Fp "ClosureMachineModel" 53 9 16 (yc_9 16) false := ⟨rc_9, tc_9, 48, rfl, by decide, zk_in 706 (by decide +kernel) (by decide +kernel), by decide +kernel, rfl, rfl⟩
theorem dc_Mo_init_122 : decode prog_10_method_1_code 122 = .ok (.aload_n 0, 1) := by decide +kernel
theorem dc_Mo_init_123 : decode prog_10_method_1_code 123 = .ok (.bipush 64, 2) := by decide +kernel
theorem dc_Mo_init_125 : decode prog_10_method_1_code 125 = .ok (.newarray .int, 2) := by decide +kernel
theorem dc_Mo_init_127 : decode prog_10_method_1_code 127 = .ok (.putfield 56, 3) := by decide +kernel
theorem fp_Mo_56 : zk_Fp "ClosureMachineModel" 56 9 17 (yc_9 17) false := ⟨rc_9, tc_9, 48, rfl, by decide, zk_in 707 (by decide +kernel) (by decide +kernel), by decide +kernel, rfl, rfl⟩
theorem dc_Mo_init_130 : decode prog_10_method_1_code 130 = .ok (.aload_n 0, 1) := by decide +kernel
theorem dc_Mo_init_131 : decode prog_10_method_1_code 131 = .ok (.bipush 64, 2) := by decide +kernel
theorem dc_Mo_init_133 : decode prog_10_method_1_code 133 = .ok (.newarray .int, 2) := by decide +kernel
theorem dc_Mo_init_135 : decode prog_10_method_1_code 135 = .ok (.putfield 59, 3) := by decide +kernel
theorem fp_Mo_59 : zk_Fp "ClosureMachineModel" 59 9 18 (yc_9 18) false := ⟨rc_9, tc_9, 48, rfl, by decide, zk_in 708 (by decide +kernel) (by decide +kernel), by decide +kernel, rfl, rfl⟩
theorem dc_Mo_init_138 : decode prog_10_method_1_code 138 = .ok (.aload_n 0, 1) := by decide +kernel
theorem dc_Mo_init_139 : decode prog_10_method_1_code 139 = .ok (.iconst (-1), 1) := by decide +kernel
theorem dc_Mo_init_140 : decode prog_10_method_1_code 140 = .ok (.putfield 62, 3) := by decide +kernel
theorem fp_Mo_62 : zk_Fp "ClosureMachineModel" 62 9 24 (yc_9 24) false := ⟨rc_9, tc_9, 48, rfl, by decide, zk_in 714 (by decide +kernel) (by decide +kernel), by decide +kernel, rfl, rfl⟩
theorem dc_Mo_init_143 : decode prog_10_method_1_code 143 = .ok (.aload_n 0, 1) := by decide +kernel
theorem dc_Mo_init_144 : decode prog_10_method_1_code 144 = .ok (.sipush 256, 3) := by decide +kernel
theorem dc_Mo_init_147 : decode prog_10_method_1_code 147 = .ok (.newarray .int, 2) := by decide +kernel
theorem dc_Mo_init_149 : decode prog_10_method_1_code 149 = .ok (.putfield 66, 3) := by decide +kernel
theorem fp_Mo_66 : zk_Fp "ClosureMachineModel" 66 9 25 (yc_9 25) false := ⟨rc_9, tc_9, 48, rfl, by decide, zk_in 715 (by decide +kernel) (by decide +kernel), by decide +kernel, rfl, rfl⟩
theorem dc_Mo_init_152 : decode prog_10_method_1_code 152 = .ok (.aload_n 0, 1) := by decide +kernel
theorem dc_Mo_init_153 : decode prog_10_method_1_code 153 = .ok (.sipush 256, 3) := by decide +kernel
theorem dc_Mo_init_156 : decode prog_10_method_1_code 156 = .ok (.newarray .int, 2) := by decide +kernel
theorem dc_Mo_init_158 : decode prog_10_method_1_code 158 = .ok (.putfield 69, 3) := by decide +kernel
theorem fp_Mo_69 : zk_Fp "ClosureMachineModel" 69 9 26 (yc_9 26) false := ⟨rc_9, tc_9, 48, rfl, by decide, zk_in 716 (by decide +kernel) (by decide +kernel), by decide +kernel, rfl, rfl⟩
theorem dc_Mo_init_161 : decode prog_10_method_1_code 161 = .ok (.aload_n 0, 1) := by decide +kernel
theorem dc_Mo_init_162 : decode prog_10_method_1_code 162 = .ok (.sipush 256, 3) := by decide +kernel
theorem dc_Mo_init_165 : decode prog_10_method_1_code 165 = .ok (.newarray .int, 2) := by decide +kernel
theorem dc_Mo_init_167 : decode prog_10_method_1_code 167 = .ok (.putfield 72, 3) := by decide +kernel
theorem fp_Mo_72 : zk_Fp "ClosureMachineModel" 72 9 27 (yc_9 27) false := ⟨rc_9, tc_9, 48, rfl, by decide, zk_in 717 (by decide +kernel) (by decide +kernel), by decide +kernel, rfl, rfl⟩
theorem dc_Mo_init_170 : decode prog_10_method_1_code 170 = .ok (.aload_n 0, 1) := by decide +kernel
theorem dc_Mo_init_171 : decode prog_10_method_1_code 171 = .ok (.sipush 256, 3) := by decide +kernel
theorem dc_Mo_init_174 : decode prog_10_method_1_code 174 = .ok (.newarray .int, 2) := by decide +kernel
theorem dc_Mo_init_176 : decode prog_10_method_1_code 176 = .ok (.putfield 75, 3) := by decide +kernel
theorem fp_Mo_75 : zk_Fp "ClosureMachineModel" 75 9 28 (yc_9 28) false := ⟨rc_9, tc_9, 48, rfl, by decide, zk_in 718 (by decide +kernel) (by decide +kernel), by decide +kernel, rfl, rfl⟩
theorem dc_Mo_init_179 : decode prog_10_method_1_code 179 = .ok (.aload_n 0, 1) := by decide +kernel
theorem dc_Mo_init_180 : decode prog_10_method_1_code 180 = .ok (.sipush 256, 3) := by decide +kernel
theorem dc_Mo_init_183 : decode prog_10_method_1_code 183 = .ok (.newarray .int, 2) := by decide +kernel
theorem dc_Mo_init_185 : decode prog_10_method_1_code 185 = .ok (.putfield 78, 3) := by decide +kernel
theorem fp_Mo_78 : zk_Fp "ClosureMachineModel" 78 9 30 (yc_9 30) false := ⟨rc_9, tc_9, 48, rfl, by decide, zk_in 720 (by decide +kernel) (by decide +kernel), by decide +kernel, rfl, rfl⟩
theorem dc_Mo_init_188 : decode prog_10_method_1_code 188 = .ok (.aload_n 0, 1) := by decide +kernel
theorem dc_Mo_init_189 : decode prog_10_method_1_code 189 = .ok (.sipush 256, 3) := by decide +kernel
theorem dc_Mo_init_192 : decode prog_10_method_1_code 192 = .ok (.newarray .int, 2) := by decide +kernel
theorem dc_Mo_init_194 : decode prog_10_method_1_code 194 = .ok (.putfield 81, 3) := by decide +kernel
theorem fp_Mo_81 : zk_Fp "ClosureMachineModel" 81 9 31 (yc_9 31) false := ⟨rc_9, tc_9, 48, rfl, by decide, zk_in 721 (by decide +kernel) (by decide +kernel), by decide +kernel, rfl, rfl⟩
theorem dc_Mo_init_197 : decode prog_10_method_1_code 197 = .ok (.aload_n 0, 1) := by decide +kernel
theorem dc_Mo_init_198 : decode prog_10_method_1_code 198 = .ok (.sipush 256, 3) := by decide +kernel
theorem dc_Mo_init_201 : decode prog_10_method_1_code 201 = .ok (.newarray .int, 2) := by decide +kernel
theorem dc_Mo_init_203 : decode prog_10_method_1_code 203 = .ok (.putfield 84, 3) := by decide +kernel
theorem fp_Mo_84 : zk_Fp "ClosureMachineModel" 84 9 32 (yc_9 32) false := ⟨rc_9, tc_9, 48, rfl, by decide, zk_in 722 (by decide +kernel) (by decide +kernel), by decide +kernel, rfl, rfl⟩
theorem dc_Mo_init_206 : decode prog_10_method_1_code 206 = .ok (.aload_n 0, 1) := by decide +kernel
theorem dc_Mo_init_207 : decode prog_10_method_1_code 207 = .ok (.bipush 64, 2) := by decide +kernel
theorem dc_Mo_init_209 : decode prog_10_method_1_code 209 = .ok (.newarray .int, 2) := by decide +kernel
theorem dc_Mo_init_211 : decode prog_10_method_1_code 211 = .ok (.putfield 87, 3) := by decide +kernel
theorem fp_Mo_87 : zk_Fp "ClosureMachineModel" 87 9 34 (yc_9 34) false := ⟨rc_9, tc_9, 48, rfl, by decide, zk_in 724 (by decide +kernel) (by decide +kernel), by decide +kernel, rfl, rfl⟩
theorem dc_Mo_init_214 : decode prog_10_method_1_code 214 = .ok (.aload_n 0, 1) := by decide +kernel
theorem dc_Mo_init_215 : decode prog_10_method_1_code 215 = .ok (.bipush 64, 2) := by decide +kernel
theorem dc_Mo_init_217 : decode prog_10_method_1_code 217 = .ok (.newarray .int, 2) := by decide +kernel
theorem dc_Mo_init_219 : decode prog_10_method_1_code 219 = .ok (.putfield 90, 3) := by decide +kernel
theorem fp_Mo_90 : zk_Fp "ClosureMachineModel" 90 9 35 (yc_9 35) false := ⟨rc_9, tc_9, 48, rfl, by decide, zk_in 725 (by decide +kernel) (by decide +kernel), by decide +kernel, rfl, rfl⟩
theorem dc_Mo_init_222 : decode prog_10_method_1_code 222 = .ok (.aload_n 0, 1) := by decide +kernel
theorem dc_Mo_init_223 : decode prog_10_method_1_code 223 = .ok (.bipush 64, 2) := by decide +kernel
theorem dc_Mo_init_225 : decode prog_10_method_1_code 225 = .ok (.newarray .int, 2) := by decide +kernel
theorem dc_Mo_init_227 : decode prog_10_method_1_code 227 = .ok (.putfield 93, 3) := by decide +kernel
theorem fp_Mo_93 : zk_Fp "ClosureMachineModel" 93 9 36 (yc_9 36) false := ⟨rc_9, tc_9, 48, rfl, by decide, zk_in 726 (by decide +kernel) (by decide +kernel), by decide +kernel, rfl, rfl⟩
theorem dc_Mo_init_230 : decode prog_10_method_1_code 230 = .ok (.aload_n 0, 1) := by decide +kernel
theorem dc_Mo_init_231 : decode prog_10_method_1_code 231 = .ok (.bipush 64, 2) := by decide +kernel
theorem dc_Mo_init_233 : decode prog_10_method_1_code 233 = .ok (.newarray .int, 2) := by decide +kernel
theorem dc_Mo_init_235 : decode prog_10_method_1_code 235 = .ok (.putfield 96, 3) := by decide +kernel
theorem fp_Mo_96 : zk_Fp "ClosureMachineModel" 96 9 37 (yc_9 37) false := ⟨rc_9, tc_9, 48, rfl, by decide, zk_in 727 (by decide +kernel) (by decide +kernel), by decide +kernel, rfl, rfl⟩
theorem dc_Mo_init_238 : decode prog_10_method_1_code 238 = .ok (.aload_n 0, 1) := by decide +kernel
theorem dc_Mo_init_239 : decode prog_10_method_1_code 239 = .ok (.bipush 64, 2) := by decide +kernel
theorem dc_Mo_init_241 : decode prog_10_method_1_code 241 = .ok (.newarray .int, 2) := by decide +kernel
theorem dc_Mo_init_243 : decode prog_10_method_1_code 243 = .ok (.putfield 99, 3) := by decide +kernel
theorem fp_Mo_99 : zk_Fp "ClosureMachineModel" 99 9 39 (yc_9 39) false := ⟨rc_9, tc_9, 48, rfl, by decide, zk_in 729 (by decide +kernel) (by decide +kernel), by decide +kernel, rfl, rfl⟩
theorem dc_Mo_init_246 : decode prog_10_method_1_code 246 = .ok (.aload_n 0, 1) := by decide +kernel
theorem dc_Mo_init_247 : decode prog_10_method_1_code 247 = .ok (.bipush 64, 2) := by decide +kernel
theorem dc_Mo_init_249 : decode prog_10_method_1_code 249 = .ok (.newarray .int, 2) := by decide +kernel
theorem dc_Mo_init_251 : decode prog_10_method_1_code 251 = .ok (.putfield 102, 3) := by decide +kernel
theorem fp_Mo_102 : zk_Fp "ClosureMachineModel" 102 9 41 (yc_9 41) false := ⟨rc_9, tc_9, 48, rfl, by decide, zk_in 731 (by decide +kernel) (by decide +kernel), by decide +kernel, rfl, rfl⟩
theorem dc_Mo_init_254 : decode prog_10_method_1_code 254 = .ok (.iconst 0, 1) := by decide +kernel
theorem dc_Mo_init_255 : decode prog_10_method_1_code 255 = .ok (.istore_n 1, 1) := by decide +kernel
end
section
set_option maxHeartbeats 4000000 in
set_option maxRecDepth 100000 in
theorem ct_MRows {Z : zk_Z} {n s : Nat} {f : Nat → Option zk_E} {a : Nat} (ha : f a = some (.inr (.inr (8, [.null, .null, .null, .null, .int 0])))) (hlt : a < n) : zk_Kv Z mm_MoRows_init [.ref a] (n, s, f) (fun M' => ∃ g : Nat → Option zk_E, M' = (n + 4, s + 16384, g) ∧ g a = some (.inr (.inr (8, [.ref n, .ref (n + 1), .ref (n + 2), .ref (n + 3), .int 0]))) ∧ g (n + 0) = some (.inl (4096, fun _ => 0)) ∧ g (n + 1) = some (.inl (4096, fun _ => 0)) ∧ g (n + 2) = some (.inl (4096, fun _ => 0)) ∧ g (n + 3) = some (.inl (4096, fun _ => 0)) ∧ ∀ b, b < n → b ≠ a → g b = f b) := by
  refine zk_enterB (by decide) (Nat.le_of_ble_eq_true rfl) rfl ?_
  show zk_P Z mm_MoRows_init 0 [some (.ref a)] [] (n, s, f) _
  refine zk_aload_0 1 dc_MoRows_init_0 rfl rfl ?_
  refine zk_objInit 4 dc_MoRows_init_1 (zk_in 660 (by decide +kernel) (by decide +kernel)) (zk_in 20 (by decide +kernel) (by decide +kernel)) (zk_in 21 rfl rfl) (Nat.le_of_ble_eq_true rfl) (Nat.le_of_ble_eq_true rfl) rfl ?_
  refine zk_aload_0 5 dc_MoRows_init_4 rfl rfl ?_
  refine zk_sipush (v := 4096) 8 dc_MoRows_init_5 (by decide) rfl ?_
  refine zk_newiK (N := 4096) 10 dc_MoRows_init_8 (zk_in 45 (by decide +kernel) (by decide +kernel)) (by decide) (by decide) (by decide) rfl (fun f1 h0 o1 => ?_)
  have ha := (o1 (a) (by omega) ).trans ha
  refine zk_put 13 dc_MoRows_init_10 fp_MoRows_9 ha rfl rfl (Nat.le_of_ble_eq_true rfl) rfl (fun f2 ha o2 => ?_)
  have h0 := (o2 (n + 0) (by omega) ).trans h0
  refine zk_aload_0 14 dc_MoRows_init_13 rfl rfl ?_
  refine zk_sipush (v := 4096) 17 dc_MoRows_init_14 (by decide) rfl ?_
  refine zk_newiK (N := 4096) 19 dc_MoRows_init_17 (zk_in 45 (by decide +kernel) (by decide +kernel)) (by decide) (by decide) (by decide) rfl (fun f3 h1 o3 => ?_)
  have h0 := (o3 (n + 0) (by omega) ).trans h0
  have ha := (o3 (a) (by omega) ).trans ha
  refine zk_put 22 dc_MoRows_init_19 fp_MoRows_15 ha rfl rfl (Nat.le_of_ble_eq_true rfl) rfl (fun f4 ha o4 => ?_)
  have h0 := (o4 (n + 0) (by omega) ).trans h0
  have h1 := (o4 (n + 1) (by omega) ).trans h1
  refine zk_aload_0 23 dc_MoRows_init_22 rfl rfl ?_
  refine zk_sipush (v := 4096) 26 dc_MoRows_init_23 (by decide) rfl ?_
  refine zk_newiK (N := 4096) 28 dc_MoRows_init_26 (zk_in 45 (by decide +kernel) (by decide +kernel)) (by decide) (by decide) (by decide) rfl (fun f5 h2 o5 => ?_)
  have h0 := (o5 (n + 0) (by omega) ).trans h0
  have h1 := (o5 (n + 1) (by omega) ).trans h1
  have ha := (o5 (a) (by omega) ).trans ha
  refine zk_put 31 dc_MoRows_init_28 fp_MoRows_18 ha rfl rfl (Nat.le_of_ble_eq_true rfl) rfl (fun f6 ha o6 => ?_)
  have h0 := (o6 (n + 0) (by omega) ).trans h0
  have h1 := (o6 (n + 1) (by omega) ).trans h1
  have h2 := (o6 (n + 2) (by omega) ).trans h2
  refine zk_aload_0 32 dc_MoRows_init_31 rfl rfl ?_
  refine zk_sipush (v := 4096) 35 dc_MoRows_init_32 (by decide) rfl ?_
  refine zk_newiK (N := 4096) 37 dc_MoRows_init_35 (zk_in 45 (by decide +kernel) (by decide +kernel)) (by decide) (by decide) (by decide) rfl (fun f7 h3 o7 => ?_)
  have h0 := (o7 (n + 0) (by omega) ).trans h0
  have h1 := (o7 (n + 1) (by omega) ).trans h1
  have h2 := (o7 (n + 2) (by omega) ).trans h2
  have ha := (o7 (a) (by omega) ).trans ha
  refine zk_put 40 dc_MoRows_init_37 fp_MoRows_21 ha rfl rfl (Nat.le_of_ble_eq_true rfl) rfl (fun f8 ha o8 => ?_)
  have h0 := (o8 (n + 0) (by omega) ).trans h0
  have h1 := (o8 (n + 1) (by omega) ).trans h1
  have h2 := (o8 (n + 2) (by omega) ).trans h2
  have h3 := (o8 (n + 3) (by omega) ).trans h3
  exact zk_return dc_MoRows_init_40 rfl ⟨rfl, _, rfl, ha, h0, h1, h2, h3, fun b q1 q2 => by rw [o8 b (by omega), o7 b (by omega), o6 b (by omega), o5 b (by omega), o4 b (by omega), o3 b (by omega), o2 b (by omega), o1 b (by omega)]⟩
set_option maxHeartbeats 4000000 in
set_option maxRecDepth 100000 in
theorem ct_Radd {Z : zk_Z} {n s : Nat} {f : Nat → Option zk_E} {a c : Nat} {x y z : Int32} {gk gv gs gl : Nat → Int32} (ha : f a = some (.inr (.inr (8, [.ref (a + 1), .ref (a + 2), .ref (a + 3), .ref (a + 4), .int (nI c)])))) (hk : f (a + 1) = some (.inl (4096, gk))) (hv : f (a + 2) = some (.inl (4096, gv))) (hs : f (a + 3) = some (.inl (4096, gs))) (hl : f (a + 4) = some (.inl (4096, gl))) (hc : c < 4096) : zk_Kr Z mm_MoRows_add [.ref a, .int x, .int y, .int z] (n, s, f) (fun v M' => ∃ (g : Nat → Option zk_E) (gk gv gs gl : Nat → Int32), v = .int (nI c) ∧ M' = (n, s, g) ∧ g a = some (.inr (.inr (8, [.ref (a + 1), .ref (a + 2), .ref (a + 3), .ref (a + 4), .int (nI (c + 1))]))) ∧ g (a + 1) = some (.inl (4096, gk)) ∧ g (a + 2) = some (.inl (4096, gv)) ∧ g (a + 3) = some (.inl (4096, gs)) ∧ g (a + 4) = some (.inl (4096, gl)) ∧ ∀ b, (b < a ∨ a + 4 < b) → g b = f b) := by
  refine zk_enterB (by decide) (Nat.le_of_ble_eq_true rfl) rfl ?_
  show zk_P Z mm_MoRows_add 0 [some (.ref a), some (.int x), some (.int y), some (.int z)] [] (n, s, f) _
  refine zk_aload_0 1 dc_MoRows_add_0 rfl rfl ?_
  refine zk_getfield 4 dc_MoRows_add_1 fg_MoRows_30 ha rfl rfl ?_
  refine zk_aload_0 5 dc_MoRows_add_4 rfl rfl ?_
  refine zk_getfield 8 dc_MoRows_add_5 fg_MoRows_9 ha rfl rfl ?_
  refine zk_alen 9 dc_MoRows_add_8 rfl hk rfl ?_
  refine zk_icmp_ne 56 12 dc_MoRows_add_9 (by decide) rfl (fun hx => ?_) (fun hx => by first | exact absurd hx (show ¬ nI c = nI 4096 from fun q => by have := (nI_eq (by omega) (by omega)).mp q; omega) | exact absurd (show ¬ nI c = nI 4096 from fun q => by have := (nI_eq (by omega) (by omega)).mp q; omega) hx)
  refine zk_aload_0 57 dc_MoRows_add_56 rfl rfl ?_
  refine zk_getfield 60 dc_MoRows_add_57 fg_MoRows_9 ha rfl rfl ?_
  refine zk_aload_0 61 dc_MoRows_add_60 rfl rfl ?_
  refine zk_getfield 64 dc_MoRows_add_61 fg_MoRows_30 ha rfl rfl ?_
  refine zk_iload_1 65 dc_MoRows_add_64 rfl rfl ?_
  refine zk_iastoreK 66 dc_MoRows_add_65 hk (vp_in_nI hc (by decide)) rfl (fun f1 hk o1 => ?_)
  have ha := (o1 (a) (by omega) ).trans ha
  have hv := (o1 (a + 2) (by omega) ).trans hv
  have hs := (o1 (a + 3) (by omega) ).trans hs
  have hl := (o1 (a + 4) (by omega) ).trans hl
  refine zk_aload_0 67 dc_MoRows_add_66 rfl rfl ?_
  refine zk_getfield 70 dc_MoRows_add_67 fg_MoRows_15 ha rfl rfl ?_
  refine zk_aload_0 71 dc_MoRows_add_70 rfl rfl ?_
  refine zk_getfield 74 dc_MoRows_add_71 fg_MoRows_30 ha rfl rfl ?_
  refine zk_iload_2 75 dc_MoRows_add_74 rfl rfl ?_
  refine zk_iastoreK 76 dc_MoRows_add_75 hv (vp_in_nI hc (by decide)) rfl (fun f2 hv o2 => ?_)
  have ha := (o2 (a) (by omega) ).trans ha
  have hs := (o2 (a + 3) (by omega) ).trans hs
  have hl := (o2 (a + 4) (by omega) ).trans hl
  have hk := (o2 (a + 1) (by omega) ).trans hk
  refine zk_aload_0 77 dc_MoRows_add_76 rfl rfl ?_
  refine zk_getfield 80 dc_MoRows_add_77 fg_MoRows_18 ha rfl rfl ?_
  refine zk_aload_0 81 dc_MoRows_add_80 rfl rfl ?_
  refine zk_getfield 84 dc_MoRows_add_81 fg_MoRows_30 ha rfl rfl ?_
  refine zk_iload_3 85 dc_MoRows_add_84 rfl rfl ?_
  refine zk_iastoreK 86 dc_MoRows_add_85 hs (vp_in_nI hc (by decide)) rfl (fun f3 hs o3 => ?_)
  have ha := (o3 (a) (by omega) ).trans ha
  have hl := (o3 (a + 4) (by omega) ).trans hl
  have hk := (o3 (a + 1) (by omega) ).trans hk
  have hv := (o3 (a + 2) (by omega) ).trans hv
  refine zk_aload_0 87 dc_MoRows_add_86 rfl rfl ?_
  refine zk_getfield 90 dc_MoRows_add_87 fg_MoRows_21 ha rfl rfl ?_
  refine zk_aload_0 91 dc_MoRows_add_90 rfl rfl ?_
  refine zk_getfield 94 dc_MoRows_add_91 fg_MoRows_30 ha rfl rfl ?_
  refine zk_iconst (v := 1) 95 dc_MoRows_add_94 (by decide) rfl ?_
  refine zk_iastoreK 96 dc_MoRows_add_95 hl (vp_in_nI hc (by decide)) rfl (fun f4 hl o4 => ?_)
  have ha := (o4 (a) (by omega) ).trans ha
  have hk := (o4 (a + 1) (by omega) ).trans hk
  have hv := (o4 (a + 2) (by omega) ).trans hv
  have hs := (o4 (a + 3) (by omega) ).trans hs
  refine zk_aload_0 97 dc_MoRows_add_96 rfl rfl ?_
  refine zk_dup 98 dc_MoRows_add_97 rfl rfl ?_
  refine zk_getfield 101 dc_MoRows_add_98 fg_MoRows_30 ha rfl rfl ?_
  refine zk_dup_x1 102 dc_MoRows_add_101 rfl rfl rfl ?_
  refine zk_iconst (v := 1) 103 dc_MoRows_add_102 (by decide) rfl ?_
  refine zk_iadd 104 dc_MoRows_add_103 rfl ?_
  refine zk_put 107 dc_MoRows_add_104 fp_MoRows_30 ha rfl rfl (Nat.le_of_ble_eq_true rfl) rfl (fun f5 ha o5 => ?_)
  have hk := (o5 (a + 1) (by omega) ).trans hk
  have hv := (o5 (a + 2) (by omega) ).trans hv
  have hs := (o5 (a + 3) (by omega) ).trans hs
  have hl := (o5 (a + 4) (by omega) ).trans hl
  rw [nI_1] at ha
  exact zk_ireturn dc_MoRows_add_107 rfl (by first | rfl | decide) ⟨_, rfl, _, _, _, _, _, rfl, rfl, ha, hk, hv, hs, hl, fun b q1 => by rw [o5 b (by omega), o4 b (by omega), o3 b (by omega), o2 b (by omega), o1 b (by omega)]⟩
set_option maxHeartbeats 4000000 in
set_option maxRecDepth 100000 in
theorem ct_Mo_loop {Z : zk_Z} {n s a r : Nat} {fs : List Value} {R : Option Value → zk_M → Prop} (hfs : fs[0]? = some (.ref r)) (hlt : a < r) : ∀ (m i : Nat) (f : Nat → Option zk_E) (gk gv gs gl : Nat → Int32), i + m = 2201 → f a = some (.inr (.inr (9, fs))) → f r = some (.inr (.inr (8, [.ref (r + 1), .ref (r + 2), .ref (r + 3), .ref (r + 4), .int (nI i)]))) → f (r + 1) = some (.inl (4096, gk)) → f (r + 2) = some (.inl (4096, gv)) → f (r + 3) = some (.inl (4096, gs)) → f (r + 4) = some (.inl (4096, gl)) → (∀ (g : Nat → Option zk_E) (gk gv gs gl : Nat → Int32), (∀ b, (b < r ∨ r + 4 < b) → g b = f b) → g r = some (.inr (.inr (8, [.ref (r + 1), .ref (r + 2), .ref (r + 3), .ref (r + 4), .int (nI 2201)]))) → g (r + 1) = some (.inl (4096, gk)) → g (r + 2) = some (.inl (4096, gv)) → g (r + 3) = some (.inl (4096, gs)) → g (r + 4) = some (.inl (4096, gl)) → R none (n, s, g)) → zk_P Z mm_Mo_init 256 [some (.ref a), some (.int (nI i))] [] (n, s, f) R := by
  intro m
  induction m with
  | zero =>
    intro i f gk gv gs gl hi ha hr hk hv hs hl hR
    have hi : i = 2201 := by omega
    subst hi
    refine zk_iload_1 257 dc_Mo_init_256 rfl rfl ?_
    refine zk_sipush (v := 2200) 260 dc_Mo_init_257 (by decide) rfl ?_
    refine zk_icmp_gt 280 263 dc_Mo_init_260 (by decide) rfl (fun hx => ?_) (fun hx => by first | exact absurd hx (show nI 2200 < nI 2201 from nI_lt (by decide) (by decide)) | exact absurd (show nI 2200 < nI 2201 from nI_lt (by decide) (by decide)) hx)
    exact zk_return dc_Mo_init_280 rfl (hR f gk gv gs gl (fun _ _ => rfl) hr hk hv hs hl)
  | succ m ih =>
    intro i f gk gv gs gl hi ha hr hk hv hs hl hR
    refine zk_iload_1 257 dc_Mo_init_256 rfl rfl ?_
    refine zk_sipush (v := 2200) 260 dc_Mo_init_257 (by decide) rfl ?_
    refine zk_icmp_gt 280 263 dc_Mo_init_260 (by decide) rfl (fun hx => by first | exact absurd hx (show ¬ nI 2200 < nI i from nI_nlt (by omega) (by decide)) | exact absurd (show ¬ nI 2200 < nI i from nI_nlt (by omega) (by decide)) hx) (fun hx => ?_)
    refine zk_aload_0 264 dc_Mo_init_263 rfl rfl ?_
    refine zk_getfield 267 dc_Mo_init_264 fg_Mo_10 ha hfs rfl ?_
    refine zk_iconst (v := 0) 268 dc_Mo_init_267 (by decide) rfl ?_
    refine zk_iload_1 269 dc_Mo_init_268 rfl rfl ?_
    refine zk_iconst (v := 0) 270 dc_Mo_init_269 (by decide) rfl ?_
    refine zk_cVr 273 (ct_Radd hr hk hv hs hl (by omega)) dc_Mo_init_270 ok_MoRows_add lk_Mo_105 hr rfl rfl rfl ⟨Nat.le_of_ble_eq_true rfl, Nat.le_of_ble_eq_true rfl⟩ (Nat.le_of_ble_eq_true rfl) rfl (fun v M1 hk => ?_)
    obtain ⟨g, gk, gv, gs, gl, rfl, rfl, hr, hk, hv, hs, hl, ho⟩ := hk
    have ha := (ho (a) (by omega) ).trans ha
    refine zk_pop 274 dc_Mo_init_273 rfl rfl ?_
    refine zk_iinc_1 (v := 1) 277 dc_Mo_init_274 (by decide) (Nat.le_of_ble_eq_true rfl) rfl ?_
    refine zk_goto 256 dc_Mo_init_277 (by decide) ?_
    rw [nI_1]
    exact ih (i + 1) g gk gv gs gl (by omega) ha hr hk hv hs hl (fun g2 a1 a2 a3 a4 o2 => hR g2 a1 a2 a3 a4 (fun b hb => (o2 b hb).trans (ho b hb)))
set_option maxHeartbeats 4000000 in
set_option maxRecDepth 100000 in
theorem ct_Mo {Z : zk_Z} {n s : Nat} {f : Nat → Option zk_E} {a : Nat} (ha : f a = some (.inr (.inr (9, [.null, .null, .null, .null, .int 0, .int 0, .null, .null, .null, .null, .null, .null, .null, .null, .int 0, .null, .null, .null, .null, .int 0, .int 0, .int 0, .int 0, .int 0, .int 0, .null, .null, .null, .null, .int 0, .null, .null, .null, .int 0, .null, .null, .null, .null, .int 0, .null, .int 0, .null, .int 0, .int 0, .int 0, .int 0, .int 0, .int 0])))) (hlt : a < n) : zk_Kv Z mm_Mo_init [.ref a] (n, s, f) (fun M' => ∃ (g : Nat → Option zk_E) (gk gv gs gl : Nat → Int32), M' = (n + 33, s + 28301, g) ∧ g a = some (.inr (.inr (9, [.ref n, .ref (n + 5), .ref (n + 6), .ref (n + 7), .int 0, .int 0, .ref (n + 8), .ref (n + 9), .ref (n + 10), .ref (n + 11), .ref (n + 12), .ref (n + 13), .ref (n + 14), .ref (n + 15), .int 0, .ref (n + 16), .ref (n + 17), .ref (n + 18), .ref (n + 19), .int 0, .int 0, .int 0, .int 0, .int 0, .int (-1), .ref (n + 20), .ref (n + 21), .ref (n + 22), .ref (n + 23), .int 0, .ref (n + 24), .ref (n + 25), .ref (n + 26), .int 0, .ref (n + 27), .ref (n + 28), .ref (n + 29), .ref (n + 30), .int 0, .ref (n + 31), .int 0, .ref (n + 32), .int 0, .int 0, .int 0, .int 0, .int 0, .int 0]))) ∧ g n = some (.inr (.inr (8, [.ref (n + 1), .ref (n + 2), .ref (n + 3), .ref (n + 4), .int (nI 2201)]))) ∧ g (n + 1) = some (.inl (4096, gk)) ∧ g (n + 2) = some (.inl (4096, gv)) ∧ g (n + 3) = some (.inl (4096, gs)) ∧ g (n + 4) = some (.inl (4096, gl)) ∧ g (n + 5) = some (.inl (3000, fun _ => 0)) ∧ g (n + 6) = some (.inl (3000, fun _ => 0)) ∧ g (n + 7) = some (.inl (3000, fun _ => 0)) ∧ g (n + 8) = some (.inl (60, fun _ => 0)) ∧ g (n + 10) = some (.inl (60, fun _ => 0)) ∧ g (n + 12) = some (.inl (60, fun _ => 0)) ∧ g (n + 13) = some (.inl (60, fun _ => 0)) ∧ g (n + 14) = some (.inl (60, fun _ => 0)) ∧ g (n + 15) = some (.inl (60, fun _ => 0)) ∧ ∀ b, b < n → b ≠ a → g b = f b) := by
  refine zk_enterB (by decide) (Nat.le_of_ble_eq_true rfl) rfl ?_
  show zk_P Z mm_Mo_init 0 [some (.ref a), none] [] (n, s, f) _
  refine zk_aload_0 1 dc_Mo_init_0 rfl rfl ?_
  refine zk_objInit 4 dc_Mo_init_1 (zk_in 654 (by decide +kernel) (by decide +kernel)) (zk_in 20 (by decide +kernel) (by decide +kernel)) (zk_in 21 rfl rfl) (Nat.le_of_ble_eq_true rfl) (Nat.le_of_ble_eq_true rfl) rfl ?_
  refine zk_aload_0 5 dc_Mo_init_4 rfl rfl ?_
  refine zk_newK 8 dc_Mo_init_5 nw_Mo_7 rfl (fun f1 hr o1 => ?_)
  have ha := (o1 (a) (by omega) ).trans ha
  refine zk_dup 9 dc_Mo_init_8 rfl rfl ?_
  refine zk_cINv 12 (ct_MRows hr (by omega)) dc_Mo_init_9 ok_MoRows_init lk_Mo_9 rfl rfl ⟨Nat.le_of_ble_eq_true rfl, Nat.le_of_ble_eq_true rfl⟩ (Nat.le_of_ble_eq_true rfl) rfl (fun M1 hk => ?_)
  obtain ⟨g0, rfl, hr, hk, hv, hs, hl, p0⟩ := hk
  have ha := (p0 (a) (by omega) (by omega) ).trans ha
  refine zk_putF 15 dc_Mo_init_12 fp_Mo_10 (fun C T N h => by cases h; rfl) rfl ha rfl rfl (Nat.le_of_ble_eq_true rfl) rfl (fun f2 ha o2 => ?_)
  have ha : f2 (a) = some (.inr (.inr (9, [.ref n, .null, .null, .null, .int 0, .int 0, .null, .null, .null, .null, .null, .null, .null, .null, .int 0, .null, .null, .null, .null, .int 0, .int 0, .int 0, .int 0, .int 0, .int 0, .null, .null, .null, .null, .int 0, .null, .null, .null, .int 0, .null, .null, .null, .null, .int 0, .null, .int 0, .null, .int 0, .int 0, .int 0, .int 0, .int 0, .int 0]))) := ha
  have hr := (o2 (n) (by omega) ).trans hr
  have hk := (o2 (n + 1) (by omega) ).trans hk
  have hv := (o2 (n + 2) (by omega) ).trans hv
  have hs := (o2 (n + 3) (by omega) ).trans hs
  have hl := (o2 (n + 4) (by omega) ).trans hl
  refine zk_aload_0 16 dc_Mo_init_15 rfl rfl ?_
  refine zk_sipush (v := 3000) 19 dc_Mo_init_16 (by decide) rfl ?_
  refine zk_newiK (N := 3000) 21 dc_Mo_init_19 (zk_in 45 (by decide +kernel) (by decide +kernel)) (by decide) (by decide) (by decide) rfl (fun f3 c5 o3 => ?_)
  have hr := (o3 (n) (by omega) ).trans hr
  have hk := (o3 (n + 1) (by omega) ).trans hk
  have hv := (o3 (n + 2) (by omega) ).trans hv
  have hs := (o3 (n + 3) (by omega) ).trans hs
  have hl := (o3 (n + 4) (by omega) ).trans hl
  have ha := (o3 (a) (by omega) ).trans ha
  refine zk_putF 24 dc_Mo_init_21 fp_Mo_16 (fun C T N h => by cases h; rfl) rfl ha rfl rfl (Nat.le_of_ble_eq_true rfl) rfl (fun f4 ha o4 => ?_)
  have ha : f4 (a) = some (.inr (.inr (9, [.ref n, .ref (n + 5), .null, .null, .int 0, .int 0, .null, .null, .null, .null, .null, .null, .null, .null, .int 0, .null, .null, .null, .null, .int 0, .int 0, .int 0, .int 0, .int 0, .int 0, .null, .null, .null, .null, .int 0, .null, .null, .null, .int 0, .null, .null, .null, .null, .int 0, .null, .int 0, .null, .int 0, .int 0, .int 0, .int 0, .int 0, .int 0]))) := ha
  have hr := (o4 (n) (by omega) ).trans hr
  have hk := (o4 (n + 1) (by omega) ).trans hk
  have hv := (o4 (n + 2) (by omega) ).trans hv
  have hs := (o4 (n + 3) (by omega) ).trans hs
  have hl := (o4 (n + 4) (by omega) ).trans hl
  have c5 := (o4 (n + 5) (by omega) ).trans c5
  refine zk_aload_0 25 dc_Mo_init_24 rfl rfl ?_
  refine zk_sipush (v := 3000) 28 dc_Mo_init_25 (by decide) rfl ?_
  refine zk_newiK (N := 3000) 30 dc_Mo_init_28 (zk_in 45 (by decide +kernel) (by decide +kernel)) (by decide) (by decide) (by decide) rfl (fun f5 c6 o5 => ?_)
  have hr := (o5 (n) (by omega) ).trans hr
  have hk := (o5 (n + 1) (by omega) ).trans hk
  have hv := (o5 (n + 2) (by omega) ).trans hv
  have hs := (o5 (n + 3) (by omega) ).trans hs
  have hl := (o5 (n + 4) (by omega) ).trans hl
  have c5 := (o5 (n + 5) (by omega) ).trans c5
  have ha := (o5 (a) (by omega) ).trans ha
  refine zk_putF 33 dc_Mo_init_30 fp_Mo_20 (fun C T N h => by cases h; rfl) rfl ha rfl rfl (Nat.le_of_ble_eq_true rfl) rfl (fun f6 ha o6 => ?_)
  have ha : f6 (a) = some (.inr (.inr (9, [.ref n, .ref (n + 5), .ref (n + 6), .null, .int 0, .int 0, .null, .null, .null, .null, .null, .null, .null, .null, .int 0, .null, .null, .null, .null, .int 0, .int 0, .int 0, .int 0, .int 0, .int 0, .null, .null, .null, .null, .int 0, .null, .null, .null, .int 0, .null, .null, .null, .null, .int 0, .null, .int 0, .null, .int 0, .int 0, .int 0, .int 0, .int 0, .int 0]))) := ha
  have hr := (o6 (n) (by omega) ).trans hr
  have hk := (o6 (n + 1) (by omega) ).trans hk
  have hv := (o6 (n + 2) (by omega) ).trans hv
  have hs := (o6 (n + 3) (by omega) ).trans hs
  have hl := (o6 (n + 4) (by omega) ).trans hl
  have c5 := (o6 (n + 5) (by omega) ).trans c5
  have c6 := (o6 (n + 6) (by omega) ).trans c6
  refine zk_aload_0 34 dc_Mo_init_33 rfl rfl ?_
  refine zk_sipush (v := 3000) 37 dc_Mo_init_34 (by decide) rfl ?_
  refine zk_newiK (N := 3000) 39 dc_Mo_init_37 (zk_in 45 (by decide +kernel) (by decide +kernel)) (by decide) (by decide) (by decide) rfl (fun f7 c7 o7 => ?_)
  have hr := (o7 (n) (by omega) ).trans hr
  have hk := (o7 (n + 1) (by omega) ).trans hk
  have hv := (o7 (n + 2) (by omega) ).trans hv
  have hs := (o7 (n + 3) (by omega) ).trans hs
  have hl := (o7 (n + 4) (by omega) ).trans hl
  have c5 := (o7 (n + 5) (by omega) ).trans c5
  have c6 := (o7 (n + 6) (by omega) ).trans c6
  have ha := (o7 (a) (by omega) ).trans ha
  refine zk_putF 42 dc_Mo_init_39 fp_Mo_23 (fun C T N h => by cases h; rfl) rfl ha rfl rfl (Nat.le_of_ble_eq_true rfl) rfl (fun f8 ha o8 => ?_)
  have ha : f8 (a) = some (.inr (.inr (9, [.ref n, .ref (n + 5), .ref (n + 6), .ref (n + 7), .int 0, .int 0, .null, .null, .null, .null, .null, .null, .null, .null, .int 0, .null, .null, .null, .null, .int 0, .int 0, .int 0, .int 0, .int 0, .int 0, .null, .null, .null, .null, .int 0, .null, .null, .null, .int 0, .null, .null, .null, .null, .int 0, .null, .int 0, .null, .int 0, .int 0, .int 0, .int 0, .int 0, .int 0]))) := ha
  have hr := (o8 (n) (by omega) ).trans hr
  have hk := (o8 (n + 1) (by omega) ).trans hk
  have hv := (o8 (n + 2) (by omega) ).trans hv
  have hs := (o8 (n + 3) (by omega) ).trans hs
  have hl := (o8 (n + 4) (by omega) ).trans hl
  have c5 := (o8 (n + 5) (by omega) ).trans c5
  have c6 := (o8 (n + 6) (by omega) ).trans c6
  have c7 := (o8 (n + 7) (by omega) ).trans c7
  refine zk_aload_0 43 dc_Mo_init_42 rfl rfl ?_
  refine zk_bipush (v := 60) 45 dc_Mo_init_43 (by decide) rfl ?_
  refine zk_newiK (N := 60) 47 dc_Mo_init_45 (zk_in 45 (by decide +kernel) (by decide +kernel)) (by decide) (by decide) (by decide) rfl (fun f9 c8 o9 => ?_)
  have hr := (o9 (n) (by omega) ).trans hr
  have hk := (o9 (n + 1) (by omega) ).trans hk
  have hv := (o9 (n + 2) (by omega) ).trans hv
  have hs := (o9 (n + 3) (by omega) ).trans hs
  have hl := (o9 (n + 4) (by omega) ).trans hl
  have c5 := (o9 (n + 5) (by omega) ).trans c5
  have c6 := (o9 (n + 6) (by omega) ).trans c6
  have c7 := (o9 (n + 7) (by omega) ).trans c7
  have ha := (o9 (a) (by omega) ).trans ha
  refine zk_putF 50 dc_Mo_init_47 fp_Mo_26 (fun C T N h => by cases h; rfl) rfl ha rfl rfl (Nat.le_of_ble_eq_true rfl) rfl (fun f10 ha o10 => ?_)
  have ha : f10 (a) = some (.inr (.inr (9, [.ref n, .ref (n + 5), .ref (n + 6), .ref (n + 7), .int 0, .int 0, .ref (n + 8), .null, .null, .null, .null, .null, .null, .null, .int 0, .null, .null, .null, .null, .int 0, .int 0, .int 0, .int 0, .int 0, .int 0, .null, .null, .null, .null, .int 0, .null, .null, .null, .int 0, .null, .null, .null, .null, .int 0, .null, .int 0, .null, .int 0, .int 0, .int 0, .int 0, .int 0, .int 0]))) := ha
  have hr := (o10 (n) (by omega) ).trans hr
  have hk := (o10 (n + 1) (by omega) ).trans hk
  have hv := (o10 (n + 2) (by omega) ).trans hv
  have hs := (o10 (n + 3) (by omega) ).trans hs
  have hl := (o10 (n + 4) (by omega) ).trans hl
  have c5 := (o10 (n + 5) (by omega) ).trans c5
  have c6 := (o10 (n + 6) (by omega) ).trans c6
  have c7 := (o10 (n + 7) (by omega) ).trans c7
  have c8 := (o10 (n + 8) (by omega) ).trans c8
  refine zk_aload_0 51 dc_Mo_init_50 rfl rfl ?_
  refine zk_bipush (v := 60) 53 dc_Mo_init_51 (by decide) rfl ?_
  refine zk_newiK (N := 60) 55 dc_Mo_init_53 (zk_in 45 (by decide +kernel) (by decide +kernel)) (by decide) (by decide) (by decide) rfl (fun f11 c9 o11 => ?_)
  have hr := (o11 (n) (by omega) ).trans hr
  have hk := (o11 (n + 1) (by omega) ).trans hk
  have hv := (o11 (n + 2) (by omega) ).trans hv
  have hs := (o11 (n + 3) (by omega) ).trans hs
  have hl := (o11 (n + 4) (by omega) ).trans hl
  have c5 := (o11 (n + 5) (by omega) ).trans c5
  have c6 := (o11 (n + 6) (by omega) ).trans c6
  have c7 := (o11 (n + 7) (by omega) ).trans c7
  have c8 := (o11 (n + 8) (by omega) ).trans c8
  have ha := (o11 (a) (by omega) ).trans ha
  refine zk_putF 58 dc_Mo_init_55 fp_Mo_29 (fun C T N h => by cases h; rfl) rfl ha rfl rfl (Nat.le_of_ble_eq_true rfl) rfl (fun f12 ha o12 => ?_)
  have ha : f12 (a) = some (.inr (.inr (9, [.ref n, .ref (n + 5), .ref (n + 6), .ref (n + 7), .int 0, .int 0, .ref (n + 8), .ref (n + 9), .null, .null, .null, .null, .null, .null, .int 0, .null, .null, .null, .null, .int 0, .int 0, .int 0, .int 0, .int 0, .int 0, .null, .null, .null, .null, .int 0, .null, .null, .null, .int 0, .null, .null, .null, .null, .int 0, .null, .int 0, .null, .int 0, .int 0, .int 0, .int 0, .int 0, .int 0]))) := ha
  have hr := (o12 (n) (by omega) ).trans hr
  have hk := (o12 (n + 1) (by omega) ).trans hk
  have hv := (o12 (n + 2) (by omega) ).trans hv
  have hs := (o12 (n + 3) (by omega) ).trans hs
  have hl := (o12 (n + 4) (by omega) ).trans hl
  have c5 := (o12 (n + 5) (by omega) ).trans c5
  have c6 := (o12 (n + 6) (by omega) ).trans c6
  have c7 := (o12 (n + 7) (by omega) ).trans c7
  have c8 := (o12 (n + 8) (by omega) ).trans c8
  refine zk_aload_0 59 dc_Mo_init_58 rfl rfl ?_
  refine zk_bipush (v := 60) 61 dc_Mo_init_59 (by decide) rfl ?_
  refine zk_newiK (N := 60) 63 dc_Mo_init_61 (zk_in 45 (by decide +kernel) (by decide +kernel)) (by decide) (by decide) (by decide) rfl (fun f13 c10 o13 => ?_)
  have hr := (o13 (n) (by omega) ).trans hr
  have hk := (o13 (n + 1) (by omega) ).trans hk
  have hv := (o13 (n + 2) (by omega) ).trans hv
  have hs := (o13 (n + 3) (by omega) ).trans hs
  have hl := (o13 (n + 4) (by omega) ).trans hl
  have c5 := (o13 (n + 5) (by omega) ).trans c5
  have c6 := (o13 (n + 6) (by omega) ).trans c6
  have c7 := (o13 (n + 7) (by omega) ).trans c7
  have c8 := (o13 (n + 8) (by omega) ).trans c8
  have ha := (o13 (a) (by omega) ).trans ha
  refine zk_putF 66 dc_Mo_init_63 fp_Mo_32 (fun C T N h => by cases h; rfl) rfl ha rfl rfl (Nat.le_of_ble_eq_true rfl) rfl (fun f14 ha o14 => ?_)
  have ha : f14 (a) = some (.inr (.inr (9, [.ref n, .ref (n + 5), .ref (n + 6), .ref (n + 7), .int 0, .int 0, .ref (n + 8), .ref (n + 9), .ref (n + 10), .null, .null, .null, .null, .null, .int 0, .null, .null, .null, .null, .int 0, .int 0, .int 0, .int 0, .int 0, .int 0, .null, .null, .null, .null, .int 0, .null, .null, .null, .int 0, .null, .null, .null, .null, .int 0, .null, .int 0, .null, .int 0, .int 0, .int 0, .int 0, .int 0, .int 0]))) := ha
  have hr := (o14 (n) (by omega) ).trans hr
  have hk := (o14 (n + 1) (by omega) ).trans hk
  have hv := (o14 (n + 2) (by omega) ).trans hv
  have hs := (o14 (n + 3) (by omega) ).trans hs
  have hl := (o14 (n + 4) (by omega) ).trans hl
  have c5 := (o14 (n + 5) (by omega) ).trans c5
  have c6 := (o14 (n + 6) (by omega) ).trans c6
  have c7 := (o14 (n + 7) (by omega) ).trans c7
  have c8 := (o14 (n + 8) (by omega) ).trans c8
  have c10 := (o14 (n + 10) (by omega) ).trans c10
  refine zk_aload_0 67 dc_Mo_init_66 rfl rfl ?_
  refine zk_bipush (v := 60) 69 dc_Mo_init_67 (by decide) rfl ?_
  refine zk_newiK (N := 60) 71 dc_Mo_init_69 (zk_in 45 (by decide +kernel) (by decide +kernel)) (by decide) (by decide) (by decide) rfl (fun f15 c11 o15 => ?_)
  have hr := (o15 (n) (by omega) ).trans hr
  have hk := (o15 (n + 1) (by omega) ).trans hk
  have hv := (o15 (n + 2) (by omega) ).trans hv
  have hs := (o15 (n + 3) (by omega) ).trans hs
  have hl := (o15 (n + 4) (by omega) ).trans hl
  have c5 := (o15 (n + 5) (by omega) ).trans c5
  have c6 := (o15 (n + 6) (by omega) ).trans c6
  have c7 := (o15 (n + 7) (by omega) ).trans c7
  have c8 := (o15 (n + 8) (by omega) ).trans c8
  have c10 := (o15 (n + 10) (by omega) ).trans c10
  have ha := (o15 (a) (by omega) ).trans ha
  refine zk_putF 74 dc_Mo_init_71 fp_Mo_35 (fun C T N h => by cases h; rfl) rfl ha rfl rfl (Nat.le_of_ble_eq_true rfl) rfl (fun f16 ha o16 => ?_)
  have ha : f16 (a) = some (.inr (.inr (9, [.ref n, .ref (n + 5), .ref (n + 6), .ref (n + 7), .int 0, .int 0, .ref (n + 8), .ref (n + 9), .ref (n + 10), .ref (n + 11), .null, .null, .null, .null, .int 0, .null, .null, .null, .null, .int 0, .int 0, .int 0, .int 0, .int 0, .int 0, .null, .null, .null, .null, .int 0, .null, .null, .null, .int 0, .null, .null, .null, .null, .int 0, .null, .int 0, .null, .int 0, .int 0, .int 0, .int 0, .int 0, .int 0]))) := ha
  have hr := (o16 (n) (by omega) ).trans hr
  have hk := (o16 (n + 1) (by omega) ).trans hk
  have hv := (o16 (n + 2) (by omega) ).trans hv
  have hs := (o16 (n + 3) (by omega) ).trans hs
  have hl := (o16 (n + 4) (by omega) ).trans hl
  have c5 := (o16 (n + 5) (by omega) ).trans c5
  have c6 := (o16 (n + 6) (by omega) ).trans c6
  have c7 := (o16 (n + 7) (by omega) ).trans c7
  have c8 := (o16 (n + 8) (by omega) ).trans c8
  have c10 := (o16 (n + 10) (by omega) ).trans c10
  refine zk_aload_0 75 dc_Mo_init_74 rfl rfl ?_
  refine zk_bipush (v := 60) 77 dc_Mo_init_75 (by decide) rfl ?_
  refine zk_newiK (N := 60) 79 dc_Mo_init_77 (zk_in 45 (by decide +kernel) (by decide +kernel)) (by decide) (by decide) (by decide) rfl (fun f17 c12 o17 => ?_)
  have hr := (o17 (n) (by omega) ).trans hr
  have hk := (o17 (n + 1) (by omega) ).trans hk
  have hv := (o17 (n + 2) (by omega) ).trans hv
  have hs := (o17 (n + 3) (by omega) ).trans hs
  have hl := (o17 (n + 4) (by omega) ).trans hl
  have c5 := (o17 (n + 5) (by omega) ).trans c5
  have c6 := (o17 (n + 6) (by omega) ).trans c6
  have c7 := (o17 (n + 7) (by omega) ).trans c7
  have c8 := (o17 (n + 8) (by omega) ).trans c8
  have c10 := (o17 (n + 10) (by omega) ).trans c10
  have ha := (o17 (a) (by omega) ).trans ha
  refine zk_putF 82 dc_Mo_init_79 fp_Mo_38 (fun C T N h => by cases h; rfl) rfl ha rfl rfl (Nat.le_of_ble_eq_true rfl) rfl (fun f18 ha o18 => ?_)
  have ha : f18 (a) = some (.inr (.inr (9, [.ref n, .ref (n + 5), .ref (n + 6), .ref (n + 7), .int 0, .int 0, .ref (n + 8), .ref (n + 9), .ref (n + 10), .ref (n + 11), .ref (n + 12), .null, .null, .null, .int 0, .null, .null, .null, .null, .int 0, .int 0, .int 0, .int 0, .int 0, .int 0, .null, .null, .null, .null, .int 0, .null, .null, .null, .int 0, .null, .null, .null, .null, .int 0, .null, .int 0, .null, .int 0, .int 0, .int 0, .int 0, .int 0, .int 0]))) := ha
  have hr := (o18 (n) (by omega) ).trans hr
  have hk := (o18 (n + 1) (by omega) ).trans hk
  have hv := (o18 (n + 2) (by omega) ).trans hv
  have hs := (o18 (n + 3) (by omega) ).trans hs
  have hl := (o18 (n + 4) (by omega) ).trans hl
  have c5 := (o18 (n + 5) (by omega) ).trans c5
  have c6 := (o18 (n + 6) (by omega) ).trans c6
  have c7 := (o18 (n + 7) (by omega) ).trans c7
  have c8 := (o18 (n + 8) (by omega) ).trans c8
  have c10 := (o18 (n + 10) (by omega) ).trans c10
  have c12 := (o18 (n + 12) (by omega) ).trans c12
  refine zk_aload_0 83 dc_Mo_init_82 rfl rfl ?_
  refine zk_bipush (v := 60) 85 dc_Mo_init_83 (by decide) rfl ?_
  refine zk_newiK (N := 60) 87 dc_Mo_init_85 (zk_in 45 (by decide +kernel) (by decide +kernel)) (by decide) (by decide) (by decide) rfl (fun f19 c13 o19 => ?_)
  have hr := (o19 (n) (by omega) ).trans hr
  have hk := (o19 (n + 1) (by omega) ).trans hk
  have hv := (o19 (n + 2) (by omega) ).trans hv
  have hs := (o19 (n + 3) (by omega) ).trans hs
  have hl := (o19 (n + 4) (by omega) ).trans hl
  have c5 := (o19 (n + 5) (by omega) ).trans c5
  have c6 := (o19 (n + 6) (by omega) ).trans c6
  have c7 := (o19 (n + 7) (by omega) ).trans c7
  have c8 := (o19 (n + 8) (by omega) ).trans c8
  have c10 := (o19 (n + 10) (by omega) ).trans c10
  have c12 := (o19 (n + 12) (by omega) ).trans c12
  have ha := (o19 (a) (by omega) ).trans ha
  refine zk_putF 90 dc_Mo_init_87 fp_Mo_41 (fun C T N h => by cases h; rfl) rfl ha rfl rfl (Nat.le_of_ble_eq_true rfl) rfl (fun f20 ha o20 => ?_)
  have ha : f20 (a) = some (.inr (.inr (9, [.ref n, .ref (n + 5), .ref (n + 6), .ref (n + 7), .int 0, .int 0, .ref (n + 8), .ref (n + 9), .ref (n + 10), .ref (n + 11), .ref (n + 12), .ref (n + 13), .null, .null, .int 0, .null, .null, .null, .null, .int 0, .int 0, .int 0, .int 0, .int 0, .int 0, .null, .null, .null, .null, .int 0, .null, .null, .null, .int 0, .null, .null, .null, .null, .int 0, .null, .int 0, .null, .int 0, .int 0, .int 0, .int 0, .int 0, .int 0]))) := ha
  have hr := (o20 (n) (by omega) ).trans hr
  have hk := (o20 (n + 1) (by omega) ).trans hk
  have hv := (o20 (n + 2) (by omega) ).trans hv
  have hs := (o20 (n + 3) (by omega) ).trans hs
  have hl := (o20 (n + 4) (by omega) ).trans hl
  have c5 := (o20 (n + 5) (by omega) ).trans c5
  have c6 := (o20 (n + 6) (by omega) ).trans c6
  have c7 := (o20 (n + 7) (by omega) ).trans c7
  have c8 := (o20 (n + 8) (by omega) ).trans c8
  have c10 := (o20 (n + 10) (by omega) ).trans c10
  have c12 := (o20 (n + 12) (by omega) ).trans c12
  have c13 := (o20 (n + 13) (by omega) ).trans c13
  refine zk_aload_0 91 dc_Mo_init_90 rfl rfl ?_
  refine zk_bipush (v := 60) 93 dc_Mo_init_91 (by decide) rfl ?_
  refine zk_newiK (N := 60) 95 dc_Mo_init_93 (zk_in 45 (by decide +kernel) (by decide +kernel)) (by decide) (by decide) (by decide) rfl (fun f21 c14 o21 => ?_)
  have hr := (o21 (n) (by omega) ).trans hr
  have hk := (o21 (n + 1) (by omega) ).trans hk
  have hv := (o21 (n + 2) (by omega) ).trans hv
  have hs := (o21 (n + 3) (by omega) ).trans hs
  have hl := (o21 (n + 4) (by omega) ).trans hl
  have c5 := (o21 (n + 5) (by omega) ).trans c5
  have c6 := (o21 (n + 6) (by omega) ).trans c6
  have c7 := (o21 (n + 7) (by omega) ).trans c7
  have c8 := (o21 (n + 8) (by omega) ).trans c8
  have c10 := (o21 (n + 10) (by omega) ).trans c10
  have c12 := (o21 (n + 12) (by omega) ).trans c12
  have c13 := (o21 (n + 13) (by omega) ).trans c13
  have ha := (o21 (a) (by omega) ).trans ha
  refine zk_putF 98 dc_Mo_init_95 fp_Mo_44 (fun C T N h => by cases h; rfl) rfl ha rfl rfl (Nat.le_of_ble_eq_true rfl) rfl (fun f22 ha o22 => ?_)
  have ha : f22 (a) = some (.inr (.inr (9, [.ref n, .ref (n + 5), .ref (n + 6), .ref (n + 7), .int 0, .int 0, .ref (n + 8), .ref (n + 9), .ref (n + 10), .ref (n + 11), .ref (n + 12), .ref (n + 13), .ref (n + 14), .null, .int 0, .null, .null, .null, .null, .int 0, .int 0, .int 0, .int 0, .int 0, .int 0, .null, .null, .null, .null, .int 0, .null, .null, .null, .int 0, .null, .null, .null, .null, .int 0, .null, .int 0, .null, .int 0, .int 0, .int 0, .int 0, .int 0, .int 0]))) := ha
  have hr := (o22 (n) (by omega) ).trans hr
  have hk := (o22 (n + 1) (by omega) ).trans hk
  have hv := (o22 (n + 2) (by omega) ).trans hv
  have hs := (o22 (n + 3) (by omega) ).trans hs
  have hl := (o22 (n + 4) (by omega) ).trans hl
  have c5 := (o22 (n + 5) (by omega) ).trans c5
  have c6 := (o22 (n + 6) (by omega) ).trans c6
  have c7 := (o22 (n + 7) (by omega) ).trans c7
  have c8 := (o22 (n + 8) (by omega) ).trans c8
  have c10 := (o22 (n + 10) (by omega) ).trans c10
  have c12 := (o22 (n + 12) (by omega) ).trans c12
  have c13 := (o22 (n + 13) (by omega) ).trans c13
  have c14 := (o22 (n + 14) (by omega) ).trans c14
  refine zk_aload_0 99 dc_Mo_init_98 rfl rfl ?_
  refine zk_bipush (v := 60) 101 dc_Mo_init_99 (by decide) rfl ?_
  refine zk_newiK (N := 60) 103 dc_Mo_init_101 (zk_in 45 (by decide +kernel) (by decide +kernel)) (by decide) (by decide) (by decide) rfl (fun f23 c15 o23 => ?_)
  have hr := (o23 (n) (by omega) ).trans hr
  have hk := (o23 (n + 1) (by omega) ).trans hk
  have hv := (o23 (n + 2) (by omega) ).trans hv
  have hs := (o23 (n + 3) (by omega) ).trans hs
  have hl := (o23 (n + 4) (by omega) ).trans hl
  have c5 := (o23 (n + 5) (by omega) ).trans c5
  have c6 := (o23 (n + 6) (by omega) ).trans c6
  have c7 := (o23 (n + 7) (by omega) ).trans c7
  have c8 := (o23 (n + 8) (by omega) ).trans c8
  have c10 := (o23 (n + 10) (by omega) ).trans c10
  have c12 := (o23 (n + 12) (by omega) ).trans c12
  have c13 := (o23 (n + 13) (by omega) ).trans c13
  have c14 := (o23 (n + 14) (by omega) ).trans c14
  have ha := (o23 (a) (by omega) ).trans ha
  refine zk_putF 106 dc_Mo_init_103 fp_Mo_47 (fun C T N h => by cases h; rfl) rfl ha rfl rfl (Nat.le_of_ble_eq_true rfl) rfl (fun f24 ha o24 => ?_)
  have ha : f24 (a) = some (.inr (.inr (9, [.ref n, .ref (n + 5), .ref (n + 6), .ref (n + 7), .int 0, .int 0, .ref (n + 8), .ref (n + 9), .ref (n + 10), .ref (n + 11), .ref (n + 12), .ref (n + 13), .ref (n + 14), .ref (n + 15), .int 0, .null, .null, .null, .null, .int 0, .int 0, .int 0, .int 0, .int 0, .int 0, .null, .null, .null, .null, .int 0, .null, .null, .null, .int 0, .null, .null, .null, .null, .int 0, .null, .int 0, .null, .int 0, .int 0, .int 0, .int 0, .int 0, .int 0]))) := ha
  have hr := (o24 (n) (by omega) ).trans hr
  have hk := (o24 (n + 1) (by omega) ).trans hk
  have hv := (o24 (n + 2) (by omega) ).trans hv
  have hs := (o24 (n + 3) (by omega) ).trans hs
  have hl := (o24 (n + 4) (by omega) ).trans hl
  have c5 := (o24 (n + 5) (by omega) ).trans c5
  have c6 := (o24 (n + 6) (by omega) ).trans c6
  have c7 := (o24 (n + 7) (by omega) ).trans c7
  have c8 := (o24 (n + 8) (by omega) ).trans c8
  have c10 := (o24 (n + 10) (by omega) ).trans c10
  have c12 := (o24 (n + 12) (by omega) ).trans c12
  have c13 := (o24 (n + 13) (by omega) ).trans c13
  have c14 := (o24 (n + 14) (by omega) ).trans c14
  have c15 := (o24 (n + 15) (by omega) ).trans c15
  refine zk_aload_0 107 dc_Mo_init_106 rfl rfl ?_
  refine zk_bipush (v := 64) 109 dc_Mo_init_107 (by decide) rfl ?_
  refine zk_newiK (N := 64) 111 dc_Mo_init_109 (zk_in 45 (by decide +kernel) (by decide +kernel)) (by decide) (by decide) (by decide) rfl (fun f25 c16 o25 => ?_)
  have hr := (o25 (n) (by omega) ).trans hr
  have hk := (o25 (n + 1) (by omega) ).trans hk
  have hv := (o25 (n + 2) (by omega) ).trans hv
  have hs := (o25 (n + 3) (by omega) ).trans hs
  have hl := (o25 (n + 4) (by omega) ).trans hl
  have c5 := (o25 (n + 5) (by omega) ).trans c5
  have c6 := (o25 (n + 6) (by omega) ).trans c6
  have c7 := (o25 (n + 7) (by omega) ).trans c7
  have c8 := (o25 (n + 8) (by omega) ).trans c8
  have c10 := (o25 (n + 10) (by omega) ).trans c10
  have c12 := (o25 (n + 12) (by omega) ).trans c12
  have c13 := (o25 (n + 13) (by omega) ).trans c13
  have c14 := (o25 (n + 14) (by omega) ).trans c14
  have c15 := (o25 (n + 15) (by omega) ).trans c15
  have ha := (o25 (a) (by omega) ).trans ha
  refine zk_put 114 dc_Mo_init_111 fp_Mo_50 ha rfl rfl (Nat.le_of_ble_eq_true rfl) rfl (fun f26 ha o26 => ?_)
  have ha : f26 (a) = some (.inr (.inr (9, [.ref n, .ref (n + 5), .ref (n + 6), .ref (n + 7), .int 0, .int 0, .ref (n + 8), .ref (n + 9), .ref (n + 10), .ref (n + 11), .ref (n + 12), .ref (n + 13), .ref (n + 14), .ref (n + 15), .int 0, .ref (n + 16), .null, .null, .null, .int 0, .int 0, .int 0, .int 0, .int 0, .int 0, .null, .null, .null, .null, .int 0, .null, .null, .null, .int 0, .null, .null, .null, .null, .int 0, .null, .int 0, .null, .int 0, .int 0, .int 0, .int 0, .int 0, .int 0]))) := ha
  have hr := (o26 (n) (by omega) ).trans hr
  have hk := (o26 (n + 1) (by omega) ).trans hk
  have hv := (o26 (n + 2) (by omega) ).trans hv
  have hs := (o26 (n + 3) (by omega) ).trans hs
  have hl := (o26 (n + 4) (by omega) ).trans hl
  have c5 := (o26 (n + 5) (by omega) ).trans c5
  have c6 := (o26 (n + 6) (by omega) ).trans c6
  have c7 := (o26 (n + 7) (by omega) ).trans c7
  have c8 := (o26 (n + 8) (by omega) ).trans c8
  have c10 := (o26 (n + 10) (by omega) ).trans c10
  have c12 := (o26 (n + 12) (by omega) ).trans c12
  have c13 := (o26 (n + 13) (by omega) ).trans c13
  have c14 := (o26 (n + 14) (by omega) ).trans c14
  have c15 := (o26 (n + 15) (by omega) ).trans c15
  refine zk_aload_0 115 dc_Mo_init_114 rfl rfl ?_
  refine zk_bipush (v := 64) 117 dc_Mo_init_115 (by decide) rfl ?_
  refine zk_newiK (N := 64) 119 dc_Mo_init_117 (zk_in 45 (by decide +kernel) (by decide +kernel)) (by decide) (by decide) (by decide) rfl (fun f27 c17 o27 => ?_)
  have hr := (o27 (n) (by omega) ).trans hr
  have hk := (o27 (n + 1) (by omega) ).trans hk
  have hv := (o27 (n + 2) (by omega) ).trans hv
  have hs := (o27 (n + 3) (by omega) ).trans hs
  have hl := (o27 (n + 4) (by omega) ).trans hl
  have c5 := (o27 (n + 5) (by omega) ).trans c5
  have c6 := (o27 (n + 6) (by omega) ).trans c6
  have c7 := (o27 (n + 7) (by omega) ).trans c7
  have c8 := (o27 (n + 8) (by omega) ).trans c8
  have c10 := (o27 (n + 10) (by omega) ).trans c10
  have c12 := (o27 (n + 12) (by omega) ).trans c12
  have c13 := (o27 (n + 13) (by omega) ).trans c13
  have c14 := (o27 (n + 14) (by omega) ).trans c14
  have c15 := (o27 (n + 15) (by omega) ).trans c15
  have ha := (o27 (a) (by omega) ).trans ha
  refine zk_put 122 dc_Mo_init_119 fp_Mo_53 ha rfl rfl (Nat.le_of_ble_eq_true rfl) rfl (fun f28 ha o28 => ?_)
  have ha : f28 (a) = some (.inr (.inr (9, [.ref n, .ref (n + 5), .ref (n + 6), .ref (n + 7), .int 0, .int 0, .ref (n + 8), .ref (n + 9), .ref (n + 10), .ref (n + 11), .ref (n + 12), .ref (n + 13), .ref (n + 14), .ref (n + 15), .int 0, .ref (n + 16), .ref (n + 17), .null, .null, .int 0, .int 0, .int 0, .int 0, .int 0, .int 0, .null, .null, .null, .null, .int 0, .null, .null, .null, .int 0, .null, .null, .null, .null, .int 0, .null, .int 0, .null, .int 0, .int 0, .int 0, .int 0, .int 0, .int 0]))) := ha
  have hr := (o28 (n) (by omega) ).trans hr
  have hk := (o28 (n + 1) (by omega) ).trans hk
  have hv := (o28 (n + 2) (by omega) ).trans hv
  have hs := (o28 (n + 3) (by omega) ).trans hs
  have hl := (o28 (n + 4) (by omega) ).trans hl
  have c5 := (o28 (n + 5) (by omega) ).trans c5
  have c6 := (o28 (n + 6) (by omega) ).trans c6
  have c7 := (o28 (n + 7) (by omega) ).trans c7
  have c8 := (o28 (n + 8) (by omega) ).trans c8
  have c10 := (o28 (n + 10) (by omega) ).trans c10
  have c12 := (o28 (n + 12) (by omega) ).trans c12
  have c13 := (o28 (n + 13) (by omega) ).trans c13
  have c14 := (o28 (n + 14) (by omega) ).trans c14
  have c15 := (o28 (n + 15) (by omega) ).trans c15
  refine zk_aload_0 123 dc_Mo_init_122 rfl rfl ?_
  refine zk_bipush (v := 64) 125 dc_Mo_init_123 (by decide) rfl ?_
  refine zk_newiK (N := 64) 127 dc_Mo_init_125 (zk_in 45 (by decide +kernel) (by decide +kernel)) (by decide) (by decide) (by decide) rfl (fun f29 c18 o29 => ?_)
  have hr := (o29 (n) (by omega) ).trans hr
  have hk := (o29 (n + 1) (by omega) ).trans hk
  have hv := (o29 (n + 2) (by omega) ).trans hv
  have hs := (o29 (n + 3) (by omega) ).trans hs
  have hl := (o29 (n + 4) (by omega) ).trans hl
  have c5 := (o29 (n + 5) (by omega) ).trans c5
  have c6 := (o29 (n + 6) (by omega) ).trans c6
  have c7 := (o29 (n + 7) (by omega) ).trans c7
  have c8 := (o29 (n + 8) (by omega) ).trans c8
  have c10 := (o29 (n + 10) (by omega) ).trans c10
  have c12 := (o29 (n + 12) (by omega) ).trans c12
  have c13 := (o29 (n + 13) (by omega) ).trans c13
  have c14 := (o29 (n + 14) (by omega) ).trans c14
  have c15 := (o29 (n + 15) (by omega) ).trans c15
  have ha := (o29 (a) (by omega) ).trans ha
  refine zk_put 130 dc_Mo_init_127 fp_Mo_56 ha rfl rfl (Nat.le_of_ble_eq_true rfl) rfl (fun f30 ha o30 => ?_)
  have ha : f30 (a) = some (.inr (.inr (9, [.ref n, .ref (n + 5), .ref (n + 6), .ref (n + 7), .int 0, .int 0, .ref (n + 8), .ref (n + 9), .ref (n + 10), .ref (n + 11), .ref (n + 12), .ref (n + 13), .ref (n + 14), .ref (n + 15), .int 0, .ref (n + 16), .ref (n + 17), .ref (n + 18), .null, .int 0, .int 0, .int 0, .int 0, .int 0, .int 0, .null, .null, .null, .null, .int 0, .null, .null, .null, .int 0, .null, .null, .null, .null, .int 0, .null, .int 0, .null, .int 0, .int 0, .int 0, .int 0, .int 0, .int 0]))) := ha
  have hr := (o30 (n) (by omega) ).trans hr
  have hk := (o30 (n + 1) (by omega) ).trans hk
  have hv := (o30 (n + 2) (by omega) ).trans hv
  have hs := (o30 (n + 3) (by omega) ).trans hs
  have hl := (o30 (n + 4) (by omega) ).trans hl
  have c5 := (o30 (n + 5) (by omega) ).trans c5
  have c6 := (o30 (n + 6) (by omega) ).trans c6
  have c7 := (o30 (n + 7) (by omega) ).trans c7
  have c8 := (o30 (n + 8) (by omega) ).trans c8
  have c10 := (o30 (n + 10) (by omega) ).trans c10
  have c12 := (o30 (n + 12) (by omega) ).trans c12
  have c13 := (o30 (n + 13) (by omega) ).trans c13
  have c14 := (o30 (n + 14) (by omega) ).trans c14
  have c15 := (o30 (n + 15) (by omega) ).trans c15
  refine zk_aload_0 131 dc_Mo_init_130 rfl rfl ?_
  refine zk_bipush (v := 64) 133 dc_Mo_init_131 (by decide) rfl ?_
  refine zk_newiK (N := 64) 135 dc_Mo_init_133 (zk_in 45 (by decide +kernel) (by decide +kernel)) (by decide) (by decide) (by decide) rfl (fun f31 c19 o31 => ?_)
  have hr := (o31 (n) (by omega) ).trans hr
  have hk := (o31 (n + 1) (by omega) ).trans hk
  have hv := (o31 (n + 2) (by omega) ).trans hv
  have hs := (o31 (n + 3) (by omega) ).trans hs
  have hl := (o31 (n + 4) (by omega) ).trans hl
  have c5 := (o31 (n + 5) (by omega) ).trans c5
  have c6 := (o31 (n + 6) (by omega) ).trans c6
  have c7 := (o31 (n + 7) (by omega) ).trans c7
  have c8 := (o31 (n + 8) (by omega) ).trans c8
  have c10 := (o31 (n + 10) (by omega) ).trans c10
  have c12 := (o31 (n + 12) (by omega) ).trans c12
  have c13 := (o31 (n + 13) (by omega) ).trans c13
  have c14 := (o31 (n + 14) (by omega) ).trans c14
  have c15 := (o31 (n + 15) (by omega) ).trans c15
  have ha := (o31 (a) (by omega) ).trans ha
  refine zk_put 138 dc_Mo_init_135 fp_Mo_59 ha rfl rfl (Nat.le_of_ble_eq_true rfl) rfl (fun f32 ha o32 => ?_)
  have ha : f32 (a) = some (.inr (.inr (9, [.ref n, .ref (n + 5), .ref (n + 6), .ref (n + 7), .int 0, .int 0, .ref (n + 8), .ref (n + 9), .ref (n + 10), .ref (n + 11), .ref (n + 12), .ref (n + 13), .ref (n + 14), .ref (n + 15), .int 0, .ref (n + 16), .ref (n + 17), .ref (n + 18), .ref (n + 19), .int 0, .int 0, .int 0, .int 0, .int 0, .int 0, .null, .null, .null, .null, .int 0, .null, .null, .null, .int 0, .null, .null, .null, .null, .int 0, .null, .int 0, .null, .int 0, .int 0, .int 0, .int 0, .int 0, .int 0]))) := ha
  have hr := (o32 (n) (by omega) ).trans hr
  have hk := (o32 (n + 1) (by omega) ).trans hk
  have hv := (o32 (n + 2) (by omega) ).trans hv
  have hs := (o32 (n + 3) (by omega) ).trans hs
  have hl := (o32 (n + 4) (by omega) ).trans hl
  have c5 := (o32 (n + 5) (by omega) ).trans c5
  have c6 := (o32 (n + 6) (by omega) ).trans c6
  have c7 := (o32 (n + 7) (by omega) ).trans c7
  have c8 := (o32 (n + 8) (by omega) ).trans c8
  have c10 := (o32 (n + 10) (by omega) ).trans c10
  have c12 := (o32 (n + 12) (by omega) ).trans c12
  have c13 := (o32 (n + 13) (by omega) ).trans c13
  have c14 := (o32 (n + 14) (by omega) ).trans c14
  have c15 := (o32 (n + 15) (by omega) ).trans c15
  refine zk_aload_0 139 dc_Mo_init_138 rfl rfl ?_
  refine zk_iconst (v := -1) 140 dc_Mo_init_139 (by decide) rfl ?_
  refine zk_put 143 dc_Mo_init_140 fp_Mo_62 ha rfl rfl (Nat.le_of_ble_eq_true rfl) rfl (fun f33 ha o33 => ?_)
  have ha : f33 (a) = some (.inr (.inr (9, [.ref n, .ref (n + 5), .ref (n + 6), .ref (n + 7), .int 0, .int 0, .ref (n + 8), .ref (n + 9), .ref (n + 10), .ref (n + 11), .ref (n + 12), .ref (n + 13), .ref (n + 14), .ref (n + 15), .int 0, .ref (n + 16), .ref (n + 17), .ref (n + 18), .ref (n + 19), .int 0, .int 0, .int 0, .int 0, .int 0, .int (-1), .null, .null, .null, .null, .int 0, .null, .null, .null, .int 0, .null, .null, .null, .null, .int 0, .null, .int 0, .null, .int 0, .int 0, .int 0, .int 0, .int 0, .int 0]))) := ha
  have hr := (o33 (n) (by omega) ).trans hr
  have hk := (o33 (n + 1) (by omega) ).trans hk
  have hv := (o33 (n + 2) (by omega) ).trans hv
  have hs := (o33 (n + 3) (by omega) ).trans hs
  have hl := (o33 (n + 4) (by omega) ).trans hl
  have c5 := (o33 (n + 5) (by omega) ).trans c5
  have c6 := (o33 (n + 6) (by omega) ).trans c6
  have c7 := (o33 (n + 7) (by omega) ).trans c7
  have c8 := (o33 (n + 8) (by omega) ).trans c8
  have c10 := (o33 (n + 10) (by omega) ).trans c10
  have c12 := (o33 (n + 12) (by omega) ).trans c12
  have c13 := (o33 (n + 13) (by omega) ).trans c13
  have c14 := (o33 (n + 14) (by omega) ).trans c14
  have c15 := (o33 (n + 15) (by omega) ).trans c15
  refine zk_aload_0 144 dc_Mo_init_143 rfl rfl ?_
  refine zk_sipush (v := 256) 147 dc_Mo_init_144 (by decide) rfl ?_
  refine zk_newiK (N := 256) 149 dc_Mo_init_147 (zk_in 45 (by decide +kernel) (by decide +kernel)) (by decide) (by decide) (by decide) rfl (fun f34 c20 o34 => ?_)
  have hr := (o34 (n) (by omega) ).trans hr
  have hk := (o34 (n + 1) (by omega) ).trans hk
  have hv := (o34 (n + 2) (by omega) ).trans hv
  have hs := (o34 (n + 3) (by omega) ).trans hs
  have hl := (o34 (n + 4) (by omega) ).trans hl
  have c5 := (o34 (n + 5) (by omega) ).trans c5
  have c6 := (o34 (n + 6) (by omega) ).trans c6
  have c7 := (o34 (n + 7) (by omega) ).trans c7
  have c8 := (o34 (n + 8) (by omega) ).trans c8
  have c10 := (o34 (n + 10) (by omega) ).trans c10
  have c12 := (o34 (n + 12) (by omega) ).trans c12
  have c13 := (o34 (n + 13) (by omega) ).trans c13
  have c14 := (o34 (n + 14) (by omega) ).trans c14
  have c15 := (o34 (n + 15) (by omega) ).trans c15
  have ha := (o34 (a) (by omega) ).trans ha
  refine zk_put 152 dc_Mo_init_149 fp_Mo_66 ha rfl rfl (Nat.le_of_ble_eq_true rfl) rfl (fun f35 ha o35 => ?_)
  have ha : f35 (a) = some (.inr (.inr (9, [.ref n, .ref (n + 5), .ref (n + 6), .ref (n + 7), .int 0, .int 0, .ref (n + 8), .ref (n + 9), .ref (n + 10), .ref (n + 11), .ref (n + 12), .ref (n + 13), .ref (n + 14), .ref (n + 15), .int 0, .ref (n + 16), .ref (n + 17), .ref (n + 18), .ref (n + 19), .int 0, .int 0, .int 0, .int 0, .int 0, .int (-1), .ref (n + 20), .null, .null, .null, .int 0, .null, .null, .null, .int 0, .null, .null, .null, .null, .int 0, .null, .int 0, .null, .int 0, .int 0, .int 0, .int 0, .int 0, .int 0]))) := ha
  have hr := (o35 (n) (by omega) ).trans hr
  have hk := (o35 (n + 1) (by omega) ).trans hk
  have hv := (o35 (n + 2) (by omega) ).trans hv
  have hs := (o35 (n + 3) (by omega) ).trans hs
  have hl := (o35 (n + 4) (by omega) ).trans hl
  have c5 := (o35 (n + 5) (by omega) ).trans c5
  have c6 := (o35 (n + 6) (by omega) ).trans c6
  have c7 := (o35 (n + 7) (by omega) ).trans c7
  have c8 := (o35 (n + 8) (by omega) ).trans c8
  have c10 := (o35 (n + 10) (by omega) ).trans c10
  have c12 := (o35 (n + 12) (by omega) ).trans c12
  have c13 := (o35 (n + 13) (by omega) ).trans c13
  have c14 := (o35 (n + 14) (by omega) ).trans c14
  have c15 := (o35 (n + 15) (by omega) ).trans c15
  refine zk_aload_0 153 dc_Mo_init_152 rfl rfl ?_
  refine zk_sipush (v := 256) 156 dc_Mo_init_153 (by decide) rfl ?_
  refine zk_newiK (N := 256) 158 dc_Mo_init_156 (zk_in 45 (by decide +kernel) (by decide +kernel)) (by decide) (by decide) (by decide) rfl (fun f36 c21 o36 => ?_)
  have hr := (o36 (n) (by omega) ).trans hr
  have hk := (o36 (n + 1) (by omega) ).trans hk
  have hv := (o36 (n + 2) (by omega) ).trans hv
  have hs := (o36 (n + 3) (by omega) ).trans hs
  have hl := (o36 (n + 4) (by omega) ).trans hl
  have c5 := (o36 (n + 5) (by omega) ).trans c5
  have c6 := (o36 (n + 6) (by omega) ).trans c6
  have c7 := (o36 (n + 7) (by omega) ).trans c7
  have c8 := (o36 (n + 8) (by omega) ).trans c8
  have c10 := (o36 (n + 10) (by omega) ).trans c10
  have c12 := (o36 (n + 12) (by omega) ).trans c12
  have c13 := (o36 (n + 13) (by omega) ).trans c13
  have c14 := (o36 (n + 14) (by omega) ).trans c14
  have c15 := (o36 (n + 15) (by omega) ).trans c15
  have ha := (o36 (a) (by omega) ).trans ha
  refine zk_put 161 dc_Mo_init_158 fp_Mo_69 ha rfl rfl (Nat.le_of_ble_eq_true rfl) rfl (fun f37 ha o37 => ?_)
  have ha : f37 (a) = some (.inr (.inr (9, [.ref n, .ref (n + 5), .ref (n + 6), .ref (n + 7), .int 0, .int 0, .ref (n + 8), .ref (n + 9), .ref (n + 10), .ref (n + 11), .ref (n + 12), .ref (n + 13), .ref (n + 14), .ref (n + 15), .int 0, .ref (n + 16), .ref (n + 17), .ref (n + 18), .ref (n + 19), .int 0, .int 0, .int 0, .int 0, .int 0, .int (-1), .ref (n + 20), .ref (n + 21), .null, .null, .int 0, .null, .null, .null, .int 0, .null, .null, .null, .null, .int 0, .null, .int 0, .null, .int 0, .int 0, .int 0, .int 0, .int 0, .int 0]))) := ha
  have hr := (o37 (n) (by omega) ).trans hr
  have hk := (o37 (n + 1) (by omega) ).trans hk
  have hv := (o37 (n + 2) (by omega) ).trans hv
  have hs := (o37 (n + 3) (by omega) ).trans hs
  have hl := (o37 (n + 4) (by omega) ).trans hl
  have c5 := (o37 (n + 5) (by omega) ).trans c5
  have c6 := (o37 (n + 6) (by omega) ).trans c6
  have c7 := (o37 (n + 7) (by omega) ).trans c7
  have c8 := (o37 (n + 8) (by omega) ).trans c8
  have c10 := (o37 (n + 10) (by omega) ).trans c10
  have c12 := (o37 (n + 12) (by omega) ).trans c12
  have c13 := (o37 (n + 13) (by omega) ).trans c13
  have c14 := (o37 (n + 14) (by omega) ).trans c14
  have c15 := (o37 (n + 15) (by omega) ).trans c15
  refine zk_aload_0 162 dc_Mo_init_161 rfl rfl ?_
  refine zk_sipush (v := 256) 165 dc_Mo_init_162 (by decide) rfl ?_
  refine zk_newiK (N := 256) 167 dc_Mo_init_165 (zk_in 45 (by decide +kernel) (by decide +kernel)) (by decide) (by decide) (by decide) rfl (fun f38 c22 o38 => ?_)
  have hr := (o38 (n) (by omega) ).trans hr
  have hk := (o38 (n + 1) (by omega) ).trans hk
  have hv := (o38 (n + 2) (by omega) ).trans hv
  have hs := (o38 (n + 3) (by omega) ).trans hs
  have hl := (o38 (n + 4) (by omega) ).trans hl
  have c5 := (o38 (n + 5) (by omega) ).trans c5
  have c6 := (o38 (n + 6) (by omega) ).trans c6
  have c7 := (o38 (n + 7) (by omega) ).trans c7
  have c8 := (o38 (n + 8) (by omega) ).trans c8
  have c10 := (o38 (n + 10) (by omega) ).trans c10
  have c12 := (o38 (n + 12) (by omega) ).trans c12
  have c13 := (o38 (n + 13) (by omega) ).trans c13
  have c14 := (o38 (n + 14) (by omega) ).trans c14
  have c15 := (o38 (n + 15) (by omega) ).trans c15
  have ha := (o38 (a) (by omega) ).trans ha
  refine zk_put 170 dc_Mo_init_167 fp_Mo_72 ha rfl rfl (Nat.le_of_ble_eq_true rfl) rfl (fun f39 ha o39 => ?_)
  have ha : f39 (a) = some (.inr (.inr (9, [.ref n, .ref (n + 5), .ref (n + 6), .ref (n + 7), .int 0, .int 0, .ref (n + 8), .ref (n + 9), .ref (n + 10), .ref (n + 11), .ref (n + 12), .ref (n + 13), .ref (n + 14), .ref (n + 15), .int 0, .ref (n + 16), .ref (n + 17), .ref (n + 18), .ref (n + 19), .int 0, .int 0, .int 0, .int 0, .int 0, .int (-1), .ref (n + 20), .ref (n + 21), .ref (n + 22), .null, .int 0, .null, .null, .null, .int 0, .null, .null, .null, .null, .int 0, .null, .int 0, .null, .int 0, .int 0, .int 0, .int 0, .int 0, .int 0]))) := ha
  have hr := (o39 (n) (by omega) ).trans hr
  have hk := (o39 (n + 1) (by omega) ).trans hk
  have hv := (o39 (n + 2) (by omega) ).trans hv
  have hs := (o39 (n + 3) (by omega) ).trans hs
  have hl := (o39 (n + 4) (by omega) ).trans hl
  have c5 := (o39 (n + 5) (by omega) ).trans c5
  have c6 := (o39 (n + 6) (by omega) ).trans c6
  have c7 := (o39 (n + 7) (by omega) ).trans c7
  have c8 := (o39 (n + 8) (by omega) ).trans c8
  have c10 := (o39 (n + 10) (by omega) ).trans c10
  have c12 := (o39 (n + 12) (by omega) ).trans c12
  have c13 := (o39 (n + 13) (by omega) ).trans c13
  have c14 := (o39 (n + 14) (by omega) ).trans c14
  have c15 := (o39 (n + 15) (by omega) ).trans c15
  refine zk_aload_0 171 dc_Mo_init_170 rfl rfl ?_
  refine zk_sipush (v := 256) 174 dc_Mo_init_171 (by decide) rfl ?_
  refine zk_newiK (N := 256) 176 dc_Mo_init_174 (zk_in 45 (by decide +kernel) (by decide +kernel)) (by decide) (by decide) (by decide) rfl (fun f40 c23 o40 => ?_)
  have hr := (o40 (n) (by omega) ).trans hr
  have hk := (o40 (n + 1) (by omega) ).trans hk
  have hv := (o40 (n + 2) (by omega) ).trans hv
  have hs := (o40 (n + 3) (by omega) ).trans hs
  have hl := (o40 (n + 4) (by omega) ).trans hl
  have c5 := (o40 (n + 5) (by omega) ).trans c5
  have c6 := (o40 (n + 6) (by omega) ).trans c6
  have c7 := (o40 (n + 7) (by omega) ).trans c7
  have c8 := (o40 (n + 8) (by omega) ).trans c8
  have c10 := (o40 (n + 10) (by omega) ).trans c10
  have c12 := (o40 (n + 12) (by omega) ).trans c12
  have c13 := (o40 (n + 13) (by omega) ).trans c13
  have c14 := (o40 (n + 14) (by omega) ).trans c14
  have c15 := (o40 (n + 15) (by omega) ).trans c15
  have ha := (o40 (a) (by omega) ).trans ha
  refine zk_put 179 dc_Mo_init_176 fp_Mo_75 ha rfl rfl (Nat.le_of_ble_eq_true rfl) rfl (fun f41 ha o41 => ?_)
  have ha : f41 (a) = some (.inr (.inr (9, [.ref n, .ref (n + 5), .ref (n + 6), .ref (n + 7), .int 0, .int 0, .ref (n + 8), .ref (n + 9), .ref (n + 10), .ref (n + 11), .ref (n + 12), .ref (n + 13), .ref (n + 14), .ref (n + 15), .int 0, .ref (n + 16), .ref (n + 17), .ref (n + 18), .ref (n + 19), .int 0, .int 0, .int 0, .int 0, .int 0, .int (-1), .ref (n + 20), .ref (n + 21), .ref (n + 22), .ref (n + 23), .int 0, .null, .null, .null, .int 0, .null, .null, .null, .null, .int 0, .null, .int 0, .null, .int 0, .int 0, .int 0, .int 0, .int 0, .int 0]))) := ha
  have hr := (o41 (n) (by omega) ).trans hr
  have hk := (o41 (n + 1) (by omega) ).trans hk
  have hv := (o41 (n + 2) (by omega) ).trans hv
  have hs := (o41 (n + 3) (by omega) ).trans hs
  have hl := (o41 (n + 4) (by omega) ).trans hl
  have c5 := (o41 (n + 5) (by omega) ).trans c5
  have c6 := (o41 (n + 6) (by omega) ).trans c6
  have c7 := (o41 (n + 7) (by omega) ).trans c7
  have c8 := (o41 (n + 8) (by omega) ).trans c8
  have c10 := (o41 (n + 10) (by omega) ).trans c10
  have c12 := (o41 (n + 12) (by omega) ).trans c12
  have c13 := (o41 (n + 13) (by omega) ).trans c13
  have c14 := (o41 (n + 14) (by omega) ).trans c14
  have c15 := (o41 (n + 15) (by omega) ).trans c15
  refine zk_aload_0 180 dc_Mo_init_179 rfl rfl ?_
  refine zk_sipush (v := 256) 183 dc_Mo_init_180 (by decide) rfl ?_
  refine zk_newiK (N := 256) 185 dc_Mo_init_183 (zk_in 45 (by decide +kernel) (by decide +kernel)) (by decide) (by decide) (by decide) rfl (fun f42 c24 o42 => ?_)
  have hr := (o42 (n) (by omega) ).trans hr
  have hk := (o42 (n + 1) (by omega) ).trans hk
  have hv := (o42 (n + 2) (by omega) ).trans hv
  have hs := (o42 (n + 3) (by omega) ).trans hs
  have hl := (o42 (n + 4) (by omega) ).trans hl
  have c5 := (o42 (n + 5) (by omega) ).trans c5
  have c6 := (o42 (n + 6) (by omega) ).trans c6
  have c7 := (o42 (n + 7) (by omega) ).trans c7
  have c8 := (o42 (n + 8) (by omega) ).trans c8
  have c10 := (o42 (n + 10) (by omega) ).trans c10
  have c12 := (o42 (n + 12) (by omega) ).trans c12
  have c13 := (o42 (n + 13) (by omega) ).trans c13
  have c14 := (o42 (n + 14) (by omega) ).trans c14
  have c15 := (o42 (n + 15) (by omega) ).trans c15
  have ha := (o42 (a) (by omega) ).trans ha
  refine zk_put 188 dc_Mo_init_185 fp_Mo_78 ha rfl rfl (Nat.le_of_ble_eq_true rfl) rfl (fun f43 ha o43 => ?_)
  have ha : f43 (a) = some (.inr (.inr (9, [.ref n, .ref (n + 5), .ref (n + 6), .ref (n + 7), .int 0, .int 0, .ref (n + 8), .ref (n + 9), .ref (n + 10), .ref (n + 11), .ref (n + 12), .ref (n + 13), .ref (n + 14), .ref (n + 15), .int 0, .ref (n + 16), .ref (n + 17), .ref (n + 18), .ref (n + 19), .int 0, .int 0, .int 0, .int 0, .int 0, .int (-1), .ref (n + 20), .ref (n + 21), .ref (n + 22), .ref (n + 23), .int 0, .ref (n + 24), .null, .null, .int 0, .null, .null, .null, .null, .int 0, .null, .int 0, .null, .int 0, .int 0, .int 0, .int 0, .int 0, .int 0]))) := ha
  have hr := (o43 (n) (by omega) ).trans hr
  have hk := (o43 (n + 1) (by omega) ).trans hk
  have hv := (o43 (n + 2) (by omega) ).trans hv
  have hs := (o43 (n + 3) (by omega) ).trans hs
  have hl := (o43 (n + 4) (by omega) ).trans hl
  have c5 := (o43 (n + 5) (by omega) ).trans c5
  have c6 := (o43 (n + 6) (by omega) ).trans c6
  have c7 := (o43 (n + 7) (by omega) ).trans c7
  have c8 := (o43 (n + 8) (by omega) ).trans c8
  have c10 := (o43 (n + 10) (by omega) ).trans c10
  have c12 := (o43 (n + 12) (by omega) ).trans c12
  have c13 := (o43 (n + 13) (by omega) ).trans c13
  have c14 := (o43 (n + 14) (by omega) ).trans c14
  have c15 := (o43 (n + 15) (by omega) ).trans c15
  refine zk_aload_0 189 dc_Mo_init_188 rfl rfl ?_
  refine zk_sipush (v := 256) 192 dc_Mo_init_189 (by decide) rfl ?_
  refine zk_newiK (N := 256) 194 dc_Mo_init_192 (zk_in 45 (by decide +kernel) (by decide +kernel)) (by decide) (by decide) (by decide) rfl (fun f44 c25 o44 => ?_)
  have hr := (o44 (n) (by omega) ).trans hr
  have hk := (o44 (n + 1) (by omega) ).trans hk
  have hv := (o44 (n + 2) (by omega) ).trans hv
  have hs := (o44 (n + 3) (by omega) ).trans hs
  have hl := (o44 (n + 4) (by omega) ).trans hl
  have c5 := (o44 (n + 5) (by omega) ).trans c5
  have c6 := (o44 (n + 6) (by omega) ).trans c6
  have c7 := (o44 (n + 7) (by omega) ).trans c7
  have c8 := (o44 (n + 8) (by omega) ).trans c8
  have c10 := (o44 (n + 10) (by omega) ).trans c10
  have c12 := (o44 (n + 12) (by omega) ).trans c12
  have c13 := (o44 (n + 13) (by omega) ).trans c13
  have c14 := (o44 (n + 14) (by omega) ).trans c14
  have c15 := (o44 (n + 15) (by omega) ).trans c15
  have ha := (o44 (a) (by omega) ).trans ha
  refine zk_put 197 dc_Mo_init_194 fp_Mo_81 ha rfl rfl (Nat.le_of_ble_eq_true rfl) rfl (fun f45 ha o45 => ?_)
  have ha : f45 (a) = some (.inr (.inr (9, [.ref n, .ref (n + 5), .ref (n + 6), .ref (n + 7), .int 0, .int 0, .ref (n + 8), .ref (n + 9), .ref (n + 10), .ref (n + 11), .ref (n + 12), .ref (n + 13), .ref (n + 14), .ref (n + 15), .int 0, .ref (n + 16), .ref (n + 17), .ref (n + 18), .ref (n + 19), .int 0, .int 0, .int 0, .int 0, .int 0, .int (-1), .ref (n + 20), .ref (n + 21), .ref (n + 22), .ref (n + 23), .int 0, .ref (n + 24), .ref (n + 25), .null, .int 0, .null, .null, .null, .null, .int 0, .null, .int 0, .null, .int 0, .int 0, .int 0, .int 0, .int 0, .int 0]))) := ha
  have hr := (o45 (n) (by omega) ).trans hr
  have hk := (o45 (n + 1) (by omega) ).trans hk
  have hv := (o45 (n + 2) (by omega) ).trans hv
  have hs := (o45 (n + 3) (by omega) ).trans hs
  have hl := (o45 (n + 4) (by omega) ).trans hl
  have c5 := (o45 (n + 5) (by omega) ).trans c5
  have c6 := (o45 (n + 6) (by omega) ).trans c6
  have c7 := (o45 (n + 7) (by omega) ).trans c7
  have c8 := (o45 (n + 8) (by omega) ).trans c8
  have c10 := (o45 (n + 10) (by omega) ).trans c10
  have c12 := (o45 (n + 12) (by omega) ).trans c12
  have c13 := (o45 (n + 13) (by omega) ).trans c13
  have c14 := (o45 (n + 14) (by omega) ).trans c14
  have c15 := (o45 (n + 15) (by omega) ).trans c15
  refine zk_aload_0 198 dc_Mo_init_197 rfl rfl ?_
  refine zk_sipush (v := 256) 201 dc_Mo_init_198 (by decide) rfl ?_
  refine zk_newiK (N := 256) 203 dc_Mo_init_201 (zk_in 45 (by decide +kernel) (by decide +kernel)) (by decide) (by decide) (by decide) rfl (fun f46 c26 o46 => ?_)
  have hr := (o46 (n) (by omega) ).trans hr
  have hk := (o46 (n + 1) (by omega) ).trans hk
  have hv := (o46 (n + 2) (by omega) ).trans hv
  have hs := (o46 (n + 3) (by omega) ).trans hs
  have hl := (o46 (n + 4) (by omega) ).trans hl
  have c5 := (o46 (n + 5) (by omega) ).trans c5
  have c6 := (o46 (n + 6) (by omega) ).trans c6
  have c7 := (o46 (n + 7) (by omega) ).trans c7
  have c8 := (o46 (n + 8) (by omega) ).trans c8
  have c10 := (o46 (n + 10) (by omega) ).trans c10
  have c12 := (o46 (n + 12) (by omega) ).trans c12
  have c13 := (o46 (n + 13) (by omega) ).trans c13
  have c14 := (o46 (n + 14) (by omega) ).trans c14
  have c15 := (o46 (n + 15) (by omega) ).trans c15
  have ha := (o46 (a) (by omega) ).trans ha
  refine zk_put 206 dc_Mo_init_203 fp_Mo_84 ha rfl rfl (Nat.le_of_ble_eq_true rfl) rfl (fun f47 ha o47 => ?_)
  have ha : f47 (a) = some (.inr (.inr (9, [.ref n, .ref (n + 5), .ref (n + 6), .ref (n + 7), .int 0, .int 0, .ref (n + 8), .ref (n + 9), .ref (n + 10), .ref (n + 11), .ref (n + 12), .ref (n + 13), .ref (n + 14), .ref (n + 15), .int 0, .ref (n + 16), .ref (n + 17), .ref (n + 18), .ref (n + 19), .int 0, .int 0, .int 0, .int 0, .int 0, .int (-1), .ref (n + 20), .ref (n + 21), .ref (n + 22), .ref (n + 23), .int 0, .ref (n + 24), .ref (n + 25), .ref (n + 26), .int 0, .null, .null, .null, .null, .int 0, .null, .int 0, .null, .int 0, .int 0, .int 0, .int 0, .int 0, .int 0]))) := ha
  have hr := (o47 (n) (by omega) ).trans hr
  have hk := (o47 (n + 1) (by omega) ).trans hk
  have hv := (o47 (n + 2) (by omega) ).trans hv
  have hs := (o47 (n + 3) (by omega) ).trans hs
  have hl := (o47 (n + 4) (by omega) ).trans hl
  have c5 := (o47 (n + 5) (by omega) ).trans c5
  have c6 := (o47 (n + 6) (by omega) ).trans c6
  have c7 := (o47 (n + 7) (by omega) ).trans c7
  have c8 := (o47 (n + 8) (by omega) ).trans c8
  have c10 := (o47 (n + 10) (by omega) ).trans c10
  have c12 := (o47 (n + 12) (by omega) ).trans c12
  have c13 := (o47 (n + 13) (by omega) ).trans c13
  have c14 := (o47 (n + 14) (by omega) ).trans c14
  have c15 := (o47 (n + 15) (by omega) ).trans c15
  refine zk_aload_0 207 dc_Mo_init_206 rfl rfl ?_
  refine zk_bipush (v := 64) 209 dc_Mo_init_207 (by decide) rfl ?_
  refine zk_newiK (N := 64) 211 dc_Mo_init_209 (zk_in 45 (by decide +kernel) (by decide +kernel)) (by decide) (by decide) (by decide) rfl (fun f48 c27 o48 => ?_)
  have hr := (o48 (n) (by omega) ).trans hr
  have hk := (o48 (n + 1) (by omega) ).trans hk
  have hv := (o48 (n + 2) (by omega) ).trans hv
  have hs := (o48 (n + 3) (by omega) ).trans hs
  have hl := (o48 (n + 4) (by omega) ).trans hl
  have c5 := (o48 (n + 5) (by omega) ).trans c5
  have c6 := (o48 (n + 6) (by omega) ).trans c6
  have c7 := (o48 (n + 7) (by omega) ).trans c7
  have c8 := (o48 (n + 8) (by omega) ).trans c8
  have c10 := (o48 (n + 10) (by omega) ).trans c10
  have c12 := (o48 (n + 12) (by omega) ).trans c12
  have c13 := (o48 (n + 13) (by omega) ).trans c13
  have c14 := (o48 (n + 14) (by omega) ).trans c14
  have c15 := (o48 (n + 15) (by omega) ).trans c15
  have ha := (o48 (a) (by omega) ).trans ha
  refine zk_put 214 dc_Mo_init_211 fp_Mo_87 ha rfl rfl (Nat.le_of_ble_eq_true rfl) rfl (fun f49 ha o49 => ?_)
  have ha : f49 (a) = some (.inr (.inr (9, [.ref n, .ref (n + 5), .ref (n + 6), .ref (n + 7), .int 0, .int 0, .ref (n + 8), .ref (n + 9), .ref (n + 10), .ref (n + 11), .ref (n + 12), .ref (n + 13), .ref (n + 14), .ref (n + 15), .int 0, .ref (n + 16), .ref (n + 17), .ref (n + 18), .ref (n + 19), .int 0, .int 0, .int 0, .int 0, .int 0, .int (-1), .ref (n + 20), .ref (n + 21), .ref (n + 22), .ref (n + 23), .int 0, .ref (n + 24), .ref (n + 25), .ref (n + 26), .int 0, .ref (n + 27), .null, .null, .null, .int 0, .null, .int 0, .null, .int 0, .int 0, .int 0, .int 0, .int 0, .int 0]))) := ha
  have hr := (o49 (n) (by omega) ).trans hr
  have hk := (o49 (n + 1) (by omega) ).trans hk
  have hv := (o49 (n + 2) (by omega) ).trans hv
  have hs := (o49 (n + 3) (by omega) ).trans hs
  have hl := (o49 (n + 4) (by omega) ).trans hl
  have c5 := (o49 (n + 5) (by omega) ).trans c5
  have c6 := (o49 (n + 6) (by omega) ).trans c6
  have c7 := (o49 (n + 7) (by omega) ).trans c7
  have c8 := (o49 (n + 8) (by omega) ).trans c8
  have c10 := (o49 (n + 10) (by omega) ).trans c10
  have c12 := (o49 (n + 12) (by omega) ).trans c12
  have c13 := (o49 (n + 13) (by omega) ).trans c13
  have c14 := (o49 (n + 14) (by omega) ).trans c14
  have c15 := (o49 (n + 15) (by omega) ).trans c15
  refine zk_aload_0 215 dc_Mo_init_214 rfl rfl ?_
  refine zk_bipush (v := 64) 217 dc_Mo_init_215 (by decide) rfl ?_
  refine zk_newiK (N := 64) 219 dc_Mo_init_217 (zk_in 45 (by decide +kernel) (by decide +kernel)) (by decide) (by decide) (by decide) rfl (fun f50 c28 o50 => ?_)
  have hr := (o50 (n) (by omega) ).trans hr
  have hk := (o50 (n + 1) (by omega) ).trans hk
  have hv := (o50 (n + 2) (by omega) ).trans hv
  have hs := (o50 (n + 3) (by omega) ).trans hs
  have hl := (o50 (n + 4) (by omega) ).trans hl
  have c5 := (o50 (n + 5) (by omega) ).trans c5
  have c6 := (o50 (n + 6) (by omega) ).trans c6
  have c7 := (o50 (n + 7) (by omega) ).trans c7
  have c8 := (o50 (n + 8) (by omega) ).trans c8
  have c10 := (o50 (n + 10) (by omega) ).trans c10
  have c12 := (o50 (n + 12) (by omega) ).trans c12
  have c13 := (o50 (n + 13) (by omega) ).trans c13
  have c14 := (o50 (n + 14) (by omega) ).trans c14
  have c15 := (o50 (n + 15) (by omega) ).trans c15
  have ha := (o50 (a) (by omega) ).trans ha
  refine zk_put 222 dc_Mo_init_219 fp_Mo_90 ha rfl rfl (Nat.le_of_ble_eq_true rfl) rfl (fun f51 ha o51 => ?_)
  have ha : f51 (a) = some (.inr (.inr (9, [.ref n, .ref (n + 5), .ref (n + 6), .ref (n + 7), .int 0, .int 0, .ref (n + 8), .ref (n + 9), .ref (n + 10), .ref (n + 11), .ref (n + 12), .ref (n + 13), .ref (n + 14), .ref (n + 15), .int 0, .ref (n + 16), .ref (n + 17), .ref (n + 18), .ref (n + 19), .int 0, .int 0, .int 0, .int 0, .int 0, .int (-1), .ref (n + 20), .ref (n + 21), .ref (n + 22), .ref (n + 23), .int 0, .ref (n + 24), .ref (n + 25), .ref (n + 26), .int 0, .ref (n + 27), .ref (n + 28), .null, .null, .int 0, .null, .int 0, .null, .int 0, .int 0, .int 0, .int 0, .int 0, .int 0]))) := ha
  have hr := (o51 (n) (by omega) ).trans hr
  have hk := (o51 (n + 1) (by omega) ).trans hk
  have hv := (o51 (n + 2) (by omega) ).trans hv
  have hs := (o51 (n + 3) (by omega) ).trans hs
  have hl := (o51 (n + 4) (by omega) ).trans hl
  have c5 := (o51 (n + 5) (by omega) ).trans c5
  have c6 := (o51 (n + 6) (by omega) ).trans c6
  have c7 := (o51 (n + 7) (by omega) ).trans c7
  have c8 := (o51 (n + 8) (by omega) ).trans c8
  have c10 := (o51 (n + 10) (by omega) ).trans c10
  have c12 := (o51 (n + 12) (by omega) ).trans c12
  have c13 := (o51 (n + 13) (by omega) ).trans c13
  have c14 := (o51 (n + 14) (by omega) ).trans c14
  have c15 := (o51 (n + 15) (by omega) ).trans c15
  refine zk_aload_0 223 dc_Mo_init_222 rfl rfl ?_
  refine zk_bipush (v := 64) 225 dc_Mo_init_223 (by decide) rfl ?_
  refine zk_newiK (N := 64) 227 dc_Mo_init_225 (zk_in 45 (by decide +kernel) (by decide +kernel)) (by decide) (by decide) (by decide) rfl (fun f52 c29 o52 => ?_)
  have hr := (o52 (n) (by omega) ).trans hr
  have hk := (o52 (n + 1) (by omega) ).trans hk
  have hv := (o52 (n + 2) (by omega) ).trans hv
  have hs := (o52 (n + 3) (by omega) ).trans hs
  have hl := (o52 (n + 4) (by omega) ).trans hl
  have c5 := (o52 (n + 5) (by omega) ).trans c5
  have c6 := (o52 (n + 6) (by omega) ).trans c6
  have c7 := (o52 (n + 7) (by omega) ).trans c7
  have c8 := (o52 (n + 8) (by omega) ).trans c8
  have c10 := (o52 (n + 10) (by omega) ).trans c10
  have c12 := (o52 (n + 12) (by omega) ).trans c12
  have c13 := (o52 (n + 13) (by omega) ).trans c13
  have c14 := (o52 (n + 14) (by omega) ).trans c14
  have c15 := (o52 (n + 15) (by omega) ).trans c15
  have ha := (o52 (a) (by omega) ).trans ha
  refine zk_put 230 dc_Mo_init_227 fp_Mo_93 ha rfl rfl (Nat.le_of_ble_eq_true rfl) rfl (fun f53 ha o53 => ?_)
  have ha : f53 (a) = some (.inr (.inr (9, [.ref n, .ref (n + 5), .ref (n + 6), .ref (n + 7), .int 0, .int 0, .ref (n + 8), .ref (n + 9), .ref (n + 10), .ref (n + 11), .ref (n + 12), .ref (n + 13), .ref (n + 14), .ref (n + 15), .int 0, .ref (n + 16), .ref (n + 17), .ref (n + 18), .ref (n + 19), .int 0, .int 0, .int 0, .int 0, .int 0, .int (-1), .ref (n + 20), .ref (n + 21), .ref (n + 22), .ref (n + 23), .int 0, .ref (n + 24), .ref (n + 25), .ref (n + 26), .int 0, .ref (n + 27), .ref (n + 28), .ref (n + 29), .null, .int 0, .null, .int 0, .null, .int 0, .int 0, .int 0, .int 0, .int 0, .int 0]))) := ha
  have hr := (o53 (n) (by omega) ).trans hr
  have hk := (o53 (n + 1) (by omega) ).trans hk
  have hv := (o53 (n + 2) (by omega) ).trans hv
  have hs := (o53 (n + 3) (by omega) ).trans hs
  have hl := (o53 (n + 4) (by omega) ).trans hl
  have c5 := (o53 (n + 5) (by omega) ).trans c5
  have c6 := (o53 (n + 6) (by omega) ).trans c6
  have c7 := (o53 (n + 7) (by omega) ).trans c7
  have c8 := (o53 (n + 8) (by omega) ).trans c8
  have c10 := (o53 (n + 10) (by omega) ).trans c10
  have c12 := (o53 (n + 12) (by omega) ).trans c12
  have c13 := (o53 (n + 13) (by omega) ).trans c13
  have c14 := (o53 (n + 14) (by omega) ).trans c14
  have c15 := (o53 (n + 15) (by omega) ).trans c15
  refine zk_aload_0 231 dc_Mo_init_230 rfl rfl ?_
  refine zk_bipush (v := 64) 233 dc_Mo_init_231 (by decide) rfl ?_
  refine zk_newiK (N := 64) 235 dc_Mo_init_233 (zk_in 45 (by decide +kernel) (by decide +kernel)) (by decide) (by decide) (by decide) rfl (fun f54 c30 o54 => ?_)
  have hr := (o54 (n) (by omega) ).trans hr
  have hk := (o54 (n + 1) (by omega) ).trans hk
  have hv := (o54 (n + 2) (by omega) ).trans hv
  have hs := (o54 (n + 3) (by omega) ).trans hs
  have hl := (o54 (n + 4) (by omega) ).trans hl
  have c5 := (o54 (n + 5) (by omega) ).trans c5
  have c6 := (o54 (n + 6) (by omega) ).trans c6
  have c7 := (o54 (n + 7) (by omega) ).trans c7
  have c8 := (o54 (n + 8) (by omega) ).trans c8
  have c10 := (o54 (n + 10) (by omega) ).trans c10
  have c12 := (o54 (n + 12) (by omega) ).trans c12
  have c13 := (o54 (n + 13) (by omega) ).trans c13
  have c14 := (o54 (n + 14) (by omega) ).trans c14
  have c15 := (o54 (n + 15) (by omega) ).trans c15
  have ha := (o54 (a) (by omega) ).trans ha
  refine zk_put 238 dc_Mo_init_235 fp_Mo_96 ha rfl rfl (Nat.le_of_ble_eq_true rfl) rfl (fun f55 ha o55 => ?_)
  have ha : f55 (a) = some (.inr (.inr (9, [.ref n, .ref (n + 5), .ref (n + 6), .ref (n + 7), .int 0, .int 0, .ref (n + 8), .ref (n + 9), .ref (n + 10), .ref (n + 11), .ref (n + 12), .ref (n + 13), .ref (n + 14), .ref (n + 15), .int 0, .ref (n + 16), .ref (n + 17), .ref (n + 18), .ref (n + 19), .int 0, .int 0, .int 0, .int 0, .int 0, .int (-1), .ref (n + 20), .ref (n + 21), .ref (n + 22), .ref (n + 23), .int 0, .ref (n + 24), .ref (n + 25), .ref (n + 26), .int 0, .ref (n + 27), .ref (n + 28), .ref (n + 29), .ref (n + 30), .int 0, .null, .int 0, .null, .int 0, .int 0, .int 0, .int 0, .int 0, .int 0]))) := ha
  have hr := (o55 (n) (by omega) ).trans hr
  have hk := (o55 (n + 1) (by omega) ).trans hk
  have hv := (o55 (n + 2) (by omega) ).trans hv
  have hs := (o55 (n + 3) (by omega) ).trans hs
  have hl := (o55 (n + 4) (by omega) ).trans hl
  have c5 := (o55 (n + 5) (by omega) ).trans c5
  have c6 := (o55 (n + 6) (by omega) ).trans c6
  have c7 := (o55 (n + 7) (by omega) ).trans c7
  have c8 := (o55 (n + 8) (by omega) ).trans c8
  have c10 := (o55 (n + 10) (by omega) ).trans c10
  have c12 := (o55 (n + 12) (by omega) ).trans c12
  have c13 := (o55 (n + 13) (by omega) ).trans c13
  have c14 := (o55 (n + 14) (by omega) ).trans c14
  have c15 := (o55 (n + 15) (by omega) ).trans c15
  refine zk_aload_0 239 dc_Mo_init_238 rfl rfl ?_
  refine zk_bipush (v := 64) 241 dc_Mo_init_239 (by decide) rfl ?_
  refine zk_newiK (N := 64) 243 dc_Mo_init_241 (zk_in 45 (by decide +kernel) (by decide +kernel)) (by decide) (by decide) (by decide) rfl (fun f56 c31 o56 => ?_)
  have hr := (o56 (n) (by omega) ).trans hr
  have hk := (o56 (n + 1) (by omega) ).trans hk
  have hv := (o56 (n + 2) (by omega) ).trans hv
  have hs := (o56 (n + 3) (by omega) ).trans hs
  have hl := (o56 (n + 4) (by omega) ).trans hl
  have c5 := (o56 (n + 5) (by omega) ).trans c5
  have c6 := (o56 (n + 6) (by omega) ).trans c6
  have c7 := (o56 (n + 7) (by omega) ).trans c7
  have c8 := (o56 (n + 8) (by omega) ).trans c8
  have c10 := (o56 (n + 10) (by omega) ).trans c10
  have c12 := (o56 (n + 12) (by omega) ).trans c12
  have c13 := (o56 (n + 13) (by omega) ).trans c13
  have c14 := (o56 (n + 14) (by omega) ).trans c14
  have c15 := (o56 (n + 15) (by omega) ).trans c15
  have ha := (o56 (a) (by omega) ).trans ha
  refine zk_put 246 dc_Mo_init_243 fp_Mo_99 ha rfl rfl (Nat.le_of_ble_eq_true rfl) rfl (fun f57 ha o57 => ?_)
  have ha : f57 (a) = some (.inr (.inr (9, [.ref n, .ref (n + 5), .ref (n + 6), .ref (n + 7), .int 0, .int 0, .ref (n + 8), .ref (n + 9), .ref (n + 10), .ref (n + 11), .ref (n + 12), .ref (n + 13), .ref (n + 14), .ref (n + 15), .int 0, .ref (n + 16), .ref (n + 17), .ref (n + 18), .ref (n + 19), .int 0, .int 0, .int 0, .int 0, .int 0, .int (-1), .ref (n + 20), .ref (n + 21), .ref (n + 22), .ref (n + 23), .int 0, .ref (n + 24), .ref (n + 25), .ref (n + 26), .int 0, .ref (n + 27), .ref (n + 28), .ref (n + 29), .ref (n + 30), .int 0, .ref (n + 31), .int 0, .null, .int 0, .int 0, .int 0, .int 0, .int 0, .int 0]))) := ha
  have hr := (o57 (n) (by omega) ).trans hr
  have hk := (o57 (n + 1) (by omega) ).trans hk
  have hv := (o57 (n + 2) (by omega) ).trans hv
  have hs := (o57 (n + 3) (by omega) ).trans hs
  have hl := (o57 (n + 4) (by omega) ).trans hl
  have c5 := (o57 (n + 5) (by omega) ).trans c5
  have c6 := (o57 (n + 6) (by omega) ).trans c6
  have c7 := (o57 (n + 7) (by omega) ).trans c7
  have c8 := (o57 (n + 8) (by omega) ).trans c8
  have c10 := (o57 (n + 10) (by omega) ).trans c10
  have c12 := (o57 (n + 12) (by omega) ).trans c12
  have c13 := (o57 (n + 13) (by omega) ).trans c13
  have c14 := (o57 (n + 14) (by omega) ).trans c14
  have c15 := (o57 (n + 15) (by omega) ).trans c15
  refine zk_aload_0 247 dc_Mo_init_246 rfl rfl ?_
  refine zk_bipush (v := 64) 249 dc_Mo_init_247 (by decide) rfl ?_
  refine zk_newiK (N := 64) 251 dc_Mo_init_249 (zk_in 45 (by decide +kernel) (by decide +kernel)) (by decide) (by decide) (by decide) rfl (fun f58 c32 o58 => ?_)
  have hr := (o58 (n) (by omega) ).trans hr
  have hk := (o58 (n + 1) (by omega) ).trans hk
  have hv := (o58 (n + 2) (by omega) ).trans hv
  have hs := (o58 (n + 3) (by omega) ).trans hs
  have hl := (o58 (n + 4) (by omega) ).trans hl
  have c5 := (o58 (n + 5) (by omega) ).trans c5
  have c6 := (o58 (n + 6) (by omega) ).trans c6
  have c7 := (o58 (n + 7) (by omega) ).trans c7
  have c8 := (o58 (n + 8) (by omega) ).trans c8
  have c10 := (o58 (n + 10) (by omega) ).trans c10
  have c12 := (o58 (n + 12) (by omega) ).trans c12
  have c13 := (o58 (n + 13) (by omega) ).trans c13
  have c14 := (o58 (n + 14) (by omega) ).trans c14
  have c15 := (o58 (n + 15) (by omega) ).trans c15
  have ha := (o58 (a) (by omega) ).trans ha
  refine zk_put 254 dc_Mo_init_251 fp_Mo_102 ha rfl rfl (Nat.le_of_ble_eq_true rfl) rfl (fun f59 ha o59 => ?_)
  have ha : f59 (a) = some (.inr (.inr (9, [.ref n, .ref (n + 5), .ref (n + 6), .ref (n + 7), .int 0, .int 0, .ref (n + 8), .ref (n + 9), .ref (n + 10), .ref (n + 11), .ref (n + 12), .ref (n + 13), .ref (n + 14), .ref (n + 15), .int 0, .ref (n + 16), .ref (n + 17), .ref (n + 18), .ref (n + 19), .int 0, .int 0, .int 0, .int 0, .int 0, .int (-1), .ref (n + 20), .ref (n + 21), .ref (n + 22), .ref (n + 23), .int 0, .ref (n + 24), .ref (n + 25), .ref (n + 26), .int 0, .ref (n + 27), .ref (n + 28), .ref (n + 29), .ref (n + 30), .int 0, .ref (n + 31), .int 0, .ref (n + 32), .int 0, .int 0, .int 0, .int 0, .int 0, .int 0]))) := ha
  have hr := (o59 (n) (by omega) ).trans hr
  have hk := (o59 (n + 1) (by omega) ).trans hk
  have hv := (o59 (n + 2) (by omega) ).trans hv
  have hs := (o59 (n + 3) (by omega) ).trans hs
  have hl := (o59 (n + 4) (by omega) ).trans hl
  have c5 := (o59 (n + 5) (by omega) ).trans c5
  have c6 := (o59 (n + 6) (by omega) ).trans c6
  have c7 := (o59 (n + 7) (by omega) ).trans c7
  have c8 := (o59 (n + 8) (by omega) ).trans c8
  have c10 := (o59 (n + 10) (by omega) ).trans c10
  have c12 := (o59 (n + 12) (by omega) ).trans c12
  have c13 := (o59 (n + 13) (by omega) ).trans c13
  have c14 := (o59 (n + 14) (by omega) ).trans c14
  have c15 := (o59 (n + 15) (by omega) ).trans c15
  refine zk_iconst (v := 0) 255 dc_Mo_init_254 (by decide) rfl ?_
  refine zk_istore_1 256 dc_Mo_init_255 (Nat.le_of_ble_eq_true rfl) rfl ?_
  have ha : f59 a = some (.inr (.inr (9, [.ref n, .ref (n + 5), .ref (n + 6), .ref (n + 7), .int 0, .int 0, .ref (n + 8), .ref (n + 9), .ref (n + 10), .ref (n + 11), .ref (n + 12), .ref (n + 13), .ref (n + 14), .ref (n + 15), .int 0, .ref (n + 16), .ref (n + 17), .ref (n + 18), .ref (n + 19), .int 0, .int 0, .int 0, .int 0, .int 0, .int (-1), .ref (n + 20), .ref (n + 21), .ref (n + 22), .ref (n + 23), .int 0, .ref (n + 24), .ref (n + 25), .ref (n + 26), .int 0, .ref (n + 27), .ref (n + 28), .ref (n + 29), .ref (n + 30), .int 0, .ref (n + 31), .int 0, .ref (n + 32), .int 0, .int 0, .int 0, .int 0, .int 0, .int 0]))) := ha
  exact ct_Mo_loop (r := n) rfl (by omega) 2201 0 f59 _ _ _ _ rfl ha hr hk hv hs hl (fun g gk gv gs gl o hr hk hv hs hl => ⟨rfl, g, gk, gv, gs, gl, rfl, (o a (by omega)).trans ha, hr, hk, hv, hs, hl, (o (n + 5) (by omega)).trans c5, (o (n + 6) (by omega)).trans c6, (o (n + 7) (by omega)).trans c7, (o (n + 8) (by omega)).trans c8, (o (n + 10) (by omega)).trans c10, (o (n + 12) (by omega)).trans c12, (o (n + 13) (by omega)).trans c13, (o (n + 14) (by omega)).trans c14, (o (n + 15) (by omega)).trans c15, fun b q1 q2 => by rw [o b (by omega), o59 b (by omega), o58 b (by omega), o57 b (by omega), o56 b (by omega), o55 b (by omega), o54 b (by omega), o53 b (by omega), o52 b (by omega), o51 b (by omega), o50 b (by omega), o49 b (by omega), o48 b (by omega), o47 b (by omega), o46 b (by omega), o45 b (by omega), o44 b (by omega), o43 b (by omega), o42 b (by omega), o41 b (by omega), o40 b (by omega), o39 b (by omega), o38 b (by omega), o37 b (by omega), o36 b (by omega), o35 b (by omega), o34 b (by omega), o33 b (by omega), o32 b (by omega), o31 b (by omega), o30 b (by omega), o29 b (by omega), o28 b (by omega), o27 b (by omega), o26 b (by omega), o25 b (by omega), o24 b (by omega), o23 b (by omega), o22 b (by omega), o21 b (by omega), o20 b (by omega), o19 b (by omega), o18 b (by omega), o17 b (by omega), o16 b (by omega), o15 b (by omega), o14 b (by omega), o13 b (by omega), o12 b (by omega), o11 b (by omega), o10 b (by omega), o9 b (by omega), o8 b (by omega), o7 b (by omega), o6 b (by omega), o5 b (by omega), o4 b (by omega), o3 b (by omega), o2 b (by omega), p0 b (by omega) (by omega), o1 b (by omega)]⟩)
end
section
abbrev mm_CmRows_size : zk_Mt := (⟨"ClosureMachine$Rows", "size", "()I"⟩, prog_6_method_5_code, 1, (Option.some .int), 0, 0)
set_option maxRecDepth 20000 in
theorem ok_CmRows_size : zk_Ok mm_CmRows_size 0 := ⟨zk_in 218 rfl rfl, ⟨by decide +kernel, by decide +kernel, by decide +kernel⟩, zk_in 3 (by decide +kernel) (by decide +kernel)⟩
theorem dc_CmRows_size_0 : decode prog_6_method_5_code 0 = .ok (.aload_n 0, 1) := by decide +kernel
theorem dc_CmRows_size_1 : decode prog_6_method_5_code 1 = .ok (.getfield 19, 3) := by decide +kernel
theorem fg_CmRows_19 : zk_F "ClosureMachine$Rows" 19 0 2 := ⟨rc_0, tc_0, 3, rfl, by decide, zk_in 37 (by decide +kernel) (by decide +kernel)⟩
theorem dc_CmRows_size_4 : decode prog_6_method_5_code 4 = .ok (.ireturn, 1) := by decide +kernel
abbrev mm_CmTerms_has : zk_Mt := (⟨"ClosureMachine$Terms", "has", "(I)Z"⟩, prog_7_method_8_code, 2, (Option.some .boolean), 1, 20)
set_option maxRecDepth 20000 in
theorem ok_CmTerms_has : zk_Ok mm_CmTerms_has 1 := ⟨zk_in 251 rfl rfl, ⟨by decide +kernel, by decide +kernel, by decide +kernel⟩, zk_in 2 (by decide +kernel) (by decide +kernel)⟩
theorem dc_CmTerms_has_0 : decode prog_7_method_8_code 0 = .ok (.iload_n 1, 1) := by decide +kernel
theorem dc_CmTerms_has_1 : decode prog_7_method_8_code 1 = .ok (.ifCond .lt 18, 3) := by decide +kernel
theorem dc_CmTerms_has_19 : decode prog_7_method_8_code 19 = .ok (.iconst 0, 1) := by decide +kernel
theorem dc_CmTerms_has_20 : decode prog_7_method_8_code 20 = .ok (.ireturn, 1) := by decide +kernel
theorem dc_CmTerms_has_4 : decode prog_7_method_8_code 4 = .ok (.iload_n 1, 1) := by decide +kernel
theorem dc_CmTerms_has_5 : decode prog_7_method_8_code 5 = .ok (.aload_n 0, 1) := by decide +kernel
theorem dc_CmTerms_has_6 : decode prog_7_method_8_code 6 = .ok (.getfield 21, 3) := by decide +kernel
theorem fg_CmTerms_21 : zk_F "ClosureMachine$Terms" 21 1 1 := ⟨rc_1, tc_1, 4, rfl, by decide, zk_in 49 (by decide +kernel) (by decide +kernel)⟩
theorem dc_CmTerms_has_9 : decode prog_7_method_8_code 9 = .ok (.invokevirtual 35, 3) := by decide +kernel
theorem lk_CmTerms_35 : zk_LV "ClosureMachine$Terms" 35 mm_CmRows_size := ⟨zk_in 215 (by decide +kernel) (by decide +kernel), zk_in 216 (by decide +kernel) (by decide +kernel), zk_in 217 (by decide +kernel) (by decide +kernel)⟩
theorem dc_CmTerms_has_12 : decode prog_7_method_8_code 12 = .ok (.if_icmp .ge 7, 3) := by decide +kernel
abbrev mm_CmTerms_count : zk_Mt := (⟨"ClosureMachine$Terms", "count", "()I"⟩, prog_7_method_7_code, 1, (Option.some .int), 1, 20)
set_option maxRecDepth 20000 in
theorem ok_CmTerms_count : zk_Ok mm_CmTerms_count 0 := ⟨zk_in 634 rfl rfl, ⟨by decide +kernel, by decide +kernel, by decide +kernel⟩, zk_in 2 (by decide +kernel) (by decide +kernel)⟩
theorem dc_CmTerms_count_0 : decode prog_7_method_7_code 0 = .ok (.aload_n 0, 1) := by decide +kernel
theorem dc_CmTerms_count_1 : decode prog_7_method_7_code 1 = .ok (.getfield 21, 3) := by decide +kernel
theorem dc_CmTerms_count_4 : decode prog_7_method_7_code 4 = .ok (.invokevirtual 35, 3) := by decide +kernel
theorem dc_CmTerms_count_7 : decode prog_7_method_7_code 7 = .ok (.ireturn, 1) := by decide +kernel
abbrev mm_CmGlobals_at : zk_Mt := (⟨"ClosureMachine$Globals", "at", "(I)LClosureMachine$Global;"⟩, prog_3_method_3_code, 2, (Option.some (.object "ClosureMachine$Global")), 0, 0)
set_option maxRecDepth 20000 in
theorem ok_CmGlobals_at : zk_Ok mm_CmGlobals_at 1 := ⟨zk_in 201 rfl rfl, ⟨by decide +kernel, by decide +kernel, by decide +kernel⟩, zk_in 4 (by decide +kernel) (by decide +kernel)⟩
theorem dc_CmGlobals_at_0 : decode prog_3_method_3_code 0 = .ok (.iload_n 1, 1) := by decide +kernel
theorem dc_CmGlobals_at_1 : decode prog_3_method_3_code 1 = .ok (.ifCond .lt 29, 3) := by decide +kernel
theorem dc_CmGlobals_at_30 : decode prog_3_method_3_code 30 = .ok (.aconst_null, 1) := by decide +kernel
theorem dc_CmGlobals_at_31 : decode prog_3_method_3_code 31 = .ok (.areturn, 1) := by decide +kernel
theorem dc_CmGlobals_at_4 : decode prog_3_method_3_code 4 = .ok (.iload_n 1, 1) := by decide +kernel
theorem dc_CmGlobals_at_5 : decode prog_3_method_3_code 5 = .ok (.aload_n 0, 1) := by decide +kernel
theorem dc_CmGlobals_at_6 : decode prog_3_method_3_code 6 = .ok (.getfield 17, 3) := by decide +kernel
theorem fg_CmGlobals_17 : zk_F "ClosureMachine$Globals" 17 2 1 := ⟨rc_2, tc_2, 2, rfl, by decide, zk_in 70 (by decide +kernel) (by decide +kernel)⟩
theorem dc_CmGlobals_at_9 : decode prog_3_method_3_code 9 = .ok (.if_icmp .ge 21, 3) := by decide +kernel
abbrev mm_CmGlobals_ofKind : zk_Mt := (⟨"ClosureMachine$Globals", "ofKind", "(II)LClosureMachine$Global;"⟩, prog_3_method_4_code, 4, (Option.some (.object "ClosureMachine$Global")), 1, 21)
set_option maxRecDepth 20000 in
theorem ok_CmGlobals_ofKind : zk_Ok mm_CmGlobals_ofKind 2 := ⟨zk_in 205 rfl rfl, ⟨by decide +kernel, by decide +kernel, by decide +kernel⟩, zk_in 4 (by decide +kernel) (by decide +kernel)⟩
theorem dc_CmGlobals_ofKind_0 : decode prog_3_method_4_code 0 = .ok (.aload_n 0, 1) := by decide +kernel
theorem dc_CmGlobals_ofKind_1 : decode prog_3_method_4_code 1 = .ok (.iload_n 1, 1) := by decide +kernel
theorem dc_CmGlobals_ofKind_2 : decode prog_3_method_4_code 2 = .ok (.invokevirtual 21, 3) := by decide +kernel
theorem lk_CmGlobals_21 : zk_LV "ClosureMachine$Globals" 21 mm_CmGlobals_at := ⟨zk_in 206 (by decide +kernel) (by decide +kernel), zk_in 199 (by decide +kernel) (by decide +kernel), zk_in 200 (by decide +kernel) (by decide +kernel)⟩
theorem dc_CmGlobals_ofKind_5 : decode prog_3_method_4_code 5 = .ok (.astore_n 3, 1) := by decide +kernel
theorem dc_CmGlobals_ofKind_6 : decode prog_3_method_4_code 6 = .ok (.aload_n 3, 1) := by decide +kernel
theorem dc_CmGlobals_ofKind_7 : decode prog_3_method_4_code 7 = .ok (.ifnull 15, 3) := by decide +kernel
theorem dc_CmGlobals_ofKind_22 : decode prog_3_method_4_code 22 = .ok (.aconst_null, 1) := by decide +kernel
theorem dc_CmGlobals_ofKind_23 : decode prog_3_method_4_code 23 = .ok (.areturn, 1) := by decide +kernel
abbrev mm_CmGlobals_roomFor : zk_Mt := (⟨"ClosureMachine$Globals", "roomFor", "(I)Z"⟩, prog_3_method_2_code, 2, (Option.some .boolean), 0, 0)
set_option maxRecDepth 20000 in
theorem ok_CmGlobals_roomFor : zk_Ok mm_CmGlobals_roomFor 1 := ⟨zk_in 310 rfl rfl, ⟨by decide +kernel, by decide +kernel, by decide +kernel⟩, zk_in 4 (by decide +kernel) (by decide +kernel)⟩
theorem dc_CmGlobals_roomFor_0 : decode prog_3_method_2_code 0 = .ok (.iload_n 1, 1) := by decide +kernel
theorem dc_CmGlobals_roomFor_1 : decode prog_3_method_2_code 1 = .ok (.bipush 60, 2) := by decide +kernel
theorem dc_CmGlobals_roomFor_3 : decode prog_3_method_2_code 3 = .ok (.aload_n 0, 1) := by decide +kernel
theorem dc_CmGlobals_roomFor_4 : decode prog_3_method_2_code 4 = .ok (.getfield 17, 3) := by decide +kernel
theorem dc_CmGlobals_roomFor_7 : decode prog_3_method_2_code 7 = .ok (.isub, 1) := by decide +kernel
theorem dc_CmGlobals_roomFor_8 : decode prog_3_method_2_code 8 = .ok (.if_icmp .gt 7, 3) := by decide +kernel
theorem dc_CmGlobals_roomFor_15 : decode prog_3_method_2_code 15 = .ok (.iconst 0, 1) := by decide +kernel
theorem dc_CmGlobals_roomFor_16 : decode prog_3_method_2_code 16 = .ok (.ireturn, 1) := by decide +kernel
theorem dc_CmGlobals_roomFor_11 : decode prog_3_method_2_code 11 = .ok (.iconst 1, 1) := by decide +kernel
theorem dc_CmGlobals_roomFor_12 : decode prog_3_method_2_code 12 = .ok (.goto 4, 3) := by decide +kernel
abbrev mm_Cm_isUpTo : zk_Mt := (⟨"ClosureMachine", "isUpTo", "(II)Z"⟩, prog_1_method_17_code, 2, (Option.some .boolean), 0, 0)
set_option maxRecDepth 20000 in
theorem ok_Cm_isUpTo : zk_Ok mm_Cm_isUpTo 2 := ⟨zk_in 197 rfl rfl, ⟨by decide +kernel, by decide +kernel, by decide +kernel⟩, zk_in 1 (by decide +kernel) (by decide +kernel)⟩
theorem dc_Cm_isUpTo_0 : decode prog_1_method_17_code 0 = .ok (.iload_n 0, 1) := by decide +kernel
theorem dc_Cm_isUpTo_1 : decode prog_1_method_17_code 1 = .ok (.ifCond .lt 12, 3) := by decide +kernel
theorem dc_Cm_isUpTo_13 : decode prog_1_method_17_code 13 = .ok (.iconst 0, 1) := by decide +kernel
theorem dc_Cm_isUpTo_14 : decode prog_1_method_17_code 14 = .ok (.ireturn, 1) := by decide +kernel
theorem dc_Cm_isUpTo_4 : decode prog_1_method_17_code 4 = .ok (.iload_n 0, 1) := by decide +kernel
theorem dc_Cm_isUpTo_5 : decode prog_1_method_17_code 5 = .ok (.iload_n 1, 1) := by decide +kernel
theorem dc_Cm_isUpTo_6 : decode prog_1_method_17_code 6 = .ok (.if_icmp .gt 7, 3) := by decide +kernel
theorem dc_Cm_isUpTo_9 : decode prog_1_method_17_code 9 = .ok (.iconst 1, 1) := by decide +kernel
theorem dc_Cm_isUpTo_10 : decode prog_1_method_17_code 10 = .ok (.goto 4, 3) := by decide +kernel
abbrev mm_Cm_isNumber : zk_Mt := (⟨"ClosureMachine", "isNumber", "(I)Z"⟩, prog_1_method_16_code, 1, (Option.some .boolean), 1, 21)
set_option maxRecDepth 20000 in
theorem ok_Cm_isNumber : zk_Ok mm_Cm_isNumber 1 := ⟨zk_in 194 rfl rfl, ⟨by decide +kernel, by decide +kernel, by decide +kernel⟩, zk_in 1 (by decide +kernel) (by decide +kernel)⟩
theorem dc_Cm_isNumber_0 : decode prog_1_method_16_code 0 = .ok (.iload_n 0, 1) := by decide +kernel
theorem dc_Cm_isNumber_1 : decode prog_1_method_16_code 1 = .ok (.sipush 199, 3) := by decide +kernel
theorem dc_Cm_isNumber_4 : decode prog_1_method_16_code 4 = .ok (.invokestatic 112, 3) := by decide +kernel
theorem lk_Cm_112 : zk_LS "ClosureMachine" 112 mm_Cm_isUpTo := ⟨zk_in 195 (by decide +kernel) (by decide +kernel), zk_in 196 (by decide +kernel) (by decide +kernel)⟩
theorem dc_Cm_isNumber_7 : decode prog_1_method_16_code 7 = .ok (.ireturn, 1) := by decide +kernel
end
section
theorem zk_out {x : Int32} {lo hi : Int} (h : ∀ k : Int, lo ≤ k → k ≤ hi → x.toInt = k → False) : x.toInt < lo ∨ hi < x.toInt := by
  by_cases h1 : x.toInt < lo
  · exact Or.inl h1
  · by_cases h2 : hi < x.toInt
    · exact Or.inr h2
    · exact (h x.toInt (by omega) (by omega) rfl).elim
/-- behind a first call: the cells of the other side are as they were; little is new -/
def p1_po (w s n : Nat) (f : Nat → Option zk_E) (M' : zk_M) : Prop := ∃ (w2 s2 : Nat) (g : Nat → Option zk_E), M' = (w2, s2, g) ∧ w2 ≤ w + 6 ∧ s2 ≤ s + 54 ∧ ∀ b, n + 20 ≤ b → b < w → g b = f b
theorem p1_same {w s n : Nat} {f : Nat → Option zk_E} : p1_po w s n f (w, s, f) := ⟨w, s, f, rfl, Nat.le_add_right _ _, Nat.le_add_right _ _, fun _ _ _ => rfl⟩
def p1_leaf (k x y : Int32) : Int32 := if (k = 0 ∨ k = 2) ∧ (0 ≤ x ∧ x ≤ 199) ∧ y = 0 then 0 else -1
def p1_fam (p i c : Int32) : Int32 := if (0 ≤ p ∧ p ≤ 4) ∧ (0 ≤ i ∧ i ≤ 4) ∧ (0 ≤ c ∧ c ≤ 5) then 0 else -1
set_option maxHeartbeats 4000000 in
set_option maxRecDepth 100000 in
theorem c_size {Z : zk_Z} {w s : Nat} {f : Nat → Option zk_E} {q : Nat} {x : Int32} {u v : Value} (hq : f q = some (.inr (.inr (0, [u, v, .int x])))) : zk_Kr Z mm_CmRows_size [.ref q] (w, s, f) (fun v M' => v = .int x ∧ M' = (w, s, f)) := by
  refine zk_enterB (by decide) (Nat.le_of_ble_eq_true rfl) rfl ?_
  show zk_P Z mm_CmRows_size 0 [some (.ref q)] [] (w, s, f) _
  refine zk_aload_0 1 dc_CmRows_size_0 rfl rfl ?_
  refine zk_getfield 4 dc_CmRows_size_1 fg_CmRows_19 hq rfl rfl ?_
  exact zk_ireturn dc_CmRows_size_4 rfl (by first | rfl | decide) ⟨_, rfl, rfl, rfl⟩
set_option maxHeartbeats 4000000 in
set_option maxRecDepth 100000 in
theorem c_has {Z : zk_Z} {w s : Nat} {f : Nat → Option zk_E} {t q : Nat} {u v w1 w2 w3 : Value} (ht : f t = some (.inr (.inr (1, [w1, .ref q, w2, w3])))) (hq : f q = some (.inr (.inr (0, [u, v, .int 0])))) {x : Int32} : zk_Kr Z mm_CmTerms_has [.ref t, .int x] (w, s, f) (fun v M' => v = .int 0 ∧ M' = (w, s, f)) := by
  refine zk_enterB (by decide) (Nat.le_of_ble_eq_true rfl) rfl ?_
  show zk_P Z mm_CmTerms_has 0 [some (.ref t), some (.int x)] [] (w, s, f) _
  refine zk_iload_1 1 dc_CmTerms_has_0 rfl rfl ?_
  refine zk_if_lt 19 4 dc_CmTerms_has_1 (by decide) rfl (fun hc => ?_) (fun hc => ?_)
  · refine zk_iconst (v := 0) 20 dc_CmTerms_has_19 (by decide) rfl ?_
    exact zk_ireturn dc_CmTerms_has_20 rfl (by first | rfl | decide) ⟨_, rfl, rfl, rfl⟩
  · refine zk_iload_1 5 dc_CmTerms_has_4 rfl rfl ?_
    refine zk_aload_0 6 dc_CmTerms_has_5 rfl rfl ?_
    refine zk_getfield 9 dc_CmTerms_has_6 fg_CmTerms_21 ht rfl rfl ?_
    refine zk_cVr 12 (c_size hq) dc_CmTerms_has_9 ok_CmRows_size lk_CmTerms_35 hq rfl rfl rfl ⟨Nat.le_of_ble_eq_true rfl, Nat.le_of_ble_eq_true rfl⟩ (Nat.le_of_ble_eq_true rfl) rfl (fun v M1 hk => ?_)
    obtain ⟨rfl, rfl⟩ := hk
    refine zk_icmp_ge 19 15 dc_CmTerms_has_12 (by decide) rfl (fun hx => ?_) (fun hx => by first | exact absurd hx (Int32.not_lt.mp hc) | exact absurd (Int32.not_lt.mp hc) hx)
    refine zk_iconst (v := 0) 20 dc_CmTerms_has_19 (by decide) rfl ?_
    exact zk_ireturn dc_CmTerms_has_20 rfl (by first | rfl | decide) ⟨_, rfl, rfl, rfl⟩
set_option maxHeartbeats 4000000 in
set_option maxRecDepth 100000 in
theorem c_count {Z : zk_Z} {w s : Nat} {f : Nat → Option zk_E} {t q : Nat} {u v w1 w2 w3 : Value} (ht : f t = some (.inr (.inr (1, [w1, .ref q, w2, w3])))) (hq : f q = some (.inr (.inr (0, [u, v, .int 0])))) : zk_Kr Z mm_CmTerms_count [.ref t] (w, s, f) (fun v M' => v = .int 0 ∧ M' = (w, s, f)) := by
  refine zk_enterB (by decide) (Nat.le_of_ble_eq_true rfl) rfl ?_
  show zk_P Z mm_CmTerms_count 0 [some (.ref t)] [] (w, s, f) _
  refine zk_aload_0 1 dc_CmTerms_count_0 rfl rfl ?_
  refine zk_getfield 4 dc_CmTerms_count_1 fg_CmTerms_21 ht rfl rfl ?_
  refine zk_cVr 7 (c_size hq) dc_CmTerms_count_4 ok_CmRows_size lk_CmTerms_35 hq rfl rfl rfl ⟨Nat.le_of_ble_eq_true rfl, Nat.le_of_ble_eq_true rfl⟩ (Nat.le_of_ble_eq_true rfl) rfl (fun v M1 hk => ?_)
  obtain ⟨rfl, rfl⟩ := hk
  exact zk_ireturn dc_CmTerms_count_7 rfl (by first | rfl | decide) ⟨_, rfl, rfl, rfl⟩
set_option maxHeartbeats 4000000 in
set_option maxRecDepth 100000 in
theorem c_at {Z : zk_Z} {w s : Nat} {f : Nat → Option zk_E} {q : Nat} {u : Value} (hq : f q = some (.inr (.inr (2, [u, .int 0])))) {x : Int32} : zk_Kr Z mm_CmGlobals_at [.ref q, .int x] (w, s, f) (fun v M' => v = .null ∧ M' = (w, s, f)) := by
  refine zk_enterB (by decide) (Nat.le_of_ble_eq_true rfl) rfl ?_
  show zk_P Z mm_CmGlobals_at 0 [some (.ref q), some (.int x)] [] (w, s, f) _
  refine zk_iload_1 1 dc_CmGlobals_at_0 rfl rfl ?_
  refine zk_if_lt 30 4 dc_CmGlobals_at_1 (by decide) rfl (fun hc => ?_) (fun hc => ?_)
  · refine zk_null 31 dc_CmGlobals_at_30 rfl ?_
    exact zk_areturn dc_CmGlobals_at_31 rfl (by first | exact Or.inl ⟨_, rfl⟩ | exact Or.inr ⟨_, rfl⟩) (Or.inl rfl) ⟨_, rfl, rfl, rfl⟩
  · refine zk_iload_1 5 dc_CmGlobals_at_4 rfl rfl ?_
    refine zk_aload_0 6 dc_CmGlobals_at_5 rfl rfl ?_
    refine zk_getfield 9 dc_CmGlobals_at_6 fg_CmGlobals_17 hq rfl rfl ?_
    refine zk_icmp_ge 30 12 dc_CmGlobals_at_9 (by decide) rfl (fun hx => ?_) (fun hx => by first | exact absurd hx (Int32.not_lt.mp hc) | exact absurd (Int32.not_lt.mp hc) hx)
    refine zk_null 31 dc_CmGlobals_at_30 rfl ?_
    exact zk_areturn dc_CmGlobals_at_31 rfl (by first | exact Or.inl ⟨_, rfl⟩ | exact Or.inr ⟨_, rfl⟩) (Or.inl rfl) ⟨_, rfl, rfl, rfl⟩
set_option maxHeartbeats 4000000 in
set_option maxRecDepth 100000 in
theorem c_ofKind {Z : zk_Z} {w s : Nat} {f : Nat → Option zk_E} {q : Nat} {u : Value} (hq : f q = some (.inr (.inr (2, [u, .int 0])))) {x : Int32} {y : Int32} : zk_Kr Z mm_CmGlobals_ofKind [.ref q, .int x, .int y] (w, s, f) (fun v M' => v = .null ∧ M' = (w, s, f)) := by
  refine zk_enterB (by decide) (Nat.le_of_ble_eq_true rfl) rfl ?_
  show zk_P Z mm_CmGlobals_ofKind 0 [some (.ref q), some (.int x), some (.int y), none] [] (w, s, f) _
  refine zk_aload_0 1 dc_CmGlobals_ofKind_0 rfl rfl ?_
  refine zk_iload_1 2 dc_CmGlobals_ofKind_1 rfl rfl ?_
  refine zk_cVr 5 (c_at hq) dc_CmGlobals_ofKind_2 ok_CmGlobals_at lk_CmGlobals_21 hq rfl rfl rfl ⟨Nat.le_of_ble_eq_true rfl, Nat.le_of_ble_eq_true rfl⟩ (Nat.le_of_ble_eq_true rfl) rfl (fun v M1 hk => ?_)
  obtain ⟨rfl, rfl⟩ := hk
  refine zk_astoreN_3 6 dc_CmGlobals_ofKind_5 (Nat.le_of_ble_eq_true rfl) rfl ?_
  refine zk_aloadN_3 7 dc_CmGlobals_ofKind_6 rfl rfl ?_
  refine zk_ifnullN 22 dc_CmGlobals_ofKind_7 (by decide) ?_
  refine zk_null 23 dc_CmGlobals_ofKind_22 rfl ?_
  exact zk_areturn dc_CmGlobals_ofKind_23 rfl (by first | exact Or.inl ⟨_, rfl⟩ | exact Or.inr ⟨_, rfl⟩) (Or.inl rfl) ⟨_, rfl, rfl, rfl⟩
set_option maxHeartbeats 4000000 in
set_option maxRecDepth 100000 in
theorem c_room {Z : zk_Z} {w s : Nat} {f : Nat → Option zk_E} {q : Nat} {u : Value} (hq : f q = some (.inr (.inr (2, [u, .int 0])))) {x : Int32} : zk_Kr Z mm_CmGlobals_roomFor [.ref q, .int x] (w, s, f) (fun v M' => M' = (w, s, f) ∧ ((x ≤ 60 - 0 ∧ v = .int 1) ∨ (60 - 0 < x ∧ v = .int 0))) := by
  refine zk_enterB (by decide) (Nat.le_of_ble_eq_true rfl) rfl ?_
  show zk_P Z mm_CmGlobals_roomFor 0 [some (.ref q), some (.int x)] [] (w, s, f) _
  refine zk_iload_1 1 dc_CmGlobals_roomFor_0 rfl rfl ?_
  refine zk_bipush (v := 60) 3 dc_CmGlobals_roomFor_1 (by decide) rfl ?_
  refine zk_aload_0 4 dc_CmGlobals_roomFor_3 rfl rfl ?_
  refine zk_getfield 7 dc_CmGlobals_roomFor_4 fg_CmGlobals_17 hq rfl rfl ?_
  refine zk_isub 8 dc_CmGlobals_roomFor_7 rfl ?_
  refine zk_icmp_gt 15 11 dc_CmGlobals_roomFor_8 (by decide) rfl (fun hc => ?_) (fun hc => ?_)
  · refine zk_iconst (v := 0) 16 dc_CmGlobals_roomFor_15 (by decide) rfl ?_
    exact zk_ireturn dc_CmGlobals_roomFor_16 rfl (by first | rfl | decide) ⟨_, rfl, rfl, Or.inr ⟨hc, rfl⟩⟩
  · refine zk_iconst (v := 1) 12 dc_CmGlobals_roomFor_11 (by decide) rfl ?_
    refine zk_goto 16 dc_CmGlobals_roomFor_12 (by decide) ?_
    exact zk_ireturn dc_CmGlobals_roomFor_16 rfl (by first | rfl | decide) ⟨_, rfl, rfl, Or.inl ⟨Int32.not_lt.mp hc, rfl⟩⟩
set_option maxHeartbeats 4000000 in
set_option maxRecDepth 100000 in
theorem c_upto {Z : zk_Z} {w s : Nat} {f : Nat → Option zk_E} {x y : Int32} : zk_Kr Z mm_Cm_isUpTo [.int x, .int y] (w, s, f) (fun v M' => M' = (w, s, f) ∧ (((0 ≤ x ∧ x ≤ y) ∧ v = .int 1) ∨ (¬ (0 ≤ x ∧ x ≤ y) ∧ v = .int 0))) := by
  refine zk_enterB (by decide) (Nat.le_of_ble_eq_true rfl) rfl ?_
  show zk_P Z mm_Cm_isUpTo 0 [some (.int x), some (.int y)] [] (w, s, f) _
  refine zk_iload_0 1 dc_Cm_isUpTo_0 rfl rfl ?_
  refine zk_if_lt 13 4 dc_Cm_isUpTo_1 (by decide) rfl (fun hc => ?_) (fun hc => ?_)
  · refine zk_iconst (v := 0) 14 dc_Cm_isUpTo_13 (by decide) rfl ?_
    exact zk_ireturn dc_Cm_isUpTo_14 rfl (by first | rfl | decide) ⟨_, rfl, rfl, Or.inr ⟨fun q => absurd hc (Int32.not_lt.mpr q.1), rfl⟩⟩
  · refine zk_iload_0 5 dc_Cm_isUpTo_4 rfl rfl ?_
    refine zk_iload_1 6 dc_Cm_isUpTo_5 rfl rfl ?_
    refine zk_icmp_gt 13 9 dc_Cm_isUpTo_6 (by decide) rfl (fun hd => ?_) (fun hd => ?_)
    · refine zk_iconst (v := 0) 14 dc_Cm_isUpTo_13 (by decide) rfl ?_
      exact zk_ireturn dc_Cm_isUpTo_14 rfl (by first | rfl | decide) ⟨_, rfl, rfl, Or.inr ⟨fun q => absurd hd (Int32.not_lt.mpr q.2), rfl⟩⟩
    · refine zk_iconst (v := 1) 10 dc_Cm_isUpTo_9 (by decide) rfl ?_
      refine zk_goto 14 dc_Cm_isUpTo_10 (by decide) ?_
      exact zk_ireturn dc_Cm_isUpTo_14 rfl (by first | rfl | decide) ⟨_, rfl, rfl, Or.inl ⟨⟨Int32.not_lt.mp hc, Int32.not_lt.mp hd⟩, rfl⟩⟩
set_option maxHeartbeats 4000000 in
set_option maxRecDepth 100000 in
theorem c_isn {Z : zk_Z} {w s : Nat} {f : Nat → Option zk_E} {x : Int32} : zk_Kr Z mm_Cm_isNumber [.int x] (w, s, f) (fun v M' => M' = (w, s, f) ∧ (((0 ≤ x ∧ x ≤ 199) ∧ v = .int 1) ∨ (¬ (0 ≤ x ∧ x ≤ 199) ∧ v = .int 0))) := by
  refine zk_enterB (by decide) (Nat.le_of_ble_eq_true rfl) rfl ?_
  show zk_P Z mm_Cm_isNumber 0 [some (.int x)] [] (w, s, f) _
  refine zk_iload_0 1 dc_Cm_isNumber_0 rfl rfl ?_
  refine zk_sipush (v := 199) 4 dc_Cm_isNumber_1 (by decide) rfl ?_
  refine zk_cSr 7 (c_upto) dc_Cm_isNumber_4 ok_Cm_isUpTo lk_Cm_112 rfl rfl ⟨Nat.le_of_ble_eq_true rfl, Nat.le_of_ble_eq_true rfl⟩ (Nat.le_of_ble_eq_true rfl) rfl (fun v M1 hk => ?_)
  obtain ⟨rfl, hk⟩ := hk
  rcases hk with ⟨h1, rfl⟩ | ⟨h1, rfl⟩
  · exact zk_ireturn dc_Cm_isNumber_7 rfl (by first | rfl | decide) ⟨_, rfl, rfl, Or.inl ⟨h1, rfl⟩⟩
  · exact zk_ireturn dc_Cm_isNumber_7 rfl (by first | rfl | decide) ⟨_, rfl, rfl, Or.inr ⟨h1, rfl⟩⟩
end
section
abbrev mm_Cm_lift : zk_Mt := (⟨"ClosureMachine", "lift", "(II)I"⟩, prog_1_method_5_code, 3, (Option.some .int), 4, 98)
set_option maxRecDepth 20000 in
theorem ok_Cm_lift : zk_Ok mm_Cm_lift 2 := ⟨zk_in 286 rfl rfl, ⟨by decide +kernel, by decide +kernel, by decide +kernel⟩, zk_in 1 (by decide +kernel) (by decide +kernel)⟩
theorem dc_Cm_lift_0 : decode prog_1_method_5_code 0 = .ok (.aload_n 0, 1) := by decide +kernel
theorem dc_Cm_lift_1 : decode prog_1_method_5_code 1 = .ok (.getfield 10, 3) := by decide +kernel
theorem dc_Cm_lift_4 : decode prog_1_method_5_code 4 = .ok (.iload_n 1, 1) := by decide +kernel
theorem dc_Cm_lift_5 : decode prog_1_method_5_code 5 = .ok (.invokevirtual 81, 3) := by decide +kernel
theorem lk_Cm_81 : zk_LV "ClosureMachine" 81 mm_CmTerms_has := ⟨zk_in 248 (by decide +kernel) (by decide +kernel), zk_in 249 (by decide +kernel) (by decide +kernel), zk_in 250 (by decide +kernel) (by decide +kernel)⟩
theorem dc_Cm_lift_8 : decode prog_1_method_5_code 8 = .ok (.ifCond .eq 22, 3) := by decide +kernel
theorem dc_Cm_lift_30 : decode prog_1_method_5_code 30 = .ok (.iconst (-1), 1) := by decide +kernel
theorem dc_Cm_lift_31 : decode prog_1_method_5_code 31 = .ok (.ireturn, 1) := by decide +kernel
abbrev mm_Cm_def : zk_Mt := (⟨"ClosureMachine", "def", "(I)I"⟩, prog_1_method_7_code, 3, (Option.some .int), 2, 43)
set_option maxRecDepth 20000 in
theorem ok_Cm_def : zk_Ok mm_Cm_def 1 := ⟨zk_in 371 rfl rfl, ⟨by decide +kernel, by decide +kernel, by decide +kernel⟩, zk_in 1 (by decide +kernel) (by decide +kernel)⟩
theorem dc_Cm_def_0 : decode prog_1_method_7_code 0 = .ok (.aload_n 0, 1) := by decide +kernel
theorem dc_Cm_def_1 : decode prog_1_method_7_code 1 = .ok (.getfield 10, 3) := by decide +kernel
theorem dc_Cm_def_4 : decode prog_1_method_7_code 4 = .ok (.iload_n 1, 1) := by decide +kernel
theorem dc_Cm_def_5 : decode prog_1_method_7_code 5 = .ok (.invokevirtual 81, 3) := by decide +kernel
theorem dc_Cm_def_8 : decode prog_1_method_7_code 8 = .ok (.ifCond .eq 25, 3) := by decide +kernel
theorem dc_Cm_def_33 : decode prog_1_method_7_code 33 = .ok (.iconst (-1), 1) := by decide +kernel
theorem dc_Cm_def_34 : decode prog_1_method_7_code 34 = .ok (.ireturn, 1) := by decide +kernel
abbrev mm_Cm_head : zk_Mt := (⟨"ClosureMachine", "head", "(II)I"⟩, prog_1_method_10_code, 3, (Option.some .int), 6, 148)
set_option maxRecDepth 20000 in
theorem ok_Cm_head : zk_Ok mm_Cm_head 2 := ⟨zk_in 422 rfl rfl, ⟨by decide +kernel, by decide +kernel, by decide +kernel⟩, zk_in 1 (by decide +kernel) (by decide +kernel)⟩
theorem dc_Cm_head_0 : decode prog_1_method_10_code 0 = .ok (.aload_n 0, 1) := by decide +kernel
theorem dc_Cm_head_1 : decode prog_1_method_10_code 1 = .ok (.getfield 10, 3) := by decide +kernel
theorem dc_Cm_head_4 : decode prog_1_method_10_code 4 = .ok (.iload_n 1, 1) := by decide +kernel
theorem dc_Cm_head_5 : decode prog_1_method_10_code 5 = .ok (.invokevirtual 81, 3) := by decide +kernel
theorem dc_Cm_head_8 : decode prog_1_method_10_code 8 = .ok (.ifCond .eq 15, 3) := by decide +kernel
theorem dc_Cm_head_23 : decode prog_1_method_10_code 23 = .ok (.iconst (-1), 1) := by decide +kernel
theorem dc_Cm_head_24 : decode prog_1_method_10_code 24 = .ok (.ireturn, 1) := by decide +kernel
abbrev mm_Cm_normal : zk_Mt := (⟨"ClosureMachine", "normal", "(II)I"⟩, prog_1_method_12_code, 7, (Option.some .int), 7, 175)
set_option maxRecDepth 20000 in
theorem ok_Cm_normal : zk_Ok mm_Cm_normal 2 := ⟨zk_in 574 rfl rfl, ⟨by decide +kernel, by decide +kernel, by decide +kernel⟩, zk_in 1 (by decide +kernel) (by decide +kernel)⟩
theorem dc_Cm_normal_0 : decode prog_1_method_12_code 0 = .ok (.aload_n 0, 1) := by decide +kernel
theorem dc_Cm_normal_1 : decode prog_1_method_12_code 1 = .ok (.getfield 10, 3) := by decide +kernel
theorem dc_Cm_normal_4 : decode prog_1_method_12_code 4 = .ok (.iload_n 1, 1) := by decide +kernel
theorem dc_Cm_normal_5 : decode prog_1_method_12_code 5 = .ok (.invokevirtual 81, 3) := by decide +kernel
theorem dc_Cm_normal_8 : decode prog_1_method_12_code 8 = .ok (.ifCond .eq 15, 3) := by decide +kernel
theorem dc_Cm_normal_23 : decode prog_1_method_12_code 23 = .ok (.iconst (-1), 1) := by decide +kernel
theorem dc_Cm_normal_24 : decode prog_1_method_12_code 24 = .ok (.ireturn, 1) := by decide +kernel
abbrev mm_Cm_part : zk_Mt := (⟨"ClosureMachine", "part", "(III)I"⟩, prog_1_method_15_code, 5, (Option.some .int), 3, 72)
set_option maxRecDepth 20000 in
theorem ok_Cm_part : zk_Ok mm_Cm_part 3 := ⟨zk_in 638 rfl rfl, ⟨by decide +kernel, by decide +kernel, by decide +kernel⟩, zk_in 1 (by decide +kernel) (by decide +kernel)⟩
theorem dc_Cm_part_0 : decode prog_1_method_15_code 0 = .ok (.aload_n 0, 1) := by decide +kernel
theorem dc_Cm_part_1 : decode prog_1_method_15_code 1 = .ok (.getfield 10, 3) := by decide +kernel
theorem dc_Cm_part_4 : decode prog_1_method_15_code 4 = .ok (.iload_n 1, 1) := by decide +kernel
theorem dc_Cm_part_5 : decode prog_1_method_15_code 5 = .ok (.invokevirtual 81, 3) := by decide +kernel
theorem dc_Cm_part_8 : decode prog_1_method_15_code 8 = .ok (.ifCond .eq 19, 3) := by decide +kernel
theorem dc_Cm_part_27 : decode prog_1_method_15_code 27 = .ok (.iconst (-1), 1) := by decide +kernel
theorem dc_Cm_part_28 : decode prog_1_method_15_code 28 = .ok (.ireturn, 1) := by decide +kernel
abbrev mm_Cm_cost : zk_Mt := (⟨"ClosureMachine", "cost", "()I"⟩, prog_1_method_13_code, 1, (Option.some .int), 0, 0)
set_option maxRecDepth 20000 in
theorem ok_Cm_cost : zk_Ok mm_Cm_cost 0 := ⟨zk_in 626 rfl rfl, ⟨by decide +kernel, by decide +kernel, by decide +kernel⟩, zk_in 1 (by decide +kernel) (by decide +kernel)⟩
theorem dc_Cm_cost_0 : decode prog_1_method_13_code 0 = .ok (.aload_n 0, 1) := by decide +kernel
theorem dc_Cm_cost_1 : decode prog_1_method_13_code 1 = .ok (.getfield 50, 3) := by decide +kernel
theorem fg_Cm_50 : zk_F "ClosureMachine" 50 6 5 := ⟨rc_6, tc_6, 9, rfl, by decide, zk_in 165 (by decide +kernel) (by decide +kernel)⟩
theorem dc_Cm_cost_4 : decode prog_1_method_13_code 4 = .ok (.ireturn, 1) := by decide +kernel
abbrev mm_Cm_terms : zk_Mt := (⟨"ClosureMachine", "terms", "()I"⟩, prog_1_method_14_code, 1, (Option.some .int), 2, 40)
set_option maxRecDepth 20000 in
theorem ok_Cm_terms : zk_Ok mm_Cm_terms 0 := ⟨zk_in 630 rfl rfl, ⟨by decide +kernel, by decide +kernel, by decide +kernel⟩, zk_in 1 (by decide +kernel) (by decide +kernel)⟩
theorem dc_Cm_terms_0 : decode prog_1_method_14_code 0 = .ok (.aload_n 0, 1) := by decide +kernel
theorem dc_Cm_terms_1 : decode prog_1_method_14_code 1 = .ok (.getfield 10, 3) := by decide +kernel
theorem dc_Cm_terms_4 : decode prog_1_method_14_code 4 = .ok (.invokevirtual 187, 3) := by decide +kernel
theorem lk_Cm_187 : zk_LV "ClosureMachine" 187 mm_CmTerms_count := ⟨zk_in 631 (by decide +kernel) (by decide +kernel), zk_in 632 (by decide +kernel) (by decide +kernel), zk_in 633 (by decide +kernel) (by decide +kernel)⟩
theorem dc_Cm_terms_7 : decode prog_1_method_14_code 7 = .ok (.ireturn, 1) := by decide +kernel
abbrev mm_Cm_join : zk_Mt := (⟨"ClosureMachine", "join", "(III)I"⟩, prog_1_method_3_code, 4, (Option.some .int), 4, 99)
set_option maxRecDepth 20000 in
theorem ok_Cm_join : zk_Ok mm_Cm_join 3 := ⟨zk_in 247 rfl rfl, ⟨by decide +kernel, by decide +kernel, by decide +kernel⟩, zk_in 1 (by decide +kernel) (by decide +kernel)⟩
theorem dc_Cm_join_0 : decode prog_1_method_3_code 0 = .ok (.iload_n 1, 1) := by decide +kernel
theorem dc_Cm_join_1 : decode prog_1_method_3_code 1 = .ok (.iconst 4, 1) := by decide +kernel
theorem dc_Cm_join_2 : decode prog_1_method_3_code 2 = .ok (.if_icmp .eq 11, 3) := by decide +kernel
theorem dc_Cm_join_13 : decode prog_1_method_3_code 13 = .ok (.aload_n 0, 1) := by decide +kernel
theorem dc_Cm_join_14 : decode prog_1_method_3_code 14 = .ok (.getfield 10, 3) := by decide +kernel
theorem dc_Cm_join_17 : decode prog_1_method_3_code 17 = .ok (.iload_n 2, 1) := by decide +kernel
theorem dc_Cm_join_18 : decode prog_1_method_3_code 18 = .ok (.invokevirtual 81, 3) := by decide +kernel
theorem dc_Cm_join_21 : decode prog_1_method_3_code 21 = .ok (.ifCond .eq 28, 3) := by decide +kernel
theorem dc_Cm_join_49 : decode prog_1_method_3_code 49 = .ok (.iconst (-1), 1) := by decide +kernel
theorem dc_Cm_join_50 : decode prog_1_method_3_code 50 = .ok (.ireturn, 1) := by decide +kernel
theorem dc_Cm_join_5 : decode prog_1_method_3_code 5 = .ok (.iload_n 1, 1) := by decide +kernel
theorem dc_Cm_join_6 : decode prog_1_method_3_code 6 = .ok (.bipush 9, 2) := by decide +kernel
theorem dc_Cm_join_8 : decode prog_1_method_3_code 8 = .ok (.if_icmp .eq 5, 3) := by decide +kernel
theorem dc_Cm_join_11 : decode prog_1_method_3_code 11 = .ok (.iconst (-1), 1) := by decide +kernel
theorem dc_Cm_join_12 : decode prog_1_method_3_code 12 = .ok (.ireturn, 1) := by decide +kernel
abbrev mm_Cm_binder : zk_Mt := (⟨"ClosureMachine", "binder", "(IIII)I"⟩, prog_1_method_4_code, 5, (Option.some .int), 4, 99)
set_option maxRecDepth 20000 in
theorem ok_Cm_binder : zk_Ok mm_Cm_binder 4 := ⟨zk_in 282 rfl rfl, ⟨by decide +kernel, by decide +kernel, by decide +kernel⟩, zk_in 1 (by decide +kernel) (by decide +kernel)⟩
theorem dc_Cm_binder_0 : decode prog_1_method_4_code 0 = .ok (.iload_n 1, 1) := by decide +kernel
theorem dc_Cm_binder_1 : decode prog_1_method_4_code 1 = .ok (.iconst 5, 1) := by decide +kernel
theorem dc_Cm_binder_2 : decode prog_1_method_4_code 2 = .ok (.if_icmp .eq 17, 3) := by decide +kernel
theorem dc_Cm_binder_19 : decode prog_1_method_4_code 19 = .ok (.iload_n 2, 1) := by decide +kernel
theorem dc_Cm_binder_20 : decode prog_1_method_4_code 20 = .ok (.iconst (-1), 1) := by decide +kernel
theorem dc_Cm_binder_21 : decode prog_1_method_4_code 21 = .ok (.if_icmp .eq 15, 3) := by decide +kernel
theorem dc_Cm_binder_36 : decode prog_1_method_4_code 36 = .ok (.aload_n 0, 1) := by decide +kernel
theorem dc_Cm_binder_37 : decode prog_1_method_4_code 37 = .ok (.getfield 10, 3) := by decide +kernel
theorem dc_Cm_binder_40 : decode prog_1_method_4_code 40 = .ok (.iload_n 3, 1) := by decide +kernel
theorem dc_Cm_binder_41 : decode prog_1_method_4_code 41 = .ok (.invokevirtual 81, 3) := by decide +kernel
theorem dc_Cm_binder_44 : decode prog_1_method_4_code 44 = .ok (.ifCond .eq 30, 3) := by decide +kernel
theorem dc_Cm_binder_74 : decode prog_1_method_4_code 74 = .ok (.iconst (-1), 1) := by decide +kernel
theorem dc_Cm_binder_75 : decode prog_1_method_4_code 75 = .ok (.ireturn, 1) := by decide +kernel
theorem dc_Cm_binder_24 : decode prog_1_method_4_code 24 = .ok (.iload_n 2, 1) := by decide +kernel
theorem dc_Cm_binder_25 : decode prog_1_method_4_code 25 = .ok (.ifCond .lt 9, 3) := by decide +kernel
theorem dc_Cm_binder_34 : decode prog_1_method_4_code 34 = .ok (.iconst (-1), 1) := by decide +kernel
theorem dc_Cm_binder_35 : decode prog_1_method_4_code 35 = .ok (.ireturn, 1) := by decide +kernel
theorem dc_Cm_binder_28 : decode prog_1_method_4_code 28 = .ok (.iload_n 2, 1) := by decide +kernel
theorem dc_Cm_binder_29 : decode prog_1_method_4_code 29 = .ok (.bipush 99, 2) := by decide +kernel
theorem dc_Cm_binder_31 : decode prog_1_method_4_code 31 = .ok (.if_icmp .le 5, 3) := by decide +kernel
theorem dc_Cm_binder_5 : decode prog_1_method_4_code 5 = .ok (.iload_n 1, 1) := by decide +kernel
theorem dc_Cm_binder_6 : decode prog_1_method_4_code 6 = .ok (.bipush 6, 2) := by decide +kernel
theorem dc_Cm_binder_8 : decode prog_1_method_4_code 8 = .ok (.if_icmp .eq 11, 3) := by decide +kernel
theorem dc_Cm_binder_11 : decode prog_1_method_4_code 11 = .ok (.iload_n 1, 1) := by decide +kernel
theorem dc_Cm_binder_12 : decode prog_1_method_4_code 12 = .ok (.bipush 7, 2) := by decide +kernel
theorem dc_Cm_binder_14 : decode prog_1_method_4_code 14 = .ok (.if_icmp .eq 5, 3) := by decide +kernel
theorem dc_Cm_binder_17 : decode prog_1_method_4_code 17 = .ok (.iconst (-1), 1) := by decide +kernel
theorem dc_Cm_binder_18 : decode prog_1_method_4_code 18 = .ok (.ireturn, 1) := by decide +kernel
abbrev mm_Cm_constructor : zk_Mt := (⟨"ClosureMachine", "constructor", "(II)I"⟩, prog_1_method_9_code, 6, (Option.some .int), 5, 122)
set_option maxRecDepth 20000 in
theorem ok_Cm_constructor : zk_Ok mm_Cm_constructor 2 := ⟨zk_in 387 rfl rfl, ⟨by decide +kernel, by decide +kernel, by decide +kernel⟩, zk_in 1 (by decide +kernel) (by decide +kernel)⟩
theorem dc_Cm_constructor_0 : decode prog_1_method_9_code 0 = .ok (.aload_n 0, 1) := by decide +kernel
theorem dc_Cm_constructor_1 : decode prog_1_method_9_code 1 = .ok (.getfield 19, 3) := by decide +kernel
theorem dc_Cm_constructor_4 : decode prog_1_method_9_code 4 = .ok (.iload_n 1, 1) := by decide +kernel
theorem dc_Cm_constructor_5 : decode prog_1_method_9_code 5 = .ok (.iconst 3, 1) := by decide +kernel
theorem dc_Cm_constructor_6 : decode prog_1_method_9_code 6 = .ok (.invokevirtual 73, 3) := by decide +kernel
theorem lk_Cm_73 : zk_LV "ClosureMachine" 73 mm_CmGlobals_ofKind := ⟨zk_in 202 (by decide +kernel) (by decide +kernel), zk_in 203 (by decide +kernel) (by decide +kernel), zk_in 204 (by decide +kernel) (by decide +kernel)⟩
theorem dc_Cm_constructor_9 : decode prog_1_method_9_code 9 = .ok (.astore_n 3, 1) := by decide +kernel
theorem dc_Cm_constructor_10 : decode prog_1_method_9_code 10 = .ok (.aload_n 3, 1) := by decide +kernel
theorem dc_Cm_constructor_11 : decode prog_1_method_9_code 11 = .ok (.ifnull 32, 3) := by decide +kernel
theorem dc_Cm_constructor_43 : decode prog_1_method_9_code 43 = .ok (.iconst (-1), 1) := by decide +kernel
theorem dc_Cm_constructor_44 : decode prog_1_method_9_code 44 = .ok (.ireturn, 1) := by decide +kernel
abbrev mm_Cm_found : zk_Mt := (⟨"ClosureMachine", "found", "(I)I"⟩, prog_1_method_11_code, 2, (Option.some .int), 0, 0)
set_option maxRecDepth 20000 in
theorem ok_Cm_found : zk_Ok mm_Cm_found 1 := ⟨zk_in 570 rfl rfl, ⟨by decide +kernel, by decide +kernel, by decide +kernel⟩, zk_in 1 (by decide +kernel) (by decide +kernel)⟩
theorem dc_Cm_found_0 : decode prog_1_method_11_code 0 = .ok (.iload_n 1, 1) := by decide +kernel
theorem dc_Cm_found_1 : decode prog_1_method_11_code 1 = .ok (.tableswitch 48 0 2 #[27, 34, 41], 27) := by decide +kernel
theorem dc_Cm_found_28 : decode prog_1_method_11_code 28 = .ok (.aload_n 0, 1) := by decide +kernel
theorem dc_Cm_found_29 : decode prog_1_method_11_code 29 = .ok (.getfield 54, 3) := by decide +kernel
theorem fg_Cm_54 : zk_F "ClosureMachine" 54 6 6 := ⟨rc_6, tc_6, 9, rfl, by decide, zk_in 166 (by decide +kernel) (by decide +kernel)⟩
theorem dc_Cm_found_32 : decode prog_1_method_11_code 32 = .ok (.goto 18, 3) := by decide +kernel
theorem dc_Cm_found_50 : decode prog_1_method_11_code 50 = .ok (.ireturn, 1) := by decide +kernel
theorem dc_Cm_found_35 : decode prog_1_method_11_code 35 = .ok (.aload_n 0, 1) := by decide +kernel
theorem dc_Cm_found_36 : decode prog_1_method_11_code 36 = .ok (.getfield 57, 3) := by decide +kernel
theorem fg_Cm_57 : zk_F "ClosureMachine" 57 6 7 := ⟨rc_6, tc_6, 9, rfl, by decide, zk_in 167 (by decide +kernel) (by decide +kernel)⟩
theorem dc_Cm_found_39 : decode prog_1_method_11_code 39 = .ok (.goto 11, 3) := by decide +kernel
theorem dc_Cm_found_42 : decode prog_1_method_11_code 42 = .ok (.aload_n 0, 1) := by decide +kernel
theorem dc_Cm_found_43 : decode prog_1_method_11_code 43 = .ok (.getfield 60, 3) := by decide +kernel
theorem fg_Cm_60 : zk_F "ClosureMachine" 60 6 8 := ⟨rc_6, tc_6, 9, rfl, by decide, zk_in 168 (by decide +kernel) (by decide +kernel)⟩
theorem dc_Cm_found_46 : decode prog_1_method_11_code 46 = .ok (.goto 4, 3) := by decide +kernel
theorem dc_Cm_found_49 : decode prog_1_method_11_code 49 = .ok (.iconst (-1), 1) := by decide +kernel
abbrev mm_CmRows_add : zk_Mt := (⟨"ClosureMachine$Rows", "add", "(IIII)I"⟩, prog_6_method_2_code, 6, (Option.some .int), 1, 22)
set_option maxRecDepth 20000 in
theorem ok_CmRows_add : zk_Ok mm_CmRows_add 4 := ⟨zk_in 223 rfl rfl, ⟨by decide +kernel, by decide +kernel, by decide +kernel⟩, zk_in 3 (by decide +kernel) (by decide +kernel)⟩
theorem dc_CmRows_add_0 : decode prog_6_method_2_code 0 = .ok (.aload_n 0, 1) := by decide +kernel
theorem dc_CmRows_add_1 : decode prog_6_method_2_code 1 = .ok (.getfield 19, 3) := by decide +kernel
theorem dc_CmRows_add_4 : decode prog_6_method_2_code 4 = .ok (.aload_n 0, 1) := by decide +kernel
theorem dc_CmRows_add_5 : decode prog_6_method_2_code 5 = .ok (.getfield 9, 3) := by decide +kernel
theorem fg_CmRows_9 : zk_F "ClosureMachine$Rows" 9 0 0 := ⟨rc_0, tc_0, 3, rfl, by decide, zk_in 35 (by decide +kernel) (by decide +kernel)⟩
theorem dc_CmRows_add_8 : decode prog_6_method_2_code 8 = .ok (.if_icmp .lt 5, 3) := by decide +kernel
theorem dc_CmRows_add_13 : decode prog_6_method_2_code 13 = .ok (.aload_n 0, 1) := by decide +kernel
theorem dc_CmRows_add_14 : decode prog_6_method_2_code 14 = .ok (.getfield 19, 3) := by decide +kernel
theorem dc_CmRows_add_17 : decode prog_6_method_2_code 17 = .ok (.iconst 4, 1) := by decide +kernel
theorem dc_CmRows_add_18 : decode prog_6_method_2_code 18 = .ok (.imul, 1) := by decide +kernel
theorem dc_CmRows_add_19 : decode prog_6_method_2_code 19 = .ok (.istore 5, 2) := by decide +kernel
theorem dc_CmRows_add_21 : decode prog_6_method_2_code 21 = .ok (.iload 5, 2) := by decide +kernel
theorem dc_CmRows_add_23 : decode prog_6_method_2_code 23 = .ok (.iconst 4, 1) := by decide +kernel
theorem dc_CmRows_add_24 : decode prog_6_method_2_code 24 = .ok (.iadd, 1) := by decide +kernel
theorem dc_CmRows_add_25 : decode prog_6_method_2_code 25 = .ok (.aload_n 0, 1) := by decide +kernel
theorem dc_CmRows_add_26 : decode prog_6_method_2_code 26 = .ok (.getfield 15, 3) := by decide +kernel
theorem fg_CmRows_15 : zk_F "ClosureMachine$Rows" 15 0 1 := ⟨rc_0, tc_0, 3, rfl, by decide, zk_in 36 (by decide +kernel) (by decide +kernel)⟩
theorem dc_CmRows_add_29 : decode prog_6_method_2_code 29 = .ok (.arraylength, 1) := by decide +kernel
theorem dc_CmRows_add_30 : decode prog_6_method_2_code 30 = .ok (.if_icmp .le 21, 3) := by decide +kernel
theorem dc_CmRows_add_51 : decode prog_6_method_2_code 51 = .ok (.aload_n 0, 1) := by decide +kernel
theorem dc_CmRows_add_52 : decode prog_6_method_2_code 52 = .ok (.getfield 15, 3) := by decide +kernel
theorem dc_CmRows_add_55 : decode prog_6_method_2_code 55 = .ok (.iload 5, 2) := by decide +kernel
theorem dc_CmRows_add_57 : decode prog_6_method_2_code 57 = .ok (.iload_n 1, 1) := by decide +kernel
theorem dc_CmRows_add_58 : decode prog_6_method_2_code 58 = .ok (.iastore, 1) := by decide +kernel
theorem dc_CmRows_add_59 : decode prog_6_method_2_code 59 = .ok (.aload_n 0, 1) := by decide +kernel
theorem dc_CmRows_add_60 : decode prog_6_method_2_code 60 = .ok (.getfield 15, 3) := by decide +kernel
theorem dc_CmRows_add_63 : decode prog_6_method_2_code 63 = .ok (.iload 5, 2) := by decide +kernel
theorem dc_CmRows_add_65 : decode prog_6_method_2_code 65 = .ok (.iconst 1, 1) := by decide +kernel
theorem dc_CmRows_add_66 : decode prog_6_method_2_code 66 = .ok (.iadd, 1) := by decide +kernel
theorem dc_CmRows_add_67 : decode prog_6_method_2_code 67 = .ok (.iload_n 2, 1) := by decide +kernel
theorem dc_CmRows_add_68 : decode prog_6_method_2_code 68 = .ok (.iastore, 1) := by decide +kernel
theorem dc_CmRows_add_69 : decode prog_6_method_2_code 69 = .ok (.aload_n 0, 1) := by decide +kernel
theorem dc_CmRows_add_70 : decode prog_6_method_2_code 70 = .ok (.getfield 15, 3) := by decide +kernel
theorem dc_CmRows_add_73 : decode prog_6_method_2_code 73 = .ok (.iload 5, 2) := by decide +kernel
theorem dc_CmRows_add_75 : decode prog_6_method_2_code 75 = .ok (.iconst 2, 1) := by decide +kernel
theorem dc_CmRows_add_76 : decode prog_6_method_2_code 76 = .ok (.iadd, 1) := by decide +kernel
theorem dc_CmRows_add_77 : decode prog_6_method_2_code 77 = .ok (.iload_n 3, 1) := by decide +kernel
theorem dc_CmRows_add_78 : decode prog_6_method_2_code 78 = .ok (.iastore, 1) := by decide +kernel
theorem dc_CmRows_add_79 : decode prog_6_method_2_code 79 = .ok (.aload_n 0, 1) := by decide +kernel
theorem dc_CmRows_add_80 : decode prog_6_method_2_code 80 = .ok (.getfield 15, 3) := by decide +kernel
theorem dc_CmRows_add_83 : decode prog_6_method_2_code 83 = .ok (.iload 5, 2) := by decide +kernel
theorem dc_CmRows_add_85 : decode prog_6_method_2_code 85 = .ok (.iconst 3, 1) := by decide +kernel
theorem dc_CmRows_add_86 : decode prog_6_method_2_code 86 = .ok (.iadd, 1) := by decide +kernel
theorem dc_CmRows_add_87 : decode prog_6_method_2_code 87 = .ok (.iload 4, 2) := by decide +kernel
theorem dc_CmRows_add_89 : decode prog_6_method_2_code 89 = .ok (.iastore, 1) := by decide +kernel
theorem dc_CmRows_add_90 : decode prog_6_method_2_code 90 = .ok (.aload_n 0, 1) := by decide +kernel
theorem dc_CmRows_add_91 : decode prog_6_method_2_code 91 = .ok (.dup, 1) := by decide +kernel
theorem dc_CmRows_add_92 : decode prog_6_method_2_code 92 = .ok (.getfield 19, 3) := by decide +kernel
theorem dc_CmRows_add_95 : decode prog_6_method_2_code 95 = .ok (.dup_x1, 1) := by decide +kernel
theorem dc_CmRows_add_96 : decode prog_6_method_2_code 96 = .ok (.iconst 1, 1) := by decide +kernel
theorem dc_CmRows_add_97 : decode prog_6_method_2_code 97 = .ok (.iadd, 1) := by decide +kernel
theorem dc_CmRows_add_98 : decode prog_6_method_2_code 98 = .ok (.putfield 19, 3) := by decide +kernel
theorem dc_CmRows_add_101 : decode prog_6_method_2_code 101 = .ok (.ireturn, 1) := by decide +kernel
abbrev mm_CmTerms_fits : zk_Mt := (⟨"ClosureMachine$Terms", "fits", "(I)Z"⟩, prog_7_method_13_code, 2, (Option.some .boolean), 1, 20)
set_option maxRecDepth 20000 in
theorem ok_CmTerms_fits : zk_Ok mm_CmTerms_fits 1 := ⟨zk_in 214 rfl rfl, ⟨by decide +kernel, by decide +kernel, by decide +kernel⟩, zk_in 2 (by decide +kernel) (by decide +kernel)⟩
theorem dc_CmTerms_fits_0 : decode prog_7_method_13_code 0 = .ok (.aload_n 0, 1) := by decide +kernel
theorem dc_CmTerms_fits_1 : decode prog_7_method_13_code 1 = .ok (.getfield 21, 3) := by decide +kernel
theorem dc_CmTerms_fits_4 : decode prog_7_method_13_code 4 = .ok (.invokevirtual 35, 3) := by decide +kernel
theorem dc_CmTerms_fits_7 : decode prog_7_method_13_code 7 = .ok (.sipush 3000, 3) := by decide +kernel
theorem dc_CmTerms_fits_10 : decode prog_7_method_13_code 10 = .ok (.if_icmp .ge 25, 3) := by decide +kernel
theorem dc_CmTerms_fits_13 : decode prog_7_method_13_code 13 = .ok (.iload_n 1, 1) := by decide +kernel
theorem dc_CmTerms_fits_14 : decode prog_7_method_13_code 14 = .ok (.sipush 2000, 3) := by decide +kernel
theorem dc_CmTerms_fits_17 : decode prog_7_method_13_code 17 = .ok (.if_icmp .gt 18, 3) := by decide +kernel
theorem dc_CmTerms_fits_20 : decode prog_7_method_13_code 20 = .ok (.iload_n 1, 1) := by decide +kernel
theorem dc_CmTerms_fits_21 : decode prog_7_method_13_code 21 = .ok (.ldc 39, 2) := by decide +kernel
theorem dc_CmTerms_fits_23 : decode prog_7_method_13_code 23 = .ok (.aload_n 0, 1) := by decide +kernel
theorem dc_CmTerms_fits_24 : decode prog_7_method_13_code 24 = .ok (.getfield 27, 3) := by decide +kernel
theorem fg_CmTerms_27 : zk_F "ClosureMachine$Terms" 27 1 3 := ⟨rc_1, tc_1, 4, rfl, by decide, zk_in 51 (by decide +kernel) (by decide +kernel)⟩
theorem dc_CmTerms_fits_27 : decode prog_7_method_13_code 27 = .ok (.isub, 1) := by decide +kernel
theorem dc_CmTerms_fits_28 : decode prog_7_method_13_code 28 = .ok (.if_icmp .gt 7, 3) := by decide +kernel
theorem dc_CmTerms_fits_31 : decode prog_7_method_13_code 31 = .ok (.iconst 1, 1) := by decide +kernel
theorem dc_CmTerms_fits_32 : decode prog_7_method_13_code 32 = .ok (.goto 4, 3) := by decide +kernel
theorem dc_CmTerms_fits_36 : decode prog_7_method_13_code 36 = .ok (.ireturn, 1) := by decide +kernel
abbrev mm_CmTerms_admit : zk_Mt := (⟨"ClosureMachine$Terms", "\x61dmit", "(IIII)I"⟩, prog_7_method_14_code, 5, (Option.some .int), 2, 47)
set_option maxRecDepth 20000 in
theorem ok_CmTerms_admit : zk_Ok mm_CmTerms_admit 4 := ⟨zk_in 243 rfl rfl, ⟨by decide +kernel, by decide +kernel, by decide +kernel⟩, zk_in 2 (by decide +kernel) (by decide +kernel)⟩
theorem dc_CmTerms_admit_0 : decode prog_7_method_14_code 0 = .ok (.aload_n 0, 1) := by decide +kernel
theorem dc_CmTerms_admit_1 : decode prog_7_method_14_code 1 = .ok (.dup, 1) := by decide +kernel
theorem dc_CmTerms_admit_2 : decode prog_7_method_14_code 2 = .ok (.getfield 27, 3) := by decide +kernel
theorem dc_CmTerms_admit_5 : decode prog_7_method_14_code 5 = .ok (.iload_n 2, 1) := by decide +kernel
theorem dc_CmTerms_admit_6 : decode prog_7_method_14_code 6 = .ok (.iadd, 1) := by decide +kernel
theorem dc_CmTerms_admit_7 : decode prog_7_method_14_code 7 = .ok (.putfield 27, 3) := by decide +kernel
theorem dc_CmTerms_admit_10 : decode prog_7_method_14_code 10 = .ok (.aload_n 0, 1) := by decide +kernel
theorem dc_CmTerms_admit_11 : decode prog_7_method_14_code 11 = .ok (.getfield 21, 3) := by decide +kernel
theorem dc_CmTerms_admit_14 : decode prog_7_method_14_code 14 = .ok (.iload_n 1, 1) := by decide +kernel
theorem dc_CmTerms_admit_15 : decode prog_7_method_14_code 15 = .ok (.iload_n 2, 1) := by decide +kernel
theorem dc_CmTerms_admit_16 : decode prog_7_method_14_code 16 = .ok (.iload_n 3, 1) := by decide +kernel
theorem dc_CmTerms_admit_17 : decode prog_7_method_14_code 17 = .ok (.iload 4, 2) := by decide +kernel
theorem dc_CmTerms_admit_19 : decode prog_7_method_14_code 19 = .ok (.invokevirtual 40, 3) := by decide +kernel
theorem lk_CmTerms_40 : zk_LV "ClosureMachine$Terms" 40 mm_CmRows_add := ⟨zk_in 220 (by decide +kernel) (by decide +kernel), zk_in 221 (by decide +kernel) (by decide +kernel), zk_in 222 (by decide +kernel) (by decide +kernel)⟩
theorem dc_CmTerms_admit_22 : decode prog_7_method_14_code 22 = .ok (.ireturn, 1) := by decide +kernel
abbrev mm_CmTerms_addLeaf : zk_Mt := (⟨"ClosureMachine$Terms", "addLeaf", "(III)I"⟩, prog_7_method_15_code, 4, (Option.some .int), 3, 71)
set_option maxRecDepth 20000 in
theorem ok_CmTerms_addLeaf : zk_Ok mm_CmTerms_addLeaf 3 := ⟨zk_in 210 rfl rfl, ⟨by decide +kernel, by decide +kernel, by decide +kernel⟩, zk_in 2 (by decide +kernel) (by decide +kernel)⟩
theorem dc_CmTerms_addLeaf_0 : decode prog_7_method_15_code 0 = .ok (.aload_n 0, 1) := by decide +kernel
theorem dc_CmTerms_addLeaf_1 : decode prog_7_method_15_code 1 = .ok (.iconst 1, 1) := by decide +kernel
theorem dc_CmTerms_addLeaf_2 : decode prog_7_method_15_code 2 = .ok (.invokevirtual 44, 3) := by decide +kernel
theorem lk_CmTerms_44 : zk_LV "ClosureMachine$Terms" 44 mm_CmTerms_fits := ⟨zk_in 211 (by decide +kernel) (by decide +kernel), zk_in 212 (by decide +kernel) (by decide +kernel), zk_in 213 (by decide +kernel) (by decide +kernel)⟩
theorem dc_CmTerms_addLeaf_5 : decode prog_7_method_15_code 5 = .ok (.ifCond .ne 5, 3) := by decide +kernel
theorem dc_CmTerms_addLeaf_10 : decode prog_7_method_15_code 10 = .ok (.aload_n 0, 1) := by decide +kernel
theorem dc_CmTerms_addLeaf_11 : decode prog_7_method_15_code 11 = .ok (.aload_n 0, 1) := by decide +kernel
theorem dc_CmTerms_addLeaf_12 : decode prog_7_method_15_code 12 = .ok (.getfield 17, 3) := by decide +kernel
theorem fg_CmTerms_17 : zk_F "ClosureMachine$Terms" 17 1 0 := ⟨rc_1, tc_1, 4, rfl, by decide, zk_in 46 (by decide +kernel) (by decide +kernel)⟩
theorem dc_CmTerms_addLeaf_15 : decode prog_7_method_15_code 15 = .ok (.iload_n 1, 1) := by decide +kernel
theorem dc_CmTerms_addLeaf_16 : decode prog_7_method_15_code 16 = .ok (.iload_n 2, 1) := by decide +kernel
theorem dc_CmTerms_addLeaf_17 : decode prog_7_method_15_code 17 = .ok (.iload_n 3, 1) := by decide +kernel
theorem dc_CmTerms_addLeaf_18 : decode prog_7_method_15_code 18 = .ok (.iconst (-1), 1) := by decide +kernel
theorem dc_CmTerms_addLeaf_19 : decode prog_7_method_15_code 19 = .ok (.invokevirtual 40, 3) := by decide +kernel
theorem dc_CmTerms_addLeaf_22 : decode prog_7_method_15_code 22 = .ok (.iconst 1, 1) := by decide +kernel
theorem dc_CmTerms_addLeaf_23 : decode prog_7_method_15_code 23 = .ok (.iconst 1, 1) := by decide +kernel
theorem dc_CmTerms_addLeaf_24 : decode prog_7_method_15_code 24 = .ok (.iload_n 1, 1) := by decide +kernel
theorem dc_CmTerms_addLeaf_25 : decode prog_7_method_15_code 25 = .ok (.ifCond .ne 9, 3) := by decide +kernel
theorem dc_CmTerms_addLeaf_34 : decode prog_7_method_15_code 34 = .ok (.iconst 0, 1) := by decide +kernel
theorem dc_CmTerms_addLeaf_35 : decode prog_7_method_15_code 35 = .ok (.invokevirtual 48, 3) := by decide +kernel
theorem lk_CmTerms_48 : zk_LV "ClosureMachine$Terms" 48 mm_CmTerms_admit := ⟨zk_in 240 (by decide +kernel) (by decide +kernel), zk_in 241 (by decide +kernel) (by decide +kernel), zk_in 242 (by decide +kernel) (by decide +kernel)⟩
theorem dc_CmTerms_addLeaf_38 : decode prog_7_method_15_code 38 = .ok (.ireturn, 1) := by decide +kernel
theorem dc_CmTerms_addLeaf_28 : decode prog_7_method_15_code 28 = .ok (.iload_n 2, 1) := by decide +kernel
theorem dc_CmTerms_addLeaf_29 : decode prog_7_method_15_code 29 = .ok (.iconst 1, 1) := by decide +kernel
theorem dc_CmTerms_addLeaf_30 : decode prog_7_method_15_code 30 = .ok (.iadd, 1) := by decide +kernel
theorem dc_CmTerms_addLeaf_31 : decode prog_7_method_15_code 31 = .ok (.goto 4, 3) := by decide +kernel
end
section
set_option maxHeartbeats 4000000 in
set_option maxRecDepth 100000 in
theorem f_lift {Z : zk_Z} {w s : Nat} {f : Nat → Option zk_E} {a n : Nat} (ha : f (a) = some (.inr (.inr (6, [.ref n, .ref (n + 7), .ref (n + 9), .ref (n + 10), .ref (n + 17), .int (-1), .int (-1), .int (-1), .int (-1)])))) (ht : f (n) = some (.inr (.inr (1, [.ref (n + 1), .ref (n + 3), .ref (n + 5), .int 0])))) (hq0 : f (n + 1) = some (.inr (.inr (0, [.int 46000, .ref (n + 2), .int 0])))) (hr0 : f (n + 2) = some (.inl (256, fun _ => 0))) (hq1 : f (n + 3) = some (.inr (.inr (0, [.int 3000, .ref (n + 4), .int 0])))) (hr1 : f (n + 4) = some (.inl (256, fun _ => 0))) (hg : f (n + 7) = some (.inr (.inr (2, [.ref (n + 8), .int 0])))) (hga : f (n + 8) = some (.inr (.inl (1, 60, fun _ => none)))) (hlt : a < n) (hw : n + 20 ≤ w) {x y : Int32} : zk_Kr Z mm_Cm_lift [.ref a, .int x, .int y] (w, s, f) (fun v M' => v = .int (-1) ∧ p1_po w s n f M') := by
  refine zk_enterB (by decide) (Nat.le_of_ble_eq_true rfl) rfl ?_
  show zk_P Z mm_Cm_lift 0 [some (.ref a), some (.int x), some (.int y)] [] (w, s, f) _
  refine zk_aload_0 1 dc_Cm_lift_0 rfl rfl ?_
  refine zk_getfield 4 dc_Cm_lift_1 fg_Cm_10 ha rfl rfl ?_
  refine zk_iload_1 5 dc_Cm_lift_4 rfl rfl ?_
  refine zk_cVr 8 (c_has ht hq1) dc_Cm_lift_5 ok_CmTerms_has lk_Cm_81 ht rfl rfl rfl ⟨Nat.le_of_ble_eq_true rfl, Nat.le_of_ble_eq_true rfl⟩ (Nat.le_of_ble_eq_true rfl) rfl (fun v M1 hk => ?_)
  obtain ⟨rfl, rfl⟩ := hk
  refine zk_if_eq 30 11 dc_Cm_lift_8 (by decide) rfl (fun hx => ?_) (fun hx => by first | exact absurd hx rfl | exact absurd rfl hx)
  refine zk_iconst (v := -1) 31 dc_Cm_lift_30 (by decide) rfl ?_
  exact zk_ireturn dc_Cm_lift_31 rfl (by first | rfl | decide) ⟨_, rfl, rfl, p1_same⟩
set_option maxHeartbeats 4000000 in
set_option maxRecDepth 100000 in
theorem f_def {Z : zk_Z} {w s : Nat} {f : Nat → Option zk_E} {a n : Nat} (ha : f (a) = some (.inr (.inr (6, [.ref n, .ref (n + 7), .ref (n + 9), .ref (n + 10), .ref (n + 17), .int (-1), .int (-1), .int (-1), .int (-1)])))) (ht : f (n) = some (.inr (.inr (1, [.ref (n + 1), .ref (n + 3), .ref (n + 5), .int 0])))) (hq0 : f (n + 1) = some (.inr (.inr (0, [.int 46000, .ref (n + 2), .int 0])))) (hr0 : f (n + 2) = some (.inl (256, fun _ => 0))) (hq1 : f (n + 3) = some (.inr (.inr (0, [.int 3000, .ref (n + 4), .int 0])))) (hr1 : f (n + 4) = some (.inl (256, fun _ => 0))) (hg : f (n + 7) = some (.inr (.inr (2, [.ref (n + 8), .int 0])))) (hga : f (n + 8) = some (.inr (.inl (1, 60, fun _ => none)))) (hlt : a < n) (hw : n + 20 ≤ w) {x : Int32} : zk_Kr Z mm_Cm_def [.ref a, .int x] (w, s, f) (fun v M' => v = .int (-1) ∧ p1_po w s n f M') := by
  refine zk_enterB (by decide) (Nat.le_of_ble_eq_true rfl) rfl ?_
  show zk_P Z mm_Cm_def 0 [some (.ref a), some (.int x), none] [] (w, s, f) _
  refine zk_aload_0 1 dc_Cm_def_0 rfl rfl ?_
  refine zk_getfield 4 dc_Cm_def_1 fg_Cm_10 ha rfl rfl ?_
  refine zk_iload_1 5 dc_Cm_def_4 rfl rfl ?_
  refine zk_cVr 8 (c_has ht hq1) dc_Cm_def_5 ok_CmTerms_has lk_Cm_81 ht rfl rfl rfl ⟨Nat.le_of_ble_eq_true rfl, Nat.le_of_ble_eq_true rfl⟩ (Nat.le_of_ble_eq_true rfl) rfl (fun v M1 hk => ?_)
  obtain ⟨rfl, rfl⟩ := hk
  refine zk_if_eq 33 11 dc_Cm_def_8 (by decide) rfl (fun hx => ?_) (fun hx => by first | exact absurd hx rfl | exact absurd rfl hx)
  refine zk_iconst (v := -1) 34 dc_Cm_def_33 (by decide) rfl ?_
  exact zk_ireturn dc_Cm_def_34 rfl (by first | rfl | decide) ⟨_, rfl, rfl, p1_same⟩
set_option maxHeartbeats 4000000 in
set_option maxRecDepth 100000 in
theorem f_head {Z : zk_Z} {w s : Nat} {f : Nat → Option zk_E} {a n : Nat} (ha : f (a) = some (.inr (.inr (6, [.ref n, .ref (n + 7), .ref (n + 9), .ref (n + 10), .ref (n + 17), .int (-1), .int (-1), .int (-1), .int (-1)])))) (ht : f (n) = some (.inr (.inr (1, [.ref (n + 1), .ref (n + 3), .ref (n + 5), .int 0])))) (hq0 : f (n + 1) = some (.inr (.inr (0, [.int 46000, .ref (n + 2), .int 0])))) (hr0 : f (n + 2) = some (.inl (256, fun _ => 0))) (hq1 : f (n + 3) = some (.inr (.inr (0, [.int 3000, .ref (n + 4), .int 0])))) (hr1 : f (n + 4) = some (.inl (256, fun _ => 0))) (hg : f (n + 7) = some (.inr (.inr (2, [.ref (n + 8), .int 0])))) (hga : f (n + 8) = some (.inr (.inl (1, 60, fun _ => none)))) (hlt : a < n) (hw : n + 20 ≤ w) {x y : Int32} : zk_Kr Z mm_Cm_head [.ref a, .int x, .int y] (w, s, f) (fun v M' => v = .int (-1) ∧ p1_po w s n f M') := by
  refine zk_enterB (by decide) (Nat.le_of_ble_eq_true rfl) rfl ?_
  show zk_P Z mm_Cm_head 0 [some (.ref a), some (.int x), some (.int y)] [] (w, s, f) _
  refine zk_aload_0 1 dc_Cm_head_0 rfl rfl ?_
  refine zk_getfield 4 dc_Cm_head_1 fg_Cm_10 ha rfl rfl ?_
  refine zk_iload_1 5 dc_Cm_head_4 rfl rfl ?_
  refine zk_cVr 8 (c_has ht hq1) dc_Cm_head_5 ok_CmTerms_has lk_Cm_81 ht rfl rfl rfl ⟨Nat.le_of_ble_eq_true rfl, Nat.le_of_ble_eq_true rfl⟩ (Nat.le_of_ble_eq_true rfl) rfl (fun v M1 hk => ?_)
  obtain ⟨rfl, rfl⟩ := hk
  refine zk_if_eq 23 11 dc_Cm_head_8 (by decide) rfl (fun hx => ?_) (fun hx => by first | exact absurd hx rfl | exact absurd rfl hx)
  refine zk_iconst (v := -1) 24 dc_Cm_head_23 (by decide) rfl ?_
  exact zk_ireturn dc_Cm_head_24 rfl (by first | rfl | decide) ⟨_, rfl, rfl, p1_same⟩
set_option maxHeartbeats 4000000 in
set_option maxRecDepth 100000 in
theorem f_normal {Z : zk_Z} {w s : Nat} {f : Nat → Option zk_E} {a n : Nat} (ha : f (a) = some (.inr (.inr (6, [.ref n, .ref (n + 7), .ref (n + 9), .ref (n + 10), .ref (n + 17), .int (-1), .int (-1), .int (-1), .int (-1)])))) (ht : f (n) = some (.inr (.inr (1, [.ref (n + 1), .ref (n + 3), .ref (n + 5), .int 0])))) (hq0 : f (n + 1) = some (.inr (.inr (0, [.int 46000, .ref (n + 2), .int 0])))) (hr0 : f (n + 2) = some (.inl (256, fun _ => 0))) (hq1 : f (n + 3) = some (.inr (.inr (0, [.int 3000, .ref (n + 4), .int 0])))) (hr1 : f (n + 4) = some (.inl (256, fun _ => 0))) (hg : f (n + 7) = some (.inr (.inr (2, [.ref (n + 8), .int 0])))) (hga : f (n + 8) = some (.inr (.inl (1, 60, fun _ => none)))) (hlt : a < n) (hw : n + 20 ≤ w) {x y : Int32} : zk_Kr Z mm_Cm_normal [.ref a, .int x, .int y] (w, s, f) (fun v M' => v = .int (-1) ∧ p1_po w s n f M') := by
  refine zk_enterB (by decide) (Nat.le_of_ble_eq_true rfl) rfl ?_
  show zk_P Z mm_Cm_normal 0 [some (.ref a), some (.int x), some (.int y), none, none, none, none] [] (w, s, f) _
  refine zk_aload_0 1 dc_Cm_normal_0 rfl rfl ?_
  refine zk_getfield 4 dc_Cm_normal_1 fg_Cm_10 ha rfl rfl ?_
  refine zk_iload_1 5 dc_Cm_normal_4 rfl rfl ?_
  refine zk_cVr 8 (c_has ht hq1) dc_Cm_normal_5 ok_CmTerms_has lk_Cm_81 ht rfl rfl rfl ⟨Nat.le_of_ble_eq_true rfl, Nat.le_of_ble_eq_true rfl⟩ (Nat.le_of_ble_eq_true rfl) rfl (fun v M1 hk => ?_)
  obtain ⟨rfl, rfl⟩ := hk
  refine zk_if_eq 23 11 dc_Cm_normal_8 (by decide) rfl (fun hx => ?_) (fun hx => by first | exact absurd hx rfl | exact absurd rfl hx)
  refine zk_iconst (v := -1) 24 dc_Cm_normal_23 (by decide) rfl ?_
  exact zk_ireturn dc_Cm_normal_24 rfl (by first | rfl | decide) ⟨_, rfl, rfl, p1_same⟩
set_option maxHeartbeats 4000000 in
set_option maxRecDepth 100000 in
theorem f_part {Z : zk_Z} {w s : Nat} {f : Nat → Option zk_E} {a n : Nat} (ha : f (a) = some (.inr (.inr (6, [.ref n, .ref (n + 7), .ref (n + 9), .ref (n + 10), .ref (n + 17), .int (-1), .int (-1), .int (-1), .int (-1)])))) (ht : f (n) = some (.inr (.inr (1, [.ref (n + 1), .ref (n + 3), .ref (n + 5), .int 0])))) (hq0 : f (n + 1) = some (.inr (.inr (0, [.int 46000, .ref (n + 2), .int 0])))) (hr0 : f (n + 2) = some (.inl (256, fun _ => 0))) (hq1 : f (n + 3) = some (.inr (.inr (0, [.int 3000, .ref (n + 4), .int 0])))) (hr1 : f (n + 4) = some (.inl (256, fun _ => 0))) (hg : f (n + 7) = some (.inr (.inr (2, [.ref (n + 8), .int 0])))) (hga : f (n + 8) = some (.inr (.inl (1, 60, fun _ => none)))) (hlt : a < n) (hw : n + 20 ≤ w) {x y z : Int32} : zk_Kr Z mm_Cm_part [.ref a, .int x, .int y, .int z] (w, s, f) (fun v M' => v = .int (-1) ∧ p1_po w s n f M') := by
  refine zk_enterB (by decide) (Nat.le_of_ble_eq_true rfl) rfl ?_
  show zk_P Z mm_Cm_part 0 [some (.ref a), some (.int x), some (.int y), some (.int z), none] [] (w, s, f) _
  refine zk_aload_0 1 dc_Cm_part_0 rfl rfl ?_
  refine zk_getfield 4 dc_Cm_part_1 fg_Cm_10 ha rfl rfl ?_
  refine zk_iload_1 5 dc_Cm_part_4 rfl rfl ?_
  refine zk_cVr 8 (c_has ht hq1) dc_Cm_part_5 ok_CmTerms_has lk_Cm_81 ht rfl rfl rfl ⟨Nat.le_of_ble_eq_true rfl, Nat.le_of_ble_eq_true rfl⟩ (Nat.le_of_ble_eq_true rfl) rfl (fun v M1 hk => ?_)
  obtain ⟨rfl, rfl⟩ := hk
  refine zk_if_eq 27 11 dc_Cm_part_8 (by decide) rfl (fun hx => ?_) (fun hx => by first | exact absurd hx rfl | exact absurd rfl hx)
  refine zk_iconst (v := -1) 28 dc_Cm_part_27 (by decide) rfl ?_
  exact zk_ireturn dc_Cm_part_28 rfl (by first | rfl | decide) ⟨_, rfl, rfl, p1_same⟩
set_option maxHeartbeats 4000000 in
set_option maxRecDepth 100000 in
theorem f_cost {Z : zk_Z} {w s : Nat} {f : Nat → Option zk_E} {a n : Nat} (ha : f (a) = some (.inr (.inr (6, [.ref n, .ref (n + 7), .ref (n + 9), .ref (n + 10), .ref (n + 17), .int (-1), .int (-1), .int (-1), .int (-1)])))) (ht : f (n) = some (.inr (.inr (1, [.ref (n + 1), .ref (n + 3), .ref (n + 5), .int 0])))) (hq0 : f (n + 1) = some (.inr (.inr (0, [.int 46000, .ref (n + 2), .int 0])))) (hr0 : f (n + 2) = some (.inl (256, fun _ => 0))) (hq1 : f (n + 3) = some (.inr (.inr (0, [.int 3000, .ref (n + 4), .int 0])))) (hr1 : f (n + 4) = some (.inl (256, fun _ => 0))) (hg : f (n + 7) = some (.inr (.inr (2, [.ref (n + 8), .int 0])))) (hga : f (n + 8) = some (.inr (.inl (1, 60, fun _ => none)))) (hlt : a < n) (hw : n + 20 ≤ w)  : zk_Kr Z mm_Cm_cost [.ref a] (w, s, f) (fun v M' => v = .int (-1) ∧ p1_po w s n f M') := by
  refine zk_enterB (by decide) (Nat.le_of_ble_eq_true rfl) rfl ?_
  show zk_P Z mm_Cm_cost 0 [some (.ref a)] [] (w, s, f) _
  refine zk_aload_0 1 dc_Cm_cost_0 rfl rfl ?_
  refine zk_getfield 4 dc_Cm_cost_1 fg_Cm_50 ha rfl rfl ?_
  exact zk_ireturn dc_Cm_cost_4 rfl (by first | rfl | decide) ⟨_, rfl, rfl, p1_same⟩
set_option maxHeartbeats 4000000 in
set_option maxRecDepth 100000 in
theorem f_terms {Z : zk_Z} {w s : Nat} {f : Nat → Option zk_E} {a n : Nat} (ha : f (a) = some (.inr (.inr (6, [.ref n, .ref (n + 7), .ref (n + 9), .ref (n + 10), .ref (n + 17), .int (-1), .int (-1), .int (-1), .int (-1)])))) (ht : f (n) = some (.inr (.inr (1, [.ref (n + 1), .ref (n + 3), .ref (n + 5), .int 0])))) (hq0 : f (n + 1) = some (.inr (.inr (0, [.int 46000, .ref (n + 2), .int 0])))) (hr0 : f (n + 2) = some (.inl (256, fun _ => 0))) (hq1 : f (n + 3) = some (.inr (.inr (0, [.int 3000, .ref (n + 4), .int 0])))) (hr1 : f (n + 4) = some (.inl (256, fun _ => 0))) (hg : f (n + 7) = some (.inr (.inr (2, [.ref (n + 8), .int 0])))) (hga : f (n + 8) = some (.inr (.inl (1, 60, fun _ => none)))) (hlt : a < n) (hw : n + 20 ≤ w)  : zk_Kr Z mm_Cm_terms [.ref a] (w, s, f) (fun v M' => v = .int (0) ∧ p1_po w s n f M') := by
  refine zk_enterB (by decide) (Nat.le_of_ble_eq_true rfl) rfl ?_
  show zk_P Z mm_Cm_terms 0 [some (.ref a)] [] (w, s, f) _
  refine zk_aload_0 1 dc_Cm_terms_0 rfl rfl ?_
  refine zk_getfield 4 dc_Cm_terms_1 fg_Cm_10 ha rfl rfl ?_
  refine zk_cVr 7 (c_count ht hq1) dc_Cm_terms_4 ok_CmTerms_count lk_Cm_187 ht rfl rfl rfl ⟨Nat.le_of_ble_eq_true rfl, Nat.le_of_ble_eq_true rfl⟩ (Nat.le_of_ble_eq_true rfl) rfl (fun v M1 hk => ?_)
  obtain ⟨rfl, rfl⟩ := hk
  exact zk_ireturn dc_Cm_terms_7 rfl (by first | rfl | decide) ⟨_, rfl, rfl, p1_same⟩
set_option maxHeartbeats 4000000 in
set_option maxRecDepth 100000 in
theorem f_join {Z : zk_Z} {w s : Nat} {f : Nat → Option zk_E} {a n : Nat} (ha : f (a) = some (.inr (.inr (6, [.ref n, .ref (n + 7), .ref (n + 9), .ref (n + 10), .ref (n + 17), .int (-1), .int (-1), .int (-1), .int (-1)])))) (ht : f (n) = some (.inr (.inr (1, [.ref (n + 1), .ref (n + 3), .ref (n + 5), .int 0])))) (hq0 : f (n + 1) = some (.inr (.inr (0, [.int 46000, .ref (n + 2), .int 0])))) (hr0 : f (n + 2) = some (.inl (256, fun _ => 0))) (hq1 : f (n + 3) = some (.inr (.inr (0, [.int 3000, .ref (n + 4), .int 0])))) (hr1 : f (n + 4) = some (.inl (256, fun _ => 0))) (hg : f (n + 7) = some (.inr (.inr (2, [.ref (n + 8), .int 0])))) (hga : f (n + 8) = some (.inr (.inl (1, 60, fun _ => none)))) (hlt : a < n) (hw : n + 20 ≤ w) {x y z : Int32} : zk_Kr Z mm_Cm_join [.ref a, .int x, .int y, .int z] (w, s, f) (fun v M' => v = .int (-1) ∧ p1_po w s n f M') := by
  refine zk_enterB (by decide) (Nat.le_of_ble_eq_true rfl) rfl ?_
  show zk_P Z mm_Cm_join 0 [some (.ref a), some (.int x), some (.int y), some (.int z)] [] (w, s, f) _
  refine zk_iload_1 1 dc_Cm_join_0 rfl rfl ?_
  refine zk_iconst (v := 4) 2 dc_Cm_join_1 (by decide) rfl ?_
  refine zk_icmp_eq 13 5 dc_Cm_join_2 (by decide) rfl (fun hc => ?_) (fun hc => ?_)
  · refine zk_aload_0 14 dc_Cm_join_13 rfl rfl ?_
    refine zk_getfield 17 dc_Cm_join_14 fg_Cm_10 ha rfl rfl ?_
    refine zk_iload_2 18 dc_Cm_join_17 rfl rfl ?_
    refine zk_cVr 21 (c_has ht hq1) dc_Cm_join_18 ok_CmTerms_has lk_Cm_81 ht rfl rfl rfl ⟨Nat.le_of_ble_eq_true rfl, Nat.le_of_ble_eq_true rfl⟩ (Nat.le_of_ble_eq_true rfl) rfl (fun v M1 hk => ?_)
    obtain ⟨rfl, rfl⟩ := hk
    refine zk_if_eq 49 24 dc_Cm_join_21 (by decide) rfl (fun hx => ?_) (fun hx => by first | exact absurd hx rfl | exact absurd rfl hx)
    refine zk_iconst (v := -1) 50 dc_Cm_join_49 (by decide) rfl ?_
    exact zk_ireturn dc_Cm_join_50 rfl (by first | rfl | decide) ⟨_, rfl, rfl, p1_same⟩
  · refine zk_iload_1 6 dc_Cm_join_5 rfl rfl ?_
    refine zk_bipush (v := 9) 8 dc_Cm_join_6 (by decide) rfl ?_
    refine zk_icmp_eq 13 11 dc_Cm_join_8 (by decide) rfl (fun hc => ?_) (fun hc => ?_)
    · refine zk_aload_0 14 dc_Cm_join_13 rfl rfl ?_
      refine zk_getfield 17 dc_Cm_join_14 fg_Cm_10 ha rfl rfl ?_
      refine zk_iload_2 18 dc_Cm_join_17 rfl rfl ?_
      refine zk_cVr 21 (c_has ht hq1) dc_Cm_join_18 ok_CmTerms_has lk_Cm_81 ht rfl rfl rfl ⟨Nat.le_of_ble_eq_true rfl, Nat.le_of_ble_eq_true rfl⟩ (Nat.le_of_ble_eq_true rfl) rfl (fun v M1 hk => ?_)
      obtain ⟨rfl, rfl⟩ := hk
      refine zk_if_eq 49 24 dc_Cm_join_21 (by decide) rfl (fun hx => ?_) (fun hx => by first | exact absurd hx rfl | exact absurd rfl hx)
      refine zk_iconst (v := -1) 50 dc_Cm_join_49 (by decide) rfl ?_
      exact zk_ireturn dc_Cm_join_50 rfl (by first | rfl | decide) ⟨_, rfl, rfl, p1_same⟩
    · refine zk_iconst (v := -1) 12 dc_Cm_join_11 (by decide) rfl ?_
      exact zk_ireturn dc_Cm_join_12 rfl (by first | rfl | decide) ⟨_, rfl, rfl, p1_same⟩
set_option maxHeartbeats 4000000 in
set_option maxRecDepth 100000 in
theorem f_binder {Z : zk_Z} {w s : Nat} {f : Nat → Option zk_E} {a n : Nat} (ha : f (a) = some (.inr (.inr (6, [.ref n, .ref (n + 7), .ref (n + 9), .ref (n + 10), .ref (n + 17), .int (-1), .int (-1), .int (-1), .int (-1)])))) (ht : f (n) = some (.inr (.inr (1, [.ref (n + 1), .ref (n + 3), .ref (n + 5), .int 0])))) (hq0 : f (n + 1) = some (.inr (.inr (0, [.int 46000, .ref (n + 2), .int 0])))) (hr0 : f (n + 2) = some (.inl (256, fun _ => 0))) (hq1 : f (n + 3) = some (.inr (.inr (0, [.int 3000, .ref (n + 4), .int 0])))) (hr1 : f (n + 4) = some (.inl (256, fun _ => 0))) (hg : f (n + 7) = some (.inr (.inr (2, [.ref (n + 8), .int 0])))) (hga : f (n + 8) = some (.inr (.inl (1, 60, fun _ => none)))) (hlt : a < n) (hw : n + 20 ≤ w) {x y z u : Int32} : zk_Kr Z mm_Cm_binder [.ref a, .int x, .int y, .int z, .int u] (w, s, f) (fun v M' => v = .int (-1) ∧ p1_po w s n f M') := by
  refine zk_enterB (by decide) (Nat.le_of_ble_eq_true rfl) rfl ?_
  show zk_P Z mm_Cm_binder 0 [some (.ref a), some (.int x), some (.int y), some (.int z), some (.int u)] [] (w, s, f) _
  refine zk_iload_1 1 dc_Cm_binder_0 rfl rfl ?_
  refine zk_iconst (v := 5) 2 dc_Cm_binder_1 (by decide) rfl ?_
  refine zk_icmp_eq 19 5 dc_Cm_binder_2 (by decide) rfl (fun hc => ?_) (fun hc => ?_)
  · refine zk_iload_2 20 dc_Cm_binder_19 rfl rfl ?_
    refine zk_iconst (v := -1) 21 dc_Cm_binder_20 (by decide) rfl ?_
    refine zk_icmp_eq 36 24 dc_Cm_binder_21 (by decide) rfl (fun hc => ?_) (fun hc => ?_)
    · refine zk_aload_0 37 dc_Cm_binder_36 rfl rfl ?_
      refine zk_getfield 40 dc_Cm_binder_37 fg_Cm_10 ha rfl rfl ?_
      refine zk_iload_3 41 dc_Cm_binder_40 rfl rfl ?_
      refine zk_cVr 44 (c_has ht hq1) dc_Cm_binder_41 ok_CmTerms_has lk_Cm_81 ht rfl rfl rfl ⟨Nat.le_of_ble_eq_true rfl, Nat.le_of_ble_eq_true rfl⟩ (Nat.le_of_ble_eq_true rfl) rfl (fun v M1 hk => ?_)
      obtain ⟨rfl, rfl⟩ := hk
      refine zk_if_eq 74 47 dc_Cm_binder_44 (by decide) rfl (fun hx => ?_) (fun hx => by first | exact absurd hx rfl | exact absurd rfl hx)
      refine zk_iconst (v := -1) 75 dc_Cm_binder_74 (by decide) rfl ?_
      exact zk_ireturn dc_Cm_binder_75 rfl (by first | rfl | decide) ⟨_, rfl, rfl, p1_same⟩
    · refine zk_iload_2 25 dc_Cm_binder_24 rfl rfl ?_
      refine zk_if_lt 34 28 dc_Cm_binder_25 (by decide) rfl (fun hc => ?_) (fun hc => ?_)
      · refine zk_iconst (v := -1) 35 dc_Cm_binder_34 (by decide) rfl ?_
        exact zk_ireturn dc_Cm_binder_35 rfl (by first | rfl | decide) ⟨_, rfl, rfl, p1_same⟩
      · refine zk_iload_2 29 dc_Cm_binder_28 rfl rfl ?_
        refine zk_bipush (v := 99) 31 dc_Cm_binder_29 (by decide) rfl ?_
        refine zk_icmp_le 36 34 dc_Cm_binder_31 (by decide) rfl (fun hc => ?_) (fun hc => ?_)
        · refine zk_aload_0 37 dc_Cm_binder_36 rfl rfl ?_
          refine zk_getfield 40 dc_Cm_binder_37 fg_Cm_10 ha rfl rfl ?_
          refine zk_iload_3 41 dc_Cm_binder_40 rfl rfl ?_
          refine zk_cVr 44 (c_has ht hq1) dc_Cm_binder_41 ok_CmTerms_has lk_Cm_81 ht rfl rfl rfl ⟨Nat.le_of_ble_eq_true rfl, Nat.le_of_ble_eq_true rfl⟩ (Nat.le_of_ble_eq_true rfl) rfl (fun v M1 hk => ?_)
          obtain ⟨rfl, rfl⟩ := hk
          refine zk_if_eq 74 47 dc_Cm_binder_44 (by decide) rfl (fun hx => ?_) (fun hx => by first | exact absurd hx rfl | exact absurd rfl hx)
          refine zk_iconst (v := -1) 75 dc_Cm_binder_74 (by decide) rfl ?_
          exact zk_ireturn dc_Cm_binder_75 rfl (by first | rfl | decide) ⟨_, rfl, rfl, p1_same⟩
        · refine zk_iconst (v := -1) 35 dc_Cm_binder_34 (by decide) rfl ?_
          exact zk_ireturn dc_Cm_binder_35 rfl (by first | rfl | decide) ⟨_, rfl, rfl, p1_same⟩
  · refine zk_iload_1 6 dc_Cm_binder_5 rfl rfl ?_
    refine zk_bipush (v := 6) 8 dc_Cm_binder_6 (by decide) rfl ?_
    refine zk_icmp_eq 19 11 dc_Cm_binder_8 (by decide) rfl (fun hc => ?_) (fun hc => ?_)
    · refine zk_iload_2 20 dc_Cm_binder_19 rfl rfl ?_
      refine zk_iconst (v := -1) 21 dc_Cm_binder_20 (by decide) rfl ?_
      refine zk_icmp_eq 36 24 dc_Cm_binder_21 (by decide) rfl (fun hc => ?_) (fun hc => ?_)
      · refine zk_aload_0 37 dc_Cm_binder_36 rfl rfl ?_
        refine zk_getfield 40 dc_Cm_binder_37 fg_Cm_10 ha rfl rfl ?_
        refine zk_iload_3 41 dc_Cm_binder_40 rfl rfl ?_
        refine zk_cVr 44 (c_has ht hq1) dc_Cm_binder_41 ok_CmTerms_has lk_Cm_81 ht rfl rfl rfl ⟨Nat.le_of_ble_eq_true rfl, Nat.le_of_ble_eq_true rfl⟩ (Nat.le_of_ble_eq_true rfl) rfl (fun v M1 hk => ?_)
        obtain ⟨rfl, rfl⟩ := hk
        refine zk_if_eq 74 47 dc_Cm_binder_44 (by decide) rfl (fun hx => ?_) (fun hx => by first | exact absurd hx rfl | exact absurd rfl hx)
        refine zk_iconst (v := -1) 75 dc_Cm_binder_74 (by decide) rfl ?_
        exact zk_ireturn dc_Cm_binder_75 rfl (by first | rfl | decide) ⟨_, rfl, rfl, p1_same⟩
      · refine zk_iload_2 25 dc_Cm_binder_24 rfl rfl ?_
        refine zk_if_lt 34 28 dc_Cm_binder_25 (by decide) rfl (fun hc => ?_) (fun hc => ?_)
        · refine zk_iconst (v := -1) 35 dc_Cm_binder_34 (by decide) rfl ?_
          exact zk_ireturn dc_Cm_binder_35 rfl (by first | rfl | decide) ⟨_, rfl, rfl, p1_same⟩
        · refine zk_iload_2 29 dc_Cm_binder_28 rfl rfl ?_
          refine zk_bipush (v := 99) 31 dc_Cm_binder_29 (by decide) rfl ?_
          refine zk_icmp_le 36 34 dc_Cm_binder_31 (by decide) rfl (fun hc => ?_) (fun hc => ?_)
          · refine zk_aload_0 37 dc_Cm_binder_36 rfl rfl ?_
            refine zk_getfield 40 dc_Cm_binder_37 fg_Cm_10 ha rfl rfl ?_
            refine zk_iload_3 41 dc_Cm_binder_40 rfl rfl ?_
            refine zk_cVr 44 (c_has ht hq1) dc_Cm_binder_41 ok_CmTerms_has lk_Cm_81 ht rfl rfl rfl ⟨Nat.le_of_ble_eq_true rfl, Nat.le_of_ble_eq_true rfl⟩ (Nat.le_of_ble_eq_true rfl) rfl (fun v M1 hk => ?_)
            obtain ⟨rfl, rfl⟩ := hk
            refine zk_if_eq 74 47 dc_Cm_binder_44 (by decide) rfl (fun hx => ?_) (fun hx => by first | exact absurd hx rfl | exact absurd rfl hx)
            refine zk_iconst (v := -1) 75 dc_Cm_binder_74 (by decide) rfl ?_
            exact zk_ireturn dc_Cm_binder_75 rfl (by first | rfl | decide) ⟨_, rfl, rfl, p1_same⟩
          · refine zk_iconst (v := -1) 35 dc_Cm_binder_34 (by decide) rfl ?_
            exact zk_ireturn dc_Cm_binder_35 rfl (by first | rfl | decide) ⟨_, rfl, rfl, p1_same⟩
    · refine zk_iload_1 12 dc_Cm_binder_11 rfl rfl ?_
      refine zk_bipush (v := 7) 14 dc_Cm_binder_12 (by decide) rfl ?_
      refine zk_icmp_eq 19 17 dc_Cm_binder_14 (by decide) rfl (fun hc => ?_) (fun hc => ?_)
      · refine zk_iload_2 20 dc_Cm_binder_19 rfl rfl ?_
        refine zk_iconst (v := -1) 21 dc_Cm_binder_20 (by decide) rfl ?_
        refine zk_icmp_eq 36 24 dc_Cm_binder_21 (by decide) rfl (fun hc => ?_) (fun hc => ?_)
        · refine zk_aload_0 37 dc_Cm_binder_36 rfl rfl ?_
          refine zk_getfield 40 dc_Cm_binder_37 fg_Cm_10 ha rfl rfl ?_
          refine zk_iload_3 41 dc_Cm_binder_40 rfl rfl ?_
          refine zk_cVr 44 (c_has ht hq1) dc_Cm_binder_41 ok_CmTerms_has lk_Cm_81 ht rfl rfl rfl ⟨Nat.le_of_ble_eq_true rfl, Nat.le_of_ble_eq_true rfl⟩ (Nat.le_of_ble_eq_true rfl) rfl (fun v M1 hk => ?_)
          obtain ⟨rfl, rfl⟩ := hk
          refine zk_if_eq 74 47 dc_Cm_binder_44 (by decide) rfl (fun hx => ?_) (fun hx => by first | exact absurd hx rfl | exact absurd rfl hx)
          refine zk_iconst (v := -1) 75 dc_Cm_binder_74 (by decide) rfl ?_
          exact zk_ireturn dc_Cm_binder_75 rfl (by first | rfl | decide) ⟨_, rfl, rfl, p1_same⟩
        · refine zk_iload_2 25 dc_Cm_binder_24 rfl rfl ?_
          refine zk_if_lt 34 28 dc_Cm_binder_25 (by decide) rfl (fun hc => ?_) (fun hc => ?_)
          · refine zk_iconst (v := -1) 35 dc_Cm_binder_34 (by decide) rfl ?_
            exact zk_ireturn dc_Cm_binder_35 rfl (by first | rfl | decide) ⟨_, rfl, rfl, p1_same⟩
          · refine zk_iload_2 29 dc_Cm_binder_28 rfl rfl ?_
            refine zk_bipush (v := 99) 31 dc_Cm_binder_29 (by decide) rfl ?_
            refine zk_icmp_le 36 34 dc_Cm_binder_31 (by decide) rfl (fun hc => ?_) (fun hc => ?_)
            · refine zk_aload_0 37 dc_Cm_binder_36 rfl rfl ?_
              refine zk_getfield 40 dc_Cm_binder_37 fg_Cm_10 ha rfl rfl ?_
              refine zk_iload_3 41 dc_Cm_binder_40 rfl rfl ?_
              refine zk_cVr 44 (c_has ht hq1) dc_Cm_binder_41 ok_CmTerms_has lk_Cm_81 ht rfl rfl rfl ⟨Nat.le_of_ble_eq_true rfl, Nat.le_of_ble_eq_true rfl⟩ (Nat.le_of_ble_eq_true rfl) rfl (fun v M1 hk => ?_)
              obtain ⟨rfl, rfl⟩ := hk
              refine zk_if_eq 74 47 dc_Cm_binder_44 (by decide) rfl (fun hx => ?_) (fun hx => by first | exact absurd hx rfl | exact absurd rfl hx)
              refine zk_iconst (v := -1) 75 dc_Cm_binder_74 (by decide) rfl ?_
              exact zk_ireturn dc_Cm_binder_75 rfl (by first | rfl | decide) ⟨_, rfl, rfl, p1_same⟩
            · refine zk_iconst (v := -1) 35 dc_Cm_binder_34 (by decide) rfl ?_
              exact zk_ireturn dc_Cm_binder_35 rfl (by first | rfl | decide) ⟨_, rfl, rfl, p1_same⟩
      · refine zk_iconst (v := -1) 18 dc_Cm_binder_17 (by decide) rfl ?_
        exact zk_ireturn dc_Cm_binder_18 rfl (by first | rfl | decide) ⟨_, rfl, rfl, p1_same⟩
set_option maxHeartbeats 4000000 in
set_option maxRecDepth 100000 in
theorem f_constructor {Z : zk_Z} {w s : Nat} {f : Nat → Option zk_E} {a n : Nat} (ha : f (a) = some (.inr (.inr (6, [.ref n, .ref (n + 7), .ref (n + 9), .ref (n + 10), .ref (n + 17), .int (-1), .int (-1), .int (-1), .int (-1)])))) (ht : f (n) = some (.inr (.inr (1, [.ref (n + 1), .ref (n + 3), .ref (n + 5), .int 0])))) (hq0 : f (n + 1) = some (.inr (.inr (0, [.int 46000, .ref (n + 2), .int 0])))) (hr0 : f (n + 2) = some (.inl (256, fun _ => 0))) (hq1 : f (n + 3) = some (.inr (.inr (0, [.int 3000, .ref (n + 4), .int 0])))) (hr1 : f (n + 4) = some (.inl (256, fun _ => 0))) (hg : f (n + 7) = some (.inr (.inr (2, [.ref (n + 8), .int 0])))) (hga : f (n + 8) = some (.inr (.inl (1, 60, fun _ => none)))) (hlt : a < n) (hw : n + 20 ≤ w) {x y : Int32} : zk_Kr Z mm_Cm_constructor [.ref a, .int x, .int y] (w, s, f) (fun v M' => v = .int (-1) ∧ p1_po w s n f M') := by
  refine zk_enterB (by decide) (Nat.le_of_ble_eq_true rfl) rfl ?_
  show zk_P Z mm_Cm_constructor 0 [some (.ref a), some (.int x), some (.int y), none, none, none] [] (w, s, f) _
  refine zk_aload_0 1 dc_Cm_constructor_0 rfl rfl ?_
  refine zk_getfield 4 dc_Cm_constructor_1 fg_Cm_19 ha rfl rfl ?_
  refine zk_iload_1 5 dc_Cm_constructor_4 rfl rfl ?_
  refine zk_iconst (v := 3) 6 dc_Cm_constructor_5 (by decide) rfl ?_
  refine zk_cVr 9 (c_ofKind hg) dc_Cm_constructor_6 ok_CmGlobals_ofKind lk_Cm_73 hg rfl rfl rfl ⟨Nat.le_of_ble_eq_true rfl, Nat.le_of_ble_eq_true rfl⟩ (Nat.le_of_ble_eq_true rfl) rfl (fun v M1 hk => ?_)
  obtain ⟨rfl, rfl⟩ := hk
  refine zk_astoreN_3 10 dc_Cm_constructor_9 (Nat.le_of_ble_eq_true rfl) rfl ?_
  refine zk_aloadN_3 11 dc_Cm_constructor_10 rfl rfl ?_
  refine zk_ifnullN 43 dc_Cm_constructor_11 (by decide) ?_
  refine zk_iconst (v := -1) 44 dc_Cm_constructor_43 (by decide) rfl ?_
  exact zk_ireturn dc_Cm_constructor_44 rfl (by first | rfl | decide) ⟨_, rfl, rfl, p1_same⟩
set_option maxHeartbeats 4000000 in
set_option maxRecDepth 100000 in
theorem f_found {Z : zk_Z} {w s : Nat} {f : Nat → Option zk_E} {a n : Nat} (ha : f (a) = some (.inr (.inr (6, [.ref n, .ref (n + 7), .ref (n + 9), .ref (n + 10), .ref (n + 17), .int (-1), .int (-1), .int (-1), .int (-1)])))) (ht : f (n) = some (.inr (.inr (1, [.ref (n + 1), .ref (n + 3), .ref (n + 5), .int 0])))) (hq0 : f (n + 1) = some (.inr (.inr (0, [.int 46000, .ref (n + 2), .int 0])))) (hr0 : f (n + 2) = some (.inl (256, fun _ => 0))) (hq1 : f (n + 3) = some (.inr (.inr (0, [.int 3000, .ref (n + 4), .int 0])))) (hr1 : f (n + 4) = some (.inl (256, fun _ => 0))) (hg : f (n + 7) = some (.inr (.inr (2, [.ref (n + 8), .int 0])))) (hga : f (n + 8) = some (.inr (.inl (1, 60, fun _ => none)))) (hlt : a < n) (hw : n + 20 ≤ w) {x : Int32} : zk_Kr Z mm_Cm_found [.ref a, .int x] (w, s, f) (fun v M' => v = .int (-1) ∧ p1_po w s n f M') := by
  refine zk_enterB (by decide) (Nat.le_of_ble_eq_true rfl) rfl ?_
  show zk_P Z mm_Cm_found 0 [some (.ref a), some (.int x)] [] (w, s, f) _
  refine zk_iload_1 1 dc_Cm_found_0 rfl rfl ?_
  by_cases t0 : x = 0
  · refine zk_tableIn 28 0 t0 dc_Cm_found_1 (by decide) (by decide) rfl (by decide) ?_
    refine zk_aload_0 29 dc_Cm_found_28 rfl rfl ?_
    refine zk_getfield 32 dc_Cm_found_29 fg_Cm_54 ha rfl rfl ?_
    refine zk_goto 50 dc_Cm_found_32 (by decide) ?_
    exact zk_ireturn dc_Cm_found_50 rfl (by first | rfl | decide) ⟨_, rfl, rfl, p1_same⟩
  by_cases t1 : x = 1
  · refine zk_tableIn 35 1 t1 dc_Cm_found_1 (by decide) (by decide) rfl (by decide) ?_
    refine zk_aload_0 36 dc_Cm_found_35 rfl rfl ?_
    refine zk_getfield 39 dc_Cm_found_36 fg_Cm_57 ha rfl rfl ?_
    refine zk_goto 50 dc_Cm_found_39 (by decide) ?_
    exact zk_ireturn dc_Cm_found_50 rfl (by first | rfl | decide) ⟨_, rfl, rfl, p1_same⟩
  by_cases t2 : x = 2
  · refine zk_tableIn 42 2 t2 dc_Cm_found_1 (by decide) (by decide) rfl (by decide) ?_
    refine zk_aload_0 43 dc_Cm_found_42 rfl rfl ?_
    refine zk_getfield 46 dc_Cm_found_43 fg_Cm_60 ha rfl rfl ?_
    refine zk_goto 50 dc_Cm_found_46 (by decide) ?_
    exact zk_ireturn dc_Cm_found_50 rfl (by first | rfl | decide) ⟨_, rfl, rfl, p1_same⟩
  refine zk_tableOut 49 dc_Cm_found_1 (zk_out fun k h1 h2 q => by rcases (show k = 0 ∨ k = 1 ∨ k = 2 by omega) with rfl | rfl | rfl <;> first | exact t0 (Int32.toInt_inj.mp (q.trans (by decide))) | exact t1 (Int32.toInt_inj.mp (q.trans (by decide))) | exact t2 (Int32.toInt_inj.mp (q.trans (by decide)))) (by decide) ?_
  refine zk_iconst (v := -1) 50 dc_Cm_found_49 (by decide) rfl ?_
  exact zk_ireturn dc_Cm_found_50 rfl (by first | rfl | decide) ⟨_, rfl, rfl, p1_same⟩
set_option maxHeartbeats 4000000 in
set_option maxRecDepth 100000 in
theorem c_radd {Z : zk_Z} {w s : Nat} {f : Nat → Option zk_E} {q r : Nat} {m x y z u : Int32} (hq : f q = some (.inr (.inr (0, [.int m, .ref r, .int 0])))) (hr : f r = some (.inl (256, fun _ => 0))) (hqr : q ≠ r) (hm : (0 : Int32) < m) : zk_Kr Z mm_CmRows_add [.ref q, .int x, .int y, .int z, .int u] (w, s, f) (fun v M' => v = .int 0 ∧ ∃ g : Nat → Option zk_E, M' = (w, s, g) ∧ ∀ b, b ≠ q → b ≠ r → g b = f b) := by
  refine zk_enterB (by decide) (Nat.le_of_ble_eq_true rfl) rfl ?_
  show zk_P Z mm_CmRows_add 0 [some (.ref q), some (.int x), some (.int y), some (.int z), some (.int u), none] [] (w, s, f) _
  refine zk_aload_0 1 dc_CmRows_add_0 rfl rfl ?_
  refine zk_getfield 4 dc_CmRows_add_1 fg_CmRows_19 hq rfl rfl ?_
  refine zk_aload_0 5 dc_CmRows_add_4 rfl rfl ?_
  refine zk_getfield 8 dc_CmRows_add_5 fg_CmRows_9 hq rfl rfl ?_
  refine zk_icmp_lt 13 11 dc_CmRows_add_8 (by decide) rfl (fun hx => ?_) (fun hx => by first | exact absurd hx hm | exact absurd hm hx)
  refine zk_aload_0 14 dc_CmRows_add_13 rfl rfl ?_
  refine zk_getfield 17 dc_CmRows_add_14 fg_CmRows_19 hq rfl rfl ?_
  refine zk_iconst (v := 4) 18 dc_CmRows_add_17 (by decide) rfl ?_
  refine zk_imul 19 dc_CmRows_add_18 rfl ?_
  refine zk_istore_5 21 dc_CmRows_add_19 (Nat.le_of_ble_eq_true rfl) rfl ?_
  refine zk_iload 23 dc_CmRows_add_21 rfl rfl ?_
  refine zk_iconst (v := 4) 24 dc_CmRows_add_23 (by decide) rfl ?_
  refine zk_iadd 25 dc_CmRows_add_24 rfl ?_
  refine zk_aload_0 26 dc_CmRows_add_25 rfl rfl ?_
  refine zk_getfield 29 dc_CmRows_add_26 fg_CmRows_15 hq rfl rfl ?_
  refine zk_alen 30 dc_CmRows_add_29 rfl hr rfl ?_
  refine zk_icmp_le 51 33 dc_CmRows_add_30 (by decide) rfl (fun hx => ?_) (fun hx => by first | exact absurd hx (show (0 : Int32) * 4 + 4 ≤ nI 256 by decide) | exact absurd (show (0 : Int32) * 4 + 4 ≤ nI 256 by decide) hx)
  refine zk_aload_0 52 dc_CmRows_add_51 rfl rfl ?_
  refine zk_getfield 55 dc_CmRows_add_52 fg_CmRows_15 hq rfl rfl ?_
  refine zk_iload 57 dc_CmRows_add_55 rfl rfl ?_
  refine zk_iload_1 58 dc_CmRows_add_57 rfl rfl ?_
  refine zk_iastoreK 59 dc_CmRows_add_58 hr (show vp_in ((0 : Int32) * 4) 256 by unfold vp_in; decide) rfl (fun f1 hr o1 => ?_)
  have hq := (o1 (q) (by omega) ).trans hq
  refine zk_aload_0 60 dc_CmRows_add_59 rfl rfl ?_
  refine zk_getfield 63 dc_CmRows_add_60 fg_CmRows_15 hq rfl rfl ?_
  refine zk_iload 65 dc_CmRows_add_63 rfl rfl ?_
  refine zk_iconst (v := 1) 66 dc_CmRows_add_65 (by decide) rfl ?_
  refine zk_iadd 67 dc_CmRows_add_66 rfl ?_
  refine zk_iload_2 68 dc_CmRows_add_67 rfl rfl ?_
  refine zk_iastoreK 69 dc_CmRows_add_68 hr (show vp_in ((0 : Int32) * 4 + 1) 256 by unfold vp_in; decide) rfl (fun f2 hr o2 => ?_)
  have hq := (o2 (q) (by omega) ).trans hq
  refine zk_aload_0 70 dc_CmRows_add_69 rfl rfl ?_
  refine zk_getfield 73 dc_CmRows_add_70 fg_CmRows_15 hq rfl rfl ?_
  refine zk_iload 75 dc_CmRows_add_73 rfl rfl ?_
  refine zk_iconst (v := 2) 76 dc_CmRows_add_75 (by decide) rfl ?_
  refine zk_iadd 77 dc_CmRows_add_76 rfl ?_
  refine zk_iload_3 78 dc_CmRows_add_77 rfl rfl ?_
  refine zk_iastoreK 79 dc_CmRows_add_78 hr (show vp_in ((0 : Int32) * 4 + 2) 256 by unfold vp_in; decide) rfl (fun f3 hr o3 => ?_)
  have hq := (o3 (q) (by omega) ).trans hq
  refine zk_aload_0 80 dc_CmRows_add_79 rfl rfl ?_
  refine zk_getfield 83 dc_CmRows_add_80 fg_CmRows_15 hq rfl rfl ?_
  refine zk_iload 85 dc_CmRows_add_83 rfl rfl ?_
  refine zk_iconst (v := 3) 86 dc_CmRows_add_85 (by decide) rfl ?_
  refine zk_iadd 87 dc_CmRows_add_86 rfl ?_
  refine zk_iload 89 dc_CmRows_add_87 rfl rfl ?_
  refine zk_iastoreK 90 dc_CmRows_add_89 hr (show vp_in ((0 : Int32) * 4 + 3) 256 by unfold vp_in; decide) rfl (fun f4 hr o4 => ?_)
  have hq := (o4 (q) (by omega) ).trans hq
  refine zk_aload_0 91 dc_CmRows_add_90 rfl rfl ?_
  refine zk_dup 92 dc_CmRows_add_91 rfl rfl ?_
  refine zk_getfield 95 dc_CmRows_add_92 fg_CmRows_19 hq rfl rfl ?_
  refine zk_dup_x1 96 dc_CmRows_add_95 rfl rfl rfl ?_
  refine zk_iconst (v := 1) 97 dc_CmRows_add_96 (by decide) rfl ?_
  refine zk_iadd 98 dc_CmRows_add_97 rfl ?_
  refine zk_put 101 dc_CmRows_add_98 fp_CmRows_19 hq rfl rfl (Nat.le_of_ble_eq_true rfl) rfl (fun f5 hq o5 => ?_)
  have hr := (o5 (r) (by omega) ).trans hr
  exact zk_ireturn dc_CmRows_add_101 rfl (by first | rfl | decide) ⟨_, rfl, rfl, _, rfl, fun b q1 q2 => by rw [o5 b (by omega), o4 b (by omega), o3 b (by omega), o2 b (by omega), o1 b (by omega)]⟩
set_option maxHeartbeats 4000000 in
set_option maxRecDepth 100000 in
theorem c_fits {Z : zk_Z} {w s : Nat} {f : Nat → Option zk_E} {t : Nat} (ht : f t = some (.inr (.inr (1, [.ref (t + 1), .ref (t + 3), .ref (t + 5), .int 0])))) (hq1 : f (t + 3) = some (.inr (.inr (0, [.int 3000, .ref (t + 4), .int 0])))) : zk_Kr Z mm_CmTerms_fits [.ref t, .int 1] (w, s, f) (fun v M' => v = .int 1 ∧ M' = (w, s, f)) := by
  refine zk_enterB (by decide) (Nat.le_of_ble_eq_true rfl) rfl ?_
  show zk_P Z mm_CmTerms_fits 0 [some (.ref t), some (.int 1)] [] (w, s, f) _
  refine zk_aload_0 1 dc_CmTerms_fits_0 rfl rfl ?_
  refine zk_getfield 4 dc_CmTerms_fits_1 fg_CmTerms_21 ht rfl rfl ?_
  refine zk_cVr 7 (c_size hq1) dc_CmTerms_fits_4 ok_CmRows_size lk_CmTerms_35 hq1 rfl rfl rfl ⟨Nat.le_of_ble_eq_true rfl, Nat.le_of_ble_eq_true rfl⟩ (Nat.le_of_ble_eq_true rfl) rfl (fun v M1 hk => ?_)
  obtain ⟨rfl, rfl⟩ := hk
  refine zk_sipush (v := 3000) 10 dc_CmTerms_fits_7 (by decide) rfl ?_
  refine zk_icmp_ge 35 13 dc_CmTerms_fits_10 (by decide) rfl (fun hx => by first | exact absurd hx (show ¬ (3000 : Int32) ≤ 0 by decide) | exact absurd (show ¬ (3000 : Int32) ≤ 0 by decide) hx) (fun hx => ?_)
  refine zk_iload_1 14 dc_CmTerms_fits_13 rfl rfl ?_
  refine zk_sipush (v := 2000) 17 dc_CmTerms_fits_14 (by decide) rfl ?_
  refine zk_icmp_gt 35 20 dc_CmTerms_fits_17 (by decide) rfl (fun hx => by first | exact absurd hx (show ¬ (2000 : Int32) < 1 by decide) | exact absurd (show ¬ (2000 : Int32) < 1 by decide) hx) (fun hx => ?_)
  refine zk_iload_1 21 dc_CmTerms_fits_20 rfl rfl ?_
  refine zk_ldc (v := 40000) 23 dc_CmTerms_fits_21 (zk_in 219 (by decide +kernel) (by decide +kernel)) rfl ?_
  refine zk_aload_0 24 dc_CmTerms_fits_23 rfl rfl ?_
  refine zk_getfield 27 dc_CmTerms_fits_24 fg_CmTerms_27 ht rfl rfl ?_
  refine zk_isub 28 dc_CmTerms_fits_27 rfl ?_
  refine zk_icmp_gt 35 31 dc_CmTerms_fits_28 (by decide) rfl (fun hx => by first | exact absurd hx (show ¬ (40000 : Int32) - 0 < 1 by decide) | exact absurd (show ¬ (40000 : Int32) - 0 < 1 by decide) hx) (fun hx => ?_)
  refine zk_iconst (v := 1) 32 dc_CmTerms_fits_31 (by decide) rfl ?_
  refine zk_goto 36 dc_CmTerms_fits_32 (by decide) ?_
  exact zk_ireturn dc_CmTerms_fits_36 rfl (by first | rfl | decide) ⟨_, rfl, rfl, rfl⟩
set_option maxHeartbeats 4000000 in
set_option maxRecDepth 100000 in
theorem c_admit {Z : zk_Z} {w s : Nat} {f : Nat → Option zk_E} {t : Nat} (ht : f t = some (.inr (.inr (1, [.ref (t + 1), .ref (t + 3), .ref (t + 5), .int 0])))) (hq1 : f (t + 3) = some (.inr (.inr (0, [.int 3000, .ref (t + 4), .int 0])))) (hr1 : f (t + 4) = some (.inl (256, fun _ => 0))) {x y z u : Int32} : zk_Kr Z mm_CmTerms_admit [.ref t, .int x, .int y, .int z, .int u] (w, s, f) (fun v M' => v = .int 0 ∧ ∃ g : Nat → Option zk_E, M' = (w, s, g) ∧ ∀ b, (b < t ∨ t + 4 < b) → g b = f b) := by
  refine zk_enterB (by decide) (Nat.le_of_ble_eq_true rfl) rfl ?_
  show zk_P Z mm_CmTerms_admit 0 [some (.ref t), some (.int x), some (.int y), some (.int z), some (.int u)] [] (w, s, f) _
  refine zk_aload_0 1 dc_CmTerms_admit_0 rfl rfl ?_
  refine zk_dup 2 dc_CmTerms_admit_1 rfl rfl ?_
  refine zk_getfield 5 dc_CmTerms_admit_2 fg_CmTerms_27 ht rfl rfl ?_
  refine zk_iload_2 6 dc_CmTerms_admit_5 rfl rfl ?_
  refine zk_iadd 7 dc_CmTerms_admit_6 rfl ?_
  refine zk_put 10 dc_CmTerms_admit_7 fp_CmTerms_27 ht rfl rfl (Nat.le_of_ble_eq_true rfl) rfl (fun f1 ht o1 => ?_)
  have hq1 := (o1 (t + 3) (by omega) ).trans hq1
  have hr1 := (o1 (t + 4) (by omega) ).trans hr1
  refine zk_aload_0 11 dc_CmTerms_admit_10 rfl rfl ?_
  refine zk_getfield 14 dc_CmTerms_admit_11 fg_CmTerms_21 ht rfl rfl ?_
  refine zk_iload_1 15 dc_CmTerms_admit_14 rfl rfl ?_
  refine zk_iload_2 16 dc_CmTerms_admit_15 rfl rfl ?_
  refine zk_iload_3 17 dc_CmTerms_admit_16 rfl rfl ?_
  refine zk_iload 19 dc_CmTerms_admit_17 rfl rfl ?_
  refine zk_cVr 22 (c_radd hq1 hr1 (by omega) (by decide)) dc_CmTerms_admit_19 ok_CmRows_add lk_CmTerms_40 hq1 rfl rfl rfl ⟨Nat.le_of_ble_eq_true rfl, Nat.le_of_ble_eq_true rfl⟩ (Nat.le_of_ble_eq_true rfl) rfl (fun v M1 hk => ?_)
  obtain ⟨rfl, g, rfl, p⟩ := hk
  have ht := (p (t) (by omega) (by omega) ).trans ht
  exact zk_ireturn dc_CmTerms_admit_22 rfl (by first | rfl | decide) ⟨_, rfl, rfl, _, rfl, fun b q1 => by rw [p b (by omega) (by omega), o1 b (by omega)]⟩
set_option maxHeartbeats 4000000 in
set_option maxRecDepth 100000 in
theorem c_addLeaf {Z : zk_Z} {w s : Nat} {f : Nat → Option zk_E} {t : Nat} (ht : f t = some (.inr (.inr (1, [.ref (t + 1), .ref (t + 3), .ref (t + 5), .int 0])))) (hq0 : f (t + 1) = some (.inr (.inr (0, [.int 46000, .ref (t + 2), .int 0])))) (hr0 : f (t + 2) = some (.inl (256, fun _ => 0))) (hq1 : f (t + 3) = some (.inr (.inr (0, [.int 3000, .ref (t + 4), .int 0])))) (hr1 : f (t + 4) = some (.inl (256, fun _ => 0))) {x y z : Int32} : zk_Kr Z mm_CmTerms_addLeaf [.ref t, .int x, .int y, .int z] (w, s, f) (fun v M' => v = .int 0 ∧ ∃ g : Nat → Option zk_E, M' = (w, s, g) ∧ ∀ b, (b < t ∨ t + 4 < b) → g b = f b) := by
  refine zk_enterB (by decide) (Nat.le_of_ble_eq_true rfl) rfl ?_
  show zk_P Z mm_CmTerms_addLeaf 0 [some (.ref t), some (.int x), some (.int y), some (.int z)] [] (w, s, f) _
  refine zk_aload_0 1 dc_CmTerms_addLeaf_0 rfl rfl ?_
  refine zk_iconst (v := 1) 2 dc_CmTerms_addLeaf_1 (by decide) rfl ?_
  refine zk_cVr 5 (c_fits ht hq1) dc_CmTerms_addLeaf_2 ok_CmTerms_fits lk_CmTerms_44 ht rfl rfl rfl ⟨Nat.le_of_ble_eq_true rfl, Nat.le_of_ble_eq_true rfl⟩ (Nat.le_of_ble_eq_true rfl) rfl (fun v M1 hk => ?_)
  obtain ⟨rfl, rfl⟩ := hk
  refine zk_if_ne 10 8 dc_CmTerms_addLeaf_5 (by decide) rfl (fun hx => ?_) (fun hx => by first | exact absurd hx (show ¬ (1 : Int32) = 0 by decide) | exact absurd (show ¬ (1 : Int32) = 0 by decide) hx)
  refine zk_aload_0 11 dc_CmTerms_addLeaf_10 rfl rfl ?_
  refine zk_aload_0 12 dc_CmTerms_addLeaf_11 rfl rfl ?_
  refine zk_getfield 15 dc_CmTerms_addLeaf_12 fg_CmTerms_17 ht rfl rfl ?_
  refine zk_iload_1 16 dc_CmTerms_addLeaf_15 rfl rfl ?_
  refine zk_iload_2 17 dc_CmTerms_addLeaf_16 rfl rfl ?_
  refine zk_iload_3 18 dc_CmTerms_addLeaf_17 rfl rfl ?_
  refine zk_iconst (v := -1) 19 dc_CmTerms_addLeaf_18 (by decide) rfl ?_
  refine zk_cVr 22 (c_radd hq0 hr0 (by omega) (by decide)) dc_CmTerms_addLeaf_19 ok_CmRows_add lk_CmTerms_40 hq0 rfl rfl rfl ⟨Nat.le_of_ble_eq_true rfl, Nat.le_of_ble_eq_true rfl⟩ (Nat.le_of_ble_eq_true rfl) rfl (fun v M1 hk => ?_)
  obtain ⟨rfl, g, rfl, p⟩ := hk
  have ht := (p (t) (by omega) (by omega) ).trans ht
  have hq1 := (p (t + 3) (by omega) (by omega) ).trans hq1
  have hr1 := (p (t + 4) (by omega) (by omega) ).trans hr1
  refine zk_iconst (v := 1) 23 dc_CmTerms_addLeaf_22 (by decide) rfl ?_
  refine zk_iconst (v := 1) 24 dc_CmTerms_addLeaf_23 (by decide) rfl ?_
  refine zk_iload_1 25 dc_CmTerms_addLeaf_24 rfl rfl ?_
  refine zk_if_ne 34 28 dc_CmTerms_addLeaf_25 (by decide) rfl (fun hc => ?_) (fun hc => ?_)
  · refine zk_iconst (v := 0) 35 dc_CmTerms_addLeaf_34 (by decide) rfl ?_
    refine zk_cVr 38 (c_admit ht hq1 hr1) dc_CmTerms_addLeaf_35 ok_CmTerms_admit lk_CmTerms_48 ht rfl rfl rfl ⟨Nat.le_of_ble_eq_true rfl, Nat.le_of_ble_eq_true rfl⟩ (Nat.le_of_ble_eq_true rfl) rfl (fun v M1 hk => ?_)
    obtain ⟨rfl, g2, rfl, p2⟩ := hk
    exact zk_ireturn dc_CmTerms_addLeaf_38 rfl (by first | rfl | decide) ⟨_, rfl, rfl, _, rfl, fun b q1 => by rw [p2 b (by omega), p b (by omega) (by omega)]⟩
  · refine zk_iload_2 29 dc_CmTerms_addLeaf_28 rfl rfl ?_
    refine zk_iconst (v := 1) 30 dc_CmTerms_addLeaf_29 (by decide) rfl ?_
    refine zk_iadd 31 dc_CmTerms_addLeaf_30 rfl ?_
    refine zk_goto 35 dc_CmTerms_addLeaf_31 (by decide) ?_
    refine zk_cVr 38 (c_admit ht hq1 hr1) dc_CmTerms_addLeaf_35 ok_CmTerms_admit lk_CmTerms_48 ht rfl rfl rfl ⟨Nat.le_of_ble_eq_true rfl, Nat.le_of_ble_eq_true rfl⟩ (Nat.le_of_ble_eq_true rfl) rfl (fun v M1 hk => ?_)
    obtain ⟨rfl, g2, rfl, p2⟩ := hk
    exact zk_ireturn dc_CmTerms_addLeaf_38 rfl (by first | rfl | decide) ⟨_, rfl, rfl, _, rfl, fun b q1 => by rw [p2 b (by omega), p b (by omega) (by omega)]⟩
end
section
abbrev mm_Cm_leaf : zk_Mt := (⟨"ClosureMachine", "leaf", "(III)I"⟩, prog_1_method_2_code, 5, (Option.some .int), 4, 94)
set_option maxRecDepth 20000 in
theorem ok_Cm_leaf : zk_Ok mm_Cm_leaf 3 := ⟨zk_in 191 rfl rfl, ⟨by decide +kernel, by decide +kernel, by decide +kernel⟩, zk_in 1 (by decide +kernel) (by decide +kernel)⟩
theorem dc_Cm_leaf_0 : decode prog_1_method_2_code 0 = .ok (.iload_n 1, 1) := by decide +kernel
theorem dc_Cm_leaf_1 : decode prog_1_method_2_code 1 = .ok (.tableswitch 100 0 3 #[31, 50, 31, 73], 31) := by decide +kernel
theorem dc_Cm_leaf_32 : decode prog_1_method_2_code 32 = .ok (.iload_n 2, 1) := by decide +kernel
theorem dc_Cm_leaf_33 : decode prog_1_method_2_code 33 = .ok (.invokestatic 63, 3) := by decide +kernel
theorem lk_Cm_63 : zk_LS "ClosureMachine" 63 mm_Cm_isNumber := ⟨zk_in 192 (by decide +kernel) (by decide +kernel), zk_in 193 (by decide +kernel) (by decide +kernel)⟩
theorem dc_Cm_leaf_36 : decode prog_1_method_2_code 36 = .ok (.ifCond .eq 11, 3) := by decide +kernel
theorem dc_Cm_leaf_39 : decode prog_1_method_2_code 39 = .ok (.iload_n 3, 1) := by decide +kernel
theorem dc_Cm_leaf_40 : decode prog_1_method_2_code 40 = .ok (.ifCond .ne 7, 3) := by decide +kernel
theorem dc_Cm_leaf_47 : decode prog_1_method_2_code 47 = .ok (.iconst 0, 1) := by decide +kernel
theorem dc_Cm_leaf_48 : decode prog_1_method_2_code 48 = .ok (.goto 54, 3) := by decide +kernel
theorem dc_Cm_leaf_102 : decode prog_1_method_2_code 102 = .ok (.istore 4, 2) := by decide +kernel
theorem dc_Cm_leaf_104 : decode prog_1_method_2_code 104 = .ok (.iload 4, 2) := by decide +kernel
theorem dc_Cm_leaf_106 : decode prog_1_method_2_code 106 = .ok (.ifCond .eq 16, 3) := by decide +kernel
theorem dc_Cm_leaf_122 : decode prog_1_method_2_code 122 = .ok (.iconst (-1), 1) := by decide +kernel
theorem dc_Cm_leaf_123 : decode prog_1_method_2_code 123 = .ok (.ireturn, 1) := by decide +kernel
theorem dc_Cm_leaf_43 : decode prog_1_method_2_code 43 = .ok (.iconst 1, 1) := by decide +kernel
theorem dc_Cm_leaf_44 : decode prog_1_method_2_code 44 = .ok (.goto 58, 3) := by decide +kernel
theorem dc_Cm_leaf_109 : decode prog_1_method_2_code 109 = .ok (.aload_n 0, 1) := by decide +kernel
theorem dc_Cm_leaf_110 : decode prog_1_method_2_code 110 = .ok (.getfield 10, 3) := by decide +kernel
theorem dc_Cm_leaf_113 : decode prog_1_method_2_code 113 = .ok (.iload_n 1, 1) := by decide +kernel
theorem dc_Cm_leaf_114 : decode prog_1_method_2_code 114 = .ok (.iload_n 2, 1) := by decide +kernel
theorem dc_Cm_leaf_115 : decode prog_1_method_2_code 115 = .ok (.iload_n 3, 1) := by decide +kernel
theorem dc_Cm_leaf_116 : decode prog_1_method_2_code 116 = .ok (.invokevirtual 77, 3) := by decide +kernel
theorem lk_Cm_77 : zk_LV "ClosureMachine" 77 mm_CmTerms_addLeaf := ⟨zk_in 207 (by decide +kernel) (by decide +kernel), zk_in 208 (by decide +kernel) (by decide +kernel), zk_in 209 (by decide +kernel) (by decide +kernel)⟩
theorem dc_Cm_leaf_119 : decode prog_1_method_2_code 119 = .ok (.goto 4, 3) := by decide +kernel
theorem dc_Cm_leaf_51 : decode prog_1_method_2_code 51 = .ok (.aload_n 0, 1) := by decide +kernel
theorem dc_Cm_leaf_52 : decode prog_1_method_2_code 52 = .ok (.getfield 19, 3) := by decide +kernel
theorem dc_Cm_leaf_55 : decode prog_1_method_2_code 55 = .ok (.iload_n 2, 1) := by decide +kernel
theorem dc_Cm_leaf_56 : decode prog_1_method_2_code 56 = .ok (.invokevirtual 67, 3) := by decide +kernel
theorem lk_Cm_67 : zk_LV "ClosureMachine" 67 mm_CmGlobals_at := ⟨zk_in 198 (by decide +kernel) (by decide +kernel), zk_in 199 (by decide +kernel) (by decide +kernel), zk_in 200 (by decide +kernel) (by decide +kernel)⟩
theorem dc_Cm_leaf_59 : decode prog_1_method_2_code 59 = .ok (.ifnull 11, 3) := by decide +kernel
theorem dc_Cm_leaf_70 : decode prog_1_method_2_code 70 = .ok (.iconst 0, 1) := by decide +kernel
theorem dc_Cm_leaf_71 : decode prog_1_method_2_code 71 = .ok (.goto 31, 3) := by decide +kernel
theorem dc_Cm_leaf_74 : decode prog_1_method_2_code 74 = .ok (.aload_n 0, 1) := by decide +kernel
theorem dc_Cm_leaf_75 : decode prog_1_method_2_code 75 = .ok (.getfield 19, 3) := by decide +kernel
theorem dc_Cm_leaf_78 : decode prog_1_method_2_code 78 = .ok (.iload_n 2, 1) := by decide +kernel
theorem dc_Cm_leaf_79 : decode prog_1_method_2_code 79 = .ok (.iconst 2, 1) := by decide +kernel
theorem dc_Cm_leaf_80 : decode prog_1_method_2_code 80 = .ok (.invokevirtual 73, 3) := by decide +kernel
theorem dc_Cm_leaf_83 : decode prog_1_method_2_code 83 = .ok (.ifnull 14, 3) := by decide +kernel
theorem dc_Cm_leaf_97 : decode prog_1_method_2_code 97 = .ok (.iconst 0, 1) := by decide +kernel
theorem dc_Cm_leaf_98 : decode prog_1_method_2_code 98 = .ok (.goto 4, 3) := by decide +kernel
theorem dc_Cm_leaf_101 : decode prog_1_method_2_code 101 = .ok (.iconst 0, 1) := by decide +kernel
abbrev mm_CmGlobal_init : zk_Mt := (⟨"ClosureMachine$Global", "<init>", "(I)V"⟩, prog_2_method_1_code, 2, none, 1, 20)
set_option maxRecDepth 20000 in
theorem ok_CmGlobal_init : zk_Ok mm_CmGlobal_init 1 := ⟨zk_in 315 rfl rfl, ⟨by decide +kernel, by decide +kernel, by decide +kernel⟩, zk_in 13 (by decide +kernel) (by decide +kernel)⟩
theorem dc_CmGlobal_init_0 : decode prog_2_method_1_code 0 = .ok (.aload_n 0, 1) := by decide +kernel
theorem dc_CmGlobal_init_1 : decode prog_2_method_1_code 1 = .ok (.invokespecial 3, 3) := by decide +kernel
theorem dc_CmGlobal_init_4 : decode prog_2_method_1_code 4 = .ok (.aload_n 0, 1) := by decide +kernel
theorem dc_CmGlobal_init_5 : decode prog_2_method_1_code 5 = .ok (.iconst (-1), 1) := by decide +kernel
theorem dc_CmGlobal_init_6 : decode prog_2_method_1_code 6 = .ok (.putfield 9, 3) := by decide +kernel
theorem fp_CmGlobal_9 : zk_Fp "ClosureMachine$Global" 9 7 1 (yc_7 1) false := ⟨rc_7, tc_7, 9, rfl, by decide, zk_in 319 (by decide +kernel) (by decide +kernel), by decide +kernel, rfl, rfl⟩
theorem dc_CmGlobal_init_9 : decode prog_2_method_1_code 9 = .ok (.aload_n 0, 1) := by decide +kernel
theorem dc_CmGlobal_init_10 : decode prog_2_method_1_code 10 = .ok (.iconst 0, 1) := by decide +kernel
theorem dc_CmGlobal_init_11 : decode prog_2_method_1_code 11 = .ok (.putfield 15, 3) := by decide +kernel
theorem fp_CmGlobal_15 : zk_Fp "ClosureMachine$Global" 15 7 2 (yc_7 2) false := ⟨rc_7, tc_7, 9, rfl, by decide, zk_in 322 (by decide +kernel) (by decide +kernel), by decide +kernel, rfl, rfl⟩
theorem dc_CmGlobal_init_14 : decode prog_2_method_1_code 14 = .ok (.aload_n 0, 1) := by decide +kernel
theorem dc_CmGlobal_init_15 : decode prog_2_method_1_code 15 = .ok (.iconst 0, 1) := by decide +kernel
theorem dc_CmGlobal_init_16 : decode prog_2_method_1_code 16 = .ok (.putfield 18, 3) := by decide +kernel
theorem fp_CmGlobal_18 : zk_Fp "ClosureMachine$Global" 18 7 3 (yc_7 3) false := ⟨rc_7, tc_7, 9, rfl, by decide, zk_in 326 (by decide +kernel) (by decide +kernel), by decide +kernel, rfl, rfl⟩
theorem dc_CmGlobal_init_19 : decode prog_2_method_1_code 19 = .ok (.aload_n 0, 1) := by decide +kernel
theorem dc_CmGlobal_init_20 : decode prog_2_method_1_code 20 = .ok (.iconst 0, 1) := by decide +kernel
theorem dc_CmGlobal_init_21 : decode prog_2_method_1_code 21 = .ok (.putfield 21, 3) := by decide +kernel
theorem fp_CmGlobal_21 : zk_Fp "ClosureMachine$Global" 21 7 4 (yc_7 4) false := ⟨rc_7, tc_7, 9, rfl, by decide, zk_in 330 (by decide +kernel) (by decide +kernel), by decide +kernel, rfl, rfl⟩
theorem dc_CmGlobal_init_24 : decode prog_2_method_1_code 24 = .ok (.aload_n 0, 1) := by decide +kernel
theorem dc_CmGlobal_init_25 : decode prog_2_method_1_code 25 = .ok (.iconst (-1), 1) := by decide +kernel
theorem dc_CmGlobal_init_26 : decode prog_2_method_1_code 26 = .ok (.putfield 24, 3) := by decide +kernel
theorem fp_CmGlobal_24 : zk_Fp "ClosureMachine$Global" 24 7 5 (yc_7 5) false := ⟨rc_7, tc_7, 9, rfl, by decide, zk_in 332 (by decide +kernel) (by decide +kernel), by decide +kernel, rfl, rfl⟩
theorem dc_CmGlobal_init_29 : decode prog_2_method_1_code 29 = .ok (.aload_n 0, 1) := by decide +kernel
theorem dc_CmGlobal_init_30 : decode prog_2_method_1_code 30 = .ok (.iconst (-1), 1) := by decide +kernel
theorem dc_CmGlobal_init_31 : decode prog_2_method_1_code 31 = .ok (.putfield 27, 3) := by decide +kernel
theorem fp_CmGlobal_27 : zk_Fp "ClosureMachine$Global" 27 7 6 (yc_7 6) false := ⟨rc_7, tc_7, 9, rfl, by decide, zk_in 336 (by decide +kernel) (by decide +kernel), by decide +kernel, rfl, rfl⟩
theorem dc_CmGlobal_init_34 : decode prog_2_method_1_code 34 = .ok (.aload_n 0, 1) := by decide +kernel
theorem dc_CmGlobal_init_35 : decode prog_2_method_1_code 35 = .ok (.aconst_null, 1) := by decide +kernel
theorem dc_CmGlobal_init_36 : decode prog_2_method_1_code 36 = .ok (.putfield 30, 3) := by decide +kernel
theorem fp_CmGlobal_30 : zk_Fp "ClosureMachine$Global" 30 7 7 (yc_7 7) false := ⟨rc_7, tc_7, 9, rfl, by decide, zk_in 339 (by decide +kernel) (by decide +kernel), by decide +kernel, rfl, rfl⟩
theorem dc_CmGlobal_init_39 : decode prog_2_method_1_code 39 = .ok (.aload_n 0, 1) := by decide +kernel
theorem dc_CmGlobal_init_40 : decode prog_2_method_1_code 40 = .ok (.iconst 0, 1) := by decide +kernel
theorem dc_CmGlobal_init_41 : decode prog_2_method_1_code 41 = .ok (.putfield 34, 3) := by decide +kernel
theorem fp_CmGlobal_34 : zk_Fp "ClosureMachine$Global" 34 7 8 (yc_7 8) false := ⟨rc_7, tc_7, 9, rfl, by decide, zk_in 342 (by decide +kernel) (by decide +kernel), by decide +kernel, rfl, rfl⟩
theorem dc_CmGlobal_init_44 : decode prog_2_method_1_code 44 = .ok (.aload_n 0, 1) := by decide +kernel
theorem dc_CmGlobal_init_45 : decode prog_2_method_1_code 45 = .ok (.iload_n 1, 1) := by decide +kernel
theorem dc_CmGlobal_init_46 : decode prog_2_method_1_code 46 = .ok (.putfield 37, 3) := by decide +kernel
theorem fp_CmGlobal_37 : zk_Fp "ClosureMachine$Global" 37 7 0 (yc_7 0) true := ⟨rc_7, tc_7, 9, rfl, by decide, zk_in 317 (by decide +kernel) (by decide +kernel), by decide +kernel, rfl, rfl⟩
theorem dc_CmGlobal_init_49 : decode prog_2_method_1_code 49 = .ok (.return_, 1) := by decide +kernel
abbrev mm_CmGlobals_add : zk_Mt := (⟨"ClosureMachine$Globals", "add", "(LClosureMachine$Global;)I"⟩, prog_3_method_5_code, 2, (Option.some .int), 0, 0)
set_option maxRecDepth 20000 in
theorem ok_CmGlobals_add : zk_Ok mm_CmGlobals_add 1 := ⟨zk_in 367 rfl rfl, ⟨by decide +kernel, by decide +kernel, by decide +kernel⟩, zk_in 4 (by decide +kernel) (by decide +kernel)⟩
theorem dc_CmGlobals_add_0 : decode prog_3_method_5_code 0 = .ok (.aload_n 0, 1) := by decide +kernel
theorem dc_CmGlobals_add_1 : decode prog_3_method_5_code 1 = .ok (.getfield 17, 3) := by decide +kernel
theorem dc_CmGlobals_add_4 : decode prog_3_method_5_code 4 = .ok (.ifCond .lt 15, 3) := by decide +kernel
theorem dc_CmGlobals_add_7 : decode prog_3_method_5_code 7 = .ok (.aload_n 0, 1) := by decide +kernel
theorem dc_CmGlobals_add_8 : decode prog_3_method_5_code 8 = .ok (.getfield 17, 3) := by decide +kernel
theorem dc_CmGlobals_add_11 : decode prog_3_method_5_code 11 = .ok (.aload_n 0, 1) := by decide +kernel
theorem dc_CmGlobals_add_12 : decode prog_3_method_5_code 12 = .ok (.getfield 11, 3) := by decide +kernel
theorem fg_CmGlobals_11 : zk_F "ClosureMachine$Globals" 11 2 0 := ⟨rc_2, tc_2, 2, rfl, by decide, zk_in 69 (by decide +kernel) (by decide +kernel)⟩
theorem dc_CmGlobals_add_15 : decode prog_3_method_5_code 15 = .ok (.arraylength, 1) := by decide +kernel
theorem dc_CmGlobals_add_16 : decode prog_3_method_5_code 16 = .ok (.if_icmp .lt 5, 3) := by decide +kernel
theorem dc_CmGlobals_add_21 : decode prog_3_method_5_code 21 = .ok (.aload_n 0, 1) := by decide +kernel
theorem dc_CmGlobals_add_22 : decode prog_3_method_5_code 22 = .ok (.getfield 11, 3) := by decide +kernel
theorem dc_CmGlobals_add_25 : decode prog_3_method_5_code 25 = .ok (.aload_n 0, 1) := by decide +kernel
theorem dc_CmGlobals_add_26 : decode prog_3_method_5_code 26 = .ok (.getfield 17, 3) := by decide +kernel
theorem dc_CmGlobals_add_29 : decode prog_3_method_5_code 29 = .ok (.aload_n 1, 1) := by decide +kernel
theorem dc_CmGlobals_add_30 : decode prog_3_method_5_code 30 = .ok (.aastore, 1) := by decide +kernel
theorem dc_CmGlobals_add_31 : decode prog_3_method_5_code 31 = .ok (.aload_n 0, 1) := by decide +kernel
theorem dc_CmGlobals_add_32 : decode prog_3_method_5_code 32 = .ok (.dup, 1) := by decide +kernel
theorem dc_CmGlobals_add_33 : decode prog_3_method_5_code 33 = .ok (.getfield 17, 3) := by decide +kernel
theorem dc_CmGlobals_add_36 : decode prog_3_method_5_code 36 = .ok (.dup_x1, 1) := by decide +kernel
theorem dc_CmGlobals_add_37 : decode prog_3_method_5_code 37 = .ok (.iconst 1, 1) := by decide +kernel
theorem dc_CmGlobals_add_38 : decode prog_3_method_5_code 38 = .ok (.iadd, 1) := by decide +kernel
theorem dc_CmGlobals_add_39 : decode prog_3_method_5_code 39 = .ok (.putfield 17, 3) := by decide +kernel
theorem dc_CmGlobals_add_42 : decode prog_3_method_5_code 42 = .ok (.ireturn, 1) := by decide +kernel
abbrev mm_Cm_axiom : zk_Mt := (⟨"ClosureMachine", "axiom", "()I"⟩, prog_1_method_6_code, 1, (Option.some .int), 2, 41)
set_option maxRecDepth 20000 in
theorem ok_Cm_axiom : zk_Ok mm_Cm_axiom 0 := ⟨zk_in 306 rfl rfl, ⟨by decide +kernel, by decide +kernel, by decide +kernel⟩, zk_in 1 (by decide +kernel) (by decide +kernel)⟩
theorem dc_Cm_axiom_0 : decode prog_1_method_6_code 0 = .ok (.aload_n 0, 1) := by decide +kernel
theorem dc_Cm_axiom_1 : decode prog_1_method_6_code 1 = .ok (.getfield 19, 3) := by decide +kernel
theorem dc_Cm_axiom_4 : decode prog_1_method_6_code 4 = .ok (.iconst 1, 1) := by decide +kernel
theorem dc_Cm_axiom_5 : decode prog_1_method_6_code 5 = .ok (.invokevirtual 92, 3) := by decide +kernel
theorem lk_Cm_92 : zk_LV "ClosureMachine" 92 mm_CmGlobals_roomFor := ⟨zk_in 307 (by decide +kernel) (by decide +kernel), zk_in 308 (by decide +kernel) (by decide +kernel), zk_in 309 (by decide +kernel) (by decide +kernel)⟩
theorem dc_Cm_axiom_8 : decode prog_1_method_6_code 8 = .ok (.ifCond .eq 21, 3) := by decide +kernel
theorem dc_Cm_axiom_11 : decode prog_1_method_6_code 11 = .ok (.aload_n 0, 1) := by decide +kernel
theorem dc_Cm_axiom_12 : decode prog_1_method_6_code 12 = .ok (.getfield 19, 3) := by decide +kernel
theorem dc_Cm_axiom_15 : decode prog_1_method_6_code 15 = .ok (.new 71, 3) := by decide +kernel
theorem nw_Cm_71 : zk_N "ClosureMachine" 71 7 9 [.int 0, .int 0, .int 0, .int 0, .int 0, .int 0, .int 0, .null, .int 0] := ⟨rc_7, tc_7, yc_7, rfl, zk_in 311 (by decide +kernel) (by decide +kernel), zk_in 312 (by decide +kernel) (by decide +kernel), zk_in 13 (by decide +kernel) (by decide +kernel), yk_7, by decide +kernel⟩
theorem dc_Cm_axiom_18 : decode prog_1_method_6_code 18 = .ok (.dup, 1) := by decide +kernel
theorem dc_Cm_axiom_19 : decode prog_1_method_6_code 19 = .ok (.iconst 0, 1) := by decide +kernel
theorem dc_Cm_axiom_20 : decode prog_1_method_6_code 20 = .ok (.invokespecial 95, 3) := by decide +kernel
theorem lk_Cm_95 : zk_LI "ClosureMachine" 95 mm_CmGlobal_init := ⟨zk_in 313 (by decide +kernel) (by decide +kernel), zk_in 314 (by decide +kernel) (by decide +kernel), rfl, rfl⟩
theorem dc_Cm_axiom_23 : decode prog_1_method_6_code 23 = .ok (.invokevirtual 98, 3) := by decide +kernel
theorem lk_Cm_98 : zk_LV "ClosureMachine" 98 mm_CmGlobals_add := ⟨zk_in 364 (by decide +kernel) (by decide +kernel), zk_in 365 (by decide +kernel) (by decide +kernel), zk_in 366 (by decide +kernel) (by decide +kernel)⟩
theorem dc_Cm_axiom_26 : decode prog_1_method_6_code 26 = .ok (.goto 4, 3) := by decide +kernel
theorem dc_Cm_axiom_30 : decode prog_1_method_6_code 30 = .ok (.ireturn, 1) := by decide +kernel
abbrev mm_CmGlobals_addFamily : zk_Mt := (⟨"ClosureMachine$Globals", "addFamily", "(III)I"⟩, prog_3_method_6_code, 8, (Option.some .int), 2, 41)
set_option maxRecDepth 20000 in
theorem ok_CmGlobals_addFamily : zk_Ok mm_CmGlobals_addFamily 3 := ⟨zk_in 381 rfl rfl, ⟨by decide +kernel, by decide +kernel, by decide +kernel⟩, zk_in 4 (by decide +kernel) (by decide +kernel)⟩
theorem dc_CmGlobals_addFamily_39 : decode prog_3_method_6_code 39 = .ok (.iload 6, 2) := by decide +kernel
theorem dc_CmGlobals_addFamily_41 : decode prog_3_method_6_code 41 = .ok (.iload_n 3, 1) := by decide +kernel
theorem dc_CmGlobals_addFamily_42 : decode prog_3_method_6_code 42 = .ok (.if_icmp .ge 40, 3) := by decide +kernel
theorem dc_CmGlobals_addFamily_82 : decode prog_3_method_6_code 82 = .ok (.iload 5, 2) := by decide +kernel
theorem dc_CmGlobals_addFamily_84 : decode prog_3_method_6_code 84 = .ok (.ireturn, 1) := by decide +kernel
theorem dc_CmGlobals_addFamily_45 : decode prog_3_method_6_code 45 = .ok (.new 9, 3) := by decide +kernel
theorem nw_CmGlobals_9 : zk_N "ClosureMachine$Globals" 9 7 9 [.int 0, .int 0, .int 0, .int 0, .int 0, .int 0, .int 0, .null, .int 0] := ⟨rc_7, tc_7, yc_7, rfl, zk_in 67 (by decide +kernel) (by decide +kernel), zk_in 312 (by decide +kernel) (by decide +kernel), zk_in 13 (by decide +kernel) (by decide +kernel), yk_7, by decide +kernel⟩
theorem dc_CmGlobals_addFamily_48 : decode prog_3_method_6_code 48 = .ok (.dup, 1) := by decide +kernel
theorem dc_CmGlobals_addFamily_49 : decode prog_3_method_6_code 49 = .ok (.iconst 3, 1) := by decide +kernel
theorem dc_CmGlobals_addFamily_50 : decode prog_3_method_6_code 50 = .ok (.invokespecial 28, 3) := by decide +kernel
theorem lk_CmGlobals_28 : zk_LI "ClosureMachine$Globals" 28 mm_CmGlobal_init := ⟨zk_in 382 (by decide +kernel) (by decide +kernel), zk_in 314 (by decide +kernel) (by decide +kernel), rfl, rfl⟩
theorem dc_CmGlobals_addFamily_53 : decode prog_3_method_6_code 53 = .ok (.astore 7, 2) := by decide +kernel
theorem dc_CmGlobals_addFamily_55 : decode prog_3_method_6_code 55 = .ok (.aload 7, 2) := by decide +kernel
theorem dc_CmGlobals_addFamily_57 : decode prog_3_method_6_code 57 = .ok (.iload 5, 2) := by decide +kernel
theorem dc_CmGlobals_addFamily_59 : decode prog_3_method_6_code 59 = .ok (.putfield 44, 3) := by decide +kernel
theorem fp_CmGlobals_44 : zk_Fp "ClosureMachine$Globals" 44 7 5 (yc_7 5) false := ⟨rc_7, tc_7, 9, rfl, by decide, zk_in 333 (by decide +kernel) (by decide +kernel), by decide +kernel, rfl, rfl⟩
theorem dc_CmGlobals_addFamily_62 : decode prog_3_method_6_code 62 = .ok (.aload 7, 2) := by decide +kernel
theorem dc_CmGlobals_addFamily_64 : decode prog_3_method_6_code 64 = .ok (.iload 6, 2) := by decide +kernel
theorem dc_CmGlobals_addFamily_66 : decode prog_3_method_6_code 66 = .ok (.putfield 47, 3) := by decide +kernel
theorem fp_CmGlobals_47 : zk_Fp "ClosureMachine$Globals" 47 7 6 (yc_7 6) false := ⟨rc_7, tc_7, 9, rfl, by decide, zk_in 337 (by decide +kernel) (by decide +kernel), by decide +kernel, rfl, rfl⟩
theorem dc_CmGlobals_addFamily_69 : decode prog_3_method_6_code 69 = .ok (.aload_n 0, 1) := by decide +kernel
theorem dc_CmGlobals_addFamily_70 : decode prog_3_method_6_code 70 = .ok (.aload 7, 2) := by decide +kernel
theorem dc_CmGlobals_addFamily_72 : decode prog_3_method_6_code 72 = .ok (.invokevirtual 40, 3) := by decide +kernel
theorem lk_CmGlobals_40 : zk_LV "ClosureMachine$Globals" 40 mm_CmGlobals_add := ⟨zk_in 383 (by decide +kernel) (by decide +kernel), zk_in 365 (by decide +kernel) (by decide +kernel), zk_in 366 (by decide +kernel) (by decide +kernel)⟩
theorem dc_CmGlobals_addFamily_75 : decode prog_3_method_6_code 75 = .ok (.pop, 1) := by decide +kernel
theorem dc_CmGlobals_addFamily_76 : decode prog_3_method_6_code 76 = .ok (.iinc 6 1, 3) := by decide +kernel
theorem dc_CmGlobals_addFamily_79 : decode prog_3_method_6_code 79 = .ok (.goto (-40), 3) := by decide +kernel
theorem dc_CmGlobals_addFamily_0 : decode prog_3_method_6_code 0 = .ok (.new 9, 3) := by decide +kernel
theorem dc_CmGlobals_addFamily_3 : decode prog_3_method_6_code 3 = .ok (.dup, 1) := by decide +kernel
theorem dc_CmGlobals_addFamily_4 : decode prog_3_method_6_code 4 = .ok (.iconst 2, 1) := by decide +kernel
theorem dc_CmGlobals_addFamily_5 : decode prog_3_method_6_code 5 = .ok (.invokespecial 28, 3) := by decide +kernel
theorem dc_CmGlobals_addFamily_8 : decode prog_3_method_6_code 8 = .ok (.astore 4, 2) := by decide +kernel
theorem dc_CmGlobals_addFamily_10 : decode prog_3_method_6_code 10 = .ok (.aload 4, 2) := by decide +kernel
theorem dc_CmGlobals_addFamily_12 : decode prog_3_method_6_code 12 = .ok (.iload_n 1, 1) := by decide +kernel
theorem dc_CmGlobals_addFamily_13 : decode prog_3_method_6_code 13 = .ok (.putfield 31, 3) := by decide +kernel
theorem fp_CmGlobals_31 : zk_Fp "ClosureMachine$Globals" 31 7 2 (yc_7 2) false := ⟨rc_7, tc_7, 9, rfl, by decide, zk_in 324 (by decide +kernel) (by decide +kernel), by decide +kernel, rfl, rfl⟩
theorem dc_CmGlobals_addFamily_16 : decode prog_3_method_6_code 16 = .ok (.aload 4, 2) := by decide +kernel
theorem dc_CmGlobals_addFamily_18 : decode prog_3_method_6_code 18 = .ok (.iload_n 2, 1) := by decide +kernel
theorem dc_CmGlobals_addFamily_19 : decode prog_3_method_6_code 19 = .ok (.putfield 34, 3) := by decide +kernel
theorem fp_CmGlobals_34 : zk_Fp "ClosureMachine$Globals" 34 7 3 (yc_7 3) false := ⟨rc_7, tc_7, 9, rfl, by decide, zk_in 328 (by decide +kernel) (by decide +kernel), by decide +kernel, rfl, rfl⟩
theorem dc_CmGlobals_addFamily_22 : decode prog_3_method_6_code 22 = .ok (.aload 4, 2) := by decide +kernel
theorem dc_CmGlobals_addFamily_24 : decode prog_3_method_6_code 24 = .ok (.iload_n 3, 1) := by decide +kernel
theorem dc_CmGlobals_addFamily_25 : decode prog_3_method_6_code 25 = .ok (.putfield 37, 3) := by decide +kernel
theorem fp_CmGlobals_37 : zk_Fp "ClosureMachine$Globals" 37 7 4 (yc_7 4) false := ⟨rc_7, tc_7, 9, rfl, by decide, zk_in 331 (by decide +kernel) (by decide +kernel), by decide +kernel, rfl, rfl⟩
theorem dc_CmGlobals_addFamily_28 : decode prog_3_method_6_code 28 = .ok (.aload_n 0, 1) := by decide +kernel
theorem dc_CmGlobals_addFamily_29 : decode prog_3_method_6_code 29 = .ok (.aload 4, 2) := by decide +kernel
theorem dc_CmGlobals_addFamily_31 : decode prog_3_method_6_code 31 = .ok (.invokevirtual 40, 3) := by decide +kernel
theorem dc_CmGlobals_addFamily_34 : decode prog_3_method_6_code 34 = .ok (.istore 5, 2) := by decide +kernel
theorem dc_CmGlobals_addFamily_36 : decode prog_3_method_6_code 36 = .ok (.iconst 0, 1) := by decide +kernel
theorem dc_CmGlobals_addFamily_37 : decode prog_3_method_6_code 37 = .ok (.istore 6, 2) := by decide +kernel
abbrev mm_Cm_family : zk_Mt := (⟨"ClosureMachine", "family", "(III)I"⟩, prog_1_method_8_code, 4, (Option.some .int), 3, 68)
set_option maxRecDepth 20000 in
theorem ok_Cm_family : zk_Ok mm_Cm_family 3 := ⟨zk_in 377 rfl rfl, ⟨by decide +kernel, by decide +kernel, by decide +kernel⟩, zk_in 1 (by decide +kernel) (by decide +kernel)⟩
theorem dc_Cm_family_0 : decode prog_1_method_8_code 0 = .ok (.iload_n 1, 1) := by decide +kernel
theorem dc_Cm_family_1 : decode prog_1_method_8_code 1 = .ok (.iconst 4, 1) := by decide +kernel
theorem dc_Cm_family_2 : decode prog_1_method_8_code 2 = .ok (.invokestatic 112, 3) := by decide +kernel
theorem dc_Cm_family_5 : decode prog_1_method_8_code 5 = .ok (.ifCond .eq 32, 3) := by decide +kernel
theorem dc_Cm_family_8 : decode prog_1_method_8_code 8 = .ok (.iload_n 2, 1) := by decide +kernel
theorem dc_Cm_family_9 : decode prog_1_method_8_code 9 = .ok (.iconst 4, 1) := by decide +kernel
theorem dc_Cm_family_10 : decode prog_1_method_8_code 10 = .ok (.invokestatic 112, 3) := by decide +kernel
theorem dc_Cm_family_13 : decode prog_1_method_8_code 13 = .ok (.ifCond .eq 24, 3) := by decide +kernel
theorem dc_Cm_family_16 : decode prog_1_method_8_code 16 = .ok (.iload_n 3, 1) := by decide +kernel
theorem dc_Cm_family_17 : decode prog_1_method_8_code 17 = .ok (.iconst 5, 1) := by decide +kernel
theorem dc_Cm_family_18 : decode prog_1_method_8_code 18 = .ok (.invokestatic 112, 3) := by decide +kernel
theorem dc_Cm_family_21 : decode prog_1_method_8_code 21 = .ok (.ifCond .eq 16, 3) := by decide +kernel
theorem dc_Cm_family_24 : decode prog_1_method_8_code 24 = .ok (.aload_n 0, 1) := by decide +kernel
theorem dc_Cm_family_25 : decode prog_1_method_8_code 25 = .ok (.getfield 19, 3) := by decide +kernel
theorem dc_Cm_family_28 : decode prog_1_method_8_code 28 = .ok (.iconst 1, 1) := by decide +kernel
theorem dc_Cm_family_29 : decode prog_1_method_8_code 29 = .ok (.iload_n 3, 1) := by decide +kernel
theorem dc_Cm_family_30 : decode prog_1_method_8_code 30 = .ok (.iadd, 1) := by decide +kernel
theorem dc_Cm_family_31 : decode prog_1_method_8_code 31 = .ok (.invokevirtual 92, 3) := by decide +kernel
theorem dc_Cm_family_34 : decode prog_1_method_8_code 34 = .ok (.ifCond .ne 5, 3) := by decide +kernel
theorem dc_Cm_family_39 : decode prog_1_method_8_code 39 = .ok (.aload_n 0, 1) := by decide +kernel
theorem dc_Cm_family_40 : decode prog_1_method_8_code 40 = .ok (.getfield 19, 3) := by decide +kernel
theorem dc_Cm_family_43 : decode prog_1_method_8_code 43 = .ok (.iload_n 1, 1) := by decide +kernel
theorem dc_Cm_family_44 : decode prog_1_method_8_code 44 = .ok (.iload_n 2, 1) := by decide +kernel
theorem dc_Cm_family_45 : decode prog_1_method_8_code 45 = .ok (.iload_n 3, 1) := by decide +kernel
theorem dc_Cm_family_46 : decode prog_1_method_8_code 46 = .ok (.invokevirtual 116, 3) := by decide +kernel
theorem lk_Cm_116 : zk_LV "ClosureMachine" 116 mm_CmGlobals_addFamily := ⟨zk_in 378 (by decide +kernel) (by decide +kernel), zk_in 379 (by decide +kernel) (by decide +kernel), zk_in 380 (by decide +kernel) (by decide +kernel)⟩
theorem dc_Cm_family_49 : decode prog_1_method_8_code 49 = .ok (.ireturn, 1) := by decide +kernel
theorem dc_Cm_family_37 : decode prog_1_method_8_code 37 = .ok (.iconst (-1), 1) := by decide +kernel
theorem dc_Cm_family_38 : decode prog_1_method_8_code 38 = .ok (.ireturn, 1) := by decide +kernel
end
section
set_option maxHeartbeats 4000000 in
set_option maxRecDepth 100000 in
theorem f_leaf {Z : zk_Z} {w s : Nat} {f : Nat → Option zk_E} {a n : Nat} (ha : f (a) = some (.inr (.inr (6, [.ref n, .ref (n + 7), .ref (n + 9), .ref (n + 10), .ref (n + 17), .int (-1), .int (-1), .int (-1), .int (-1)])))) (ht : f (n) = some (.inr (.inr (1, [.ref (n + 1), .ref (n + 3), .ref (n + 5), .int 0])))) (hq0 : f (n + 1) = some (.inr (.inr (0, [.int 46000, .ref (n + 2), .int 0])))) (hr0 : f (n + 2) = some (.inl (256, fun _ => 0))) (hq1 : f (n + 3) = some (.inr (.inr (0, [.int 3000, .ref (n + 4), .int 0])))) (hr1 : f (n + 4) = some (.inl (256, fun _ => 0))) (hg : f (n + 7) = some (.inr (.inr (2, [.ref (n + 8), .int 0])))) (hga : f (n + 8) = some (.inr (.inl (1, 60, fun _ => none)))) (hlt : a < n) (hw : n + 20 ≤ w) {x y z : Int32} : zk_Kr Z mm_Cm_leaf [.ref a, .int x, .int y, .int z] (w, s, f) (fun v M' => v = .int (p1_leaf x y z) ∧ p1_po w s n f M') := by
  refine zk_enterB (by decide) (Nat.le_of_ble_eq_true rfl) rfl ?_
  show zk_P Z mm_Cm_leaf 0 [some (.ref a), some (.int x), some (.int y), some (.int z), none] [] (w, s, f) _
  refine zk_iload_1 1 dc_Cm_leaf_0 rfl rfl ?_
  by_cases t0 : x = 0
  · refine zk_tableIn 32 0 t0 dc_Cm_leaf_1 (by decide) (by decide) rfl (by decide) ?_
    refine zk_iload_2 33 dc_Cm_leaf_32 rfl rfl ?_
    refine zk_cSr 36 (c_isn) dc_Cm_leaf_33 ok_Cm_isNumber lk_Cm_63 rfl rfl ⟨Nat.le_of_ble_eq_true rfl, Nat.le_of_ble_eq_true rfl⟩ (Nat.le_of_ble_eq_true rfl) rfl (fun v M1 hk => ?_)
    obtain ⟨rfl, hk⟩ := hk
    rcases hk with ⟨h1, rfl⟩ | ⟨h1, rfl⟩
    · refine zk_if_eq 47 39 dc_Cm_leaf_36 (by decide) rfl (fun hx => by first | exact absurd hx (show ¬ (1 : Int32) = 0 by decide) | exact absurd (show ¬ (1 : Int32) = 0 by decide) hx) (fun hx => ?_)
      refine zk_iload_3 40 dc_Cm_leaf_39 rfl rfl ?_
      refine zk_if_ne 47 43 dc_Cm_leaf_40 (by decide) rfl (fun hc => ?_) (fun hc => ?_)
      · refine zk_iconst (v := 0) 48 dc_Cm_leaf_47 (by decide) rfl ?_
        refine zk_goto 102 dc_Cm_leaf_48 (by decide) ?_
        refine zk_istore_4 104 dc_Cm_leaf_102 (Nat.le_of_ble_eq_true rfl) rfl ?_
        refine zk_iload 106 dc_Cm_leaf_104 rfl rfl ?_
        refine zk_if_eq 122 109 dc_Cm_leaf_106 (by decide) rfl (fun hx => ?_) (fun hx => by first | exact absurd hx rfl | exact absurd rfl hx)
        refine zk_iconst (v := -1) 123 dc_Cm_leaf_122 (by decide) rfl ?_
        have hp : p1_leaf x y z = -1 := by rw [p1_leaf, if_neg (fun q => hc q.2.2)]
        exact zk_ireturn dc_Cm_leaf_123 rfl (by first | rfl | decide) ⟨_, rfl, congrArg Value.int hp.symm, p1_same⟩
      · refine zk_iconst (v := 1) 44 dc_Cm_leaf_43 (by decide) rfl ?_
        refine zk_goto 102 dc_Cm_leaf_44 (by decide) ?_
        refine zk_istore_4 104 dc_Cm_leaf_102 (Nat.le_of_ble_eq_true rfl) rfl ?_
        refine zk_iload 106 dc_Cm_leaf_104 rfl rfl ?_
        refine zk_if_eq 122 109 dc_Cm_leaf_106 (by decide) rfl (fun hx => by first | exact absurd hx (show ¬ (1 : Int32) = 0 by decide) | exact absurd (show ¬ (1 : Int32) = 0 by decide) hx) (fun hx => ?_)
        refine zk_aload_0 110 dc_Cm_leaf_109 rfl rfl ?_
        refine zk_getfield 113 dc_Cm_leaf_110 fg_Cm_10 ha rfl rfl ?_
        refine zk_iload_1 114 dc_Cm_leaf_113 rfl rfl ?_
        refine zk_iload_2 115 dc_Cm_leaf_114 rfl rfl ?_
        refine zk_iload_3 116 dc_Cm_leaf_115 rfl rfl ?_
        refine zk_cVr 119 (c_addLeaf ht hq0 hr0 hq1 hr1) dc_Cm_leaf_116 ok_CmTerms_addLeaf lk_Cm_77 ht rfl rfl rfl ⟨Nat.le_of_ble_eq_true rfl, Nat.le_of_ble_eq_true rfl⟩ (Nat.le_of_ble_eq_true rfl) rfl (fun v M1 hk => ?_)
        obtain ⟨rfl, g, rfl, p⟩ := hk
        refine zk_goto 123 dc_Cm_leaf_119 (by decide) ?_
        have hp : p1_leaf x y z = 0 := by rw [p1_leaf, if_pos ⟨by first | exact Or.inl t0 | exact Or.inr t2, h1, hc⟩]
        exact zk_ireturn dc_Cm_leaf_123 rfl (by first | rfl | decide) ⟨_, rfl, congrArg Value.int hp.symm, w, s, g, rfl, Nat.le_add_right _ _, Nat.le_add_right _ _, fun b q1 q2 => p b (by omega)⟩
    · refine zk_if_eq 47 39 dc_Cm_leaf_36 (by decide) rfl (fun hx => ?_) (fun hx => by first | exact absurd hx rfl | exact absurd rfl hx)
      refine zk_iconst (v := 0) 48 dc_Cm_leaf_47 (by decide) rfl ?_
      refine zk_goto 102 dc_Cm_leaf_48 (by decide) ?_
      refine zk_istore_4 104 dc_Cm_leaf_102 (Nat.le_of_ble_eq_true rfl) rfl ?_
      refine zk_iload 106 dc_Cm_leaf_104 rfl rfl ?_
      refine zk_if_eq 122 109 dc_Cm_leaf_106 (by decide) rfl (fun hx => ?_) (fun hx => by first | exact absurd hx rfl | exact absurd rfl hx)
      refine zk_iconst (v := -1) 123 dc_Cm_leaf_122 (by decide) rfl ?_
      have hp : p1_leaf x y z = -1 := by rw [p1_leaf, if_neg (fun q => h1 q.2.1)]
      exact zk_ireturn dc_Cm_leaf_123 rfl (by first | rfl | decide) ⟨_, rfl, congrArg Value.int hp.symm, p1_same⟩
  by_cases t1 : x = 1
  · refine zk_tableIn 51 1 t1 dc_Cm_leaf_1 (by decide) (by decide) rfl (by decide) ?_
    refine zk_aload_0 52 dc_Cm_leaf_51 rfl rfl ?_
    refine zk_getfield 55 dc_Cm_leaf_52 fg_Cm_19 ha rfl rfl ?_
    refine zk_iload_2 56 dc_Cm_leaf_55 rfl rfl ?_
    refine zk_cVr 59 (c_at hg) dc_Cm_leaf_56 ok_CmGlobals_at lk_Cm_67 hg rfl rfl rfl ⟨Nat.le_of_ble_eq_true rfl, Nat.le_of_ble_eq_true rfl⟩ (Nat.le_of_ble_eq_true rfl) rfl (fun v M1 hk => ?_)
    obtain ⟨rfl, rfl⟩ := hk
    refine zk_ifnullN 70 dc_Cm_leaf_59 (by decide) ?_
    refine zk_iconst (v := 0) 71 dc_Cm_leaf_70 (by decide) rfl ?_
    refine zk_goto 102 dc_Cm_leaf_71 (by decide) ?_
    refine zk_istore_4 104 dc_Cm_leaf_102 (Nat.le_of_ble_eq_true rfl) rfl ?_
    refine zk_iload 106 dc_Cm_leaf_104 rfl rfl ?_
    refine zk_if_eq 122 109 dc_Cm_leaf_106 (by decide) rfl (fun hx => ?_) (fun hx => by first | exact absurd hx rfl | exact absurd rfl hx)
    refine zk_iconst (v := -1) 123 dc_Cm_leaf_122 (by decide) rfl ?_
    have hp : p1_leaf x y z = -1 := by rw [p1_leaf, if_neg (fun q => by rw [t1] at q; exact absurd q.1 (by decide))]
    exact zk_ireturn dc_Cm_leaf_123 rfl (by first | rfl | decide) ⟨_, rfl, congrArg Value.int hp.symm, p1_same⟩
  by_cases t2 : x = 2
  · refine zk_tableIn 32 2 t2 dc_Cm_leaf_1 (by decide) (by decide) rfl (by decide) ?_
    refine zk_iload_2 33 dc_Cm_leaf_32 rfl rfl ?_
    refine zk_cSr 36 (c_isn) dc_Cm_leaf_33 ok_Cm_isNumber lk_Cm_63 rfl rfl ⟨Nat.le_of_ble_eq_true rfl, Nat.le_of_ble_eq_true rfl⟩ (Nat.le_of_ble_eq_true rfl) rfl (fun v M1 hk => ?_)
    obtain ⟨rfl, hk⟩ := hk
    rcases hk with ⟨h1, rfl⟩ | ⟨h1, rfl⟩
    · refine zk_if_eq 47 39 dc_Cm_leaf_36 (by decide) rfl (fun hx => by first | exact absurd hx (show ¬ (1 : Int32) = 0 by decide) | exact absurd (show ¬ (1 : Int32) = 0 by decide) hx) (fun hx => ?_)
      refine zk_iload_3 40 dc_Cm_leaf_39 rfl rfl ?_
      refine zk_if_ne 47 43 dc_Cm_leaf_40 (by decide) rfl (fun hc => ?_) (fun hc => ?_)
      · refine zk_iconst (v := 0) 48 dc_Cm_leaf_47 (by decide) rfl ?_
        refine zk_goto 102 dc_Cm_leaf_48 (by decide) ?_
        refine zk_istore_4 104 dc_Cm_leaf_102 (Nat.le_of_ble_eq_true rfl) rfl ?_
        refine zk_iload 106 dc_Cm_leaf_104 rfl rfl ?_
        refine zk_if_eq 122 109 dc_Cm_leaf_106 (by decide) rfl (fun hx => ?_) (fun hx => by first | exact absurd hx rfl | exact absurd rfl hx)
        refine zk_iconst (v := -1) 123 dc_Cm_leaf_122 (by decide) rfl ?_
        have hp : p1_leaf x y z = -1 := by rw [p1_leaf, if_neg (fun q => hc q.2.2)]
        exact zk_ireturn dc_Cm_leaf_123 rfl (by first | rfl | decide) ⟨_, rfl, congrArg Value.int hp.symm, p1_same⟩
      · refine zk_iconst (v := 1) 44 dc_Cm_leaf_43 (by decide) rfl ?_
        refine zk_goto 102 dc_Cm_leaf_44 (by decide) ?_
        refine zk_istore_4 104 dc_Cm_leaf_102 (Nat.le_of_ble_eq_true rfl) rfl ?_
        refine zk_iload 106 dc_Cm_leaf_104 rfl rfl ?_
        refine zk_if_eq 122 109 dc_Cm_leaf_106 (by decide) rfl (fun hx => by first | exact absurd hx (show ¬ (1 : Int32) = 0 by decide) | exact absurd (show ¬ (1 : Int32) = 0 by decide) hx) (fun hx => ?_)
        refine zk_aload_0 110 dc_Cm_leaf_109 rfl rfl ?_
        refine zk_getfield 113 dc_Cm_leaf_110 fg_Cm_10 ha rfl rfl ?_
        refine zk_iload_1 114 dc_Cm_leaf_113 rfl rfl ?_
        refine zk_iload_2 115 dc_Cm_leaf_114 rfl rfl ?_
        refine zk_iload_3 116 dc_Cm_leaf_115 rfl rfl ?_
        refine zk_cVr 119 (c_addLeaf ht hq0 hr0 hq1 hr1) dc_Cm_leaf_116 ok_CmTerms_addLeaf lk_Cm_77 ht rfl rfl rfl ⟨Nat.le_of_ble_eq_true rfl, Nat.le_of_ble_eq_true rfl⟩ (Nat.le_of_ble_eq_true rfl) rfl (fun v M1 hk => ?_)
        obtain ⟨rfl, g, rfl, p⟩ := hk
        refine zk_goto 123 dc_Cm_leaf_119 (by decide) ?_
        have hp : p1_leaf x y z = 0 := by rw [p1_leaf, if_pos ⟨by first | exact Or.inl t0 | exact Or.inr t2, h1, hc⟩]
        exact zk_ireturn dc_Cm_leaf_123 rfl (by first | rfl | decide) ⟨_, rfl, congrArg Value.int hp.symm, w, s, g, rfl, Nat.le_add_right _ _, Nat.le_add_right _ _, fun b q1 q2 => p b (by omega)⟩
    · refine zk_if_eq 47 39 dc_Cm_leaf_36 (by decide) rfl (fun hx => ?_) (fun hx => by first | exact absurd hx rfl | exact absurd rfl hx)
      refine zk_iconst (v := 0) 48 dc_Cm_leaf_47 (by decide) rfl ?_
      refine zk_goto 102 dc_Cm_leaf_48 (by decide) ?_
      refine zk_istore_4 104 dc_Cm_leaf_102 (Nat.le_of_ble_eq_true rfl) rfl ?_
      refine zk_iload 106 dc_Cm_leaf_104 rfl rfl ?_
      refine zk_if_eq 122 109 dc_Cm_leaf_106 (by decide) rfl (fun hx => ?_) (fun hx => by first | exact absurd hx rfl | exact absurd rfl hx)
      refine zk_iconst (v := -1) 123 dc_Cm_leaf_122 (by decide) rfl ?_
      have hp : p1_leaf x y z = -1 := by rw [p1_leaf, if_neg (fun q => h1 q.2.1)]
      exact zk_ireturn dc_Cm_leaf_123 rfl (by first | rfl | decide) ⟨_, rfl, congrArg Value.int hp.symm, p1_same⟩
  by_cases t3 : x = 3
  · refine zk_tableIn 74 3 t3 dc_Cm_leaf_1 (by decide) (by decide) rfl (by decide) ?_
    refine zk_aload_0 75 dc_Cm_leaf_74 rfl rfl ?_
    refine zk_getfield 78 dc_Cm_leaf_75 fg_Cm_19 ha rfl rfl ?_
    refine zk_iload_2 79 dc_Cm_leaf_78 rfl rfl ?_
    refine zk_iconst (v := 2) 80 dc_Cm_leaf_79 (by decide) rfl ?_
    refine zk_cVr 83 (c_ofKind hg) dc_Cm_leaf_80 ok_CmGlobals_ofKind lk_Cm_73 hg rfl rfl rfl ⟨Nat.le_of_ble_eq_true rfl, Nat.le_of_ble_eq_true rfl⟩ (Nat.le_of_ble_eq_true rfl) rfl (fun v M1 hk => ?_)
    obtain ⟨rfl, rfl⟩ := hk
    refine zk_ifnullN 97 dc_Cm_leaf_83 (by decide) ?_
    refine zk_iconst (v := 0) 98 dc_Cm_leaf_97 (by decide) rfl ?_
    refine zk_goto 102 dc_Cm_leaf_98 (by decide) ?_
    refine zk_istore_4 104 dc_Cm_leaf_102 (Nat.le_of_ble_eq_true rfl) rfl ?_
    refine zk_iload 106 dc_Cm_leaf_104 rfl rfl ?_
    refine zk_if_eq 122 109 dc_Cm_leaf_106 (by decide) rfl (fun hx => ?_) (fun hx => by first | exact absurd hx rfl | exact absurd rfl hx)
    refine zk_iconst (v := -1) 123 dc_Cm_leaf_122 (by decide) rfl ?_
    have hp : p1_leaf x y z = -1 := by rw [p1_leaf, if_neg (fun q => by rw [t3] at q; exact absurd q.1 (by decide))]
    exact zk_ireturn dc_Cm_leaf_123 rfl (by first | rfl | decide) ⟨_, rfl, congrArg Value.int hp.symm, p1_same⟩
  refine zk_tableOut 101 dc_Cm_leaf_1 (zk_out fun k h1 h2 q => by rcases (show k = 0 ∨ k = 1 ∨ k = 2 ∨ k = 3 by omega) with rfl | rfl | rfl | rfl <;> first | exact t0 (Int32.toInt_inj.mp (q.trans (by decide))) | exact t1 (Int32.toInt_inj.mp (q.trans (by decide))) | exact t2 (Int32.toInt_inj.mp (q.trans (by decide))) | exact t3 (Int32.toInt_inj.mp (q.trans (by decide)))) (by decide) ?_
  refine zk_iconst (v := 0) 102 dc_Cm_leaf_101 (by decide) rfl ?_
  refine zk_istore_4 104 dc_Cm_leaf_102 (Nat.le_of_ble_eq_true rfl) rfl ?_
  refine zk_iload 106 dc_Cm_leaf_104 rfl rfl ?_
  refine zk_if_eq 122 109 dc_Cm_leaf_106 (by decide) rfl (fun hx => ?_) (fun hx => by first | exact absurd hx rfl | exact absurd rfl hx)
  refine zk_iconst (v := -1) 123 dc_Cm_leaf_122 (by decide) rfl ?_
  have hp : p1_leaf x y z = -1 := by rw [p1_leaf, if_neg (fun q => q.1.elim t0 t2)]
  exact zk_ireturn dc_Cm_leaf_123 rfl (by first | rfl | decide) ⟨_, rfl, congrArg Value.int hp.symm, p1_same⟩
set_option maxHeartbeats 4000000 in
set_option maxRecDepth 100000 in
theorem ct_Global {Z : zk_Z} {w s : Nat} {f : Nat → Option zk_E} {a : Nat} {x : Int32} (ha : f a = some (.inr (.inr (7, [.int 0, .int 0, .int 0, .int 0, .int 0, .int 0, .int 0, .null, .int 0])))) : zk_Kv Z mm_CmGlobal_init [.ref a, .int x] (w, s, f) (fun M' => ∃ g : Nat → Option zk_E, M' = (w, s, g) ∧ g a = some (.inr (.inr (7, [.int x, .int (-1), .int 0, .int 0, .int 0, .int (-1), .int (-1), .null, .int 0]))) ∧ ∀ b, b ≠ a → g b = f b) := by
  refine zk_enterB (by decide) (Nat.le_of_ble_eq_true rfl) rfl ?_
  show zk_P Z mm_CmGlobal_init 0 [some (.ref a), some (.int x)] [] (w, s, f) _
  refine zk_aload_0 1 dc_CmGlobal_init_0 rfl rfl ?_
  refine zk_objInit 4 dc_CmGlobal_init_1 (zk_in 316 (by decide +kernel) (by decide +kernel)) (zk_in 20 (by decide +kernel) (by decide +kernel)) (zk_in 21 rfl rfl) (Nat.le_of_ble_eq_true rfl) (Nat.le_of_ble_eq_true rfl) rfl ?_
  refine zk_aload_0 5 dc_CmGlobal_init_4 rfl rfl ?_
  refine zk_iconst (v := -1) 6 dc_CmGlobal_init_5 (by decide) rfl ?_
  refine zk_put 9 dc_CmGlobal_init_6 fp_CmGlobal_9 ha rfl rfl (Nat.le_of_ble_eq_true rfl) rfl (fun f1 ha o1 => ?_)
  refine zk_aload_0 10 dc_CmGlobal_init_9 rfl rfl ?_
  refine zk_iconst (v := 0) 11 dc_CmGlobal_init_10 (by decide) rfl ?_
  refine zk_put 14 dc_CmGlobal_init_11 fp_CmGlobal_15 ha rfl rfl (Nat.le_of_ble_eq_true rfl) rfl (fun f2 ha o2 => ?_)
  refine zk_aload_0 15 dc_CmGlobal_init_14 rfl rfl ?_
  refine zk_iconst (v := 0) 16 dc_CmGlobal_init_15 (by decide) rfl ?_
  refine zk_put 19 dc_CmGlobal_init_16 fp_CmGlobal_18 ha rfl rfl (Nat.le_of_ble_eq_true rfl) rfl (fun f3 ha o3 => ?_)
  refine zk_aload_0 20 dc_CmGlobal_init_19 rfl rfl ?_
  refine zk_iconst (v := 0) 21 dc_CmGlobal_init_20 (by decide) rfl ?_
  refine zk_put 24 dc_CmGlobal_init_21 fp_CmGlobal_21 ha rfl rfl (Nat.le_of_ble_eq_true rfl) rfl (fun f4 ha o4 => ?_)
  refine zk_aload_0 25 dc_CmGlobal_init_24 rfl rfl ?_
  refine zk_iconst (v := -1) 26 dc_CmGlobal_init_25 (by decide) rfl ?_
  refine zk_put 29 dc_CmGlobal_init_26 fp_CmGlobal_24 ha rfl rfl (Nat.le_of_ble_eq_true rfl) rfl (fun f5 ha o5 => ?_)
  refine zk_aload_0 30 dc_CmGlobal_init_29 rfl rfl ?_
  refine zk_iconst (v := -1) 31 dc_CmGlobal_init_30 (by decide) rfl ?_
  refine zk_put 34 dc_CmGlobal_init_31 fp_CmGlobal_27 ha rfl rfl (Nat.le_of_ble_eq_true rfl) rfl (fun f6 ha o6 => ?_)
  refine zk_aload_0 35 dc_CmGlobal_init_34 rfl rfl ?_
  refine zk_null 36 dc_CmGlobal_init_35 rfl ?_
  refine zk_put 39 dc_CmGlobal_init_36 fp_CmGlobal_30 ha rfl rfl (Nat.le_of_ble_eq_true rfl) rfl (fun f7 ha o7 => ?_)
  refine zk_aload_0 40 dc_CmGlobal_init_39 rfl rfl ?_
  refine zk_iconst (v := 0) 41 dc_CmGlobal_init_40 (by decide) rfl ?_
  refine zk_put 44 dc_CmGlobal_init_41 fp_CmGlobal_34 ha rfl rfl (Nat.le_of_ble_eq_true rfl) rfl (fun f8 ha o8 => ?_)
  refine zk_aload_0 45 dc_CmGlobal_init_44 rfl rfl ?_
  refine zk_iload_1 46 dc_CmGlobal_init_45 rfl rfl ?_
  refine zk_putF 49 dc_CmGlobal_init_46 fp_CmGlobal_37 (fun C T N h => by cases h; rfl) rfl ha rfl rfl (Nat.le_of_ble_eq_true rfl) rfl (fun f9 ha o9 => ?_)
  exact zk_return dc_CmGlobal_init_49 rfl ⟨rfl, _, rfl, ha, fun b q1 => by rw [o9 b (by omega), o8 b (by omega), o7 b (by omega), o6 b (by omega), o5 b (by omega), o4 b (by omega), o3 b (by omega), o2 b (by omega), o1 b (by omega)]⟩
set_option maxHeartbeats 4000000 in
set_option maxRecDepth 100000 in
theorem c_gadd {Z : zk_Z} {w s : Nat} {f : Nat → Option zk_E} {q r v c : Nat} {h : Nat → Option Nat} {vs : List Value} (hq : f q = some (.inr (.inr (2, [.ref r, .int (nI c)])))) (hr : f r = some (.inr (.inl (1, 60, h)))) (hv : f v = some (.inr (.inr (7, vs)))) (hc : c < 60) (h1 : q ≠ r) (h2 : q ≠ v) (h3 : r ≠ v) : zk_Kr Z mm_CmGlobals_add [.ref q, .ref v] (w, s, f) (fun x M' => x = .int (nI c) ∧ ∃ (g : Nat → Option zk_E) (h2 : Nat → Option Nat), M' = (w, s, g) ∧ g q = some (.inr (.inr (2, [.ref r, .int (nI (c + 1))]))) ∧ g r = some (.inr (.inl (1, 60, h2))) ∧ ∀ b, b ≠ q → b ≠ r → g b = f b) := by
  refine zk_enterB (by decide) (Nat.le_of_ble_eq_true rfl) rfl ?_
  show zk_P Z mm_CmGlobals_add 0 [some (.ref q), some (.ref v)] [] (w, s, f) _
  refine zk_aload_0 1 dc_CmGlobals_add_0 rfl rfl ?_
  refine zk_getfield 4 dc_CmGlobals_add_1 fg_CmGlobals_17 hq rfl rfl ?_
  refine zk_if_lt 19 7 dc_CmGlobals_add_4 (by decide) rfl (fun hx => by first | exact absurd hx (nI_pos (show c < 2 ^ 31 by omega)) | exact absurd (nI_pos (show c < 2 ^ 31 by omega)) hx) (fun hx => ?_)
  refine zk_aload_0 8 dc_CmGlobals_add_7 rfl rfl ?_
  refine zk_getfield 11 dc_CmGlobals_add_8 fg_CmGlobals_17 hq rfl rfl ?_
  refine zk_aload_0 12 dc_CmGlobals_add_11 rfl rfl ?_
  refine zk_getfield 15 dc_CmGlobals_add_12 fg_CmGlobals_11 hq rfl rfl ?_
  refine zk_alenq 16 dc_CmGlobals_add_15 rfl hr rfl ?_
  refine zk_icmp_lt 21 19 dc_CmGlobals_add_16 (by decide) rfl (fun hx => ?_) (fun hx => by first | exact absurd hx (show nI c < nI 60 from nI_lt hc (by decide)) | exact absurd (show nI c < nI 60 from nI_lt hc (by decide)) hx)
  refine zk_aload_0 22 dc_CmGlobals_add_21 rfl rfl ?_
  refine zk_getfield 25 dc_CmGlobals_add_22 fg_CmGlobals_11 hq rfl rfl ?_
  refine zk_aload_0 26 dc_CmGlobals_add_25 rfl rfl ?_
  refine zk_getfield 29 dc_CmGlobals_add_26 fg_CmGlobals_17 hq rfl rfl ?_
  refine zk_aload_1 30 dc_CmGlobals_add_29 rfl rfl ?_
  refine zk_aastoreK 31 dc_CmGlobals_add_30 rfl hr hv rfl (vp_in_nI hc (by decide)) rfl (fun f1 hr o1 => ?_)
  have hq := (o1 (q) (by omega) ).trans hq
  have hv := (o1 (v) (by omega) ).trans hv
  refine zk_aload_0 32 dc_CmGlobals_add_31 rfl rfl ?_
  refine zk_dup 33 dc_CmGlobals_add_32 rfl rfl ?_
  refine zk_getfield 36 dc_CmGlobals_add_33 fg_CmGlobals_17 hq rfl rfl ?_
  refine zk_dup_x1 37 dc_CmGlobals_add_36 rfl rfl rfl ?_
  refine zk_iconst (v := 1) 38 dc_CmGlobals_add_37 (by decide) rfl ?_
  refine zk_iadd 39 dc_CmGlobals_add_38 rfl ?_
  refine zk_put 42 dc_CmGlobals_add_39 fp_CmGlobals_17 hq rfl rfl (Nat.le_of_ble_eq_true rfl) rfl (fun f2 hq o2 => ?_)
  have hv := (o2 (v) (by omega) ).trans hv
  have hr := (o2 (r) (by omega) ).trans hr
  rw [nI_1] at hq
  exact zk_ireturn dc_CmGlobals_add_42 rfl (by first | rfl | decide) ⟨_, rfl, rfl, _, _, rfl, hq, hr, fun b q1 q2 => by rw [o2 b (by omega), o1 b (by omega)]⟩
set_option maxHeartbeats 4000000 in
set_option maxRecDepth 100000 in
theorem f_axiom {Z : zk_Z} {w s : Nat} {f : Nat → Option zk_E} {a n : Nat} (ha : f (a) = some (.inr (.inr (6, [.ref n, .ref (n + 7), .ref (n + 9), .ref (n + 10), .ref (n + 17), .int (-1), .int (-1), .int (-1), .int (-1)])))) (ht : f (n) = some (.inr (.inr (1, [.ref (n + 1), .ref (n + 3), .ref (n + 5), .int 0])))) (hq0 : f (n + 1) = some (.inr (.inr (0, [.int 46000, .ref (n + 2), .int 0])))) (hr0 : f (n + 2) = some (.inl (256, fun _ => 0))) (hq1 : f (n + 3) = some (.inr (.inr (0, [.int 3000, .ref (n + 4), .int 0])))) (hr1 : f (n + 4) = some (.inl (256, fun _ => 0))) (hg : f (n + 7) = some (.inr (.inr (2, [.ref (n + 8), .int 0])))) (hga : f (n + 8) = some (.inr (.inl (1, 60, fun _ => none)))) (hlt : a < n) (hw : n + 20 ≤ w) : zk_Kr Z mm_Cm_axiom [.ref a] (w, s, f) (fun v M' => v = .int (nI 0) ∧ p1_po w s n f M') := by
  refine zk_enterB (by decide) (Nat.le_of_ble_eq_true rfl) rfl ?_
  show zk_P Z mm_Cm_axiom 0 [some (.ref a)] [] (w, s, f) _
  refine zk_aload_0 1 dc_Cm_axiom_0 rfl rfl ?_
  refine zk_getfield 4 dc_Cm_axiom_1 fg_Cm_19 ha rfl rfl ?_
  refine zk_iconst (v := 1) 5 dc_Cm_axiom_4 (by decide) rfl ?_
  refine zk_cVr 8 (c_room hg) dc_Cm_axiom_5 ok_CmGlobals_roomFor lk_Cm_92 hg rfl rfl rfl ⟨Nat.le_of_ble_eq_true rfl, Nat.le_of_ble_eq_true rfl⟩ (Nat.le_of_ble_eq_true rfl) rfl (fun v M1 hk => ?_)
  obtain ⟨rfl, hk⟩ := hk
  have hk : v = .int 1 := by rcases hk with ⟨_, h⟩ | ⟨h, _⟩ <;> first | exact h | exact absurd h (by decide)
  subst hk
  refine zk_if_eq 29 11 dc_Cm_axiom_8 (by decide) rfl (fun hx => by first | exact absurd hx (show ¬ (1 : Int32) = 0 by decide) | exact absurd (show ¬ (1 : Int32) = 0 by decide) hx) (fun hx => ?_)
  refine zk_aload_0 12 dc_Cm_axiom_11 rfl rfl ?_
  refine zk_getfield 15 dc_Cm_axiom_12 fg_Cm_19 ha rfl rfl ?_
  refine zk_newK 18 dc_Cm_axiom_15 nw_Cm_71 rfl (fun f1 hv o1 => ?_)
  have hg := (o1 (n + 7) (by omega) ).trans hg
  have hga := (o1 (n + 8) (by omega) ).trans hga
  refine zk_dup 19 dc_Cm_axiom_18 rfl rfl ?_
  refine zk_iconst (v := 0) 20 dc_Cm_axiom_19 (by decide) rfl ?_
  refine zk_cIv 23 (ct_Global hv) dc_Cm_axiom_20 ok_CmGlobal_init lk_Cm_95 rfl rfl ⟨Nat.le_of_ble_eq_true rfl, Nat.le_of_ble_eq_true rfl⟩ (Nat.le_of_ble_eq_true rfl) rfl (fun M1 hk => ?_)
  obtain ⟨g1, rfl, hv, p1⟩ := hk
  have hg := (p1 (n + 7) (by omega) ).trans hg
  have hga := (p1 (n + 8) (by omega) ).trans hga
  refine zk_cVr 26 (c_gadd (c := 0) hg hga hv (by decide) (by omega) (by omega) (by omega)) dc_Cm_axiom_23 ok_CmGlobals_add lk_Cm_98 hg rfl rfl rfl ⟨Nat.le_of_ble_eq_true rfl, Nat.le_of_ble_eq_true rfl⟩ (Nat.le_of_ble_eq_true rfl) rfl (fun v M1 hk => ?_)
  obtain ⟨rfl, g2, h2, rfl, -, -, p2⟩ := hk
  refine zk_goto 30 dc_Cm_axiom_26 (by decide) ?_
  exact zk_ireturn dc_Cm_axiom_30 rfl (by first | rfl | decide) ⟨_, rfl, rfl, _, _, _, rfl, by omega, by omega, fun b q1 q2 => by rw [p2 b (by omega) (by omega), p1 b (by omega), o1 b (by omega)]⟩
set_option maxHeartbeats 4000000 in
set_option maxRecDepth 100000 in
theorem c_famloop {Z : zk_Z} {q r k x4 : Nat} {x1 x2 x5 : Int32} {R : Option Value → zk_M → Prop} (hqr : q ≠ r) (hk : k ≤ 5) : ∀ (m j w s : Nat) (f : Nat → Option zk_E) (h : Nat → Option Nat) (l7 : Option Value), j + m = k → f q = some (.inr (.inr (2, [.ref r, .int (nI (j + 1))]))) → f r = some (.inr (.inl (1, 60, h))) → q < w → r < w → (∀ (g : Nat → Option zk_E) (w2 s2 : Nat), w2 = w + m → s2 = s + 9 * m → (∀ b, b < w → b ≠ q → b ≠ r → g b = f b) → R (some (.int x5)) (w2, s2, g)) → zk_P Z mm_CmGlobals_addFamily 39 [some (.ref q), some (.int x1), some (.int x2), some (.int (nI k)), some (.ref x4), some (.int x5), some (.int (nI j)), l7] [] (w, s, f) R := by
  intro m
  induction m with
  | zero =>
    intro j w s f h l7 hj hq hr hw1 hw2 hR
    have hj : j = k := by omega
    subst hj
    refine zk_iload 41 dc_CmGlobals_addFamily_39 rfl rfl ?_
    refine zk_iload_3 42 dc_CmGlobals_addFamily_41 rfl rfl ?_
    refine zk_icmp_ge 82 45 dc_CmGlobals_addFamily_42 (by decide) rfl (fun hx => ?_) (fun hx => by first | exact absurd hx (show nI j ≤ nI j from Int32.le_refl _) | exact absurd (show nI j ≤ nI j from Int32.le_refl _) hx)
    refine zk_iload 84 dc_CmGlobals_addFamily_82 rfl rfl ?_
    exact zk_ireturn dc_CmGlobals_addFamily_84 rfl rfl (hR f w s rfl rfl (fun _ _ _ _ => rfl))
  | succ m ih =>
    intro j w s f h l7 hj hq hr hw1 hw2 hR
    refine zk_iload 41 dc_CmGlobals_addFamily_39 rfl rfl ?_
    refine zk_iload_3 42 dc_CmGlobals_addFamily_41 rfl rfl ?_
    refine zk_icmp_ge 82 45 dc_CmGlobals_addFamily_42 (by decide) rfl (fun hx => by first | exact absurd hx (show ¬ nI k ≤ nI j from nI_ge (by omega) (by omega)) | exact absurd (show ¬ nI k ≤ nI j from nI_ge (by omega) (by omega)) hx) (fun hx => ?_)
    refine zk_newK 48 dc_CmGlobals_addFamily_45 nw_CmGlobals_9 rfl (fun f1 hv o1 => ?_)
    have hq := (o1 (q) (by omega) ).trans hq
    have hr := (o1 (r) (by omega) ).trans hr
    refine zk_dup 49 dc_CmGlobals_addFamily_48 rfl rfl ?_
    refine zk_iconst (v := 3) 50 dc_CmGlobals_addFamily_49 (by decide) rfl ?_
    refine zk_cIv 53 (ct_Global hv) dc_CmGlobals_addFamily_50 ok_CmGlobal_init lk_CmGlobals_28 rfl rfl ⟨Nat.le_of_ble_eq_true rfl, Nat.le_of_ble_eq_true rfl⟩ (Nat.le_of_ble_eq_true rfl) rfl (fun M1 hk => ?_)
    obtain ⟨g1, rfl, hv, p1⟩ := hk
    have hq := (p1 (q) (by omega) ).trans hq
    have hr := (p1 (r) (by omega) ).trans hr
    refine zk_astore_7 55 dc_CmGlobals_addFamily_53 (Nat.le_of_ble_eq_true rfl) rfl ?_
    refine zk_aload 57 dc_CmGlobals_addFamily_55 rfl rfl ?_
    refine zk_iload 59 dc_CmGlobals_addFamily_57 rfl rfl ?_
    refine zk_put 62 dc_CmGlobals_addFamily_59 fp_CmGlobals_44 hv rfl rfl (Nat.le_of_ble_eq_true rfl) rfl (fun f2 hv o2 => ?_)
    have hq := (o2 (q) (by omega) ).trans hq
    have hr := (o2 (r) (by omega) ).trans hr
    refine zk_aload 64 dc_CmGlobals_addFamily_62 rfl rfl ?_
    refine zk_iload 66 dc_CmGlobals_addFamily_64 rfl rfl ?_
    refine zk_put 69 dc_CmGlobals_addFamily_66 fp_CmGlobals_47 hv rfl rfl (Nat.le_of_ble_eq_true rfl) rfl (fun f3 hv o3 => ?_)
    have hq := (o3 (q) (by omega) ).trans hq
    have hr := (o3 (r) (by omega) ).trans hr
    refine zk_aload_0 70 dc_CmGlobals_addFamily_69 rfl rfl ?_
    refine zk_aload 72 dc_CmGlobals_addFamily_70 rfl rfl ?_
    refine zk_cVr 75 (c_gadd (c := j + 1) hq hr hv (by omega) hqr (by omega) (by omega)) dc_CmGlobals_addFamily_72 ok_CmGlobals_add lk_CmGlobals_40 hq rfl rfl rfl ⟨Nat.le_of_ble_eq_true rfl, Nat.le_of_ble_eq_true rfl⟩ (Nat.le_of_ble_eq_true rfl) rfl (fun v M1 hk => ?_)
    obtain ⟨rfl, g2, h2, rfl, hq, hr, p2⟩ := hk
    refine zk_pop 76 dc_CmGlobals_addFamily_75 rfl rfl ?_
    refine zk_iinc_6 (v := 1) 79 dc_CmGlobals_addFamily_76 (by decide) (Nat.le_of_ble_eq_true rfl) rfl ?_
    refine zk_goto 39 dc_CmGlobals_addFamily_79 (by decide) ?_
    rw [nI_1]
    exact ih (j + 1) (w + 1) (s + 9) g2 h2 _ (by omega) hq hr (by omega) (by omega) (fun g3 w2 s2 e1 e2 o => hR g3 w2 s2 (by omega) (by omega) (fun b b1 b2 b3 => by rw [o b (by omega) b2 b3, p2 b (by omega) (by omega), o3 b (by omega), o2 b (by omega), p1 b (by omega), o1 b (by omega)]))
set_option maxHeartbeats 4000000 in
set_option maxRecDepth 100000 in
theorem c_addFamily {Z : zk_Z} {w s : Nat} {f : Nat → Option zk_E} {q r k : Nat} {h : Nat → Option Nat} {x1 x2 : Int32} (hq : f q = some (.inr (.inr (2, [.ref r, .int (nI 0)])))) (hr : f r = some (.inr (.inl (1, 60, h)))) (hqr : q ≠ r) (hk : k ≤ 5) (hw1 : q < w) (hw2 : r < w) : zk_Kr Z mm_CmGlobals_addFamily [.ref q, .int x1, .int x2, .int (nI k)] (w, s, f) (fun v M' => v = .int (nI 0) ∧ ∃ (w2 s2 : Nat) (g : Nat → Option zk_E), M' = (w2, s2, g) ∧ w2 ≤ w + 6 ∧ s2 ≤ s + 54 ∧ ∀ b, b < w → b ≠ q → b ≠ r → g b = f b) := by
  refine zk_enterB (by decide) (Nat.le_of_ble_eq_true rfl) rfl ?_
  show zk_P Z mm_CmGlobals_addFamily 0 [some (.ref q), some (.int x1), some (.int x2), some (.int (nI k)), none, none, none, none] [] (w, s, f) _
  refine zk_newK 3 dc_CmGlobals_addFamily_0 nw_CmGlobals_9 rfl (fun f1 hv o1 => ?_)
  have hq := (o1 (q) (by omega) ).trans hq
  have hr := (o1 (r) (by omega) ).trans hr
  refine zk_dup 4 dc_CmGlobals_addFamily_3 rfl rfl ?_
  refine zk_iconst (v := 2) 5 dc_CmGlobals_addFamily_4 (by decide) rfl ?_
  refine zk_cIv 8 (ct_Global hv) dc_CmGlobals_addFamily_5 ok_CmGlobal_init lk_CmGlobals_28 rfl rfl ⟨Nat.le_of_ble_eq_true rfl, Nat.le_of_ble_eq_true rfl⟩ (Nat.le_of_ble_eq_true rfl) rfl (fun M1 hk => ?_)
  obtain ⟨g1, rfl, hv, p1⟩ := hk
  have hq := (p1 (q) (by omega) ).trans hq
  have hr := (p1 (r) (by omega) ).trans hr
  refine zk_astore_4 10 dc_CmGlobals_addFamily_8 (Nat.le_of_ble_eq_true rfl) rfl ?_
  refine zk_aload 12 dc_CmGlobals_addFamily_10 rfl rfl ?_
  refine zk_iload_1 13 dc_CmGlobals_addFamily_12 rfl rfl ?_
  refine zk_put 16 dc_CmGlobals_addFamily_13 fp_CmGlobals_31 hv rfl rfl (Nat.le_of_ble_eq_true rfl) rfl (fun f2 hv o2 => ?_)
  have hq := (o2 (q) (by omega) ).trans hq
  have hr := (o2 (r) (by omega) ).trans hr
  refine zk_aload 18 dc_CmGlobals_addFamily_16 rfl rfl ?_
  refine zk_iload_2 19 dc_CmGlobals_addFamily_18 rfl rfl ?_
  refine zk_put 22 dc_CmGlobals_addFamily_19 fp_CmGlobals_34 hv rfl rfl (Nat.le_of_ble_eq_true rfl) rfl (fun f3 hv o3 => ?_)
  have hq := (o3 (q) (by omega) ).trans hq
  have hr := (o3 (r) (by omega) ).trans hr
  refine zk_aload 24 dc_CmGlobals_addFamily_22 rfl rfl ?_
  refine zk_iload_3 25 dc_CmGlobals_addFamily_24 rfl rfl ?_
  refine zk_put 28 dc_CmGlobals_addFamily_25 fp_CmGlobals_37 hv rfl rfl (Nat.le_of_ble_eq_true rfl) rfl (fun f4 hv o4 => ?_)
  have hq := (o4 (q) (by omega) ).trans hq
  have hr := (o4 (r) (by omega) ).trans hr
  refine zk_aload_0 29 dc_CmGlobals_addFamily_28 rfl rfl ?_
  refine zk_aload 31 dc_CmGlobals_addFamily_29 rfl rfl ?_
  refine zk_cVr 34 (c_gadd (c := 0) hq hr hv (by decide) hqr (by omega) (by omega)) dc_CmGlobals_addFamily_31 ok_CmGlobals_add lk_CmGlobals_40 hq rfl rfl rfl ⟨Nat.le_of_ble_eq_true rfl, Nat.le_of_ble_eq_true rfl⟩ (Nat.le_of_ble_eq_true rfl) rfl (fun v M1 hk => ?_)
  obtain ⟨rfl, g2, h2, rfl, hq, hr, p2⟩ := hk
  refine zk_istore_5 36 dc_CmGlobals_addFamily_34 (Nat.le_of_ble_eq_true rfl) rfl ?_
  refine zk_iconst (v := 0) 37 dc_CmGlobals_addFamily_36 (by decide) rfl ?_
  refine zk_istore_6 39 dc_CmGlobals_addFamily_37 (Nat.le_of_ble_eq_true rfl) rfl ?_
  exact c_famloop hqr hk k 0 (w + 1) (s + 9) g2 h2 _ (by omega) hq hr (by omega) (by omega) (fun g3 w2 s2 e1 e2 o => ⟨_, rfl, rfl, w2, s2, g3, rfl, by omega, by omega, fun b b1 b2 b3 => by rw [o b (by omega) b2 b3, p2 b (by omega) (by omega), o4 b (by omega), o3 b (by omega), o2 b (by omega), p1 b (by omega), o1 b (by omega)]⟩)
set_option maxHeartbeats 4000000 in
set_option maxRecDepth 100000 in
theorem f_family {Z : zk_Z} {w s : Nat} {f : Nat → Option zk_E} {a n : Nat} (ha : f (a) = some (.inr (.inr (6, [.ref n, .ref (n + 7), .ref (n + 9), .ref (n + 10), .ref (n + 17), .int (-1), .int (-1), .int (-1), .int (-1)])))) (ht : f (n) = some (.inr (.inr (1, [.ref (n + 1), .ref (n + 3), .ref (n + 5), .int 0])))) (hq0 : f (n + 1) = some (.inr (.inr (0, [.int 46000, .ref (n + 2), .int 0])))) (hr0 : f (n + 2) = some (.inl (256, fun _ => 0))) (hq1 : f (n + 3) = some (.inr (.inr (0, [.int 3000, .ref (n + 4), .int 0])))) (hr1 : f (n + 4) = some (.inl (256, fun _ => 0))) (hg : f (n + 7) = some (.inr (.inr (2, [.ref (n + 8), .int 0])))) (hga : f (n + 8) = some (.inr (.inl (1, 60, fun _ => none)))) (hlt : a < n) (hw : n + 20 ≤ w) {x y z : Int32} : zk_Kr Z mm_Cm_family [.ref a, .int x, .int y, .int z] (w, s, f) (fun v M' => v = .int (p1_fam x y z) ∧ p1_po w s n f M') := by
  refine zk_enterB (by decide) (Nat.le_of_ble_eq_true rfl) rfl ?_
  show zk_P Z mm_Cm_family 0 [some (.ref a), some (.int x), some (.int y), some (.int z)] [] (w, s, f) _
  refine zk_iload_1 1 dc_Cm_family_0 rfl rfl ?_
  refine zk_iconst (v := 4) 2 dc_Cm_family_1 (by decide) rfl ?_
  refine zk_cSr 5 (c_upto) dc_Cm_family_2 ok_Cm_isUpTo lk_Cm_112 rfl rfl ⟨Nat.le_of_ble_eq_true rfl, Nat.le_of_ble_eq_true rfl⟩ (Nat.le_of_ble_eq_true rfl) rfl (fun v M1 hk => ?_)
  obtain ⟨rfl, hk⟩ := hk
  rcases hk with ⟨h1, rfl⟩ | ⟨h1, rfl⟩
  · refine zk_if_eq 37 8 dc_Cm_family_5 (by decide) rfl (fun hx => by first | exact absurd hx (show ¬ (1 : Int32) = 0 by decide) | exact absurd (show ¬ (1 : Int32) = 0 by decide) hx) (fun hx => ?_)
    refine zk_iload_2 9 dc_Cm_family_8 rfl rfl ?_
    refine zk_iconst (v := 4) 10 dc_Cm_family_9 (by decide) rfl ?_
    refine zk_cSr 13 (c_upto) dc_Cm_family_10 ok_Cm_isUpTo lk_Cm_112 rfl rfl ⟨Nat.le_of_ble_eq_true rfl, Nat.le_of_ble_eq_true rfl⟩ (Nat.le_of_ble_eq_true rfl) rfl (fun v M1 hk => ?_)
    obtain ⟨rfl, hk⟩ := hk
    rcases hk with ⟨h2, rfl⟩ | ⟨h2, rfl⟩
    · refine zk_if_eq 37 16 dc_Cm_family_13 (by decide) rfl (fun hx => by first | exact absurd hx (show ¬ (1 : Int32) = 0 by decide) | exact absurd (show ¬ (1 : Int32) = 0 by decide) hx) (fun hx => ?_)
      refine zk_iload_3 17 dc_Cm_family_16 rfl rfl ?_
      refine zk_iconst (v := 5) 18 dc_Cm_family_17 (by decide) rfl ?_
      refine zk_cSr 21 (c_upto) dc_Cm_family_18 ok_Cm_isUpTo lk_Cm_112 rfl rfl ⟨Nat.le_of_ble_eq_true rfl, Nat.le_of_ble_eq_true rfl⟩ (Nat.le_of_ble_eq_true rfl) rfl (fun v M1 hk => ?_)
      obtain ⟨rfl, hk⟩ := hk
      rcases hk with ⟨h3, rfl⟩ | ⟨h3, rfl⟩
      · refine zk_if_eq 37 24 dc_Cm_family_21 (by decide) rfl (fun hx => by first | exact absurd hx (show ¬ (1 : Int32) = 0 by decide) | exact absurd (show ¬ (1 : Int32) = 0 by decide) hx) (fun hx => ?_)
        refine zk_aload_0 25 dc_Cm_family_24 rfl rfl ?_
        refine zk_getfield 28 dc_Cm_family_25 fg_Cm_19 ha rfl rfl ?_
        refine zk_iconst (v := 1) 29 dc_Cm_family_28 (by decide) rfl ?_
        refine zk_iload_3 30 dc_Cm_family_29 rfl rfl ?_
        refine zk_iadd 31 dc_Cm_family_30 rfl ?_
        obtain ⟨k, hk5, rfl⟩ := nI_of2 (M := 5) (n := 5) rfl (Int32.not_lt.mpr h3.1) h3.2
        refine zk_cVr 34 (c_room hg) dc_Cm_family_31 ok_CmGlobals_roomFor lk_Cm_92 hg rfl rfl rfl ⟨Nat.le_of_ble_eq_true rfl, Nat.le_of_ble_eq_true rfl⟩ (Nat.le_of_ble_eq_true rfl) rfl (fun v M1 hk => ?_)
        obtain ⟨rfl, hk⟩ := hk
        have hk : v = .int 1 := by
          rcases hk with ⟨_, h⟩ | ⟨h, _⟩
          · exact h
          · rcases (show k = 0 ∨ k = 1 ∨ k = 2 ∨ k = 3 ∨ k = 4 ∨ k = 5 by omega) with rfl | rfl | rfl | rfl | rfl | rfl <;> exact absurd h (by decide)
        subst hk
        refine zk_if_ne 39 37 dc_Cm_family_34 (by decide) rfl (fun hx => ?_) (fun hx => by first | exact absurd hx (show ¬ (1 : Int32) = 0 by decide) | exact absurd (show ¬ (1 : Int32) = 0 by decide) hx)
        refine zk_aload_0 40 dc_Cm_family_39 rfl rfl ?_
        refine zk_getfield 43 dc_Cm_family_40 fg_Cm_19 ha rfl rfl ?_
        refine zk_iload_1 44 dc_Cm_family_43 rfl rfl ?_
        refine zk_iload_2 45 dc_Cm_family_44 rfl rfl ?_
        refine zk_iload_3 46 dc_Cm_family_45 rfl rfl ?_
        refine zk_cVr 49 (c_addFamily hg hga (by omega) hk5 (by omega) (by omega)) dc_Cm_family_46 ok_CmGlobals_addFamily lk_Cm_116 hg rfl rfl rfl ⟨Nat.le_of_ble_eq_true rfl, Nat.le_of_ble_eq_true rfl⟩ (Nat.le_of_ble_eq_true rfl) rfl (fun v M1 hk => ?_)
        obtain ⟨rfl, w2, s2, g, rfl, q1, q2, p⟩ := hk
        have hp : p1_fam x y (nI k) = 0 := by rw [p1_fam, if_pos ⟨h1, h2, h3⟩]
        exact zk_ireturn dc_Cm_family_49 rfl (by first | rfl | decide) ⟨_, rfl, congrArg Value.int hp.symm, w2, s2, g, rfl, q1, q2, fun b b1 b2 => p b b2 (by omega) (by omega)⟩
      · refine zk_if_eq 37 24 dc_Cm_family_21 (by decide) rfl (fun hx => ?_) (fun hx => by first | exact absurd hx rfl | exact absurd rfl hx)
        refine zk_iconst (v := -1) 38 dc_Cm_family_37 (by decide) rfl ?_
        have hp : p1_fam x y z = -1 := by rw [p1_fam, if_neg (fun q => h3 q.2.2)]
        exact zk_ireturn dc_Cm_family_38 rfl (by first | rfl | decide) ⟨_, rfl, congrArg Value.int hp.symm, p1_same⟩
    · refine zk_if_eq 37 16 dc_Cm_family_13 (by decide) rfl (fun hx => ?_) (fun hx => by first | exact absurd hx rfl | exact absurd rfl hx)
      refine zk_iconst (v := -1) 38 dc_Cm_family_37 (by decide) rfl ?_
      have hp : p1_fam x y z = -1 := by rw [p1_fam, if_neg (fun q => h2 q.2.1)]
      exact zk_ireturn dc_Cm_family_38 rfl (by first | rfl | decide) ⟨_, rfl, congrArg Value.int hp.symm, p1_same⟩
  · refine zk_if_eq 37 8 dc_Cm_family_5 (by decide) rfl (fun hx => ?_) (fun hx => by first | exact absurd hx rfl | exact absurd rfl hx)
    refine zk_iconst (v := -1) 38 dc_Cm_family_37 (by decide) rfl ?_
    have hp : p1_fam x y z = -1 := by rw [p1_fam, if_neg (fun q => h1 q.1)]
    exact zk_ireturn dc_Cm_family_38 rfl (by first | rfl | decide) ⟨_, rfl, congrArg Value.int hp.symm, p1_same⟩
end
section
abbrev mm_Mo_isNumber : zk_Mt := (⟨"ClosureMachineModel", "isNumber", "(I)Z"⟩, prog_10_method_2_code, 1, (Option.some .boolean), 0, 0)
set_option maxRecDepth 20000 in
theorem ok_Mo_isNumber : zk_Ok mm_Mo_isNumber 1 := ⟨zk_in 841 rfl rfl, ⟨by decide +kernel, by decide +kernel, by decide +kernel⟩, zk_in 8 (by decide +kernel) (by decide +kernel)⟩
theorem dc_Mo_isNumber_0 : decode prog_10_method_2_code 0 = .ok (.iload_n 0, 1) := by decide +kernel
theorem dc_Mo_isNumber_1 : decode prog_10_method_2_code 1 = .ok (.ifCond .lt 14, 3) := by decide +kernel
theorem dc_Mo_isNumber_15 : decode prog_10_method_2_code 15 = .ok (.iconst 0, 1) := by decide +kernel
theorem dc_Mo_isNumber_16 : decode prog_10_method_2_code 16 = .ok (.ireturn, 1) := by decide +kernel
theorem dc_Mo_isNumber_4 : decode prog_10_method_2_code 4 = .ok (.iload_n 0, 1) := by decide +kernel
theorem dc_Mo_isNumber_5 : decode prog_10_method_2_code 5 = .ok (.sipush 200, 3) := by decide +kernel
theorem dc_Mo_isNumber_8 : decode prog_10_method_2_code 8 = .ok (.if_icmp .ge 7, 3) := by decide +kernel
theorem dc_Mo_isNumber_11 : decode prog_10_method_2_code 11 = .ok (.iconst 1, 1) := by decide +kernel
theorem dc_Mo_isNumber_12 : decode prog_10_method_2_code 12 = .ok (.goto 4, 3) := by decide +kernel
abbrev mm_Mo_isTerm : zk_Mt := (⟨"ClosureMachineModel", "isTerm", "(I)Z"⟩, prog_10_method_3_code, 2, (Option.some .boolean), 0, 0)
set_option maxRecDepth 20000 in
theorem ok_Mo_isTerm : zk_Ok mm_Mo_isTerm 1 := ⟨zk_in 858 rfl rfl, ⟨by decide +kernel, by decide +kernel, by decide +kernel⟩, zk_in 8 (by decide +kernel) (by decide +kernel)⟩
theorem dc_Mo_isTerm_0 : decode prog_10_method_3_code 0 = .ok (.iload_n 1, 1) := by decide +kernel
theorem dc_Mo_isTerm_1 : decode prog_10_method_3_code 1 = .ok (.ifCond .lt 15, 3) := by decide +kernel
theorem dc_Mo_isTerm_16 : decode prog_10_method_3_code 16 = .ok (.iconst 0, 1) := by decide +kernel
theorem dc_Mo_isTerm_17 : decode prog_10_method_3_code 17 = .ok (.ireturn, 1) := by decide +kernel
theorem dc_Mo_isTerm_4 : decode prog_10_method_3_code 4 = .ok (.iload_n 1, 1) := by decide +kernel
theorem dc_Mo_isTerm_5 : decode prog_10_method_3_code 5 = .ok (.aload_n 0, 1) := by decide +kernel
theorem dc_Mo_isTerm_6 : decode prog_10_method_3_code 6 = .ok (.getfield 109, 3) := by decide +kernel
theorem fg_Mo_109 : zk_F "ClosureMachineModel" 109 9 4 := ⟨rc_9, tc_9, 48, rfl, by decide, zk_in 694 (by decide +kernel) (by decide +kernel)⟩
theorem dc_Mo_isTerm_9 : decode prog_10_method_3_code 9 = .ok (.if_icmp .ge 7, 3) := by decide +kernel
abbrev mm_Mo_isGood : zk_Mt := (⟨"ClosureMachineModel", "isGood", "(II)Z"⟩, prog_10_method_41_code, 3, (Option.some .boolean), 1, 21)
set_option maxRecDepth 20000 in
theorem ok_Mo_isGood : zk_Ok mm_Mo_isGood 2 := ⟨zk_in 928 rfl rfl, ⟨by decide +kernel, by decide +kernel, by decide +kernel⟩, zk_in 8 (by decide +kernel) (by decide +kernel)⟩
theorem dc_Mo_isGood_0 : decode prog_10_method_41_code 0 = .ok (.aload_n 0, 1) := by decide +kernel
theorem dc_Mo_isGood_1 : decode prog_10_method_41_code 1 = .ok (.iload_n 1, 1) := by decide +kernel
theorem dc_Mo_isGood_2 : decode prog_10_method_41_code 2 = .ok (.invokevirtual 145, 3) := by decide +kernel
theorem lk_Mo_145 : zk_LV "ClosureMachineModel" 145 mm_Mo_isTerm := ⟨zk_in 855 (by decide +kernel) (by decide +kernel), zk_in 857 (by decide +kernel) (by decide +kernel), zk_inS (q := (⟨"ClosureMachineModel", "isTerm", "(I)Z"⟩, 48)) 26 (by decide +kernel) (by decide +kernel)⟩
theorem dc_Mo_isGood_5 : decode prog_10_method_41_code 5 = .ok (.ifCond .eq 19, 3) := by decide +kernel
theorem dc_Mo_isGood_24 : decode prog_10_method_41_code 24 = .ok (.iconst 0, 1) := by decide +kernel
theorem dc_Mo_isGood_25 : decode prog_10_method_41_code 25 = .ok (.ireturn, 1) := by decide +kernel
abbrev mm_Mo_lift : zk_Mt := (⟨"ClosureMachineModel", "lift", "(II)I"⟩, prog_10_method_10_code, 7, (Option.some .int), 4, 108)
set_option maxRecDepth 20000 in
theorem ok_Mo_lift : zk_Ok mm_Mo_lift 2 := ⟨zk_in 876 rfl rfl, ⟨by decide +kernel, by decide +kernel, by decide +kernel⟩, zk_in 8 (by decide +kernel) (by decide +kernel)⟩
theorem dc_Mo_lift_0 : decode prog_10_method_10_code 0 = .ok (.aload_n 0, 1) := by decide +kernel
theorem dc_Mo_lift_1 : decode prog_10_method_10_code 1 = .ok (.iload_n 1, 1) := by decide +kernel
theorem dc_Mo_lift_2 : decode prog_10_method_10_code 2 = .ok (.invokevirtual 145, 3) := by decide +kernel
theorem dc_Mo_lift_5 : decode prog_10_method_10_code 5 = .ok (.ifCond .eq 23, 3) := by decide +kernel
theorem dc_Mo_lift_28 : decode prog_10_method_10_code 28 = .ok (.iconst (-1), 1) := by decide +kernel
theorem dc_Mo_lift_29 : decode prog_10_method_10_code 29 = .ok (.ireturn, 1) := by decide +kernel
abbrev mm_Mo_def : zk_Mt := (⟨"ClosureMachineModel", "def", "(I)I"⟩, prog_10_method_15_code, 2, (Option.some .int), 1, 21)
set_option maxRecDepth 20000 in
theorem ok_Mo_def : zk_Ok mm_Mo_def 1 := ⟨zk_in 896 rfl rfl, ⟨by decide +kernel, by decide +kernel, by decide +kernel⟩, zk_in 8 (by decide +kernel) (by decide +kernel)⟩
theorem dc_Mo_def_0 : decode prog_10_method_15_code 0 = .ok (.aload_n 0, 1) := by decide +kernel
theorem dc_Mo_def_1 : decode prog_10_method_15_code 1 = .ok (.iload_n 1, 1) := by decide +kernel
theorem dc_Mo_def_2 : decode prog_10_method_15_code 2 = .ok (.invokevirtual 145, 3) := by decide +kernel
theorem dc_Mo_def_5 : decode prog_10_method_15_code 5 = .ok (.ifCond .eq 21, 3) := by decide +kernel
theorem dc_Mo_def_26 : decode prog_10_method_15_code 26 = .ok (.iconst (-1), 1) := by decide +kernel
theorem dc_Mo_def_27 : decode prog_10_method_15_code 27 = .ok (.ireturn, 1) := by decide +kernel
abbrev mm_Mo_part : zk_Mt := (⟨"ClosureMachineModel", "part", "(III)I"⟩, prog_10_method_12_code, 5, (Option.some .int), 1, 21)
set_option maxRecDepth 20000 in
theorem ok_Mo_part : zk_Ok mm_Mo_part 3 := ⟨zk_in 884 rfl rfl, ⟨by decide +kernel, by decide +kernel, by decide +kernel⟩, zk_in 8 (by decide +kernel) (by decide +kernel)⟩
theorem dc_Mo_part_0 : decode prog_10_method_12_code 0 = .ok (.aload_n 0, 1) := by decide +kernel
theorem dc_Mo_part_1 : decode prog_10_method_12_code 1 = .ok (.iload_n 1, 1) := by decide +kernel
theorem dc_Mo_part_2 : decode prog_10_method_12_code 2 = .ok (.invokevirtual 145, 3) := by decide +kernel
theorem dc_Mo_part_5 : decode prog_10_method_12_code 5 = .ok (.ifCond .eq 34, 3) := by decide +kernel
theorem dc_Mo_part_39 : decode prog_10_method_12_code 39 = .ok (.iconst (-1), 1) := by decide +kernel
theorem dc_Mo_part_40 : decode prog_10_method_12_code 40 = .ok (.ireturn, 1) := by decide +kernel
abbrev mm_Mo_head : zk_Mt := (⟨"ClosureMachineModel", "head", "(II)I"⟩, prog_10_method_42_code, 4, (Option.some .int), 8, 220)
set_option maxRecDepth 20000 in
theorem ok_Mo_head : zk_Ok mm_Mo_head 2 := ⟨zk_in 924 rfl rfl, ⟨by decide +kernel, by decide +kernel, by decide +kernel⟩, zk_in 8 (by decide +kernel) (by decide +kernel)⟩
theorem dc_Mo_head_0 : decode prog_10_method_42_code 0 = .ok (.aload_n 0, 1) := by decide +kernel
theorem dc_Mo_head_1 : decode prog_10_method_42_code 1 = .ok (.iload_n 1, 1) := by decide +kernel
theorem dc_Mo_head_2 : decode prog_10_method_42_code 2 = .ok (.iload_n 2, 1) := by decide +kernel
theorem dc_Mo_head_3 : decode prog_10_method_42_code 3 = .ok (.invokevirtual 268, 3) := by decide +kernel
theorem lk_Mo_268 : zk_LV "ClosureMachineModel" 268 mm_Mo_isGood := ⟨zk_in 925 (by decide +kernel) (by decide +kernel), zk_in 927 (by decide +kernel) (by decide +kernel), zk_inS (q := (⟨"ClosureMachineModel", "isGood", "(II)Z"⟩, 48)) 31 (by decide +kernel) (by decide +kernel)⟩
theorem dc_Mo_head_6 : decode prog_10_method_42_code 6 = .ok (.ifCond .ne 5, 3) := by decide +kernel
theorem dc_Mo_head_9 : decode prog_10_method_42_code 9 = .ok (.iconst (-1), 1) := by decide +kernel
theorem dc_Mo_head_10 : decode prog_10_method_42_code 10 = .ok (.ireturn, 1) := by decide +kernel
abbrev mm_Mo_normal : zk_Mt := (⟨"ClosureMachineModel", "normal", "(II)I"⟩, prog_10_method_46_code, 6, (Option.some .int), 8, 220)
set_option maxRecDepth 20000 in
theorem ok_Mo_normal : zk_Ok mm_Mo_normal 2 := ⟨zk_in 1018 rfl rfl, ⟨by decide +kernel, by decide +kernel, by decide +kernel⟩, zk_in 8 (by decide +kernel) (by decide +kernel)⟩
theorem dc_Mo_normal_0 : decode prog_10_method_46_code 0 = .ok (.aload_n 0, 1) := by decide +kernel
theorem dc_Mo_normal_1 : decode prog_10_method_46_code 1 = .ok (.iload_n 1, 1) := by decide +kernel
theorem dc_Mo_normal_2 : decode prog_10_method_46_code 2 = .ok (.iload_n 2, 1) := by decide +kernel
theorem dc_Mo_normal_3 : decode prog_10_method_46_code 3 = .ok (.invokevirtual 268, 3) := by decide +kernel
theorem dc_Mo_normal_6 : decode prog_10_method_46_code 6 = .ok (.ifCond .ne 5, 3) := by decide +kernel
theorem dc_Mo_normal_9 : decode prog_10_method_46_code 9 = .ok (.iconst (-1), 1) := by decide +kernel
theorem dc_Mo_normal_10 : decode prog_10_method_46_code 10 = .ok (.ireturn, 1) := by decide +kernel
abbrev mm_Mo_cost : zk_Mt := (⟨"ClosureMachineModel", "cost", "()I"⟩, prog_10_method_49_code, 1, (Option.some .int), 0, 0)
set_option maxRecDepth 20000 in
theorem ok_Mo_cost : zk_Ok mm_Mo_cost 0 := ⟨zk_in 1045 rfl rfl, ⟨by decide +kernel, by decide +kernel, by decide +kernel⟩, zk_in 8 (by decide +kernel) (by decide +kernel)⟩
theorem dc_Mo_cost_0 : decode prog_10_method_49_code 0 = .ok (.aload_n 0, 1) := by decide +kernel
theorem dc_Mo_cost_1 : decode prog_10_method_49_code 1 = .ok (.getfield 62, 3) := by decide +kernel
theorem fg_Mo_62 : zk_F "ClosureMachineModel" 62 9 24 := ⟨rc_9, tc_9, 48, rfl, by decide, zk_in 714 (by decide +kernel) (by decide +kernel)⟩
theorem dc_Mo_cost_4 : decode prog_10_method_49_code 4 = .ok (.ireturn, 1) := by decide +kernel
abbrev mm_Mo_terms : zk_Mt := (⟨"ClosureMachineModel", "terms", "()I"⟩, prog_10_method_11_code, 1, (Option.some .int), 0, 0)
set_option maxRecDepth 20000 in
theorem ok_Mo_terms : zk_Ok mm_Mo_terms 0 := ⟨zk_in 880 rfl rfl, ⟨by decide +kernel, by decide +kernel, by decide +kernel⟩, zk_in 8 (by decide +kernel) (by decide +kernel)⟩
theorem dc_Mo_terms_0 : decode prog_10_method_11_code 0 = .ok (.aload_n 0, 1) := by decide +kernel
theorem dc_Mo_terms_1 : decode prog_10_method_11_code 1 = .ok (.getfield 109, 3) := by decide +kernel
theorem dc_Mo_terms_4 : decode prog_10_method_11_code 4 = .ok (.ireturn, 1) := by decide +kernel
abbrev mm_Mo_found : zk_Mt := (⟨"ClosureMachineModel", "found", "(I)I"⟩, prog_10_method_44_code, 2, (Option.some .int), 0, 0)
set_option maxRecDepth 20000 in
theorem ok_Mo_found : zk_Ok mm_Mo_found 1 := ⟨zk_in 1014 rfl rfl, ⟨by decide +kernel, by decide +kernel, by decide +kernel⟩, zk_in 8 (by decide +kernel) (by decide +kernel)⟩
theorem dc_Mo_found_0 : decode prog_10_method_44_code 0 = .ok (.aload_n 0, 1) := by decide +kernel
theorem dc_Mo_found_1 : decode prog_10_method_44_code 1 = .ok (.getfield 277, 3) := by decide +kernel
theorem fg_Mo_277 : zk_F "ClosureMachineModel" 277 9 20 := ⟨rc_9, tc_9, 48, rfl, by decide, zk_in 710 (by decide +kernel) (by decide +kernel)⟩
theorem dc_Mo_found_4 : decode prog_10_method_44_code 4 = .ok (.ifCond .eq 12, 3) := by decide +kernel
theorem dc_Mo_found_16 : decode prog_10_method_44_code 16 = .ok (.iconst (-1), 1) := by decide +kernel
theorem dc_Mo_found_17 : decode prog_10_method_44_code 17 = .ok (.goto 30, 3) := by decide +kernel
theorem dc_Mo_found_47 : decode prog_10_method_44_code 47 = .ok (.ireturn, 1) := by decide +kernel
abbrev mm_Mo_join : zk_Mt := (⟨"ClosureMachineModel", "join", "(III)I"⟩, prog_10_method_8_code, 4, (Option.some .int), 5, 135)
set_option maxRecDepth 20000 in
theorem ok_Mo_join : zk_Ok mm_Mo_join 3 := ⟨zk_in 854 rfl rfl, ⟨by decide +kernel, by decide +kernel, by decide +kernel⟩, zk_in 8 (by decide +kernel) (by decide +kernel)⟩
theorem dc_Mo_join_0 : decode prog_10_method_8_code 0 = .ok (.iload_n 1, 1) := by decide +kernel
theorem dc_Mo_join_1 : decode prog_10_method_8_code 1 = .ok (.iconst 4, 1) := by decide +kernel
theorem dc_Mo_join_2 : decode prog_10_method_8_code 2 = .ok (.if_icmp .eq 9, 3) := by decide +kernel
theorem dc_Mo_join_11 : decode prog_10_method_8_code 11 = .ok (.aload_n 0, 1) := by decide +kernel
theorem dc_Mo_join_12 : decode prog_10_method_8_code 12 = .ok (.iload_n 2, 1) := by decide +kernel
theorem dc_Mo_join_13 : decode prog_10_method_8_code 13 = .ok (.invokevirtual 145, 3) := by decide +kernel
theorem dc_Mo_join_16 : decode prog_10_method_8_code 16 = .ok (.ifCond .eq 22, 3) := by decide +kernel
theorem dc_Mo_join_38 : decode prog_10_method_8_code 38 = .ok (.iconst (-1), 1) := by decide +kernel
theorem dc_Mo_join_39 : decode prog_10_method_8_code 39 = .ok (.ireturn, 1) := by decide +kernel
theorem dc_Mo_join_5 : decode prog_10_method_8_code 5 = .ok (.iload_n 1, 1) := by decide +kernel
theorem dc_Mo_join_6 : decode prog_10_method_8_code 6 = .ok (.bipush 9, 2) := by decide +kernel
theorem dc_Mo_join_8 : decode prog_10_method_8_code 8 = .ok (.if_icmp .ne 30, 3) := by decide +kernel
abbrev mm_Mo_binder : zk_Mt := (⟨"ClosureMachineModel", "binder", "(IIII)I"⟩, prog_10_method_9_code, 5, (Option.some .int), 5, 135)
set_option maxRecDepth 20000 in
theorem ok_Mo_binder : zk_Ok mm_Mo_binder 4 := ⟨zk_in 872 rfl rfl, ⟨by decide +kernel, by decide +kernel, by decide +kernel⟩, zk_in 8 (by decide +kernel) (by decide +kernel)⟩
theorem dc_Mo_binder_0 : decode prog_10_method_9_code 0 = .ok (.iload_n 1, 1) := by decide +kernel
theorem dc_Mo_binder_1 : decode prog_10_method_9_code 1 = .ok (.iconst 5, 1) := by decide +kernel
theorem dc_Mo_binder_2 : decode prog_10_method_9_code 2 = .ok (.if_icmp .lt 49, 3) := by decide +kernel
theorem dc_Mo_binder_51 : decode prog_10_method_9_code 51 = .ok (.iconst (-1), 1) := by decide +kernel
theorem dc_Mo_binder_52 : decode prog_10_method_9_code 52 = .ok (.ireturn, 1) := by decide +kernel
theorem dc_Mo_binder_5 : decode prog_10_method_9_code 5 = .ok (.iload_n 1, 1) := by decide +kernel
theorem dc_Mo_binder_6 : decode prog_10_method_9_code 6 = .ok (.bipush 7, 2) := by decide +kernel
theorem dc_Mo_binder_8 : decode prog_10_method_9_code 8 = .ok (.if_icmp .gt 43, 3) := by decide +kernel
theorem dc_Mo_binder_11 : decode prog_10_method_9_code 11 = .ok (.iload_n 2, 1) := by decide +kernel
theorem dc_Mo_binder_12 : decode prog_10_method_9_code 12 = .ok (.iconst (-1), 1) := by decide +kernel
theorem dc_Mo_binder_13 : decode prog_10_method_9_code 13 = .ok (.if_icmp .lt 38, 3) := by decide +kernel
theorem dc_Mo_binder_16 : decode prog_10_method_9_code 16 = .ok (.iload_n 2, 1) := by decide +kernel
theorem dc_Mo_binder_17 : decode prog_10_method_9_code 17 = .ok (.bipush 100, 2) := by decide +kernel
theorem dc_Mo_binder_19 : decode prog_10_method_9_code 19 = .ok (.if_icmp .ge 32, 3) := by decide +kernel
theorem dc_Mo_binder_22 : decode prog_10_method_9_code 22 = .ok (.aload_n 0, 1) := by decide +kernel
theorem dc_Mo_binder_23 : decode prog_10_method_9_code 23 = .ok (.iload_n 3, 1) := by decide +kernel
theorem dc_Mo_binder_24 : decode prog_10_method_9_code 24 = .ok (.invokevirtual 145, 3) := by decide +kernel
theorem dc_Mo_binder_27 : decode prog_10_method_9_code 27 = .ok (.ifCond .eq 24, 3) := by decide +kernel
abbrev mm_Mo_constructor : zk_Mt := (⟨"ClosureMachineModel", "constructor", "(II)I"⟩, prog_10_method_18_code, 10, (Option.some .int), 4, 106)
set_option maxRecDepth 20000 in
theorem ok_Mo_constructor : zk_Ok mm_Mo_constructor 2 := ⟨zk_in 904 rfl rfl, ⟨by decide +kernel, by decide +kernel, by decide +kernel⟩, zk_in 8 (by decide +kernel) (by decide +kernel)⟩
theorem dc_Mo_constructor_0 : decode prog_10_method_18_code 0 = .ok (.iload_n 1, 1) := by decide +kernel
theorem dc_Mo_constructor_1 : decode prog_10_method_18_code 1 = .ok (.ifCond .lt 48, 3) := by decide +kernel
theorem dc_Mo_constructor_49 : decode prog_10_method_18_code 49 = .ok (.iconst (-1), 1) := by decide +kernel
theorem dc_Mo_constructor_50 : decode prog_10_method_18_code 50 = .ok (.ireturn, 1) := by decide +kernel
theorem dc_Mo_constructor_4 : decode prog_10_method_18_code 4 = .ok (.iload_n 1, 1) := by decide +kernel
theorem dc_Mo_constructor_5 : decode prog_10_method_18_code 5 = .ok (.aload_n 0, 1) := by decide +kernel
theorem dc_Mo_constructor_6 : decode prog_10_method_18_code 6 = .ok (.getfield 120, 3) := by decide +kernel
theorem fg_Mo_120 : zk_F "ClosureMachineModel" 120 9 14 := ⟨rc_9, tc_9, 48, rfl, by decide, zk_in 704 (by decide +kernel) (by decide +kernel)⟩
theorem dc_Mo_constructor_9 : decode prog_10_method_18_code 9 = .ok (.if_icmp .ge 40, 3) := by decide +kernel
abbrev mm_Mo_isRoom : zk_Mt := (⟨"ClosureMachineModel", "isRoom", "(I)Z"⟩, prog_10_method_4_code, 2, (Option.some .boolean), 0, 0)
set_option maxRecDepth 20000 in
theorem ok_Mo_isRoom : zk_Ok mm_Mo_isRoom 1 := ⟨zk_in 845 rfl rfl, ⟨by decide +kernel, by decide +kernel, by decide +kernel⟩, zk_in 8 (by decide +kernel) (by decide +kernel)⟩
theorem dc_Mo_isRoom_0 : decode prog_10_method_4_code 0 = .ok (.aload_n 0, 1) := by decide +kernel
theorem dc_Mo_isRoom_1 : decode prog_10_method_4_code 1 = .ok (.getfield 109, 3) := by decide +kernel
theorem dc_Mo_isRoom_4 : decode prog_10_method_4_code 4 = .ok (.sipush 3000, 3) := by decide +kernel
theorem dc_Mo_isRoom_7 : decode prog_10_method_4_code 7 = .ok (.if_icmp .ge 25, 3) := by decide +kernel
theorem dc_Mo_isRoom_10 : decode prog_10_method_4_code 10 = .ok (.iload_n 1, 1) := by decide +kernel
theorem dc_Mo_isRoom_11 : decode prog_10_method_4_code 11 = .ok (.sipush 2000, 3) := by decide +kernel
theorem dc_Mo_isRoom_14 : decode prog_10_method_4_code 14 = .ok (.if_icmp .gt 18, 3) := by decide +kernel
theorem dc_Mo_isRoom_17 : decode prog_10_method_4_code 17 = .ok (.aload_n 0, 1) := by decide +kernel
theorem dc_Mo_isRoom_18 : decode prog_10_method_4_code 18 = .ok (.getfield 112, 3) := by decide +kernel
theorem fg_Mo_112 : zk_F "ClosureMachineModel" 112 9 5 := ⟨rc_9, tc_9, 48, rfl, by decide, zk_in 695 (by decide +kernel) (by decide +kernel)⟩
theorem dc_Mo_isRoom_21 : decode prog_10_method_4_code 21 = .ok (.iload_n 1, 1) := by decide +kernel
theorem dc_Mo_isRoom_22 : decode prog_10_method_4_code 22 = .ok (.iadd, 1) := by decide +kernel
theorem dc_Mo_isRoom_23 : decode prog_10_method_4_code 23 = .ok (.ldc 115, 2) := by decide +kernel
theorem dc_Mo_isRoom_25 : decode prog_10_method_4_code 25 = .ok (.if_icmp .gt 7, 3) := by decide +kernel
theorem dc_Mo_isRoom_28 : decode prog_10_method_4_code 28 = .ok (.iconst 1, 1) := by decide +kernel
theorem dc_Mo_isRoom_29 : decode prog_10_method_4_code 29 = .ok (.goto 4, 3) := by decide +kernel
theorem dc_Mo_isRoom_33 : decode prog_10_method_4_code 33 = .ok (.ireturn, 1) := by decide +kernel
abbrev mm_Mo_term : zk_Mt := (⟨"ClosureMachineModel", "term", "(III)I"⟩, prog_10_method_5_code, 4, (Option.some .int), 0, 0)
set_option maxRecDepth 20000 in
theorem ok_Mo_term : zk_Ok mm_Mo_term 3 := ⟨zk_in 850 rfl rfl, ⟨by decide +kernel, by decide +kernel, by decide +kernel⟩, zk_in 8 (by decide +kernel) (by decide +kernel)⟩
theorem dc_Mo_term_0 : decode prog_10_method_5_code 0 = .ok (.aload_n 0, 1) := by decide +kernel
theorem dc_Mo_term_1 : decode prog_10_method_5_code 1 = .ok (.getfield 16, 3) := by decide +kernel
theorem fg_Mo_16 : zk_F "ClosureMachineModel" 16 9 1 := ⟨rc_9, tc_9, 48, rfl, by decide, zk_in 691 (by decide +kernel) (by decide +kernel)⟩
theorem dc_Mo_term_4 : decode prog_10_method_5_code 4 = .ok (.aload_n 0, 1) := by decide +kernel
theorem dc_Mo_term_5 : decode prog_10_method_5_code 5 = .ok (.getfield 109, 3) := by decide +kernel
theorem dc_Mo_term_8 : decode prog_10_method_5_code 8 = .ok (.iload_n 1, 1) := by decide +kernel
theorem dc_Mo_term_9 : decode prog_10_method_5_code 9 = .ok (.iastore, 1) := by decide +kernel
theorem dc_Mo_term_10 : decode prog_10_method_5_code 10 = .ok (.aload_n 0, 1) := by decide +kernel
theorem dc_Mo_term_11 : decode prog_10_method_5_code 11 = .ok (.getfield 20, 3) := by decide +kernel
theorem fg_Mo_20 : zk_F "ClosureMachineModel" 20 9 2 := ⟨rc_9, tc_9, 48, rfl, by decide, zk_in 692 (by decide +kernel) (by decide +kernel)⟩
theorem dc_Mo_term_14 : decode prog_10_method_5_code 14 = .ok (.aload_n 0, 1) := by decide +kernel
theorem dc_Mo_term_15 : decode prog_10_method_5_code 15 = .ok (.getfield 109, 3) := by decide +kernel
theorem dc_Mo_term_18 : decode prog_10_method_5_code 18 = .ok (.iload_n 2, 1) := by decide +kernel
theorem dc_Mo_term_19 : decode prog_10_method_5_code 19 = .ok (.iastore, 1) := by decide +kernel
theorem dc_Mo_term_20 : decode prog_10_method_5_code 20 = .ok (.aload_n 0, 1) := by decide +kernel
theorem dc_Mo_term_21 : decode prog_10_method_5_code 21 = .ok (.getfield 23, 3) := by decide +kernel
theorem fg_Mo_23 : zk_F "ClosureMachineModel" 23 9 3 := ⟨rc_9, tc_9, 48, rfl, by decide, zk_in 693 (by decide +kernel) (by decide +kernel)⟩
theorem dc_Mo_term_24 : decode prog_10_method_5_code 24 = .ok (.aload_n 0, 1) := by decide +kernel
theorem dc_Mo_term_25 : decode prog_10_method_5_code 25 = .ok (.getfield 109, 3) := by decide +kernel
theorem dc_Mo_term_28 : decode prog_10_method_5_code 28 = .ok (.iload_n 3, 1) := by decide +kernel
theorem dc_Mo_term_29 : decode prog_10_method_5_code 29 = .ok (.iastore, 1) := by decide +kernel
theorem dc_Mo_term_30 : decode prog_10_method_5_code 30 = .ok (.aload_n 0, 1) := by decide +kernel
theorem dc_Mo_term_31 : decode prog_10_method_5_code 31 = .ok (.dup, 1) := by decide +kernel
theorem dc_Mo_term_32 : decode prog_10_method_5_code 32 = .ok (.getfield 112, 3) := by decide +kernel
theorem dc_Mo_term_35 : decode prog_10_method_5_code 35 = .ok (.iload_n 2, 1) := by decide +kernel
theorem dc_Mo_term_36 : decode prog_10_method_5_code 36 = .ok (.iadd, 1) := by decide +kernel
theorem dc_Mo_term_37 : decode prog_10_method_5_code 37 = .ok (.putfield 112, 3) := by decide +kernel
theorem fp_Mo_112 : zk_Fp "ClosureMachineModel" 112 9 5 (yc_9 5) false := ⟨rc_9, tc_9, 48, rfl, by decide, zk_in 695 (by decide +kernel) (by decide +kernel), by decide +kernel, rfl, rfl⟩
theorem dc_Mo_term_40 : decode prog_10_method_5_code 40 = .ok (.aload_n 0, 1) := by decide +kernel
theorem dc_Mo_term_41 : decode prog_10_method_5_code 41 = .ok (.dup, 1) := by decide +kernel
theorem dc_Mo_term_42 : decode prog_10_method_5_code 42 = .ok (.getfield 109, 3) := by decide +kernel
theorem dc_Mo_term_45 : decode prog_10_method_5_code 45 = .ok (.iconst 1, 1) := by decide +kernel
theorem dc_Mo_term_46 : decode prog_10_method_5_code 46 = .ok (.iadd, 1) := by decide +kernel
theorem dc_Mo_term_47 : decode prog_10_method_5_code 47 = .ok (.putfield 109, 3) := by decide +kernel
theorem fp_Mo_109 : zk_Fp "ClosureMachineModel" 109 9 4 (yc_9 4) false := ⟨rc_9, tc_9, 48, rfl, by decide, zk_in 694 (by decide +kernel) (by decide +kernel), by decide +kernel, rfl, rfl⟩
theorem dc_Mo_term_50 : decode prog_10_method_5_code 50 = .ok (.aload_n 0, 1) := by decide +kernel
theorem dc_Mo_term_51 : decode prog_10_method_5_code 51 = .ok (.getfield 109, 3) := by decide +kernel
theorem dc_Mo_term_54 : decode prog_10_method_5_code 54 = .ok (.iconst 1, 1) := by decide +kernel
theorem dc_Mo_term_55 : decode prog_10_method_5_code 55 = .ok (.isub, 1) := by decide +kernel
theorem dc_Mo_term_56 : decode prog_10_method_5_code 56 = .ok (.ireturn, 1) := by decide +kernel
abbrev mm_Mo_leaf : zk_Mt := (⟨"ClosureMachineModel", "leaf", "(III)I"⟩, prog_10_method_6_code, 5, (Option.some .int), 3, 84)
set_option maxRecDepth 20000 in
theorem ok_Mo_leaf : zk_Ok mm_Mo_leaf 3 := ⟨zk_in 838 rfl rfl, ⟨by decide +kernel, by decide +kernel, by decide +kernel⟩, zk_in 8 (by decide +kernel) (by decide +kernel)⟩
theorem dc_Mo_leaf_0 : decode prog_10_method_6_code 0 = .ok (.iload_n 1, 1) := by decide +kernel
theorem dc_Mo_leaf_1 : decode prog_10_method_6_code 1 = .ok (.ifCond .eq 8, 3) := by decide +kernel
theorem dc_Mo_leaf_9 : decode prog_10_method_6_code 9 = .ok (.iload_n 2, 1) := by decide +kernel
theorem dc_Mo_leaf_10 : decode prog_10_method_6_code 10 = .ok (.invokestatic 116, 3) := by decide +kernel
theorem lk_Mo_116 : zk_LS "ClosureMachineModel" 116 mm_Mo_isNumber := ⟨zk_in 839 (by decide +kernel) (by decide +kernel), zk_in 840 (by decide +kernel) (by decide +kernel)⟩
theorem dc_Mo_leaf_13 : decode prog_10_method_6_code 13 = .ok (.goto 30, 3) := by decide +kernel
theorem dc_Mo_leaf_43 : decode prog_10_method_6_code 43 = .ok (.istore 4, 2) := by decide +kernel
theorem dc_Mo_leaf_45 : decode prog_10_method_6_code 45 = .ok (.iload 4, 2) := by decide +kernel
theorem dc_Mo_leaf_47 : decode prog_10_method_6_code 47 = .ok (.ifCond .eq 36, 3) := by decide +kernel
theorem dc_Mo_leaf_50 : decode prog_10_method_6_code 50 = .ok (.iload_n 1, 1) := by decide +kernel
theorem dc_Mo_leaf_51 : decode prog_10_method_6_code 51 = .ok (.iconst 3, 1) := by decide +kernel
theorem dc_Mo_leaf_52 : decode prog_10_method_6_code 52 = .ok (.if_icmp .ne 23, 3) := by decide +kernel
theorem dc_Mo_leaf_75 : decode prog_10_method_6_code 75 = .ok (.iload_n 3, 1) := by decide +kernel
theorem dc_Mo_leaf_76 : decode prog_10_method_6_code 76 = .ok (.ifCond .ne 7, 3) := by decide +kernel
theorem dc_Mo_leaf_83 : decode prog_10_method_6_code 83 = .ok (.iconst 0, 1) := by decide +kernel
theorem dc_Mo_leaf_84 : decode prog_10_method_6_code 84 = .ok (.istore 4, 2) := by decide +kernel
theorem dc_Mo_leaf_86 : decode prog_10_method_6_code 86 = .ok (.iload 4, 2) := by decide +kernel
theorem dc_Mo_leaf_88 : decode prog_10_method_6_code 88 = .ok (.ifCond .eq 40, 3) := by decide +kernel
theorem dc_Mo_leaf_128 : decode prog_10_method_6_code 128 = .ok (.iconst (-1), 1) := by decide +kernel
theorem dc_Mo_leaf_129 : decode prog_10_method_6_code 129 = .ok (.ireturn, 1) := by decide +kernel
theorem dc_Mo_leaf_79 : decode prog_10_method_6_code 79 = .ok (.iconst 1, 1) := by decide +kernel
theorem dc_Mo_leaf_80 : decode prog_10_method_6_code 80 = .ok (.goto 4, 3) := by decide +kernel
theorem dc_Mo_leaf_91 : decode prog_10_method_6_code 91 = .ok (.aload_n 0, 1) := by decide +kernel
theorem dc_Mo_leaf_92 : decode prog_10_method_6_code 92 = .ok (.iconst 1, 1) := by decide +kernel
theorem dc_Mo_leaf_93 : decode prog_10_method_6_code 93 = .ok (.invokevirtual 123, 3) := by decide +kernel
theorem lk_Mo_123 : zk_LV "ClosureMachineModel" 123 mm_Mo_isRoom := ⟨zk_in 842 (by decide +kernel) (by decide +kernel), zk_in 844 (by decide +kernel) (by decide +kernel), zk_inS (q := (⟨"ClosureMachineModel", "isRoom", "(I)Z"⟩, 48)) 24 (by decide +kernel) (by decide +kernel)⟩
theorem dc_Mo_leaf_96 : decode prog_10_method_6_code 96 = .ok (.ifCond .eq 32, 3) := by decide +kernel
theorem dc_Mo_leaf_99 : decode prog_10_method_6_code 99 = .ok (.aload_n 0, 1) := by decide +kernel
theorem dc_Mo_leaf_100 : decode prog_10_method_6_code 100 = .ok (.aload_n 0, 1) := by decide +kernel
theorem dc_Mo_leaf_101 : decode prog_10_method_6_code 101 = .ok (.getfield 10, 3) := by decide +kernel
theorem dc_Mo_leaf_104 : decode prog_10_method_6_code 104 = .ok (.iload_n 1, 1) := by decide +kernel
theorem dc_Mo_leaf_105 : decode prog_10_method_6_code 105 = .ok (.iload_n 2, 1) := by decide +kernel
theorem dc_Mo_leaf_106 : decode prog_10_method_6_code 106 = .ok (.iload_n 3, 1) := by decide +kernel
theorem dc_Mo_leaf_107 : decode prog_10_method_6_code 107 = .ok (.invokevirtual 105, 3) := by decide +kernel
theorem dc_Mo_leaf_110 : decode prog_10_method_6_code 110 = .ok (.iconst 1, 1) := by decide +kernel
theorem dc_Mo_leaf_111 : decode prog_10_method_6_code 111 = .ok (.iload_n 1, 1) := by decide +kernel
theorem dc_Mo_leaf_112 : decode prog_10_method_6_code 112 = .ok (.ifCond .ne 9, 3) := by decide +kernel
theorem dc_Mo_leaf_121 : decode prog_10_method_6_code 121 = .ok (.iconst 0, 1) := by decide +kernel
theorem dc_Mo_leaf_122 : decode prog_10_method_6_code 122 = .ok (.invokevirtual 126, 3) := by decide +kernel
theorem lk_Mo_126 : zk_LV "ClosureMachineModel" 126 mm_Mo_term := ⟨zk_in 847 (by decide +kernel) (by decide +kernel), zk_in 849 (by decide +kernel) (by decide +kernel), zk_inS (q := (⟨"ClosureMachineModel", "term", "(III)I"⟩, 48)) 25 (by decide +kernel) (by decide +kernel)⟩
theorem dc_Mo_leaf_125 : decode prog_10_method_6_code 125 = .ok (.goto 4, 3) := by decide +kernel
theorem dc_Mo_leaf_115 : decode prog_10_method_6_code 115 = .ok (.iload_n 2, 1) := by decide +kernel
theorem dc_Mo_leaf_116 : decode prog_10_method_6_code 116 = .ok (.iconst 1, 1) := by decide +kernel
theorem dc_Mo_leaf_117 : decode prog_10_method_6_code 117 = .ok (.iadd, 1) := by decide +kernel
theorem dc_Mo_leaf_118 : decode prog_10_method_6_code 118 = .ok (.goto 4, 3) := by decide +kernel
theorem dc_Mo_leaf_4 : decode prog_10_method_6_code 4 = .ok (.iload_n 1, 1) := by decide +kernel
theorem dc_Mo_leaf_5 : decode prog_10_method_6_code 5 = .ok (.iconst 2, 1) := by decide +kernel
theorem dc_Mo_leaf_6 : decode prog_10_method_6_code 6 = .ok (.if_icmp .ne 10, 3) := by decide +kernel
theorem dc_Mo_leaf_16 : decode prog_10_method_6_code 16 = .ok (.iload_n 1, 1) := by decide +kernel
theorem dc_Mo_leaf_17 : decode prog_10_method_6_code 17 = .ok (.iconst 1, 1) := by decide +kernel
theorem dc_Mo_leaf_18 : decode prog_10_method_6_code 18 = .ok (.if_icmp .eq 8, 3) := by decide +kernel
theorem dc_Mo_leaf_26 : decode prog_10_method_6_code 26 = .ok (.iload_n 2, 1) := by decide +kernel
theorem dc_Mo_leaf_27 : decode prog_10_method_6_code 27 = .ok (.ifCond .lt 15, 3) := by decide +kernel
theorem dc_Mo_leaf_42 : decode prog_10_method_6_code 42 = .ok (.iconst 0, 1) := by decide +kernel
theorem dc_Mo_leaf_30 : decode prog_10_method_6_code 30 = .ok (.iload_n 2, 1) := by decide +kernel
theorem dc_Mo_leaf_31 : decode prog_10_method_6_code 31 = .ok (.aload_n 0, 1) := by decide +kernel
theorem dc_Mo_leaf_32 : decode prog_10_method_6_code 32 = .ok (.getfield 120, 3) := by decide +kernel
theorem dc_Mo_leaf_35 : decode prog_10_method_6_code 35 = .ok (.if_icmp .ge 7, 3) := by decide +kernel
theorem dc_Mo_leaf_21 : decode prog_10_method_6_code 21 = .ok (.iload_n 1, 1) := by decide +kernel
theorem dc_Mo_leaf_22 : decode prog_10_method_6_code 22 = .ok (.iconst 3, 1) := by decide +kernel
theorem dc_Mo_leaf_23 : decode prog_10_method_6_code 23 = .ok (.if_icmp .ne 19, 3) := by decide +kernel
abbrev mm_Mo_global : zk_Mt := (⟨"ClosureMachineModel", "global", "(I)I"⟩, prog_10_method_13_code, 2, (Option.some .int), 0, 0)
set_option maxRecDepth 20000 in
theorem ok_Mo_global : zk_Ok mm_Mo_global 1 := ⟨zk_in 892 rfl rfl, ⟨by decide +kernel, by decide +kernel, by decide +kernel⟩, zk_in 8 (by decide +kernel) (by decide +kernel)⟩
theorem dc_Mo_global_0 : decode prog_10_method_13_code 0 = .ok (.aload_n 0, 1) := by decide +kernel
theorem dc_Mo_global_1 : decode prog_10_method_13_code 1 = .ok (.getfield 26, 3) := by decide +kernel
theorem fg_Mo_26 : zk_F "ClosureMachineModel" 26 9 6 := ⟨rc_9, tc_9, 48, rfl, by decide, zk_in 696 (by decide +kernel) (by decide +kernel)⟩
theorem dc_Mo_global_4 : decode prog_10_method_13_code 4 = .ok (.aload_n 0, 1) := by decide +kernel
theorem dc_Mo_global_5 : decode prog_10_method_13_code 5 = .ok (.getfield 120, 3) := by decide +kernel
theorem dc_Mo_global_8 : decode prog_10_method_13_code 8 = .ok (.iload_n 1, 1) := by decide +kernel
theorem dc_Mo_global_9 : decode prog_10_method_13_code 9 = .ok (.iastore, 1) := by decide +kernel
theorem dc_Mo_global_10 : decode prog_10_method_13_code 10 = .ok (.aload_n 0, 1) := by decide +kernel
theorem dc_Mo_global_11 : decode prog_10_method_13_code 11 = .ok (.getfield 32, 3) := by decide +kernel
theorem fg_Mo_32 : zk_F "ClosureMachineModel" 32 9 8 := ⟨rc_9, tc_9, 48, rfl, by decide, zk_in 698 (by decide +kernel) (by decide +kernel)⟩
theorem dc_Mo_global_14 : decode prog_10_method_13_code 14 = .ok (.aload_n 0, 1) := by decide +kernel
theorem dc_Mo_global_15 : decode prog_10_method_13_code 15 = .ok (.getfield 120, 3) := by decide +kernel
theorem dc_Mo_global_18 : decode prog_10_method_13_code 18 = .ok (.iconst (-1), 1) := by decide +kernel
theorem dc_Mo_global_19 : decode prog_10_method_13_code 19 = .ok (.iastore, 1) := by decide +kernel
theorem dc_Mo_global_20 : decode prog_10_method_13_code 20 = .ok (.aload_n 0, 1) := by decide +kernel
theorem dc_Mo_global_21 : decode prog_10_method_13_code 21 = .ok (.dup, 1) := by decide +kernel
theorem dc_Mo_global_22 : decode prog_10_method_13_code 22 = .ok (.getfield 120, 3) := by decide +kernel
theorem dc_Mo_global_25 : decode prog_10_method_13_code 25 = .ok (.dup_x1, 1) := by decide +kernel
theorem dc_Mo_global_26 : decode prog_10_method_13_code 26 = .ok (.iconst 1, 1) := by decide +kernel
theorem dc_Mo_global_27 : decode prog_10_method_13_code 27 = .ok (.iadd, 1) := by decide +kernel
theorem dc_Mo_global_28 : decode prog_10_method_13_code 28 = .ok (.putfield 120, 3) := by decide +kernel
theorem fp_Mo_120 : zk_Fp "ClosureMachineModel" 120 9 14 (yc_9 14) false := ⟨rc_9, tc_9, 48, rfl, by decide, zk_in 704 (by decide +kernel) (by decide +kernel), by decide +kernel, rfl, rfl⟩
theorem dc_Mo_global_31 : decode prog_10_method_13_code 31 = .ok (.ireturn, 1) := by decide +kernel
abbrev mm_Mo_axiom : zk_Mt := (⟨"ClosureMachineModel", "axiom", "()I"⟩, prog_10_method_14_code, 1, (Option.some .int), 1, 21)
set_option maxRecDepth 20000 in
theorem ok_Mo_axiom : zk_Ok mm_Mo_axiom 0 := ⟨zk_in 888 rfl rfl, ⟨by decide +kernel, by decide +kernel, by decide +kernel⟩, zk_in 8 (by decide +kernel) (by decide +kernel)⟩
theorem dc_Mo_axiom_0 : decode prog_10_method_14_code 0 = .ok (.aload_n 0, 1) := by decide +kernel
theorem dc_Mo_axiom_1 : decode prog_10_method_14_code 1 = .ok (.getfield 120, 3) := by decide +kernel
theorem dc_Mo_axiom_4 : decode prog_10_method_14_code 4 = .ok (.bipush 60, 2) := by decide +kernel
theorem dc_Mo_axiom_6 : decode prog_10_method_14_code 6 = .ok (.if_icmp .ne 7, 3) := by decide +kernel
theorem dc_Mo_axiom_13 : decode prog_10_method_14_code 13 = .ok (.aload_n 0, 1) := by decide +kernel
theorem dc_Mo_axiom_14 : decode prog_10_method_14_code 14 = .ok (.iconst 0, 1) := by decide +kernel
theorem dc_Mo_axiom_15 : decode prog_10_method_14_code 15 = .ok (.invokevirtual 157, 3) := by decide +kernel
theorem lk_Mo_157 : zk_LV "ClosureMachineModel" 157 mm_Mo_global := ⟨zk_in 889 (by decide +kernel) (by decide +kernel), zk_in 891 (by decide +kernel) (by decide +kernel), zk_inS (q := (⟨"ClosureMachineModel", "global", "(I)I"⟩, 48)) 28 (by decide +kernel) (by decide +kernel)⟩
theorem dc_Mo_axiom_18 : decode prog_10_method_14_code 18 = .ok (.ireturn, 1) := by decide +kernel
abbrev mm_Mo_family : zk_Mt := (⟨"ClosureMachineModel", "family", "(III)I"⟩, prog_10_method_16_code, 6, (Option.some .int), 1, 21)
set_option maxRecDepth 20000 in
theorem ok_Mo_family : zk_Ok mm_Mo_family 3 := ⟨zk_in 900 rfl rfl, ⟨by decide +kernel, by decide +kernel, by decide +kernel⟩, zk_in 8 (by decide +kernel) (by decide +kernel)⟩
theorem dc_Mo_family_51 : decode prog_10_method_16_code 51 = .ok (.iload 5, 2) := by decide +kernel
theorem dc_Mo_family_53 : decode prog_10_method_16_code 53 = .ok (.iload_n 3, 1) := by decide +kernel
theorem dc_Mo_family_54 : decode prog_10_method_16_code 54 = .ok (.if_icmp .gt 35, 3) := by decide +kernel
theorem dc_Mo_family_89 : decode prog_10_method_16_code 89 = .ok (.aload_n 0, 1) := by decide +kernel
theorem dc_Mo_family_90 : decode prog_10_method_16_code 90 = .ok (.getfield 41, 3) := by decide +kernel
theorem fg_Mo_41 : zk_F "ClosureMachineModel" 41 9 11 := ⟨rc_9, tc_9, 48, rfl, by decide, zk_in 701 (by decide +kernel) (by decide +kernel)⟩
theorem dc_Mo_family_93 : decode prog_10_method_16_code 93 = .ok (.iload 4, 2) := by decide +kernel
theorem dc_Mo_family_95 : decode prog_10_method_16_code 95 = .ok (.iload_n 1, 1) := by decide +kernel
theorem dc_Mo_family_96 : decode prog_10_method_16_code 96 = .ok (.iastore, 1) := by decide +kernel
theorem dc_Mo_family_97 : decode prog_10_method_16_code 97 = .ok (.aload_n 0, 1) := by decide +kernel
theorem dc_Mo_family_98 : decode prog_10_method_16_code 98 = .ok (.getfield 44, 3) := by decide +kernel
theorem fg_Mo_44 : zk_F "ClosureMachineModel" 44 9 12 := ⟨rc_9, tc_9, 48, rfl, by decide, zk_in 702 (by decide +kernel) (by decide +kernel)⟩
theorem dc_Mo_family_101 : decode prog_10_method_16_code 101 = .ok (.iload 4, 2) := by decide +kernel
theorem dc_Mo_family_103 : decode prog_10_method_16_code 103 = .ok (.iload_n 2, 1) := by decide +kernel
theorem dc_Mo_family_104 : decode prog_10_method_16_code 104 = .ok (.iastore, 1) := by decide +kernel
theorem dc_Mo_family_105 : decode prog_10_method_16_code 105 = .ok (.aload_n 0, 1) := by decide +kernel
theorem dc_Mo_family_106 : decode prog_10_method_16_code 106 = .ok (.getfield 47, 3) := by decide +kernel
theorem fg_Mo_47 : zk_F "ClosureMachineModel" 47 9 13 := ⟨rc_9, tc_9, 48, rfl, by decide, zk_in 703 (by decide +kernel) (by decide +kernel)⟩
theorem dc_Mo_family_109 : decode prog_10_method_16_code 109 = .ok (.iload 4, 2) := by decide +kernel
theorem dc_Mo_family_111 : decode prog_10_method_16_code 111 = .ok (.iload_n 3, 1) := by decide +kernel
theorem dc_Mo_family_112 : decode prog_10_method_16_code 112 = .ok (.iastore, 1) := by decide +kernel
theorem dc_Mo_family_113 : decode prog_10_method_16_code 113 = .ok (.iload 4, 2) := by decide +kernel
theorem dc_Mo_family_115 : decode prog_10_method_16_code 115 = .ok (.ireturn, 1) := by decide +kernel
theorem dc_Mo_family_57 : decode prog_10_method_16_code 57 = .ok (.aload_n 0, 1) := by decide +kernel
theorem dc_Mo_family_58 : decode prog_10_method_16_code 58 = .ok (.getfield 38, 3) := by decide +kernel
theorem fg_Mo_38 : zk_F "ClosureMachineModel" 38 9 10 := ⟨rc_9, tc_9, 48, rfl, by decide, zk_in 700 (by decide +kernel) (by decide +kernel)⟩
theorem dc_Mo_family_61 : decode prog_10_method_16_code 61 = .ok (.aload_n 0, 1) := by decide +kernel
theorem dc_Mo_family_62 : decode prog_10_method_16_code 62 = .ok (.getfield 120, 3) := by decide +kernel
theorem dc_Mo_family_65 : decode prog_10_method_16_code 65 = .ok (.iload 4, 2) := by decide +kernel
theorem dc_Mo_family_67 : decode prog_10_method_16_code 67 = .ok (.iastore, 1) := by decide +kernel
theorem dc_Mo_family_68 : decode prog_10_method_16_code 68 = .ok (.aload_n 0, 1) := by decide +kernel
theorem dc_Mo_family_69 : decode prog_10_method_16_code 69 = .ok (.iload 5, 2) := by decide +kernel
theorem dc_Mo_family_71 : decode prog_10_method_16_code 71 = .ok (.ifCond .ne 7, 3) := by decide +kernel
theorem dc_Mo_family_78 : decode prog_10_method_16_code 78 = .ok (.iconst 3, 1) := by decide +kernel
theorem dc_Mo_family_79 : decode prog_10_method_16_code 79 = .ok (.invokevirtual 157, 3) := by decide +kernel
theorem dc_Mo_family_82 : decode prog_10_method_16_code 82 = .ok (.pop, 1) := by decide +kernel
theorem dc_Mo_family_83 : decode prog_10_method_16_code 83 = .ok (.iinc 5 1, 3) := by decide +kernel
theorem dc_Mo_family_86 : decode prog_10_method_16_code 86 = .ok (.goto (-35), 3) := by decide +kernel
theorem dc_Mo_family_74 : decode prog_10_method_16_code 74 = .ok (.iconst 2, 1) := by decide +kernel
theorem dc_Mo_family_75 : decode prog_10_method_16_code 75 = .ok (.goto 4, 3) := by decide +kernel
theorem dc_Mo_family_0 : decode prog_10_method_16_code 0 = .ok (.iload_n 1, 1) := by decide +kernel
theorem dc_Mo_family_1 : decode prog_10_method_16_code 1 = .ok (.ifCond .lt 39, 3) := by decide +kernel
theorem dc_Mo_family_40 : decode prog_10_method_16_code 40 = .ok (.iconst (-1), 1) := by decide +kernel
theorem dc_Mo_family_41 : decode prog_10_method_16_code 41 = .ok (.ireturn, 1) := by decide +kernel
theorem dc_Mo_family_4 : decode prog_10_method_16_code 4 = .ok (.iload_n 1, 1) := by decide +kernel
theorem dc_Mo_family_5 : decode prog_10_method_16_code 5 = .ok (.iconst 4, 1) := by decide +kernel
theorem dc_Mo_family_6 : decode prog_10_method_16_code 6 = .ok (.if_icmp .gt 34, 3) := by decide +kernel
theorem dc_Mo_family_9 : decode prog_10_method_16_code 9 = .ok (.iload_n 2, 1) := by decide +kernel
theorem dc_Mo_family_10 : decode prog_10_method_16_code 10 = .ok (.ifCond .lt 30, 3) := by decide +kernel
theorem dc_Mo_family_13 : decode prog_10_method_16_code 13 = .ok (.iload_n 2, 1) := by decide +kernel
theorem dc_Mo_family_14 : decode prog_10_method_16_code 14 = .ok (.iconst 4, 1) := by decide +kernel
theorem dc_Mo_family_15 : decode prog_10_method_16_code 15 = .ok (.if_icmp .gt 25, 3) := by decide +kernel
theorem dc_Mo_family_18 : decode prog_10_method_16_code 18 = .ok (.iload_n 3, 1) := by decide +kernel
theorem dc_Mo_family_19 : decode prog_10_method_16_code 19 = .ok (.ifCond .lt 21, 3) := by decide +kernel
theorem dc_Mo_family_22 : decode prog_10_method_16_code 22 = .ok (.iload_n 3, 1) := by decide +kernel
theorem dc_Mo_family_23 : decode prog_10_method_16_code 23 = .ok (.iconst 5, 1) := by decide +kernel
theorem dc_Mo_family_24 : decode prog_10_method_16_code 24 = .ok (.if_icmp .gt 16, 3) := by decide +kernel
theorem dc_Mo_family_27 : decode prog_10_method_16_code 27 = .ok (.aload_n 0, 1) := by decide +kernel
theorem dc_Mo_family_28 : decode prog_10_method_16_code 28 = .ok (.getfield 120, 3) := by decide +kernel
theorem dc_Mo_family_31 : decode prog_10_method_16_code 31 = .ok (.iconst 1, 1) := by decide +kernel
theorem dc_Mo_family_32 : decode prog_10_method_16_code 32 = .ok (.iadd, 1) := by decide +kernel
theorem dc_Mo_family_33 : decode prog_10_method_16_code 33 = .ok (.iload_n 3, 1) := by decide +kernel
theorem dc_Mo_family_34 : decode prog_10_method_16_code 34 = .ok (.iadd, 1) := by decide +kernel
theorem dc_Mo_family_35 : decode prog_10_method_16_code 35 = .ok (.bipush 60, 2) := by decide +kernel
theorem dc_Mo_family_37 : decode prog_10_method_16_code 37 = .ok (.if_icmp .le 5, 3) := by decide +kernel
theorem dc_Mo_family_42 : decode prog_10_method_16_code 42 = .ok (.aload_n 0, 1) := by decide +kernel
theorem dc_Mo_family_43 : decode prog_10_method_16_code 43 = .ok (.getfield 120, 3) := by decide +kernel
theorem dc_Mo_family_46 : decode prog_10_method_16_code 46 = .ok (.istore 4, 2) := by decide +kernel
theorem dc_Mo_family_48 : decode prog_10_method_16_code 48 = .ok (.iconst 0, 1) := by decide +kernel
theorem dc_Mo_family_49 : decode prog_10_method_16_code 49 = .ok (.istore 5, 2) := by decide +kernel
end
section
theorem p1_199 {x : Int32} (h : ¬ (200 : Int32) ≤ x) : x ≤ 199 := by
  rw [Int32.le_iff_toInt_le] at *
  have e1 : (200 : Int32).toInt = 200 := by decide
  have e2 : (199 : Int32).toInt = 199 := by decide
  omega
theorem p1_200 {x : Int32} (h : (200 : Int32) ≤ x) : ¬ x ≤ 199 := by
  rw [Int32.le_iff_toInt_le] at *
  have e1 : (200 : Int32).toInt = 200 := by decide
  have e2 : (199 : Int32).toInt = 199 := by decide
  omega
set_option maxHeartbeats 4000000 in
set_option maxRecDepth 100000 in
theorem m_isn {Z : zk_Z} {w s : Nat} {f : Nat → Option zk_E} {x : Int32} : zk_Kr Z mm_Mo_isNumber [.int x] (w, s, f) (fun v M' => M' = (w, s, f) ∧ (((0 ≤ x ∧ x ≤ 199) ∧ v = .int 1) ∨ (¬ (0 ≤ x ∧ x ≤ 199) ∧ v = .int 0))) := by
  refine zk_enterB (by decide) (Nat.le_of_ble_eq_true rfl) rfl ?_
  show zk_P Z mm_Mo_isNumber 0 [some (.int x)] [] (w, s, f) _
  refine zk_iload_0 1 dc_Mo_isNumber_0 rfl rfl ?_
  refine zk_if_lt 15 4 dc_Mo_isNumber_1 (by decide) rfl (fun hc => ?_) (fun hc => ?_)
  · refine zk_iconst (v := 0) 16 dc_Mo_isNumber_15 (by decide) rfl ?_
    exact zk_ireturn dc_Mo_isNumber_16 rfl (by first | rfl | decide) ⟨_, rfl, rfl, Or.inr ⟨fun q => absurd hc (Int32.not_lt.mpr q.1), rfl⟩⟩
  · refine zk_iload_0 5 dc_Mo_isNumber_4 rfl rfl ?_
    refine zk_sipush (v := 200) 8 dc_Mo_isNumber_5 (by decide) rfl ?_
    refine zk_icmp_ge 15 11 dc_Mo_isNumber_8 (by decide) rfl (fun hd => ?_) (fun hd => ?_)
    · refine zk_iconst (v := 0) 16 dc_Mo_isNumber_15 (by decide) rfl ?_
      exact zk_ireturn dc_Mo_isNumber_16 rfl (by first | rfl | decide) ⟨_, rfl, rfl, Or.inr ⟨fun q => p1_200 hd q.2, rfl⟩⟩
    · refine zk_iconst (v := 1) 12 dc_Mo_isNumber_11 (by decide) rfl ?_
      refine zk_goto 16 dc_Mo_isNumber_12 (by decide) ?_
      exact zk_ireturn dc_Mo_isNumber_16 rfl (by first | rfl | decide) ⟨_, rfl, rfl, Or.inl ⟨⟨Int32.not_lt.mp hc, p1_199 hd⟩, rfl⟩⟩
set_option maxHeartbeats 4000000 in
set_option maxRecDepth 100000 in
theorem m_isTerm {Z : zk_Z} {w s : Nat} {f : Nat → Option zk_E} {a n : Nat} (ha : f a = some (.inr (.inr (9, [.ref n, .ref (n + 5), .ref (n + 6), .ref (n + 7), .int 0, .int 0, .ref (n + 8), .ref (n + 9), .ref (n + 10), .ref (n + 11), .ref (n + 12), .ref (n + 13), .ref (n + 14), .ref (n + 15), .int 0, .ref (n + 16), .ref (n + 17), .ref (n + 18), .ref (n + 19), .int 0, .int 0, .int 0, .int 0, .int 0, .int (-1), .ref (n + 20), .ref (n + 21), .ref (n + 22), .ref (n + 23), .int 0, .ref (n + 24), .ref (n + 25), .ref (n + 26), .int 0, .ref (n + 27), .ref (n + 28), .ref (n + 29), .ref (n + 30), .int 0, .ref (n + 31), .int 0, .ref (n + 32), .int 0, .int 0, .int 0, .int 0, .int 0, .int 0])))) {x : Int32} : zk_Kr Z mm_Mo_isTerm [.ref a, .int x] (w, s, f) (fun v M' => v = .int 0 ∧ M' = (w, s, f)) := by
  refine zk_enterB (by decide) (Nat.le_of_ble_eq_true rfl) rfl ?_
  show zk_P Z mm_Mo_isTerm 0 [some (.ref a), some (.int x)] [] (w, s, f) _
  refine zk_iload_1 1 dc_Mo_isTerm_0 rfl rfl ?_
  refine zk_if_lt 16 4 dc_Mo_isTerm_1 (by decide) rfl (fun hc => ?_) (fun hc => ?_)
  · refine zk_iconst (v := 0) 17 dc_Mo_isTerm_16 (by decide) rfl ?_
    exact zk_ireturn dc_Mo_isTerm_17 rfl (by first | rfl | decide) ⟨_, rfl, rfl, rfl⟩
  · refine zk_iload_1 5 dc_Mo_isTerm_4 rfl rfl ?_
    refine zk_aload_0 6 dc_Mo_isTerm_5 rfl rfl ?_
    refine zk_getfield 9 dc_Mo_isTerm_6 fg_Mo_109 ha rfl rfl ?_
    refine zk_icmp_ge 16 12 dc_Mo_isTerm_9 (by decide) rfl (fun hx => ?_) (fun hx => by first | exact absurd hx (Int32.not_lt.mp hc) | exact absurd (Int32.not_lt.mp hc) hx)
    refine zk_iconst (v := 0) 17 dc_Mo_isTerm_16 (by decide) rfl ?_
    exact zk_ireturn dc_Mo_isTerm_17 rfl (by first | rfl | decide) ⟨_, rfl, rfl, rfl⟩
set_option maxHeartbeats 4000000 in
set_option maxRecDepth 100000 in
theorem m_isGood {Z : zk_Z} {w s : Nat} {f : Nat → Option zk_E} {a n : Nat} (ha : f a = some (.inr (.inr (9, [.ref n, .ref (n + 5), .ref (n + 6), .ref (n + 7), .int 0, .int 0, .ref (n + 8), .ref (n + 9), .ref (n + 10), .ref (n + 11), .ref (n + 12), .ref (n + 13), .ref (n + 14), .ref (n + 15), .int 0, .ref (n + 16), .ref (n + 17), .ref (n + 18), .ref (n + 19), .int 0, .int 0, .int 0, .int 0, .int 0, .int (-1), .ref (n + 20), .ref (n + 21), .ref (n + 22), .ref (n + 23), .int 0, .ref (n + 24), .ref (n + 25), .ref (n + 26), .int 0, .ref (n + 27), .ref (n + 28), .ref (n + 29), .ref (n + 30), .int 0, .ref (n + 31), .int 0, .ref (n + 32), .int 0, .int 0, .int 0, .int 0, .int 0, .int 0])))) {x y : Int32} : zk_Kr Z mm_Mo_isGood [.ref a, .int x, .int y] (w, s, f) (fun v M' => v = .int 0 ∧ M' = (w, s, f)) := by
  refine zk_enterB (by decide) (Nat.le_of_ble_eq_true rfl) rfl ?_
  show zk_P Z mm_Mo_isGood 0 [some (.ref a), some (.int x), some (.int y)] [] (w, s, f) _
  refine zk_aload_0 1 dc_Mo_isGood_0 rfl rfl ?_
  refine zk_iload_1 2 dc_Mo_isGood_1 rfl rfl ?_
  refine zk_cVr 5 (m_isTerm ha) dc_Mo_isGood_2 ok_Mo_isTerm lk_Mo_145 ha rfl rfl rfl ⟨Nat.le_of_ble_eq_true rfl, Nat.le_of_ble_eq_true rfl⟩ (Nat.le_of_ble_eq_true rfl) rfl (fun v M1 hk => ?_)
  obtain ⟨rfl, rfl⟩ := hk
  refine zk_if_eq 24 8 dc_Mo_isGood_5 (by decide) rfl (fun hx => ?_) (fun hx => by first | exact absurd hx rfl | exact absurd rfl hx)
  refine zk_iconst (v := 0) 25 dc_Mo_isGood_24 (by decide) rfl ?_
  exact zk_ireturn dc_Mo_isGood_25 rfl (by first | rfl | decide) ⟨_, rfl, rfl, rfl⟩
set_option maxHeartbeats 4000000 in
set_option maxRecDepth 100000 in
theorem r_lift {Z : zk_Z} {w s : Nat} {f : Nat → Option zk_E} {a n : Nat} (ha : f a = some (.inr (.inr (9, [.ref n, .ref (n + 5), .ref (n + 6), .ref (n + 7), .int 0, .int 0, .ref (n + 8), .ref (n + 9), .ref (n + 10), .ref (n + 11), .ref (n + 12), .ref (n + 13), .ref (n + 14), .ref (n + 15), .int 0, .ref (n + 16), .ref (n + 17), .ref (n + 18), .ref (n + 19), .int 0, .int 0, .int 0, .int 0, .int 0, .int (-1), .ref (n + 20), .ref (n + 21), .ref (n + 22), .ref (n + 23), .int 0, .ref (n + 24), .ref (n + 25), .ref (n + 26), .int 0, .ref (n + 27), .ref (n + 28), .ref (n + 29), .ref (n + 30), .int 0, .ref (n + 31), .int 0, .ref (n + 32), .int 0, .int 0, .int 0, .int 0, .int 0, .int 0]))))  {x y : Int32} : zk_Kr Z mm_Mo_lift [.ref a, .int x, .int y] (w, s, f) (fun v M' => v = .int (-1) ∧ ∃ g : Nat → Option zk_E, M' = (w, s, g)) := by
  refine zk_enterB (by decide) (Nat.le_of_ble_eq_true rfl) rfl ?_
  show zk_P Z mm_Mo_lift 0 [some (.ref a), some (.int x), some (.int y), none, none, none, none] [] (w, s, f) _
  refine zk_aload_0 1 dc_Mo_lift_0 rfl rfl ?_
  refine zk_iload_1 2 dc_Mo_lift_1 rfl rfl ?_
  refine zk_cVr 5 (m_isTerm ha) dc_Mo_lift_2 ok_Mo_isTerm lk_Mo_145 ha rfl rfl rfl ⟨Nat.le_of_ble_eq_true rfl, Nat.le_of_ble_eq_true rfl⟩ (Nat.le_of_ble_eq_true rfl) rfl (fun v M1 hk => ?_)
  obtain ⟨rfl, rfl⟩ := hk
  refine zk_if_eq 28 8 dc_Mo_lift_5 (by decide) rfl (fun hx => ?_) (fun hx => by first | exact absurd hx rfl | exact absurd rfl hx)
  refine zk_iconst (v := -1) 29 dc_Mo_lift_28 (by decide) rfl ?_
  exact zk_ireturn dc_Mo_lift_29 rfl (by first | rfl | decide) ⟨_, rfl, rfl, _, rfl⟩
set_option maxHeartbeats 4000000 in
set_option maxRecDepth 100000 in
theorem r_def {Z : zk_Z} {w s : Nat} {f : Nat → Option zk_E} {a n : Nat} (ha : f a = some (.inr (.inr (9, [.ref n, .ref (n + 5), .ref (n + 6), .ref (n + 7), .int 0, .int 0, .ref (n + 8), .ref (n + 9), .ref (n + 10), .ref (n + 11), .ref (n + 12), .ref (n + 13), .ref (n + 14), .ref (n + 15), .int 0, .ref (n + 16), .ref (n + 17), .ref (n + 18), .ref (n + 19), .int 0, .int 0, .int 0, .int 0, .int 0, .int (-1), .ref (n + 20), .ref (n + 21), .ref (n + 22), .ref (n + 23), .int 0, .ref (n + 24), .ref (n + 25), .ref (n + 26), .int 0, .ref (n + 27), .ref (n + 28), .ref (n + 29), .ref (n + 30), .int 0, .ref (n + 31), .int 0, .ref (n + 32), .int 0, .int 0, .int 0, .int 0, .int 0, .int 0]))))  {x : Int32} : zk_Kr Z mm_Mo_def [.ref a, .int x] (w, s, f) (fun v M' => v = .int (-1) ∧ ∃ g : Nat → Option zk_E, M' = (w, s, g)) := by
  refine zk_enterB (by decide) (Nat.le_of_ble_eq_true rfl) rfl ?_
  show zk_P Z mm_Mo_def 0 [some (.ref a), some (.int x)] [] (w, s, f) _
  refine zk_aload_0 1 dc_Mo_def_0 rfl rfl ?_
  refine zk_iload_1 2 dc_Mo_def_1 rfl rfl ?_
  refine zk_cVr 5 (m_isTerm ha) dc_Mo_def_2 ok_Mo_isTerm lk_Mo_145 ha rfl rfl rfl ⟨Nat.le_of_ble_eq_true rfl, Nat.le_of_ble_eq_true rfl⟩ (Nat.le_of_ble_eq_true rfl) rfl (fun v M1 hk => ?_)
  obtain ⟨rfl, rfl⟩ := hk
  refine zk_if_eq 26 8 dc_Mo_def_5 (by decide) rfl (fun hx => ?_) (fun hx => by first | exact absurd hx rfl | exact absurd rfl hx)
  refine zk_iconst (v := -1) 27 dc_Mo_def_26 (by decide) rfl ?_
  exact zk_ireturn dc_Mo_def_27 rfl (by first | rfl | decide) ⟨_, rfl, rfl, _, rfl⟩
set_option maxHeartbeats 4000000 in
set_option maxRecDepth 100000 in
theorem r_part {Z : zk_Z} {w s : Nat} {f : Nat → Option zk_E} {a n : Nat} (ha : f a = some (.inr (.inr (9, [.ref n, .ref (n + 5), .ref (n + 6), .ref (n + 7), .int 0, .int 0, .ref (n + 8), .ref (n + 9), .ref (n + 10), .ref (n + 11), .ref (n + 12), .ref (n + 13), .ref (n + 14), .ref (n + 15), .int 0, .ref (n + 16), .ref (n + 17), .ref (n + 18), .ref (n + 19), .int 0, .int 0, .int 0, .int 0, .int 0, .int (-1), .ref (n + 20), .ref (n + 21), .ref (n + 22), .ref (n + 23), .int 0, .ref (n + 24), .ref (n + 25), .ref (n + 26), .int 0, .ref (n + 27), .ref (n + 28), .ref (n + 29), .ref (n + 30), .int 0, .ref (n + 31), .int 0, .ref (n + 32), .int 0, .int 0, .int 0, .int 0, .int 0, .int 0]))))  {x y z : Int32} : zk_Kr Z mm_Mo_part [.ref a, .int x, .int y, .int z] (w, s, f) (fun v M' => v = .int (-1) ∧ ∃ g : Nat → Option zk_E, M' = (w, s, g)) := by
  refine zk_enterB (by decide) (Nat.le_of_ble_eq_true rfl) rfl ?_
  show zk_P Z mm_Mo_part 0 [some (.ref a), some (.int x), some (.int y), some (.int z), none] [] (w, s, f) _
  refine zk_aload_0 1 dc_Mo_part_0 rfl rfl ?_
  refine zk_iload_1 2 dc_Mo_part_1 rfl rfl ?_
  refine zk_cVr 5 (m_isTerm ha) dc_Mo_part_2 ok_Mo_isTerm lk_Mo_145 ha rfl rfl rfl ⟨Nat.le_of_ble_eq_true rfl, Nat.le_of_ble_eq_true rfl⟩ (Nat.le_of_ble_eq_true rfl) rfl (fun v M1 hk => ?_)
  obtain ⟨rfl, rfl⟩ := hk
  refine zk_if_eq 39 8 dc_Mo_part_5 (by decide) rfl (fun hx => ?_) (fun hx => by first | exact absurd hx rfl | exact absurd rfl hx)
  refine zk_iconst (v := -1) 40 dc_Mo_part_39 (by decide) rfl ?_
  exact zk_ireturn dc_Mo_part_40 rfl (by first | rfl | decide) ⟨_, rfl, rfl, _, rfl⟩
set_option maxHeartbeats 4000000 in
set_option maxRecDepth 100000 in
theorem r_head {Z : zk_Z} {w s : Nat} {f : Nat → Option zk_E} {a n : Nat} (ha : f a = some (.inr (.inr (9, [.ref n, .ref (n + 5), .ref (n + 6), .ref (n + 7), .int 0, .int 0, .ref (n + 8), .ref (n + 9), .ref (n + 10), .ref (n + 11), .ref (n + 12), .ref (n + 13), .ref (n + 14), .ref (n + 15), .int 0, .ref (n + 16), .ref (n + 17), .ref (n + 18), .ref (n + 19), .int 0, .int 0, .int 0, .int 0, .int 0, .int (-1), .ref (n + 20), .ref (n + 21), .ref (n + 22), .ref (n + 23), .int 0, .ref (n + 24), .ref (n + 25), .ref (n + 26), .int 0, .ref (n + 27), .ref (n + 28), .ref (n + 29), .ref (n + 30), .int 0, .ref (n + 31), .int 0, .ref (n + 32), .int 0, .int 0, .int 0, .int 0, .int 0, .int 0]))))  {x y : Int32} : zk_Kr Z mm_Mo_head [.ref a, .int x, .int y] (w, s, f) (fun v M' => v = .int (-1) ∧ ∃ g : Nat → Option zk_E, M' = (w, s, g)) := by
  refine zk_enterB (by decide) (Nat.le_of_ble_eq_true rfl) rfl ?_
  show zk_P Z mm_Mo_head 0 [some (.ref a), some (.int x), some (.int y), none] [] (w, s, f) _
  refine zk_aload_0 1 dc_Mo_head_0 rfl rfl ?_
  refine zk_iload_1 2 dc_Mo_head_1 rfl rfl ?_
  refine zk_iload_2 3 dc_Mo_head_2 rfl rfl ?_
  refine zk_cVr 6 (m_isGood ha) dc_Mo_head_3 ok_Mo_isGood lk_Mo_268 ha rfl rfl rfl ⟨Nat.le_of_ble_eq_true rfl, Nat.le_of_ble_eq_true rfl⟩ (Nat.le_of_ble_eq_true rfl) rfl (fun v M1 hk => ?_)
  obtain ⟨rfl, rfl⟩ := hk
  refine zk_if_ne 11 9 dc_Mo_head_6 (by decide) rfl (fun hx => by first | exact absurd hx (show ¬ ¬ (0 : Int32) = 0 from fun q => q rfl) | exact absurd (show ¬ ¬ (0 : Int32) = 0 from fun q => q rfl) hx) (fun hx => ?_)
  refine zk_iconst (v := -1) 10 dc_Mo_head_9 (by decide) rfl ?_
  exact zk_ireturn dc_Mo_head_10 rfl (by first | rfl | decide) ⟨_, rfl, rfl, _, rfl⟩
set_option maxHeartbeats 4000000 in
set_option maxRecDepth 100000 in
theorem r_normal {Z : zk_Z} {w s : Nat} {f : Nat → Option zk_E} {a n : Nat} (ha : f a = some (.inr (.inr (9, [.ref n, .ref (n + 5), .ref (n + 6), .ref (n + 7), .int 0, .int 0, .ref (n + 8), .ref (n + 9), .ref (n + 10), .ref (n + 11), .ref (n + 12), .ref (n + 13), .ref (n + 14), .ref (n + 15), .int 0, .ref (n + 16), .ref (n + 17), .ref (n + 18), .ref (n + 19), .int 0, .int 0, .int 0, .int 0, .int 0, .int (-1), .ref (n + 20), .ref (n + 21), .ref (n + 22), .ref (n + 23), .int 0, .ref (n + 24), .ref (n + 25), .ref (n + 26), .int 0, .ref (n + 27), .ref (n + 28), .ref (n + 29), .ref (n + 30), .int 0, .ref (n + 31), .int 0, .ref (n + 32), .int 0, .int 0, .int 0, .int 0, .int 0, .int 0]))))  {x y : Int32} : zk_Kr Z mm_Mo_normal [.ref a, .int x, .int y] (w, s, f) (fun v M' => v = .int (-1) ∧ ∃ g : Nat → Option zk_E, M' = (w, s, g)) := by
  refine zk_enterB (by decide) (Nat.le_of_ble_eq_true rfl) rfl ?_
  show zk_P Z mm_Mo_normal 0 [some (.ref a), some (.int x), some (.int y), none, none, none] [] (w, s, f) _
  refine zk_aload_0 1 dc_Mo_normal_0 rfl rfl ?_
  refine zk_iload_1 2 dc_Mo_normal_1 rfl rfl ?_
  refine zk_iload_2 3 dc_Mo_normal_2 rfl rfl ?_
  refine zk_cVr 6 (m_isGood ha) dc_Mo_normal_3 ok_Mo_isGood lk_Mo_268 ha rfl rfl rfl ⟨Nat.le_of_ble_eq_true rfl, Nat.le_of_ble_eq_true rfl⟩ (Nat.le_of_ble_eq_true rfl) rfl (fun v M1 hk => ?_)
  obtain ⟨rfl, rfl⟩ := hk
  refine zk_if_ne 11 9 dc_Mo_normal_6 (by decide) rfl (fun hx => by first | exact absurd hx (show ¬ ¬ (0 : Int32) = 0 from fun q => q rfl) | exact absurd (show ¬ ¬ (0 : Int32) = 0 from fun q => q rfl) hx) (fun hx => ?_)
  refine zk_iconst (v := -1) 10 dc_Mo_normal_9 (by decide) rfl ?_
  exact zk_ireturn dc_Mo_normal_10 rfl (by first | rfl | decide) ⟨_, rfl, rfl, _, rfl⟩
set_option maxHeartbeats 4000000 in
set_option maxRecDepth 100000 in
theorem r_cost {Z : zk_Z} {w s : Nat} {f : Nat → Option zk_E} {a n : Nat} (ha : f a = some (.inr (.inr (9, [.ref n, .ref (n + 5), .ref (n + 6), .ref (n + 7), .int 0, .int 0, .ref (n + 8), .ref (n + 9), .ref (n + 10), .ref (n + 11), .ref (n + 12), .ref (n + 13), .ref (n + 14), .ref (n + 15), .int 0, .ref (n + 16), .ref (n + 17), .ref (n + 18), .ref (n + 19), .int 0, .int 0, .int 0, .int 0, .int 0, .int (-1), .ref (n + 20), .ref (n + 21), .ref (n + 22), .ref (n + 23), .int 0, .ref (n + 24), .ref (n + 25), .ref (n + 26), .int 0, .ref (n + 27), .ref (n + 28), .ref (n + 29), .ref (n + 30), .int 0, .ref (n + 31), .int 0, .ref (n + 32), .int 0, .int 0, .int 0, .int 0, .int 0, .int 0]))))   : zk_Kr Z mm_Mo_cost [.ref a] (w, s, f) (fun v M' => v = .int (-1) ∧ ∃ g : Nat → Option zk_E, M' = (w, s, g)) := by
  refine zk_enterB (by decide) (Nat.le_of_ble_eq_true rfl) rfl ?_
  show zk_P Z mm_Mo_cost 0 [some (.ref a)] [] (w, s, f) _
  refine zk_aload_0 1 dc_Mo_cost_0 rfl rfl ?_
  refine zk_getfield 4 dc_Mo_cost_1 fg_Mo_62 ha rfl rfl ?_
  exact zk_ireturn dc_Mo_cost_4 rfl (by first | rfl | decide) ⟨_, rfl, rfl, _, rfl⟩
set_option maxHeartbeats 4000000 in
set_option maxRecDepth 100000 in
theorem r_terms {Z : zk_Z} {w s : Nat} {f : Nat → Option zk_E} {a n : Nat} (ha : f a = some (.inr (.inr (9, [.ref n, .ref (n + 5), .ref (n + 6), .ref (n + 7), .int 0, .int 0, .ref (n + 8), .ref (n + 9), .ref (n + 10), .ref (n + 11), .ref (n + 12), .ref (n + 13), .ref (n + 14), .ref (n + 15), .int 0, .ref (n + 16), .ref (n + 17), .ref (n + 18), .ref (n + 19), .int 0, .int 0, .int 0, .int 0, .int 0, .int (-1), .ref (n + 20), .ref (n + 21), .ref (n + 22), .ref (n + 23), .int 0, .ref (n + 24), .ref (n + 25), .ref (n + 26), .int 0, .ref (n + 27), .ref (n + 28), .ref (n + 29), .ref (n + 30), .int 0, .ref (n + 31), .int 0, .ref (n + 32), .int 0, .int 0, .int 0, .int 0, .int 0, .int 0]))))   : zk_Kr Z mm_Mo_terms [.ref a] (w, s, f) (fun v M' => v = .int (0) ∧ ∃ g : Nat → Option zk_E, M' = (w, s, g)) := by
  refine zk_enterB (by decide) (Nat.le_of_ble_eq_true rfl) rfl ?_
  show zk_P Z mm_Mo_terms 0 [some (.ref a)] [] (w, s, f) _
  refine zk_aload_0 1 dc_Mo_terms_0 rfl rfl ?_
  refine zk_getfield 4 dc_Mo_terms_1 fg_Mo_109 ha rfl rfl ?_
  exact zk_ireturn dc_Mo_terms_4 rfl (by first | rfl | decide) ⟨_, rfl, rfl, _, rfl⟩
set_option maxHeartbeats 4000000 in
set_option maxRecDepth 100000 in
theorem r_found {Z : zk_Z} {w s : Nat} {f : Nat → Option zk_E} {a n : Nat} (ha : f a = some (.inr (.inr (9, [.ref n, .ref (n + 5), .ref (n + 6), .ref (n + 7), .int 0, .int 0, .ref (n + 8), .ref (n + 9), .ref (n + 10), .ref (n + 11), .ref (n + 12), .ref (n + 13), .ref (n + 14), .ref (n + 15), .int 0, .ref (n + 16), .ref (n + 17), .ref (n + 18), .ref (n + 19), .int 0, .int 0, .int 0, .int 0, .int 0, .int (-1), .ref (n + 20), .ref (n + 21), .ref (n + 22), .ref (n + 23), .int 0, .ref (n + 24), .ref (n + 25), .ref (n + 26), .int 0, .ref (n + 27), .ref (n + 28), .ref (n + 29), .ref (n + 30), .int 0, .ref (n + 31), .int 0, .ref (n + 32), .int 0, .int 0, .int 0, .int 0, .int 0, .int 0]))))  {x : Int32} : zk_Kr Z mm_Mo_found [.ref a, .int x] (w, s, f) (fun v M' => v = .int (-1) ∧ ∃ g : Nat → Option zk_E, M' = (w, s, g)) := by
  refine zk_enterB (by decide) (Nat.le_of_ble_eq_true rfl) rfl ?_
  show zk_P Z mm_Mo_found 0 [some (.ref a), some (.int x)] [] (w, s, f) _
  refine zk_aload_0 1 dc_Mo_found_0 rfl rfl ?_
  refine zk_getfield 4 dc_Mo_found_1 fg_Mo_277 ha rfl rfl ?_
  refine zk_if_eq 16 7 dc_Mo_found_4 (by decide) rfl (fun hx => ?_) (fun hx => by first | exact absurd hx rfl | exact absurd rfl hx)
  refine zk_iconst (v := -1) 17 dc_Mo_found_16 (by decide) rfl ?_
  refine zk_goto 47 dc_Mo_found_17 (by decide) ?_
  exact zk_ireturn dc_Mo_found_47 rfl (by first | rfl | decide) ⟨_, rfl, rfl, _, rfl⟩
set_option maxHeartbeats 4000000 in
set_option maxRecDepth 100000 in
theorem r_join {Z : zk_Z} {w s : Nat} {f : Nat → Option zk_E} {a n : Nat} (ha : f a = some (.inr (.inr (9, [.ref n, .ref (n + 5), .ref (n + 6), .ref (n + 7), .int 0, .int 0, .ref (n + 8), .ref (n + 9), .ref (n + 10), .ref (n + 11), .ref (n + 12), .ref (n + 13), .ref (n + 14), .ref (n + 15), .int 0, .ref (n + 16), .ref (n + 17), .ref (n + 18), .ref (n + 19), .int 0, .int 0, .int 0, .int 0, .int 0, .int (-1), .ref (n + 20), .ref (n + 21), .ref (n + 22), .ref (n + 23), .int 0, .ref (n + 24), .ref (n + 25), .ref (n + 26), .int 0, .ref (n + 27), .ref (n + 28), .ref (n + 29), .ref (n + 30), .int 0, .ref (n + 31), .int 0, .ref (n + 32), .int 0, .int 0, .int 0, .int 0, .int 0, .int 0]))))  {x y z : Int32} : zk_Kr Z mm_Mo_join [.ref a, .int x, .int y, .int z] (w, s, f) (fun v M' => v = .int (-1) ∧ ∃ g : Nat → Option zk_E, M' = (w, s, g)) := by
  refine zk_enterB (by decide) (Nat.le_of_ble_eq_true rfl) rfl ?_
  show zk_P Z mm_Mo_join 0 [some (.ref a), some (.int x), some (.int y), some (.int z)] [] (w, s, f) _
  refine zk_iload_1 1 dc_Mo_join_0 rfl rfl ?_
  refine zk_iconst (v := 4) 2 dc_Mo_join_1 (by decide) rfl ?_
  refine zk_icmp_eq 11 5 dc_Mo_join_2 (by decide) rfl (fun hc => ?_) (fun hc => ?_)
  · refine zk_aload_0 12 dc_Mo_join_11 rfl rfl ?_
    refine zk_iload_2 13 dc_Mo_join_12 rfl rfl ?_
    refine zk_cVr 16 (m_isTerm ha) dc_Mo_join_13 ok_Mo_isTerm lk_Mo_145 ha rfl rfl rfl ⟨Nat.le_of_ble_eq_true rfl, Nat.le_of_ble_eq_true rfl⟩ (Nat.le_of_ble_eq_true rfl) rfl (fun v M1 hk => ?_)
    obtain ⟨rfl, rfl⟩ := hk
    refine zk_if_eq 38 19 dc_Mo_join_16 (by decide) rfl (fun hx => ?_) (fun hx => by first | exact absurd hx rfl | exact absurd rfl hx)
    refine zk_iconst (v := -1) 39 dc_Mo_join_38 (by decide) rfl ?_
    exact zk_ireturn dc_Mo_join_39 rfl (by first | rfl | decide) ⟨_, rfl, rfl, _, rfl⟩
  · refine zk_iload_1 6 dc_Mo_join_5 rfl rfl ?_
    refine zk_bipush (v := 9) 8 dc_Mo_join_6 (by decide) rfl ?_
    refine zk_icmp_ne 38 11 dc_Mo_join_8 (by decide) rfl (fun hc => ?_) (fun hc => ?_)
    · refine zk_iconst (v := -1) 39 dc_Mo_join_38 (by decide) rfl ?_
      exact zk_ireturn dc_Mo_join_39 rfl (by first | rfl | decide) ⟨_, rfl, rfl, _, rfl⟩
    · refine zk_aload_0 12 dc_Mo_join_11 rfl rfl ?_
      refine zk_iload_2 13 dc_Mo_join_12 rfl rfl ?_
      refine zk_cVr 16 (m_isTerm ha) dc_Mo_join_13 ok_Mo_isTerm lk_Mo_145 ha rfl rfl rfl ⟨Nat.le_of_ble_eq_true rfl, Nat.le_of_ble_eq_true rfl⟩ (Nat.le_of_ble_eq_true rfl) rfl (fun v M1 hk => ?_)
      obtain ⟨rfl, rfl⟩ := hk
      refine zk_if_eq 38 19 dc_Mo_join_16 (by decide) rfl (fun hx => ?_) (fun hx => by first | exact absurd hx rfl | exact absurd rfl hx)
      refine zk_iconst (v := -1) 39 dc_Mo_join_38 (by decide) rfl ?_
      exact zk_ireturn dc_Mo_join_39 rfl (by first | rfl | decide) ⟨_, rfl, rfl, _, rfl⟩
set_option maxHeartbeats 4000000 in
set_option maxRecDepth 100000 in
theorem r_binder {Z : zk_Z} {w s : Nat} {f : Nat → Option zk_E} {a n : Nat} (ha : f a = some (.inr (.inr (9, [.ref n, .ref (n + 5), .ref (n + 6), .ref (n + 7), .int 0, .int 0, .ref (n + 8), .ref (n + 9), .ref (n + 10), .ref (n + 11), .ref (n + 12), .ref (n + 13), .ref (n + 14), .ref (n + 15), .int 0, .ref (n + 16), .ref (n + 17), .ref (n + 18), .ref (n + 19), .int 0, .int 0, .int 0, .int 0, .int 0, .int (-1), .ref (n + 20), .ref (n + 21), .ref (n + 22), .ref (n + 23), .int 0, .ref (n + 24), .ref (n + 25), .ref (n + 26), .int 0, .ref (n + 27), .ref (n + 28), .ref (n + 29), .ref (n + 30), .int 0, .ref (n + 31), .int 0, .ref (n + 32), .int 0, .int 0, .int 0, .int 0, .int 0, .int 0]))))  {x y z u : Int32} : zk_Kr Z mm_Mo_binder [.ref a, .int x, .int y, .int z, .int u] (w, s, f) (fun v M' => v = .int (-1) ∧ ∃ g : Nat → Option zk_E, M' = (w, s, g)) := by
  refine zk_enterB (by decide) (Nat.le_of_ble_eq_true rfl) rfl ?_
  show zk_P Z mm_Mo_binder 0 [some (.ref a), some (.int x), some (.int y), some (.int z), some (.int u)] [] (w, s, f) _
  refine zk_iload_1 1 dc_Mo_binder_0 rfl rfl ?_
  refine zk_iconst (v := 5) 2 dc_Mo_binder_1 (by decide) rfl ?_
  refine zk_icmp_lt 51 5 dc_Mo_binder_2 (by decide) rfl (fun hc => ?_) (fun hc => ?_)
  · refine zk_iconst (v := -1) 52 dc_Mo_binder_51 (by decide) rfl ?_
    exact zk_ireturn dc_Mo_binder_52 rfl (by first | rfl | decide) ⟨_, rfl, rfl, _, rfl⟩
  · refine zk_iload_1 6 dc_Mo_binder_5 rfl rfl ?_
    refine zk_bipush (v := 7) 8 dc_Mo_binder_6 (by decide) rfl ?_
    refine zk_icmp_gt 51 11 dc_Mo_binder_8 (by decide) rfl (fun hc => ?_) (fun hc => ?_)
    · refine zk_iconst (v := -1) 52 dc_Mo_binder_51 (by decide) rfl ?_
      exact zk_ireturn dc_Mo_binder_52 rfl (by first | rfl | decide) ⟨_, rfl, rfl, _, rfl⟩
    · refine zk_iload_2 12 dc_Mo_binder_11 rfl rfl ?_
      refine zk_iconst (v := -1) 13 dc_Mo_binder_12 (by decide) rfl ?_
      refine zk_icmp_lt 51 16 dc_Mo_binder_13 (by decide) rfl (fun hc => ?_) (fun hc => ?_)
      · refine zk_iconst (v := -1) 52 dc_Mo_binder_51 (by decide) rfl ?_
        exact zk_ireturn dc_Mo_binder_52 rfl (by first | rfl | decide) ⟨_, rfl, rfl, _, rfl⟩
      · refine zk_iload_2 17 dc_Mo_binder_16 rfl rfl ?_
        refine zk_bipush (v := 100) 19 dc_Mo_binder_17 (by decide) rfl ?_
        refine zk_icmp_ge 51 22 dc_Mo_binder_19 (by decide) rfl (fun hc => ?_) (fun hc => ?_)
        · refine zk_iconst (v := -1) 52 dc_Mo_binder_51 (by decide) rfl ?_
          exact zk_ireturn dc_Mo_binder_52 rfl (by first | rfl | decide) ⟨_, rfl, rfl, _, rfl⟩
        · refine zk_aload_0 23 dc_Mo_binder_22 rfl rfl ?_
          refine zk_iload_3 24 dc_Mo_binder_23 rfl rfl ?_
          refine zk_cVr 27 (m_isTerm ha) dc_Mo_binder_24 ok_Mo_isTerm lk_Mo_145 ha rfl rfl rfl ⟨Nat.le_of_ble_eq_true rfl, Nat.le_of_ble_eq_true rfl⟩ (Nat.le_of_ble_eq_true rfl) rfl (fun v M1 hk => ?_)
          obtain ⟨rfl, rfl⟩ := hk
          refine zk_if_eq 51 30 dc_Mo_binder_27 (by decide) rfl (fun hx => ?_) (fun hx => by first | exact absurd hx rfl | exact absurd rfl hx)
          refine zk_iconst (v := -1) 52 dc_Mo_binder_51 (by decide) rfl ?_
          exact zk_ireturn dc_Mo_binder_52 rfl (by first | rfl | decide) ⟨_, rfl, rfl, _, rfl⟩
set_option maxHeartbeats 4000000 in
set_option maxRecDepth 100000 in
theorem r_constructor {Z : zk_Z} {w s : Nat} {f : Nat → Option zk_E} {a n : Nat} (ha : f a = some (.inr (.inr (9, [.ref n, .ref (n + 5), .ref (n + 6), .ref (n + 7), .int 0, .int 0, .ref (n + 8), .ref (n + 9), .ref (n + 10), .ref (n + 11), .ref (n + 12), .ref (n + 13), .ref (n + 14), .ref (n + 15), .int 0, .ref (n + 16), .ref (n + 17), .ref (n + 18), .ref (n + 19), .int 0, .int 0, .int 0, .int 0, .int 0, .int (-1), .ref (n + 20), .ref (n + 21), .ref (n + 22), .ref (n + 23), .int 0, .ref (n + 24), .ref (n + 25), .ref (n + 26), .int 0, .ref (n + 27), .ref (n + 28), .ref (n + 29), .ref (n + 30), .int 0, .ref (n + 31), .int 0, .ref (n + 32), .int 0, .int 0, .int 0, .int 0, .int 0, .int 0]))))  {x y : Int32} : zk_Kr Z mm_Mo_constructor [.ref a, .int x, .int y] (w, s, f) (fun v M' => v = .int (-1) ∧ ∃ g : Nat → Option zk_E, M' = (w, s, g)) := by
  refine zk_enterB (by decide) (Nat.le_of_ble_eq_true rfl) rfl ?_
  show zk_P Z mm_Mo_constructor 0 [some (.ref a), some (.int x), some (.int y), none, none, none, none, none, none, none] [] (w, s, f) _
  refine zk_iload_1 1 dc_Mo_constructor_0 rfl rfl ?_
  refine zk_if_lt 49 4 dc_Mo_constructor_1 (by decide) rfl (fun hc => ?_) (fun hc => ?_)
  · refine zk_iconst (v := -1) 50 dc_Mo_constructor_49 (by decide) rfl ?_
    exact zk_ireturn dc_Mo_constructor_50 rfl (by first | rfl | decide) ⟨_, rfl, rfl, _, rfl⟩
  · refine zk_iload_1 5 dc_Mo_constructor_4 rfl rfl ?_
    refine zk_aload_0 6 dc_Mo_constructor_5 rfl rfl ?_
    refine zk_getfield 9 dc_Mo_constructor_6 fg_Mo_120 ha rfl rfl ?_
    refine zk_icmp_ge 49 12 dc_Mo_constructor_9 (by decide) rfl (fun hx => ?_) (fun hx => by first | exact absurd hx (Int32.not_lt.mp hc) | exact absurd (Int32.not_lt.mp hc) hx)
    refine zk_iconst (v := -1) 50 dc_Mo_constructor_49 (by decide) rfl ?_
    exact zk_ireturn dc_Mo_constructor_50 rfl (by first | rfl | decide) ⟨_, rfl, rfl, _, rfl⟩
set_option maxHeartbeats 4000000 in
set_option maxRecDepth 100000 in
theorem m_isRoom {Z : zk_Z} {w s : Nat} {f : Nat → Option zk_E} {a n : Nat} (ha : f a = some (.inr (.inr (9, [.ref n, .ref (n + 5), .ref (n + 6), .ref (n + 7), .int 0, .int 0, .ref (n + 8), .ref (n + 9), .ref (n + 10), .ref (n + 11), .ref (n + 12), .ref (n + 13), .ref (n + 14), .ref (n + 15), .int 0, .ref (n + 16), .ref (n + 17), .ref (n + 18), .ref (n + 19), .int 0, .int 0, .int 0, .int 0, .int 0, .int (-1), .ref (n + 20), .ref (n + 21), .ref (n + 22), .ref (n + 23), .int 0, .ref (n + 24), .ref (n + 25), .ref (n + 26), .int 0, .ref (n + 27), .ref (n + 28), .ref (n + 29), .ref (n + 30), .int 0, .ref (n + 31), .int 0, .ref (n + 32), .int 0, .int 0, .int 0, .int 0, .int 0, .int 0])))) : zk_Kr Z mm_Mo_isRoom [.ref a, .int 1] (w, s, f) (fun v M' => v = .int 1 ∧ M' = (w, s, f)) := by
  refine zk_enterB (by decide) (Nat.le_of_ble_eq_true rfl) rfl ?_
  show zk_P Z mm_Mo_isRoom 0 [some (.ref a), some (.int 1)] [] (w, s, f) _
  refine zk_aload_0 1 dc_Mo_isRoom_0 rfl rfl ?_
  refine zk_getfield 4 dc_Mo_isRoom_1 fg_Mo_109 ha rfl rfl ?_
  refine zk_sipush (v := 3000) 7 dc_Mo_isRoom_4 (by decide) rfl ?_
  refine zk_icmp_ge 32 10 dc_Mo_isRoom_7 (by decide) rfl (fun hx => by first | exact absurd hx (show ¬ (3000 : Int32) ≤ 0 by decide) | exact absurd (show ¬ (3000 : Int32) ≤ 0 by decide) hx) (fun hx => ?_)
  refine zk_iload_1 11 dc_Mo_isRoom_10 rfl rfl ?_
  refine zk_sipush (v := 2000) 14 dc_Mo_isRoom_11 (by decide) rfl ?_
  refine zk_icmp_gt 32 17 dc_Mo_isRoom_14 (by decide) rfl (fun hx => by first | exact absurd hx (show ¬ (2000 : Int32) < 1 by decide) | exact absurd (show ¬ (2000 : Int32) < 1 by decide) hx) (fun hx => ?_)
  refine zk_aload_0 18 dc_Mo_isRoom_17 rfl rfl ?_
  refine zk_getfield 21 dc_Mo_isRoom_18 fg_Mo_112 ha rfl rfl ?_
  refine zk_iload_1 22 dc_Mo_isRoom_21 rfl rfl ?_
  refine zk_iadd 23 dc_Mo_isRoom_22 rfl ?_
  refine zk_ldc (v := 40000) 25 dc_Mo_isRoom_23 (zk_in 846 (by decide +kernel) (by decide +kernel)) rfl ?_
  refine zk_icmp_gt 32 28 dc_Mo_isRoom_25 (by decide) rfl (fun hx => by first | exact absurd hx (show ¬ (40000 : Int32) < 0 + 1 by decide) | exact absurd (show ¬ (40000 : Int32) < 0 + 1 by decide) hx) (fun hx => ?_)
  refine zk_iconst (v := 1) 29 dc_Mo_isRoom_28 (by decide) rfl ?_
  refine zk_goto 33 dc_Mo_isRoom_29 (by decide) ?_
  exact zk_ireturn dc_Mo_isRoom_33 rfl (by first | rfl | decide) ⟨_, rfl, rfl, rfl⟩
set_option maxHeartbeats 4000000 in
set_option maxRecDepth 100000 in
theorem m_term {Z : zk_Z} {w s : Nat} {f : Nat → Option zk_E} {a n : Nat} (ha : f a = some (.inr (.inr (9, [.ref n, .ref (n + 5), .ref (n + 6), .ref (n + 7), .int 0, .int 0, .ref (n + 8), .ref (n + 9), .ref (n + 10), .ref (n + 11), .ref (n + 12), .ref (n + 13), .ref (n + 14), .ref (n + 15), .int 0, .ref (n + 16), .ref (n + 17), .ref (n + 18), .ref (n + 19), .int 0, .int 0, .int 0, .int 0, .int 0, .int (-1), .ref (n + 20), .ref (n + 21), .ref (n + 22), .ref (n + 23), .int 0, .ref (n + 24), .ref (n + 25), .ref (n + 26), .int 0, .ref (n + 27), .ref (n + 28), .ref (n + 29), .ref (n + 30), .int 0, .ref (n + 31), .int 0, .ref (n + 32), .int 0, .int 0, .int 0, .int 0, .int 0, .int 0])))) (c5 : f (n + 5) = some (.inl (3000, fun _ => 0))) (c6 : f (n + 6) = some (.inl (3000, fun _ => 0))) (c7 : f (n + 7) = some (.inl (3000, fun _ => 0))) (hlt : a < n) {x y z : Int32} : zk_Kr Z mm_Mo_term [.ref a, .int x, .int y, .int z] (w, s, f) (fun v M' => v = .int (0) ∧ ∃ g : Nat → Option zk_E, M' = (w, s, g)) := by
  refine zk_enterB (by decide) (Nat.le_of_ble_eq_true rfl) rfl ?_
  show zk_P Z mm_Mo_term 0 [some (.ref a), some (.int x), some (.int y), some (.int z)] [] (w, s, f) _
  refine zk_aload_0 1 dc_Mo_term_0 rfl rfl ?_
  refine zk_getfield 4 dc_Mo_term_1 fg_Mo_16 ha rfl rfl ?_
  refine zk_aload_0 5 dc_Mo_term_4 rfl rfl ?_
  refine zk_getfield 8 dc_Mo_term_5 fg_Mo_109 ha rfl rfl ?_
  refine zk_iload_1 9 dc_Mo_term_8 rfl rfl ?_
  refine zk_iastoreK 10 dc_Mo_term_9 c5 (show vp_in (0 : Int32) 3000 by unfold vp_in; decide) rfl (fun f1 c5 o1 => ?_)
  have ha := (o1 (a) (by omega) ).trans ha
  have c6 := (o1 (n + 6) (by omega) ).trans c6
  have c7 := (o1 (n + 7) (by omega) ).trans c7
  refine zk_aload_0 11 dc_Mo_term_10 rfl rfl ?_
  refine zk_getfield 14 dc_Mo_term_11 fg_Mo_20 ha rfl rfl ?_
  refine zk_aload_0 15 dc_Mo_term_14 rfl rfl ?_
  refine zk_getfield 18 dc_Mo_term_15 fg_Mo_109 ha rfl rfl ?_
  refine zk_iload_2 19 dc_Mo_term_18 rfl rfl ?_
  refine zk_iastoreK 20 dc_Mo_term_19 c6 (show vp_in (0 : Int32) 3000 by unfold vp_in; decide) rfl (fun f2 c6 o2 => ?_)
  have ha := (o2 (a) (by omega) ).trans ha
  have c7 := (o2 (n + 7) (by omega) ).trans c7
  have c5 := (o2 (n + 5) (by omega) ).trans c5
  refine zk_aload_0 21 dc_Mo_term_20 rfl rfl ?_
  refine zk_getfield 24 dc_Mo_term_21 fg_Mo_23 ha rfl rfl ?_
  refine zk_aload_0 25 dc_Mo_term_24 rfl rfl ?_
  refine zk_getfield 28 dc_Mo_term_25 fg_Mo_109 ha rfl rfl ?_
  refine zk_iload_3 29 dc_Mo_term_28 rfl rfl ?_
  refine zk_iastoreK 30 dc_Mo_term_29 c7 (show vp_in (0 : Int32) 3000 by unfold vp_in; decide) rfl (fun f3 c7 o3 => ?_)
  have ha := (o3 (a) (by omega) ).trans ha
  have c5 := (o3 (n + 5) (by omega) ).trans c5
  have c6 := (o3 (n + 6) (by omega) ).trans c6
  refine zk_aload_0 31 dc_Mo_term_30 rfl rfl ?_
  refine zk_dup 32 dc_Mo_term_31 rfl rfl ?_
  refine zk_getfield 35 dc_Mo_term_32 fg_Mo_112 ha rfl rfl ?_
  refine zk_iload_2 36 dc_Mo_term_35 rfl rfl ?_
  refine zk_iadd 37 dc_Mo_term_36 rfl ?_
  refine zk_put 40 dc_Mo_term_37 fp_Mo_112 ha rfl rfl (Nat.le_of_ble_eq_true rfl) rfl (fun f4 ha o4 => ?_)
  have c5 := (o4 (n + 5) (by omega) ).trans c5
  have c6 := (o4 (n + 6) (by omega) ).trans c6
  have c7 := (o4 (n + 7) (by omega) ).trans c7
  refine zk_aload_0 41 dc_Mo_term_40 rfl rfl ?_
  refine zk_dup 42 dc_Mo_term_41 rfl rfl ?_
  refine zk_getfield 45 dc_Mo_term_42 fg_Mo_109 ha rfl rfl ?_
  refine zk_iconst (v := 1) 46 dc_Mo_term_45 (by decide) rfl ?_
  refine zk_iadd 47 dc_Mo_term_46 rfl ?_
  refine zk_put 50 dc_Mo_term_47 fp_Mo_109 ha rfl rfl (Nat.le_of_ble_eq_true rfl) rfl (fun f5 ha o5 => ?_)
  have c5 := (o5 (n + 5) (by omega) ).trans c5
  have c6 := (o5 (n + 6) (by omega) ).trans c6
  have c7 := (o5 (n + 7) (by omega) ).trans c7
  refine zk_aload_0 51 dc_Mo_term_50 rfl rfl ?_
  refine zk_getfield 54 dc_Mo_term_51 fg_Mo_109 ha rfl rfl ?_
  refine zk_iconst (v := 1) 55 dc_Mo_term_54 (by decide) rfl ?_
  refine zk_isub 56 dc_Mo_term_55 rfl ?_
  exact zk_ireturn dc_Mo_term_56 rfl (by first | rfl | decide) ⟨_, rfl, by decide, _, rfl⟩
set_option maxHeartbeats 4000000 in
set_option maxRecDepth 100000 in
theorem r_leaf {Z : zk_Z} {w s : Nat} {f : Nat → Option zk_E} {a n : Nat} (ha : f a = some (.inr (.inr (9, [.ref n, .ref (n + 5), .ref (n + 6), .ref (n + 7), .int 0, .int 0, .ref (n + 8), .ref (n + 9), .ref (n + 10), .ref (n + 11), .ref (n + 12), .ref (n + 13), .ref (n + 14), .ref (n + 15), .int 0, .ref (n + 16), .ref (n + 17), .ref (n + 18), .ref (n + 19), .int 0, .int 0, .int 0, .int 0, .int 0, .int (-1), .ref (n + 20), .ref (n + 21), .ref (n + 22), .ref (n + 23), .int 0, .ref (n + 24), .ref (n + 25), .ref (n + 26), .int 0, .ref (n + 27), .ref (n + 28), .ref (n + 29), .ref (n + 30), .int 0, .ref (n + 31), .int 0, .ref (n + 32), .int 0, .int 0, .int 0, .int 0, .int 0, .int 0])))) {gk gv gs gl : Nat → Int32} (hr : f n = some (.inr (.inr (8, [.ref (n + 1), .ref (n + 2), .ref (n + 3), .ref (n + 4), .int (nI 2201)])))) (hk : f (n + 1) = some (.inl (4096, gk))) (hv : f (n + 2) = some (.inl (4096, gv))) (hs : f (n + 3) = some (.inl (4096, gs))) (hl : f (n + 4) = some (.inl (4096, gl))) (c5 : f (n + 5) = some (.inl (3000, fun _ => 0))) (c6 : f (n + 6) = some (.inl (3000, fun _ => 0))) (c7 : f (n + 7) = some (.inl (3000, fun _ => 0))) (hlt : a < n) {x y z : Int32} : zk_Kr Z mm_Mo_leaf [.ref a, .int x, .int y, .int z] (w, s, f) (fun v M' => v = .int (p1_leaf x y z) ∧ ∃ g : Nat → Option zk_E, M' = (w, s, g)) := by
  refine zk_enterB (by decide) (Nat.le_of_ble_eq_true rfl) rfl ?_
  show zk_P Z mm_Mo_leaf 0 [some (.ref a), some (.int x), some (.int y), some (.int z), none] [] (w, s, f) _
  refine zk_iload_1 1 dc_Mo_leaf_0 rfl rfl ?_
  refine zk_if_eq 9 4 dc_Mo_leaf_1 (by decide) rfl (fun ha0 => ?_) (fun ha0 => ?_)
  · refine zk_iload_2 10 dc_Mo_leaf_9 rfl rfl ?_
    refine zk_cSr 13 (m_isn) dc_Mo_leaf_10 ok_Mo_isNumber lk_Mo_116 rfl rfl ⟨Nat.le_of_ble_eq_true rfl, Nat.le_of_ble_eq_true rfl⟩ (Nat.le_of_ble_eq_true rfl) rfl (fun v M1 hk => ?_)
    obtain ⟨rfl, hk0⟩ := hk
    rcases hk0 with ⟨h1, rfl⟩ | ⟨h1, rfl⟩
    · refine zk_goto 43 dc_Mo_leaf_13 (by decide) ?_
      refine zk_istore_4 45 dc_Mo_leaf_43 (Nat.le_of_ble_eq_true rfl) rfl ?_
      refine zk_iload 47 dc_Mo_leaf_45 rfl rfl ?_
      refine zk_if_eq 83 50 dc_Mo_leaf_47 (by decide) rfl (fun hx => by first | exact absurd hx (show ¬ (1 : Int32) = 0 by decide) | exact absurd (show ¬ (1 : Int32) = 0 by decide) hx) (fun hx => ?_)
      refine zk_iload_1 51 dc_Mo_leaf_50 rfl rfl ?_
      refine zk_iconst (v := 3) 52 dc_Mo_leaf_51 (by decide) rfl ?_
      refine zk_icmp_ne 75 55 dc_Mo_leaf_52 (by decide) rfl (fun hx => ?_) (fun hx => by first | exact absurd hx (show ¬ x = 3 by rw [ha0]; decide) | exact absurd (show ¬ x = 3 by rw [ha0]; decide) hx)
      refine zk_iload_3 76 dc_Mo_leaf_75 rfl rfl ?_
      refine zk_if_ne 83 79 dc_Mo_leaf_76 (by decide) rfl (fun hz => ?_) (fun hz => ?_)
      · refine zk_iconst (v := 0) 84 dc_Mo_leaf_83 (by decide) rfl ?_
        refine zk_istore_4 86 dc_Mo_leaf_84 (Nat.le_of_ble_eq_true rfl) rfl ?_
        refine zk_iload 88 dc_Mo_leaf_86 rfl rfl ?_
        refine zk_if_eq 128 91 dc_Mo_leaf_88 (by decide) rfl (fun hx => ?_) (fun hx => by first | exact absurd hx rfl | exact absurd rfl hx)
        refine zk_iconst (v := -1) 129 dc_Mo_leaf_128 (by decide) rfl ?_
        have hp : p1_leaf x y z = -1 := by rw [p1_leaf, if_neg (fun q => hz q.2.2)]
        exact zk_ireturn dc_Mo_leaf_129 rfl (by first | rfl | decide) ⟨_, rfl, congrArg Value.int hp.symm, _, rfl⟩
      · refine zk_iconst (v := 1) 80 dc_Mo_leaf_79 (by decide) rfl ?_
        refine zk_goto 84 dc_Mo_leaf_80 (by decide) ?_
        refine zk_istore_4 86 dc_Mo_leaf_84 (Nat.le_of_ble_eq_true rfl) rfl ?_
        refine zk_iload 88 dc_Mo_leaf_86 rfl rfl ?_
        refine zk_if_eq 128 91 dc_Mo_leaf_88 (by decide) rfl (fun hx => by first | exact absurd hx (show ¬ (1 : Int32) = 0 by decide) | exact absurd (show ¬ (1 : Int32) = 0 by decide) hx) (fun hx => ?_)
        refine zk_aload_0 92 dc_Mo_leaf_91 rfl rfl ?_
        refine zk_iconst (v := 1) 93 dc_Mo_leaf_92 (by decide) rfl ?_
        refine zk_cVr 96 (m_isRoom ha) dc_Mo_leaf_93 ok_Mo_isRoom lk_Mo_123 ha rfl rfl rfl ⟨Nat.le_of_ble_eq_true rfl, Nat.le_of_ble_eq_true rfl⟩ (Nat.le_of_ble_eq_true rfl) rfl (fun v M1 hk => ?_)
        obtain ⟨rfl, rfl⟩ := hk
        refine zk_if_eq 128 99 dc_Mo_leaf_96 (by decide) rfl (fun hx => by first | exact absurd hx (show ¬ (1 : Int32) = 0 by decide) | exact absurd (show ¬ (1 : Int32) = 0 by decide) hx) (fun hx => ?_)
        refine zk_aload_0 100 dc_Mo_leaf_99 rfl rfl ?_
        refine zk_aload_0 101 dc_Mo_leaf_100 rfl rfl ?_
        refine zk_getfield 104 dc_Mo_leaf_101 fg_Mo_10 ha rfl rfl ?_
        refine zk_iload_1 105 dc_Mo_leaf_104 rfl rfl ?_
        refine zk_iload_2 106 dc_Mo_leaf_105 rfl rfl ?_
        refine zk_iload_3 107 dc_Mo_leaf_106 rfl rfl ?_
        refine zk_cVr 110 (ct_Radd hr hk hv hs hl (by decide)) dc_Mo_leaf_107 ok_MoRows_add lk_Mo_105 hr rfl rfl rfl ⟨Nat.le_of_ble_eq_true rfl, Nat.le_of_ble_eq_true rfl⟩ (Nat.le_of_ble_eq_true rfl) rfl (fun v M1 hk => ?_)
        obtain ⟨g, gk, gv, gs, gl, rfl, rfl, -, -, -, -, -, p⟩ := hk
        have ha := (p (a) (by omega) ).trans ha
        have c5 := (p (n + 5) (by omega) ).trans c5
        have c6 := (p (n + 6) (by omega) ).trans c6
        have c7 := (p (n + 7) (by omega) ).trans c7
        refine zk_iconst (v := 1) 111 dc_Mo_leaf_110 (by decide) rfl ?_
        refine zk_iload_1 112 dc_Mo_leaf_111 rfl rfl ?_
        refine zk_if_ne 121 115 dc_Mo_leaf_112 (by decide) rfl (fun hy => ?_) (fun hy => ?_)
        · refine zk_iconst (v := 0) 122 dc_Mo_leaf_121 (by decide) rfl ?_
          refine zk_cVr 125 (m_term ha c5 c6 c7 hlt) dc_Mo_leaf_122 ok_Mo_term lk_Mo_126 ha rfl rfl rfl ⟨Nat.le_of_ble_eq_true rfl, Nat.le_of_ble_eq_true rfl⟩ (Nat.le_of_ble_eq_true rfl) rfl (fun v M1 hk => ?_)
          obtain ⟨rfl, g2, rfl⟩ := hk
          refine zk_goto 129 dc_Mo_leaf_125 (by decide) ?_
          have hp : p1_leaf x y z = 0 := by rw [p1_leaf, if_pos ⟨by first | exact Or.inl ha0 | exact Or.inr ha0, h1, hz⟩]
          exact zk_ireturn dc_Mo_leaf_129 rfl (by first | rfl | decide) ⟨_, rfl, congrArg Value.int hp.symm, _, rfl⟩
        · refine zk_iload_2 116 dc_Mo_leaf_115 rfl rfl ?_
          refine zk_iconst (v := 1) 117 dc_Mo_leaf_116 (by decide) rfl ?_
          refine zk_iadd 118 dc_Mo_leaf_117 rfl ?_
          refine zk_goto 122 dc_Mo_leaf_118 (by decide) ?_
          refine zk_cVr 125 (m_term ha c5 c6 c7 hlt) dc_Mo_leaf_122 ok_Mo_term lk_Mo_126 ha rfl rfl rfl ⟨Nat.le_of_ble_eq_true rfl, Nat.le_of_ble_eq_true rfl⟩ (Nat.le_of_ble_eq_true rfl) rfl (fun v M1 hk => ?_)
          obtain ⟨rfl, g2, rfl⟩ := hk
          refine zk_goto 129 dc_Mo_leaf_125 (by decide) ?_
          have hp : p1_leaf x y z = 0 := by rw [p1_leaf, if_pos ⟨by first | exact Or.inl ha0 | exact Or.inr ha0, h1, hz⟩]
          exact zk_ireturn dc_Mo_leaf_129 rfl (by first | rfl | decide) ⟨_, rfl, congrArg Value.int hp.symm, _, rfl⟩
    · refine zk_goto 43 dc_Mo_leaf_13 (by decide) ?_
      refine zk_istore_4 45 dc_Mo_leaf_43 (Nat.le_of_ble_eq_true rfl) rfl ?_
      refine zk_iload 47 dc_Mo_leaf_45 rfl rfl ?_
      refine zk_if_eq 83 50 dc_Mo_leaf_47 (by decide) rfl (fun hx => ?_) (fun hx => by first | exact absurd hx rfl | exact absurd rfl hx)
      refine zk_iconst (v := 0) 84 dc_Mo_leaf_83 (by decide) rfl ?_
      refine zk_istore_4 86 dc_Mo_leaf_84 (Nat.le_of_ble_eq_true rfl) rfl ?_
      refine zk_iload 88 dc_Mo_leaf_86 rfl rfl ?_
      refine zk_if_eq 128 91 dc_Mo_leaf_88 (by decide) rfl (fun hx => ?_) (fun hx => by first | exact absurd hx rfl | exact absurd rfl hx)
      refine zk_iconst (v := -1) 129 dc_Mo_leaf_128 (by decide) rfl ?_
      have hp : p1_leaf x y z = -1 := by rw [p1_leaf, if_neg (fun q => h1 q.2.1)]
      exact zk_ireturn dc_Mo_leaf_129 rfl (by first | rfl | decide) ⟨_, rfl, congrArg Value.int hp.symm, _, rfl⟩
  · refine zk_iload_1 5 dc_Mo_leaf_4 rfl rfl ?_
    refine zk_iconst (v := 2) 6 dc_Mo_leaf_5 (by decide) rfl ?_
    refine zk_icmp_ne 16 9 dc_Mo_leaf_6 (by decide) rfl (fun ha2 => ?_) (fun ha2 => ?_)
    · refine zk_iload_1 17 dc_Mo_leaf_16 rfl rfl ?_
      refine zk_iconst (v := 1) 18 dc_Mo_leaf_17 (by decide) rfl ?_
      refine zk_icmp_eq 26 21 dc_Mo_leaf_18 (by decide) rfl (fun hq1 => ?_) (fun hq1 => ?_)
      · refine zk_iload_2 27 dc_Mo_leaf_26 rfl rfl ?_
        refine zk_if_lt 42 30 dc_Mo_leaf_27 (by decide) rfl (fun hg => ?_) (fun hg => ?_)
        · refine zk_iconst (v := 0) 43 dc_Mo_leaf_42 (by decide) rfl ?_
          refine zk_istore_4 45 dc_Mo_leaf_43 (Nat.le_of_ble_eq_true rfl) rfl ?_
          refine zk_iload 47 dc_Mo_leaf_45 rfl rfl ?_
          refine zk_if_eq 83 50 dc_Mo_leaf_47 (by decide) rfl (fun hx => ?_) (fun hx => by first | exact absurd hx rfl | exact absurd rfl hx)
          refine zk_iconst (v := 0) 84 dc_Mo_leaf_83 (by decide) rfl ?_
          refine zk_istore_4 86 dc_Mo_leaf_84 (Nat.le_of_ble_eq_true rfl) rfl ?_
          refine zk_iload 88 dc_Mo_leaf_86 rfl rfl ?_
          refine zk_if_eq 128 91 dc_Mo_leaf_88 (by decide) rfl (fun hx => ?_) (fun hx => by first | exact absurd hx rfl | exact absurd rfl hx)
          refine zk_iconst (v := -1) 129 dc_Mo_leaf_128 (by decide) rfl ?_
          have hp : p1_leaf x y z = -1 := by rw [p1_leaf, if_neg (fun q => q.1.elim ha0 ha2)]
          exact zk_ireturn dc_Mo_leaf_129 rfl (by first | rfl | decide) ⟨_, rfl, congrArg Value.int hp.symm, _, rfl⟩
        · refine zk_iload_2 31 dc_Mo_leaf_30 rfl rfl ?_
          refine zk_aload_0 32 dc_Mo_leaf_31 rfl rfl ?_
          refine zk_getfield 35 dc_Mo_leaf_32 fg_Mo_120 ha rfl rfl ?_
          refine zk_icmp_ge 42 38 dc_Mo_leaf_35 (by decide) rfl (fun hx => ?_) (fun hx => by first | exact absurd hx (Int32.not_lt.mp hg) | exact absurd (Int32.not_lt.mp hg) hx)
          refine zk_iconst (v := 0) 43 dc_Mo_leaf_42 (by decide) rfl ?_
          refine zk_istore_4 45 dc_Mo_leaf_43 (Nat.le_of_ble_eq_true rfl) rfl ?_
          refine zk_iload 47 dc_Mo_leaf_45 rfl rfl ?_
          refine zk_if_eq 83 50 dc_Mo_leaf_47 (by decide) rfl (fun hx => ?_) (fun hx => by first | exact absurd hx rfl | exact absurd rfl hx)
          refine zk_iconst (v := 0) 84 dc_Mo_leaf_83 (by decide) rfl ?_
          refine zk_istore_4 86 dc_Mo_leaf_84 (Nat.le_of_ble_eq_true rfl) rfl ?_
          refine zk_iload 88 dc_Mo_leaf_86 rfl rfl ?_
          refine zk_if_eq 128 91 dc_Mo_leaf_88 (by decide) rfl (fun hx => ?_) (fun hx => by first | exact absurd hx rfl | exact absurd rfl hx)
          refine zk_iconst (v := -1) 129 dc_Mo_leaf_128 (by decide) rfl ?_
          have hp : p1_leaf x y z = -1 := by rw [p1_leaf, if_neg (fun q => q.1.elim ha0 ha2)]
          exact zk_ireturn dc_Mo_leaf_129 rfl (by first | rfl | decide) ⟨_, rfl, congrArg Value.int hp.symm, _, rfl⟩
      · refine zk_iload_1 22 dc_Mo_leaf_21 rfl rfl ?_
        refine zk_iconst (v := 3) 23 dc_Mo_leaf_22 (by decide) rfl ?_
        refine zk_icmp_ne 42 26 dc_Mo_leaf_23 (by decide) rfl (fun hq3 => ?_) (fun hq3 => ?_)
        · refine zk_iconst (v := 0) 43 dc_Mo_leaf_42 (by decide) rfl ?_
          refine zk_istore_4 45 dc_Mo_leaf_43 (Nat.le_of_ble_eq_true rfl) rfl ?_
          refine zk_iload 47 dc_Mo_leaf_45 rfl rfl ?_
          refine zk_if_eq 83 50 dc_Mo_leaf_47 (by decide) rfl (fun hx => ?_) (fun hx => by first | exact absurd hx rfl | exact absurd rfl hx)
          refine zk_iconst (v := 0) 84 dc_Mo_leaf_83 (by decide) rfl ?_
          refine zk_istore_4 86 dc_Mo_leaf_84 (Nat.le_of_ble_eq_true rfl) rfl ?_
          refine zk_iload 88 dc_Mo_leaf_86 rfl rfl ?_
          refine zk_if_eq 128 91 dc_Mo_leaf_88 (by decide) rfl (fun hx => ?_) (fun hx => by first | exact absurd hx rfl | exact absurd rfl hx)
          refine zk_iconst (v := -1) 129 dc_Mo_leaf_128 (by decide) rfl ?_
          have hp : p1_leaf x y z = -1 := by rw [p1_leaf, if_neg (fun q => q.1.elim ha0 ha2)]
          exact zk_ireturn dc_Mo_leaf_129 rfl (by first | rfl | decide) ⟨_, rfl, congrArg Value.int hp.symm, _, rfl⟩
        · refine zk_iload_2 27 dc_Mo_leaf_26 rfl rfl ?_
          refine zk_if_lt 42 30 dc_Mo_leaf_27 (by decide) rfl (fun hg => ?_) (fun hg => ?_)
          · refine zk_iconst (v := 0) 43 dc_Mo_leaf_42 (by decide) rfl ?_
            refine zk_istore_4 45 dc_Mo_leaf_43 (Nat.le_of_ble_eq_true rfl) rfl ?_
            refine zk_iload 47 dc_Mo_leaf_45 rfl rfl ?_
            refine zk_if_eq 83 50 dc_Mo_leaf_47 (by decide) rfl (fun hx => ?_) (fun hx => by first | exact absurd hx rfl | exact absurd rfl hx)
            refine zk_iconst (v := 0) 84 dc_Mo_leaf_83 (by decide) rfl ?_
            refine zk_istore_4 86 dc_Mo_leaf_84 (Nat.le_of_ble_eq_true rfl) rfl ?_
            refine zk_iload 88 dc_Mo_leaf_86 rfl rfl ?_
            refine zk_if_eq 128 91 dc_Mo_leaf_88 (by decide) rfl (fun hx => ?_) (fun hx => by first | exact absurd hx rfl | exact absurd rfl hx)
            refine zk_iconst (v := -1) 129 dc_Mo_leaf_128 (by decide) rfl ?_
            have hp : p1_leaf x y z = -1 := by rw [p1_leaf, if_neg (fun q => q.1.elim ha0 ha2)]
            exact zk_ireturn dc_Mo_leaf_129 rfl (by first | rfl | decide) ⟨_, rfl, congrArg Value.int hp.symm, _, rfl⟩
          · refine zk_iload_2 31 dc_Mo_leaf_30 rfl rfl ?_
            refine zk_aload_0 32 dc_Mo_leaf_31 rfl rfl ?_
            refine zk_getfield 35 dc_Mo_leaf_32 fg_Mo_120 ha rfl rfl ?_
            refine zk_icmp_ge 42 38 dc_Mo_leaf_35 (by decide) rfl (fun hx => ?_) (fun hx => by first | exact absurd hx (Int32.not_lt.mp hg) | exact absurd (Int32.not_lt.mp hg) hx)
            refine zk_iconst (v := 0) 43 dc_Mo_leaf_42 (by decide) rfl ?_
            refine zk_istore_4 45 dc_Mo_leaf_43 (Nat.le_of_ble_eq_true rfl) rfl ?_
            refine zk_iload 47 dc_Mo_leaf_45 rfl rfl ?_
            refine zk_if_eq 83 50 dc_Mo_leaf_47 (by decide) rfl (fun hx => ?_) (fun hx => by first | exact absurd hx rfl | exact absurd rfl hx)
            refine zk_iconst (v := 0) 84 dc_Mo_leaf_83 (by decide) rfl ?_
            refine zk_istore_4 86 dc_Mo_leaf_84 (Nat.le_of_ble_eq_true rfl) rfl ?_
            refine zk_iload 88 dc_Mo_leaf_86 rfl rfl ?_
            refine zk_if_eq 128 91 dc_Mo_leaf_88 (by decide) rfl (fun hx => ?_) (fun hx => by first | exact absurd hx rfl | exact absurd rfl hx)
            refine zk_iconst (v := -1) 129 dc_Mo_leaf_128 (by decide) rfl ?_
            have hp : p1_leaf x y z = -1 := by rw [p1_leaf, if_neg (fun q => q.1.elim ha0 ha2)]
            exact zk_ireturn dc_Mo_leaf_129 rfl (by first | rfl | decide) ⟨_, rfl, congrArg Value.int hp.symm, _, rfl⟩
    · refine zk_iload_2 10 dc_Mo_leaf_9 rfl rfl ?_
      refine zk_cSr 13 (m_isn) dc_Mo_leaf_10 ok_Mo_isNumber lk_Mo_116 rfl rfl ⟨Nat.le_of_ble_eq_true rfl, Nat.le_of_ble_eq_true rfl⟩ (Nat.le_of_ble_eq_true rfl) rfl (fun v M1 hk => ?_)
      obtain ⟨rfl, hk0⟩ := hk
      rcases hk0 with ⟨h1, rfl⟩ | ⟨h1, rfl⟩
      · refine zk_goto 43 dc_Mo_leaf_13 (by decide) ?_
        refine zk_istore_4 45 dc_Mo_leaf_43 (Nat.le_of_ble_eq_true rfl) rfl ?_
        refine zk_iload 47 dc_Mo_leaf_45 rfl rfl ?_
        refine zk_if_eq 83 50 dc_Mo_leaf_47 (by decide) rfl (fun hx => by first | exact absurd hx (show ¬ (1 : Int32) = 0 by decide) | exact absurd (show ¬ (1 : Int32) = 0 by decide) hx) (fun hx => ?_)
        refine zk_iload_1 51 dc_Mo_leaf_50 rfl rfl ?_
        refine zk_iconst (v := 3) 52 dc_Mo_leaf_51 (by decide) rfl ?_
        refine zk_icmp_ne 75 55 dc_Mo_leaf_52 (by decide) rfl (fun hx => ?_) (fun hx => by first | exact absurd hx (show ¬ x = 3 by rw [ha2]; decide) | exact absurd (show ¬ x = 3 by rw [ha2]; decide) hx)
        refine zk_iload_3 76 dc_Mo_leaf_75 rfl rfl ?_
        refine zk_if_ne 83 79 dc_Mo_leaf_76 (by decide) rfl (fun hz => ?_) (fun hz => ?_)
        · refine zk_iconst (v := 0) 84 dc_Mo_leaf_83 (by decide) rfl ?_
          refine zk_istore_4 86 dc_Mo_leaf_84 (Nat.le_of_ble_eq_true rfl) rfl ?_
          refine zk_iload 88 dc_Mo_leaf_86 rfl rfl ?_
          refine zk_if_eq 128 91 dc_Mo_leaf_88 (by decide) rfl (fun hx => ?_) (fun hx => by first | exact absurd hx rfl | exact absurd rfl hx)
          refine zk_iconst (v := -1) 129 dc_Mo_leaf_128 (by decide) rfl ?_
          have hp : p1_leaf x y z = -1 := by rw [p1_leaf, if_neg (fun q => hz q.2.2)]
          exact zk_ireturn dc_Mo_leaf_129 rfl (by first | rfl | decide) ⟨_, rfl, congrArg Value.int hp.symm, _, rfl⟩
        · refine zk_iconst (v := 1) 80 dc_Mo_leaf_79 (by decide) rfl ?_
          refine zk_goto 84 dc_Mo_leaf_80 (by decide) ?_
          refine zk_istore_4 86 dc_Mo_leaf_84 (Nat.le_of_ble_eq_true rfl) rfl ?_
          refine zk_iload 88 dc_Mo_leaf_86 rfl rfl ?_
          refine zk_if_eq 128 91 dc_Mo_leaf_88 (by decide) rfl (fun hx => by first | exact absurd hx (show ¬ (1 : Int32) = 0 by decide) | exact absurd (show ¬ (1 : Int32) = 0 by decide) hx) (fun hx => ?_)
          refine zk_aload_0 92 dc_Mo_leaf_91 rfl rfl ?_
          refine zk_iconst (v := 1) 93 dc_Mo_leaf_92 (by decide) rfl ?_
          refine zk_cVr 96 (m_isRoom ha) dc_Mo_leaf_93 ok_Mo_isRoom lk_Mo_123 ha rfl rfl rfl ⟨Nat.le_of_ble_eq_true rfl, Nat.le_of_ble_eq_true rfl⟩ (Nat.le_of_ble_eq_true rfl) rfl (fun v M1 hk => ?_)
          obtain ⟨rfl, rfl⟩ := hk
          refine zk_if_eq 128 99 dc_Mo_leaf_96 (by decide) rfl (fun hx => by first | exact absurd hx (show ¬ (1 : Int32) = 0 by decide) | exact absurd (show ¬ (1 : Int32) = 0 by decide) hx) (fun hx => ?_)
          refine zk_aload_0 100 dc_Mo_leaf_99 rfl rfl ?_
          refine zk_aload_0 101 dc_Mo_leaf_100 rfl rfl ?_
          refine zk_getfield 104 dc_Mo_leaf_101 fg_Mo_10 ha rfl rfl ?_
          refine zk_iload_1 105 dc_Mo_leaf_104 rfl rfl ?_
          refine zk_iload_2 106 dc_Mo_leaf_105 rfl rfl ?_
          refine zk_iload_3 107 dc_Mo_leaf_106 rfl rfl ?_
          refine zk_cVr 110 (ct_Radd hr hk hv hs hl (by decide)) dc_Mo_leaf_107 ok_MoRows_add lk_Mo_105 hr rfl rfl rfl ⟨Nat.le_of_ble_eq_true rfl, Nat.le_of_ble_eq_true rfl⟩ (Nat.le_of_ble_eq_true rfl) rfl (fun v M1 hk => ?_)
          obtain ⟨g, gk, gv, gs, gl, rfl, rfl, -, -, -, -, -, p⟩ := hk
          have ha := (p (a) (by omega) ).trans ha
          have c5 := (p (n + 5) (by omega) ).trans c5
          have c6 := (p (n + 6) (by omega) ).trans c6
          have c7 := (p (n + 7) (by omega) ).trans c7
          refine zk_iconst (v := 1) 111 dc_Mo_leaf_110 (by decide) rfl ?_
          refine zk_iload_1 112 dc_Mo_leaf_111 rfl rfl ?_
          refine zk_if_ne 121 115 dc_Mo_leaf_112 (by decide) rfl (fun hy => ?_) (fun hy => ?_)
          · refine zk_iconst (v := 0) 122 dc_Mo_leaf_121 (by decide) rfl ?_
            refine zk_cVr 125 (m_term ha c5 c6 c7 hlt) dc_Mo_leaf_122 ok_Mo_term lk_Mo_126 ha rfl rfl rfl ⟨Nat.le_of_ble_eq_true rfl, Nat.le_of_ble_eq_true rfl⟩ (Nat.le_of_ble_eq_true rfl) rfl (fun v M1 hk => ?_)
            obtain ⟨rfl, g2, rfl⟩ := hk
            refine zk_goto 129 dc_Mo_leaf_125 (by decide) ?_
            have hp : p1_leaf x y z = 0 := by rw [p1_leaf, if_pos ⟨by first | exact Or.inl ha2 | exact Or.inr ha2, h1, hz⟩]
            exact zk_ireturn dc_Mo_leaf_129 rfl (by first | rfl | decide) ⟨_, rfl, congrArg Value.int hp.symm, _, rfl⟩
          · refine zk_iload_2 116 dc_Mo_leaf_115 rfl rfl ?_
            refine zk_iconst (v := 1) 117 dc_Mo_leaf_116 (by decide) rfl ?_
            refine zk_iadd 118 dc_Mo_leaf_117 rfl ?_
            refine zk_goto 122 dc_Mo_leaf_118 (by decide) ?_
            refine zk_cVr 125 (m_term ha c5 c6 c7 hlt) dc_Mo_leaf_122 ok_Mo_term lk_Mo_126 ha rfl rfl rfl ⟨Nat.le_of_ble_eq_true rfl, Nat.le_of_ble_eq_true rfl⟩ (Nat.le_of_ble_eq_true rfl) rfl (fun v M1 hk => ?_)
            obtain ⟨rfl, g2, rfl⟩ := hk
            refine zk_goto 129 dc_Mo_leaf_125 (by decide) ?_
            have hp : p1_leaf x y z = 0 := by rw [p1_leaf, if_pos ⟨by first | exact Or.inl ha2 | exact Or.inr ha2, h1, hz⟩]
            exact zk_ireturn dc_Mo_leaf_129 rfl (by first | rfl | decide) ⟨_, rfl, congrArg Value.int hp.symm, _, rfl⟩
      · refine zk_goto 43 dc_Mo_leaf_13 (by decide) ?_
        refine zk_istore_4 45 dc_Mo_leaf_43 (Nat.le_of_ble_eq_true rfl) rfl ?_
        refine zk_iload 47 dc_Mo_leaf_45 rfl rfl ?_
        refine zk_if_eq 83 50 dc_Mo_leaf_47 (by decide) rfl (fun hx => ?_) (fun hx => by first | exact absurd hx rfl | exact absurd rfl hx)
        refine zk_iconst (v := 0) 84 dc_Mo_leaf_83 (by decide) rfl ?_
        refine zk_istore_4 86 dc_Mo_leaf_84 (Nat.le_of_ble_eq_true rfl) rfl ?_
        refine zk_iload 88 dc_Mo_leaf_86 rfl rfl ?_
        refine zk_if_eq 128 91 dc_Mo_leaf_88 (by decide) rfl (fun hx => ?_) (fun hx => by first | exact absurd hx rfl | exact absurd rfl hx)
        refine zk_iconst (v := -1) 129 dc_Mo_leaf_128 (by decide) rfl ?_
        have hp : p1_leaf x y z = -1 := by rw [p1_leaf, if_neg (fun q => h1 q.2.1)]
        exact zk_ireturn dc_Mo_leaf_129 rfl (by first | rfl | decide) ⟨_, rfl, congrArg Value.int hp.symm, _, rfl⟩
set_option maxHeartbeats 4000000 in
set_option maxRecDepth 100000 in
theorem m_global {Z : zk_Z} {w s : Nat} {f : Nat → Option zk_E} {a n c : Nat} {g8 g10 : Nat → Int32} (ha : f a = some (.inr (.inr (9, [.ref n, .ref (n + 5), .ref (n + 6), .ref (n + 7), .int 0, .int 0, .ref (n + 8), .ref (n + 9), .ref (n + 10), .ref (n + 11), .ref (n + 12), .ref (n + 13), .ref (n + 14), .ref (n + 15), .int (nI c), .ref (n + 16), .ref (n + 17), .ref (n + 18), .ref (n + 19), .int 0, .int 0, .int 0, .int 0, .int 0, .int (-1), .ref (n + 20), .ref (n + 21), .ref (n + 22), .ref (n + 23), .int 0, .ref (n + 24), .ref (n + 25), .ref (n + 26), .int 0, .ref (n + 27), .ref (n + 28), .ref (n + 29), .ref (n + 30), .int 0, .ref (n + 31), .int 0, .ref (n + 32), .int 0, .int 0, .int 0, .int 0, .int 0, .int 0])))) (c8 : f (n + 8) = some (.inl (60, g8))) (c10 : f (n + 10) = some (.inl (60, g10))) (hc : c < 60) (hlt : a < n) {x : Int32} : zk_Kr Z mm_Mo_global [.ref a, .int x] (w, s, f) (fun v M' => v = .int (nI c) ∧ ∃ (g : Nat → Option zk_E) (g8 g10 : Nat → Int32), M' = (w, s, g) ∧ g a = some (.inr (.inr (9, [.ref n, .ref (n + 5), .ref (n + 6), .ref (n + 7), .int 0, .int 0, .ref (n + 8), .ref (n + 9), .ref (n + 10), .ref (n + 11), .ref (n + 12), .ref (n + 13), .ref (n + 14), .ref (n + 15), .int (nI (c + 1)), .ref (n + 16), .ref (n + 17), .ref (n + 18), .ref (n + 19), .int 0, .int 0, .int 0, .int 0, .int 0, .int (-1), .ref (n + 20), .ref (n + 21), .ref (n + 22), .ref (n + 23), .int 0, .ref (n + 24), .ref (n + 25), .ref (n + 26), .int 0, .ref (n + 27), .ref (n + 28), .ref (n + 29), .ref (n + 30), .int 0, .ref (n + 31), .int 0, .ref (n + 32), .int 0, .int 0, .int 0, .int 0, .int 0, .int 0]))) ∧ g (n + 8) = some (.inl (60, g8)) ∧ g (n + 10) = some (.inl (60, g10)) ∧ ∀ b, b ≠ a → b ≠ n + 8 → b ≠ n + 10 → g b = f b) := by
  refine zk_enterB (by decide) (Nat.le_of_ble_eq_true rfl) rfl ?_
  show zk_P Z mm_Mo_global 0 [some (.ref a), some (.int x)] [] (w, s, f) _
  refine zk_aload_0 1 dc_Mo_global_0 rfl rfl ?_
  refine zk_getfield 4 dc_Mo_global_1 fg_Mo_26 ha rfl rfl ?_
  refine zk_aload_0 5 dc_Mo_global_4 rfl rfl ?_
  refine zk_getfield 8 dc_Mo_global_5 fg_Mo_120 ha rfl rfl ?_
  refine zk_iload_1 9 dc_Mo_global_8 rfl rfl ?_
  refine zk_iastoreK 10 dc_Mo_global_9 c8 (vp_in_nI hc (by decide)) rfl (fun f1 c8 o1 => ?_)
  have ha := (o1 (a) (by omega) ).trans ha
  have c10 := (o1 (n + 10) (by omega) ).trans c10
  refine zk_aload_0 11 dc_Mo_global_10 rfl rfl ?_
  refine zk_getfield 14 dc_Mo_global_11 fg_Mo_32 ha rfl rfl ?_
  refine zk_aload_0 15 dc_Mo_global_14 rfl rfl ?_
  refine zk_getfield 18 dc_Mo_global_15 fg_Mo_120 ha rfl rfl ?_
  refine zk_iconst (v := -1) 19 dc_Mo_global_18 (by decide) rfl ?_
  refine zk_iastoreK 20 dc_Mo_global_19 c10 (vp_in_nI hc (by decide)) rfl (fun f2 c10 o2 => ?_)
  have ha := (o2 (a) (by omega) ).trans ha
  have c8 := (o2 (n + 8) (by omega) ).trans c8
  refine zk_aload_0 21 dc_Mo_global_20 rfl rfl ?_
  refine zk_dup 22 dc_Mo_global_21 rfl rfl ?_
  refine zk_getfield 25 dc_Mo_global_22 fg_Mo_120 ha rfl rfl ?_
  refine zk_dup_x1 26 dc_Mo_global_25 rfl rfl rfl ?_
  refine zk_iconst (v := 1) 27 dc_Mo_global_26 (by decide) rfl ?_
  refine zk_iadd 28 dc_Mo_global_27 rfl ?_
  refine zk_put 31 dc_Mo_global_28 fp_Mo_120 ha rfl rfl (Nat.le_of_ble_eq_true rfl) rfl (fun f3 ha o3 => ?_)
  have c8 := (o3 (n + 8) (by omega) ).trans c8
  have c10 := (o3 (n + 10) (by omega) ).trans c10
  have ha : f3 a = some (.inr (.inr (9, [.ref n, .ref (n + 5), .ref (n + 6), .ref (n + 7), .int 0, .int 0, .ref (n + 8), .ref (n + 9), .ref (n + 10), .ref (n + 11), .ref (n + 12), .ref (n + 13), .ref (n + 14), .ref (n + 15), .int (nI c + 1), .ref (n + 16), .ref (n + 17), .ref (n + 18), .ref (n + 19), .int 0, .int 0, .int 0, .int 0, .int 0, .int (-1), .ref (n + 20), .ref (n + 21), .ref (n + 22), .ref (n + 23), .int 0, .ref (n + 24), .ref (n + 25), .ref (n + 26), .int 0, .ref (n + 27), .ref (n + 28), .ref (n + 29), .ref (n + 30), .int 0, .ref (n + 31), .int 0, .ref (n + 32), .int 0, .int 0, .int 0, .int 0, .int 0, .int 0]))) := ha
  rw [nI_1] at ha
  exact zk_ireturn dc_Mo_global_31 rfl (by first | rfl | decide) ⟨_, rfl, rfl, _, _, _, rfl, ha, c8, c10, fun b q1 q2 q3 => by rw [o3 b (by omega), o2 b (by omega), o1 b (by omega)]⟩
set_option maxHeartbeats 4000000 in
set_option maxRecDepth 100000 in
theorem r_axiom {Z : zk_Z} {w s : Nat} {f : Nat → Option zk_E} {a n : Nat} (ha : f a = some (.inr (.inr (9, [.ref n, .ref (n + 5), .ref (n + 6), .ref (n + 7), .int 0, .int 0, .ref (n + 8), .ref (n + 9), .ref (n + 10), .ref (n + 11), .ref (n + 12), .ref (n + 13), .ref (n + 14), .ref (n + 15), .int 0, .ref (n + 16), .ref (n + 17), .ref (n + 18), .ref (n + 19), .int 0, .int 0, .int 0, .int 0, .int 0, .int (-1), .ref (n + 20), .ref (n + 21), .ref (n + 22), .ref (n + 23), .int 0, .ref (n + 24), .ref (n + 25), .ref (n + 26), .int 0, .ref (n + 27), .ref (n + 28), .ref (n + 29), .ref (n + 30), .int 0, .ref (n + 31), .int 0, .ref (n + 32), .int 0, .int 0, .int 0, .int 0, .int 0, .int 0])))) (c8 : f (n + 8) = some (.inl (60, fun _ => 0))) (c10 : f (n + 10) = some (.inl (60, fun _ => 0))) (hlt : a < n)  : zk_Kr Z mm_Mo_axiom [.ref a] (w, s, f) (fun v M' => v = .int (nI 0) ∧ ∃ g : Nat → Option zk_E, M' = (w, s, g)) := by
  refine zk_enterB (by decide) (Nat.le_of_ble_eq_true rfl) rfl ?_
  show zk_P Z mm_Mo_axiom 0 [some (.ref a)] [] (w, s, f) _
  refine zk_aload_0 1 dc_Mo_axiom_0 rfl rfl ?_
  refine zk_getfield 4 dc_Mo_axiom_1 fg_Mo_120 ha rfl rfl ?_
  refine zk_bipush (v := 60) 6 dc_Mo_axiom_4 (by decide) rfl ?_
  refine zk_icmp_ne 13 9 dc_Mo_axiom_6 (by decide) rfl (fun hx => ?_) (fun hx => by first | exact absurd hx (show ¬ (0 : Int32) = 60 by decide) | exact absurd (show ¬ (0 : Int32) = 60 by decide) hx)
  refine zk_aload_0 14 dc_Mo_axiom_13 rfl rfl ?_
  refine zk_iconst (v := 0) 15 dc_Mo_axiom_14 (by decide) rfl ?_
  refine zk_cVr 18 (m_global (c := 0) ha c8 c10 (by decide) hlt) dc_Mo_axiom_15 ok_Mo_global lk_Mo_157 ha rfl rfl rfl ⟨Nat.le_of_ble_eq_true rfl, Nat.le_of_ble_eq_true rfl⟩ (Nat.le_of_ble_eq_true rfl) rfl (fun v M1 hk => ?_)
  obtain ⟨rfl, g, g8, g10, rfl, -, -, -, -⟩ := hk
  exact zk_ireturn dc_Mo_axiom_18 rfl (by first | rfl | decide) ⟨_, rfl, rfl, _, rfl⟩
set_option maxHeartbeats 4000000 in
set_option maxRecDepth 100000 in
theorem m_famloop {Z : zk_Z} {w s a n k : Nat} {x1 x2 : Int32} {R : Option Value → zk_M → Prop} (hlt : a < n) (hk : k ≤ 5) (hR : ∀ g : Nat → Option zk_E, R (some (.int 0)) (w, s, g)) : ∀ (m j : Nat) (f : Nat → Option zk_E) (g8 g10 g12 : Nat → Int32), j + m = k + 1 → f a = some (.inr (.inr (9, [.ref n, .ref (n + 5), .ref (n + 6), .ref (n + 7), .int 0, .int 0, .ref (n + 8), .ref (n + 9), .ref (n + 10), .ref (n + 11), .ref (n + 12), .ref (n + 13), .ref (n + 14), .ref (n + 15), .int (nI j), .ref (n + 16), .ref (n + 17), .ref (n + 18), .ref (n + 19), .int 0, .int 0, .int 0, .int 0, .int 0, .int (-1), .ref (n + 20), .ref (n + 21), .ref (n + 22), .ref (n + 23), .int 0, .ref (n + 24), .ref (n + 25), .ref (n + 26), .int 0, .ref (n + 27), .ref (n + 28), .ref (n + 29), .ref (n + 30), .int 0, .ref (n + 31), .int 0, .ref (n + 32), .int 0, .int 0, .int 0, .int 0, .int 0, .int 0]))) → f (n + 8) = some (.inl (60, g8)) → f (n + 10) = some (.inl (60, g10)) → f (n + 12) = some (.inl (60, g12)) → f (n + 13) = some (.inl (60, fun _ => 0)) → f (n + 14) = some (.inl (60, fun _ => 0)) → f (n + 15) = some (.inl (60, fun _ => 0)) → zk_P Z mm_Mo_family 51 [some (.ref a), some (.int x1), some (.int x2), some (.int (nI k)), some (.int 0), some (.int (nI j))] [] (w, s, f) R := by
  intro m
  induction m with
  | zero =>
    intro j f g8 g10 g12 hj ha c8 c10 c12 c13 c14 c15
    have hj : j = k + 1 := by omega
    subst hj
    refine zk_iload 53 dc_Mo_family_51 rfl rfl ?_
    refine zk_iload_3 54 dc_Mo_family_53 rfl rfl ?_
    refine zk_icmp_gt 89 57 dc_Mo_family_54 (by decide) rfl (fun hx => ?_) (fun hx => by first | exact absurd hx (show nI k < nI (k + 1) from nI_lt (by omega) (by omega)) | exact absurd (show nI k < nI (k + 1) from nI_lt (by omega) (by omega)) hx)
    refine zk_aload_0 90 dc_Mo_family_89 rfl rfl ?_
    refine zk_getfield 93 dc_Mo_family_90 fg_Mo_41 ha rfl rfl ?_
    refine zk_iload 95 dc_Mo_family_93 rfl rfl ?_
    refine zk_iload_1 96 dc_Mo_family_95 rfl rfl ?_
    refine zk_iastoreK 97 dc_Mo_family_96 c13 (show vp_in (0 : Int32) 60 by unfold vp_in; decide) rfl (fun f1 c13 o1 => ?_)
    have ha := (o1 (a) (by omega) ).trans ha
    have c14 := (o1 (n + 14) (by omega) ).trans c14
    have c15 := (o1 (n + 15) (by omega) ).trans c15
    refine zk_aload_0 98 dc_Mo_family_97 rfl rfl ?_
    refine zk_getfield 101 dc_Mo_family_98 fg_Mo_44 ha rfl rfl ?_
    refine zk_iload 103 dc_Mo_family_101 rfl rfl ?_
    refine zk_iload_2 104 dc_Mo_family_103 rfl rfl ?_
    refine zk_iastoreK 105 dc_Mo_family_104 c14 (show vp_in (0 : Int32) 60 by unfold vp_in; decide) rfl (fun f2 c14 o2 => ?_)
    have ha := (o2 (a) (by omega) ).trans ha
    have c15 := (o2 (n + 15) (by omega) ).trans c15
    have c13 := (o2 (n + 13) (by omega) ).trans c13
    refine zk_aload_0 106 dc_Mo_family_105 rfl rfl ?_
    refine zk_getfield 109 dc_Mo_family_106 fg_Mo_47 ha rfl rfl ?_
    refine zk_iload 111 dc_Mo_family_109 rfl rfl ?_
    refine zk_iload_3 112 dc_Mo_family_111 rfl rfl ?_
    refine zk_iastoreK 113 dc_Mo_family_112 c15 (show vp_in (0 : Int32) 60 by unfold vp_in; decide) rfl (fun f3 c15 o3 => ?_)
    have ha := (o3 (a) (by omega) ).trans ha
    have c13 := (o3 (n + 13) (by omega) ).trans c13
    have c14 := (o3 (n + 14) (by omega) ).trans c14
    refine zk_iload 115 dc_Mo_family_113 rfl rfl ?_
    exact zk_ireturn dc_Mo_family_115 rfl rfl (hR _)
  | succ m ih =>
    intro j f g8 g10 g12 hj ha c8 c10 c12 c13 c14 c15
    refine zk_iload 53 dc_Mo_family_51 rfl rfl ?_
    refine zk_iload_3 54 dc_Mo_family_53 rfl rfl ?_
    refine zk_icmp_gt 89 57 dc_Mo_family_54 (by decide) rfl (fun hx => by first | exact absurd hx (show ¬ nI k < nI j from nI_nlt (by omega) (by omega)) | exact absurd (show ¬ nI k < nI j from nI_nlt (by omega) (by omega)) hx) (fun hx => ?_)
    refine zk_aload_0 58 dc_Mo_family_57 rfl rfl ?_
    refine zk_getfield 61 dc_Mo_family_58 fg_Mo_38 ha rfl rfl ?_
    refine zk_aload_0 62 dc_Mo_family_61 rfl rfl ?_
    refine zk_getfield 65 dc_Mo_family_62 fg_Mo_120 ha rfl rfl ?_
    refine zk_iload 67 dc_Mo_family_65 rfl rfl ?_
    refine zk_iastoreK 68 dc_Mo_family_67 c12 (vp_in_nI (by omega) (by decide)) rfl (fun f1 c12 o1 => ?_)
    have ha := (o1 (a) (by omega) ).trans ha
    have c8 := (o1 (n + 8) (by omega) ).trans c8
    have c10 := (o1 (n + 10) (by omega) ).trans c10
    have c13 := (o1 (n + 13) (by omega) ).trans c13
    have c14 := (o1 (n + 14) (by omega) ).trans c14
    have c15 := (o1 (n + 15) (by omega) ).trans c15
    refine zk_aload_0 69 dc_Mo_family_68 rfl rfl ?_
    refine zk_iload 71 dc_Mo_family_69 rfl rfl ?_
    refine zk_if_ne 78 74 dc_Mo_family_71 (by decide) rfl (fun hj0 => ?_) (fun hj0 => ?_)
    · refine zk_iconst (v := 3) 79 dc_Mo_family_78 (by decide) rfl ?_
      refine zk_cVr 82 (m_global (c := j) ha c8 c10 (by omega) hlt) dc_Mo_family_79 ok_Mo_global lk_Mo_157 ha rfl rfl rfl ⟨Nat.le_of_ble_eq_true rfl, Nat.le_of_ble_eq_true rfl⟩ (Nat.le_of_ble_eq_true rfl) rfl (fun v M1 hk => ?_)
      obtain ⟨rfl, g, g8, g10, rfl, ha, c8, c10, p⟩ := hk
      have c13 := (p (n + 13) (by omega) (by omega) (by omega) ).trans c13
      have c14 := (p (n + 14) (by omega) (by omega) (by omega) ).trans c14
      have c15 := (p (n + 15) (by omega) (by omega) (by omega) ).trans c15
      have c12 := (p (n + 12) (by omega) (by omega) (by omega) ).trans c12
      refine zk_pop 83 dc_Mo_family_82 rfl rfl ?_
      refine zk_iinc_5 (v := 1) 86 dc_Mo_family_83 (by decide) (Nat.le_of_ble_eq_true rfl) rfl ?_
      refine zk_goto 51 dc_Mo_family_86 (by decide) ?_
      rw [nI_1]
      exact ih (j + 1) g g8 g10 _ (by omega) ha c8 c10 c12 c13 c14 c15
    · refine zk_iconst (v := 2) 75 dc_Mo_family_74 (by decide) rfl ?_
      refine zk_goto 79 dc_Mo_family_75 (by decide) ?_
      refine zk_cVr 82 (m_global (c := j) ha c8 c10 (by omega) hlt) dc_Mo_family_79 ok_Mo_global lk_Mo_157 ha rfl rfl rfl ⟨Nat.le_of_ble_eq_true rfl, Nat.le_of_ble_eq_true rfl⟩ (Nat.le_of_ble_eq_true rfl) rfl (fun v M1 hk => ?_)
      obtain ⟨rfl, g, g8, g10, rfl, ha, c8, c10, p⟩ := hk
      have c13 := (p (n + 13) (by omega) (by omega) (by omega) ).trans c13
      have c14 := (p (n + 14) (by omega) (by omega) (by omega) ).trans c14
      have c15 := (p (n + 15) (by omega) (by omega) (by omega) ).trans c15
      have c12 := (p (n + 12) (by omega) (by omega) (by omega) ).trans c12
      refine zk_pop 83 dc_Mo_family_82 rfl rfl ?_
      refine zk_iinc_5 (v := 1) 86 dc_Mo_family_83 (by decide) (Nat.le_of_ble_eq_true rfl) rfl ?_
      refine zk_goto 51 dc_Mo_family_86 (by decide) ?_
      rw [nI_1]
      exact ih (j + 1) g g8 g10 _ (by omega) ha c8 c10 c12 c13 c14 c15
set_option maxHeartbeats 4000000 in
set_option maxRecDepth 100000 in
theorem r_family {Z : zk_Z} {w s : Nat} {f : Nat → Option zk_E} {a n : Nat} (ha : f a = some (.inr (.inr (9, [.ref n, .ref (n + 5), .ref (n + 6), .ref (n + 7), .int 0, .int 0, .ref (n + 8), .ref (n + 9), .ref (n + 10), .ref (n + 11), .ref (n + 12), .ref (n + 13), .ref (n + 14), .ref (n + 15), .int 0, .ref (n + 16), .ref (n + 17), .ref (n + 18), .ref (n + 19), .int 0, .int 0, .int 0, .int 0, .int 0, .int (-1), .ref (n + 20), .ref (n + 21), .ref (n + 22), .ref (n + 23), .int 0, .ref (n + 24), .ref (n + 25), .ref (n + 26), .int 0, .ref (n + 27), .ref (n + 28), .ref (n + 29), .ref (n + 30), .int 0, .ref (n + 31), .int 0, .ref (n + 32), .int 0, .int 0, .int 0, .int 0, .int 0, .int 0])))) (c8 : f (n + 8) = some (.inl (60, fun _ => 0))) (c10 : f (n + 10) = some (.inl (60, fun _ => 0))) (c12 : f (n + 12) = some (.inl (60, fun _ => 0))) (c13 : f (n + 13) = some (.inl (60, fun _ => 0))) (c14 : f (n + 14) = some (.inl (60, fun _ => 0))) (c15 : f (n + 15) = some (.inl (60, fun _ => 0))) (hlt : a < n) {x y z : Int32} : zk_Kr Z mm_Mo_family [.ref a, .int x, .int y, .int z] (w, s, f) (fun v M' => v = .int (p1_fam x y z) ∧ ∃ g : Nat → Option zk_E, M' = (w, s, g)) := by
  refine zk_enterB (by decide) (Nat.le_of_ble_eq_true rfl) rfl ?_
  show zk_P Z mm_Mo_family 0 [some (.ref a), some (.int x), some (.int y), some (.int z), none, none] [] (w, s, f) _
  refine zk_iload_1 1 dc_Mo_family_0 rfl rfl ?_
  refine zk_if_lt 40 4 dc_Mo_family_1 (by decide) rfl (fun h1 => ?_) (fun h1 => ?_)
  · refine zk_iconst (v := -1) 41 dc_Mo_family_40 (by decide) rfl ?_
    have hp : p1_fam x y z = -1 := by rw [p1_fam, if_neg (fun q => absurd h1 (Int32.not_lt.mpr q.1.1))]
    exact zk_ireturn dc_Mo_family_41 rfl (by first | rfl | decide) ⟨_, rfl, congrArg Value.int hp.symm, _, rfl⟩
  · refine zk_iload_1 5 dc_Mo_family_4 rfl rfl ?_
    refine zk_iconst (v := 4) 6 dc_Mo_family_5 (by decide) rfl ?_
    refine zk_icmp_gt 40 9 dc_Mo_family_6 (by decide) rfl (fun h2 => ?_) (fun h2 => ?_)
    · refine zk_iconst (v := -1) 41 dc_Mo_family_40 (by decide) rfl ?_
      have hp : p1_fam x y z = -1 := by rw [p1_fam, if_neg (fun q => absurd h2 (Int32.not_lt.mpr q.1.2))]
      exact zk_ireturn dc_Mo_family_41 rfl (by first | rfl | decide) ⟨_, rfl, congrArg Value.int hp.symm, _, rfl⟩
    · refine zk_iload_2 10 dc_Mo_family_9 rfl rfl ?_
      refine zk_if_lt 40 13 dc_Mo_family_10 (by decide) rfl (fun h3 => ?_) (fun h3 => ?_)
      · refine zk_iconst (v := -1) 41 dc_Mo_family_40 (by decide) rfl ?_
        have hp : p1_fam x y z = -1 := by rw [p1_fam, if_neg (fun q => absurd h3 (Int32.not_lt.mpr q.2.1.1))]
        exact zk_ireturn dc_Mo_family_41 rfl (by first | rfl | decide) ⟨_, rfl, congrArg Value.int hp.symm, _, rfl⟩
      · refine zk_iload_2 14 dc_Mo_family_13 rfl rfl ?_
        refine zk_iconst (v := 4) 15 dc_Mo_family_14 (by decide) rfl ?_
        refine zk_icmp_gt 40 18 dc_Mo_family_15 (by decide) rfl (fun h4 => ?_) (fun h4 => ?_)
        · refine zk_iconst (v := -1) 41 dc_Mo_family_40 (by decide) rfl ?_
          have hp : p1_fam x y z = -1 := by rw [p1_fam, if_neg (fun q => absurd h4 (Int32.not_lt.mpr q.2.1.2))]
          exact zk_ireturn dc_Mo_family_41 rfl (by first | rfl | decide) ⟨_, rfl, congrArg Value.int hp.symm, _, rfl⟩
        · refine zk_iload_3 19 dc_Mo_family_18 rfl rfl ?_
          refine zk_if_lt 40 22 dc_Mo_family_19 (by decide) rfl (fun h5 => ?_) (fun h5 => ?_)
          · refine zk_iconst (v := -1) 41 dc_Mo_family_40 (by decide) rfl ?_
            have hp : p1_fam x y z = -1 := by rw [p1_fam, if_neg (fun q => absurd h5 (Int32.not_lt.mpr q.2.2.1))]
            exact zk_ireturn dc_Mo_family_41 rfl (by first | rfl | decide) ⟨_, rfl, congrArg Value.int hp.symm, _, rfl⟩
          · refine zk_iload_3 23 dc_Mo_family_22 rfl rfl ?_
            refine zk_iconst (v := 5) 24 dc_Mo_family_23 (by decide) rfl ?_
            refine zk_icmp_gt 40 27 dc_Mo_family_24 (by decide) rfl (fun h6 => ?_) (fun h6 => ?_)
            · refine zk_iconst (v := -1) 41 dc_Mo_family_40 (by decide) rfl ?_
              have hp : p1_fam x y z = -1 := by rw [p1_fam, if_neg (fun q => absurd h6 (Int32.not_lt.mpr q.2.2.2))]
              exact zk_ireturn dc_Mo_family_41 rfl (by first | rfl | decide) ⟨_, rfl, congrArg Value.int hp.symm, _, rfl⟩
            · refine zk_aload_0 28 dc_Mo_family_27 rfl rfl ?_
              obtain ⟨k, hk5, rfl⟩ := nI_of2 (M := 5) (n := 5) rfl h5 (Int32.not_lt.mp h6)
              refine zk_getfield 31 dc_Mo_family_28 fg_Mo_120 ha rfl rfl ?_
              refine zk_iconst (v := 1) 32 dc_Mo_family_31 (by decide) rfl ?_
              refine zk_iadd 33 dc_Mo_family_32 rfl ?_
              refine zk_iload_3 34 dc_Mo_family_33 rfl rfl ?_
              refine zk_iadd 35 dc_Mo_family_34 rfl ?_
              refine zk_bipush (v := 60) 37 dc_Mo_family_35 (by decide) rfl ?_
              refine zk_icmp_le 42 40 dc_Mo_family_37 (by decide) rfl (fun hx => ?_) (fun hx => by first | exact absurd hx (show (0 : Int32) + 1 + nI k ≤ 60 by rcases (show k = 0 ∨ k = 1 ∨ k = 2 ∨ k = 3 ∨ k = 4 ∨ k = 5 by omega) with rfl | rfl | rfl | rfl | rfl | rfl <;> decide) | exact absurd (show (0 : Int32) + 1 + nI k ≤ 60 by rcases (show k = 0 ∨ k = 1 ∨ k = 2 ∨ k = 3 ∨ k = 4 ∨ k = 5 by omega) with rfl | rfl | rfl | rfl | rfl | rfl <;> decide) hx)
              refine zk_aload_0 43 dc_Mo_family_42 rfl rfl ?_
              refine zk_getfield 46 dc_Mo_family_43 fg_Mo_120 ha rfl rfl ?_
              refine zk_istore_4 48 dc_Mo_family_46 (Nat.le_of_ble_eq_true rfl) rfl ?_
              refine zk_iconst (v := 0) 49 dc_Mo_family_48 (by decide) rfl ?_
              refine zk_istore_5 51 dc_Mo_family_49 (Nat.le_of_ble_eq_true rfl) rfl ?_
              have hp : p1_fam x y (nI k) = 0 := by rw [p1_fam, if_pos ⟨⟨Int32.not_lt.mp h1, Int32.not_lt.mp h2⟩, ⟨Int32.not_lt.mp h3, Int32.not_lt.mp h4⟩, Int32.not_lt.mp h5, Int32.not_lt.mp h6⟩]
              exact m_famloop hlt hk5 (fun g => ⟨_, rfl, congrArg Value.int hp.symm, g, rfl⟩) (k + 1) 0 f _ _ _ (by omega) ha c8 c10 c12 c13 c14 c15
end
section
theorem dc_CmLaw_law_18 : decode code 18 = .ok (.iload_n 3, 1) := by decide +kernel
theorem dc_CmLaw_law_19 : decode code 19 = .ok (.aload_n 0, 1) := by decide +kernel
theorem dc_CmLaw_law_20 : decode code 20 = .ok (.arraylength, 1) := by decide +kernel
theorem dc_CmLaw_law_21 : decode code 21 = .ok (.iconst 5, 1) := by decide +kernel
theorem dc_CmLaw_law_22 : decode code 22 = .ok (.isub, 1) := by decide +kernel
theorem dc_CmLaw_law_23 : decode code 23 = .ok (.if_icmp .gt 529, 3) := by decide +kernel
theorem dc_CmLaw_law_26 : decode code 26 = .ok (.aload_n 0, 1) := by decide +kernel
theorem dc_CmLaw_law_27 : decode code 27 = .ok (.iload_n 3, 1) := by decide +kernel
theorem dc_CmLaw_law_28 : decode code 28 = .ok (.iaload, 1) := by decide +kernel
theorem dc_CmLaw_law_29 : decode code 29 = .ok (.bipush 15, 2) := by decide +kernel
theorem dc_CmLaw_law_31 : decode code 31 = .ok (.iand, 1) := by decide +kernel
theorem dc_CmLaw_law_32 : decode code 32 = .ok (.tableswitch 514 0 13 #[72, 115, 158, 211, 244, 257, 280, 323, 356, 389, 412, 445, 458, 471], 72) := by decide +kernel
theorem dc_CmLaw_law_104 : decode code 104 = .ok (.aload_n 1, 1) := by decide +kernel
theorem dc_CmLaw_law_105 : decode code 105 = .ok (.aload_n 0, 1) := by decide +kernel
theorem dc_CmLaw_law_106 : decode code 106 = .ok (.iload_n 3, 1) := by decide +kernel
theorem dc_CmLaw_law_107 : decode code 107 = .ok (.iconst 1, 1) := by decide +kernel
theorem dc_CmLaw_law_108 : decode code 108 = .ok (.iadd, 1) := by decide +kernel
theorem dc_CmLaw_law_109 : decode code 109 = .ok (.iaload, 1) := by decide +kernel
theorem dc_CmLaw_law_110 : decode code 110 = .ok (.aload_n 0, 1) := by decide +kernel
theorem dc_CmLaw_law_111 : decode code 111 = .ok (.iload_n 3, 1) := by decide +kernel
theorem dc_CmLaw_law_112 : decode code 112 = .ok (.iconst 2, 1) := by decide +kernel
theorem dc_CmLaw_law_113 : decode code 113 = .ok (.iadd, 1) := by decide +kernel
theorem dc_CmLaw_law_114 : decode code 114 = .ok (.iaload, 1) := by decide +kernel
theorem dc_CmLaw_law_115 : decode code 115 = .ok (.aload_n 0, 1) := by decide +kernel
theorem dc_CmLaw_law_116 : decode code 116 = .ok (.iload_n 3, 1) := by decide +kernel
theorem dc_CmLaw_law_117 : decode code 117 = .ok (.iconst 3, 1) := by decide +kernel
theorem dc_CmLaw_law_118 : decode code 118 = .ok (.iadd, 1) := by decide +kernel
theorem dc_CmLaw_law_119 : decode code 119 = .ok (.iaload, 1) := by decide +kernel
theorem dc_CmLaw_law_120 : decode code 120 = .ok (.invokevirtual 13, 3) := by decide +kernel
theorem lk_CmLaw_13 : zk_LV "ClosureMachineLaw" 13 mm_Cm_leaf := ⟨zk_in 188 (by decide +kernel) (by decide +kernel), zk_in 189 (by decide +kernel) (by decide +kernel), zk_in 190 (by decide +kernel) (by decide +kernel)⟩
theorem dc_CmLaw_law_123 : decode code 123 = .ok (.aload_n 2, 1) := by decide +kernel
theorem dc_CmLaw_law_124 : decode code 124 = .ok (.aload_n 0, 1) := by decide +kernel
theorem dc_CmLaw_law_125 : decode code 125 = .ok (.iload_n 3, 1) := by decide +kernel
theorem dc_CmLaw_law_126 : decode code 126 = .ok (.iconst 1, 1) := by decide +kernel
theorem dc_CmLaw_law_127 : decode code 127 = .ok (.iadd, 1) := by decide +kernel
theorem dc_CmLaw_law_128 : decode code 128 = .ok (.iaload, 1) := by decide +kernel
theorem dc_CmLaw_law_129 : decode code 129 = .ok (.aload_n 0, 1) := by decide +kernel
theorem dc_CmLaw_law_130 : decode code 130 = .ok (.iload_n 3, 1) := by decide +kernel
theorem dc_CmLaw_law_131 : decode code 131 = .ok (.iconst 2, 1) := by decide +kernel
theorem dc_CmLaw_law_132 : decode code 132 = .ok (.iadd, 1) := by decide +kernel
theorem dc_CmLaw_law_133 : decode code 133 = .ok (.iaload, 1) := by decide +kernel
theorem dc_CmLaw_law_134 : decode code 134 = .ok (.aload_n 0, 1) := by decide +kernel
theorem dc_CmLaw_law_135 : decode code 135 = .ok (.iload_n 3, 1) := by decide +kernel
theorem dc_CmLaw_law_136 : decode code 136 = .ok (.iconst 3, 1) := by decide +kernel
theorem dc_CmLaw_law_137 : decode code 137 = .ok (.iadd, 1) := by decide +kernel
theorem dc_CmLaw_law_138 : decode code 138 = .ok (.iaload, 1) := by decide +kernel
theorem dc_CmLaw_law_139 : decode code 139 = .ok (.invokevirtual 17, 3) := by decide +kernel
theorem lk_CmLaw_17 : zk_LV "ClosureMachineLaw" 17 mm_Mo_leaf := ⟨zk_in 835 (by decide +kernel) (by decide +kernel), zk_in 836 (by decide +kernel) (by decide +kernel), zk_in 837 (by decide +kernel) (by decide +kernel)⟩
theorem dc_CmLaw_law_142 : decode code 142 = .ok (.if_icmp .eq 404, 3) := by decide +kernel
theorem dc_CmLaw_law_546 : decode code 546 = .ok (.iinc 3 5, 3) := by decide +kernel
theorem dc_CmLaw_law_549 : decode code 549 = .ok (.goto (-531), 3) := by decide +kernel
theorem dc_CmLaw_law_552 : decode code 552 = .ok (.iconst 1, 1) := by decide +kernel
theorem dc_CmLaw_law_553 : decode code 553 = .ok (.ireturn, 1) := by decide +kernel
theorem dc_CmLaw_law_147 : decode code 147 = .ok (.aload_n 1, 1) := by decide +kernel
theorem dc_CmLaw_law_148 : decode code 148 = .ok (.aload_n 0, 1) := by decide +kernel
theorem dc_CmLaw_law_149 : decode code 149 = .ok (.iload_n 3, 1) := by decide +kernel
theorem dc_CmLaw_law_150 : decode code 150 = .ok (.iconst 1, 1) := by decide +kernel
theorem dc_CmLaw_law_151 : decode code 151 = .ok (.iadd, 1) := by decide +kernel
theorem dc_CmLaw_law_152 : decode code 152 = .ok (.iaload, 1) := by decide +kernel
theorem dc_CmLaw_law_153 : decode code 153 = .ok (.aload_n 0, 1) := by decide +kernel
theorem dc_CmLaw_law_154 : decode code 154 = .ok (.iload_n 3, 1) := by decide +kernel
theorem dc_CmLaw_law_155 : decode code 155 = .ok (.iconst 2, 1) := by decide +kernel
theorem dc_CmLaw_law_156 : decode code 156 = .ok (.iadd, 1) := by decide +kernel
theorem dc_CmLaw_law_157 : decode code 157 = .ok (.iaload, 1) := by decide +kernel
theorem dc_CmLaw_law_158 : decode code 158 = .ok (.aload_n 0, 1) := by decide +kernel
theorem dc_CmLaw_law_159 : decode code 159 = .ok (.iload_n 3, 1) := by decide +kernel
theorem dc_CmLaw_law_160 : decode code 160 = .ok (.iconst 3, 1) := by decide +kernel
theorem dc_CmLaw_law_161 : decode code 161 = .ok (.iadd, 1) := by decide +kernel
theorem dc_CmLaw_law_162 : decode code 162 = .ok (.iaload, 1) := by decide +kernel
theorem dc_CmLaw_law_163 : decode code 163 = .ok (.invokevirtual 18, 3) := by decide +kernel
theorem lk_CmLaw_18 : zk_LV "ClosureMachineLaw" 18 mm_Cm_join := ⟨zk_in 244 (by decide +kernel) (by decide +kernel), zk_in 245 (by decide +kernel) (by decide +kernel), zk_in 246 (by decide +kernel) (by decide +kernel)⟩
theorem dc_CmLaw_law_166 : decode code 166 = .ok (.aload_n 2, 1) := by decide +kernel
theorem dc_CmLaw_law_167 : decode code 167 = .ok (.aload_n 0, 1) := by decide +kernel
theorem dc_CmLaw_law_168 : decode code 168 = .ok (.iload_n 3, 1) := by decide +kernel
theorem dc_CmLaw_law_169 : decode code 169 = .ok (.iconst 1, 1) := by decide +kernel
theorem dc_CmLaw_law_170 : decode code 170 = .ok (.iadd, 1) := by decide +kernel
theorem dc_CmLaw_law_171 : decode code 171 = .ok (.iaload, 1) := by decide +kernel
theorem dc_CmLaw_law_172 : decode code 172 = .ok (.aload_n 0, 1) := by decide +kernel
theorem dc_CmLaw_law_173 : decode code 173 = .ok (.iload_n 3, 1) := by decide +kernel
theorem dc_CmLaw_law_174 : decode code 174 = .ok (.iconst 2, 1) := by decide +kernel
theorem dc_CmLaw_law_175 : decode code 175 = .ok (.iadd, 1) := by decide +kernel
theorem dc_CmLaw_law_176 : decode code 176 = .ok (.iaload, 1) := by decide +kernel
theorem dc_CmLaw_law_177 : decode code 177 = .ok (.aload_n 0, 1) := by decide +kernel
theorem dc_CmLaw_law_178 : decode code 178 = .ok (.iload_n 3, 1) := by decide +kernel
theorem dc_CmLaw_law_179 : decode code 179 = .ok (.iconst 3, 1) := by decide +kernel
theorem dc_CmLaw_law_180 : decode code 180 = .ok (.iadd, 1) := by decide +kernel
theorem dc_CmLaw_law_181 : decode code 181 = .ok (.iaload, 1) := by decide +kernel
theorem dc_CmLaw_law_182 : decode code 182 = .ok (.invokevirtual 21, 3) := by decide +kernel
theorem lk_CmLaw_21 : zk_LV "ClosureMachineLaw" 21 mm_Mo_join := ⟨zk_in 851 (by decide +kernel) (by decide +kernel), zk_in 852 (by decide +kernel) (by decide +kernel), zk_in 853 (by decide +kernel) (by decide +kernel)⟩
theorem dc_CmLaw_law_185 : decode code 185 = .ok (.if_icmp .eq 361, 3) := by decide +kernel
theorem dc_CmLaw_law_190 : decode code 190 = .ok (.aload_n 1, 1) := by decide +kernel
theorem dc_CmLaw_law_191 : decode code 191 = .ok (.aload_n 0, 1) := by decide +kernel
theorem dc_CmLaw_law_192 : decode code 192 = .ok (.iload_n 3, 1) := by decide +kernel
theorem dc_CmLaw_law_193 : decode code 193 = .ok (.iconst 1, 1) := by decide +kernel
theorem dc_CmLaw_law_194 : decode code 194 = .ok (.iadd, 1) := by decide +kernel
theorem dc_CmLaw_law_195 : decode code 195 = .ok (.iaload, 1) := by decide +kernel
theorem dc_CmLaw_law_196 : decode code 196 = .ok (.aload_n 0, 1) := by decide +kernel
theorem dc_CmLaw_law_197 : decode code 197 = .ok (.iload_n 3, 1) := by decide +kernel
theorem dc_CmLaw_law_198 : decode code 198 = .ok (.iconst 2, 1) := by decide +kernel
theorem dc_CmLaw_law_199 : decode code 199 = .ok (.iadd, 1) := by decide +kernel
theorem dc_CmLaw_law_200 : decode code 200 = .ok (.iaload, 1) := by decide +kernel
theorem dc_CmLaw_law_201 : decode code 201 = .ok (.aload_n 0, 1) := by decide +kernel
theorem dc_CmLaw_law_202 : decode code 202 = .ok (.iload_n 3, 1) := by decide +kernel
theorem dc_CmLaw_law_203 : decode code 203 = .ok (.iconst 3, 1) := by decide +kernel
theorem dc_CmLaw_law_204 : decode code 204 = .ok (.iadd, 1) := by decide +kernel
theorem dc_CmLaw_law_205 : decode code 205 = .ok (.iaload, 1) := by decide +kernel
theorem dc_CmLaw_law_206 : decode code 206 = .ok (.aload_n 0, 1) := by decide +kernel
theorem dc_CmLaw_law_207 : decode code 207 = .ok (.iload_n 3, 1) := by decide +kernel
theorem dc_CmLaw_law_208 : decode code 208 = .ok (.iconst 4, 1) := by decide +kernel
theorem dc_CmLaw_law_209 : decode code 209 = .ok (.iadd, 1) := by decide +kernel
theorem dc_CmLaw_law_210 : decode code 210 = .ok (.iaload, 1) := by decide +kernel
theorem dc_CmLaw_law_211 : decode code 211 = .ok (.invokevirtual 22, 3) := by decide +kernel
theorem lk_CmLaw_22 : zk_LV "ClosureMachineLaw" 22 mm_Cm_binder := ⟨zk_in 279 (by decide +kernel) (by decide +kernel), zk_in 280 (by decide +kernel) (by decide +kernel), zk_in 281 (by decide +kernel) (by decide +kernel)⟩
theorem dc_CmLaw_law_214 : decode code 214 = .ok (.aload_n 2, 1) := by decide +kernel
theorem dc_CmLaw_law_215 : decode code 215 = .ok (.aload_n 0, 1) := by decide +kernel
theorem dc_CmLaw_law_216 : decode code 216 = .ok (.iload_n 3, 1) := by decide +kernel
theorem dc_CmLaw_law_217 : decode code 217 = .ok (.iconst 1, 1) := by decide +kernel
theorem dc_CmLaw_law_218 : decode code 218 = .ok (.iadd, 1) := by decide +kernel
theorem dc_CmLaw_law_219 : decode code 219 = .ok (.iaload, 1) := by decide +kernel
theorem dc_CmLaw_law_220 : decode code 220 = .ok (.aload_n 0, 1) := by decide +kernel
theorem dc_CmLaw_law_221 : decode code 221 = .ok (.iload_n 3, 1) := by decide +kernel
theorem dc_CmLaw_law_222 : decode code 222 = .ok (.iconst 2, 1) := by decide +kernel
theorem dc_CmLaw_law_223 : decode code 223 = .ok (.iadd, 1) := by decide +kernel
theorem dc_CmLaw_law_224 : decode code 224 = .ok (.iaload, 1) := by decide +kernel
theorem dc_CmLaw_law_225 : decode code 225 = .ok (.aload_n 0, 1) := by decide +kernel
theorem dc_CmLaw_law_226 : decode code 226 = .ok (.iload_n 3, 1) := by decide +kernel
theorem dc_CmLaw_law_227 : decode code 227 = .ok (.iconst 3, 1) := by decide +kernel
theorem dc_CmLaw_law_228 : decode code 228 = .ok (.iadd, 1) := by decide +kernel
theorem dc_CmLaw_law_229 : decode code 229 = .ok (.iaload, 1) := by decide +kernel
theorem dc_CmLaw_law_230 : decode code 230 = .ok (.aload_n 0, 1) := by decide +kernel
theorem dc_CmLaw_law_231 : decode code 231 = .ok (.iload_n 3, 1) := by decide +kernel
theorem dc_CmLaw_law_232 : decode code 232 = .ok (.iconst 4, 1) := by decide +kernel
theorem dc_CmLaw_law_233 : decode code 233 = .ok (.iadd, 1) := by decide +kernel
theorem dc_CmLaw_law_234 : decode code 234 = .ok (.iaload, 1) := by decide +kernel
theorem dc_CmLaw_law_235 : decode code 235 = .ok (.invokevirtual 26, 3) := by decide +kernel
theorem lk_CmLaw_26 : zk_LV "ClosureMachineLaw" 26 mm_Mo_binder := ⟨zk_in 869 (by decide +kernel) (by decide +kernel), zk_in 870 (by decide +kernel) (by decide +kernel), zk_in 871 (by decide +kernel) (by decide +kernel)⟩
theorem dc_CmLaw_law_238 : decode code 238 = .ok (.if_icmp .eq 308, 3) := by decide +kernel
theorem dc_CmLaw_law_243 : decode code 243 = .ok (.aload_n 1, 1) := by decide +kernel
theorem dc_CmLaw_law_244 : decode code 244 = .ok (.aload_n 0, 1) := by decide +kernel
theorem dc_CmLaw_law_245 : decode code 245 = .ok (.iload_n 3, 1) := by decide +kernel
theorem dc_CmLaw_law_246 : decode code 246 = .ok (.iconst 1, 1) := by decide +kernel
theorem dc_CmLaw_law_247 : decode code 247 = .ok (.iadd, 1) := by decide +kernel
theorem dc_CmLaw_law_248 : decode code 248 = .ok (.iaload, 1) := by decide +kernel
theorem dc_CmLaw_law_249 : decode code 249 = .ok (.aload_n 0, 1) := by decide +kernel
theorem dc_CmLaw_law_250 : decode code 250 = .ok (.iload_n 3, 1) := by decide +kernel
theorem dc_CmLaw_law_251 : decode code 251 = .ok (.iconst 2, 1) := by decide +kernel
theorem dc_CmLaw_law_252 : decode code 252 = .ok (.iadd, 1) := by decide +kernel
theorem dc_CmLaw_law_253 : decode code 253 = .ok (.iaload, 1) := by decide +kernel
theorem dc_CmLaw_law_254 : decode code 254 = .ok (.invokevirtual 27, 3) := by decide +kernel
theorem lk_CmLaw_27 : zk_LV "ClosureMachineLaw" 27 mm_Cm_lift := ⟨zk_in 283 (by decide +kernel) (by decide +kernel), zk_in 284 (by decide +kernel) (by decide +kernel), zk_in 285 (by decide +kernel) (by decide +kernel)⟩
theorem dc_CmLaw_law_257 : decode code 257 = .ok (.aload_n 2, 1) := by decide +kernel
theorem dc_CmLaw_law_258 : decode code 258 = .ok (.aload_n 0, 1) := by decide +kernel
theorem dc_CmLaw_law_259 : decode code 259 = .ok (.iload_n 3, 1) := by decide +kernel
theorem dc_CmLaw_law_260 : decode code 260 = .ok (.iconst 1, 1) := by decide +kernel
theorem dc_CmLaw_law_261 : decode code 261 = .ok (.iadd, 1) := by decide +kernel
theorem dc_CmLaw_law_262 : decode code 262 = .ok (.iaload, 1) := by decide +kernel
theorem dc_CmLaw_law_263 : decode code 263 = .ok (.aload_n 0, 1) := by decide +kernel
theorem dc_CmLaw_law_264 : decode code 264 = .ok (.iload_n 3, 1) := by decide +kernel
theorem dc_CmLaw_law_265 : decode code 265 = .ok (.iconst 2, 1) := by decide +kernel
theorem dc_CmLaw_law_266 : decode code 266 = .ok (.iadd, 1) := by decide +kernel
theorem dc_CmLaw_law_267 : decode code 267 = .ok (.iaload, 1) := by decide +kernel
theorem dc_CmLaw_law_268 : decode code 268 = .ok (.invokevirtual 31, 3) := by decide +kernel
theorem lk_CmLaw_31 : zk_LV "ClosureMachineLaw" 31 mm_Mo_lift := ⟨zk_in 873 (by decide +kernel) (by decide +kernel), zk_in 874 (by decide +kernel) (by decide +kernel), zk_in 875 (by decide +kernel) (by decide +kernel)⟩
theorem dc_CmLaw_law_271 : decode code 271 = .ok (.if_icmp .eq 275, 3) := by decide +kernel
theorem dc_CmLaw_law_276 : decode code 276 = .ok (.aload_n 1, 1) := by decide +kernel
theorem dc_CmLaw_law_277 : decode code 277 = .ok (.invokevirtual 32, 3) := by decide +kernel
theorem lk_CmLaw_32 : zk_LV "ClosureMachineLaw" 32 mm_Cm_axiom := ⟨zk_in 303 (by decide +kernel) (by decide +kernel), zk_in 304 (by decide +kernel) (by decide +kernel), zk_in 305 (by decide +kernel) (by decide +kernel)⟩
theorem dc_CmLaw_law_280 : decode code 280 = .ok (.aload_n 2, 1) := by decide +kernel
theorem dc_CmLaw_law_281 : decode code 281 = .ok (.invokevirtual 36, 3) := by decide +kernel
theorem lk_CmLaw_36 : zk_LV "ClosureMachineLaw" 36 mm_Mo_axiom := ⟨zk_in 885 (by decide +kernel) (by decide +kernel), zk_in 886 (by decide +kernel) (by decide +kernel), zk_in 887 (by decide +kernel) (by decide +kernel)⟩
theorem dc_CmLaw_law_284 : decode code 284 = .ok (.if_icmp .eq 262, 3) := by decide +kernel
theorem dc_CmLaw_law_289 : decode code 289 = .ok (.aload_n 1, 1) := by decide +kernel
theorem dc_CmLaw_law_290 : decode code 290 = .ok (.aload_n 0, 1) := by decide +kernel
theorem dc_CmLaw_law_291 : decode code 291 = .ok (.iload_n 3, 1) := by decide +kernel
theorem dc_CmLaw_law_292 : decode code 292 = .ok (.iconst 1, 1) := by decide +kernel
theorem dc_CmLaw_law_293 : decode code 293 = .ok (.iadd, 1) := by decide +kernel
theorem dc_CmLaw_law_294 : decode code 294 = .ok (.iaload, 1) := by decide +kernel
theorem dc_CmLaw_law_295 : decode code 295 = .ok (.invokevirtual 37, 3) := by decide +kernel
theorem lk_CmLaw_37 : zk_LV "ClosureMachineLaw" 37 mm_Cm_def := ⟨zk_in 368 (by decide +kernel) (by decide +kernel), zk_in 369 (by decide +kernel) (by decide +kernel), zk_in 370 (by decide +kernel) (by decide +kernel)⟩
theorem dc_CmLaw_law_298 : decode code 298 = .ok (.aload_n 2, 1) := by decide +kernel
theorem dc_CmLaw_law_299 : decode code 299 = .ok (.aload_n 0, 1) := by decide +kernel
theorem dc_CmLaw_law_300 : decode code 300 = .ok (.iload_n 3, 1) := by decide +kernel
theorem dc_CmLaw_law_301 : decode code 301 = .ok (.iconst 1, 1) := by decide +kernel
theorem dc_CmLaw_law_302 : decode code 302 = .ok (.iadd, 1) := by decide +kernel
theorem dc_CmLaw_law_303 : decode code 303 = .ok (.iaload, 1) := by decide +kernel
theorem dc_CmLaw_law_304 : decode code 304 = .ok (.invokevirtual 41, 3) := by decide +kernel
theorem lk_CmLaw_41 : zk_LV "ClosureMachineLaw" 41 mm_Mo_def := ⟨zk_in 893 (by decide +kernel) (by decide +kernel), zk_in 894 (by decide +kernel) (by decide +kernel), zk_in 895 (by decide +kernel) (by decide +kernel)⟩
theorem dc_CmLaw_law_307 : decode code 307 = .ok (.if_icmp .eq 239, 3) := by decide +kernel
theorem dc_CmLaw_law_312 : decode code 312 = .ok (.aload_n 1, 1) := by decide +kernel
theorem dc_CmLaw_law_313 : decode code 313 = .ok (.aload_n 0, 1) := by decide +kernel
theorem dc_CmLaw_law_314 : decode code 314 = .ok (.iload_n 3, 1) := by decide +kernel
theorem dc_CmLaw_law_315 : decode code 315 = .ok (.iconst 1, 1) := by decide +kernel
theorem dc_CmLaw_law_316 : decode code 316 = .ok (.iadd, 1) := by decide +kernel
theorem dc_CmLaw_law_317 : decode code 317 = .ok (.iaload, 1) := by decide +kernel
theorem dc_CmLaw_law_318 : decode code 318 = .ok (.aload_n 0, 1) := by decide +kernel
theorem dc_CmLaw_law_319 : decode code 319 = .ok (.iload_n 3, 1) := by decide +kernel
theorem dc_CmLaw_law_320 : decode code 320 = .ok (.iconst 2, 1) := by decide +kernel
theorem dc_CmLaw_law_321 : decode code 321 = .ok (.iadd, 1) := by decide +kernel
theorem dc_CmLaw_law_322 : decode code 322 = .ok (.iaload, 1) := by decide +kernel
theorem dc_CmLaw_law_323 : decode code 323 = .ok (.aload_n 0, 1) := by decide +kernel
theorem dc_CmLaw_law_324 : decode code 324 = .ok (.iload_n 3, 1) := by decide +kernel
theorem dc_CmLaw_law_325 : decode code 325 = .ok (.iconst 3, 1) := by decide +kernel
theorem dc_CmLaw_law_326 : decode code 326 = .ok (.iadd, 1) := by decide +kernel
theorem dc_CmLaw_law_327 : decode code 327 = .ok (.iaload, 1) := by decide +kernel
theorem dc_CmLaw_law_328 : decode code 328 = .ok (.invokevirtual 42, 3) := by decide +kernel
theorem lk_CmLaw_42 : zk_LV "ClosureMachineLaw" 42 mm_Cm_family := ⟨zk_in 374 (by decide +kernel) (by decide +kernel), zk_in 375 (by decide +kernel) (by decide +kernel), zk_in 376 (by decide +kernel) (by decide +kernel)⟩
theorem dc_CmLaw_law_331 : decode code 331 = .ok (.aload_n 2, 1) := by decide +kernel
theorem dc_CmLaw_law_332 : decode code 332 = .ok (.aload_n 0, 1) := by decide +kernel
theorem dc_CmLaw_law_333 : decode code 333 = .ok (.iload_n 3, 1) := by decide +kernel
theorem dc_CmLaw_law_334 : decode code 334 = .ok (.iconst 1, 1) := by decide +kernel
theorem dc_CmLaw_law_335 : decode code 335 = .ok (.iadd, 1) := by decide +kernel
theorem dc_CmLaw_law_336 : decode code 336 = .ok (.iaload, 1) := by decide +kernel
theorem dc_CmLaw_law_337 : decode code 337 = .ok (.aload_n 0, 1) := by decide +kernel
theorem dc_CmLaw_law_338 : decode code 338 = .ok (.iload_n 3, 1) := by decide +kernel
theorem dc_CmLaw_law_339 : decode code 339 = .ok (.iconst 2, 1) := by decide +kernel
theorem dc_CmLaw_law_340 : decode code 340 = .ok (.iadd, 1) := by decide +kernel
theorem dc_CmLaw_law_341 : decode code 341 = .ok (.iaload, 1) := by decide +kernel
theorem dc_CmLaw_law_342 : decode code 342 = .ok (.aload_n 0, 1) := by decide +kernel
theorem dc_CmLaw_law_343 : decode code 343 = .ok (.iload_n 3, 1) := by decide +kernel
theorem dc_CmLaw_law_344 : decode code 344 = .ok (.iconst 3, 1) := by decide +kernel
theorem dc_CmLaw_law_345 : decode code 345 = .ok (.iadd, 1) := by decide +kernel
theorem dc_CmLaw_law_346 : decode code 346 = .ok (.iaload, 1) := by decide +kernel
theorem dc_CmLaw_law_347 : decode code 347 = .ok (.invokevirtual 45, 3) := by decide +kernel
theorem lk_CmLaw_45 : zk_LV "ClosureMachineLaw" 45 mm_Mo_family := ⟨zk_in 897 (by decide +kernel) (by decide +kernel), zk_in 898 (by decide +kernel) (by decide +kernel), zk_in 899 (by decide +kernel) (by decide +kernel)⟩
theorem dc_CmLaw_law_350 : decode code 350 = .ok (.if_icmp .eq 196, 3) := by decide +kernel
theorem dc_CmLaw_law_355 : decode code 355 = .ok (.aload_n 1, 1) := by decide +kernel
theorem dc_CmLaw_law_356 : decode code 356 = .ok (.aload_n 0, 1) := by decide +kernel
theorem dc_CmLaw_law_357 : decode code 357 = .ok (.iload_n 3, 1) := by decide +kernel
theorem dc_CmLaw_law_358 : decode code 358 = .ok (.iconst 1, 1) := by decide +kernel
theorem dc_CmLaw_law_359 : decode code 359 = .ok (.iadd, 1) := by decide +kernel
theorem dc_CmLaw_law_360 : decode code 360 = .ok (.iaload, 1) := by decide +kernel
theorem dc_CmLaw_law_361 : decode code 361 = .ok (.aload_n 0, 1) := by decide +kernel
theorem dc_CmLaw_law_362 : decode code 362 = .ok (.iload_n 3, 1) := by decide +kernel
theorem dc_CmLaw_law_363 : decode code 363 = .ok (.iconst 2, 1) := by decide +kernel
theorem dc_CmLaw_law_364 : decode code 364 = .ok (.iadd, 1) := by decide +kernel
theorem dc_CmLaw_law_365 : decode code 365 = .ok (.iaload, 1) := by decide +kernel
theorem dc_CmLaw_law_366 : decode code 366 = .ok (.invokevirtual 46, 3) := by decide +kernel
theorem lk_CmLaw_46 : zk_LV "ClosureMachineLaw" 46 mm_Cm_constructor := ⟨zk_in 384 (by decide +kernel) (by decide +kernel), zk_in 385 (by decide +kernel) (by decide +kernel), zk_in 386 (by decide +kernel) (by decide +kernel)⟩
theorem dc_CmLaw_law_369 : decode code 369 = .ok (.aload_n 2, 1) := by decide +kernel
theorem dc_CmLaw_law_370 : decode code 370 = .ok (.aload_n 0, 1) := by decide +kernel
theorem dc_CmLaw_law_371 : decode code 371 = .ok (.iload_n 3, 1) := by decide +kernel
theorem dc_CmLaw_law_372 : decode code 372 = .ok (.iconst 1, 1) := by decide +kernel
theorem dc_CmLaw_law_373 : decode code 373 = .ok (.iadd, 1) := by decide +kernel
theorem dc_CmLaw_law_374 : decode code 374 = .ok (.iaload, 1) := by decide +kernel
theorem dc_CmLaw_law_375 : decode code 375 = .ok (.aload_n 0, 1) := by decide +kernel
theorem dc_CmLaw_law_376 : decode code 376 = .ok (.iload_n 3, 1) := by decide +kernel
theorem dc_CmLaw_law_377 : decode code 377 = .ok (.iconst 2, 1) := by decide +kernel
theorem dc_CmLaw_law_378 : decode code 378 = .ok (.iadd, 1) := by decide +kernel
theorem dc_CmLaw_law_379 : decode code 379 = .ok (.iaload, 1) := by decide +kernel
theorem dc_CmLaw_law_380 : decode code 380 = .ok (.invokevirtual 49, 3) := by decide +kernel
theorem lk_CmLaw_49 : zk_LV "ClosureMachineLaw" 49 mm_Mo_constructor := ⟨zk_in 901 (by decide +kernel) (by decide +kernel), zk_in 902 (by decide +kernel) (by decide +kernel), zk_in 903 (by decide +kernel) (by decide +kernel)⟩
theorem dc_CmLaw_law_383 : decode code 383 = .ok (.if_icmp .eq 163, 3) := by decide +kernel
theorem dc_CmLaw_law_388 : decode code 388 = .ok (.aload_n 1, 1) := by decide +kernel
theorem dc_CmLaw_law_389 : decode code 389 = .ok (.aload_n 0, 1) := by decide +kernel
theorem dc_CmLaw_law_390 : decode code 390 = .ok (.iload_n 3, 1) := by decide +kernel
theorem dc_CmLaw_law_391 : decode code 391 = .ok (.iconst 1, 1) := by decide +kernel
theorem dc_CmLaw_law_392 : decode code 392 = .ok (.iadd, 1) := by decide +kernel
theorem dc_CmLaw_law_393 : decode code 393 = .ok (.iaload, 1) := by decide +kernel
theorem dc_CmLaw_law_394 : decode code 394 = .ok (.aload_n 0, 1) := by decide +kernel
theorem dc_CmLaw_law_395 : decode code 395 = .ok (.iload_n 3, 1) := by decide +kernel
theorem dc_CmLaw_law_396 : decode code 396 = .ok (.iconst 2, 1) := by decide +kernel
theorem dc_CmLaw_law_397 : decode code 397 = .ok (.iadd, 1) := by decide +kernel
theorem dc_CmLaw_law_398 : decode code 398 = .ok (.iaload, 1) := by decide +kernel
theorem dc_CmLaw_law_399 : decode code 399 = .ok (.invokevirtual 50, 3) := by decide +kernel
theorem lk_CmLaw_50 : zk_LV "ClosureMachineLaw" 50 mm_Cm_head := ⟨zk_in 419 (by decide +kernel) (by decide +kernel), zk_in 420 (by decide +kernel) (by decide +kernel), zk_in 421 (by decide +kernel) (by decide +kernel)⟩
theorem dc_CmLaw_law_402 : decode code 402 = .ok (.aload_n 2, 1) := by decide +kernel
theorem dc_CmLaw_law_403 : decode code 403 = .ok (.aload_n 0, 1) := by decide +kernel
theorem dc_CmLaw_law_404 : decode code 404 = .ok (.iload_n 3, 1) := by decide +kernel
theorem dc_CmLaw_law_405 : decode code 405 = .ok (.iconst 1, 1) := by decide +kernel
theorem dc_CmLaw_law_406 : decode code 406 = .ok (.iadd, 1) := by decide +kernel
theorem dc_CmLaw_law_407 : decode code 407 = .ok (.iaload, 1) := by decide +kernel
theorem dc_CmLaw_law_408 : decode code 408 = .ok (.aload_n 0, 1) := by decide +kernel
theorem dc_CmLaw_law_409 : decode code 409 = .ok (.iload_n 3, 1) := by decide +kernel
theorem dc_CmLaw_law_410 : decode code 410 = .ok (.iconst 2, 1) := by decide +kernel
theorem dc_CmLaw_law_411 : decode code 411 = .ok (.iadd, 1) := by decide +kernel
theorem dc_CmLaw_law_412 : decode code 412 = .ok (.iaload, 1) := by decide +kernel
theorem dc_CmLaw_law_413 : decode code 413 = .ok (.invokevirtual 53, 3) := by decide +kernel
theorem lk_CmLaw_53 : zk_LV "ClosureMachineLaw" 53 mm_Mo_head := ⟨zk_in 921 (by decide +kernel) (by decide +kernel), zk_in 922 (by decide +kernel) (by decide +kernel), zk_in 923 (by decide +kernel) (by decide +kernel)⟩
theorem dc_CmLaw_law_416 : decode code 416 = .ok (.if_icmp .eq 130, 3) := by decide +kernel
theorem dc_CmLaw_law_421 : decode code 421 = .ok (.aload_n 1, 1) := by decide +kernel
theorem dc_CmLaw_law_422 : decode code 422 = .ok (.aload_n 0, 1) := by decide +kernel
theorem dc_CmLaw_law_423 : decode code 423 = .ok (.iload_n 3, 1) := by decide +kernel
theorem dc_CmLaw_law_424 : decode code 424 = .ok (.iconst 1, 1) := by decide +kernel
theorem dc_CmLaw_law_425 : decode code 425 = .ok (.iadd, 1) := by decide +kernel
theorem dc_CmLaw_law_426 : decode code 426 = .ok (.iaload, 1) := by decide +kernel
theorem dc_CmLaw_law_427 : decode code 427 = .ok (.invokevirtual 54, 3) := by decide +kernel
theorem lk_CmLaw_54 : zk_LV "ClosureMachineLaw" 54 mm_Cm_found := ⟨zk_in 567 (by decide +kernel) (by decide +kernel), zk_in 568 (by decide +kernel) (by decide +kernel), zk_in 569 (by decide +kernel) (by decide +kernel)⟩
theorem dc_CmLaw_law_430 : decode code 430 = .ok (.aload_n 2, 1) := by decide +kernel
theorem dc_CmLaw_law_431 : decode code 431 = .ok (.aload_n 0, 1) := by decide +kernel
theorem dc_CmLaw_law_432 : decode code 432 = .ok (.iload_n 3, 1) := by decide +kernel
theorem dc_CmLaw_law_433 : decode code 433 = .ok (.iconst 1, 1) := by decide +kernel
theorem dc_CmLaw_law_434 : decode code 434 = .ok (.iadd, 1) := by decide +kernel
theorem dc_CmLaw_law_435 : decode code 435 = .ok (.iaload, 1) := by decide +kernel
theorem dc_CmLaw_law_436 : decode code 436 = .ok (.invokevirtual 57, 3) := by decide +kernel
theorem lk_CmLaw_57 : zk_LV "ClosureMachineLaw" 57 mm_Mo_found := ⟨zk_in 1011 (by decide +kernel) (by decide +kernel), zk_in 1012 (by decide +kernel) (by decide +kernel), zk_in 1013 (by decide +kernel) (by decide +kernel)⟩
theorem dc_CmLaw_law_439 : decode code 439 = .ok (.if_icmp .eq 107, 3) := by decide +kernel
theorem dc_CmLaw_law_444 : decode code 444 = .ok (.aload_n 1, 1) := by decide +kernel
theorem dc_CmLaw_law_445 : decode code 445 = .ok (.aload_n 0, 1) := by decide +kernel
theorem dc_CmLaw_law_446 : decode code 446 = .ok (.iload_n 3, 1) := by decide +kernel
theorem dc_CmLaw_law_447 : decode code 447 = .ok (.iconst 1, 1) := by decide +kernel
theorem dc_CmLaw_law_448 : decode code 448 = .ok (.iadd, 1) := by decide +kernel
theorem dc_CmLaw_law_449 : decode code 449 = .ok (.iaload, 1) := by decide +kernel
theorem dc_CmLaw_law_450 : decode code 450 = .ok (.aload_n 0, 1) := by decide +kernel
theorem dc_CmLaw_law_451 : decode code 451 = .ok (.iload_n 3, 1) := by decide +kernel
theorem dc_CmLaw_law_452 : decode code 452 = .ok (.iconst 2, 1) := by decide +kernel
theorem dc_CmLaw_law_453 : decode code 453 = .ok (.iadd, 1) := by decide +kernel
theorem dc_CmLaw_law_454 : decode code 454 = .ok (.iaload, 1) := by decide +kernel
theorem dc_CmLaw_law_455 : decode code 455 = .ok (.invokevirtual 58, 3) := by decide +kernel
theorem lk_CmLaw_58 : zk_LV "ClosureMachineLaw" 58 mm_Cm_normal := ⟨zk_in 571 (by decide +kernel) (by decide +kernel), zk_in 572 (by decide +kernel) (by decide +kernel), zk_in 573 (by decide +kernel) (by decide +kernel)⟩
theorem dc_CmLaw_law_458 : decode code 458 = .ok (.aload_n 2, 1) := by decide +kernel
theorem dc_CmLaw_law_459 : decode code 459 = .ok (.aload_n 0, 1) := by decide +kernel
theorem dc_CmLaw_law_460 : decode code 460 = .ok (.iload_n 3, 1) := by decide +kernel
theorem dc_CmLaw_law_461 : decode code 461 = .ok (.iconst 1, 1) := by decide +kernel
theorem dc_CmLaw_law_462 : decode code 462 = .ok (.iadd, 1) := by decide +kernel
theorem dc_CmLaw_law_463 : decode code 463 = .ok (.iaload, 1) := by decide +kernel
theorem dc_CmLaw_law_464 : decode code 464 = .ok (.aload_n 0, 1) := by decide +kernel
theorem dc_CmLaw_law_465 : decode code 465 = .ok (.iload_n 3, 1) := by decide +kernel
theorem dc_CmLaw_law_466 : decode code 466 = .ok (.iconst 2, 1) := by decide +kernel
theorem dc_CmLaw_law_467 : decode code 467 = .ok (.iadd, 1) := by decide +kernel
theorem dc_CmLaw_law_468 : decode code 468 = .ok (.iaload, 1) := by decide +kernel
theorem dc_CmLaw_law_469 : decode code 469 = .ok (.invokevirtual 61, 3) := by decide +kernel
theorem lk_CmLaw_61 : zk_LV "ClosureMachineLaw" 61 mm_Mo_normal := ⟨zk_in 1015 (by decide +kernel) (by decide +kernel), zk_in 1016 (by decide +kernel) (by decide +kernel), zk_in 1017 (by decide +kernel) (by decide +kernel)⟩
theorem dc_CmLaw_law_472 : decode code 472 = .ok (.if_icmp .eq 74, 3) := by decide +kernel
theorem dc_CmLaw_law_477 : decode code 477 = .ok (.aload_n 1, 1) := by decide +kernel
theorem dc_CmLaw_law_478 : decode code 478 = .ok (.invokevirtual 62, 3) := by decide +kernel
theorem lk_CmLaw_62 : zk_LV "ClosureMachineLaw" 62 mm_Cm_cost := ⟨zk_in 623 (by decide +kernel) (by decide +kernel), zk_in 624 (by decide +kernel) (by decide +kernel), zk_in 625 (by decide +kernel) (by decide +kernel)⟩
theorem dc_CmLaw_law_481 : decode code 481 = .ok (.aload_n 2, 1) := by decide +kernel
theorem dc_CmLaw_law_482 : decode code 482 = .ok (.invokevirtual 65, 3) := by decide +kernel
theorem lk_CmLaw_65 : zk_LV "ClosureMachineLaw" 65 mm_Mo_cost := ⟨zk_in 1042 (by decide +kernel) (by decide +kernel), zk_in 1043 (by decide +kernel) (by decide +kernel), zk_in 1044 (by decide +kernel) (by decide +kernel)⟩
theorem dc_CmLaw_law_485 : decode code 485 = .ok (.if_icmp .eq 61, 3) := by decide +kernel
theorem dc_CmLaw_law_490 : decode code 490 = .ok (.aload_n 1, 1) := by decide +kernel
theorem dc_CmLaw_law_491 : decode code 491 = .ok (.invokevirtual 66, 3) := by decide +kernel
theorem lk_CmLaw_66 : zk_LV "ClosureMachineLaw" 66 mm_Cm_terms := ⟨zk_in 627 (by decide +kernel) (by decide +kernel), zk_in 628 (by decide +kernel) (by decide +kernel), zk_in 629 (by decide +kernel) (by decide +kernel)⟩
theorem dc_CmLaw_law_494 : decode code 494 = .ok (.aload_n 2, 1) := by decide +kernel
theorem dc_CmLaw_law_495 : decode code 495 = .ok (.invokevirtual 69, 3) := by decide +kernel
theorem lk_CmLaw_69 : zk_LV "ClosureMachineLaw" 69 mm_Mo_terms := ⟨zk_in 877 (by decide +kernel) (by decide +kernel), zk_in 878 (by decide +kernel) (by decide +kernel), zk_in 879 (by decide +kernel) (by decide +kernel)⟩
theorem dc_CmLaw_law_498 : decode code 498 = .ok (.if_icmp .eq 48, 3) := by decide +kernel
theorem dc_CmLaw_law_503 : decode code 503 = .ok (.aload_n 1, 1) := by decide +kernel
theorem dc_CmLaw_law_504 : decode code 504 = .ok (.aload_n 0, 1) := by decide +kernel
theorem dc_CmLaw_law_505 : decode code 505 = .ok (.iload_n 3, 1) := by decide +kernel
theorem dc_CmLaw_law_506 : decode code 506 = .ok (.iconst 1, 1) := by decide +kernel
theorem dc_CmLaw_law_507 : decode code 507 = .ok (.iadd, 1) := by decide +kernel
theorem dc_CmLaw_law_508 : decode code 508 = .ok (.iaload, 1) := by decide +kernel
theorem dc_CmLaw_law_509 : decode code 509 = .ok (.aload_n 0, 1) := by decide +kernel
theorem dc_CmLaw_law_510 : decode code 510 = .ok (.iload_n 3, 1) := by decide +kernel
theorem dc_CmLaw_law_511 : decode code 511 = .ok (.iconst 2, 1) := by decide +kernel
theorem dc_CmLaw_law_512 : decode code 512 = .ok (.iadd, 1) := by decide +kernel
theorem dc_CmLaw_law_513 : decode code 513 = .ok (.iaload, 1) := by decide +kernel
theorem dc_CmLaw_law_514 : decode code 514 = .ok (.aload_n 0, 1) := by decide +kernel
theorem dc_CmLaw_law_515 : decode code 515 = .ok (.iload_n 3, 1) := by decide +kernel
theorem dc_CmLaw_law_516 : decode code 516 = .ok (.iconst 3, 1) := by decide +kernel
theorem dc_CmLaw_law_517 : decode code 517 = .ok (.iadd, 1) := by decide +kernel
theorem dc_CmLaw_law_518 : decode code 518 = .ok (.iaload, 1) := by decide +kernel
theorem dc_CmLaw_law_519 : decode code 519 = .ok (.invokevirtual 70, 3) := by decide +kernel
theorem lk_CmLaw_70 : zk_LV "ClosureMachineLaw" 70 mm_Cm_part := ⟨zk_in 635 (by decide +kernel) (by decide +kernel), zk_in 636 (by decide +kernel) (by decide +kernel), zk_in 637 (by decide +kernel) (by decide +kernel)⟩
theorem dc_CmLaw_law_522 : decode code 522 = .ok (.aload_n 2, 1) := by decide +kernel
theorem dc_CmLaw_law_523 : decode code 523 = .ok (.aload_n 0, 1) := by decide +kernel
theorem dc_CmLaw_law_524 : decode code 524 = .ok (.iload_n 3, 1) := by decide +kernel
theorem dc_CmLaw_law_525 : decode code 525 = .ok (.iconst 1, 1) := by decide +kernel
theorem dc_CmLaw_law_526 : decode code 526 = .ok (.iadd, 1) := by decide +kernel
theorem dc_CmLaw_law_527 : decode code 527 = .ok (.iaload, 1) := by decide +kernel
theorem dc_CmLaw_law_528 : decode code 528 = .ok (.aload_n 0, 1) := by decide +kernel
theorem dc_CmLaw_law_529 : decode code 529 = .ok (.iload_n 3, 1) := by decide +kernel
theorem dc_CmLaw_law_530 : decode code 530 = .ok (.iconst 2, 1) := by decide +kernel
theorem dc_CmLaw_law_531 : decode code 531 = .ok (.iadd, 1) := by decide +kernel
theorem dc_CmLaw_law_532 : decode code 532 = .ok (.iaload, 1) := by decide +kernel
theorem dc_CmLaw_law_533 : decode code 533 = .ok (.aload_n 0, 1) := by decide +kernel
theorem dc_CmLaw_law_534 : decode code 534 = .ok (.iload_n 3, 1) := by decide +kernel
theorem dc_CmLaw_law_535 : decode code 535 = .ok (.iconst 3, 1) := by decide +kernel
theorem dc_CmLaw_law_536 : decode code 536 = .ok (.iadd, 1) := by decide +kernel
theorem dc_CmLaw_law_537 : decode code 537 = .ok (.iaload, 1) := by decide +kernel
theorem dc_CmLaw_law_538 : decode code 538 = .ok (.invokevirtual 73, 3) := by decide +kernel
theorem lk_CmLaw_73 : zk_LV "ClosureMachineLaw" 73 mm_Mo_part := ⟨zk_in 881 (by decide +kernel) (by decide +kernel), zk_in 882 (by decide +kernel) (by decide +kernel), zk_in 883 (by decide +kernel) (by decide +kernel)⟩
theorem dc_CmLaw_law_541 : decode code 541 = .ok (.if_icmp .eq 5, 3) := by decide +kernel
theorem dc_CmLaw_law_0 : decode code 0 = .ok (.new 7, 3) := by decide +kernel
theorem nw_CmLaw_7 : zk_N "ClosureMachineLaw" 7 6 9 [.null, .null, .null, .null, .null, .int 0, .int 0, .int 0, .int 0] := ⟨rc_6, tc_6, yc_6, rfl, zk_in 14 (by decide +kernel) (by decide +kernel), zk_in 15 (by decide +kernel) (by decide +kernel), zk_in 1 (by decide +kernel) (by decide +kernel), yk_6, by decide +kernel⟩
theorem dc_CmLaw_law_3 : decode code 3 = .ok (.dup, 1) := by decide +kernel
theorem dc_CmLaw_law_4 : decode code 4 = .ok (.invokespecial 9, 3) := by decide +kernel
theorem lk_CmLaw_9 : zk_LI "ClosureMachineLaw" 9 mm_Cm_init := ⟨zk_in 16 (by decide +kernel) (by decide +kernel), zk_in 17 (by decide +kernel) (by decide +kernel), rfl, rfl⟩
theorem dc_CmLaw_law_7 : decode code 7 = .ok (.astore_n 1, 1) := by decide +kernel
theorem dc_CmLaw_law_8 : decode code 8 = .ok (.new 10, 3) := by decide +kernel
theorem nw_CmLaw_10 : zk_N "ClosureMachineLaw" 10 9 48 [.null, .null, .null, .null, .int 0, .int 0, .null, .null, .null, .null, .null, .null, .null, .null, .int 0, .null, .null, .null, .null, .int 0, .int 0, .int 0, .int 0, .int 0, .int 0, .null, .null, .null, .null, .int 0, .null, .null, .null, .int 0, .null, .null, .null, .null, .int 0, .null, .int 0, .null, .int 0, .int 0, .int 0, .int 0, .int 0, .int 0] := ⟨rc_9, tc_9, yc_9, rfl, zk_in 649 (by decide +kernel) (by decide +kernel), zk_in 650 (by decide +kernel) (by decide +kernel), zk_in 8 (by decide +kernel) (by decide +kernel), yk_9, by decide +kernel⟩
theorem dc_CmLaw_law_11 : decode code 11 = .ok (.dup, 1) := by decide +kernel
theorem dc_CmLaw_law_12 : decode code 12 = .ok (.invokespecial 12, 3) := by decide +kernel
theorem lk_CmLaw_12 : zk_LI "ClosureMachineLaw" 12 mm_Mo_init := ⟨zk_in 651 (by decide +kernel) (by decide +kernel), zk_in 652 (by decide +kernel) (by decide +kernel), rfl, rfl⟩
theorem dc_CmLaw_law_15 : decode code 15 = .ok (.astore_n 2, 1) := by decide +kernel
theorem dc_CmLaw_law_16 : decode code 16 = .ok (.iconst 0, 1) := by decide +kernel
theorem dc_CmLaw_law_17 : decode code 17 = .ok (.istore_n 3, 1) := by decide +kernel
end
section
/-! THE CLAIM OUT OF ONE WALK OF THE LAW'S BODY. Your part is whole_start (and what it stands on); all else here is the same for every law, but numbers. -/
def R_law : String := "ClosureMachineLaw"
def lw_P (b : Addr) (xs : List Int32) (args : Array Value) (s : State) : Prop := args = #[.ref b] ∧ s.IntsAt b xs ∧ xs.length ≤ 5 ∧ (Jvm.Cond.and given_1 narrow_1).before args s = true
def lw_Q (_ : Array Value) (s : State) (o : Outcome) (t : State) : Prop := o = .returned (some (.int 1)) ∧ Framed s o t [] 600000 7302250
def lw_Z (below : List Frame) (a : Array Value) (s : State) : State → Prop := fun t => ∃ o, t.status = .running ∧ Ended t below o ∧ lw_Q a s o t
/-- the law's own end, with 1 on the stack, nothing written that was there before, its room as the claim has it -/
theorem lw_ret {p : Program} {l : Launch} {e : Env} {s : State} {m : MethodId} {below : List Frame} {meth : Method} {c : Code} {b : Nat} (hx : p.tables.exec = Jvm.exec) (hb : c.code = code) (hr : meth.sig.returnType = ret) (hlocks : meth.locks = false) {pc : Nat} {H : Heap} {ls : Array Slot} (hdg : decode code pc = .ok (.ireturn, 1)) : W p l e room_1 s m #[Value.ref b] below meth c H [] 600000 7302250 (lw_Z below #[Value.ref b] s) (F0 m pc ls [.int 1]) := by
  intro T hT X
  obtain ⟨fs, hret, hrun, hended, hW, hframe⟩ := X.leave (v := some (.int 1)) (hlocks := hlocks) (fun h => by rw [hr] at h; cases h)
  have hmeth' : T.vm.method? m = some meth := X.method'
  refine ⟨T.setFrames fs, ?_, .returned (some (.int 1)), hrun, hended, rfl, ⟨_, rfl⟩, hW, hframe⟩
  jvm_step X.here [X.here.top, hx, hb, hdg, hmeth', hr, ret, narrow_b1]
  (try refine ⟨rfl, ?_⟩); (try refine ⟨rfl, ?_⟩)
  first | (intro acts; rw [hret _ acts rfl rfl rfl]) | rw [hret _ _ rfl rfl rfl]
  exact Steps.refl _
/-- what holds at the law's entry: the machine, the code, the tables' words (any of lw_tbl by 'hts w (by decide +kernel)'), the script of L ints xs at the cell b, what the Statement gives of the start (any of its parts by flat_of_before) -/
def lw_At (p : Program) (s : State) (m : MethodId) (meth : Method) (c : Code) (b L : Nat) (xs : Nat → Int32) : Prop :=
  p.tables.exec = Jvm.exec ∧ c.code = code ∧ meth.sig.returnType = ret ∧ c.maxLocals = 4 ∧ s.vm.findClass R_law = some m.cls ∧ (∀ w ∈ lw_tbl, w.before #[Value.ref b] s = true) ∧ va_X b L xs s s.heap ∧ b < s.heap.size ∧ meth.locks = false ∧ (Jvm.Cond.and given_1 narrow_1).before #[Value.ref b] s = true
abbrev mm_law : zk_Mt := (⟨"ClosureMachineLaw", "law", "([I)Z"⟩, code, 4, ret, 11, 462)
theorem zk_topi {Z : zk_Z} {μ : zk_Mt} {pc : Nat} {lo : List (Option Value)} {st : List Value} {M : zk_M} {R : Option Value → zk_M → Prop} {x : Int32} (k : ∀ y : Int32, zk_P Z μ pc lo (.int y :: st) M R) : zk_P Z μ pc lo (.int x :: st) M R := k x
theorem zk_Lo_entry {as : List Value} {n : Nat} (hn : as.length ≤ n) (hc : ∀ v ∈ as, v.category = 1) : zk_Lo ((lg_sl as ++ List.replicate (n - (lg_sl as).length) Slot.unset).toArray) n (as.map some ++ List.replicate (n - as.length) none) := by
  have hl := lv_entry as (n := n) (by rw [zk_sl hc]; exact hn)
  refine ⟨hl.1, hl.2.1, fun i v hi => ?_⟩
  by_cases hia : i < as.length
  · rw [List.getElem?_append_left (by simpa using hia), List.getElem?_map] at hi
    cases hx : as[i]? with
    | none => rw [hx] at hi; cases hi
    | some w =>
      rw [hx] at hi
      cases hi
      have hm := zk_args hc 0 i v hx
      rw [Nat.zero_add] at hm
      exact ⟨hc v (List.mem_of_getElem? hx), hl.2.2 _ hm⟩
  · rw [List.getElem?_append_right (by simpa using hia)] at hi
    have := List.mem_of_getElem? hi
    have := (List.mem_replicate.mp this).2
    cases this
theorem zk_inst : ∀ (ci : Nat) (C : String) (T : u_T) (N : Nat), vwCl[ci]? = some (C, T, N) → Cond.instantiable C N ∈ zk_all := by
  intro ci C T N h
  match ci, h with
  | 0, h => cases h; exact zk_in 29 (by decide +kernel) (by decide +kernel)
  | 1, h => cases h; exact zk_in 23 (by decide +kernel) (by decide +kernel)
  | 2, h => cases h; exact zk_in 62 (by decide +kernel) (by decide +kernel)
  | 3, h => cases h; exact zk_in 77 (by decide +kernel) (by decide +kernel)
  | 4, h => cases h; exact zk_in 87 (by decide +kernel) (by decide +kernel)
  | 5, h => cases h; exact zk_in 136 (by decide +kernel) (by decide +kernel)
  | 6, h => cases h; exact zk_in 15 (by decide +kernel) (by decide +kernel)
  | 7, h => cases h; exact zk_in 312 (by decide +kernel) (by decide +kernel)
  | 8, h => cases h; exact zk_in 656 (by decide +kernel) (by decide +kernel)
  | 9, h => cases h; exact zk_in 650 (by decide +kernel) (by decide +kernel)
  | k + 10, h => simp [vwCl] at h
set_option maxHeartbeats 1000000 in
/-- THE LAW'S BODY OUT OF THE JUDGEMENT -/
theorem zk_law {p : Program} {e : Env} {s : State} {m : MethodId} {below : List Frame} {meth : Method} {c : Code} (l : Launch) {b L : Nat} {xs : Nat → Int32} (C0 : lw_At p s m meth c b L xs)
    (h : ∀ (κ : Nat → ClassId) (D : va_G), zk_P (l, κ, D, s.heap.size, b, L, xs) mm_law 0 [some (.ref b), none, none, none] [] (s.heap.size, 0, fun _ => none) (fun r M' => r = some (.int 1) ∧ M'.1 ≤ s.heap.size + 600000 ∧ M'.2.1 ≤ 7302250)) :
    W p l e room_1 s m #[Value.ref b] below meth c s.heap [] 0 0 (lw_Z below #[Value.ref b] s) (entryFrame m ([Value.ref b] : List Value).toArray 4) := by
  obtain ⟨hx, hb, hr, hml, hown, hts, hX, hbl, hlocks, hgv⟩ := id C0
  have hall : ∀ w ∈ zk_all, w.before #[Value.ref b] s = true := fun w hw => hts w (List.mem_filter.mp hw).1
  have hcl : ∀ k : Nat, ∃ q : ClassId × (Nat → Nat), ∀ r : vw_C, vwCl[k]? = some r → u_Kn s r.1 r.2.1 r.2.2 q.1 q.2 := by
    intro k
    cases hk : vwCl[k]? with
    | none => exact ⟨(0, fun _ => 0), fun r hr => by cases hr⟩
    | some r =>
      obtain ⟨C, T, N⟩ := r
      obtain ⟨cC, iS, hKn⟩ := u_known (C := C) (T := T) (N := N) (n := N) hall (zk_cls_ok k C T N hk).1 (hall _ (zk_inst k C T N hk))
      exact ⟨(cC, iS), fun r hr => by cases hr; exact hKn⟩
  obtain ⟨φ, hφ⟩ := Classical.axiomOfChoice hcl
  obtain ⟨cI, kI, compI, i1, i2, i3⟩ := Cond.arrayClass_spec (hall (.arrayClass .int) (zk_in 45 (by decide +kernel) (by decide +kernel)))
  obtain ⟨comp, cG, kG, g1, -, g2, g3, g4⟩ := Cond.arrayOver_spec (hts (.arrayOver (.object "ClosureMachine$Global")) (zk_nw_in _ (List.mem_of_getElem? (i := 2) rfl)))
  have hK : va_K (fun k => (φ k).1, fun k => (φ k).2) vwCl [(cI, .int), (cG, .object "ClosureMachine$Global")] s := by
    refine ⟨fun k q hq => hφ k q hq, fun k q hq => ?_⟩
    match k, hq with
    | 0, hq => cases hq; exact ⟨fun n z => ⟨fun k h => (by cases h), kI, i2, compI, i3⟩, i1⟩
    | 1, hq => cases hq; exact ⟨fun n z => ⟨fun k h => (by cases h), kG, g2, comp, g3⟩, kG, comp, g2, g3, g1, g4⟩
    | k + 2, hq => simp at hq
  obtain ⟨r, M', ⟨rfl, h1, h2⟩, -, -, hW⟩ := h (fun k => if k = 0 then cI else cG) (fun k => (φ k).1, fun k => (φ k).2)
  have h1 : M'.1 ≤ s.heap.size + 600000 := h1
  rw [lg_entry_eq]
  have hn : ∀ w ∈ zk_nw, va_Nw w s := by
    intro w hw
    have hb := hts w (zk_nw_in w hw)
    rcases zk_nw_is w hw with ⟨a, i, x, g, rfl⟩ | ⟨a, i, b, n, d, g, rfl⟩ | ⟨C, rfl⟩
    · exact va_Nw.of rfl hb
    · exact va_Nw.of rfl hb
    · exact va_AO.of hb
  have hV := hW p e s m #[Value.ref b] below meth c s.heap [] 0 0 600000 7302250 _ ⟨hx, hb, hr, hml, hown, hall, hlocks, fun q => absurd q (by decide), hK, Nat.le_refl _, hX, hbl, hn⟩ ⟨rfl, fun a x hx => by cases hx⟩ va_S.rf (zk_Lo_entry (as := [Value.ref b]) (n := 4) (Nat.le_of_ble_eq_true rfl) (fun v hv => by rw [List.mem_singleton.mp hv]; rfl)) (show 0 + (M'.1 - s.heap.size) ≤ 600000 by omega) (show 0 + (M'.2.1 - 0) ≤ 7302250 by omega)
  intro T hT X
  obtain ⟨t, a1, o, b1, b2, ⟨ho, -, -⟩, Lc, ⟨q1, q2, q3⟩, hfree⟩ := hV T hT X
  exact ⟨t, a1, o, b1, b2, ho, q1, q2, q3.weaken (fun y hy hlt => absurd hlt (Nat.not_lt.mpr (hfree y hy))) (Nat.le_refl _) (Nat.le_refl _)⟩
set_option maxHeartbeats 4000000 in
set_option maxRecDepth 100000 in
theorem p1_body {l : Launch} {κ : Nat → ClassId} {D : va_G} {B b : Nat} {xs : Nat → Int32} {w s a n a2 n2 : Nat} {f : Nat → Option zk_E} {gk gv gs gl : Nat → Int32} {R : Option Value → zk_M → Prop} (ha : f (a) = some (.inr (.inr (6, [.ref n, .ref (n + 7), .ref (n + 9), .ref (n + 10), .ref (n + 17), .int (-1), .int (-1), .int (-1), .int (-1)])))) (ht : f (n) = some (.inr (.inr (1, [.ref (n + 1), .ref (n + 3), .ref (n + 5), .int 0])))) (hq0 : f (n + 1) = some (.inr (.inr (0, [.int 46000, .ref (n + 2), .int 0])))) (hr0 : f (n + 2) = some (.inl (256, fun _ => 0))) (hq1 : f (n + 3) = some (.inr (.inr (0, [.int 3000, .ref (n + 4), .int 0])))) (hr1 : f (n + 4) = some (.inl (256, fun _ => 0))) (hg : f (n + 7) = some (.inr (.inr (2, [.ref (n + 8), .int 0])))) (hga : f (n + 8) = some (.inr (.inl (1, 60, fun _ => none)))) (ma : f (a2) = some (.inr (.inr (9, [.ref n2, .ref (n2 + 5), .ref (n2 + 6), .ref (n2 + 7), .int 0, .int 0, .ref (n2 + 8), .ref (n2 + 9), .ref (n2 + 10), .ref (n2 + 11), .ref (n2 + 12), .ref (n2 + 13), .ref (n2 + 14), .ref (n2 + 15), .int 0, .ref (n2 + 16), .ref (n2 + 17), .ref (n2 + 18), .ref (n2 + 19), .int 0, .int 0, .int 0, .int 0, .int 0, .int (-1), .ref (n2 + 20), .ref (n2 + 21), .ref (n2 + 22), .ref (n2 + 23), .int 0, .ref (n2 + 24), .ref (n2 + 25), .ref (n2 + 26), .int 0, .ref (n2 + 27), .ref (n2 + 28), .ref (n2 + 29), .ref (n2 + 30), .int 0, .ref (n2 + 31), .int 0, .ref (n2 + 32), .int 0, .int 0, .int 0, .int 0, .int 0, .int 0])))) (mr : f (n2) = some (.inr (.inr (8, [.ref (n2 + 1), .ref (n2 + 2), .ref (n2 + 3), .ref (n2 + 4), .int (nI 2201)])))) (mk : f (n2 + 1) = some (.inl (4096, gk))) (mv : f (n2 + 2) = some (.inl (4096, gv))) (ms : f (n2 + 3) = some (.inl (4096, gs))) (ml : f (n2 + 4) = some (.inl (4096, gl))) (m5 : f (n2 + 5) = some (.inl (3000, fun _ => 0))) (m6 : f (n2 + 6) = some (.inl (3000, fun _ => 0))) (m7 : f (n2 + 7) = some (.inl (3000, fun _ => 0))) (m8 : f (n2 + 8) = some (.inl (60, fun _ => 0))) (m10 : f (n2 + 10) = some (.inl (60, fun _ => 0))) (m12 : f (n2 + 12) = some (.inl (60, fun _ => 0))) (m13 : f (n2 + 13) = some (.inl (60, fun _ => 0))) (m14 : f (n2 + 14) = some (.inl (60, fun _ => 0))) (m15 : f (n2 + 15) = some (.inl (60, fun _ => 0))) (hlt : a < n) (hn : n + 20 ≤ a2) (hlt2 : a2 < n2) (hw : n2 + 33 ≤ w) (hR : ∀ (w2 s2 : Nat) (g : Nat → Option zk_E), w2 ≤ w + 6 → s2 ≤ s + 54 → R (some (.int 1)) (w2, s2, g)) : zk_P (l, κ, D, B, b, 5, xs) mm_law 18 [some (.ref b), some (.ref a), some (.ref a2), some (.int 0)] [] (w, s, f) R := by
  refine zk_iload_3 19 dc_CmLaw_law_18 rfl rfl ?_
  refine zk_aload_0 20 dc_CmLaw_law_19 rfl rfl ?_
  refine zk_slen 21 dc_CmLaw_law_20 rfl ?_
  refine zk_iconst (v := 5) 22 dc_CmLaw_law_21 (by decide) rfl ?_
  refine zk_isub 23 dc_CmLaw_law_22 rfl ?_
  refine zk_icmp_gt 552 26 dc_CmLaw_law_23 (by decide) rfl (fun hx => by first | exact absurd hx (show ¬ nI 5 - 5 < (0 : Int32) by decide) | exact absurd (show ¬ nI 5 - 5 < (0 : Int32) by decide) hx) (fun hx => ?_)
  refine zk_aload_0 27 dc_CmLaw_law_26 rfl rfl ?_
  refine zk_iload_3 28 dc_CmLaw_law_27 rfl rfl ?_
  refine zk_sload 29 dc_CmLaw_law_28 (show vp_in (0 : Int32) 5 by unfold vp_in; decide) rfl ?_
  refine zk_bipush (v := 15) 31 dc_CmLaw_law_29 (by decide) rfl ?_
  refine zk_iand 32 dc_CmLaw_law_31 rfl ?_
  refine zk_topi (fun y => ?_)
  by_cases t0 : y = 0
  · refine zk_tableIn 104 0 t0 dc_CmLaw_law_32 (by decide) (by decide) rfl (by decide) ?_
    refine zk_aload_1 105 dc_CmLaw_law_104 rfl rfl ?_
    refine zk_aload_0 106 dc_CmLaw_law_105 rfl rfl ?_
    refine zk_iload_3 107 dc_CmLaw_law_106 rfl rfl ?_
    refine zk_iconst (v := 1) 108 dc_CmLaw_law_107 (by decide) rfl ?_
    refine zk_iadd 109 dc_CmLaw_law_108 rfl ?_
    refine zk_sload 110 dc_CmLaw_law_109 (show vp_in ((0 : Int32) + 1) 5 by unfold vp_in; decide) rfl ?_
    refine zk_aload_0 111 dc_CmLaw_law_110 rfl rfl ?_
    refine zk_iload_3 112 dc_CmLaw_law_111 rfl rfl ?_
    refine zk_iconst (v := 2) 113 dc_CmLaw_law_112 (by decide) rfl ?_
    refine zk_iadd 114 dc_CmLaw_law_113 rfl ?_
    refine zk_sload 115 dc_CmLaw_law_114 (show vp_in ((0 : Int32) + 2) 5 by unfold vp_in; decide) rfl ?_
    refine zk_aload_0 116 dc_CmLaw_law_115 rfl rfl ?_
    refine zk_iload_3 117 dc_CmLaw_law_116 rfl rfl ?_
    refine zk_iconst (v := 3) 118 dc_CmLaw_law_117 (by decide) rfl ?_
    refine zk_iadd 119 dc_CmLaw_law_118 rfl ?_
    refine zk_sload 120 dc_CmLaw_law_119 (show vp_in ((0 : Int32) + 3) 5 by unfold vp_in; decide) rfl ?_
    refine zk_cVr 123 (f_leaf ha ht hq0 hr0 hq1 hr1 hg hga hlt (by omega)) dc_CmLaw_law_120 ok_Cm_leaf lk_CmLaw_13 ha rfl rfl rfl ⟨Nat.le_of_ble_eq_true rfl, Nat.le_of_ble_eq_true rfl⟩ (Nat.le_of_ble_eq_true rfl) rfl (fun v M1 hk => ?_)
    obtain ⟨rfl, w2, s2, g, rfl, hw2, hs2, p⟩ := hk
    have ma := (p (a2) (by omega) (by omega) ).trans ma
    have mr := (p (n2) (by omega) (by omega) ).trans mr
    have mk := (p (n2 + 1) (by omega) (by omega) ).trans mk
    have mv := (p (n2 + 2) (by omega) (by omega) ).trans mv
    have ms := (p (n2 + 3) (by omega) (by omega) ).trans ms
    have ml := (p (n2 + 4) (by omega) (by omega) ).trans ml
    have m5 := (p (n2 + 5) (by omega) (by omega) ).trans m5
    have m6 := (p (n2 + 6) (by omega) (by omega) ).trans m6
    have m7 := (p (n2 + 7) (by omega) (by omega) ).trans m7
    have m8 := (p (n2 + 8) (by omega) (by omega) ).trans m8
    have m10 := (p (n2 + 10) (by omega) (by omega) ).trans m10
    have m12 := (p (n2 + 12) (by omega) (by omega) ).trans m12
    have m13 := (p (n2 + 13) (by omega) (by omega) ).trans m13
    have m14 := (p (n2 + 14) (by omega) (by omega) ).trans m14
    have m15 := (p (n2 + 15) (by omega) (by omega) ).trans m15
    refine zk_aload_2 124 dc_CmLaw_law_123 rfl rfl ?_
    refine zk_aload_0 125 dc_CmLaw_law_124 rfl rfl ?_
    refine zk_iload_3 126 dc_CmLaw_law_125 rfl rfl ?_
    refine zk_iconst (v := 1) 127 dc_CmLaw_law_126 (by decide) rfl ?_
    refine zk_iadd 128 dc_CmLaw_law_127 rfl ?_
    refine zk_sload 129 dc_CmLaw_law_128 (show vp_in ((0 : Int32) + 1) 5 by unfold vp_in; decide) rfl ?_
    refine zk_aload_0 130 dc_CmLaw_law_129 rfl rfl ?_
    refine zk_iload_3 131 dc_CmLaw_law_130 rfl rfl ?_
    refine zk_iconst (v := 2) 132 dc_CmLaw_law_131 (by decide) rfl ?_
    refine zk_iadd 133 dc_CmLaw_law_132 rfl ?_
    refine zk_sload 134 dc_CmLaw_law_133 (show vp_in ((0 : Int32) + 2) 5 by unfold vp_in; decide) rfl ?_
    refine zk_aload_0 135 dc_CmLaw_law_134 rfl rfl ?_
    refine zk_iload_3 136 dc_CmLaw_law_135 rfl rfl ?_
    refine zk_iconst (v := 3) 137 dc_CmLaw_law_136 (by decide) rfl ?_
    refine zk_iadd 138 dc_CmLaw_law_137 rfl ?_
    refine zk_sload 139 dc_CmLaw_law_138 (show vp_in ((0 : Int32) + 3) 5 by unfold vp_in; decide) rfl ?_
    refine zk_cVr 142 (r_leaf ma mr mk mv ms ml m5 m6 m7 hlt2) dc_CmLaw_law_139 ok_Mo_leaf lk_CmLaw_17 ma rfl rfl rfl ⟨Nat.le_of_ble_eq_true rfl, Nat.le_of_ble_eq_true rfl⟩ (Nat.le_of_ble_eq_true rfl) rfl (fun v M1 hk => ?_)
    obtain ⟨rfl, g2, rfl⟩ := hk
    refine zk_icmp_eq 546 145 dc_CmLaw_law_142 (by decide) rfl (fun hx => ?_) (fun hx => by first | exact absurd hx rfl | exact absurd rfl hx)
    refine zk_iinc_3 (v := 5) 549 dc_CmLaw_law_546 (by decide) (Nat.le_of_ble_eq_true rfl) rfl ?_
    refine zk_goto 18 dc_CmLaw_law_549 (by decide) ?_
    refine zk_iload_3 19 dc_CmLaw_law_18 rfl rfl ?_
    refine zk_aload_0 20 dc_CmLaw_law_19 rfl rfl ?_
    refine zk_slen 21 dc_CmLaw_law_20 rfl ?_
    refine zk_iconst (v := 5) 22 dc_CmLaw_law_21 (by decide) rfl ?_
    refine zk_isub 23 dc_CmLaw_law_22 rfl ?_
    refine zk_icmp_gt 552 26 dc_CmLaw_law_23 (by decide) rfl (fun hx => ?_) (fun hx => by first | exact absurd hx (show nI 5 - 5 < (0 : Int32) + 5 by decide) | exact absurd (show nI 5 - 5 < (0 : Int32) + 5 by decide) hx)
    refine zk_iconst (v := 1) 553 dc_CmLaw_law_552 (by decide) rfl ?_
    exact zk_ireturn dc_CmLaw_law_553 rfl rfl (hR _ _ _ (by omega) (by omega))
  by_cases t1 : y = 1
  · refine zk_tableIn 147 1 t1 dc_CmLaw_law_32 (by decide) (by decide) rfl (by decide) ?_
    refine zk_aload_1 148 dc_CmLaw_law_147 rfl rfl ?_
    refine zk_aload_0 149 dc_CmLaw_law_148 rfl rfl ?_
    refine zk_iload_3 150 dc_CmLaw_law_149 rfl rfl ?_
    refine zk_iconst (v := 1) 151 dc_CmLaw_law_150 (by decide) rfl ?_
    refine zk_iadd 152 dc_CmLaw_law_151 rfl ?_
    refine zk_sload 153 dc_CmLaw_law_152 (show vp_in ((0 : Int32) + 1) 5 by unfold vp_in; decide) rfl ?_
    refine zk_aload_0 154 dc_CmLaw_law_153 rfl rfl ?_
    refine zk_iload_3 155 dc_CmLaw_law_154 rfl rfl ?_
    refine zk_iconst (v := 2) 156 dc_CmLaw_law_155 (by decide) rfl ?_
    refine zk_iadd 157 dc_CmLaw_law_156 rfl ?_
    refine zk_sload 158 dc_CmLaw_law_157 (show vp_in ((0 : Int32) + 2) 5 by unfold vp_in; decide) rfl ?_
    refine zk_aload_0 159 dc_CmLaw_law_158 rfl rfl ?_
    refine zk_iload_3 160 dc_CmLaw_law_159 rfl rfl ?_
    refine zk_iconst (v := 3) 161 dc_CmLaw_law_160 (by decide) rfl ?_
    refine zk_iadd 162 dc_CmLaw_law_161 rfl ?_
    refine zk_sload 163 dc_CmLaw_law_162 (show vp_in ((0 : Int32) + 3) 5 by unfold vp_in; decide) rfl ?_
    refine zk_cVr 166 (f_join ha ht hq0 hr0 hq1 hr1 hg hga hlt (by omega)) dc_CmLaw_law_163 ok_Cm_join lk_CmLaw_18 ha rfl rfl rfl ⟨Nat.le_of_ble_eq_true rfl, Nat.le_of_ble_eq_true rfl⟩ (Nat.le_of_ble_eq_true rfl) rfl (fun v M1 hk => ?_)
    obtain ⟨rfl, w2, s2, g, rfl, hw2, hs2, p⟩ := hk
    have ma := (p (a2) (by omega) (by omega) ).trans ma
    have mr := (p (n2) (by omega) (by omega) ).trans mr
    have mk := (p (n2 + 1) (by omega) (by omega) ).trans mk
    have mv := (p (n2 + 2) (by omega) (by omega) ).trans mv
    have ms := (p (n2 + 3) (by omega) (by omega) ).trans ms
    have ml := (p (n2 + 4) (by omega) (by omega) ).trans ml
    have m5 := (p (n2 + 5) (by omega) (by omega) ).trans m5
    have m6 := (p (n2 + 6) (by omega) (by omega) ).trans m6
    have m7 := (p (n2 + 7) (by omega) (by omega) ).trans m7
    have m8 := (p (n2 + 8) (by omega) (by omega) ).trans m8
    have m10 := (p (n2 + 10) (by omega) (by omega) ).trans m10
    have m12 := (p (n2 + 12) (by omega) (by omega) ).trans m12
    have m13 := (p (n2 + 13) (by omega) (by omega) ).trans m13
    have m14 := (p (n2 + 14) (by omega) (by omega) ).trans m14
    have m15 := (p (n2 + 15) (by omega) (by omega) ).trans m15
    refine zk_aload_2 167 dc_CmLaw_law_166 rfl rfl ?_
    refine zk_aload_0 168 dc_CmLaw_law_167 rfl rfl ?_
    refine zk_iload_3 169 dc_CmLaw_law_168 rfl rfl ?_
    refine zk_iconst (v := 1) 170 dc_CmLaw_law_169 (by decide) rfl ?_
    refine zk_iadd 171 dc_CmLaw_law_170 rfl ?_
    refine zk_sload 172 dc_CmLaw_law_171 (show vp_in ((0 : Int32) + 1) 5 by unfold vp_in; decide) rfl ?_
    refine zk_aload_0 173 dc_CmLaw_law_172 rfl rfl ?_
    refine zk_iload_3 174 dc_CmLaw_law_173 rfl rfl ?_
    refine zk_iconst (v := 2) 175 dc_CmLaw_law_174 (by decide) rfl ?_
    refine zk_iadd 176 dc_CmLaw_law_175 rfl ?_
    refine zk_sload 177 dc_CmLaw_law_176 (show vp_in ((0 : Int32) + 2) 5 by unfold vp_in; decide) rfl ?_
    refine zk_aload_0 178 dc_CmLaw_law_177 rfl rfl ?_
    refine zk_iload_3 179 dc_CmLaw_law_178 rfl rfl ?_
    refine zk_iconst (v := 3) 180 dc_CmLaw_law_179 (by decide) rfl ?_
    refine zk_iadd 181 dc_CmLaw_law_180 rfl ?_
    refine zk_sload 182 dc_CmLaw_law_181 (show vp_in ((0 : Int32) + 3) 5 by unfold vp_in; decide) rfl ?_
    refine zk_cVr 185 (r_join ma ) dc_CmLaw_law_182 ok_Mo_join lk_CmLaw_21 ma rfl rfl rfl ⟨Nat.le_of_ble_eq_true rfl, Nat.le_of_ble_eq_true rfl⟩ (Nat.le_of_ble_eq_true rfl) rfl (fun v M1 hk => ?_)
    obtain ⟨rfl, g2, rfl⟩ := hk
    refine zk_icmp_eq 546 188 dc_CmLaw_law_185 (by decide) rfl (fun hx => ?_) (fun hx => by first | exact absurd hx rfl | exact absurd rfl hx)
    refine zk_iinc_3 (v := 5) 549 dc_CmLaw_law_546 (by decide) (Nat.le_of_ble_eq_true rfl) rfl ?_
    refine zk_goto 18 dc_CmLaw_law_549 (by decide) ?_
    refine zk_iload_3 19 dc_CmLaw_law_18 rfl rfl ?_
    refine zk_aload_0 20 dc_CmLaw_law_19 rfl rfl ?_
    refine zk_slen 21 dc_CmLaw_law_20 rfl ?_
    refine zk_iconst (v := 5) 22 dc_CmLaw_law_21 (by decide) rfl ?_
    refine zk_isub 23 dc_CmLaw_law_22 rfl ?_
    refine zk_icmp_gt 552 26 dc_CmLaw_law_23 (by decide) rfl (fun hx => ?_) (fun hx => by first | exact absurd hx (show nI 5 - 5 < (0 : Int32) + 5 by decide) | exact absurd (show nI 5 - 5 < (0 : Int32) + 5 by decide) hx)
    refine zk_iconst (v := 1) 553 dc_CmLaw_law_552 (by decide) rfl ?_
    exact zk_ireturn dc_CmLaw_law_553 rfl rfl (hR _ _ _ (by omega) (by omega))
  by_cases t2 : y = 2
  · refine zk_tableIn 190 2 t2 dc_CmLaw_law_32 (by decide) (by decide) rfl (by decide) ?_
    refine zk_aload_1 191 dc_CmLaw_law_190 rfl rfl ?_
    refine zk_aload_0 192 dc_CmLaw_law_191 rfl rfl ?_
    refine zk_iload_3 193 dc_CmLaw_law_192 rfl rfl ?_
    refine zk_iconst (v := 1) 194 dc_CmLaw_law_193 (by decide) rfl ?_
    refine zk_iadd 195 dc_CmLaw_law_194 rfl ?_
    refine zk_sload 196 dc_CmLaw_law_195 (show vp_in ((0 : Int32) + 1) 5 by unfold vp_in; decide) rfl ?_
    refine zk_aload_0 197 dc_CmLaw_law_196 rfl rfl ?_
    refine zk_iload_3 198 dc_CmLaw_law_197 rfl rfl ?_
    refine zk_iconst (v := 2) 199 dc_CmLaw_law_198 (by decide) rfl ?_
    refine zk_iadd 200 dc_CmLaw_law_199 rfl ?_
    refine zk_sload 201 dc_CmLaw_law_200 (show vp_in ((0 : Int32) + 2) 5 by unfold vp_in; decide) rfl ?_
    refine zk_aload_0 202 dc_CmLaw_law_201 rfl rfl ?_
    refine zk_iload_3 203 dc_CmLaw_law_202 rfl rfl ?_
    refine zk_iconst (v := 3) 204 dc_CmLaw_law_203 (by decide) rfl ?_
    refine zk_iadd 205 dc_CmLaw_law_204 rfl ?_
    refine zk_sload 206 dc_CmLaw_law_205 (show vp_in ((0 : Int32) + 3) 5 by unfold vp_in; decide) rfl ?_
    refine zk_aload_0 207 dc_CmLaw_law_206 rfl rfl ?_
    refine zk_iload_3 208 dc_CmLaw_law_207 rfl rfl ?_
    refine zk_iconst (v := 4) 209 dc_CmLaw_law_208 (by decide) rfl ?_
    refine zk_iadd 210 dc_CmLaw_law_209 rfl ?_
    refine zk_sload 211 dc_CmLaw_law_210 (show vp_in ((0 : Int32) + 4) 5 by unfold vp_in; decide) rfl ?_
    refine zk_cVr 214 (f_binder ha ht hq0 hr0 hq1 hr1 hg hga hlt (by omega)) dc_CmLaw_law_211 ok_Cm_binder lk_CmLaw_22 ha rfl rfl rfl ⟨Nat.le_of_ble_eq_true rfl, Nat.le_of_ble_eq_true rfl⟩ (Nat.le_of_ble_eq_true rfl) rfl (fun v M1 hk => ?_)
    obtain ⟨rfl, w2, s2, g, rfl, hw2, hs2, p⟩ := hk
    have ma := (p (a2) (by omega) (by omega) ).trans ma
    have mr := (p (n2) (by omega) (by omega) ).trans mr
    have mk := (p (n2 + 1) (by omega) (by omega) ).trans mk
    have mv := (p (n2 + 2) (by omega) (by omega) ).trans mv
    have ms := (p (n2 + 3) (by omega) (by omega) ).trans ms
    have ml := (p (n2 + 4) (by omega) (by omega) ).trans ml
    have m5 := (p (n2 + 5) (by omega) (by omega) ).trans m5
    have m6 := (p (n2 + 6) (by omega) (by omega) ).trans m6
    have m7 := (p (n2 + 7) (by omega) (by omega) ).trans m7
    have m8 := (p (n2 + 8) (by omega) (by omega) ).trans m8
    have m10 := (p (n2 + 10) (by omega) (by omega) ).trans m10
    have m12 := (p (n2 + 12) (by omega) (by omega) ).trans m12
    have m13 := (p (n2 + 13) (by omega) (by omega) ).trans m13
    have m14 := (p (n2 + 14) (by omega) (by omega) ).trans m14
    have m15 := (p (n2 + 15) (by omega) (by omega) ).trans m15
    refine zk_aload_2 215 dc_CmLaw_law_214 rfl rfl ?_
    refine zk_aload_0 216 dc_CmLaw_law_215 rfl rfl ?_
    refine zk_iload_3 217 dc_CmLaw_law_216 rfl rfl ?_
    refine zk_iconst (v := 1) 218 dc_CmLaw_law_217 (by decide) rfl ?_
    refine zk_iadd 219 dc_CmLaw_law_218 rfl ?_
    refine zk_sload 220 dc_CmLaw_law_219 (show vp_in ((0 : Int32) + 1) 5 by unfold vp_in; decide) rfl ?_
    refine zk_aload_0 221 dc_CmLaw_law_220 rfl rfl ?_
    refine zk_iload_3 222 dc_CmLaw_law_221 rfl rfl ?_
    refine zk_iconst (v := 2) 223 dc_CmLaw_law_222 (by decide) rfl ?_
    refine zk_iadd 224 dc_CmLaw_law_223 rfl ?_
    refine zk_sload 225 dc_CmLaw_law_224 (show vp_in ((0 : Int32) + 2) 5 by unfold vp_in; decide) rfl ?_
    refine zk_aload_0 226 dc_CmLaw_law_225 rfl rfl ?_
    refine zk_iload_3 227 dc_CmLaw_law_226 rfl rfl ?_
    refine zk_iconst (v := 3) 228 dc_CmLaw_law_227 (by decide) rfl ?_
    refine zk_iadd 229 dc_CmLaw_law_228 rfl ?_
    refine zk_sload 230 dc_CmLaw_law_229 (show vp_in ((0 : Int32) + 3) 5 by unfold vp_in; decide) rfl ?_
    refine zk_aload_0 231 dc_CmLaw_law_230 rfl rfl ?_
    refine zk_iload_3 232 dc_CmLaw_law_231 rfl rfl ?_
    refine zk_iconst (v := 4) 233 dc_CmLaw_law_232 (by decide) rfl ?_
    refine zk_iadd 234 dc_CmLaw_law_233 rfl ?_
    refine zk_sload 235 dc_CmLaw_law_234 (show vp_in ((0 : Int32) + 4) 5 by unfold vp_in; decide) rfl ?_
    refine zk_cVr 238 (r_binder ma ) dc_CmLaw_law_235 ok_Mo_binder lk_CmLaw_26 ma rfl rfl rfl ⟨Nat.le_of_ble_eq_true rfl, Nat.le_of_ble_eq_true rfl⟩ (Nat.le_of_ble_eq_true rfl) rfl (fun v M1 hk => ?_)
    obtain ⟨rfl, g2, rfl⟩ := hk
    refine zk_icmp_eq 546 241 dc_CmLaw_law_238 (by decide) rfl (fun hx => ?_) (fun hx => by first | exact absurd hx rfl | exact absurd rfl hx)
    refine zk_iinc_3 (v := 5) 549 dc_CmLaw_law_546 (by decide) (Nat.le_of_ble_eq_true rfl) rfl ?_
    refine zk_goto 18 dc_CmLaw_law_549 (by decide) ?_
    refine zk_iload_3 19 dc_CmLaw_law_18 rfl rfl ?_
    refine zk_aload_0 20 dc_CmLaw_law_19 rfl rfl ?_
    refine zk_slen 21 dc_CmLaw_law_20 rfl ?_
    refine zk_iconst (v := 5) 22 dc_CmLaw_law_21 (by decide) rfl ?_
    refine zk_isub 23 dc_CmLaw_law_22 rfl ?_
    refine zk_icmp_gt 552 26 dc_CmLaw_law_23 (by decide) rfl (fun hx => ?_) (fun hx => by first | exact absurd hx (show nI 5 - 5 < (0 : Int32) + 5 by decide) | exact absurd (show nI 5 - 5 < (0 : Int32) + 5 by decide) hx)
    refine zk_iconst (v := 1) 553 dc_CmLaw_law_552 (by decide) rfl ?_
    exact zk_ireturn dc_CmLaw_law_553 rfl rfl (hR _ _ _ (by omega) (by omega))
  by_cases t3 : y = 3
  · refine zk_tableIn 243 3 t3 dc_CmLaw_law_32 (by decide) (by decide) rfl (by decide) ?_
    refine zk_aload_1 244 dc_CmLaw_law_243 rfl rfl ?_
    refine zk_aload_0 245 dc_CmLaw_law_244 rfl rfl ?_
    refine zk_iload_3 246 dc_CmLaw_law_245 rfl rfl ?_
    refine zk_iconst (v := 1) 247 dc_CmLaw_law_246 (by decide) rfl ?_
    refine zk_iadd 248 dc_CmLaw_law_247 rfl ?_
    refine zk_sload 249 dc_CmLaw_law_248 (show vp_in ((0 : Int32) + 1) 5 by unfold vp_in; decide) rfl ?_
    refine zk_aload_0 250 dc_CmLaw_law_249 rfl rfl ?_
    refine zk_iload_3 251 dc_CmLaw_law_250 rfl rfl ?_
    refine zk_iconst (v := 2) 252 dc_CmLaw_law_251 (by decide) rfl ?_
    refine zk_iadd 253 dc_CmLaw_law_252 rfl ?_
    refine zk_sload 254 dc_CmLaw_law_253 (show vp_in ((0 : Int32) + 2) 5 by unfold vp_in; decide) rfl ?_
    refine zk_cVr 257 (f_lift ha ht hq0 hr0 hq1 hr1 hg hga hlt (by omega)) dc_CmLaw_law_254 ok_Cm_lift lk_CmLaw_27 ha rfl rfl rfl ⟨Nat.le_of_ble_eq_true rfl, Nat.le_of_ble_eq_true rfl⟩ (Nat.le_of_ble_eq_true rfl) rfl (fun v M1 hk => ?_)
    obtain ⟨rfl, w2, s2, g, rfl, hw2, hs2, p⟩ := hk
    have ma := (p (a2) (by omega) (by omega) ).trans ma
    have mr := (p (n2) (by omega) (by omega) ).trans mr
    have mk := (p (n2 + 1) (by omega) (by omega) ).trans mk
    have mv := (p (n2 + 2) (by omega) (by omega) ).trans mv
    have ms := (p (n2 + 3) (by omega) (by omega) ).trans ms
    have ml := (p (n2 + 4) (by omega) (by omega) ).trans ml
    have m5 := (p (n2 + 5) (by omega) (by omega) ).trans m5
    have m6 := (p (n2 + 6) (by omega) (by omega) ).trans m6
    have m7 := (p (n2 + 7) (by omega) (by omega) ).trans m7
    have m8 := (p (n2 + 8) (by omega) (by omega) ).trans m8
    have m10 := (p (n2 + 10) (by omega) (by omega) ).trans m10
    have m12 := (p (n2 + 12) (by omega) (by omega) ).trans m12
    have m13 := (p (n2 + 13) (by omega) (by omega) ).trans m13
    have m14 := (p (n2 + 14) (by omega) (by omega) ).trans m14
    have m15 := (p (n2 + 15) (by omega) (by omega) ).trans m15
    refine zk_aload_2 258 dc_CmLaw_law_257 rfl rfl ?_
    refine zk_aload_0 259 dc_CmLaw_law_258 rfl rfl ?_
    refine zk_iload_3 260 dc_CmLaw_law_259 rfl rfl ?_
    refine zk_iconst (v := 1) 261 dc_CmLaw_law_260 (by decide) rfl ?_
    refine zk_iadd 262 dc_CmLaw_law_261 rfl ?_
    refine zk_sload 263 dc_CmLaw_law_262 (show vp_in ((0 : Int32) + 1) 5 by unfold vp_in; decide) rfl ?_
    refine zk_aload_0 264 dc_CmLaw_law_263 rfl rfl ?_
    refine zk_iload_3 265 dc_CmLaw_law_264 rfl rfl ?_
    refine zk_iconst (v := 2) 266 dc_CmLaw_law_265 (by decide) rfl ?_
    refine zk_iadd 267 dc_CmLaw_law_266 rfl ?_
    refine zk_sload 268 dc_CmLaw_law_267 (show vp_in ((0 : Int32) + 2) 5 by unfold vp_in; decide) rfl ?_
    refine zk_cVr 271 (r_lift ma ) dc_CmLaw_law_268 ok_Mo_lift lk_CmLaw_31 ma rfl rfl rfl ⟨Nat.le_of_ble_eq_true rfl, Nat.le_of_ble_eq_true rfl⟩ (Nat.le_of_ble_eq_true rfl) rfl (fun v M1 hk => ?_)
    obtain ⟨rfl, g2, rfl⟩ := hk
    refine zk_icmp_eq 546 274 dc_CmLaw_law_271 (by decide) rfl (fun hx => ?_) (fun hx => by first | exact absurd hx rfl | exact absurd rfl hx)
    refine zk_iinc_3 (v := 5) 549 dc_CmLaw_law_546 (by decide) (Nat.le_of_ble_eq_true rfl) rfl ?_
    refine zk_goto 18 dc_CmLaw_law_549 (by decide) ?_
    refine zk_iload_3 19 dc_CmLaw_law_18 rfl rfl ?_
    refine zk_aload_0 20 dc_CmLaw_law_19 rfl rfl ?_
    refine zk_slen 21 dc_CmLaw_law_20 rfl ?_
    refine zk_iconst (v := 5) 22 dc_CmLaw_law_21 (by decide) rfl ?_
    refine zk_isub 23 dc_CmLaw_law_22 rfl ?_
    refine zk_icmp_gt 552 26 dc_CmLaw_law_23 (by decide) rfl (fun hx => ?_) (fun hx => by first | exact absurd hx (show nI 5 - 5 < (0 : Int32) + 5 by decide) | exact absurd (show nI 5 - 5 < (0 : Int32) + 5 by decide) hx)
    refine zk_iconst (v := 1) 553 dc_CmLaw_law_552 (by decide) rfl ?_
    exact zk_ireturn dc_CmLaw_law_553 rfl rfl (hR _ _ _ (by omega) (by omega))
  by_cases t4 : y = 4
  · refine zk_tableIn 276 4 t4 dc_CmLaw_law_32 (by decide) (by decide) rfl (by decide) ?_
    refine zk_aload_1 277 dc_CmLaw_law_276 rfl rfl ?_
    refine zk_cVr 280 (f_axiom ha ht hq0 hr0 hq1 hr1 hg hga hlt (by omega)) dc_CmLaw_law_277 ok_Cm_axiom lk_CmLaw_32 ha rfl rfl rfl ⟨Nat.le_of_ble_eq_true rfl, Nat.le_of_ble_eq_true rfl⟩ (Nat.le_of_ble_eq_true rfl) rfl (fun v M1 hk => ?_)
    obtain ⟨rfl, w2, s2, g, rfl, hw2, hs2, p⟩ := hk
    have ma := (p (a2) (by omega) (by omega) ).trans ma
    have mr := (p (n2) (by omega) (by omega) ).trans mr
    have mk := (p (n2 + 1) (by omega) (by omega) ).trans mk
    have mv := (p (n2 + 2) (by omega) (by omega) ).trans mv
    have ms := (p (n2 + 3) (by omega) (by omega) ).trans ms
    have ml := (p (n2 + 4) (by omega) (by omega) ).trans ml
    have m5 := (p (n2 + 5) (by omega) (by omega) ).trans m5
    have m6 := (p (n2 + 6) (by omega) (by omega) ).trans m6
    have m7 := (p (n2 + 7) (by omega) (by omega) ).trans m7
    have m8 := (p (n2 + 8) (by omega) (by omega) ).trans m8
    have m10 := (p (n2 + 10) (by omega) (by omega) ).trans m10
    have m12 := (p (n2 + 12) (by omega) (by omega) ).trans m12
    have m13 := (p (n2 + 13) (by omega) (by omega) ).trans m13
    have m14 := (p (n2 + 14) (by omega) (by omega) ).trans m14
    have m15 := (p (n2 + 15) (by omega) (by omega) ).trans m15
    refine zk_aload_2 281 dc_CmLaw_law_280 rfl rfl ?_
    refine zk_cVr 284 (r_axiom ma m8 m10 hlt2) dc_CmLaw_law_281 ok_Mo_axiom lk_CmLaw_36 ma rfl rfl rfl ⟨Nat.le_of_ble_eq_true rfl, Nat.le_of_ble_eq_true rfl⟩ (Nat.le_of_ble_eq_true rfl) rfl (fun v M1 hk => ?_)
    obtain ⟨rfl, g2, rfl⟩ := hk
    refine zk_icmp_eq 546 287 dc_CmLaw_law_284 (by decide) rfl (fun hx => ?_) (fun hx => by first | exact absurd hx rfl | exact absurd rfl hx)
    refine zk_iinc_3 (v := 5) 549 dc_CmLaw_law_546 (by decide) (Nat.le_of_ble_eq_true rfl) rfl ?_
    refine zk_goto 18 dc_CmLaw_law_549 (by decide) ?_
    refine zk_iload_3 19 dc_CmLaw_law_18 rfl rfl ?_
    refine zk_aload_0 20 dc_CmLaw_law_19 rfl rfl ?_
    refine zk_slen 21 dc_CmLaw_law_20 rfl ?_
    refine zk_iconst (v := 5) 22 dc_CmLaw_law_21 (by decide) rfl ?_
    refine zk_isub 23 dc_CmLaw_law_22 rfl ?_
    refine zk_icmp_gt 552 26 dc_CmLaw_law_23 (by decide) rfl (fun hx => ?_) (fun hx => by first | exact absurd hx (show nI 5 - 5 < (0 : Int32) + 5 by decide) | exact absurd (show nI 5 - 5 < (0 : Int32) + 5 by decide) hx)
    refine zk_iconst (v := 1) 553 dc_CmLaw_law_552 (by decide) rfl ?_
    exact zk_ireturn dc_CmLaw_law_553 rfl rfl (hR _ _ _ (by omega) (by omega))
  by_cases t5 : y = 5
  · refine zk_tableIn 289 5 t5 dc_CmLaw_law_32 (by decide) (by decide) rfl (by decide) ?_
    refine zk_aload_1 290 dc_CmLaw_law_289 rfl rfl ?_
    refine zk_aload_0 291 dc_CmLaw_law_290 rfl rfl ?_
    refine zk_iload_3 292 dc_CmLaw_law_291 rfl rfl ?_
    refine zk_iconst (v := 1) 293 dc_CmLaw_law_292 (by decide) rfl ?_
    refine zk_iadd 294 dc_CmLaw_law_293 rfl ?_
    refine zk_sload 295 dc_CmLaw_law_294 (show vp_in ((0 : Int32) + 1) 5 by unfold vp_in; decide) rfl ?_
    refine zk_cVr 298 (f_def ha ht hq0 hr0 hq1 hr1 hg hga hlt (by omega)) dc_CmLaw_law_295 ok_Cm_def lk_CmLaw_37 ha rfl rfl rfl ⟨Nat.le_of_ble_eq_true rfl, Nat.le_of_ble_eq_true rfl⟩ (Nat.le_of_ble_eq_true rfl) rfl (fun v M1 hk => ?_)
    obtain ⟨rfl, w2, s2, g, rfl, hw2, hs2, p⟩ := hk
    have ma := (p (a2) (by omega) (by omega) ).trans ma
    have mr := (p (n2) (by omega) (by omega) ).trans mr
    have mk := (p (n2 + 1) (by omega) (by omega) ).trans mk
    have mv := (p (n2 + 2) (by omega) (by omega) ).trans mv
    have ms := (p (n2 + 3) (by omega) (by omega) ).trans ms
    have ml := (p (n2 + 4) (by omega) (by omega) ).trans ml
    have m5 := (p (n2 + 5) (by omega) (by omega) ).trans m5
    have m6 := (p (n2 + 6) (by omega) (by omega) ).trans m6
    have m7 := (p (n2 + 7) (by omega) (by omega) ).trans m7
    have m8 := (p (n2 + 8) (by omega) (by omega) ).trans m8
    have m10 := (p (n2 + 10) (by omega) (by omega) ).trans m10
    have m12 := (p (n2 + 12) (by omega) (by omega) ).trans m12
    have m13 := (p (n2 + 13) (by omega) (by omega) ).trans m13
    have m14 := (p (n2 + 14) (by omega) (by omega) ).trans m14
    have m15 := (p (n2 + 15) (by omega) (by omega) ).trans m15
    refine zk_aload_2 299 dc_CmLaw_law_298 rfl rfl ?_
    refine zk_aload_0 300 dc_CmLaw_law_299 rfl rfl ?_
    refine zk_iload_3 301 dc_CmLaw_law_300 rfl rfl ?_
    refine zk_iconst (v := 1) 302 dc_CmLaw_law_301 (by decide) rfl ?_
    refine zk_iadd 303 dc_CmLaw_law_302 rfl ?_
    refine zk_sload 304 dc_CmLaw_law_303 (show vp_in ((0 : Int32) + 1) 5 by unfold vp_in; decide) rfl ?_
    refine zk_cVr 307 (r_def ma ) dc_CmLaw_law_304 ok_Mo_def lk_CmLaw_41 ma rfl rfl rfl ⟨Nat.le_of_ble_eq_true rfl, Nat.le_of_ble_eq_true rfl⟩ (Nat.le_of_ble_eq_true rfl) rfl (fun v M1 hk => ?_)
    obtain ⟨rfl, g2, rfl⟩ := hk
    refine zk_icmp_eq 546 310 dc_CmLaw_law_307 (by decide) rfl (fun hx => ?_) (fun hx => by first | exact absurd hx rfl | exact absurd rfl hx)
    refine zk_iinc_3 (v := 5) 549 dc_CmLaw_law_546 (by decide) (Nat.le_of_ble_eq_true rfl) rfl ?_
    refine zk_goto 18 dc_CmLaw_law_549 (by decide) ?_
    refine zk_iload_3 19 dc_CmLaw_law_18 rfl rfl ?_
    refine zk_aload_0 20 dc_CmLaw_law_19 rfl rfl ?_
    refine zk_slen 21 dc_CmLaw_law_20 rfl ?_
    refine zk_iconst (v := 5) 22 dc_CmLaw_law_21 (by decide) rfl ?_
    refine zk_isub 23 dc_CmLaw_law_22 rfl ?_
    refine zk_icmp_gt 552 26 dc_CmLaw_law_23 (by decide) rfl (fun hx => ?_) (fun hx => by first | exact absurd hx (show nI 5 - 5 < (0 : Int32) + 5 by decide) | exact absurd (show nI 5 - 5 < (0 : Int32) + 5 by decide) hx)
    refine zk_iconst (v := 1) 553 dc_CmLaw_law_552 (by decide) rfl ?_
    exact zk_ireturn dc_CmLaw_law_553 rfl rfl (hR _ _ _ (by omega) (by omega))
  by_cases t6 : y = 6
  · refine zk_tableIn 312 6 t6 dc_CmLaw_law_32 (by decide) (by decide) rfl (by decide) ?_
    refine zk_aload_1 313 dc_CmLaw_law_312 rfl rfl ?_
    refine zk_aload_0 314 dc_CmLaw_law_313 rfl rfl ?_
    refine zk_iload_3 315 dc_CmLaw_law_314 rfl rfl ?_
    refine zk_iconst (v := 1) 316 dc_CmLaw_law_315 (by decide) rfl ?_
    refine zk_iadd 317 dc_CmLaw_law_316 rfl ?_
    refine zk_sload 318 dc_CmLaw_law_317 (show vp_in ((0 : Int32) + 1) 5 by unfold vp_in; decide) rfl ?_
    refine zk_aload_0 319 dc_CmLaw_law_318 rfl rfl ?_
    refine zk_iload_3 320 dc_CmLaw_law_319 rfl rfl ?_
    refine zk_iconst (v := 2) 321 dc_CmLaw_law_320 (by decide) rfl ?_
    refine zk_iadd 322 dc_CmLaw_law_321 rfl ?_
    refine zk_sload 323 dc_CmLaw_law_322 (show vp_in ((0 : Int32) + 2) 5 by unfold vp_in; decide) rfl ?_
    refine zk_aload_0 324 dc_CmLaw_law_323 rfl rfl ?_
    refine zk_iload_3 325 dc_CmLaw_law_324 rfl rfl ?_
    refine zk_iconst (v := 3) 326 dc_CmLaw_law_325 (by decide) rfl ?_
    refine zk_iadd 327 dc_CmLaw_law_326 rfl ?_
    refine zk_sload 328 dc_CmLaw_law_327 (show vp_in ((0 : Int32) + 3) 5 by unfold vp_in; decide) rfl ?_
    refine zk_cVr 331 (f_family ha ht hq0 hr0 hq1 hr1 hg hga hlt (by omega)) dc_CmLaw_law_328 ok_Cm_family lk_CmLaw_42 ha rfl rfl rfl ⟨Nat.le_of_ble_eq_true rfl, Nat.le_of_ble_eq_true rfl⟩ (Nat.le_of_ble_eq_true rfl) rfl (fun v M1 hk => ?_)
    obtain ⟨rfl, w2, s2, g, rfl, hw2, hs2, p⟩ := hk
    have ma := (p (a2) (by omega) (by omega) ).trans ma
    have mr := (p (n2) (by omega) (by omega) ).trans mr
    have mk := (p (n2 + 1) (by omega) (by omega) ).trans mk
    have mv := (p (n2 + 2) (by omega) (by omega) ).trans mv
    have ms := (p (n2 + 3) (by omega) (by omega) ).trans ms
    have ml := (p (n2 + 4) (by omega) (by omega) ).trans ml
    have m5 := (p (n2 + 5) (by omega) (by omega) ).trans m5
    have m6 := (p (n2 + 6) (by omega) (by omega) ).trans m6
    have m7 := (p (n2 + 7) (by omega) (by omega) ).trans m7
    have m8 := (p (n2 + 8) (by omega) (by omega) ).trans m8
    have m10 := (p (n2 + 10) (by omega) (by omega) ).trans m10
    have m12 := (p (n2 + 12) (by omega) (by omega) ).trans m12
    have m13 := (p (n2 + 13) (by omega) (by omega) ).trans m13
    have m14 := (p (n2 + 14) (by omega) (by omega) ).trans m14
    have m15 := (p (n2 + 15) (by omega) (by omega) ).trans m15
    refine zk_aload_2 332 dc_CmLaw_law_331 rfl rfl ?_
    refine zk_aload_0 333 dc_CmLaw_law_332 rfl rfl ?_
    refine zk_iload_3 334 dc_CmLaw_law_333 rfl rfl ?_
    refine zk_iconst (v := 1) 335 dc_CmLaw_law_334 (by decide) rfl ?_
    refine zk_iadd 336 dc_CmLaw_law_335 rfl ?_
    refine zk_sload 337 dc_CmLaw_law_336 (show vp_in ((0 : Int32) + 1) 5 by unfold vp_in; decide) rfl ?_
    refine zk_aload_0 338 dc_CmLaw_law_337 rfl rfl ?_
    refine zk_iload_3 339 dc_CmLaw_law_338 rfl rfl ?_
    refine zk_iconst (v := 2) 340 dc_CmLaw_law_339 (by decide) rfl ?_
    refine zk_iadd 341 dc_CmLaw_law_340 rfl ?_
    refine zk_sload 342 dc_CmLaw_law_341 (show vp_in ((0 : Int32) + 2) 5 by unfold vp_in; decide) rfl ?_
    refine zk_aload_0 343 dc_CmLaw_law_342 rfl rfl ?_
    refine zk_iload_3 344 dc_CmLaw_law_343 rfl rfl ?_
    refine zk_iconst (v := 3) 345 dc_CmLaw_law_344 (by decide) rfl ?_
    refine zk_iadd 346 dc_CmLaw_law_345 rfl ?_
    refine zk_sload 347 dc_CmLaw_law_346 (show vp_in ((0 : Int32) + 3) 5 by unfold vp_in; decide) rfl ?_
    refine zk_cVr 350 (r_family ma m8 m10 m12 m13 m14 m15 hlt2) dc_CmLaw_law_347 ok_Mo_family lk_CmLaw_45 ma rfl rfl rfl ⟨Nat.le_of_ble_eq_true rfl, Nat.le_of_ble_eq_true rfl⟩ (Nat.le_of_ble_eq_true rfl) rfl (fun v M1 hk => ?_)
    obtain ⟨rfl, g2, rfl⟩ := hk
    refine zk_icmp_eq 546 353 dc_CmLaw_law_350 (by decide) rfl (fun hx => ?_) (fun hx => by first | exact absurd hx rfl | exact absurd rfl hx)
    refine zk_iinc_3 (v := 5) 549 dc_CmLaw_law_546 (by decide) (Nat.le_of_ble_eq_true rfl) rfl ?_
    refine zk_goto 18 dc_CmLaw_law_549 (by decide) ?_
    refine zk_iload_3 19 dc_CmLaw_law_18 rfl rfl ?_
    refine zk_aload_0 20 dc_CmLaw_law_19 rfl rfl ?_
    refine zk_slen 21 dc_CmLaw_law_20 rfl ?_
    refine zk_iconst (v := 5) 22 dc_CmLaw_law_21 (by decide) rfl ?_
    refine zk_isub 23 dc_CmLaw_law_22 rfl ?_
    refine zk_icmp_gt 552 26 dc_CmLaw_law_23 (by decide) rfl (fun hx => ?_) (fun hx => by first | exact absurd hx (show nI 5 - 5 < (0 : Int32) + 5 by decide) | exact absurd (show nI 5 - 5 < (0 : Int32) + 5 by decide) hx)
    refine zk_iconst (v := 1) 553 dc_CmLaw_law_552 (by decide) rfl ?_
    exact zk_ireturn dc_CmLaw_law_553 rfl rfl (hR _ _ _ (by omega) (by omega))
  by_cases t7 : y = 7
  · refine zk_tableIn 355 7 t7 dc_CmLaw_law_32 (by decide) (by decide) rfl (by decide) ?_
    refine zk_aload_1 356 dc_CmLaw_law_355 rfl rfl ?_
    refine zk_aload_0 357 dc_CmLaw_law_356 rfl rfl ?_
    refine zk_iload_3 358 dc_CmLaw_law_357 rfl rfl ?_
    refine zk_iconst (v := 1) 359 dc_CmLaw_law_358 (by decide) rfl ?_
    refine zk_iadd 360 dc_CmLaw_law_359 rfl ?_
    refine zk_sload 361 dc_CmLaw_law_360 (show vp_in ((0 : Int32) + 1) 5 by unfold vp_in; decide) rfl ?_
    refine zk_aload_0 362 dc_CmLaw_law_361 rfl rfl ?_
    refine zk_iload_3 363 dc_CmLaw_law_362 rfl rfl ?_
    refine zk_iconst (v := 2) 364 dc_CmLaw_law_363 (by decide) rfl ?_
    refine zk_iadd 365 dc_CmLaw_law_364 rfl ?_
    refine zk_sload 366 dc_CmLaw_law_365 (show vp_in ((0 : Int32) + 2) 5 by unfold vp_in; decide) rfl ?_
    refine zk_cVr 369 (f_constructor ha ht hq0 hr0 hq1 hr1 hg hga hlt (by omega)) dc_CmLaw_law_366 ok_Cm_constructor lk_CmLaw_46 ha rfl rfl rfl ⟨Nat.le_of_ble_eq_true rfl, Nat.le_of_ble_eq_true rfl⟩ (Nat.le_of_ble_eq_true rfl) rfl (fun v M1 hk => ?_)
    obtain ⟨rfl, w2, s2, g, rfl, hw2, hs2, p⟩ := hk
    have ma := (p (a2) (by omega) (by omega) ).trans ma
    have mr := (p (n2) (by omega) (by omega) ).trans mr
    have mk := (p (n2 + 1) (by omega) (by omega) ).trans mk
    have mv := (p (n2 + 2) (by omega) (by omega) ).trans mv
    have ms := (p (n2 + 3) (by omega) (by omega) ).trans ms
    have ml := (p (n2 + 4) (by omega) (by omega) ).trans ml
    have m5 := (p (n2 + 5) (by omega) (by omega) ).trans m5
    have m6 := (p (n2 + 6) (by omega) (by omega) ).trans m6
    have m7 := (p (n2 + 7) (by omega) (by omega) ).trans m7
    have m8 := (p (n2 + 8) (by omega) (by omega) ).trans m8
    have m10 := (p (n2 + 10) (by omega) (by omega) ).trans m10
    have m12 := (p (n2 + 12) (by omega) (by omega) ).trans m12
    have m13 := (p (n2 + 13) (by omega) (by omega) ).trans m13
    have m14 := (p (n2 + 14) (by omega) (by omega) ).trans m14
    have m15 := (p (n2 + 15) (by omega) (by omega) ).trans m15
    refine zk_aload_2 370 dc_CmLaw_law_369 rfl rfl ?_
    refine zk_aload_0 371 dc_CmLaw_law_370 rfl rfl ?_
    refine zk_iload_3 372 dc_CmLaw_law_371 rfl rfl ?_
    refine zk_iconst (v := 1) 373 dc_CmLaw_law_372 (by decide) rfl ?_
    refine zk_iadd 374 dc_CmLaw_law_373 rfl ?_
    refine zk_sload 375 dc_CmLaw_law_374 (show vp_in ((0 : Int32) + 1) 5 by unfold vp_in; decide) rfl ?_
    refine zk_aload_0 376 dc_CmLaw_law_375 rfl rfl ?_
    refine zk_iload_3 377 dc_CmLaw_law_376 rfl rfl ?_
    refine zk_iconst (v := 2) 378 dc_CmLaw_law_377 (by decide) rfl ?_
    refine zk_iadd 379 dc_CmLaw_law_378 rfl ?_
    refine zk_sload 380 dc_CmLaw_law_379 (show vp_in ((0 : Int32) + 2) 5 by unfold vp_in; decide) rfl ?_
    refine zk_cVr 383 (r_constructor ma ) dc_CmLaw_law_380 ok_Mo_constructor lk_CmLaw_49 ma rfl rfl rfl ⟨Nat.le_of_ble_eq_true rfl, Nat.le_of_ble_eq_true rfl⟩ (Nat.le_of_ble_eq_true rfl) rfl (fun v M1 hk => ?_)
    obtain ⟨rfl, g2, rfl⟩ := hk
    refine zk_icmp_eq 546 386 dc_CmLaw_law_383 (by decide) rfl (fun hx => ?_) (fun hx => by first | exact absurd hx rfl | exact absurd rfl hx)
    refine zk_iinc_3 (v := 5) 549 dc_CmLaw_law_546 (by decide) (Nat.le_of_ble_eq_true rfl) rfl ?_
    refine zk_goto 18 dc_CmLaw_law_549 (by decide) ?_
    refine zk_iload_3 19 dc_CmLaw_law_18 rfl rfl ?_
    refine zk_aload_0 20 dc_CmLaw_law_19 rfl rfl ?_
    refine zk_slen 21 dc_CmLaw_law_20 rfl ?_
    refine zk_iconst (v := 5) 22 dc_CmLaw_law_21 (by decide) rfl ?_
    refine zk_isub 23 dc_CmLaw_law_22 rfl ?_
    refine zk_icmp_gt 552 26 dc_CmLaw_law_23 (by decide) rfl (fun hx => ?_) (fun hx => by first | exact absurd hx (show nI 5 - 5 < (0 : Int32) + 5 by decide) | exact absurd (show nI 5 - 5 < (0 : Int32) + 5 by decide) hx)
    refine zk_iconst (v := 1) 553 dc_CmLaw_law_552 (by decide) rfl ?_
    exact zk_ireturn dc_CmLaw_law_553 rfl rfl (hR _ _ _ (by omega) (by omega))
  by_cases t8 : y = 8
  · refine zk_tableIn 388 8 t8 dc_CmLaw_law_32 (by decide) (by decide) rfl (by decide) ?_
    refine zk_aload_1 389 dc_CmLaw_law_388 rfl rfl ?_
    refine zk_aload_0 390 dc_CmLaw_law_389 rfl rfl ?_
    refine zk_iload_3 391 dc_CmLaw_law_390 rfl rfl ?_
    refine zk_iconst (v := 1) 392 dc_CmLaw_law_391 (by decide) rfl ?_
    refine zk_iadd 393 dc_CmLaw_law_392 rfl ?_
    refine zk_sload 394 dc_CmLaw_law_393 (show vp_in ((0 : Int32) + 1) 5 by unfold vp_in; decide) rfl ?_
    refine zk_aload_0 395 dc_CmLaw_law_394 rfl rfl ?_
    refine zk_iload_3 396 dc_CmLaw_law_395 rfl rfl ?_
    refine zk_iconst (v := 2) 397 dc_CmLaw_law_396 (by decide) rfl ?_
    refine zk_iadd 398 dc_CmLaw_law_397 rfl ?_
    refine zk_sload 399 dc_CmLaw_law_398 (show vp_in ((0 : Int32) + 2) 5 by unfold vp_in; decide) rfl ?_
    refine zk_cVr 402 (f_head ha ht hq0 hr0 hq1 hr1 hg hga hlt (by omega)) dc_CmLaw_law_399 ok_Cm_head lk_CmLaw_50 ha rfl rfl rfl ⟨Nat.le_of_ble_eq_true rfl, Nat.le_of_ble_eq_true rfl⟩ (Nat.le_of_ble_eq_true rfl) rfl (fun v M1 hk => ?_)
    obtain ⟨rfl, w2, s2, g, rfl, hw2, hs2, p⟩ := hk
    have ma := (p (a2) (by omega) (by omega) ).trans ma
    have mr := (p (n2) (by omega) (by omega) ).trans mr
    have mk := (p (n2 + 1) (by omega) (by omega) ).trans mk
    have mv := (p (n2 + 2) (by omega) (by omega) ).trans mv
    have ms := (p (n2 + 3) (by omega) (by omega) ).trans ms
    have ml := (p (n2 + 4) (by omega) (by omega) ).trans ml
    have m5 := (p (n2 + 5) (by omega) (by omega) ).trans m5
    have m6 := (p (n2 + 6) (by omega) (by omega) ).trans m6
    have m7 := (p (n2 + 7) (by omega) (by omega) ).trans m7
    have m8 := (p (n2 + 8) (by omega) (by omega) ).trans m8
    have m10 := (p (n2 + 10) (by omega) (by omega) ).trans m10
    have m12 := (p (n2 + 12) (by omega) (by omega) ).trans m12
    have m13 := (p (n2 + 13) (by omega) (by omega) ).trans m13
    have m14 := (p (n2 + 14) (by omega) (by omega) ).trans m14
    have m15 := (p (n2 + 15) (by omega) (by omega) ).trans m15
    refine zk_aload_2 403 dc_CmLaw_law_402 rfl rfl ?_
    refine zk_aload_0 404 dc_CmLaw_law_403 rfl rfl ?_
    refine zk_iload_3 405 dc_CmLaw_law_404 rfl rfl ?_
    refine zk_iconst (v := 1) 406 dc_CmLaw_law_405 (by decide) rfl ?_
    refine zk_iadd 407 dc_CmLaw_law_406 rfl ?_
    refine zk_sload 408 dc_CmLaw_law_407 (show vp_in ((0 : Int32) + 1) 5 by unfold vp_in; decide) rfl ?_
    refine zk_aload_0 409 dc_CmLaw_law_408 rfl rfl ?_
    refine zk_iload_3 410 dc_CmLaw_law_409 rfl rfl ?_
    refine zk_iconst (v := 2) 411 dc_CmLaw_law_410 (by decide) rfl ?_
    refine zk_iadd 412 dc_CmLaw_law_411 rfl ?_
    refine zk_sload 413 dc_CmLaw_law_412 (show vp_in ((0 : Int32) + 2) 5 by unfold vp_in; decide) rfl ?_
    refine zk_cVr 416 (r_head ma ) dc_CmLaw_law_413 ok_Mo_head lk_CmLaw_53 ma rfl rfl rfl ⟨Nat.le_of_ble_eq_true rfl, Nat.le_of_ble_eq_true rfl⟩ (Nat.le_of_ble_eq_true rfl) rfl (fun v M1 hk => ?_)
    obtain ⟨rfl, g2, rfl⟩ := hk
    refine zk_icmp_eq 546 419 dc_CmLaw_law_416 (by decide) rfl (fun hx => ?_) (fun hx => by first | exact absurd hx rfl | exact absurd rfl hx)
    refine zk_iinc_3 (v := 5) 549 dc_CmLaw_law_546 (by decide) (Nat.le_of_ble_eq_true rfl) rfl ?_
    refine zk_goto 18 dc_CmLaw_law_549 (by decide) ?_
    refine zk_iload_3 19 dc_CmLaw_law_18 rfl rfl ?_
    refine zk_aload_0 20 dc_CmLaw_law_19 rfl rfl ?_
    refine zk_slen 21 dc_CmLaw_law_20 rfl ?_
    refine zk_iconst (v := 5) 22 dc_CmLaw_law_21 (by decide) rfl ?_
    refine zk_isub 23 dc_CmLaw_law_22 rfl ?_
    refine zk_icmp_gt 552 26 dc_CmLaw_law_23 (by decide) rfl (fun hx => ?_) (fun hx => by first | exact absurd hx (show nI 5 - 5 < (0 : Int32) + 5 by decide) | exact absurd (show nI 5 - 5 < (0 : Int32) + 5 by decide) hx)
    refine zk_iconst (v := 1) 553 dc_CmLaw_law_552 (by decide) rfl ?_
    exact zk_ireturn dc_CmLaw_law_553 rfl rfl (hR _ _ _ (by omega) (by omega))
  by_cases t9 : y = 9
  · refine zk_tableIn 421 9 t9 dc_CmLaw_law_32 (by decide) (by decide) rfl (by decide) ?_
    refine zk_aload_1 422 dc_CmLaw_law_421 rfl rfl ?_
    refine zk_aload_0 423 dc_CmLaw_law_422 rfl rfl ?_
    refine zk_iload_3 424 dc_CmLaw_law_423 rfl rfl ?_
    refine zk_iconst (v := 1) 425 dc_CmLaw_law_424 (by decide) rfl ?_
    refine zk_iadd 426 dc_CmLaw_law_425 rfl ?_
    refine zk_sload 427 dc_CmLaw_law_426 (show vp_in ((0 : Int32) + 1) 5 by unfold vp_in; decide) rfl ?_
    refine zk_cVr 430 (f_found ha ht hq0 hr0 hq1 hr1 hg hga hlt (by omega)) dc_CmLaw_law_427 ok_Cm_found lk_CmLaw_54 ha rfl rfl rfl ⟨Nat.le_of_ble_eq_true rfl, Nat.le_of_ble_eq_true rfl⟩ (Nat.le_of_ble_eq_true rfl) rfl (fun v M1 hk => ?_)
    obtain ⟨rfl, w2, s2, g, rfl, hw2, hs2, p⟩ := hk
    have ma := (p (a2) (by omega) (by omega) ).trans ma
    have mr := (p (n2) (by omega) (by omega) ).trans mr
    have mk := (p (n2 + 1) (by omega) (by omega) ).trans mk
    have mv := (p (n2 + 2) (by omega) (by omega) ).trans mv
    have ms := (p (n2 + 3) (by omega) (by omega) ).trans ms
    have ml := (p (n2 + 4) (by omega) (by omega) ).trans ml
    have m5 := (p (n2 + 5) (by omega) (by omega) ).trans m5
    have m6 := (p (n2 + 6) (by omega) (by omega) ).trans m6
    have m7 := (p (n2 + 7) (by omega) (by omega) ).trans m7
    have m8 := (p (n2 + 8) (by omega) (by omega) ).trans m8
    have m10 := (p (n2 + 10) (by omega) (by omega) ).trans m10
    have m12 := (p (n2 + 12) (by omega) (by omega) ).trans m12
    have m13 := (p (n2 + 13) (by omega) (by omega) ).trans m13
    have m14 := (p (n2 + 14) (by omega) (by omega) ).trans m14
    have m15 := (p (n2 + 15) (by omega) (by omega) ).trans m15
    refine zk_aload_2 431 dc_CmLaw_law_430 rfl rfl ?_
    refine zk_aload_0 432 dc_CmLaw_law_431 rfl rfl ?_
    refine zk_iload_3 433 dc_CmLaw_law_432 rfl rfl ?_
    refine zk_iconst (v := 1) 434 dc_CmLaw_law_433 (by decide) rfl ?_
    refine zk_iadd 435 dc_CmLaw_law_434 rfl ?_
    refine zk_sload 436 dc_CmLaw_law_435 (show vp_in ((0 : Int32) + 1) 5 by unfold vp_in; decide) rfl ?_
    refine zk_cVr 439 (r_found ma ) dc_CmLaw_law_436 ok_Mo_found lk_CmLaw_57 ma rfl rfl rfl ⟨Nat.le_of_ble_eq_true rfl, Nat.le_of_ble_eq_true rfl⟩ (Nat.le_of_ble_eq_true rfl) rfl (fun v M1 hk => ?_)
    obtain ⟨rfl, g2, rfl⟩ := hk
    refine zk_icmp_eq 546 442 dc_CmLaw_law_439 (by decide) rfl (fun hx => ?_) (fun hx => by first | exact absurd hx rfl | exact absurd rfl hx)
    refine zk_iinc_3 (v := 5) 549 dc_CmLaw_law_546 (by decide) (Nat.le_of_ble_eq_true rfl) rfl ?_
    refine zk_goto 18 dc_CmLaw_law_549 (by decide) ?_
    refine zk_iload_3 19 dc_CmLaw_law_18 rfl rfl ?_
    refine zk_aload_0 20 dc_CmLaw_law_19 rfl rfl ?_
    refine zk_slen 21 dc_CmLaw_law_20 rfl ?_
    refine zk_iconst (v := 5) 22 dc_CmLaw_law_21 (by decide) rfl ?_
    refine zk_isub 23 dc_CmLaw_law_22 rfl ?_
    refine zk_icmp_gt 552 26 dc_CmLaw_law_23 (by decide) rfl (fun hx => ?_) (fun hx => by first | exact absurd hx (show nI 5 - 5 < (0 : Int32) + 5 by decide) | exact absurd (show nI 5 - 5 < (0 : Int32) + 5 by decide) hx)
    refine zk_iconst (v := 1) 553 dc_CmLaw_law_552 (by decide) rfl ?_
    exact zk_ireturn dc_CmLaw_law_553 rfl rfl (hR _ _ _ (by omega) (by omega))
  by_cases t10 : y = 10
  · refine zk_tableIn 444 10 t10 dc_CmLaw_law_32 (by decide) (by decide) rfl (by decide) ?_
    refine zk_aload_1 445 dc_CmLaw_law_444 rfl rfl ?_
    refine zk_aload_0 446 dc_CmLaw_law_445 rfl rfl ?_
    refine zk_iload_3 447 dc_CmLaw_law_446 rfl rfl ?_
    refine zk_iconst (v := 1) 448 dc_CmLaw_law_447 (by decide) rfl ?_
    refine zk_iadd 449 dc_CmLaw_law_448 rfl ?_
    refine zk_sload 450 dc_CmLaw_law_449 (show vp_in ((0 : Int32) + 1) 5 by unfold vp_in; decide) rfl ?_
    refine zk_aload_0 451 dc_CmLaw_law_450 rfl rfl ?_
    refine zk_iload_3 452 dc_CmLaw_law_451 rfl rfl ?_
    refine zk_iconst (v := 2) 453 dc_CmLaw_law_452 (by decide) rfl ?_
    refine zk_iadd 454 dc_CmLaw_law_453 rfl ?_
    refine zk_sload 455 dc_CmLaw_law_454 (show vp_in ((0 : Int32) + 2) 5 by unfold vp_in; decide) rfl ?_
    refine zk_cVr 458 (f_normal ha ht hq0 hr0 hq1 hr1 hg hga hlt (by omega)) dc_CmLaw_law_455 ok_Cm_normal lk_CmLaw_58 ha rfl rfl rfl ⟨Nat.le_of_ble_eq_true rfl, Nat.le_of_ble_eq_true rfl⟩ (Nat.le_of_ble_eq_true rfl) rfl (fun v M1 hk => ?_)
    obtain ⟨rfl, w2, s2, g, rfl, hw2, hs2, p⟩ := hk
    have ma := (p (a2) (by omega) (by omega) ).trans ma
    have mr := (p (n2) (by omega) (by omega) ).trans mr
    have mk := (p (n2 + 1) (by omega) (by omega) ).trans mk
    have mv := (p (n2 + 2) (by omega) (by omega) ).trans mv
    have ms := (p (n2 + 3) (by omega) (by omega) ).trans ms
    have ml := (p (n2 + 4) (by omega) (by omega) ).trans ml
    have m5 := (p (n2 + 5) (by omega) (by omega) ).trans m5
    have m6 := (p (n2 + 6) (by omega) (by omega) ).trans m6
    have m7 := (p (n2 + 7) (by omega) (by omega) ).trans m7
    have m8 := (p (n2 + 8) (by omega) (by omega) ).trans m8
    have m10 := (p (n2 + 10) (by omega) (by omega) ).trans m10
    have m12 := (p (n2 + 12) (by omega) (by omega) ).trans m12
    have m13 := (p (n2 + 13) (by omega) (by omega) ).trans m13
    have m14 := (p (n2 + 14) (by omega) (by omega) ).trans m14
    have m15 := (p (n2 + 15) (by omega) (by omega) ).trans m15
    refine zk_aload_2 459 dc_CmLaw_law_458 rfl rfl ?_
    refine zk_aload_0 460 dc_CmLaw_law_459 rfl rfl ?_
    refine zk_iload_3 461 dc_CmLaw_law_460 rfl rfl ?_
    refine zk_iconst (v := 1) 462 dc_CmLaw_law_461 (by decide) rfl ?_
    refine zk_iadd 463 dc_CmLaw_law_462 rfl ?_
    refine zk_sload 464 dc_CmLaw_law_463 (show vp_in ((0 : Int32) + 1) 5 by unfold vp_in; decide) rfl ?_
    refine zk_aload_0 465 dc_CmLaw_law_464 rfl rfl ?_
    refine zk_iload_3 466 dc_CmLaw_law_465 rfl rfl ?_
    refine zk_iconst (v := 2) 467 dc_CmLaw_law_466 (by decide) rfl ?_
    refine zk_iadd 468 dc_CmLaw_law_467 rfl ?_
    refine zk_sload 469 dc_CmLaw_law_468 (show vp_in ((0 : Int32) + 2) 5 by unfold vp_in; decide) rfl ?_
    refine zk_cVr 472 (r_normal ma ) dc_CmLaw_law_469 ok_Mo_normal lk_CmLaw_61 ma rfl rfl rfl ⟨Nat.le_of_ble_eq_true rfl, Nat.le_of_ble_eq_true rfl⟩ (Nat.le_of_ble_eq_true rfl) rfl (fun v M1 hk => ?_)
    obtain ⟨rfl, g2, rfl⟩ := hk
    refine zk_icmp_eq 546 475 dc_CmLaw_law_472 (by decide) rfl (fun hx => ?_) (fun hx => by first | exact absurd hx rfl | exact absurd rfl hx)
    refine zk_iinc_3 (v := 5) 549 dc_CmLaw_law_546 (by decide) (Nat.le_of_ble_eq_true rfl) rfl ?_
    refine zk_goto 18 dc_CmLaw_law_549 (by decide) ?_
    refine zk_iload_3 19 dc_CmLaw_law_18 rfl rfl ?_
    refine zk_aload_0 20 dc_CmLaw_law_19 rfl rfl ?_
    refine zk_slen 21 dc_CmLaw_law_20 rfl ?_
    refine zk_iconst (v := 5) 22 dc_CmLaw_law_21 (by decide) rfl ?_
    refine zk_isub 23 dc_CmLaw_law_22 rfl ?_
    refine zk_icmp_gt 552 26 dc_CmLaw_law_23 (by decide) rfl (fun hx => ?_) (fun hx => by first | exact absurd hx (show nI 5 - 5 < (0 : Int32) + 5 by decide) | exact absurd (show nI 5 - 5 < (0 : Int32) + 5 by decide) hx)
    refine zk_iconst (v := 1) 553 dc_CmLaw_law_552 (by decide) rfl ?_
    exact zk_ireturn dc_CmLaw_law_553 rfl rfl (hR _ _ _ (by omega) (by omega))
  by_cases t11 : y = 11
  · refine zk_tableIn 477 11 t11 dc_CmLaw_law_32 (by decide) (by decide) rfl (by decide) ?_
    refine zk_aload_1 478 dc_CmLaw_law_477 rfl rfl ?_
    refine zk_cVr 481 (f_cost ha ht hq0 hr0 hq1 hr1 hg hga hlt (by omega)) dc_CmLaw_law_478 ok_Cm_cost lk_CmLaw_62 ha rfl rfl rfl ⟨Nat.le_of_ble_eq_true rfl, Nat.le_of_ble_eq_true rfl⟩ (Nat.le_of_ble_eq_true rfl) rfl (fun v M1 hk => ?_)
    obtain ⟨rfl, w2, s2, g, rfl, hw2, hs2, p⟩ := hk
    have ma := (p (a2) (by omega) (by omega) ).trans ma
    have mr := (p (n2) (by omega) (by omega) ).trans mr
    have mk := (p (n2 + 1) (by omega) (by omega) ).trans mk
    have mv := (p (n2 + 2) (by omega) (by omega) ).trans mv
    have ms := (p (n2 + 3) (by omega) (by omega) ).trans ms
    have ml := (p (n2 + 4) (by omega) (by omega) ).trans ml
    have m5 := (p (n2 + 5) (by omega) (by omega) ).trans m5
    have m6 := (p (n2 + 6) (by omega) (by omega) ).trans m6
    have m7 := (p (n2 + 7) (by omega) (by omega) ).trans m7
    have m8 := (p (n2 + 8) (by omega) (by omega) ).trans m8
    have m10 := (p (n2 + 10) (by omega) (by omega) ).trans m10
    have m12 := (p (n2 + 12) (by omega) (by omega) ).trans m12
    have m13 := (p (n2 + 13) (by omega) (by omega) ).trans m13
    have m14 := (p (n2 + 14) (by omega) (by omega) ).trans m14
    have m15 := (p (n2 + 15) (by omega) (by omega) ).trans m15
    refine zk_aload_2 482 dc_CmLaw_law_481 rfl rfl ?_
    refine zk_cVr 485 (r_cost ma ) dc_CmLaw_law_482 ok_Mo_cost lk_CmLaw_65 ma rfl rfl rfl ⟨Nat.le_of_ble_eq_true rfl, Nat.le_of_ble_eq_true rfl⟩ (Nat.le_of_ble_eq_true rfl) rfl (fun v M1 hk => ?_)
    obtain ⟨rfl, g2, rfl⟩ := hk
    refine zk_icmp_eq 546 488 dc_CmLaw_law_485 (by decide) rfl (fun hx => ?_) (fun hx => by first | exact absurd hx rfl | exact absurd rfl hx)
    refine zk_iinc_3 (v := 5) 549 dc_CmLaw_law_546 (by decide) (Nat.le_of_ble_eq_true rfl) rfl ?_
    refine zk_goto 18 dc_CmLaw_law_549 (by decide) ?_
    refine zk_iload_3 19 dc_CmLaw_law_18 rfl rfl ?_
    refine zk_aload_0 20 dc_CmLaw_law_19 rfl rfl ?_
    refine zk_slen 21 dc_CmLaw_law_20 rfl ?_
    refine zk_iconst (v := 5) 22 dc_CmLaw_law_21 (by decide) rfl ?_
    refine zk_isub 23 dc_CmLaw_law_22 rfl ?_
    refine zk_icmp_gt 552 26 dc_CmLaw_law_23 (by decide) rfl (fun hx => ?_) (fun hx => by first | exact absurd hx (show nI 5 - 5 < (0 : Int32) + 5 by decide) | exact absurd (show nI 5 - 5 < (0 : Int32) + 5 by decide) hx)
    refine zk_iconst (v := 1) 553 dc_CmLaw_law_552 (by decide) rfl ?_
    exact zk_ireturn dc_CmLaw_law_553 rfl rfl (hR _ _ _ (by omega) (by omega))
  by_cases t12 : y = 12
  · refine zk_tableIn 490 12 t12 dc_CmLaw_law_32 (by decide) (by decide) rfl (by decide) ?_
    refine zk_aload_1 491 dc_CmLaw_law_490 rfl rfl ?_
    refine zk_cVr 494 (f_terms ha ht hq0 hr0 hq1 hr1 hg hga hlt (by omega)) dc_CmLaw_law_491 ok_Cm_terms lk_CmLaw_66 ha rfl rfl rfl ⟨Nat.le_of_ble_eq_true rfl, Nat.le_of_ble_eq_true rfl⟩ (Nat.le_of_ble_eq_true rfl) rfl (fun v M1 hk => ?_)
    obtain ⟨rfl, w2, s2, g, rfl, hw2, hs2, p⟩ := hk
    have ma := (p (a2) (by omega) (by omega) ).trans ma
    have mr := (p (n2) (by omega) (by omega) ).trans mr
    have mk := (p (n2 + 1) (by omega) (by omega) ).trans mk
    have mv := (p (n2 + 2) (by omega) (by omega) ).trans mv
    have ms := (p (n2 + 3) (by omega) (by omega) ).trans ms
    have ml := (p (n2 + 4) (by omega) (by omega) ).trans ml
    have m5 := (p (n2 + 5) (by omega) (by omega) ).trans m5
    have m6 := (p (n2 + 6) (by omega) (by omega) ).trans m6
    have m7 := (p (n2 + 7) (by omega) (by omega) ).trans m7
    have m8 := (p (n2 + 8) (by omega) (by omega) ).trans m8
    have m10 := (p (n2 + 10) (by omega) (by omega) ).trans m10
    have m12 := (p (n2 + 12) (by omega) (by omega) ).trans m12
    have m13 := (p (n2 + 13) (by omega) (by omega) ).trans m13
    have m14 := (p (n2 + 14) (by omega) (by omega) ).trans m14
    have m15 := (p (n2 + 15) (by omega) (by omega) ).trans m15
    refine zk_aload_2 495 dc_CmLaw_law_494 rfl rfl ?_
    refine zk_cVr 498 (r_terms ma ) dc_CmLaw_law_495 ok_Mo_terms lk_CmLaw_69 ma rfl rfl rfl ⟨Nat.le_of_ble_eq_true rfl, Nat.le_of_ble_eq_true rfl⟩ (Nat.le_of_ble_eq_true rfl) rfl (fun v M1 hk => ?_)
    obtain ⟨rfl, g2, rfl⟩ := hk
    refine zk_icmp_eq 546 501 dc_CmLaw_law_498 (by decide) rfl (fun hx => ?_) (fun hx => by first | exact absurd hx rfl | exact absurd rfl hx)
    refine zk_iinc_3 (v := 5) 549 dc_CmLaw_law_546 (by decide) (Nat.le_of_ble_eq_true rfl) rfl ?_
    refine zk_goto 18 dc_CmLaw_law_549 (by decide) ?_
    refine zk_iload_3 19 dc_CmLaw_law_18 rfl rfl ?_
    refine zk_aload_0 20 dc_CmLaw_law_19 rfl rfl ?_
    refine zk_slen 21 dc_CmLaw_law_20 rfl ?_
    refine zk_iconst (v := 5) 22 dc_CmLaw_law_21 (by decide) rfl ?_
    refine zk_isub 23 dc_CmLaw_law_22 rfl ?_
    refine zk_icmp_gt 552 26 dc_CmLaw_law_23 (by decide) rfl (fun hx => ?_) (fun hx => by first | exact absurd hx (show nI 5 - 5 < (0 : Int32) + 5 by decide) | exact absurd (show nI 5 - 5 < (0 : Int32) + 5 by decide) hx)
    refine zk_iconst (v := 1) 553 dc_CmLaw_law_552 (by decide) rfl ?_
    exact zk_ireturn dc_CmLaw_law_553 rfl rfl (hR _ _ _ (by omega) (by omega))
  by_cases t13 : y = 13
  · refine zk_tableIn 503 13 t13 dc_CmLaw_law_32 (by decide) (by decide) rfl (by decide) ?_
    refine zk_aload_1 504 dc_CmLaw_law_503 rfl rfl ?_
    refine zk_aload_0 505 dc_CmLaw_law_504 rfl rfl ?_
    refine zk_iload_3 506 dc_CmLaw_law_505 rfl rfl ?_
    refine zk_iconst (v := 1) 507 dc_CmLaw_law_506 (by decide) rfl ?_
    refine zk_iadd 508 dc_CmLaw_law_507 rfl ?_
    refine zk_sload 509 dc_CmLaw_law_508 (show vp_in ((0 : Int32) + 1) 5 by unfold vp_in; decide) rfl ?_
    refine zk_aload_0 510 dc_CmLaw_law_509 rfl rfl ?_
    refine zk_iload_3 511 dc_CmLaw_law_510 rfl rfl ?_
    refine zk_iconst (v := 2) 512 dc_CmLaw_law_511 (by decide) rfl ?_
    refine zk_iadd 513 dc_CmLaw_law_512 rfl ?_
    refine zk_sload 514 dc_CmLaw_law_513 (show vp_in ((0 : Int32) + 2) 5 by unfold vp_in; decide) rfl ?_
    refine zk_aload_0 515 dc_CmLaw_law_514 rfl rfl ?_
    refine zk_iload_3 516 dc_CmLaw_law_515 rfl rfl ?_
    refine zk_iconst (v := 3) 517 dc_CmLaw_law_516 (by decide) rfl ?_
    refine zk_iadd 518 dc_CmLaw_law_517 rfl ?_
    refine zk_sload 519 dc_CmLaw_law_518 (show vp_in ((0 : Int32) + 3) 5 by unfold vp_in; decide) rfl ?_
    refine zk_cVr 522 (f_part ha ht hq0 hr0 hq1 hr1 hg hga hlt (by omega)) dc_CmLaw_law_519 ok_Cm_part lk_CmLaw_70 ha rfl rfl rfl ⟨Nat.le_of_ble_eq_true rfl, Nat.le_of_ble_eq_true rfl⟩ (Nat.le_of_ble_eq_true rfl) rfl (fun v M1 hk => ?_)
    obtain ⟨rfl, w2, s2, g, rfl, hw2, hs2, p⟩ := hk
    have ma := (p (a2) (by omega) (by omega) ).trans ma
    have mr := (p (n2) (by omega) (by omega) ).trans mr
    have mk := (p (n2 + 1) (by omega) (by omega) ).trans mk
    have mv := (p (n2 + 2) (by omega) (by omega) ).trans mv
    have ms := (p (n2 + 3) (by omega) (by omega) ).trans ms
    have ml := (p (n2 + 4) (by omega) (by omega) ).trans ml
    have m5 := (p (n2 + 5) (by omega) (by omega) ).trans m5
    have m6 := (p (n2 + 6) (by omega) (by omega) ).trans m6
    have m7 := (p (n2 + 7) (by omega) (by omega) ).trans m7
    have m8 := (p (n2 + 8) (by omega) (by omega) ).trans m8
    have m10 := (p (n2 + 10) (by omega) (by omega) ).trans m10
    have m12 := (p (n2 + 12) (by omega) (by omega) ).trans m12
    have m13 := (p (n2 + 13) (by omega) (by omega) ).trans m13
    have m14 := (p (n2 + 14) (by omega) (by omega) ).trans m14
    have m15 := (p (n2 + 15) (by omega) (by omega) ).trans m15
    refine zk_aload_2 523 dc_CmLaw_law_522 rfl rfl ?_
    refine zk_aload_0 524 dc_CmLaw_law_523 rfl rfl ?_
    refine zk_iload_3 525 dc_CmLaw_law_524 rfl rfl ?_
    refine zk_iconst (v := 1) 526 dc_CmLaw_law_525 (by decide) rfl ?_
    refine zk_iadd 527 dc_CmLaw_law_526 rfl ?_
    refine zk_sload 528 dc_CmLaw_law_527 (show vp_in ((0 : Int32) + 1) 5 by unfold vp_in; decide) rfl ?_
    refine zk_aload_0 529 dc_CmLaw_law_528 rfl rfl ?_
    refine zk_iload_3 530 dc_CmLaw_law_529 rfl rfl ?_
    refine zk_iconst (v := 2) 531 dc_CmLaw_law_530 (by decide) rfl ?_
    refine zk_iadd 532 dc_CmLaw_law_531 rfl ?_
    refine zk_sload 533 dc_CmLaw_law_532 (show vp_in ((0 : Int32) + 2) 5 by unfold vp_in; decide) rfl ?_
    refine zk_aload_0 534 dc_CmLaw_law_533 rfl rfl ?_
    refine zk_iload_3 535 dc_CmLaw_law_534 rfl rfl ?_
    refine zk_iconst (v := 3) 536 dc_CmLaw_law_535 (by decide) rfl ?_
    refine zk_iadd 537 dc_CmLaw_law_536 rfl ?_
    refine zk_sload 538 dc_CmLaw_law_537 (show vp_in ((0 : Int32) + 3) 5 by unfold vp_in; decide) rfl ?_
    refine zk_cVr 541 (r_part ma ) dc_CmLaw_law_538 ok_Mo_part lk_CmLaw_73 ma rfl rfl rfl ⟨Nat.le_of_ble_eq_true rfl, Nat.le_of_ble_eq_true rfl⟩ (Nat.le_of_ble_eq_true rfl) rfl (fun v M1 hk => ?_)
    obtain ⟨rfl, g2, rfl⟩ := hk
    refine zk_icmp_eq 546 544 dc_CmLaw_law_541 (by decide) rfl (fun hx => ?_) (fun hx => by first | exact absurd hx rfl | exact absurd rfl hx)
    refine zk_iinc_3 (v := 5) 549 dc_CmLaw_law_546 (by decide) (Nat.le_of_ble_eq_true rfl) rfl ?_
    refine zk_goto 18 dc_CmLaw_law_549 (by decide) ?_
    refine zk_iload_3 19 dc_CmLaw_law_18 rfl rfl ?_
    refine zk_aload_0 20 dc_CmLaw_law_19 rfl rfl ?_
    refine zk_slen 21 dc_CmLaw_law_20 rfl ?_
    refine zk_iconst (v := 5) 22 dc_CmLaw_law_21 (by decide) rfl ?_
    refine zk_isub 23 dc_CmLaw_law_22 rfl ?_
    refine zk_icmp_gt 552 26 dc_CmLaw_law_23 (by decide) rfl (fun hx => ?_) (fun hx => by first | exact absurd hx (show nI 5 - 5 < (0 : Int32) + 5 by decide) | exact absurd (show nI 5 - 5 < (0 : Int32) + 5 by decide) hx)
    refine zk_iconst (v := 1) 553 dc_CmLaw_law_552 (by decide) rfl ?_
    exact zk_ireturn dc_CmLaw_law_553 rfl rfl (hR _ _ _ (by omega) (by omega))
  refine zk_tableOut 546 dc_CmLaw_law_32 (zk_out fun k h1 h2 q => by rcases (show k = 0 ∨ k = 1 ∨ k = 2 ∨ k = 3 ∨ k = 4 ∨ k = 5 ∨ k = 6 ∨ k = 7 ∨ k = 8 ∨ k = 9 ∨ k = 10 ∨ k = 11 ∨ k = 12 ∨ k = 13 by omega) with rfl | rfl | rfl | rfl | rfl | rfl | rfl | rfl | rfl | rfl | rfl | rfl | rfl | rfl <;> first | exact t0 (Int32.toInt_inj.mp (q.trans (by decide))) | exact t1 (Int32.toInt_inj.mp (q.trans (by decide))) | exact t2 (Int32.toInt_inj.mp (q.trans (by decide))) | exact t3 (Int32.toInt_inj.mp (q.trans (by decide))) | exact t4 (Int32.toInt_inj.mp (q.trans (by decide))) | exact t5 (Int32.toInt_inj.mp (q.trans (by decide))) | exact t6 (Int32.toInt_inj.mp (q.trans (by decide))) | exact t7 (Int32.toInt_inj.mp (q.trans (by decide))) | exact t8 (Int32.toInt_inj.mp (q.trans (by decide))) | exact t9 (Int32.toInt_inj.mp (q.trans (by decide))) | exact t10 (Int32.toInt_inj.mp (q.trans (by decide))) | exact t11 (Int32.toInt_inj.mp (q.trans (by decide))) | exact t12 (Int32.toInt_inj.mp (q.trans (by decide))) | exact t13 (Int32.toInt_inj.mp (q.trans (by decide)))) (by decide) ?_
  refine zk_iinc_3 (v := 5) 549 dc_CmLaw_law_546 (by decide) (Nat.le_of_ble_eq_true rfl) rfl ?_
  refine zk_goto 18 dc_CmLaw_law_549 (by decide) ?_
  refine zk_iload_3 19 dc_CmLaw_law_18 rfl rfl ?_
  refine zk_aload_0 20 dc_CmLaw_law_19 rfl rfl ?_
  refine zk_slen 21 dc_CmLaw_law_20 rfl ?_
  refine zk_iconst (v := 5) 22 dc_CmLaw_law_21 (by decide) rfl ?_
  refine zk_isub 23 dc_CmLaw_law_22 rfl ?_
  refine zk_icmp_gt 552 26 dc_CmLaw_law_23 (by decide) rfl (fun hx => ?_) (fun hx => by first | exact absurd hx (show nI 5 - 5 < (0 : Int32) + 5 by decide) | exact absurd (show nI 5 - 5 < (0 : Int32) + 5 by decide) hx)
  refine zk_iconst (v := 1) 553 dc_CmLaw_law_552 (by decide) rfl ?_
  exact zk_ireturn dc_CmLaw_law_553 rfl rfl (hR _ _ _ (by omega) (by omega))
theorem p1_short {l : Launch} {κ : Nat → ClassId} {D : va_G} {B b L : Nat} {xs : Nat → Int32} {a a2 : Nat} {M : zk_M} {R : Option Value → zk_M → Prop} (hL : L < 5) (hR : R (some (.int 1)) M) : zk_P (l, κ, D, B, b, L, xs) mm_law 18 [some (.ref b), some (.ref a), some (.ref a2), some (.int 0)] [] M R := by
  have hgt : nI L - 5 < (0 : Int32) := by rcases (show L = 0 ∨ L = 1 ∨ L = 2 ∨ L = 3 ∨ L = 4 by omega) with rfl | rfl | rfl | rfl | rfl <;> decide
  refine zk_iload_3 19 dc_CmLaw_law_18 rfl rfl ?_
  refine zk_aload_0 20 dc_CmLaw_law_19 rfl rfl ?_
  refine zk_slen 21 dc_CmLaw_law_20 rfl ?_
  refine zk_iconst (v := 5) 22 dc_CmLaw_law_21 (by decide) rfl ?_
  refine zk_isub 23 dc_CmLaw_law_22 rfl ?_
  refine zk_icmp_gt 552 26 dc_CmLaw_law_23 (by decide) rfl (fun hx => ?_) (fun hx => by first | exact absurd hx hgt | exact absurd hgt hx)
  refine zk_iconst (v := 1) 553 dc_CmLaw_law_552 (by decide) rfl ?_
  exact zk_ireturn dc_CmLaw_law_553 rfl rfl hR
set_option maxHeartbeats 4000000 in
set_option maxRecDepth 100000 in
theorem p1_entry {l : Launch} {κ : Nat → ClassId} {D : va_G} {B b L : Nat} {xs : Nat → Int32} (hL : L ≤ 5) : zk_P (l, κ, D, B, b, L, xs) mm_law 0 [some (.ref b), none, none, none] [] (B, 0, fun _ => none) (fun r M' => r = some (.int 1) ∧ M'.1 ≤ B + 600000 ∧ M'.2.1 ≤ 7302250) := by
  refine zk_newK 3 dc_CmLaw_law_0 nw_CmLaw_7 rfl (fun f1 ha o1 => ?_)
  refine zk_dup 4 dc_CmLaw_law_3 rfl rfl ?_
  refine zk_cIv 7 (ct_Cm ha (by omega)) dc_CmLaw_law_4 ok_Cm_init lk_CmLaw_9 rfl rfl ⟨Nat.le_of_ble_eq_true rfl, Nat.le_of_ble_eq_true rfl⟩ (Nat.le_of_ble_eq_true rfl) rfl (fun M1 hk => ?_)
  obtain ⟨g, rfl, ha, ht, hq0, hr0, hq1, hr1, hg, hga, p⟩ := hk
  refine zk_astore_1 8 dc_CmLaw_law_7 (Nat.le_of_ble_eq_true rfl) rfl ?_
  refine zk_newK 11 dc_CmLaw_law_8 nw_CmLaw_10 rfl (fun f2 ma o2 => ?_)
  have ha := (o2 (B) (by omega) ).trans ha
  have ht := (o2 (B + 1) (by omega) ).trans ht
  have hq0 := (o2 (B + 2) (by omega) ).trans hq0
  have hr0 := (o2 (B + 3) (by omega) ).trans hr0
  have hq1 := (o2 (B + 4) (by omega) ).trans hq1
  have hr1 := (o2 (B + 5) (by omega) ).trans hr1
  have hg := (o2 (B + 8) (by omega) ).trans hg
  have hga := (o2 (B + 9) (by omega) ).trans hga
  refine zk_dup 12 dc_CmLaw_law_11 rfl rfl ?_
  refine zk_cIv 15 (ct_Mo ma (by omega)) dc_CmLaw_law_12 ok_Mo_init lk_CmLaw_12 rfl rfl ⟨Nat.le_of_ble_eq_true rfl, Nat.le_of_ble_eq_true rfl⟩ (Nat.le_of_ble_eq_true rfl) rfl (fun M1 hk => ?_)
  obtain ⟨g2, gk, gv, gs, gl, rfl, ma, mr, mk, mv, ms, ml, m5, m6, m7, m8, m10, m12, m13, m14, m15, p2⟩ := hk
  have ha := (p2 (B) (by omega) (by omega) ).trans ha
  have ht := (p2 (B + 1) (by omega) (by omega) ).trans ht
  have hq0 := (p2 (B + 2) (by omega) (by omega) ).trans hq0
  have hr0 := (p2 (B + 3) (by omega) (by omega) ).trans hr0
  have hq1 := (p2 (B + 4) (by omega) (by omega) ).trans hq1
  have hr1 := (p2 (B + 5) (by omega) (by omega) ).trans hr1
  have hg := (p2 (B + 8) (by omega) (by omega) ).trans hg
  have hga := (p2 (B + 9) (by omega) (by omega) ).trans hga
  refine zk_astore_2 16 dc_CmLaw_law_15 (Nat.le_of_ble_eq_true rfl) rfl ?_
  refine zk_iconst (v := 0) 17 dc_CmLaw_law_16 (by decide) rfl ?_
  refine zk_istore_3 18 dc_CmLaw_law_17 (Nat.le_of_ble_eq_true rfl) rfl ?_
  by_cases h5 : L = 5
  · subst h5
    exact p1_body (a := B) (n := B + 1) (a2 := B + 21) (n2 := B + 22) ha ht hq0 hr0 hq1 hr1 hg hga ma mr mk mv ms ml m5 m6 m7 m8 m10 m12 m13 m14 m15 (by omega) (by omega) (by omega) (by omega) (fun w2 s2 g3 q1 q2 => ⟨rfl, show w2 ≤ B + 600000 by omega, show s2 ≤ 7302250 by omega⟩)
  · exact p1_short (by omega) ⟨rfl, show B + 1 + 20 + 1 + 33 ≤ B + 600000 by omega, show 0 + 9 + 1896 + 48 + 28301 ≤ 7302250 by omega⟩
theorem whole_start {p : Program} {e : Env} {s : State} {m : MethodId} {below : List Frame} {meth : Method} {c : Code} (l : Launch) {b L : Nat} {xs : Nat → Int32} (hL : L ≤ 5) (C0 : lw_At p s m meth c b L xs) : W p l e room_1 s m #[Value.ref b] below meth c s.heap [] 0 0 (lw_Z below #[Value.ref b] s) (entryFrame m ([Value.ref b] : List Value).toArray 4) := by
  exact zk_law l C0 (fun κ D => p1_entry hL)
set_option maxHeartbeats 4000000 in
theorem lw_walk (l : Launch) (b : Addr) (xs : List Int32) : MetFree l x (headSpec (Jvm.Cond.code x code maxLocals ret :: tables_1) room_1) (lw_P b xs) (fun _ _ _ _ _ => True) lw_Q := by
  refine MetFree.of_bodyS (code := code) (maxLocals := maxLocals) (ret := ret) (by decide) ?_ ?_
  · intro args s m h hn
    obtain ⟨meth, c, h1, h2, h3, h4, h5, h6, -, -⟩ := Cond.code_spec hn (atoms_spec (ws := Jvm.Cond.code x code maxLocals ret :: tables_1) h _ List.mem_cons_self)
    exact ⟨meth, c, h1, h2, h3, h4, h5, h6⟩
  · intro p e s m args below meth c s₁ B hml0 hP _
    obtain ⟨rfl, hx, hbd, hgv⟩ := hP
    obtain ⟨scr, harrAt, hlist, hof, hsmall⟩ := hx
    obtain ⟨hcb, hkn, -, -⟩ := State.arrayAt?_spec harrAt
    have hown : s.vm.findClass R_law = some m.cls := findClass_of_methodNamed B.named
    have hts0 : ∀ c ∈ (Jvm.Cond.code x code maxLocals ret :: tables_1), c.before #[Value.ref b] s = true := atoms_spec (ws := Jvm.Cond.code x code maxLocals ret :: tables_1) B.pre
    have hts : ∀ w ∈ lw_tbl, w.before #[Value.ref b] s = true := k2_hts_sels lw_privs (fun w hw => hts0 w (List.mem_cons_of_mem _ hw)) lw_privs_ok
    have hml : c.maxLocals = 4 := B.maxLocals_eq (hts0 _ List.mem_cons_self)
    have X₀ : Stand p l e room_1 s m #[Value.ref b] below meth c s₁ [] 0 0 := Stand.of_body B
    have hh0 : s₁.heap = s.heap := by rw [B.state]; rfl
    have hsz : scr.slots.size = xs.length := by rw [← Array.length_toList, hlist, List.length_map]
    have hval : ∀ j : Nat, j < xs.length → scr.slots[j]? = some (.int (xs.getD j 0)) := fun j hj => by
      rw [← Array.getElem?_toList, hlist]
      simp [hj]
    have hbl : b < s.heap.size := (Array.getElem?_eq_some_iff.mp hcb).1
    have hX : va_X b xs.length (fun j => xs.getD j 0) s s.heap := ⟨scr, hcb, hof, hkn, hsz, hval⟩
    have K : W p l e room_1 s m #[Value.ref b] below meth c s₁.heap [] 0 0 (lw_Z below #[Value.ref b] s) (entryFrame m ([Value.ref b] : List Value).toArray 4) := by
      rw [hh0]
      exact whole_start l hbd ⟨B.exec, B.bytes, B.returns, hml, hown, hts, hX, hbl, B.notSynchronized, hgv⟩
    obtain ⟨t, a1, o, b1, b2, b3⟩ := K s₁ rfl X₀
    exact ⟨t, o, a1, b1, b2, b3⟩
theorem lw_pre_spec {args : Array Value} {s : State} (h : (Jvm.Cond.and given_1 narrow_1).before args s = true) (hr : rest_1_c.before args s = true) : ∃ (b : Addr) (xs : List Int32), lw_P b xs args s := by
  have hs := flat_of_before _ h
  have hq := flat_of_before _ hr
  have hc : (Cond.count 1).before args s = true := hs _ (by decide +kernel)
  have harr : (Cond.arrayOf (.arg 0) .int).before args s = true := hs _ (by decide +kernel)
  have hle : (Cond.le (.length (.arg 0)) (.int 5)).before args s = true := hs _ (by decide +kernel)
  have hlen : (Cond.isInt (.length (.arg 0))).before args s = true := hq _ (by decide +kernel)
  have hall : (Cond.all (.arg 0) (.isInt (.elem (.arg 0) (.index 0)))).before args s = true := hq _ (by decide +kernel)
  obtain ⟨b, xs, hb, hx⟩ := State.ints_of_pre rfl harr hlen hall
  have hsm : xs.length < 2 ^ 31 := hx.choose_spec.2.2.2
  have hev : (Term.length (.arg 0)).eval args s none [] s = some (.int xs.length.toInt32) := hx.length_eval hb
  have hv := Cond.le_ints hev (show (Term.int 5).eval args s none [] s = some (.int 5) from rfl)
  have hd : xs.length.toInt32 ≤ 5 := by
    simpa [Cond.before, Cond.holds, hv] using hle
  have hN : xs.length ≤ 5 := (Int32.ofNat_le_ofNat hsm (by decide)).mp (show Int32.ofNat xs.length ≤ Int32.ofNat 5 from hd)
  exact ⟨b, xs, Cond.one_arg hc (show args[0]? = some (.ref b) from hb), hx, hN, h⟩
theorem lw_comes (l : Launch) : Comes l x (Jvm.Cond.code x code maxLocals ret :: tables_1) room_1 (fun tb e args s => Calls_1 tb e args s ∧ rest_1 tb e args s ∧ Pre_1 tb e args s)
    (fun _ _ args s o t => lw_Q args s o t) := by
  intro p e ha hc hk s m args below hf hfit hheap happ hpre
  obtain ⟨b, xs, hP⟩ := lw_pre_spec hpre.2.2 hpre.2.1
  obtain ⟨k, o, h1, h2, h3, hQ⟩ := lw_walk l b xs p e ha hc hk s m args below hf ((Spec.applies_iff_loose hf).mp happ).1 hP trivial
  exact ⟨k, o, h1, h2, h3, hQ⟩
theorem lw_frame {s t : State} {o : Outcome} {args : Array Value} (h : Framed s o t [] 600000 7302250) :
    Framed s o t (fieldLocs frame_1_writes args s ++ arrayLocs frame_1_arrays args s ++ staticLocs frame_1_statics s) 600000 7302250 := h
theorem lw_limb (L : Cond) (hL : ∀ (args : Array Value) (s t : State), L.after args s (.returned (some (.int 1))) t = true) :
    ArmFor flags0 classFile x code maxLocals ret World_1 tables_1 room_1 Calls_1 rest_1 Pre_1
      (fun tb e a s o t => postC L tb e a s o t ∧ Framed s o t (fieldLocs frame_1_writes a s ++ arrayLocs frame_1_arrays a s ++ staticLocs frame_1_statics s) 600000 7302250) := by
  intro l _ _ _ p e ha hc hk s m args below hf hfit hheap happ hpre
  obtain ⟨k, o, h1, h2, h3, rfl, hF⟩ := lw_comes l p e ha hc hk s m args below hf hfit hheap happ hpre
  exact ⟨k, _, h1, h2, h3, hL args s _, lw_frame hF⟩
theorem i_vc : Claimed_1_1 ∧ Claimed_1_2 := ⟨lw_limb limb_1_1 (fun args s t => by simp [limb_1_1, Cond.after, Cond.holds, Cond.value]), lw_limb limb_1_2 (fun args s t => Cond.after_iff.mpr (by
  first | (rw [show limb_1_2 = Cond.eq .result (.int 1) from rfl, Cond.eq_ints (x := 1) (y := 1) rfl rfl]; simp; done) | (simp [limb_1_2, Cond.value, Term.eval]; done)))⟩
end
