abbrev mm_CmRows_init : zk_Mt := (⟨"ClosureMachine$Rows", "<init>", "(I)V"⟩, prog_6_method_1_code, 2, none, 1, 20)
set_option maxRecDepth 20000 in
theorem ok_CmRows_init : zk_Ok mm_CmRows_init 1 := ⟨zk_in 33 rfl rfl, ⟨by decide +kernel, by decide +kernel, by decide +kernel⟩, zk_in 3 (by decide +kernel) (by decide +kernel)⟩
theorem dc_CmRows_init_0 : decode prog_6_method_1_code 0 = .ok (.aload_n 0, 1) := by decide +kernel
theorem dc_CmRows_init_1 : decode prog_6_method_1_code 1 = .ok (.invokespecial 3, 3) := by decide +kernel
theorem dc_CmRows_init_4 : decode prog_6_method_1_code 4 = .ok (.aload_n 0, 1) := by decide +kernel
theorem dc_CmRows_init_5 : decode prog_6_method_1_code 5 = .ok (.iload_n 1, 1) := by decide +kernel
theorem dc_CmRows_init_6 : decode prog_6_method_1_code 6 = .ok (.putfield 9, 3) := by decide +kernel
theorem fp_CmRows_9 : zk_Fp "ClosureMachine$Rows" 9 0 0 (yc_0 0) true := ⟨rc_0, tc_0, 3, rfl, by decide, zk_in 35 (by decide +kernel) (by decide +kernel), by decide +kernel, rfl, rfl⟩
theorem dc_CmRows_init_9 : decode prog_6_method_1_code 9 = .ok (.aload_n 0, 1) := by decide +kernel
theorem dc_CmRows_init_10 : decode prog_6_method_1_code 10 = .ok (.sipush 256, 3) := by decide +kernel
theorem dc_CmRows_init_13 : decode prog_6_method_1_code 13 = .ok (.newarray .int, 2) := by decide +kernel
theorem dc_CmRows_init_15 : decode prog_6_method_1_code 15 = .ok (.putfield 15, 3) := by decide +kernel
theorem fp_CmRows_15 : zk_Fp "ClosureMachine$Rows" 15 0 1 (yc_0 1) false := ⟨rc_0, tc_0, 3, rfl, by decide, zk_in 36 (by decide +kernel) (by decide +kernel), by decide +kernel, rfl, rfl⟩
theorem dc_CmRows_init_18 : decode prog_6_method_1_code 18 = .ok (.aload_n 0, 1) := by decide +kernel
theorem dc_CmRows_init_19 : decode prog_6_method_1_code 19 = .ok (.iconst 0, 1) := by decide +kernel
theorem dc_CmRows_init_20 : decode prog_6_method_1_code 20 = .ok (.putfield 19, 3) := by decide +kernel
theorem fp_CmRows_19 : zk_Fp "ClosureMachine$Rows" 19 0 2 (yc_0 2) false := ⟨rc_0, tc_0, 3, rfl, by decide, zk_in 37 (by decide +kernel) (by decide +kernel), by decide +kernel, rfl, rfl⟩
theorem dc_CmRows_init_23 : decode prog_6_method_1_code 23 = .ok (.return_, 1) := by decide +kernel
abbrev mm_CmTerms_init : zk_Mt := (⟨"ClosureMachine$Terms", "<init>", "()V"⟩, prog_7_method_1_code, 1, none, 2, 41)
set_option maxRecDepth 20000 in
theorem ok_CmTerms_init : zk_Ok mm_CmTerms_init 0 := ⟨zk_in 26 rfl rfl, ⟨by decide +kernel, by decide +kernel, by decide +kernel⟩, zk_in 2 (by decide +kernel) (by decide +kernel)⟩
theorem dc_CmTerms_init_0 : decode prog_7_method_1_code 0 = .ok (.aload_n 0, 1) := by decide +kernel
theorem dc_CmTerms_init_1 : decode prog_7_method_1_code 1 = .ok (.invokespecial 5, 3) := by decide +kernel
theorem dc_CmTerms_init_4 : decode prog_7_method_1_code 4 = .ok (.aload_n 0, 1) := by decide +kernel
theorem dc_CmTerms_init_5 : decode prog_7_method_1_code 5 = .ok (.new 11, 3) := by decide +kernel
theorem nw_CmTerms_11 : zk_N "ClosureMachine$Terms" 11 0 3 [.int 0, .null, .int 0] := ⟨rc_0, tc_0, yc_0, rfl, zk_in 28 (by decide +kernel) (by decide +kernel), zk_in 29 (by decide +kernel) (by decide +kernel), zk_in 3 (by decide +kernel) (by decide +kernel), yk_0, by decide +kernel⟩
theorem dc_CmTerms_init_8 : decode prog_7_method_1_code 8 = .ok (.dup, 1) := by decide +kernel
theorem dc_CmTerms_init_9 : decode prog_7_method_1_code 9 = .ok (.ldc 13, 2) := by decide +kernel
theorem dc_CmTerms_init_11 : decode prog_7_method_1_code 11 = .ok (.invokespecial 14, 3) := by decide +kernel
theorem lk_CmTerms_14 : zk_LI "ClosureMachine$Terms" 14 mm_CmRows_init := ⟨zk_in 31 (by decide +kernel) (by decide +kernel), zk_in 32 (by decide +kernel) (by decide +kernel), rfl, rfl⟩
theorem dc_CmTerms_init_14 : decode prog_7_method_1_code 14 = .ok (.putfield 17, 3) := by decide +kernel
theorem fp_CmTerms_17 : zk_Fp "ClosureMachine$Terms" 17 1 0 (yc_1 0) true := ⟨rc_1, tc_1, 4, rfl, by decide, zk_in 46 (by decide +kernel) (by decide +kernel), by decide +kernel, rfl, rfl⟩
theorem dc_CmTerms_init_17 : decode prog_7_method_1_code 17 = .ok (.aload_n 0, 1) := by decide +kernel
theorem dc_CmTerms_init_18 : decode prog_7_method_1_code 18 = .ok (.new 11, 3) := by decide +kernel
theorem dc_CmTerms_init_21 : decode prog_7_method_1_code 21 = .ok (.dup, 1) := by decide +kernel
theorem dc_CmTerms_init_22 : decode prog_7_method_1_code 22 = .ok (.sipush 3000, 3) := by decide +kernel
theorem dc_CmTerms_init_25 : decode prog_7_method_1_code 25 = .ok (.invokespecial 14, 3) := by decide +kernel
theorem dc_CmTerms_init_28 : decode prog_7_method_1_code 28 = .ok (.putfield 21, 3) := by decide +kernel
theorem fp_CmTerms_21 : zk_Fp "ClosureMachine$Terms" 21 1 1 (yc_1 1) true := ⟨rc_1, tc_1, 4, rfl, by decide, zk_in 49 (by decide +kernel) (by decide +kernel), by decide +kernel, rfl, rfl⟩
theorem dc_CmTerms_init_31 : decode prog_7_method_1_code 31 = .ok (.aload_n 0, 1) := by decide +kernel
theorem dc_CmTerms_init_32 : decode prog_7_method_1_code 32 = .ok (.new 11, 3) := by decide +kernel
theorem dc_CmTerms_init_35 : decode prog_7_method_1_code 35 = .ok (.dup, 1) := by decide +kernel
theorem dc_CmTerms_init_36 : decode prog_7_method_1_code 36 = .ok (.sipush 8000, 3) := by decide +kernel
theorem dc_CmTerms_init_39 : decode prog_7_method_1_code 39 = .ok (.invokespecial 14, 3) := by decide +kernel
theorem dc_CmTerms_init_42 : decode prog_7_method_1_code 42 = .ok (.putfield 24, 3) := by decide +kernel
theorem fp_CmTerms_24 : zk_Fp "ClosureMachine$Terms" 24 1 2 (yc_1 2) true := ⟨rc_1, tc_1, 4, rfl, by decide, zk_in 50 (by decide +kernel) (by decide +kernel), by decide +kernel, rfl, rfl⟩
theorem dc_CmTerms_init_45 : decode prog_7_method_1_code 45 = .ok (.aload_n 0, 1) := by decide +kernel
theorem dc_CmTerms_init_46 : decode prog_7_method_1_code 46 = .ok (.iconst 0, 1) := by decide +kernel
theorem dc_CmTerms_init_47 : decode prog_7_method_1_code 47 = .ok (.putfield 27, 3) := by decide +kernel
theorem fp_CmTerms_27 : zk_Fp "ClosureMachine$Terms" 27 1 3 (yc_1 3) false := ⟨rc_1, tc_1, 4, rfl, by decide, zk_in 51 (by decide +kernel) (by decide +kernel), by decide +kernel, rfl, rfl⟩
theorem dc_CmTerms_init_50 : decode prog_7_method_1_code 50 = .ok (.return_, 1) := by decide +kernel
abbrev mm_CmGlobals_init : zk_Mt := (⟨"ClosureMachine$Globals", "<init>", "()V"⟩, prog_3_method_1_code, 1, none, 1, 20)
set_option maxRecDepth 20000 in
theorem ok_CmGlobals_init : zk_Ok mm_CmGlobals_init 0 := ⟨zk_in 65 rfl rfl, ⟨by decide +kernel, by decide +kernel, by decide +kernel⟩, zk_in 4 (by decide +kernel) (by decide +kernel)⟩
theorem dc_CmGlobals_init_0 : decode prog_3_method_1_code 0 = .ok (.aload_n 0, 1) := by decide +kernel
theorem dc_CmGlobals_init_1 : decode prog_3_method_1_code 1 = .ok (.invokespecial 3, 3) := by decide +kernel
theorem dc_CmGlobals_init_4 : decode prog_3_method_1_code 4 = .ok (.aload_n 0, 1) := by decide +kernel
theorem dc_CmGlobals_init_5 : decode prog_3_method_1_code 5 = .ok (.bipush 60, 2) := by decide +kernel
theorem dc_CmGlobals_init_7 : decode prog_3_method_1_code 7 = .ok (.anewarray 9, 3) := by decide +kernel
theorem dc_CmGlobals_init_10 : decode prog_3_method_1_code 10 = .ok (.putfield 11, 3) := by decide +kernel
theorem fp_CmGlobals_11 : zk_Fp "ClosureMachine$Globals" 11 2 0 (yc_2 0) true := ⟨rc_2, tc_2, 2, rfl, by decide, zk_in 69 (by decide +kernel) (by decide +kernel), by decide +kernel, rfl, rfl⟩
theorem dc_CmGlobals_init_13 : decode prog_3_method_1_code 13 = .ok (.aload_n 0, 1) := by decide +kernel
theorem dc_CmGlobals_init_14 : decode prog_3_method_1_code 14 = .ok (.iconst 0, 1) := by decide +kernel
theorem dc_CmGlobals_init_15 : decode prog_3_method_1_code 15 = .ok (.putfield 17, 3) := by decide +kernel
theorem fp_CmGlobals_17 : zk_Fp "ClosureMachine$Globals" 17 2 1 (yc_2 1) false := ⟨rc_2, tc_2, 2, rfl, by decide, zk_in 70 (by decide +kernel) (by decide +kernel), by decide +kernel, rfl, rfl⟩
theorem dc_CmGlobals_init_18 : decode prog_3_method_1_code 18 = .ok (.return_, 1) := by decide +kernel
abbrev mm_CmTypeReader_init : zk_Mt := (⟨"ClosureMachine$TypeReader", "<init>", "(LClosureMachine$Terms;)V"⟩, prog_8_method_1_code, 2, none, 1, 20)
set_option maxRecDepth 20000 in
theorem ok_CmTypeReader_init : zk_Ok mm_CmTypeReader_init 1 := ⟨zk_in 80 rfl rfl, ⟨by decide +kernel, by decide +kernel, by decide +kernel⟩, zk_in 5 (by decide +kernel) (by decide +kernel)⟩
theorem dc_CmTypeReader_init_0 : decode prog_8_method_1_code 0 = .ok (.aload_n 0, 1) := by decide +kernel
theorem dc_CmTypeReader_init_1 : decode prog_8_method_1_code 1 = .ok (.invokespecial 3, 3) := by decide +kernel
theorem dc_CmTypeReader_init_4 : decode prog_8_method_1_code 4 = .ok (.aload_n 0, 1) := by decide +kernel
theorem dc_CmTypeReader_init_5 : decode prog_8_method_1_code 5 = .ok (.aload_n 1, 1) := by decide +kernel
theorem dc_CmTypeReader_init_6 : decode prog_8_method_1_code 6 = .ok (.putfield 9, 3) := by decide +kernel
theorem fp_CmTypeReader_9 : zk_Fp "ClosureMachine$TypeReader" 9 3 0 (yc_3 0) true := ⟨rc_3, tc_3, 1, rfl, by decide, zk_in 82 (by decide +kernel) (by decide +kernel), by decide +kernel, rfl, rfl⟩
theorem dc_CmTypeReader_init_9 : decode prog_8_method_1_code 9 = .ok (.return_, 1) := by decide +kernel
abbrev mm_CmMachine_init : zk_Mt := (⟨"ClosureMachine$Machine", "<init>", "(LClosureMachine$Terms;LClosureMachine$Globals;)V"⟩, prog_4_method_1_code, 3, none, 2, 41)
set_option maxRecDepth 20000 in
theorem ok_CmMachine_init : zk_Ok mm_CmMachine_init 2 := ⟨zk_in 90 rfl rfl, ⟨by decide +kernel, by decide +kernel, by decide +kernel⟩, zk_in 6 (by decide +kernel) (by decide +kernel)⟩
theorem dc_CmMachine_init_0 : decode prog_4_method_1_code 0 = .ok (.aload_n 0, 1) := by decide +kernel
theorem dc_CmMachine_init_1 : decode prog_4_method_1_code 1 = .ok (.invokespecial 3, 3) := by decide +kernel
theorem dc_CmMachine_init_4 : decode prog_4_method_1_code 4 = .ok (.aload_n 0, 1) := by decide +kernel
theorem dc_CmMachine_init_5 : decode prog_4_method_1_code 5 = .ok (.new 9, 3) := by decide +kernel
theorem nw_CmMachine_9 : zk_N "ClosureMachine$Machine" 9 0 3 [.int 0, .null, .int 0] := ⟨rc_0, tc_0, yc_0, rfl, zk_in 92 (by decide +kernel) (by decide +kernel), zk_in 29 (by decide +kernel) (by decide +kernel), zk_in 3 (by decide +kernel) (by decide +kernel), yk_0, by decide +kernel⟩
theorem dc_CmMachine_init_8 : decode prog_4_method_1_code 8 = .ok (.dup, 1) := by decide +kernel
theorem dc_CmMachine_init_9 : decode prog_4_method_1_code 9 = .ok (.sipush 12000, 3) := by decide +kernel
theorem dc_CmMachine_init_12 : decode prog_4_method_1_code 12 = .ok (.invokespecial 13, 3) := by decide +kernel
theorem lk_CmMachine_13 : zk_LI "ClosureMachine$Machine" 13 mm_CmRows_init := ⟨zk_in 93 (by decide +kernel) (by decide +kernel), zk_in 32 (by decide +kernel) (by decide +kernel), rfl, rfl⟩
theorem dc_CmMachine_init_15 : decode prog_4_method_1_code 15 = .ok (.putfield 16, 3) := by decide +kernel
theorem fp_CmMachine_16 : zk_Fp "ClosureMachine$Machine" 16 4 2 (yc_4 2) true := ⟨rc_4, tc_4, 11, rfl, by decide, zk_in 96 (by decide +kernel) (by decide +kernel), by decide +kernel, rfl, rfl⟩
theorem dc_CmMachine_init_18 : decode prog_4_method_1_code 18 = .ok (.aload_n 0, 1) := by decide +kernel
theorem dc_CmMachine_init_19 : decode prog_4_method_1_code 19 = .ok (.new 9, 3) := by decide +kernel
theorem dc_CmMachine_init_22 : decode prog_4_method_1_code 22 = .ok (.dup, 1) := by decide +kernel
theorem dc_CmMachine_init_23 : decode prog_4_method_1_code 23 = .ok (.sipush 3000, 3) := by decide +kernel
theorem dc_CmMachine_init_26 : decode prog_4_method_1_code 26 = .ok (.invokespecial 13, 3) := by decide +kernel
theorem dc_CmMachine_init_29 : decode prog_4_method_1_code 29 = .ok (.putfield 20, 3) := by decide +kernel
theorem fp_CmMachine_20 : zk_Fp "ClosureMachine$Machine" 20 4 3 (yc_4 3) true := ⟨rc_4, tc_4, 11, rfl, by decide, zk_in 98 (by decide +kernel) (by decide +kernel), by decide +kernel, rfl, rfl⟩
theorem dc_CmMachine_init_32 : decode prog_4_method_1_code 32 = .ok (.aload_n 0, 1) := by decide +kernel
theorem dc_CmMachine_init_33 : decode prog_4_method_1_code 33 = .ok (.new 9, 3) := by decide +kernel
theorem dc_CmMachine_init_36 : decode prog_4_method_1_code 36 = .ok (.dup, 1) := by decide +kernel
theorem dc_CmMachine_init_37 : decode prog_4_method_1_code 37 = .ok (.sipush 3000, 3) := by decide +kernel
theorem dc_CmMachine_init_40 : decode prog_4_method_1_code 40 = .ok (.invokespecial 13, 3) := by decide +kernel
theorem dc_CmMachine_init_43 : decode prog_4_method_1_code 43 = .ok (.putfield 23, 3) := by decide +kernel
theorem fp_CmMachine_23 : zk_Fp "ClosureMachine$Machine" 23 4 4 (yc_4 4) true := ⟨rc_4, tc_4, 11, rfl, by decide, zk_in 99 (by decide +kernel) (by decide +kernel), by decide +kernel, rfl, rfl⟩
theorem dc_CmMachine_init_46 : decode prog_4_method_1_code 46 = .ok (.aload_n 0, 1) := by decide +kernel
theorem dc_CmMachine_init_47 : decode prog_4_method_1_code 47 = .ok (.iconst 0, 1) := by decide +kernel
theorem dc_CmMachine_init_48 : decode prog_4_method_1_code 48 = .ok (.putfield 26, 3) := by decide +kernel
theorem fp_CmMachine_26 : zk_Fp "ClosureMachine$Machine" 26 4 5 (yc_4 5) false := ⟨rc_4, tc_4, 11, rfl, by decide, zk_in 100 (by decide +kernel) (by decide +kernel), by decide +kernel, rfl, rfl⟩
theorem dc_CmMachine_init_51 : decode prog_4_method_1_code 51 = .ok (.aload_n 0, 1) := by decide +kernel
theorem dc_CmMachine_init_52 : decode prog_4_method_1_code 52 = .ok (.iconst 0, 1) := by decide +kernel
theorem dc_CmMachine_init_53 : decode prog_4_method_1_code 53 = .ok (.putfield 30, 3) := by decide +kernel
theorem fp_CmMachine_30 : zk_Fp "ClosureMachine$Machine" 30 4 6 (yc_4 6) false := ⟨rc_4, tc_4, 11, rfl, by decide, zk_in 101 (by decide +kernel) (by decide +kernel), by decide +kernel, rfl, rfl⟩
theorem dc_CmMachine_init_56 : decode prog_4_method_1_code 56 = .ok (.aload_n 0, 1) := by decide +kernel
theorem dc_CmMachine_init_57 : decode prog_4_method_1_code 57 = .ok (.bipush 21, 2) := by decide +kernel
theorem dc_CmMachine_init_59 : decode prog_4_method_1_code 59 = .ok (.putfield 33, 3) := by decide +kernel
theorem fp_CmMachine_33 : zk_Fp "ClosureMachine$Machine" 33 4 7 (yc_4 7) false := ⟨rc_4, tc_4, 11, rfl, by decide, zk_in 103 (by decide +kernel) (by decide +kernel), by decide +kernel, rfl, rfl⟩
theorem dc_CmMachine_init_62 : decode prog_4_method_1_code 62 = .ok (.aload_n 0, 1) := by decide +kernel
theorem dc_CmMachine_init_63 : decode prog_4_method_1_code 63 = .ok (.iconst 0, 1) := by decide +kernel
theorem dc_CmMachine_init_64 : decode prog_4_method_1_code 64 = .ok (.putfield 36, 3) := by decide +kernel
theorem fp_CmMachine_36 : zk_Fp "ClosureMachine$Machine" 36 4 8 (yc_4 8) false := ⟨rc_4, tc_4, 11, rfl, by decide, zk_in 105 (by decide +kernel) (by decide +kernel), by decide +kernel, rfl, rfl⟩
theorem dc_CmMachine_init_67 : decode prog_4_method_1_code 67 = .ok (.aload_n 0, 1) := by decide +kernel
theorem dc_CmMachine_init_68 : decode prog_4_method_1_code 68 = .ok (.iconst (-1), 1) := by decide +kernel
theorem dc_CmMachine_init_69 : decode prog_4_method_1_code 69 = .ok (.putfield 39, 3) := by decide +kernel
theorem fp_CmMachine_39 : zk_Fp "ClosureMachine$Machine" 39 4 9 (yc_4 9) false := ⟨rc_4, tc_4, 11, rfl, by decide, zk_in 107 (by decide +kernel) (by decide +kernel), by decide +kernel, rfl, rfl⟩
theorem dc_CmMachine_init_72 : decode prog_4_method_1_code 72 = .ok (.aload_n 0, 1) := by decide +kernel
theorem dc_CmMachine_init_73 : decode prog_4_method_1_code 73 = .ok (.iconst (-1), 1) := by decide +kernel
theorem dc_CmMachine_init_74 : decode prog_4_method_1_code 74 = .ok (.putfield 42, 3) := by decide +kernel
theorem fp_CmMachine_42 : zk_Fp "ClosureMachine$Machine" 42 4 10 (yc_4 10) false := ⟨rc_4, tc_4, 11, rfl, by decide, zk_in 109 (by decide +kernel) (by decide +kernel), by decide +kernel, rfl, rfl⟩
theorem dc_CmMachine_init_77 : decode prog_4_method_1_code 77 = .ok (.aload_n 0, 1) := by decide +kernel
theorem dc_CmMachine_init_78 : decode prog_4_method_1_code 78 = .ok (.aload_n 1, 1) := by decide +kernel
theorem dc_CmMachine_init_79 : decode prog_4_method_1_code 79 = .ok (.putfield 45, 3) := by decide +kernel
theorem fp_CmMachine_45 : zk_Fp "ClosureMachine$Machine" 45 4 0 (yc_4 0) true := ⟨rc_4, tc_4, 11, rfl, by decide, zk_in 94 (by decide +kernel) (by decide +kernel), by decide +kernel, rfl, rfl⟩
theorem dc_CmMachine_init_82 : decode prog_4_method_1_code 82 = .ok (.aload_n 0, 1) := by decide +kernel
theorem dc_CmMachine_init_83 : decode prog_4_method_1_code 83 = .ok (.aload_n 2, 1) := by decide +kernel
theorem dc_CmMachine_init_84 : decode prog_4_method_1_code 84 = .ok (.putfield 49, 3) := by decide +kernel
theorem fp_CmMachine_49 : zk_Fp "ClosureMachine$Machine" 49 4 1 (yc_4 1) true := ⟨rc_4, tc_4, 11, rfl, by decide, zk_in 95 (by decide +kernel) (by decide +kernel), by decide +kernel, rfl, rfl⟩
theorem dc_CmMachine_init_87 : decode prog_4_method_1_code 87 = .ok (.return_, 1) := by decide +kernel
abbrev mm_CmReader_init : zk_Mt := (⟨"ClosureMachine$Reader", "<init>", "(LClosureMachine$Terms;LClosureMachine$Machine;)V"⟩, prog_5_method_1_code, 3, none, 2, 41)
set_option maxRecDepth 20000 in
theorem ok_CmReader_init : zk_Ok mm_CmReader_init 2 := ⟨zk_in 139 rfl rfl, ⟨by decide +kernel, by decide +kernel, by decide +kernel⟩, zk_in 7 (by decide +kernel) (by decide +kernel)⟩
theorem dc_CmReader_init_0 : decode prog_5_method_1_code 0 = .ok (.aload_n 0, 1) := by decide +kernel
theorem dc_CmReader_init_1 : decode prog_5_method_1_code 1 = .ok (.invokespecial 3, 3) := by decide +kernel
theorem dc_CmReader_init_4 : decode prog_5_method_1_code 4 = .ok (.aload_n 0, 1) := by decide +kernel
theorem dc_CmReader_init_5 : decode prog_5_method_1_code 5 = .ok (.new 9, 3) := by decide +kernel
theorem nw_CmReader_9 : zk_N "ClosureMachine$Reader" 9 0 3 [.int 0, .null, .int 0] := ⟨rc_0, tc_0, yc_0, rfl, zk_in 141 (by decide +kernel) (by decide +kernel), zk_in 29 (by decide +kernel) (by decide +kernel), zk_in 3 (by decide +kernel) (by decide +kernel), yk_0, by decide +kernel⟩
theorem dc_CmReader_init_8 : decode prog_5_method_1_code 8 = .ok (.dup, 1) := by decide +kernel
theorem dc_CmReader_init_9 : decode prog_5_method_1_code 9 = .ok (.sipush 6000, 3) := by decide +kernel
theorem dc_CmReader_init_12 : decode prog_5_method_1_code 12 = .ok (.invokespecial 11, 3) := by decide +kernel
theorem lk_CmReader_11 : zk_LI "ClosureMachine$Reader" 11 mm_CmRows_init := ⟨zk_in 142 (by decide +kernel) (by decide +kernel), zk_in 32 (by decide +kernel) (by decide +kernel), rfl, rfl⟩
theorem dc_CmReader_init_15 : decode prog_5_method_1_code 15 = .ok (.putfield 14, 3) := by decide +kernel
theorem fp_CmReader_14 : zk_Fp "ClosureMachine$Reader" 14 5 2 (yc_5 2) true := ⟨rc_5, tc_5, 5, rfl, by decide, zk_in 145 (by decide +kernel) (by decide +kernel), by decide +kernel, rfl, rfl⟩
theorem dc_CmReader_init_18 : decode prog_5_method_1_code 18 = .ok (.aload_n 0, 1) := by decide +kernel
theorem dc_CmReader_init_19 : decode prog_5_method_1_code 19 = .ok (.iconst (-1), 1) := by decide +kernel
theorem dc_CmReader_init_20 : decode prog_5_method_1_code 20 = .ok (.putfield 20, 3) := by decide +kernel
theorem fp_CmReader_20 : zk_Fp "ClosureMachine$Reader" 20 5 3 (yc_5 3) false := ⟨rc_5, tc_5, 5, rfl, by decide, zk_in 146 (by decide +kernel) (by decide +kernel), by decide +kernel, rfl, rfl⟩
theorem dc_CmReader_init_23 : decode prog_5_method_1_code 23 = .ok (.aload_n 0, 1) := by decide +kernel
theorem dc_CmReader_init_24 : decode prog_5_method_1_code 24 = .ok (.iconst 0, 1) := by decide +kernel
theorem dc_CmReader_init_25 : decode prog_5_method_1_code 25 = .ok (.putfield 24, 3) := by decide +kernel
theorem fp_CmReader_24 : zk_Fp "ClosureMachine$Reader" 24 5 4 (yc_5 4) false := ⟨rc_5, tc_5, 5, rfl, by decide, zk_in 147 (by decide +kernel) (by decide +kernel), by decide +kernel, rfl, rfl⟩
theorem dc_CmReader_init_28 : decode prog_5_method_1_code 28 = .ok (.aload_n 0, 1) := by decide +kernel
theorem dc_CmReader_init_29 : decode prog_5_method_1_code 29 = .ok (.aload_n 1, 1) := by decide +kernel
theorem dc_CmReader_init_30 : decode prog_5_method_1_code 30 = .ok (.putfield 27, 3) := by decide +kernel
theorem fp_CmReader_27 : zk_Fp "ClosureMachine$Reader" 27 5 0 (yc_5 0) true := ⟨rc_5, tc_5, 5, rfl, by decide, zk_in 143 (by decide +kernel) (by decide +kernel), by decide +kernel, rfl, rfl⟩
theorem dc_CmReader_init_33 : decode prog_5_method_1_code 33 = .ok (.aload_n 0, 1) := by decide +kernel
theorem dc_CmReader_init_34 : decode prog_5_method_1_code 34 = .ok (.aload_n 2, 1) := by decide +kernel
theorem dc_CmReader_init_35 : decode prog_5_method_1_code 35 = .ok (.putfield 31, 3) := by decide +kernel
theorem fp_CmReader_31 : zk_Fp "ClosureMachine$Reader" 31 5 1 (yc_5 1) true := ⟨rc_5, tc_5, 5, rfl, by decide, zk_in 144 (by decide +kernel) (by decide +kernel), by decide +kernel, rfl, rfl⟩
theorem dc_CmReader_init_38 : decode prog_5_method_1_code 38 = .ok (.return_, 1) := by decide +kernel
abbrev mm_Cm_init : zk_Mt := (⟨"ClosureMachine", "<init>", "()V"⟩, prog_1_method_1_code, 1, none, 3, 63)
set_option maxRecDepth 20000 in
theorem ok_Cm_init : zk_Ok mm_Cm_init 0 := ⟨zk_in 18 rfl rfl, ⟨by decide +kernel, by decide +kernel, by decide +kernel⟩, zk_in 1 (by decide +kernel) (by decide +kernel)⟩
theorem dc_Cm_init_0 : decode prog_1_method_1_code 0 = .ok (.aload_n 0, 1) := by decide +kernel
theorem dc_Cm_init_1 : decode prog_1_method_1_code 1 = .ok (.invokespecial 1, 3) := by decide +kernel
theorem dc_Cm_init_4 : decode prog_1_method_1_code 4 = .ok (.aload_n 0, 1) := by decide +kernel
theorem dc_Cm_init_5 : decode prog_1_method_1_code 5 = .ok (.new 7, 3) := by decide +kernel
theorem nw_Cm_7 : zk_N "ClosureMachine" 7 1 4 [.null, .null, .null, .int 0] := ⟨rc_1, tc_1, yc_1, rfl, zk_in 22 (by decide +kernel) (by decide +kernel), zk_in 23 (by decide +kernel) (by decide +kernel), zk_in 2 (by decide +kernel) (by decide +kernel), yk_1, by decide +kernel⟩
theorem dc_Cm_init_8 : decode prog_1_method_1_code 8 = .ok (.dup, 1) := by decide +kernel
theorem dc_Cm_init_9 : decode prog_1_method_1_code 9 = .ok (.invokespecial 9, 3) := by decide +kernel
theorem lk_Cm_9 : zk_LIN "ClosureMachine" 9 mm_CmTerms_init "ClosureMachine" := ⟨List.mem_of_getElem? (i := 0) rfl, zk_in 25 (by decide +kernel) (by decide +kernel), rfl, rfl⟩
theorem dc_Cm_init_12 : decode prog_1_method_1_code 12 = .ok (.putfield 10, 3) := by decide +kernel
theorem fp_Cm_10 : zk_Fp "ClosureMachine" 10 6 0 (yc_6 0) true := ⟨rc_6, tc_6, 9, rfl, by decide, zk_in 160 (by decide +kernel) (by decide +kernel), by decide +kernel, rfl, rfl⟩
theorem dc_Cm_init_15 : decode prog_1_method_1_code 15 = .ok (.aload_n 0, 1) := by decide +kernel
theorem dc_Cm_init_16 : decode prog_1_method_1_code 16 = .ok (.new 16, 3) := by decide +kernel
theorem nw_Cm_16 : zk_N "ClosureMachine" 16 2 2 [.null, .int 0] := ⟨rc_2, tc_2, yc_2, rfl, zk_in 61 (by decide +kernel) (by decide +kernel), zk_in 62 (by decide +kernel) (by decide +kernel), zk_in 4 (by decide +kernel) (by decide +kernel), yk_2, by decide +kernel⟩
theorem dc_Cm_init_19 : decode prog_1_method_1_code 19 = .ok (.dup, 1) := by decide +kernel
theorem dc_Cm_init_20 : decode prog_1_method_1_code 20 = .ok (.invokespecial 18, 3) := by decide +kernel
theorem lk_Cm_18 : zk_LIN "ClosureMachine" 18 mm_CmGlobals_init "ClosureMachine" := ⟨List.mem_of_getElem? (i := 1) rfl, zk_in 64 (by decide +kernel) (by decide +kernel), rfl, rfl⟩
theorem dc_Cm_init_23 : decode prog_1_method_1_code 23 = .ok (.putfield 19, 3) := by decide +kernel
theorem fp_Cm_19 : zk_Fp "ClosureMachine" 19 6 1 (yc_6 1) true := ⟨rc_6, tc_6, 9, rfl, by decide, zk_in 161 (by decide +kernel) (by decide +kernel), by decide +kernel, rfl, rfl⟩
theorem dc_Cm_init_26 : decode prog_1_method_1_code 26 = .ok (.aload_n 0, 1) := by decide +kernel
theorem dc_Cm_init_27 : decode prog_1_method_1_code 27 = .ok (.new 23, 3) := by decide +kernel
theorem nw_Cm_23 : zk_N "ClosureMachine" 23 3 1 [.null] := ⟨rc_3, tc_3, yc_3, rfl, zk_in 76 (by decide +kernel) (by decide +kernel), zk_in 77 (by decide +kernel) (by decide +kernel), zk_in 5 (by decide +kernel) (by decide +kernel), yk_3, by decide +kernel⟩
theorem dc_Cm_init_30 : decode prog_1_method_1_code 30 = .ok (.dup, 1) := by decide +kernel
theorem dc_Cm_init_31 : decode prog_1_method_1_code 31 = .ok (.aload_n 0, 1) := by decide +kernel
theorem dc_Cm_init_32 : decode prog_1_method_1_code 32 = .ok (.getfield 10, 3) := by decide +kernel
theorem fg_Cm_10 : zk_F "ClosureMachine" 10 6 0 := ⟨rc_6, tc_6, 9, rfl, by decide, zk_in 160 (by decide +kernel) (by decide +kernel)⟩
theorem dc_Cm_init_35 : decode prog_1_method_1_code 35 = .ok (.invokespecial 25, 3) := by decide +kernel
theorem lk_Cm_25 : zk_LI "ClosureMachine" 25 mm_CmTypeReader_init := ⟨zk_in 78 (by decide +kernel) (by decide +kernel), zk_in 79 (by decide +kernel) (by decide +kernel), rfl, rfl⟩
theorem dc_Cm_init_38 : decode prog_1_method_1_code 38 = .ok (.putfield 28, 3) := by decide +kernel
theorem fp_Cm_28 : zk_Fp "ClosureMachine" 28 6 2 (yc_6 2) true := ⟨rc_6, tc_6, 9, rfl, by decide, zk_in 162 (by decide +kernel) (by decide +kernel), by decide +kernel, rfl, rfl⟩
theorem dc_Cm_init_41 : decode prog_1_method_1_code 41 = .ok (.aload_n 0, 1) := by decide +kernel
theorem dc_Cm_init_42 : decode prog_1_method_1_code 42 = .ok (.new 32, 3) := by decide +kernel
theorem nw_Cm_32 : zk_N "ClosureMachine" 32 4 11 [.null, .null, .null, .null, .null, .int 0, .int 0, .int 0, .int 0, .int 0, .int 0] := ⟨rc_4, tc_4, yc_4, rfl, zk_in 86 (by decide +kernel) (by decide +kernel), zk_in 87 (by decide +kernel) (by decide +kernel), zk_in 6 (by decide +kernel) (by decide +kernel), yk_4, by decide +kernel⟩
theorem dc_Cm_init_45 : decode prog_1_method_1_code 45 = .ok (.dup, 1) := by decide +kernel
theorem dc_Cm_init_46 : decode prog_1_method_1_code 46 = .ok (.aload_n 0, 1) := by decide +kernel
theorem dc_Cm_init_47 : decode prog_1_method_1_code 47 = .ok (.getfield 10, 3) := by decide +kernel
theorem dc_Cm_init_50 : decode prog_1_method_1_code 50 = .ok (.aload_n 0, 1) := by decide +kernel
theorem dc_Cm_init_51 : decode prog_1_method_1_code 51 = .ok (.getfield 19, 3) := by decide +kernel
theorem fg_Cm_19 : zk_F "ClosureMachine" 19 6 1 := ⟨rc_6, tc_6, 9, rfl, by decide, zk_in 161 (by decide +kernel) (by decide +kernel)⟩
theorem dc_Cm_init_54 : decode prog_1_method_1_code 54 = .ok (.invokespecial 34, 3) := by decide +kernel
theorem lk_Cm_34 : zk_LI "ClosureMachine" 34 mm_CmMachine_init := ⟨zk_in 88 (by decide +kernel) (by decide +kernel), zk_in 89 (by decide +kernel) (by decide +kernel), rfl, rfl⟩
theorem dc_Cm_init_57 : decode prog_1_method_1_code 57 = .ok (.putfield 37, 3) := by decide +kernel
theorem fp_Cm_37 : zk_Fp "ClosureMachine" 37 6 3 (yc_6 3) true := ⟨rc_6, tc_6, 9, rfl, by decide, zk_in 163 (by decide +kernel) (by decide +kernel), by decide +kernel, rfl, rfl⟩
theorem dc_Cm_init_60 : decode prog_1_method_1_code 60 = .ok (.aload_n 0, 1) := by decide +kernel
theorem dc_Cm_init_61 : decode prog_1_method_1_code 61 = .ok (.new 41, 3) := by decide +kernel
theorem nw_Cm_41 : zk_N "ClosureMachine" 41 5 5 [.null, .null, .null, .int 0, .int 0] := ⟨rc_5, tc_5, yc_5, rfl, zk_in 135 (by decide +kernel) (by decide +kernel), zk_in 136 (by decide +kernel) (by decide +kernel), zk_in 7 (by decide +kernel) (by decide +kernel), yk_5, by decide +kernel⟩
theorem dc_Cm_init_64 : decode prog_1_method_1_code 64 = .ok (.dup, 1) := by decide +kernel
theorem dc_Cm_init_65 : decode prog_1_method_1_code 65 = .ok (.aload_n 0, 1) := by decide +kernel
theorem dc_Cm_init_66 : decode prog_1_method_1_code 66 = .ok (.getfield 10, 3) := by decide +kernel
theorem dc_Cm_init_69 : decode prog_1_method_1_code 69 = .ok (.aload_n 0, 1) := by decide +kernel
theorem dc_Cm_init_70 : decode prog_1_method_1_code 70 = .ok (.getfield 37, 3) := by decide +kernel
theorem fg_Cm_37 : zk_F "ClosureMachine" 37 6 3 := ⟨rc_6, tc_6, 9, rfl, by decide, zk_in 163 (by decide +kernel) (by decide +kernel)⟩
theorem dc_Cm_init_73 : decode prog_1_method_1_code 73 = .ok (.invokespecial 43, 3) := by decide +kernel
theorem lk_Cm_43 : zk_LI "ClosureMachine" 43 mm_CmReader_init := ⟨zk_in 137 (by decide +kernel) (by decide +kernel), zk_in 138 (by decide +kernel) (by decide +kernel), rfl, rfl⟩
theorem dc_Cm_init_76 : decode prog_1_method_1_code 76 = .ok (.putfield 46, 3) := by decide +kernel
theorem fp_Cm_46 : zk_Fp "ClosureMachine" 46 6 4 (yc_6 4) true := ⟨rc_6, tc_6, 9, rfl, by decide, zk_in 164 (by decide +kernel) (by decide +kernel), by decide +kernel, rfl, rfl⟩
theorem dc_Cm_init_79 : decode prog_1_method_1_code 79 = .ok (.aload_n 0, 1) := by decide +kernel
theorem dc_Cm_init_80 : decode prog_1_method_1_code 80 = .ok (.iconst (-1), 1) := by decide +kernel
theorem dc_Cm_init_81 : decode prog_1_method_1_code 81 = .ok (.putfield 50, 3) := by decide +kernel
theorem fp_Cm_50 : zk_Fp "ClosureMachine" 50 6 5 (yc_6 5) false := ⟨rc_6, tc_6, 9, rfl, by decide, zk_in 165 (by decide +kernel) (by decide +kernel), by decide +kernel, rfl, rfl⟩
theorem dc_Cm_init_84 : decode prog_1_method_1_code 84 = .ok (.aload_n 0, 1) := by decide +kernel
theorem dc_Cm_init_85 : decode prog_1_method_1_code 85 = .ok (.iconst (-1), 1) := by decide +kernel
theorem dc_Cm_init_86 : decode prog_1_method_1_code 86 = .ok (.putfield 54, 3) := by decide +kernel
theorem fp_Cm_54 : zk_Fp "ClosureMachine" 54 6 6 (yc_6 6) false := ⟨rc_6, tc_6, 9, rfl, by decide, zk_in 166 (by decide +kernel) (by decide +kernel), by decide +kernel, rfl, rfl⟩
theorem dc_Cm_init_89 : decode prog_1_method_1_code 89 = .ok (.aload_n 0, 1) := by decide +kernel
theorem dc_Cm_init_90 : decode prog_1_method_1_code 90 = .ok (.iconst (-1), 1) := by decide +kernel
theorem dc_Cm_init_91 : decode prog_1_method_1_code 91 = .ok (.putfield 57, 3) := by decide +kernel
theorem fp_Cm_57 : zk_Fp "ClosureMachine" 57 6 7 (yc_6 7) false := ⟨rc_6, tc_6, 9, rfl, by decide, zk_in 167 (by decide +kernel) (by decide +kernel), by decide +kernel, rfl, rfl⟩
theorem dc_Cm_init_94 : decode prog_1_method_1_code 94 = .ok (.aload_n 0, 1) := by decide +kernel
theorem dc_Cm_init_95 : decode prog_1_method_1_code 95 = .ok (.iconst (-1), 1) := by decide +kernel
theorem dc_Cm_init_96 : decode prog_1_method_1_code 96 = .ok (.putfield 60, 3) := by decide +kernel
theorem fp_Cm_60 : zk_Fp "ClosureMachine" 60 6 8 (yc_6 8) false := ⟨rc_6, tc_6, 9, rfl, by decide, zk_in 168 (by decide +kernel) (by decide +kernel), by decide +kernel, rfl, rfl⟩
theorem dc_Cm_init_99 : decode prog_1_method_1_code 99 = .ok (.return_, 1) := by decide +kernel
