abbrev mm_CmRows_init : zk_Mt := (⟨"ClosureMachine$Rows", "<init>", "(I)V"⟩, prog_6_method_1_code, 2, none, 1, 20)
set_option maxRecDepth 20000 in
theorem ok_CmRows_init : zk_Ok mm_CmRows_init 1 := ⟨zk_in 33 rfl rfl, ⟨by decide +kernel, by decide +kernel, by decide +kernel⟩, zk_in 3 (by decide +kernel) (by decide +kernel)⟩
theorem dc_CmRows_init_0 : decode prog_6_method_1_code 0 = .ok (.aload_n 0, 1) := by decide +kernel
theorem dc_CmRows_init_1 : decode prog_6_method_1_code 1 = .ok (.invokespecial 3, 3) := by decide +kernel
theorem dc_CmRows_init_4 : decode prog_6_method_1_code 4 = .ok (.aload_n 0, 1) := by decide +kernel
theorem dc_CmRows_init_5 : decode prog_6_method_1_code 5 = .ok (.iload_n 1, 1) := by decide +kernel
theorem dc_CmRows_init_6 : decode prog_6_method_1_code 6 = .ok (.putfield 9, 3) := by decide +kernel
theorem fp_CmRows_9 : zk_Fp "ClosureMachine$Rows" 9 0 0 (yc_0 0) true := ⟨rc_0, tc_0, 3, rfl, by decide, zk_in 35 (by decide +kernel) (by decide +kernel), by decide +kernel, rfl, rfl⟩
theorem dc_CmRows_init_9 : decode prog_6_method_1_code 9 = .ok (.aload_n 0, 1) := by decide +kernel
theorem dc_CmRows_init_10 : decode prog_6_method_1_code 10 = .ok (.sipush 256, 3) := by decide +kernel
theorem dc_CmRows_init_13 : decode prog_6_method_1_code 13 = .ok (.newarray .int, 2) := by decide +kernel
theorem dc_CmRows_init_15 : decode prog_6_method_1_code 15 = .ok (.putfield 15, 3) := by decide +kernel
theorem fp_CmRows_15 : zk_Fp "ClosureMachine$Rows" 15 0 1 (yc_0 1) false := ⟨rc_0, tc_0, 3, rfl, by decide, zk_in 36 (by decide +kernel) (by decide +kernel), by decide +kernel, rfl, rfl⟩
theorem dc_CmRows_init_18 : decode prog_6_method_1_code 18 = .ok (.aload_n 0, 1) := by decide +kernel
theorem dc_CmRows_init_19 : decode prog_6_method_1_code 19 = .ok (.iconst 0, 1) := by decide +kernel
theorem dc_CmRows_init_20 : decode prog_6_method_1_code 20 = .ok (.putfield 19, 3) := by decide +kernel
theorem fp_CmRows_19 : zk_Fp "ClosureMachine$Rows" 19 0 2 (yc_0 2) false := ⟨rc_0, tc_0, 3, rfl, by decide, zk_in 37 (by decide +kernel) (by decide +kernel), by decide +kernel, rfl, rfl⟩
theorem dc_CmRows_init_23 : decode prog_6_method_1_code 23 = .ok (.return_, 1) := by decide +kernel
