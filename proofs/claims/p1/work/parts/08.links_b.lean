abbrev mm_MoRows_init : zk_Mt := (⟨"ClosureMachineModel$Rows", "<init>", "()V"⟩, prog_11_method_1_code, 1, none, 1, 20)
set_option maxRecDepth 20000 in
theorem ok_MoRows_init : zk_Ok mm_MoRows_init 0 := ⟨zk_in 659 rfl rfl, ⟨by decide +kernel, by decide +kernel, by decide +kernel⟩, zk_in 9 (by decide +kernel) (by decide +kernel)⟩
theorem dc_MoRows_init_0 : decode prog_11_method_1_code 0 = .ok (.aload_n 0, 1) := by decide +kernel
theorem dc_MoRows_init_1 : decode prog_11_method_1_code 1 = .ok (.invokespecial 3, 3) := by decide +kernel
theorem dc_MoRows_init_4 : decode prog_11_method_1_code 4 = .ok (.aload_n 0, 1) := by decide +kernel
theorem dc_MoRows_init_5 : decode prog_11_method_1_code 5 = .ok (.sipush 4096, 3) := by decide +kernel
theorem dc_MoRows_init_8 : decode prog_11_method_1_code 8 = .ok (.newarray .int, 2) := by decide +kernel
theorem dc_MoRows_init_10 : decode prog_11_method_1_code 10 = .ok (.putfield 9, 3) := by decide +kernel
theorem fp_MoRows_9 : zk_Fp "ClosureMachineModel$Rows" 9 8 0 (yc_8 0) false := ⟨rc_8, tc_8, 5, rfl, by decide, zk_in 661 (by decide +kernel) (by decide +kernel), by decide +kernel, rfl, rfl⟩
theorem dc_MoRows_init_13 : decode prog_11_method_1_code 13 = .ok (.aload_n 0, 1) := by decide +kernel
theorem dc_MoRows_init_14 : decode prog_11_method_1_code 14 = .ok (.sipush 4096, 3) := by decide +kernel
theorem dc_MoRows_init_17 : decode prog_11_method_1_code 17 = .ok (.newarray .int, 2) := by decide +kernel
theorem dc_MoRows_init_19 : decode prog_11_method_1_code 19 = .ok (.putfield 15, 3) := by decide +kernel
theorem fp_MoRows_15 : zk_Fp "ClosureMachineModel$Rows" 15 8 1 (yc_8 1) false := ⟨rc_8, tc_8, 5, rfl, by decide, zk_in 663 (by decide +kernel) (by decide +kernel), by decide +kernel, rfl, rfl⟩
theorem dc_MoRows_init_22 : decode prog_11_method_1_code 22 = .ok (.aload_n 0, 1) := by decide +kernel
theorem dc_MoRows_init_23 : decode prog_11_method_1_code 23 = .ok (.sipush 4096, 3) := by decide +kernel
theorem dc_MoRows_init_26 : decode prog_11_method_1_code 26 = .ok (.newarray .int, 2) := by decide +kernel
theorem dc_MoRows_init_28 : decode prog_11_method_1_code 28 = .ok (.putfield 18, 3) := by decide +kernel
theorem fp_MoRows_18 : zk_Fp "ClosureMachineModel$Rows" 18 8 2 (yc_8 2) false := ⟨rc_8, tc_8, 5, rfl, by decide, zk_in 665 (by decide +kernel) (by decide +kernel), by decide +kernel, rfl, rfl⟩
theorem dc_MoRows_init_31 : decode prog_11_method_1_code 31 = .ok (.aload_n 0, 1) := by decide +kernel
theorem dc_MoRows_init_32 : decode prog_11_method_1_code 32 = .ok (.sipush 4096, 3) := by decide +kernel
theorem dc_MoRows_init_35 : decode prog_11_method_1_code 35 = .ok (.newarray .int, 2) := by decide +kernel
theorem dc_MoRows_init_37 : decode prog_11_method_1_code 37 = .ok (.putfield 21, 3) := by decide +kernel
theorem fp_MoRows_21 : zk_Fp "ClosureMachineModel$Rows" 21 8 3 (yc_8 3) false := ⟨rc_8, tc_8, 5, rfl, by decide, zk_in 667 (by decide +kernel) (by decide +kernel), by decide +kernel, rfl, rfl⟩
theorem dc_MoRows_init_40 : decode prog_11_method_1_code 40 = .ok (.return_, 1) := by decide +kernel
abbrev mm_MoRows_add : zk_Mt := (⟨"ClosureMachineModel$Rows", "add", "(III)I"⟩, prog_11_method_3_code, 4, (Option.some .int), 2, 61)
set_option maxRecDepth 20000 in
theorem ok_MoRows_add : zk_Ok mm_MoRows_add 3 := ⟨zk_in 685 rfl rfl, ⟨by decide +kernel, by decide +kernel, by decide +kernel⟩, zk_in 9 (by decide +kernel) (by decide +kernel)⟩
theorem dc_MoRows_add_0 : decode prog_11_method_3_code 0 = .ok (.aload_n 0, 1) := by decide +kernel
theorem dc_MoRows_add_1 : decode prog_11_method_3_code 1 = .ok (.getfield 30, 3) := by decide +kernel
theorem fg_MoRows_30 : zk_F "ClosureMachineModel$Rows" 30 8 4 := ⟨rc_8, tc_8, 5, rfl, by decide, zk_in 669 (by decide +kernel) (by decide +kernel)⟩
theorem dc_MoRows_add_4 : decode prog_11_method_3_code 4 = .ok (.aload_n 0, 1) := by decide +kernel
theorem dc_MoRows_add_5 : decode prog_11_method_3_code 5 = .ok (.getfield 9, 3) := by decide +kernel
theorem fg_MoRows_9 : zk_F "ClosureMachineModel$Rows" 9 8 0 := ⟨rc_8, tc_8, 5, rfl, by decide, zk_in 661 (by decide +kernel) (by decide +kernel)⟩
theorem dc_MoRows_add_8 : decode prog_11_method_3_code 8 = .ok (.arraylength, 1) := by decide +kernel
theorem dc_MoRows_add_9 : decode prog_11_method_3_code 9 = .ok (.if_icmp .ne 47, 3) := by decide +kernel
theorem dc_MoRows_add_56 : decode prog_11_method_3_code 56 = .ok (.aload_n 0, 1) := by decide +kernel
theorem dc_MoRows_add_57 : decode prog_11_method_3_code 57 = .ok (.getfield 9, 3) := by decide +kernel
theorem dc_MoRows_add_60 : decode prog_11_method_3_code 60 = .ok (.aload_n 0, 1) := by decide +kernel
theorem dc_MoRows_add_61 : decode prog_11_method_3_code 61 = .ok (.getfield 30, 3) := by decide +kernel
theorem dc_MoRows_add_64 : decode prog_11_method_3_code 64 = .ok (.iload_n 1, 1) := by decide +kernel
theorem dc_MoRows_add_65 : decode prog_11_method_3_code 65 = .ok (.iastore, 1) := by decide +kernel
theorem dc_MoRows_add_66 : decode prog_11_method_3_code 66 = .ok (.aload_n 0, 1) := by decide +kernel
theorem dc_MoRows_add_67 : decode prog_11_method_3_code 67 = .ok (.getfield 15, 3) := by decide +kernel
theorem fg_MoRows_15 : zk_F "ClosureMachineModel$Rows" 15 8 1 := ⟨rc_8, tc_8, 5, rfl, by decide, zk_in 663 (by decide +kernel) (by decide +kernel)⟩
theorem dc_MoRows_add_70 : decode prog_11_method_3_code 70 = .ok (.aload_n 0, 1) := by decide +kernel
theorem dc_MoRows_add_71 : decode prog_11_method_3_code 71 = .ok (.getfield 30, 3) := by decide +kernel
theorem dc_MoRows_add_74 : decode prog_11_method_3_code 74 = .ok (.iload_n 2, 1) := by decide +kernel
theorem dc_MoRows_add_75 : decode prog_11_method_3_code 75 = .ok (.iastore, 1) := by decide +kernel
theorem dc_MoRows_add_76 : decode prog_11_method_3_code 76 = .ok (.aload_n 0, 1) := by decide +kernel
theorem dc_MoRows_add_77 : decode prog_11_method_3_code 77 = .ok (.getfield 18, 3) := by decide +kernel
theorem fg_MoRows_18 : zk_F "ClosureMachineModel$Rows" 18 8 2 := ⟨rc_8, tc_8, 5, rfl, by decide, zk_in 665 (by decide +kernel) (by decide +kernel)⟩
theorem dc_MoRows_add_80 : decode prog_11_method_3_code 80 = .ok (.aload_n 0, 1) := by decide +kernel
theorem dc_MoRows_add_81 : decode prog_11_method_3_code 81 = .ok (.getfield 30, 3) := by decide +kernel
theorem dc_MoRows_add_84 : decode prog_11_method_3_code 84 = .ok (.iload_n 3, 1) := by decide +kernel
theorem dc_MoRows_add_85 : decode prog_11_method_3_code 85 = .ok (.iastore, 1) := by decide +kernel
theorem dc_MoRows_add_86 : decode prog_11_method_3_code 86 = .ok (.aload_n 0, 1) := by decide +kernel
theorem dc_MoRows_add_87 : decode prog_11_method_3_code 87 = .ok (.getfield 21, 3) := by decide +kernel
theorem fg_MoRows_21 : zk_F "ClosureMachineModel$Rows" 21 8 3 := ⟨rc_8, tc_8, 5, rfl, by decide, zk_in 667 (by decide +kernel) (by decide +kernel)⟩
theorem dc_MoRows_add_90 : decode prog_11_method_3_code 90 = .ok (.aload_n 0, 1) := by decide +kernel
theorem dc_MoRows_add_91 : decode prog_11_method_3_code 91 = .ok (.getfield 30, 3) := by decide +kernel
theorem dc_MoRows_add_94 : decode prog_11_method_3_code 94 = .ok (.iconst 1, 1) := by decide +kernel
theorem dc_MoRows_add_95 : decode prog_11_method_3_code 95 = .ok (.iastore, 1) := by decide +kernel
theorem dc_MoRows_add_96 : decode prog_11_method_3_code 96 = .ok (.aload_n 0, 1) := by decide +kernel
theorem dc_MoRows_add_97 : decode prog_11_method_3_code 97 = .ok (.dup, 1) := by decide +kernel
theorem dc_MoRows_add_98 : decode prog_11_method_3_code 98 = .ok (.getfield 30, 3) := by decide +kernel
theorem dc_MoRows_add_101 : decode prog_11_method_3_code 101 = .ok (.dup_x1, 1) := by decide +kernel
theorem dc_MoRows_add_102 : decode prog_11_method_3_code 102 = .ok (.iconst 1, 1) := by decide +kernel
theorem dc_MoRows_add_103 : decode prog_11_method_3_code 103 = .ok (.iadd, 1) := by decide +kernel
theorem dc_MoRows_add_104 : decode prog_11_method_3_code 104 = .ok (.putfield 30, 3) := by decide +kernel
theorem fp_MoRows_30 : zk_Fp "ClosureMachineModel$Rows" 30 8 4 (yc_8 4) false := ⟨rc_8, tc_8, 5, rfl, by decide, zk_in 669 (by decide +kernel) (by decide +kernel), by decide +kernel, rfl, rfl⟩
theorem dc_MoRows_add_107 : decode prog_11_method_3_code 107 = .ok (.ireturn, 1) := by decide +kernel
abbrev mm_Mo_init : zk_Mt := (⟨"ClosureMachineModel", "<init>", "()V"⟩, prog_10_method_1_code, 2, none, 3, 84)
set_option maxRecDepth 20000 in
theorem ok_Mo_init : zk_Ok mm_Mo_init 0 := ⟨zk_in 653 rfl rfl, ⟨by decide +kernel, by decide +kernel, by decide +kernel⟩, zk_in 8 (by decide +kernel) (by decide +kernel)⟩
theorem dc_Mo_init_256 : decode prog_10_method_1_code 256 = .ok (.iload_n 1, 1) := by decide +kernel
theorem dc_Mo_init_257 : decode prog_10_method_1_code 257 = .ok (.sipush 2200, 3) := by decide +kernel
theorem dc_Mo_init_260 : decode prog_10_method_1_code 260 = .ok (.if_icmp .gt 20, 3) := by decide +kernel
theorem dc_Mo_init_263 : decode prog_10_method_1_code 263 = .ok (.aload_n 0, 1) := by decide +kernel
theorem dc_Mo_init_264 : decode prog_10_method_1_code 264 = .ok (.getfield 10, 3) := by decide +kernel
theorem fg_Mo_10 : zk_F "ClosureMachineModel" 10 9 0 := ⟨rc_9, tc_9, 48, rfl, by decide, zk_in 690 (by decide +kernel) (by decide +kernel)⟩
theorem dc_Mo_init_267 : decode prog_10_method_1_code 267 = .ok (.iconst 0, 1) := by decide +kernel
theorem dc_Mo_init_268 : decode prog_10_method_1_code 268 = .ok (.iload_n 1, 1) := by decide +kernel
theorem dc_Mo_init_269 : decode prog_10_method_1_code 269 = .ok (.iconst 0, 1) := by decide +kernel
theorem dc_Mo_init_270 : decode prog_10_method_1_code 270 = .ok (.invokevirtual 105, 3) := by decide +kernel
theorem lk_Mo_105 : zk_LV "ClosureMachineModel" 105 mm_MoRows_add := ⟨zk_in 682 (by decide +kernel) (by decide +kernel), zk_in 683 (by decide +kernel) (by decide +kernel), zk_in 684 (by decide +kernel) (by decide +kernel)⟩
theorem dc_Mo_init_273 : decode prog_10_method_1_code 273 = .ok (.pop, 1) := by decide +kernel
theorem dc_Mo_init_274 : decode prog_10_method_1_code 274 = .ok (.iinc 1 1, 3) := by decide +kernel
theorem dc_Mo_init_277 : decode prog_10_method_1_code 277 = .ok (.goto (-21), 3) := by decide +kernel
theorem dc_Mo_init_280 : decode prog_10_method_1_code 280 = .ok (.return_, 1) := by decide +kernel
theorem dc_Mo_init_0 : decode prog_10_method_1_code 0 = .ok (.aload_n 0, 1) := by decide +kernel
theorem dc_Mo_init_1 : decode prog_10_method_1_code 1 = .ok (.invokespecial 1, 3) := by decide +kernel
theorem dc_Mo_init_4 : decode prog_10_method_1_code 4 = .ok (.aload_n 0, 1) := by decide +kernel
theorem dc_Mo_init_5 : decode prog_10_method_1_code 5 = .ok (.new 7, 3) := by decide +kernel
theorem nw_Mo_7 : zk_N "ClosureMachineModel" 7 8 5 [.null, .null, .null, .null, .int 0] := ⟨rc_8, tc_8, yc_8, rfl, zk_in 655 (by decide +kernel) (by decide +kernel), zk_in 656 (by decide +kernel) (by decide +kernel), zk_in 9 (by decide +kernel) (by decide +kernel), yk_8, by decide +kernel⟩
theorem dc_Mo_init_8 : decode prog_10_method_1_code 8 = .ok (.dup, 1) := by decide +kernel
theorem dc_Mo_init_9 : decode prog_10_method_1_code 9 = .ok (.invokespecial 9, 3) := by decide +kernel
theorem lk_Mo_9 : zk_LIN "ClosureMachineModel" 9 mm_MoRows_init "ClosureMachineModel" := ⟨List.mem_of_getElem? (i := 3) rfl, zk_in 658 (by decide +kernel) (by decide +kernel), rfl, rfl⟩
theorem dc_Mo_init_12 : decode prog_10_method_1_code 12 = .ok (.putfield 10, 3) := by decide +kernel
theorem fp_Mo_10 : zk_Fp "ClosureMachineModel" 10 9 0 (yc_9 0) true := ⟨rc_9, tc_9, 48, rfl, by decide, zk_in 690 (by decide +kernel) (by decide +kernel), by decide +kernel, rfl, rfl⟩
theorem dc_Mo_init_15 : decode prog_10_method_1_code 15 = .ok (.aload_n 0, 1) := by decide +kernel
theorem dc_Mo_init_16 : decode prog_10_method_1_code 16 = .ok (.sipush 3000, 3) := by decide +kernel
theorem dc_Mo_init_19 : decode prog_10_method_1_code 19 = .ok (.newarray .int, 2) := by decide +kernel
theorem dc_Mo_init_21 : decode prog_10_method_1_code 21 = .ok (.putfield 16, 3) := by decide +kernel
theorem fp_Mo_16 : zk_Fp "ClosureMachineModel" 16 9 1 (yc_9 1) true := ⟨rc_9, tc_9, 48, rfl, by decide, zk_in 691 (by decide +kernel) (by decide +kernel), by decide +kernel, rfl, rfl⟩
theorem dc_Mo_init_24 : decode prog_10_method_1_code 24 = .ok (.aload_n 0, 1) := by decide +kernel
theorem dc_Mo_init_25 : decode prog_10_method_1_code 25 = .ok (.sipush 3000, 3) := by decide +kernel
theorem dc_Mo_init_28 : decode prog_10_method_1_code 28 = .ok (.newarray .int, 2) := by decide +kernel
theorem dc_Mo_init_30 : decode prog_10_method_1_code 30 = .ok (.putfield 20, 3) := by decide +kernel
theorem fp_Mo_20 : zk_Fp "ClosureMachineModel" 20 9 2 (yc_9 2) true := ⟨rc_9, tc_9, 48, rfl, by decide, zk_in 692 (by decide +kernel) (by decide +kernel), by decide +kernel, rfl, rfl⟩
theorem dc_Mo_init_33 : decode prog_10_method_1_code 33 = .ok (.aload_n 0, 1) := by decide +kernel
theorem dc_Mo_init_34 : decode prog_10_method_1_code 34 = .ok (.sipush 3000, 3) := by decide +kernel
theorem dc_Mo_init_37 : decode prog_10_method_1_code 37 = .ok (.newarray .int, 2) := by decide +kernel
theorem dc_Mo_init_39 : decode prog_10_method_1_code 39 = .ok (.putfield 23, 3) := by decide +kernel
theorem fp_Mo_23 : zk_Fp "ClosureMachineModel" 23 9 3 (yc_9 3) true := ⟨rc_9, tc_9, 48, rfl, by decide, zk_in 693 (by decide +kernel) (by decide +kernel), by decide +kernel, rfl, rfl⟩
theorem dc_Mo_init_42 : decode prog_10_method_1_code 42 = .ok (.aload_n 0, 1) := by decide +kernel
theorem dc_Mo_init_43 : decode prog_10_method_1_code 43 = .ok (.bipush 60, 2) := by decide +kernel
theorem dc_Mo_init_45 : decode prog_10_method_1_code 45 = .ok (.newarray .int, 2) := by decide +kernel
theorem dc_Mo_init_47 : decode prog_10_method_1_code 47 = .ok (.putfield 26, 3) := by decide +kernel
theorem fp_Mo_26 : zk_Fp "ClosureMachineModel" 26 9 6 (yc_9 6) true := ⟨rc_9, tc_9, 48, rfl, by decide, zk_in 696 (by decide +kernel) (by decide +kernel), by decide +kernel, rfl, rfl⟩
theorem dc_Mo_init_50 : decode prog_10_method_1_code 50 = .ok (.aload_n 0, 1) := by decide +kernel
theorem dc_Mo_init_51 : decode prog_10_method_1_code 51 = .ok (.bipush 60, 2) := by decide +kernel
theorem dc_Mo_init_53 : decode prog_10_method_1_code 53 = .ok (.newarray .int, 2) := by decide +kernel
theorem dc_Mo_init_55 : decode prog_10_method_1_code 55 = .ok (.putfield 29, 3) := by decide +kernel
theorem fp_Mo_29 : zk_Fp "ClosureMachineModel" 29 9 7 (yc_9 7) true := ⟨rc_9, tc_9, 48, rfl, by decide, zk_in 697 (by decide +kernel) (by decide +kernel), by decide +kernel, rfl, rfl⟩
theorem dc_Mo_init_58 : decode prog_10_method_1_code 58 = .ok (.aload_n 0, 1) := by decide +kernel
theorem dc_Mo_init_59 : decode prog_10_method_1_code 59 = .ok (.bipush 60, 2) := by decide +kernel
theorem dc_Mo_init_61 : decode prog_10_method_1_code 61 = .ok (.newarray .int, 2) := by decide +kernel
theorem dc_Mo_init_63 : decode prog_10_method_1_code 63 = .ok (.putfield 32, 3) := by decide +kernel
theorem fp_Mo_32 : zk_Fp "ClosureMachineModel" 32 9 8 (yc_9 8) true := ⟨rc_9, tc_9, 48, rfl, by decide, zk_in 698 (by decide +kernel) (by decide +kernel), by decide +kernel, rfl, rfl⟩
theorem dc_Mo_init_66 : decode prog_10_method_1_code 66 = .ok (.aload_n 0, 1) := by decide +kernel
theorem dc_Mo_init_67 : decode prog_10_method_1_code 67 = .ok (.bipush 60, 2) := by decide +kernel
theorem dc_Mo_init_69 : decode prog_10_method_1_code 69 = .ok (.newarray .int, 2) := by decide +kernel
theorem dc_Mo_init_71 : decode prog_10_method_1_code 71 = .ok (.putfield 35, 3) := by decide +kernel
theorem fp_Mo_35 : zk_Fp "ClosureMachineModel" 35 9 9 (yc_9 9) true := ⟨rc_9, tc_9, 48, rfl, by decide, zk_in 699 (by decide +kernel) (by decide +kernel), by decide +kernel, rfl, rfl⟩
theorem dc_Mo_init_74 : decode prog_10_method_1_code 74 = .ok (.aload_n 0, 1) := by decide +kernel
theorem dc_Mo_init_75 : decode prog_10_method_1_code 75 = .ok (.bipush 60, 2) := by decide +kernel
theorem dc_Mo_init_77 : decode prog_10_method_1_code 77 = .ok (.newarray .int, 2) := by decide +kernel
theorem dc_Mo_init_79 : decode prog_10_method_1_code 79 = .ok (.putfield 38, 3) := by decide +kernel
theorem fp_Mo_38 : zk_Fp "ClosureMachineModel" 38 9 10 (yc_9 10) true := ⟨rc_9, tc_9, 48, rfl, by decide, zk_in 700 (by decide +kernel) (by decide +kernel), by decide +kernel, rfl, rfl⟩
theorem dc_Mo_init_82 : decode prog_10_method_1_code 82 = .ok (.aload_n 0, 1) := by decide +kernel
theorem dc_Mo_init_83 : decode prog_10_method_1_code 83 = .ok (.bipush 60, 2) := by decide +kernel
theorem dc_Mo_init_85 : decode prog_10_method_1_code 85 = .ok (.newarray .int, 2) := by decide +kernel
theorem dc_Mo_init_87 : decode prog_10_method_1_code 87 = .ok (.putfield 41, 3) := by decide +kernel
theorem fp_Mo_41 : zk_Fp "ClosureMachineModel" 41 9 11 (yc_9 11) true := ⟨rc_9, tc_9, 48, rfl, by decide, zk_in 701 (by decide +kernel) (by decide +kernel), by decide +kernel, rfl, rfl⟩
theorem dc_Mo_init_90 : decode prog_10_method_1_code 90 = .ok (.aload_n 0, 1) := by decide +kernel
theorem dc_Mo_init_91 : decode prog_10_method_1_code 91 = .ok (.bipush 60, 2) := by decide +kernel
theorem dc_Mo_init_93 : decode prog_10_method_1_code 93 = .ok (.newarray .int, 2) := by decide +kernel
theorem dc_Mo_init_95 : decode prog_10_method_1_code 95 = .ok (.putfield 44, 3) := by decide +kernel
theorem fp_Mo_44 : zk_Fp "ClosureMachineModel" 44 9 12 (yc_9 12) true := ⟨rc_9, tc_9, 48, rfl, by decide, zk_in 702 (by decide +kernel) (by decide +kernel), by decide +kernel, rfl, rfl⟩
theorem dc_Mo_init_98 : decode prog_10_method_1_code 98 = .ok (.aload_n 0, 1) := by decide +kernel
theorem dc_Mo_init_99 : decode prog_10_method_1_code 99 = .ok (.bipush 60, 2) := by decide +kernel
theorem dc_Mo_init_101 : decode prog_10_method_1_code 101 = .ok (.newarray .int, 2) := by decide +kernel
theorem dc_Mo_init_103 : decode prog_10_method_1_code 103 = .ok (.putfield 47, 3) := by decide +kernel
theorem fp_Mo_47 : zk_Fp "ClosureMachineModel" 47 9 13 (yc_9 13) true := ⟨rc_9, tc_9, 48, rfl, by decide, zk_in 703 (by decide +kernel) (by decide +kernel), by decide +kernel, rfl, rfl⟩
theorem dc_Mo_init_106 : decode prog_10_method_1_code 106 = .ok (.aload_n 0, 1) := by decide +kernel
theorem dc_Mo_init_107 : decode prog_10_method_1_code 107 = .ok (.bipush 64, 2) := by decide +kernel
theorem dc_Mo_init_109 : decode prog_10_method_1_code 109 = .ok (.newarray .int, 2) := by decide +kernel
theorem dc_Mo_init_111 : decode prog_10_method_1_code 111 = .ok (.putfield 50, 3) := by decide +kernel
theorem fp_Mo_50 : zk_Fp "ClosureMachineModel" 50 9 15 (yc_9 15) false := ⟨rc_9, tc_9, 48, rfl, by decide, zk_in 705 (by decide +kernel) (by decide +kernel), by decide +kernel, rfl, rfl⟩
theorem dc_Mo_init_114 : decode prog_10_method_1_code 114 = .ok (.aload_n 0, 1) := by decide +kernel
theorem dc_Mo_init_115 : decode prog_10_method_1_code 115 = .ok (.bipush 64, 2) := by decide +kernel
theorem dc_Mo_init_117 : decode prog_10_method_1_code 117 = .ok (.newarray .int, 2) := by decide +kernel
theorem dc_Mo_init_119 : decode prog_10_method_1_code 119 = .ok (.putfield 53, 3) := by decide +kernel
theorem fp_Mo_53 : zk_Fp "ClosureMachineModel" 53 9 16 (yc_9 16) false := ⟨rc_9, tc_9, 48, rfl, by decide, zk_in 706 (by decide +kernel) (by decide +kernel), by decide +kernel, rfl, rfl⟩
theorem dc_Mo_init_122 : decode prog_10_method_1_code 122 = .ok (.aload_n 0, 1) := by decide +kernel
theorem dc_Mo_init_123 : decode prog_10_method_1_code 123 = .ok (.bipush 64, 2) := by decide +kernel
theorem dc_Mo_init_125 : decode prog_10_method_1_code 125 = .ok (.newarray .int, 2) := by decide +kernel
theorem dc_Mo_init_127 : decode prog_10_method_1_code 127 = .ok (.putfield 56, 3) := by decide +kernel
theorem fp_Mo_56 : zk_Fp "ClosureMachineModel" 56 9 17 (yc_9 17) false := ⟨rc_9, tc_9, 48, rfl, by decide, zk_in 707 (by decide +kernel) (by decide +kernel), by decide +kernel, rfl, rfl⟩
theorem dc_Mo_init_130 : decode prog_10_method_1_code 130 = .ok (.aload_n 0, 1) := by decide +kernel
theorem dc_Mo_init_131 : decode prog_10_method_1_code 131 = .ok (.bipush 64, 2) := by decide +kernel
theorem dc_Mo_init_133 : decode prog_10_method_1_code 133 = .ok (.newarray .int, 2) := by decide +kernel
theorem dc_Mo_init_135 : decode prog_10_method_1_code 135 = .ok (.putfield 59, 3) := by decide +kernel
theorem fp_Mo_59 : zk_Fp "ClosureMachineModel" 59 9 18 (yc_9 18) false := ⟨rc_9, tc_9, 48, rfl, by decide, zk_in 708 (by decide +kernel) (by decide +kernel), by decide +kernel, rfl, rfl⟩
theorem dc_Mo_init_138 : decode prog_10_method_1_code 138 = .ok (.aload_n 0, 1) := by decide +kernel
theorem dc_Mo_init_139 : decode prog_10_method_1_code 139 = .ok (.iconst (-1), 1) := by decide +kernel
theorem dc_Mo_init_140 : decode prog_10_method_1_code 140 = .ok (.putfield 62, 3) := by decide +kernel
theorem fp_Mo_62 : zk_Fp "ClosureMachineModel" 62 9 24 (yc_9 24) false := ⟨rc_9, tc_9, 48, rfl, by decide, zk_in 714 (by decide +kernel) (by decide +kernel), by decide +kernel, rfl, rfl⟩
theorem dc_Mo_init_143 : decode prog_10_method_1_code 143 = .ok (.aload_n 0, 1) := by decide +kernel
theorem dc_Mo_init_144 : decode prog_10_method_1_code 144 = .ok (.sipush 256, 3) := by decide +kernel
theorem dc_Mo_init_147 : decode prog_10_method_1_code 147 = .ok (.newarray .int, 2) := by decide +kernel
theorem dc_Mo_init_149 : decode prog_10_method_1_code 149 = .ok (.putfield 66, 3) := by decide +kernel
theorem fp_Mo_66 : zk_Fp "ClosureMachineModel" 66 9 25 (yc_9 25) false := ⟨rc_9, tc_9, 48, rfl, by decide, zk_in 715 (by decide +kernel) (by decide +kernel), by decide +kernel, rfl, rfl⟩
theorem dc_Mo_init_152 : decode prog_10_method_1_code 152 = .ok (.aload_n 0, 1) := by decide +kernel
theorem dc_Mo_init_153 : decode prog_10_method_1_code 153 = .ok (.sipush 256, 3) := by decide +kernel
theorem dc_Mo_init_156 : decode prog_10_method_1_code 156 = .ok (.newarray .int, 2) := by decide +kernel
theorem dc_Mo_init_158 : decode prog_10_method_1_code 158 = .ok (.putfield 69, 3) := by decide +kernel
theorem fp_Mo_69 : zk_Fp "ClosureMachineModel" 69 9 26 (yc_9 26) false := ⟨rc_9, tc_9, 48, rfl, by decide, zk_in 716 (by decide +kernel) (by decide +kernel), by decide +kernel, rfl, rfl⟩
theorem dc_Mo_init_161 : decode prog_10_method_1_code 161 = .ok (.aload_n 0, 1) := by decide +kernel
theorem dc_Mo_init_162 : decode prog_10_method_1_code 162 = .ok (.sipush 256, 3) := by decide +kernel
theorem dc_Mo_init_165 : decode prog_10_method_1_code 165 = .ok (.newarray .int, 2) := by decide +kernel
theorem dc_Mo_init_167 : decode prog_10_method_1_code 167 = .ok (.putfield 72, 3) := by decide +kernel
theorem fp_Mo_72 : zk_Fp "ClosureMachineModel" 72 9 27 (yc_9 27) false := ⟨rc_9, tc_9, 48, rfl, by decide, zk_in 717 (by decide +kernel) (by decide +kernel), by decide +kernel, rfl, rfl⟩
theorem dc_Mo_init_170 : decode prog_10_method_1_code 170 = .ok (.aload_n 0, 1) := by decide +kernel
theorem dc_Mo_init_171 : decode prog_10_method_1_code 171 = .ok (.sipush 256, 3) := by decide +kernel
theorem dc_Mo_init_174 : decode prog_10_method_1_code 174 = .ok (.newarray .int, 2) := by decide +kernel
theorem dc_Mo_init_176 : decode prog_10_method_1_code 176 = .ok (.putfield 75, 3) := by decide +kernel
theorem fp_Mo_75 : zk_Fp "ClosureMachineModel" 75 9 28 (yc_9 28) false := ⟨rc_9, tc_9, 48, rfl, by decide, zk_in 718 (by decide +kernel) (by decide +kernel), by decide +kernel, rfl, rfl⟩
theorem dc_Mo_init_179 : decode prog_10_method_1_code 179 = .ok (.aload_n 0, 1) := by decide +kernel
theorem dc_Mo_init_180 : decode prog_10_method_1_code 180 = .ok (.sipush 256, 3) := by decide +kernel
theorem dc_Mo_init_183 : decode prog_10_method_1_code 183 = .ok (.newarray .int, 2) := by decide +kernel
theorem dc_Mo_init_185 : decode prog_10_method_1_code 185 = .ok (.putfield 78, 3) := by decide +kernel
theorem fp_Mo_78 : zk_Fp "ClosureMachineModel" 78 9 30 (yc_9 30) false := ⟨rc_9, tc_9, 48, rfl, by decide, zk_in 720 (by decide +kernel) (by decide +kernel), by decide +kernel, rfl, rfl⟩
theorem dc_Mo_init_188 : decode prog_10_method_1_code 188 = .ok (.aload_n 0, 1) := by decide +kernel
theorem dc_Mo_init_189 : decode prog_10_method_1_code 189 = .ok (.sipush 256, 3) := by decide +kernel
theorem dc_Mo_init_192 : decode prog_10_method_1_code 192 = .ok (.newarray .int, 2) := by decide +kernel
theorem dc_Mo_init_194 : decode prog_10_method_1_code 194 = .ok (.putfield 81, 3) := by decide +kernel
theorem fp_Mo_81 : zk_Fp "ClosureMachineModel" 81 9 31 (yc_9 31) false := ⟨rc_9, tc_9, 48, rfl, by decide, zk_in 721 (by decide +kernel) (by decide +kernel), by decide +kernel, rfl, rfl⟩
theorem dc_Mo_init_197 : decode prog_10_method_1_code 197 = .ok (.aload_n 0, 1) := by decide +kernel
theorem dc_Mo_init_198 : decode prog_10_method_1_code 198 = .ok (.sipush 256, 3) := by decide +kernel
theorem dc_Mo_init_201 : decode prog_10_method_1_code 201 = .ok (.newarray .int, 2) := by decide +kernel
theorem dc_Mo_init_203 : decode prog_10_method_1_code 203 = .ok (.putfield 84, 3) := by decide +kernel
theorem fp_Mo_84 : zk_Fp "ClosureMachineModel" 84 9 32 (yc_9 32) false := ⟨rc_9, tc_9, 48, rfl, by decide, zk_in 722 (by decide +kernel) (by decide +kernel), by decide +kernel, rfl, rfl⟩
theorem dc_Mo_init_206 : decode prog_10_method_1_code 206 = .ok (.aload_n 0, 1) := by decide +kernel
theorem dc_Mo_init_207 : decode prog_10_method_1_code 207 = .ok (.bipush 64, 2) := by decide +kernel
theorem dc_Mo_init_209 : decode prog_10_method_1_code 209 = .ok (.newarray .int, 2) := by decide +kernel
theorem dc_Mo_init_211 : decode prog_10_method_1_code 211 = .ok (.putfield 87, 3) := by decide +kernel
theorem fp_Mo_87 : zk_Fp "ClosureMachineModel" 87 9 34 (yc_9 34) false := ⟨rc_9, tc_9, 48, rfl, by decide, zk_in 724 (by decide +kernel) (by decide +kernel), by decide +kernel, rfl, rfl⟩
theorem dc_Mo_init_214 : decode prog_10_method_1_code 214 = .ok (.aload_n 0, 1) := by decide +kernel
theorem dc_Mo_init_215 : decode prog_10_method_1_code 215 = .ok (.bipush 64, 2) := by decide +kernel
theorem dc_Mo_init_217 : decode prog_10_method_1_code 217 = .ok (.newarray .int, 2) := by decide +kernel
theorem dc_Mo_init_219 : decode prog_10_method_1_code 219 = .ok (.putfield 90, 3) := by decide +kernel
theorem fp_Mo_90 : zk_Fp "ClosureMachineModel" 90 9 35 (yc_9 35) false := ⟨rc_9, tc_9, 48, rfl, by decide, zk_in 725 (by decide +kernel) (by decide +kernel), by decide +kernel, rfl, rfl⟩
theorem dc_Mo_init_222 : decode prog_10_method_1_code 222 = .ok (.aload_n 0, 1) := by decide +kernel
theorem dc_Mo_init_223 : decode prog_10_method_1_code 223 = .ok (.bipush 64, 2) := by decide +kernel
theorem dc_Mo_init_225 : decode prog_10_method_1_code 225 = .ok (.newarray .int, 2) := by decide +kernel
theorem dc_Mo_init_227 : decode prog_10_method_1_code 227 = .ok (.putfield 93, 3) := by decide +kernel
theorem fp_Mo_93 : zk_Fp "ClosureMachineModel" 93 9 36 (yc_9 36) false := ⟨rc_9, tc_9, 48, rfl, by decide, zk_in 726 (by decide +kernel) (by decide +kernel), by decide +kernel, rfl, rfl⟩
theorem dc_Mo_init_230 : decode prog_10_method_1_code 230 = .ok (.aload_n 0, 1) := by decide +kernel
theorem dc_Mo_init_231 : decode prog_10_method_1_code 231 = .ok (.bipush 64, 2) := by decide +kernel
theorem dc_Mo_init_233 : decode prog_10_method_1_code 233 = .ok (.newarray .int, 2) := by decide +kernel
theorem dc_Mo_init_235 : decode prog_10_method_1_code 235 = .ok (.putfield 96, 3) := by decide +kernel
theorem fp_Mo_96 : zk_Fp "ClosureMachineModel" 96 9 37 (yc_9 37) false := ⟨rc_9, tc_9, 48, rfl, by decide, zk_in 727 (by decide +kernel) (by decide +kernel), by decide +kernel, rfl, rfl⟩
theorem dc_Mo_init_238 : decode prog_10_method_1_code 238 = .ok (.aload_n 0, 1) := by decide +kernel
theorem dc_Mo_init_239 : decode prog_10_method_1_code 239 = .ok (.bipush 64, 2) := by decide +kernel
theorem dc_Mo_init_241 : decode prog_10_method_1_code 241 = .ok (.newarray .int, 2) := by decide +kernel
theorem dc_Mo_init_243 : decode prog_10_method_1_code 243 = .ok (.putfield 99, 3) := by decide +kernel
theorem fp_Mo_99 : zk_Fp "ClosureMachineModel" 99 9 39 (yc_9 39) false := ⟨rc_9, tc_9, 48, rfl, by decide, zk_in 729 (by decide +kernel) (by decide +kernel), by decide +kernel, rfl, rfl⟩
theorem dc_Mo_init_246 : decode prog_10_method_1_code 246 = .ok (.aload_n 0, 1) := by decide +kernel
theorem dc_Mo_init_247 : decode prog_10_method_1_code 247 = .ok (.bipush 64, 2) := by decide +kernel
theorem dc_Mo_init_249 : decode prog_10_method_1_code 249 = .ok (.newarray .int, 2) := by decide +kernel
theorem dc_Mo_init_251 : decode prog_10_method_1_code 251 = .ok (.putfield 102, 3) := by decide +kernel
theorem fp_Mo_102 : zk_Fp "ClosureMachineModel" 102 9 41 (yc_9 41) false := ⟨rc_9, tc_9, 48, rfl, by decide, zk_in 731 (by decide +kernel) (by decide +kernel), by decide +kernel, rfl, rfl⟩
theorem dc_Mo_init_254 : decode prog_10_method_1_code 254 = .ok (.iconst 0, 1) := by decide +kernel
theorem dc_Mo_init_255 : decode prog_10_method_1_code 255 = .ok (.istore_n 1, 1) := by decide +kernel
