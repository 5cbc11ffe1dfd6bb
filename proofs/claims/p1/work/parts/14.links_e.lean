abbrev mm_Cm_leaf : zk_Mt := (⟨"ClosureMachine", "leaf", "(III)I"⟩, prog_1_method_2_code, 5, (Option.some .int), 4, 94)
set_option maxRecDepth 20000 in
theorem ok_Cm_leaf : zk_Ok mm_Cm_leaf 3 := ⟨zk_in 191 rfl rfl, ⟨by decide +kernel, by decide +kernel, by decide +kernel⟩, zk_in 1 (by decide +kernel) (by decide +kernel)⟩
theorem dc_Cm_leaf_0 : decode prog_1_method_2_code 0 = .ok (.iload_n 1, 1) := by decide +kernel
theorem dc_Cm_leaf_1 : decode prog_1_method_2_code 1 = .ok (.tableswitch 100 0 3 #[31, 50, 31, 73], 31) := by decide +kernel
theorem dc_Cm_leaf_32 : decode prog_1_method_2_code 32 = .ok (.iload_n 2, 1) := by decide +kernel
theorem dc_Cm_leaf_33 : decode prog_1_method_2_code 33 = .ok (.invokestatic 63, 3) := by decide +kernel
theorem lk_Cm_63 : zk_LS "ClosureMachine" 63 mm_Cm_isNumber := ⟨zk_in 192 (by decide +kernel) (by decide +kernel), zk_in 193 (by decide +kernel) (by decide +kernel)⟩
theorem dc_Cm_leaf_36 : decode prog_1_method_2_code 36 = .ok (.ifCond .eq 11, 3) := by decide +kernel
theorem dc_Cm_leaf_39 : decode prog_1_method_2_code 39 = .ok (.iload_n 3, 1) := by decide +kernel
theorem dc_Cm_leaf_40 : decode prog_1_method_2_code 40 = .ok (.ifCond .ne 7, 3) := by decide +kernel
theorem dc_Cm_leaf_47 : decode prog_1_method_2_code 47 = .ok (.iconst 0, 1) := by decide +kernel
theorem dc_Cm_leaf_48 : decode prog_1_method_2_code 48 = .ok (.goto 54, 3) := by decide +kernel
theorem dc_Cm_leaf_102 : decode prog_1_method_2_code 102 = .ok (.istore 4, 2) := by decide +kernel
theorem dc_Cm_leaf_104 : decode prog_1_method_2_code 104 = .ok (.iload 4, 2) := by decide +kernel
theorem dc_Cm_leaf_106 : decode prog_1_method_2_code 106 = .ok (.ifCond .eq 16, 3) := by decide +kernel
theorem dc_Cm_leaf_122 : decode prog_1_method_2_code 122 = .ok (.iconst (-1), 1) := by decide +kernel
theorem dc_Cm_leaf_123 : decode prog_1_method_2_code 123 = .ok (.ireturn, 1) := by decide +kernel
theorem dc_Cm_leaf_43 : decode prog_1_method_2_code 43 = .ok (.iconst 1, 1) := by decide +kernel
theorem dc_Cm_leaf_44 : decode prog_1_method_2_code 44 = .ok (.goto 58, 3) := by decide +kernel
theorem dc_Cm_leaf_109 : decode prog_1_method_2_code 109 = .ok (.aload_n 0, 1) := by decide +kernel
theorem dc_Cm_leaf_110 : decode prog_1_method_2_code 110 = .ok (.getfield 10, 3) := by decide +kernel
theorem dc_Cm_leaf_113 : decode prog_1_method_2_code 113 = .ok (.iload_n 1, 1) := by decide +kernel
theorem dc_Cm_leaf_114 : decode prog_1_method_2_code 114 = .ok (.iload_n 2, 1) := by decide +kernel
theorem dc_Cm_leaf_115 : decode prog_1_method_2_code 115 = .ok (.iload_n 3, 1) := by decide +kernel
theorem dc_Cm_leaf_116 : decode prog_1_method_2_code 116 = .ok (.invokevirtual 77, 3) := by decide +kernel
theorem lk_Cm_77 : zk_LV "ClosureMachine" 77 mm_CmTerms_addLeaf := ⟨zk_in 207 (by decide +kernel) (by decide +kernel), zk_in 208 (by decide +kernel) (by decide +kernel), zk_in 209 (by decide +kernel) (by decide +kernel)⟩
theorem dc_Cm_leaf_119 : decode prog_1_method_2_code 119 = .ok (.goto 4, 3) := by decide +kernel
theorem dc_Cm_leaf_51 : decode prog_1_method_2_code 51 = .ok (.aload_n 0, 1) := by decide +kernel
theorem dc_Cm_leaf_52 : decode prog_1_method_2_code 52 = .ok (.getfield 19, 3) := by decide +kernel
theorem dc_Cm_leaf_55 : decode prog_1_method_2_code 55 = .ok (.iload_n 2, 1) := by decide +kernel
theorem dc_Cm_leaf_56 : decode prog_1_method_2_code 56 = .ok (.invokevirtual 67, 3) := by decide +kernel
theorem lk_Cm_67 : zk_LV "ClosureMachine" 67 mm_CmGlobals_at := ⟨zk_in 198 (by decide +kernel) (by decide +kernel), zk_in 199 (by decide +kernel) (by decide +kernel), zk_in 200 (by decide +kernel) (by decide +kernel)⟩
theorem dc_Cm_leaf_59 : decode prog_1_method_2_code 59 = .ok (.ifnull 11, 3) := by decide +kernel
theorem dc_Cm_leaf_70 : decode prog_1_method_2_code 70 = .ok (.iconst 0, 1) := by decide +kernel
theorem dc_Cm_leaf_71 : decode prog_1_method_2_code 71 = .ok (.goto 31, 3) := by decide +kernel
theorem dc_Cm_leaf_74 : decode prog_1_method_2_code 74 = .ok (.aload_n 0, 1) := by decide +kernel
theorem dc_Cm_leaf_75 : decode prog_1_method_2_code 75 = .ok (.getfield 19, 3) := by decide +kernel
theorem dc_Cm_leaf_78 : decode prog_1_method_2_code 78 = .ok (.iload_n 2, 1) := by decide +kernel
theorem dc_Cm_leaf_79 : decode prog_1_method_2_code 79 = .ok (.iconst 2, 1) := by decide +kernel
theorem dc_Cm_leaf_80 : decode prog_1_method_2_code 80 = .ok (.invokevirtual 73, 3) := by decide +kernel
theorem dc_Cm_leaf_83 : decode prog_1_method_2_code 83 = .ok (.ifnull 14, 3) := by decide +kernel
theorem dc_Cm_leaf_97 : decode prog_1_method_2_code 97 = .ok (.iconst 0, 1) := by decide +kernel
theorem dc_Cm_leaf_98 : decode prog_1_method_2_code 98 = .ok (.goto 4, 3) := by decide +kernel
theorem dc_Cm_leaf_101 : decode prog_1_method_2_code 101 = .ok (.iconst 0, 1) := by decide +kernel
abbrev mm_CmGlobal_init : zk_Mt := (⟨"ClosureMachine$Global", "<init>", "(I)V"⟩, prog_2_method_1_code, 2, none, 1, 20)
set_option maxRecDepth 20000 in
theorem ok_CmGlobal_init : zk_Ok mm_CmGlobal_init 1 := ⟨zk_in 315 rfl rfl, ⟨by decide +kernel, by decide +kernel, by decide +kernel⟩, zk_in 13 (by decide +kernel) (by decide +kernel)⟩
theorem dc_CmGlobal_init_0 : decode prog_2_method_1_code 0 = .ok (.aload_n 0, 1) := by decide +kernel
theorem dc_CmGlobal_init_1 : decode prog_2_method_1_code 1 = .ok (.invokespecial 3, 3) := by decide +kernel
theorem dc_CmGlobal_init_4 : decode prog_2_method_1_code 4 = .ok (.aload_n 0, 1) := by decide +kernel
theorem dc_CmGlobal_init_5 : decode prog_2_method_1_code 5 = .ok (.iconst (-1), 1) := by decide +kernel
theorem dc_CmGlobal_init_6 : decode prog_2_method_1_code 6 = .ok (.putfield 9, 3) := by decide +kernel
theorem fp_CmGlobal_9 : zk_Fp "ClosureMachine$Global" 9 7 1 (yc_7 1) false := ⟨rc_7, tc_7, 9, rfl, by decide, zk_in 319 (by decide +kernel) (by decide +kernel), by decide +kernel, rfl, rfl⟩
theorem dc_CmGlobal_init_9 : decode prog_2_method_1_code 9 = .ok (.aload_n 0, 1) := by decide +kernel
theorem dc_CmGlobal_init_10 : decode prog_2_method_1_code 10 = .ok (.iconst 0, 1) := by decide +kernel
theorem dc_CmGlobal_init_11 : decode prog_2_method_1_code 11 = .ok (.putfield 15, 3) := by decide +kernel
theorem fp_CmGlobal_15 : zk_Fp "ClosureMachine$Global" 15 7 2 (yc_7 2) false := ⟨rc_7, tc_7, 9, rfl, by decide, zk_in 322 (by decide +kernel) (by decide +kernel), by decide +kernel, rfl, rfl⟩
theorem dc_CmGlobal_init_14 : decode prog_2_method_1_code 14 = .ok (.aload_n 0, 1) := by decide +kernel
theorem dc_CmGlobal_init_15 : decode prog_2_method_1_code 15 = .ok (.iconst 0, 1) := by decide +kernel
theorem dc_CmGlobal_init_16 : decode prog_2_method_1_code 16 = .ok (.putfield 18, 3) := by decide +kernel
theorem fp_CmGlobal_18 : zk_Fp "ClosureMachine$Global" 18 7 3 (yc_7 3) false := ⟨rc_7, tc_7, 9, rfl, by decide, zk_in 326 (by decide +kernel) (by decide +kernel), by decide +kernel, rfl, rfl⟩
theorem dc_CmGlobal_init_19 : decode prog_2_method_1_code 19 = .ok (.aload_n 0, 1) := by decide +kernel
theorem dc_CmGlobal_init_20 : decode prog_2_method_1_code 20 = .ok (.iconst 0, 1) := by decide +kernel
theorem dc_CmGlobal_init_21 : decode prog_2_method_1_code 21 = .ok (.putfield 21, 3) := by decide +kernel
theorem fp_CmGlobal_21 : zk_Fp "ClosureMachine$Global" 21 7 4 (yc_7 4) false := ⟨rc_7, tc_7, 9, rfl, by decide, zk_in 330 (by decide +kernel) (by decide +kernel), by decide +kernel, rfl, rfl⟩
theorem dc_CmGlobal_init_24 : decode prog_2_method_1_code 24 = .ok (.aload_n 0, 1) := by decide +kernel
theorem dc_CmGlobal_init_25 : decode prog_2_method_1_code 25 = .ok (.iconst (-1), 1) := by decide +kernel
theorem dc_CmGlobal_init_26 : decode prog_2_method_1_code 26 = .ok (.putfield 24, 3) := by decide +kernel
theorem fp_CmGlobal_24 : zk_Fp "ClosureMachine$Global" 24 7 5 (yc_7 5) false := ⟨rc_7, tc_7, 9, rfl, by decide, zk_in 332 (by decide +kernel) (by decide +kernel), by decide +kernel, rfl, rfl⟩
theorem dc_CmGlobal_init_29 : decode prog_2_method_1_code 29 = .ok (.aload_n 0, 1) := by decide +kernel
theorem dc_CmGlobal_init_30 : decode prog_2_method_1_code 30 = .ok (.iconst (-1), 1) := by decide +kernel
theorem dc_CmGlobal_init_31 : decode prog_2_method_1_code 31 = .ok (.putfield 27, 3) := by decide +kernel
theorem fp_CmGlobal_27 : zk_Fp "ClosureMachine$Global" 27 7 6 (yc_7 6) false := ⟨rc_7, tc_7, 9, rfl, by decide, zk_in 336 (by decide +kernel) (by decide +kernel), by decide +kernel, rfl, rfl⟩
theorem dc_CmGlobal_init_34 : decode prog_2_method_1_code 34 = .ok (.aload_n 0, 1) := by decide +kernel
theorem dc_CmGlobal_init_35 : decode prog_2_method_1_code 35 = .ok (.aconst_null, 1) := by decide +kernel
theorem dc_CmGlobal_init_36 : decode prog_2_method_1_code 36 = .ok (.putfield 30, 3) := by decide +kernel
theorem fp_CmGlobal_30 : zk_Fp "ClosureMachine$Global" 30 7 7 (yc_7 7) false := ⟨rc_7, tc_7, 9, rfl, by decide, zk_in 339 (by decide +kernel) (by decide +kernel), by decide +kernel, rfl, rfl⟩
theorem dc_CmGlobal_init_39 : decode prog_2_method_1_code 39 = .ok (.aload_n 0, 1) := by decide +kernel
theorem dc_CmGlobal_init_40 : decode prog_2_method_1_code 40 = .ok (.iconst 0, 1) := by decide +kernel
theorem dc_CmGlobal_init_41 : decode prog_2_method_1_code 41 = .ok (.putfield 34, 3) := by decide +kernel
theorem fp_CmGlobal_34 : zk_Fp "ClosureMachine$Global" 34 7 8 (yc_7 8) false := ⟨rc_7, tc_7, 9, rfl, by decide, zk_in 342 (by decide +kernel) (by decide +kernel), by decide +kernel, rfl, rfl⟩
theorem dc_CmGlobal_init_44 : decode prog_2_method_1_code 44 = .ok (.aload_n 0, 1) := by decide +kernel
theorem dc_CmGlobal_init_45 : decode prog_2_method_1_code 45 = .ok (.iload_n 1, 1) := by decide +kernel
theorem dc_CmGlobal_init_46 : decode prog_2_method_1_code 46 = .ok (.putfield 37, 3) := by decide +kernel
theorem fp_CmGlobal_37 : zk_Fp "ClosureMachine$Global" 37 7 0 (yc_7 0) true := ⟨rc_7, tc_7, 9, rfl, by decide, zk_in 317 (by decide +kernel) (by decide +kernel), by decide +kernel, rfl, rfl⟩
theorem dc_CmGlobal_init_49 : decode prog_2_method_1_code 49 = .ok (.return_, 1) := by decide +kernel
abbrev mm_CmGlobals_add : zk_Mt := (⟨"ClosureMachine$Globals", "add", "(LClosureMachine$Global;)I"⟩, prog_3_method_5_code, 2, (Option.some .int), 0, 0)
set_option maxRecDepth 20000 in
theorem ok_CmGlobals_add : zk_Ok mm_CmGlobals_add 1 := ⟨zk_in 367 rfl rfl, ⟨by decide +kernel, by decide +kernel, by decide +kernel⟩, zk_in 4 (by decide +kernel) (by decide +kernel)⟩
theorem dc_CmGlobals_add_0 : decode prog_3_method_5_code 0 = .ok (.aload_n 0, 1) := by decide +kernel
theorem dc_CmGlobals_add_1 : decode prog_3_method_5_code 1 = .ok (.getfield 17, 3) := by decide +kernel
theorem dc_CmGlobals_add_4 : decode prog_3_method_5_code 4 = .ok (.ifCond .lt 15, 3) := by decide +kernel
theorem dc_CmGlobals_add_7 : decode prog_3_method_5_code 7 = .ok (.aload_n 0, 1) := by decide +kernel
theorem dc_CmGlobals_add_8 : decode prog_3_method_5_code 8 = .ok (.getfield 17, 3) := by decide +kernel
theorem dc_CmGlobals_add_11 : decode prog_3_method_5_code 11 = .ok (.aload_n 0, 1) := by decide +kernel
theorem dc_CmGlobals_add_12 : decode prog_3_method_5_code 12 = .ok (.getfield 11, 3) := by decide +kernel
theorem fg_CmGlobals_11 : zk_F "ClosureMachine$Globals" 11 2 0 := ⟨rc_2, tc_2, 2, rfl, by decide, zk_in 69 (by decide +kernel) (by decide +kernel)⟩
theorem dc_CmGlobals_add_15 : decode prog_3_method_5_code 15 = .ok (.arraylength, 1) := by decide +kernel
theorem dc_CmGlobals_add_16 : decode prog_3_method_5_code 16 = .ok (.if_icmp .lt 5, 3) := by decide +kernel
theorem dc_CmGlobals_add_21 : decode prog_3_method_5_code 21 = .ok (.aload_n 0, 1) := by decide +kernel
theorem dc_CmGlobals_add_22 : decode prog_3_method_5_code 22 = .ok (.getfield 11, 3) := by decide +kernel
theorem dc_CmGlobals_add_25 : decode prog_3_method_5_code 25 = .ok (.aload_n 0, 1) := by decide +kernel
theorem dc_CmGlobals_add_26 : decode prog_3_method_5_code 26 = .ok (.getfield 17, 3) := by decide +kernel
theorem dc_CmGlobals_add_29 : decode prog_3_method_5_code 29 = .ok (.aload_n 1, 1) := by decide +kernel
theorem dc_CmGlobals_add_30 : decode prog_3_method_5_code 30 = .ok (.aastore, 1) := by decide +kernel
theorem dc_CmGlobals_add_31 : decode prog_3_method_5_code 31 = .ok (.aload_n 0, 1) := by decide +kernel
theorem dc_CmGlobals_add_32 : decode prog_3_method_5_code 32 = .ok (.dup, 1) := by decide +kernel
theorem dc_CmGlobals_add_33 : decode prog_3_method_5_code 33 = .ok (.getfield 17, 3) := by decide +kernel
theorem dc_CmGlobals_add_36 : decode prog_3_method_5_code 36 = .ok (.dup_x1, 1) := by decide +kernel
theorem dc_CmGlobals_add_37 : decode prog_3_method_5_code 37 = .ok (.iconst 1, 1) := by decide +kernel
theorem dc_CmGlobals_add_38 : decode prog_3_method_5_code 38 = .ok (.iadd, 1) := by decide +kernel
theorem dc_CmGlobals_add_39 : decode prog_3_method_5_code 39 = .ok (.putfield 17, 3) := by decide +kernel
theorem dc_CmGlobals_add_42 : decode prog_3_method_5_code 42 = .ok (.ireturn, 1) := by decide +kernel
abbrev mm_Cm_axiom : zk_Mt := (⟨"ClosureMachine", "axiom", "()I"⟩, prog_1_method_6_code, 1, (Option.some .int), 2, 41)
set_option maxRecDepth 20000 in
theorem ok_Cm_axiom : zk_Ok mm_Cm_axiom 0 := ⟨zk_in 306 rfl rfl, ⟨by decide +kernel, by decide +kernel, by decide +kernel⟩, zk_in 1 (by decide +kernel) (by decide +kernel)⟩
theorem dc_Cm_axiom_0 : decode prog_1_method_6_code 0 = .ok (.aload_n 0, 1) := by decide +kernel
theorem dc_Cm_axiom_1 : decode prog_1_method_6_code 1 = .ok (.getfield 19, 3) := by decide +kernel
theorem dc_Cm_axiom_4 : decode prog_1_method_6_code 4 = .ok (.iconst 1, 1) := by decide +kernel
theorem dc_Cm_axiom_5 : decode prog_1_method_6_code 5 = .ok (.invokevirtual 92, 3) := by decide +kernel
theorem lk_Cm_92 : zk_LV "ClosureMachine" 92 mm_CmGlobals_roomFor := ⟨zk_in 307 (by decide +kernel) (by decide +kernel), zk_in 308 (by decide +kernel) (by decide +kernel), zk_in 309 (by decide +kernel) (by decide +kernel)⟩
theorem dc_Cm_axiom_8 : decode prog_1_method_6_code 8 = .ok (.ifCond .eq 21, 3) := by decide +kernel
theorem dc_Cm_axiom_11 : decode prog_1_method_6_code 11 = .ok (.aload_n 0, 1) := by decide +kernel
theorem dc_Cm_axiom_12 : decode prog_1_method_6_code 12 = .ok (.getfield 19, 3) := by decide +kernel
theorem dc_Cm_axiom_15 : decode prog_1_method_6_code 15 = .ok (.new 71, 3) := by decide +kernel
theorem nw_Cm_71 : zk_N "ClosureMachine" 71 7 9 [.int 0, .int 0, .int 0, .int 0, .int 0, .int 0, .int 0, .null, .int 0] := ⟨rc_7, tc_7, yc_7, rfl, zk_in 311 (by decide +kernel) (by decide +kernel), zk_in 312 (by decide +kernel) (by decide +kernel), zk_in 13 (by decide +kernel) (by decide +kernel), yk_7, by decide +kernel⟩
theorem dc_Cm_axiom_18 : decode prog_1_method_6_code 18 = .ok (.dup, 1) := by decide +kernel
theorem dc_Cm_axiom_19 : decode prog_1_method_6_code 19 = .ok (.iconst 0, 1) := by decide +kernel
theorem dc_Cm_axiom_20 : decode prog_1_method_6_code 20 = .ok (.invokespecial 95, 3) := by decide +kernel
theorem lk_Cm_95 : zk_LI "ClosureMachine" 95 mm_CmGlobal_init := ⟨zk_in 313 (by decide +kernel) (by decide +kernel), zk_in 314 (by decide +kernel) (by decide +kernel), rfl, rfl⟩
theorem dc_Cm_axiom_23 : decode prog_1_method_6_code 23 = .ok (.invokevirtual 98, 3) := by decide +kernel
theorem lk_Cm_98 : zk_LV "ClosureMachine" 98 mm_CmGlobals_add := ⟨zk_in 364 (by decide +kernel) (by decide +kernel), zk_in 365 (by decide +kernel) (by decide +kernel), zk_in 366 (by decide +kernel) (by decide +kernel)⟩
theorem dc_Cm_axiom_26 : decode prog_1_method_6_code 26 = .ok (.goto 4, 3) := by decide +kernel
theorem dc_Cm_axiom_30 : decode prog_1_method_6_code 30 = .ok (.ireturn, 1) := by decide +kernel
abbrev mm_CmGlobals_addFamily : zk_Mt := (⟨"ClosureMachine$Globals", "addFamily", "(III)I"⟩, prog_3_method_6_code, 8, (Option.some .int), 2, 41)
set_option maxRecDepth 20000 in
theorem ok_CmGlobals_addFamily : zk_Ok mm_CmGlobals_addFamily 3 := ⟨zk_in 381 rfl rfl, ⟨by decide +kernel, by decide +kernel, by decide +kernel⟩, zk_in 4 (by decide +kernel) (by decide +kernel)⟩
theorem dc_CmGlobals_addFamily_39 : decode prog_3_method_6_code 39 = .ok (.iload 6, 2) := by decide +kernel
theorem dc_CmGlobals_addFamily_41 : decode prog_3_method_6_code 41 = .ok (.iload_n 3, 1) := by decide +kernel
theorem dc_CmGlobals_addFamily_42 : decode prog_3_method_6_code 42 = .ok (.if_icmp .ge 40, 3) := by decide +kernel
theorem dc_CmGlobals_addFamily_82 : decode prog_3_method_6_code 82 = .ok (.iload 5, 2) := by decide +kernel
theorem dc_CmGlobals_addFamily_84 : decode prog_3_method_6_code 84 = .ok (.ireturn, 1) := by decide +kernel
theorem dc_CmGlobals_addFamily_45 : decode prog_3_method_6_code 45 = .ok (.new 9, 3) := by decide +kernel
theorem nw_CmGlobals_9 : zk_N "ClosureMachine$Globals" 9 7 9 [.int 0, .int 0, .int 0, .int 0, .int 0, .int 0, .int 0, .null, .int 0] := ⟨rc_7, tc_7, yc_7, rfl, zk_in 67 (by decide +kernel) (by decide +kernel), zk_in 312 (by decide +kernel) (by decide +kernel), zk_in 13 (by decide +kernel) (by decide +kernel), yk_7, by decide +kernel⟩
theorem dc_CmGlobals_addFamily_48 : decode prog_3_method_6_code 48 = .ok (.dup, 1) := by decide +kernel
theorem dc_CmGlobals_addFamily_49 : decode prog_3_method_6_code 49 = .ok (.iconst 3, 1) := by decide +kernel
theorem dc_CmGlobals_addFamily_50 : decode prog_3_method_6_code 50 = .ok (.invokespecial 28, 3) := by decide +kernel
theorem lk_CmGlobals_28 : zk_LI "ClosureMachine$Globals" 28 mm_CmGlobal_init := ⟨zk_in 382 (by decide +kernel) (by decide +kernel), zk_in 314 (by decide +kernel) (by decide +kernel), rfl, rfl⟩
theorem dc_CmGlobals_addFamily_53 : decode prog_3_method_6_code 53 = .ok (.astore 7, 2) := by decide +kernel
theorem dc_CmGlobals_addFamily_55 : decode prog_3_method_6_code 55 = .ok (.aload 7, 2) := by decide +kernel
theorem dc_CmGlobals_addFamily_57 : decode prog_3_method_6_code 57 = .ok (.iload 5, 2) := by decide +kernel
theorem dc_CmGlobals_addFamily_59 : decode prog_3_method_6_code 59 = .ok (.putfield 44, 3) := by decide +kernel
theorem fp_CmGlobals_44 : zk_Fp "ClosureMachine$Globals" 44 7 5 (yc_7 5) false := ⟨rc_7, tc_7, 9, rfl, by decide, zk_in 333 (by decide +kernel) (by decide +kernel), by decide +kernel, rfl, rfl⟩
theorem dc_CmGlobals_addFamily_62 : decode prog_3_method_6_code 62 = .ok (.aload 7, 2) := by decide +kernel
theorem dc_CmGlobals_addFamily_64 : decode prog_3_method_6_code 64 = .ok (.iload 6, 2) := by decide +kernel
theorem dc_CmGlobals_addFamily_66 : decode prog_3_method_6_code 66 = .ok (.putfield 47, 3) := by decide +kernel
theorem fp_CmGlobals_47 : zk_Fp "ClosureMachine$Globals" 47 7 6 (yc_7 6) false := ⟨rc_7, tc_7, 9, rfl, by decide, zk_in 337 (by decide +kernel) (by decide +kernel), by decide +kernel, rfl, rfl⟩
theorem dc_CmGlobals_addFamily_69 : decode prog_3_method_6_code 69 = .ok (.aload_n 0, 1) := by decide +kernel
theorem dc_CmGlobals_addFamily_70 : decode prog_3_method_6_code 70 = .ok (.aload 7, 2) := by decide +kernel
theorem dc_CmGlobals_addFamily_72 : decode prog_3_method_6_code 72 = .ok (.invokevirtual 40, 3) := by decide +kernel
theorem lk_CmGlobals_40 : zk_LV "ClosureMachine$Globals" 40 mm_CmGlobals_add := ⟨zk_in 383 (by decide +kernel) (by decide +kernel), zk_in 365 (by decide +kernel) (by decide +kernel), zk_in 366 (by decide +kernel) (by decide +kernel)⟩
theorem dc_CmGlobals_addFamily_75 : decode prog_3_method_6_code 75 = .ok (.pop, 1) := by decide +kernel
theorem dc_CmGlobals_addFamily_76 : decode prog_3_method_6_code 76 = .ok (.iinc 6 1, 3) := by decide +kernel
theorem dc_CmGlobals_addFamily_79 : decode prog_3_method_6_code 79 = .ok (.goto (-40), 3) := by decide +kernel
theorem dc_CmGlobals_addFamily_0 : decode prog_3_method_6_code 0 = .ok (.new 9, 3) := by decide +kernel
theorem dc_CmGlobals_addFamily_3 : decode prog_3_method_6_code 3 = .ok (.dup, 1) := by decide +kernel
theorem dc_CmGlobals_addFamily_4 : decode prog_3_method_6_code 4 = .ok (.iconst 2, 1) := by decide +kernel
theorem dc_CmGlobals_addFamily_5 : decode prog_3_method_6_code 5 = .ok (.invokespecial 28, 3) := by decide +kernel
theorem dc_CmGlobals_addFamily_8 : decode prog_3_method_6_code 8 = .ok (.astore 4, 2) := by decide +kernel
theorem dc_CmGlobals_addFamily_10 : decode prog_3_method_6_code 10 = .ok (.aload 4, 2) := by decide +kernel
theorem dc_CmGlobals_addFamily_12 : decode prog_3_method_6_code 12 = .ok (.iload_n 1, 1) := by decide +kernel
theorem dc_CmGlobals_addFamily_13 : decode prog_3_method_6_code 13 = .ok (.putfield 31, 3) := by decide +kernel
theorem fp_CmGlobals_31 : zk_Fp "ClosureMachine$Globals" 31 7 2 (yc_7 2) false := ⟨rc_7, tc_7, 9, rfl, by decide, zk_in 324 (by decide +kernel) (by decide +kernel), by decide +kernel, rfl, rfl⟩
theorem dc_CmGlobals_addFamily_16 : decode prog_3_method_6_code 16 = .ok (.aload 4, 2) := by decide +kernel
theorem dc_CmGlobals_addFamily_18 : decode prog_3_method_6_code 18 = .ok (.iload_n 2, 1) := by decide +kernel
theorem dc_CmGlobals_addFamily_19 : decode prog_3_method_6_code 19 = .ok (.putfield 34, 3) := by decide +kernel
theorem fp_CmGlobals_34 : zk_Fp "ClosureMachine$Globals" 34 7 3 (yc_7 3) false := ⟨rc_7, tc_7, 9, rfl, by decide, zk_in 328 (by decide +kernel) (by decide +kernel), by decide +kernel, rfl, rfl⟩
theorem dc_CmGlobals_addFamily_22 : decode prog_3_method_6_code 22 = .ok (.aload 4, 2) := by decide +kernel
theorem dc_CmGlobals_addFamily_24 : decode prog_3_method_6_code 24 = .ok (.iload_n 3, 1) := by decide +kernel
theorem dc_CmGlobals_addFamily_25 : decode prog_3_method_6_code 25 = .ok (.putfield 37, 3) := by decide +kernel
theorem fp_CmGlobals_37 : zk_Fp "ClosureMachine$Globals" 37 7 4 (yc_7 4) false := ⟨rc_7, tc_7, 9, rfl, by decide, zk_in 331 (by decide +kernel) (by decide +kernel), by decide +kernel, rfl, rfl⟩
theorem dc_CmGlobals_addFamily_28 : decode prog_3_method_6_code 28 = .ok (.aload_n 0, 1) := by decide +kernel
theorem dc_CmGlobals_addFamily_29 : decode prog_3_method_6_code 29 = .ok (.aload 4, 2) := by decide +kernel
theorem dc_CmGlobals_addFamily_31 : decode prog_3_method_6_code 31 = .ok (.invokevirtual 40, 3) := by decide +kernel
theorem dc_CmGlobals_addFamily_34 : decode prog_3_method_6_code 34 = .ok (.istore 5, 2) := by decide +kernel
theorem dc_CmGlobals_addFamily_36 : decode prog_3_method_6_code 36 = .ok (.iconst 0, 1) := by decide +kernel
theorem dc_CmGlobals_addFamily_37 : decode prog_3_method_6_code 37 = .ok (.istore 6, 2) := by decide +kernel
abbrev mm_Cm_family : zk_Mt := (⟨"ClosureMachine", "family", "(III)I"⟩, prog_1_method_8_code, 4, (Option.some .int), 3, 68)
set_option maxRecDepth 20000 in
theorem ok_Cm_family : zk_Ok mm_Cm_family 3 := ⟨zk_in 377 rfl rfl, ⟨by decide +kernel, by decide +kernel, by decide +kernel⟩, zk_in 1 (by decide +kernel) (by decide +kernel)⟩
theorem dc_Cm_family_0 : decode prog_1_method_8_code 0 = .ok (.iload_n 1, 1) := by decide +kernel
theorem dc_Cm_family_1 : decode prog_1_method_8_code 1 = .ok (.iconst 4, 1) := by decide +kernel
theorem dc_Cm_family_2 : decode prog_1_method_8_code 2 = .ok (.invokestatic 112, 3) := by decide +kernel
theorem dc_Cm_family_5 : decode prog_1_method_8_code 5 = .ok (.ifCond .eq 32, 3) := by decide +kernel
theorem dc_Cm_family_8 : decode prog_1_method_8_code 8 = .ok (.iload_n 2, 1) := by decide +kernel
theorem dc_Cm_family_9 : decode prog_1_method_8_code 9 = .ok (.iconst 4, 1) := by decide +kernel
theorem dc_Cm_family_10 : decode prog_1_method_8_code 10 = .ok (.invokestatic 112, 3) := by decide +kernel
theorem dc_Cm_family_13 : decode prog_1_method_8_code 13 = .ok (.ifCond .eq 24, 3) := by decide +kernel
theorem dc_Cm_family_16 : decode prog_1_method_8_code 16 = .ok (.iload_n 3, 1) := by decide +kernel
theorem dc_Cm_family_17 : decode prog_1_method_8_code 17 = .ok (.iconst 5, 1) := by decide +kernel
theorem dc_Cm_family_18 : decode prog_1_method_8_code 18 = .ok (.invokestatic 112, 3) := by decide +kernel
theorem dc_Cm_family_21 : decode prog_1_method_8_code 21 = .ok (.ifCond .eq 16, 3) := by decide +kernel
theorem dc_Cm_family_24 : decode prog_1_method_8_code 24 = .ok (.aload_n 0, 1) := by decide +kernel
theorem dc_Cm_family_25 : decode prog_1_method_8_code 25 = .ok (.getfield 19, 3) := by decide +kernel
theorem dc_Cm_family_28 : decode prog_1_method_8_code 28 = .ok (.iconst 1, 1) := by decide +kernel
theorem dc_Cm_family_29 : decode prog_1_method_8_code 29 = .ok (.iload_n 3, 1) := by decide +kernel
theorem dc_Cm_family_30 : decode prog_1_method_8_code 30 = .ok (.iadd, 1) := by decide +kernel
theorem dc_Cm_family_31 : decode prog_1_method_8_code 31 = .ok (.invokevirtual 92, 3) := by decide +kernel
theorem dc_Cm_family_34 : decode prog_1_method_8_code 34 = .ok (.ifCond .ne 5, 3) := by decide +kernel
theorem dc_Cm_family_39 : decode prog_1_method_8_code 39 = .ok (.aload_n 0, 1) := by decide +kernel
theorem dc_Cm_family_40 : decode prog_1_method_8_code 40 = .ok (.getfield 19, 3) := by decide +kernel
theorem dc_Cm_family_43 : decode prog_1_method_8_code 43 = .ok (.iload_n 1, 1) := by decide +kernel
theorem dc_Cm_family_44 : decode prog_1_method_8_code 44 = .ok (.iload_n 2, 1) := by decide +kernel
theorem dc_Cm_family_45 : decode prog_1_method_8_code 45 = .ok (.iload_n 3, 1) := by decide +kernel
theorem dc_Cm_family_46 : decode prog_1_method_8_code 46 = .ok (.invokevirtual 116, 3) := by decide +kernel
theorem lk_Cm_116 : zk_LV "ClosureMachine" 116 mm_CmGlobals_addFamily := ⟨zk_in 378 (by decide +kernel) (by decide +kernel), zk_in 379 (by decide +kernel) (by decide +kernel), zk_in 380 (by decide +kernel) (by decide +kernel)⟩
theorem dc_Cm_family_49 : decode prog_1_method_8_code 49 = .ok (.ireturn, 1) := by decide +kernel
theorem dc_Cm_family_37 : decode prog_1_method_8_code 37 = .ok (.iconst (-1), 1) := by decide +kernel
theorem dc_Cm_family_38 : decode prog_1_method_8_code 38 = .ok (.ireturn, 1) := by decide +kernel
