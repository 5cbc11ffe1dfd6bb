abbrev mm_Mo_isNumber : zk_Mt := (⟨"ClosureMachineModel", "isNumber", "(I)Z"⟩, prog_10_method_2_code, 1, (Option.some .boolean), 0, 0)
set_option maxRecDepth 20000 in
theorem ok_Mo_isNumber : zk_Ok mm_Mo_isNumber 1 := ⟨zk_in 841 rfl rfl, ⟨by decide +kernel, by decide +kernel, by decide +kernel⟩, zk_in 8 (by decide +kernel) (by decide +kernel)⟩
theorem dc_Mo_isNumber_0 : decode prog_10_method_2_code 0 = .ok (.iload_n 0, 1) := by decide +kernel
theorem dc_Mo_isNumber_1 : decode prog_10_method_2_code 1 = .ok (.ifCond .lt 14, 3) := by decide +kernel
theorem dc_Mo_isNumber_15 : decode prog_10_method_2_code 15 = .ok (.iconst 0, 1) := by decide +kernel
theorem dc_Mo_isNumber_16 : decode prog_10_method_2_code 16 = .ok (.ireturn, 1) := by decide +kernel
theorem dc_Mo_isNumber_4 : decode prog_10_method_2_code 4 = .ok (.iload_n 0, 1) := by decide +kernel
theorem dc_Mo_isNumber_5 : decode prog_10_method_2_code 5 = .ok (.sipush 200, 3) := by decide +kernel
theorem dc_Mo_isNumber_8 : decode prog_10_method_2_code 8 = .ok (.if_icmp .ge 7, 3) := by decide +kernel
theorem dc_Mo_isNumber_11 : decode prog_10_method_2_code 11 = .ok (.iconst 1, 1) := by decide +kernel
theorem dc_Mo_isNumber_12 : decode prog_10_method_2_code 12 = .ok (.goto 4, 3) := by decide +kernel
abbrev mm_Mo_isTerm : zk_Mt := (⟨"ClosureMachineModel", "isTerm", "(I)Z"⟩, prog_10_method_3_code, 2, (Option.some .boolean), 0, 0)
set_option maxRecDepth 20000 in
theorem ok_Mo_isTerm : zk_Ok mm_Mo_isTerm 1 := ⟨zk_in 858 rfl rfl, ⟨by decide +kernel, by decide +kernel, by decide +kernel⟩, zk_in 8 (by decide +kernel) (by decide +kernel)⟩
theorem dc_Mo_isTerm_0 : decode prog_10_method_3_code 0 = .ok (.iload_n 1, 1) := by decide +kernel
theorem dc_Mo_isTerm_1 : decode prog_10_method_3_code 1 = .ok (.ifCond .lt 15, 3) := by decide +kernel
theorem dc_Mo_isTerm_16 : decode prog_10_method_3_code 16 = .ok (.iconst 0, 1) := by decide +kernel
theorem dc_Mo_isTerm_17 : decode prog_10_method_3_code 17 = .ok (.ireturn, 1) := by decide +kernel
theorem dc_Mo_isTerm_4 : decode prog_10_method_3_code 4 = .ok (.iload_n 1, 1) := by decide +kernel
theorem dc_Mo_isTerm_5 : decode prog_10_method_3_code 5 = .ok (.aload_n 0, 1) := by decide +kernel
theorem dc_Mo_isTerm_6 : decode prog_10_method_3_code 6 = .ok (.getfield 109, 3) := by decide +kernel
theorem fg_Mo_109 : zk_F "ClosureMachineModel" 109 9 4 := ⟨rc_9, tc_9, 48, rfl, by decide, zk_in 694 (by decide +kernel) (by decide +kernel)⟩
theorem dc_Mo_isTerm_9 : decode prog_10_method_3_code 9 = .ok (.if_icmp .ge 7, 3) := by decide +kernel
abbrev mm_Mo_isGood : zk_Mt := (⟨"ClosureMachineModel", "isGood", "(II)Z"⟩, prog_10_method_41_code, 3, (Option.some .boolean), 1, 21)
set_option maxRecDepth 20000 in
theorem ok_Mo_isGood : zk_Ok mm_Mo_isGood 2 := ⟨zk_in 928 rfl rfl, ⟨by decide +kernel, by decide +kernel, by decide +kernel⟩, zk_in 8 (by decide +kernel) (by decide +kernel)⟩
theorem dc_Mo_isGood_0 : decode prog_10_method_41_code 0 = .ok (.aload_n 0, 1) := by decide +kernel
theorem dc_Mo_isGood_1 : decode prog_10_method_41_code 1 = .ok (.iload_n 1, 1) := by decide +kernel
theorem dc_Mo_isGood_2 : decode prog_10_method_41_code 2 = .ok (.invokevirtual 145, 3) := by decide +kernel
theorem lk_Mo_145 : zk_LV "ClosureMachineModel" 145 mm_Mo_isTerm := ⟨zk_in 855 (by decide +kernel) (by decide +kernel), zk_in 857 (by decide +kernel) (by decide +kernel), zk_inS (q := (⟨"ClosureMachineModel", "isTerm", "(I)Z"⟩, 48)) 26 (by decide +kernel) (by decide +kernel)⟩
theorem dc_Mo_isGood_5 : decode prog_10_method_41_code 5 = .ok (.ifCond .eq 19, 3) := by decide +kernel
theorem dc_Mo_isGood_24 : decode prog_10_method_41_code 24 = .ok (.iconst 0, 1) := by decide +kernel
theorem dc_Mo_isGood_25 : decode prog_10_method_41_code 25 = .ok (.ireturn, 1) := by decide +kernel
abbrev mm_Mo_lift : zk_Mt := (⟨"ClosureMachineModel", "lift", "(II)I"⟩, prog_10_method_10_code, 7, (Option.some .int), 4, 108)
set_option maxRecDepth 20000 in
theorem ok_Mo_lift : zk_Ok mm_Mo_lift 2 := ⟨zk_in 876 rfl rfl, ⟨by decide +kernel, by decide +kernel, by decide +kernel⟩, zk_in 8 (by decide +kernel) (by decide +kernel)⟩
theorem dc_Mo_lift_0 : decode prog_10_method_10_code 0 = .ok (.aload_n 0, 1) := by decide +kernel
theorem dc_Mo_lift_1 : decode prog_10_method_10_code 1 = .ok (.iload_n 1, 1) := by decide +kernel
theorem dc_Mo_lift_2 : decode prog_10_method_10_code 2 = .ok (.invokevirtual 145, 3) := by decide +kernel
theorem dc_Mo_lift_5 : decode prog_10_method_10_code 5 = .ok (.ifCond .eq 23, 3) := by decide +kernel
theorem dc_Mo_lift_28 : decode prog_10_method_10_code 28 = .ok (.iconst (-1), 1) := by decide +kernel
theorem dc_Mo_lift_29 : decode prog_10_method_10_code 29 = .ok (.ireturn, 1) := by decide +kernel
abbrev mm_Mo_def : zk_Mt := (⟨"ClosureMachineModel", "def", "(I)I"⟩, prog_10_method_15_code, 2, (Option.some .int), 1, 21)
set_option maxRecDepth 20000 in
theorem ok_Mo_def : zk_Ok mm_Mo_def 1 := ⟨zk_in 896 rfl rfl, ⟨by decide +kernel, by decide +kernel, by decide +kernel⟩, zk_in 8 (by decide +kernel) (by decide +kernel)⟩
theorem dc_Mo_def_0 : decode prog_10_method_15_code 0 = .ok (.aload_n 0, 1) := by decide +kernel
theorem dc_Mo_def_1 : decode prog_10_method_15_code 1 = .ok (.iload_n 1, 1) := by decide +kernel
theorem dc_Mo_def_2 : decode prog_10_method_15_code 2 = .ok (.invokevirtual 145, 3) := by decide +kernel
theorem dc_Mo_def_5 : decode prog_10_method_15_code 5 = .ok (.ifCond .eq 21, 3) := by decide +kernel
theorem dc_Mo_def_26 : decode prog_10_method_15_code 26 = .ok (.iconst (-1), 1) := by decide +kernel
theorem dc_Mo_def_27 : decode prog_10_method_15_code 27 = .ok (.ireturn, 1) := by decide +kernel
abbrev mm_Mo_part : zk_Mt := (⟨"ClosureMachineModel", "part", "(III)I"⟩, prog_10_method_12_code, 5, (Option.some .int), 1, 21)
set_option maxRecDepth 20000 in
theorem ok_Mo_part : zk_Ok mm_Mo_part 3 := ⟨zk_in 884 rfl rfl, ⟨by decide +kernel, by decide +kernel, by decide +kernel⟩, zk_in 8 (by decide +kernel) (by decide +kernel)⟩
theorem dc_Mo_part_0 : decode prog_10_method_12_code 0 = .ok (.aload_n 0, 1) := by decide +kernel
theorem dc_Mo_part_1 : decode prog_10_method_12_code 1 = .ok (.iload_n 1, 1) := by decide +kernel
theorem dc_Mo_part_2 : decode prog_10_method_12_code 2 = .ok (.invokevirtual 145, 3) := by decide +kernel
theorem dc_Mo_part_5 : decode prog_10_method_12_code 5 = .ok (.ifCond .eq 34, 3) := by decide +kernel
theorem dc_Mo_part_39 : decode prog_10_method_12_code 39 = .ok (.iconst (-1), 1) := by decide +kernel
theorem dc_Mo_part_40 : decode prog_10_method_12_code 40 = .ok (.ireturn, 1) := by decide +kernel
abbrev mm_Mo_head : zk_Mt := (⟨"ClosureMachineModel", "head", "(II)I"⟩, prog_10_method_42_code, 4, (Option.some .int), 8, 220)
set_option maxRecDepth 20000 in
theorem ok_Mo_head : zk_Ok mm_Mo_head 2 := ⟨zk_in 924 rfl rfl, ⟨by decide +kernel, by decide +kernel, by decide +kernel⟩, zk_in 8 (by decide +kernel) (by decide +kernel)⟩
theorem dc_Mo_head_0 : decode prog_10_method_42_code 0 = .ok (.aload_n 0, 1) := by decide +kernel
theorem dc_Mo_head_1 : decode prog_10_method_42_code 1 = .ok (.iload_n 1, 1) := by decide +kernel
theorem dc_Mo_head_2 : decode prog_10_method_42_code 2 = .ok (.iload_n 2, 1) := by decide +kernel
theorem dc_Mo_head_3 : decode prog_10_method_42_code 3 = .ok (.invokevirtual 268, 3) := by decide +kernel
theorem lk_Mo_268 : zk_LV "ClosureMachineModel" 268 mm_Mo_isGood := ⟨zk_in 925 (by decide +kernel) (by decide +kernel), zk_in 927 (by decide +kernel) (by decide +kernel), zk_inS (q := (⟨"ClosureMachineModel", "isGood", "(II)Z"⟩, 48)) 31 (by decide +kernel) (by decide +kernel)⟩
theorem dc_Mo_head_6 : decode prog_10_method_42_code 6 = .ok (.ifCond .ne 5, 3) := by decide +kernel
theorem dc_Mo_head_9 : decode prog_10_method_42_code 9 = .ok (.iconst (-1), 1) := by decide +kernel
theorem dc_Mo_head_10 : decode prog_10_method_42_code 10 = .ok (.ireturn, 1) := by decide +kernel
abbrev mm_Mo_normal : zk_Mt := (⟨"ClosureMachineModel", "normal", "(II)I"⟩, prog_10_method_46_code, 6, (Option.some .int), 8, 220)
set_option maxRecDepth 20000 in
theorem ok_Mo_normal : zk_Ok mm_Mo_normal 2 := ⟨zk_in 1018 rfl rfl, ⟨by decide +kernel, by decide +kernel, by decide +kernel⟩, zk_in 8 (by decide +kernel) (by decide +kernel)⟩
theorem dc_Mo_normal_0 : decode prog_10_method_46_code 0 = .ok (.aload_n 0, 1) := by decide +kernel
theorem dc_Mo_normal_1 : decode prog_10_method_46_code 1 = .ok (.iload_n 1, 1) := by decide +kernel
theorem dc_Mo_normal_2 : decode prog_10_method_46_code 2 = .ok (.iload_n 2, 1) := by decide +kernel
theorem dc_Mo_normal_3 : decode prog_10_method_46_code 3 = .ok (.invokevirtual 268, 3) := by decide +kernel
theorem dc_Mo_normal_6 : decode prog_10_method_46_code 6 = .ok (.ifCond .ne 5, 3) := by decide +kernel
theorem dc_Mo_normal_9 : decode prog_10_method_46_code 9 = .ok (.iconst (-1), 1) := by decide +kernel
theorem dc_Mo_normal_10 : decode prog_10_method_46_code 10 = .ok (.ireturn, 1) := by decide +kernel
abbrev mm_Mo_cost : zk_Mt := (⟨"ClosureMachineModel", "cost", "()I"⟩, prog_10_method_49_code, 1, (Option.some .int), 0, 0)
set_option maxRecDepth 20000 in
theorem ok_Mo_cost : zk_Ok mm_Mo_cost 0 := ⟨zk_in 1045 rfl rfl, ⟨by decide +kernel, by decide +kernel, by decide +kernel⟩, zk_in 8 (by decide +kernel) (by decide +kernel)⟩
theorem dc_Mo_cost_0 : decode prog_10_method_49_code 0 = .ok (.aload_n 0, 1) := by decide +kernel
theorem dc_Mo_cost_1 : decode prog_10_method_49_code 1 = .ok (.getfield 62, 3) := by decide +kernel
theorem fg_Mo_62 : zk_F "ClosureMachineModel" 62 9 24 := ⟨rc_9, tc_9, 48, rfl, by decide, zk_in 714 (by decide +kernel) (by decide +kernel)⟩
theorem dc_Mo_cost_4 : decode prog_10_method_49_code 4 = .ok (.ireturn, 1) := by decide +kernel
abbrev mm_Mo_terms : zk_Mt := (⟨"ClosureMachineModel", "terms", "()I"⟩, prog_10_method_11_code, 1, (Option.some .int), 0, 0)
set_option maxRecDepth 20000 in
theorem ok_Mo_terms : zk_Ok mm_Mo_terms 0 := ⟨zk_in 880 rfl rfl, ⟨by decide +kernel, by decide +kernel, by decide +kernel⟩, zk_in 8 (by decide +kernel) (by decide +kernel)⟩
theorem dc_Mo_terms_0 : decode prog_10_method_11_code 0 = .ok (.aload_n 0, 1) := by decide +kernel
theorem dc_Mo_terms_1 : decode prog_10_method_11_code 1 = .ok (.getfield 109, 3) := by decide +kernel
theorem dc_Mo_terms_4 : decode prog_10_method_11_code 4 = .ok (.ireturn, 1) := by decide +kernel
abbrev mm_Mo_found : zk_Mt := (⟨"ClosureMachineModel", "found", "(I)I"⟩, prog_10_method_44_code, 2, (Option.some .int), 0, 0)
set_option maxRecDepth 20000 in
theorem ok_Mo_found : zk_Ok mm_Mo_found 1 := ⟨zk_in 1014 rfl rfl, ⟨by decide +kernel, by decide +kernel, by decide +kernel⟩, zk_in 8 (by decide +kernel) (by decide +kernel)⟩
theorem dc_Mo_found_0 : decode prog_10_method_44_code 0 = .ok (.aload_n 0, 1) := by decide +kernel
theorem dc_Mo_found_1 : decode prog_10_method_44_code 1 = .ok (.getfield 277, 3) := by decide +kernel
theorem fg_Mo_277 : zk_F "ClosureMachineModel" 277 9 20 := ⟨rc_9, tc_9, 48, rfl, by decide, zk_in 710 (by decide +kernel) (by decide +kernel)⟩
theorem dc_Mo_found_4 : decode prog_10_method_44_code 4 = .ok (.ifCond .eq 12, 3) := by decide +kernel
theorem dc_Mo_found_16 : decode prog_10_method_44_code 16 = .ok (.iconst (-1), 1) := by decide +kernel
theorem dc_Mo_found_17 : decode prog_10_method_44_code 17 = .ok (.goto 30, 3) := by decide +kernel
theorem dc_Mo_found_47 : decode prog_10_method_44_code 47 = .ok (.ireturn, 1) := by decide +kernel
abbrev mm_Mo_join : zk_Mt := (⟨"ClosureMachineModel", "join", "(III)I"⟩, prog_10_method_8_code, 4, (Option.some .int), 5, 135)
set_option maxRecDepth 20000 in
theorem ok_Mo_join : zk_Ok mm_Mo_join 3 := ⟨zk_in 854 rfl rfl, ⟨by decide +kernel, by decide +kernel, by decide +kernel⟩, zk_in 8 (by decide +kernel) (by decide +kernel)⟩
theorem dc_Mo_join_0 : decode prog_10_method_8_code 0 = .ok (.iload_n 1, 1) := by decide +kernel
theorem dc_Mo_join_1 : decode prog_10_method_8_code 1 = .ok (.iconst 4, 1) := by decide +kernel
theorem dc_Mo_join_2 : decode prog_10_method_8_code 2 = .ok (.if_icmp .eq 9, 3) := by decide +kernel
theorem dc_Mo_join_11 : decode prog_10_method_8_code 11 = .ok (.aload_n 0, 1) := by decide +kernel
theorem dc_Mo_join_12 : decode prog_10_method_8_code 12 = .ok (.iload_n 2, 1) := by decide +kernel
theorem dc_Mo_join_13 : decode prog_10_method_8_code 13 = .ok (.invokevirtual 145, 3) := by decide +kernel
theorem dc_Mo_join_16 : decode prog_10_method_8_code 16 = .ok (.ifCond .eq 22, 3) := by decide +kernel
theorem dc_Mo_join_38 : decode prog_10_method_8_code 38 = .ok (.iconst (-1), 1) := by decide +kernel
theorem dc_Mo_join_39 : decode prog_10_method_8_code 39 = .ok (.ireturn, 1) := by decide +kernel
theorem dc_Mo_join_5 : decode prog_10_method_8_code 5 = .ok (.iload_n 1, 1) := by decide +kernel
theorem dc_Mo_join_6 : decode prog_10_method_8_code 6 = .ok (.bipush 9, 2) := by decide +kernel
theorem dc_Mo_join_8 : decode prog_10_method_8_code 8 = .ok (.if_icmp .ne 30, 3) := by decide +kernel
abbrev mm_Mo_binder : zk_Mt := (⟨"ClosureMachineModel", "binder", "(IIII)I"⟩, prog_10_method_9_code, 5, (Option.some .int), 5, 135)
set_option maxRecDepth 20000 in
theorem ok_Mo_binder : zk_Ok mm_Mo_binder 4 := ⟨zk_in 872 rfl rfl, ⟨by decide +kernel, by decide +kernel, by decide +kernel⟩, zk_in 8 (by decide +kernel) (by decide +kernel)⟩
theorem dc_Mo_binder_0 : decode prog_10_method_9_code 0 = .ok (.iload_n 1, 1) := by decide +kernel
theorem dc_Mo_binder_1 : decode prog_10_method_9_code 1 = .ok (.iconst 5, 1) := by decide +kernel
theorem dc_Mo_binder_2 : decode prog_10_method_9_code 2 = .ok (.if_icmp .lt 49, 3) := by decide +kernel
theorem dc_Mo_binder_51 : decode prog_10_method_9_code 51 = .ok (.iconst (-1), 1) := by decide +kernel
theorem dc_Mo_binder_52 : decode prog_10_method_9_code 52 = .ok (.ireturn, 1) := by decide +kernel
theorem dc_Mo_binder_5 : decode prog_10_method_9_code 5 = .ok (.iload_n 1, 1) := by decide +kernel
theorem dc_Mo_binder_6 : decode prog_10_method_9_code 6 = .ok (.bipush 7, 2) := by decide +kernel
theorem dc_Mo_binder_8 : decode prog_10_method_9_code 8 = .ok (.if_icmp .gt 43, 3) := by decide +kernel
theorem dc_Mo_binder_11 : decode prog_10_method_9_code 11 = .ok (.iload_n 2, 1) := by decide +kernel
theorem dc_Mo_binder_12 : decode prog_10_method_9_code 12 = .ok (.iconst (-1), 1) := by decide +kernel
theorem dc_Mo_binder_13 : decode prog_10_method_9_code 13 = .ok (.if_icmp .lt 38, 3) := by decide +kernel
theorem dc_Mo_binder_16 : decode prog_10_method_9_code 16 = .ok (.iload_n 2, 1) := by decide +kernel
theorem dc_Mo_binder_17 : decode prog_10_method_9_code 17 = .ok (.bipush 100, 2) := by decide +kernel
theorem dc_Mo_binder_19 : decode prog_10_method_9_code 19 = .ok (.if_icmp .ge 32, 3) := by decide +kernel
theorem dc_Mo_binder_22 : decode prog_10_method_9_code 22 = .ok (.aload_n 0, 1) := by decide +kernel
theorem dc_Mo_binder_23 : decode prog_10_method_9_code 23 = .ok (.iload_n 3, 1) := by decide +kernel
theorem dc_Mo_binder_24 : decode prog_10_method_9_code 24 = .ok (.invokevirtual 145, 3) := by decide +kernel
theorem dc_Mo_binder_27 : decode prog_10_method_9_code 27 = .ok (.ifCond .eq 24, 3) := by decide +kernel
abbrev mm_Mo_constructor : zk_Mt := (⟨"ClosureMachineModel", "constructor", "(II)I"⟩, prog_10_method_18_code, 10, (Option.some .int), 4, 106)
set_option maxRecDepth 20000 in
theorem ok_Mo_constructor : zk_Ok mm_Mo_constructor 2 := ⟨zk_in 904 rfl rfl, ⟨by decide +kernel, by decide +kernel, by decide +kernel⟩, zk_in 8 (by decide +kernel) (by decide +kernel)⟩
theorem dc_Mo_constructor_0 : decode prog_10_method_18_code 0 = .ok (.iload_n 1, 1) := by decide +kernel
theorem dc_Mo_constructor_1 : decode prog_10_method_18_code 1 = .ok (.ifCond .lt 48, 3) := by decide +kernel
theorem dc_Mo_constructor_49 : decode prog_10_method_18_code 49 = .ok (.iconst (-1), 1) := by decide +kernel
theorem dc_Mo_constructor_50 : decode prog_10_method_18_code 50 = .ok (.ireturn, 1) := by decide +kernel
theorem dc_Mo_constructor_4 : decode prog_10_method_18_code 4 = .ok (.iload_n 1, 1) := by decide +kernel
theorem dc_Mo_constructor_5 : decode prog_10_method_18_code 5 = .ok (.aload_n 0, 1) := by decide +kernel
theorem dc_Mo_constructor_6 : decode prog_10_method_18_code 6 = .ok (.getfield 120, 3) := by decide +kernel
theorem fg_Mo_120 : zk_F "ClosureMachineModel" 120 9 14 := ⟨rc_9, tc_9, 48, rfl, by decide, zk_in 704 (by decide +kernel) (by decide +kernel)⟩
theorem dc_Mo_constructor_9 : decode prog_10_method_18_code 9 = .ok (.if_icmp .ge 40, 3) := by decide +kernel
abbrev mm_Mo_isRoom : zk_Mt := (⟨"ClosureMachineModel", "isRoom", "(I)Z"⟩, prog_10_method_4_code, 2, (Option.some .boolean), 0, 0)
set_option maxRecDepth 20000 in
theorem ok_Mo_isRoom : zk_Ok mm_Mo_isRoom 1 := ⟨zk_in 845 rfl rfl, ⟨by decide +kernel, by decide +kernel, by decide +kernel⟩, zk_in 8 (by decide +kernel) (by decide +kernel)⟩
theorem dc_Mo_isRoom_0 : decode prog_10_method_4_code 0 = .ok (.aload_n 0, 1) := by decide +kernel
theorem dc_Mo_isRoom_1 : decode prog_10_method_4_code 1 = .ok (.getfield 109, 3) := by decide +kernel
theorem dc_Mo_isRoom_4 : decode prog_10_method_4_code 4 = .ok (.sipush 3000, 3) := by decide +kernel
theorem dc_Mo_isRoom_7 : decode prog_10_method_4_code 7 = .ok (.if_icmp .ge 25, 3) := by decide +kernel
theorem dc_Mo_isRoom_10 : decode prog_10_method_4_code 10 = .ok (.iload_n 1, 1) := by decide +kernel
theorem dc_Mo_isRoom_11 : decode prog_10_method_4_code 11 = .ok (.sipush 2000, 3) := by decide +kernel
theorem dc_Mo_isRoom_14 : decode prog_10_method_4_code 14 = .ok (.if_icmp .gt 18, 3) := by decide +kernel
theorem dc_Mo_isRoom_17 : decode prog_10_method_4_code 17 = .ok (.aload_n 0, 1) := by decide +kernel
theorem dc_Mo_isRoom_18 : decode prog_10_method_4_code 18 = .ok (.getfield 112, 3) := by decide +kernel
theorem fg_Mo_112 : zk_F "ClosureMachineModel" 112 9 5 := ⟨rc_9, tc_9, 48, rfl, by decide, zk_in 695 (by decide +kernel) (by decide +kernel)⟩
theorem dc_Mo_isRoom_21 : decode prog_10_method_4_code 21 = .ok (.iload_n 1, 1) := by decide +kernel
theorem dc_Mo_isRoom_22 : decode prog_10_method_4_code 22 = .ok (.iadd, 1) := by decide +kernel
theorem dc_Mo_isRoom_23 : decode prog_10_method_4_code 23 = .ok (.ldc 115, 2) := by decide +kernel
theorem dc_Mo_isRoom_25 : decode prog_10_method_4_code 25 = .ok (.if_icmp .gt 7, 3) := by decide +kernel
theorem dc_Mo_isRoom_28 : decode prog_10_method_4_code 28 = .ok (.iconst 1, 1) := by decide +kernel
theorem dc_Mo_isRoom_29 : decode prog_10_method_4_code 29 = .ok (.goto 4, 3) := by decide +kernel
theorem dc_Mo_isRoom_33 : decode prog_10_method_4_code 33 = .ok (.ireturn, 1) := by decide +kernel
abbrev mm_Mo_term : zk_Mt := (⟨"ClosureMachineModel", "term", "(III)I"⟩, prog_10_method_5_code, 4, (Option.some .int), 0, 0)
set_option maxRecDepth 20000 in
theorem ok_Mo_term : zk_Ok mm_Mo_term 3 := ⟨zk_in 850 rfl rfl, ⟨by decide +kernel, by decide +kernel, by decide +kernel⟩, zk_in 8 (by decide +kernel) (by decide +kernel)⟩
theorem dc_Mo_term_0 : decode prog_10_method_5_code 0 = .ok (.aload_n 0, 1) := by decide +kernel
theorem dc_Mo_term_1 : decode prog_10_method_5_code 1 = .ok (.getfield 16, 3) := by decide +kernel
theorem fg_Mo_16 : zk_F "ClosureMachineModel" 16 9 1 := ⟨rc_9, tc_9, 48, rfl, by decide, zk_in 691 (by decide +kernel) (by decide +kernel)⟩
theorem dc_Mo_term_4 : decode prog_10_method_5_code 4 = .ok (.aload_n 0, 1) := by decide +kernel
theorem dc_Mo_term_5 : decode prog_10_method_5_code 5 = .ok (.getfield 109, 3) := by decide +kernel
theorem dc_Mo_term_8 : decode prog_10_method_5_code 8 = .ok (.iload_n 1, 1) := by decide +kernel
theorem dc_Mo_term_9 : decode prog_10_method_5_code 9 = .ok (.iastore, 1) := by decide +kernel
theorem dc_Mo_term_10 : decode prog_10_method_5_code 10 = .ok (.aload_n 0, 1) := by decide +kernel
theorem dc_Mo_term_11 : decode prog_10_method_5_code 11 = .ok (.getfield 20, 3) := by decide +kernel
theorem fg_Mo_20 : zk_F "ClosureMachineModel" 20 9 2 := ⟨rc_9, tc_9, 48, rfl, by decide, zk_in 692 (by decide +kernel) (by decide +kernel)⟩
theorem dc_Mo_term_14 : decode prog_10_method_5_code 14 = .ok (.aload_n 0, 1) := by decide +kernel
theorem dc_Mo_term_15 : decode prog_10_method_5_code 15 = .ok (.getfield 109, 3) := by decide +kernel
theorem dc_Mo_term_18 : decode prog_10_method_5_code 18 = .ok (.iload_n 2, 1) := by decide +kernel
theorem dc_Mo_term_19 : decode prog_10_method_5_code 19 = .ok (.iastore, 1) := by decide +kernel
theorem dc_Mo_term_20 : decode prog_10_method_5_code 20 = .ok (.aload_n 0, 1) := by decide +kernel
theorem dc_Mo_term_21 : decode prog_10_method_5_code 21 = .ok (.getfield 23, 3) := by decide +kernel
theorem fg_Mo_23 : zk_F "ClosureMachineModel" 23 9 3 := ⟨rc_9, tc_9, 48, rfl, by decide, zk_in 693 (by decide +kernel) (by decide +kernel)⟩
theorem dc_Mo_term_24 : decode prog_10_method_5_code 24 = .ok (.aload_n 0, 1) := by decide +kernel
theorem dc_Mo_term_25 : decode prog_10_method_5_code 25 = .ok (.getfield 109, 3) := by decide +kernel
theorem dc_Mo_term_28 : decode prog_10_method_5_code 28 = .ok (.iload_n 3, 1) := by decide +kernel
theorem dc_Mo_term_29 : decode prog_10_method_5_code 29 = .ok (.iastore, 1) := by decide +kernel
theorem dc_Mo_term_30 : decode prog_10_method_5_code 30 = .ok (.aload_n 0, 1) := by decide +kernel
theorem dc_Mo_term_31 : decode prog_10_method_5_code 31 = .ok (.dup, 1) := by decide +kernel
theorem dc_Mo_term_32 : decode prog_10_method_5_code 32 = .ok (.getfield 112, 3) := by decide +kernel
theorem dc_Mo_term_35 : decode prog_10_method_5_code 35 = .ok (.iload_n 2, 1) := by decide +kernel
theorem dc_Mo_term_36 : decode prog_10_method_5_code 36 = .ok (.iadd, 1) := by decide +kernel
theorem dc_Mo_term_37 : decode prog_10_method_5_code 37 = .ok (.putfield 112, 3) := by decide +kernel
theorem fp_Mo_112 : zk_Fp "ClosureMachineModel" 112 9 5 (yc_9 5) false := ⟨rc_9, tc_9, 48, rfl, by decide, zk_in 695 (by decide +kernel) (by decide +kernel), by decide +kernel, rfl, rfl⟩
theorem dc_Mo_term_40 : decode prog_10_method_5_code 40 = .ok (.aload_n 0, 1) := by decide +kernel
theorem dc_Mo_term_41 : decode prog_10_method_5_code 41 = .ok (.dup, 1) := by decide +kernel
theorem dc_Mo_term_42 : decode prog_10_method_5_code 42 = .ok (.getfield 109, 3) := by decide +kernel
theorem dc_Mo_term_45 : decode prog_10_method_5_code 45 = .ok (.iconst 1, 1) := by decide +kernel
theorem dc_Mo_term_46 : decode prog_10_method_5_code 46 = .ok (.iadd, 1) := by decide +kernel
theorem dc_Mo_term_47 : decode prog_10_method_5_code 47 = .ok (.putfield 109, 3) := by decide +kernel
theorem fp_Mo_109 : zk_Fp "ClosureMachineModel" 109 9 4 (yc_9 4) false := ⟨rc_9, tc_9, 48, rfl, by decide, zk_in 694 (by decide +kernel) (by decide +kernel), by decide +kernel, rfl, rfl⟩
theorem dc_Mo_term_50 : decode prog_10_method_5_code 50 = .ok (.aload_n 0, 1) := by decide +kernel
theorem dc_Mo_term_51 : decode prog_10_method_5_code 51 = .ok (.getfield 109, 3) := by decide +kernel
theorem dc_Mo_term_54 : decode prog_10_method_5_code 54 = .ok (.iconst 1, 1) := by decide +kernel
theorem dc_Mo_term_55 : decode prog_10_method_5_code 55 = .ok (.isub, 1) := by decide +kernel
theorem dc_Mo_term_56 : decode prog_10_method_5_code 56 = .ok (.ireturn, 1) := by decide +kernel
abbrev mm_Mo_leaf : zk_Mt := (⟨"ClosureMachineModel", "leaf", "(III)I"⟩, prog_10_method_6_code, 5, (Option.some .int), 3, 84)
set_option maxRecDepth 20000 in
theorem ok_Mo_leaf : zk_Ok mm_Mo_leaf 3 := ⟨zk_in 838 rfl rfl, ⟨by decide +kernel, by decide +kernel, by decide +kernel⟩, zk_in 8 (by decide +kernel) (by decide +kernel)⟩
theorem dc_Mo_leaf_0 : decode prog_10_method_6_code 0 = .ok (.iload_n 1, 1) := by decide +kernel
theorem dc_Mo_leaf_1 : decode prog_10_method_6_code 1 = .ok (.ifCond .eq 8, 3) := by decide +kernel
theorem dc_Mo_leaf_9 : decode prog_10_method_6_code 9 = .ok (.iload_n 2, 1) := by decide +kernel
theorem dc_Mo_leaf_10 : decode prog_10_method_6_code 10 = .ok (.invokestatic 116, 3) := by decide +kernel
theorem lk_Mo_116 : zk_LS "ClosureMachineModel" 116 mm_Mo_isNumber := ⟨zk_in 839 (by decide +kernel) (by decide +kernel), zk_in 840 (by decide +kernel) (by decide +kernel)⟩
theorem dc_Mo_leaf_13 : decode prog_10_method_6_code 13 = .ok (.goto 30, 3) := by decide +kernel
theorem dc_Mo_leaf_43 : decode prog_10_method_6_code 43 = .ok (.istore 4, 2) := by decide +kernel
theorem dc_Mo_leaf_45 : decode prog_10_method_6_code 45 = .ok (.iload 4, 2) := by decide +kernel
theorem dc_Mo_leaf_47 : decode prog_10_method_6_code 47 = .ok (.ifCond .eq 36, 3) := by decide +kernel
theorem dc_Mo_leaf_50 : decode prog_10_method_6_code 50 = .ok (.iload_n 1, 1) := by decide +kernel
theorem dc_Mo_leaf_51 : decode prog_10_method_6_code 51 = .ok (.iconst 3, 1) := by decide +kernel
theorem dc_Mo_leaf_52 : decode prog_10_method_6_code 52 = .ok (.if_icmp .ne 23, 3) := by decide +kernel
theorem dc_Mo_leaf_75 : decode prog_10_method_6_code 75 = .ok (.iload_n 3, 1) := by decide +kernel
theorem dc_Mo_leaf_76 : decode prog_10_method_6_code 76 = .ok (.ifCond .ne 7, 3) := by decide +kernel
theorem dc_Mo_leaf_83 : decode prog_10_method_6_code 83 = .ok (.iconst 0, 1) := by decide +kernel
theorem dc_Mo_leaf_84 : decode prog_10_method_6_code 84 = .ok (.istore 4, 2) := by decide +kernel
theorem dc_Mo_leaf_86 : decode prog_10_method_6_code 86 = .ok (.iload 4, 2) := by decide +kernel
theorem dc_Mo_leaf_88 : decode prog_10_method_6_code 88 = .ok (.ifCond .eq 40, 3) := by decide +kernel
theorem dc_Mo_leaf_128 : decode prog_10_method_6_code 128 = .ok (.iconst (-1), 1) := by decide +kernel
theorem dc_Mo_leaf_129 : decode prog_10_method_6_code 129 = .ok (.ireturn, 1) := by decide +kernel
theorem dc_Mo_leaf_79 : decode prog_10_method_6_code 79 = .ok (.iconst 1, 1) := by decide +kernel
theorem dc_Mo_leaf_80 : decode prog_10_method_6_code 80 = .ok (.goto 4, 3) := by decide +kernel
theorem dc_Mo_leaf_91 : decode prog_10_method_6_code 91 = .ok (.aload_n 0, 1) := by decide +kernel
theorem dc_Mo_leaf_92 : decode prog_10_method_6_code 92 = .ok (.iconst 1, 1) := by decide +kernel
theorem dc_Mo_leaf_93 : decode prog_10_method_6_code 93 = .ok (.invokevirtual 123, 3) := by decide +kernel
theorem lk_Mo_123 : zk_LV "ClosureMachineModel" 123 mm_Mo_isRoom := ⟨zk_in 842 (by decide +kernel) (by decide +kernel), zk_in 844 (by decide +kernel) (by decide +kernel), zk_inS (q := (⟨"ClosureMachineModel", "isRoom", "(I)Z"⟩, 48)) 24 (by decide +kernel) (by decide +kernel)⟩
theorem dc_Mo_leaf_96 : decode prog_10_method_6_code 96 = .ok (.ifCond .eq 32, 3) := by decide +kernel
theorem dc_Mo_leaf_99 : decode prog_10_method_6_code 99 = .ok (.aload_n 0, 1) := by decide +kernel
theorem dc_Mo_leaf_100 : decode prog_10_method_6_code 100 = .ok (.aload_n 0, 1) := by decide +kernel
theorem dc_Mo_leaf_101 : decode prog_10_method_6_code 101 = .ok (.getfield 10, 3) := by decide +kernel
theorem dc_Mo_leaf_104 : decode prog_10_method_6_code 104 = .ok (.iload_n 1, 1) := by decide +kernel
theorem dc_Mo_leaf_105 : decode prog_10_method_6_code 105 = .ok (.iload_n 2, 1) := by decide +kernel
theorem dc_Mo_leaf_106 : decode prog_10_method_6_code 106 = .ok (.iload_n 3, 1) := by decide +kernel
theorem dc_Mo_leaf_107 : decode prog_10_method_6_code 107 = .ok (.invokevirtual 105, 3) := by decide +kernel
theorem dc_Mo_leaf_110 : decode prog_10_method_6_code 110 = .ok (.iconst 1, 1) := by decide +kernel
theorem dc_Mo_leaf_111 : decode prog_10_method_6_code 111 = .ok (.iload_n 1, 1) := by decide +kernel
theorem dc_Mo_leaf_112 : decode prog_10_method_6_code 112 = .ok (.ifCond .ne 9, 3) := by decide +kernel
theorem dc_Mo_leaf_121 : decode prog_10_method_6_code 121 = .ok (.iconst 0, 1) := by decide +kernel
theorem dc_Mo_leaf_122 : decode prog_10_method_6_code 122 = .ok (.invokevirtual 126, 3) := by decide +kernel
theorem lk_Mo_126 : zk_LV "ClosureMachineModel" 126 mm_Mo_term := ⟨zk_in 847 (by decide +kernel) (by decide +kernel), zk_in 849 (by decide +kernel) (by decide +kernel), zk_inS (q := (⟨"ClosureMachineModel", "term", "(III)I"⟩, 48)) 25 (by decide +kernel) (by decide +kernel)⟩
theorem dc_Mo_leaf_125 : decode prog_10_method_6_code 125 = .ok (.goto 4, 3) := by decide +kernel
theorem dc_Mo_leaf_115 : decode prog_10_method_6_code 115 = .ok (.iload_n 2, 1) := by decide +kernel
theorem dc_Mo_leaf_116 : decode prog_10_method_6_code 116 = .ok (.iconst 1, 1) := by decide +kernel
theorem dc_Mo_leaf_117 : decode prog_10_method_6_code 117 = .ok (.iadd, 1) := by decide +kernel
theorem dc_Mo_leaf_118 : decode prog_10_method_6_code 118 = .ok (.goto 4, 3) := by decide +kernel
theorem dc_Mo_leaf_4 : decode prog_10_method_6_code 4 = .ok (.iload_n 1, 1) := by decide +kernel
theorem dc_Mo_leaf_5 : decode prog_10_method_6_code 5 = .ok (.iconst 2, 1) := by decide +kernel
theorem dc_Mo_leaf_6 : decode prog_10_method_6_code 6 = .ok (.if_icmp .ne 10, 3) := by decide +kernel
theorem dc_Mo_leaf_16 : decode prog_10_method_6_code 16 = .ok (.iload_n 1, 1) := by decide +kernel
theorem dc_Mo_leaf_17 : decode prog_10_method_6_code 17 = .ok (.iconst 1, 1) := by decide +kernel
theorem dc_Mo_leaf_18 : decode prog_10_method_6_code 18 = .ok (.if_icmp .eq 8, 3) := by decide +kernel
theorem dc_Mo_leaf_26 : decode prog_10_method_6_code 26 = .ok (.iload_n 2, 1) := by decide +kernel
theorem dc_Mo_leaf_27 : decode prog_10_method_6_code 27 = .ok (.ifCond .lt 15, 3) := by decide +kernel
theorem dc_Mo_leaf_42 : decode prog_10_method_6_code 42 = .ok (.iconst 0, 1) := by decide +kernel
theorem dc_Mo_leaf_30 : decode prog_10_method_6_code 30 = .ok (.iload_n 2, 1) := by decide +kernel
theorem dc_Mo_leaf_31 : decode prog_10_method_6_code 31 = .ok (.aload_n 0, 1) := by decide +kernel
theorem dc_Mo_leaf_32 : decode prog_10_method_6_code 32 = .ok (.getfield 120, 3) := by decide +kernel
theorem dc_Mo_leaf_35 : decode prog_10_method_6_code 35 = .ok (.if_icmp .ge 7, 3) := by decide +kernel
theorem dc_Mo_leaf_21 : decode prog_10_method_6_code 21 = .ok (.iload_n 1, 1) := by decide +kernel
theorem dc_Mo_leaf_22 : decode prog_10_method_6_code 22 = .ok (.iconst 3, 1) := by decide +kernel
theorem dc_Mo_leaf_23 : decode prog_10_method_6_code 23 = .ok (.if_icmp .ne 19, 3) := by decide +kernel
abbrev mm_Mo_global : zk_Mt := (⟨"ClosureMachineModel", "global", "(I)I"⟩, prog_10_method_13_code, 2, (Option.some .int), 0, 0)
set_option maxRecDepth 20000 in
theorem ok_Mo_global : zk_Ok mm_Mo_global 1 := ⟨zk_in 892 rfl rfl, ⟨by decide +kernel, by decide +kernel, by decide +kernel⟩, zk_in 8 (by decide +kernel) (by decide +kernel)⟩
theorem dc_Mo_global_0 : decode prog_10_method_13_code 0 = .ok (.aload_n 0, 1) := by decide +kernel
theorem dc_Mo_global_1 : decode prog_10_method_13_code 1 = .ok (.getfield 26, 3) := by decide +kernel
theorem fg_Mo_26 : zk_F "ClosureMachineModel" 26 9 6 := ⟨rc_9, tc_9, 48, rfl, by decide, zk_in 696 (by decide +kernel) (by decide +kernel)⟩
theorem dc_Mo_global_4 : decode prog_10_method_13_code 4 = .ok (.aload_n 0, 1) := by decide +kernel
theorem dc_Mo_global_5 : decode prog_10_method_13_code 5 = .ok (.getfield 120, 3) := by decide +kernel
theorem dc_Mo_global_8 : decode prog_10_method_13_code 8 = .ok (.iload_n 1, 1) := by decide +kernel
theorem dc_Mo_global_9 : decode prog_10_method_13_code 9 = .ok (.iastore, 1) := by decide +kernel
theorem dc_Mo_global_10 : decode prog_10_method_13_code 10 = .ok (.aload_n 0, 1) := by decide +kernel
theorem dc_Mo_global_11 : decode prog_10_method_13_code 11 = .ok (.getfield 32, 3) := by decide +kernel
theorem fg_Mo_32 : zk_F "ClosureMachineModel" 32 9 8 := ⟨rc_9, tc_9, 48, rfl, by decide, zk_in 698 (by decide +kernel) (by decide +kernel)⟩
theorem dc_Mo_global_14 : decode prog_10_method_13_code 14 = .ok (.aload_n 0, 1) := by decide +kernel
theorem dc_Mo_global_15 : decode prog_10_method_13_code 15 = .ok (.getfield 120, 3) := by decide +kernel
theorem dc_Mo_global_18 : decode prog_10_method_13_code 18 = .ok (.iconst (-1), 1) := by decide +kernel
theorem dc_Mo_global_19 : decode prog_10_method_13_code 19 = .ok (.iastore, 1) := by decide +kernel
theorem dc_Mo_global_20 : decode prog_10_method_13_code 20 = .ok (.aload_n 0, 1) := by decide +kernel
theorem dc_Mo_global_21 : decode prog_10_method_13_code 21 = .ok (.dup, 1) := by decide +kernel
theorem dc_Mo_global_22 : decode prog_10_method_13_code 22 = .ok (.getfield 120, 3) := by decide +kernel
theorem dc_Mo_global_25 : decode prog_10_method_13_code 25 = .ok (.dup_x1, 1) := by decide +kernel
theorem dc_Mo_global_26 : decode prog_10_method_13_code 26 = .ok (.iconst 1, 1) := by decide +kernel
theorem dc_Mo_global_27 : decode prog_10_method_13_code 27 = .ok (.iadd, 1) := by decide +kernel
theorem dc_Mo_global_28 : decode prog_10_method_13_code 28 = .ok (.putfield 120, 3) := by decide +kernel
theorem fp_Mo_120 : zk_Fp "ClosureMachineModel" 120 9 14 (yc_9 14) false := ⟨rc_9, tc_9, 48, rfl, by decide, zk_in 704 (by decide +kernel) (by decide +kernel), by decide +kernel, rfl, rfl⟩
theorem dc_Mo_global_31 : decode prog_10_method_13_code 31 = .ok (.ireturn, 1) := by decide +kernel
abbrev mm_Mo_axiom : zk_Mt := (⟨"ClosureMachineModel", "axiom", "()I"⟩, prog_10_method_14_code, 1, (Option.some .int), 1, 21)
set_option maxRecDepth 20000 in
theorem ok_Mo_axiom : zk_Ok mm_Mo_axiom 0 := ⟨zk_in 888 rfl rfl, ⟨by decide +kernel, by decide +kernel, by decide +kernel⟩, zk_in 8 (by decide +kernel) (by decide +kernel)⟩
theorem dc_Mo_axiom_0 : decode prog_10_method_14_code 0 = .ok (.aload_n 0, 1) := by decide +kernel
theorem dc_Mo_axiom_1 : decode prog_10_method_14_code 1 = .ok (.getfield 120, 3) := by decide +kernel
theorem dc_Mo_axiom_4 : decode prog_10_method_14_code 4 = .ok (.bipush 60, 2) := by decide +kernel
theorem dc_Mo_axiom_6 : decode prog_10_method_14_code 6 = .ok (.if_icmp .ne 7, 3) := by decide +kernel
theorem dc_Mo_axiom_13 : decode prog_10_method_14_code 13 = .ok (.aload_n 0, 1) := by decide +kernel
theorem dc_Mo_axiom_14 : decode prog_10_method_14_code 14 = .ok (.iconst 0, 1) := by decide +kernel
theorem dc_Mo_axiom_15 : decode prog_10_method_14_code 15 = .ok (.invokevirtual 157, 3) := by decide +kernel
theorem lk_Mo_157 : zk_LV "ClosureMachineModel" 157 mm_Mo_global := ⟨zk_in 889 (by decide +kernel) (by decide +kernel), zk_in 891 (by decide +kernel) (by decide +kernel), zk_inS (q := (⟨"ClosureMachineModel", "global", "(I)I"⟩, 48)) 28 (by decide +kernel) (by decide +kernel)⟩
theorem dc_Mo_axiom_18 : decode prog_10_method_14_code 18 = .ok (.ireturn, 1) := by decide +kernel
abbrev mm_Mo_family : zk_Mt := (⟨"ClosureMachineModel", "family", "(III)I"⟩, prog_10_method_16_code, 6, (Option.some .int), 1, 21)
set_option maxRecDepth 20000 in
theorem ok_Mo_family : zk_Ok mm_Mo_family 3 := ⟨zk_in 900 rfl rfl, ⟨by decide +kernel, by decide +kernel, by decide +kernel⟩, zk_in 8 (by decide +kernel) (by decide +kernel)⟩
theorem dc_Mo_family_51 : decode prog_10_method_16_code 51 = .ok (.iload 5, 2) := by decide +kernel
theorem dc_Mo_family_53 : decode prog_10_method_16_code 53 = .ok (.iload_n 3, 1) := by decide +kernel
theorem dc_Mo_family_54 : decode prog_10_method_16_code 54 = .ok (.if_icmp .gt 35, 3) := by decide +kernel
theorem dc_Mo_family_89 : decode prog_10_method_16_code 89 = .ok (.aload_n 0, 1) := by decide +kernel
theorem dc_Mo_family_90 : decode prog_10_method_16_code 90 = .ok (.getfield 41, 3) := by decide +kernel
theorem fg_Mo_41 : zk_F "ClosureMachineModel" 41 9 11 := ⟨rc_9, tc_9, 48, rfl, by decide, zk_in 701 (by decide +kernel) (by decide +kernel)⟩
theorem dc_Mo_family_93 : decode prog_10_method_16_code 93 = .ok (.iload 4, 2) := by decide +kernel
theorem dc_Mo_family_95 : decode prog_10_method_16_code 95 = .ok (.iload_n 1, 1) := by decide +kernel
theorem dc_Mo_family_96 : decode prog_10_method_16_code 96 = .ok (.iastore, 1) := by decide +kernel
theorem dc_Mo_family_97 : decode prog_10_method_16_code 97 = .ok (.aload_n 0, 1) := by decide +kernel
theorem dc_Mo_family_98 : decode prog_10_method_16_code 98 = .ok (.getfield 44, 3) := by decide +kernel
theorem fg_Mo_44 : zk_F "ClosureMachineModel" 44 9 12 := ⟨rc_9, tc_9, 48, rfl, by decide, zk_in 702 (by decide +kernel) (by decide +kernel)⟩
theorem dc_Mo_family_101 : decode prog_10_method_16_code 101 = .ok (.iload 4, 2) := by decide +kernel
theorem dc_Mo_family_103 : decode prog_10_method_16_code 103 = .ok (.iload_n 2, 1) := by decide +kernel
theorem dc_Mo_family_104 : decode prog_10_method_16_code 104 = .ok (.iastore, 1) := by decide +kernel
theorem dc_Mo_family_105 : decode prog_10_method_16_code 105 = .ok (.aload_n 0, 1) := by decide +kernel
theorem dc_Mo_family_106 : decode prog_10_method_16_code 106 = .ok (.getfield 47, 3) := by decide +kernel
theorem fg_Mo_47 : zk_F "ClosureMachineModel" 47 9 13 := ⟨rc_9, tc_9, 48, rfl, by decide, zk_in 703 (by decide +kernel) (by decide +kernel)⟩
theorem dc_Mo_family_109 : decode prog_10_method_16_code 109 = .ok (.iload 4, 2) := by decide +kernel
theorem dc_Mo_family_111 : decode prog_10_method_16_code 111 = .ok (.iload_n 3, 1) := by decide +kernel
theorem dc_Mo_family_112 : decode prog_10_method_16_code 112 = .ok (.iastore, 1) := by decide +kernel
theorem dc_Mo_family_113 : decode prog_10_method_16_code 113 = .ok (.iload 4, 2) := by decide +kernel
theorem dc_Mo_family_115 : decode prog_10_method_16_code 115 = .ok (.ireturn, 1) := by decide +kernel
theorem dc_Mo_family_57 : decode prog_10_method_16_code 57 = .ok (.aload_n 0, 1) := by decide +kernel
theorem dc_Mo_family_58 : decode prog_10_method_16_code 58 = .ok (.getfield 38, 3) := by decide +kernel
theorem fg_Mo_38 : zk_F "ClosureMachineModel" 38 9 10 := ⟨rc_9, tc_9, 48, rfl, by decide, zk_in 700 (by decide +kernel) (by decide +kernel)⟩
theorem dc_Mo_family_61 : decode prog_10_method_16_code 61 = .ok (.aload_n 0, 1) := by decide +kernel
theorem dc_Mo_family_62 : decode prog_10_method_16_code 62 = .ok (.getfield 120, 3) := by decide +kernel
theorem dc_Mo_family_65 : decode prog_10_method_16_code 65 = .ok (.iload 4, 2) := by decide +kernel
theorem dc_Mo_family_67 : decode prog_10_method_16_code 67 = .ok (.iastore, 1) := by decide +kernel
theorem dc_Mo_family_68 : decode prog_10_method_16_code 68 = .ok (.aload_n 0, 1) := by decide +kernel
theorem dc_Mo_family_69 : decode prog_10_method_16_code 69 = .ok (.iload 5, 2) := by decide +kernel
theorem dc_Mo_family_71 : decode prog_10_method_16_code 71 = .ok (.ifCond .ne 7, 3) := by decide +kernel
theorem dc_Mo_family_78 : decode prog_10_method_16_code 78 = .ok (.iconst 3, 1) := by decide +kernel
theorem dc_Mo_family_79 : decode prog_10_method_16_code 79 = .ok (.invokevirtual 157, 3) := by decide +kernel
theorem dc_Mo_family_82 : decode prog_10_method_16_code 82 = .ok (.pop, 1) := by decide +kernel
theorem dc_Mo_family_83 : decode prog_10_method_16_code 83 = .ok (.iinc 5 1, 3) := by decide +kernel
theorem dc_Mo_family_86 : decode prog_10_method_16_code 86 = .ok (.goto (-35), 3) := by decide +kernel
theorem dc_Mo_family_74 : decode prog_10_method_16_code 74 = .ok (.iconst 2, 1) := by decide +kernel
theorem dc_Mo_family_75 : decode prog_10_method_16_code 75 = .ok (.goto 4, 3) := by decide +kernel
theorem dc_Mo_family_0 : decode prog_10_method_16_code 0 = .ok (.iload_n 1, 1) := by decide +kernel
theorem dc_Mo_family_1 : decode prog_10_method_16_code 1 = .ok (.ifCond .lt 39, 3) := by decide +kernel
theorem dc_Mo_family_40 : decode prog_10_method_16_code 40 = .ok (.iconst (-1), 1) := by decide +kernel
theorem dc_Mo_family_41 : decode prog_10_method_16_code 41 = .ok (.ireturn, 1) := by decide +kernel
theorem dc_Mo_family_4 : decode prog_10_method_16_code 4 = .ok (.iload_n 1, 1) := by decide +kernel
theorem dc_Mo_family_5 : decode prog_10_method_16_code 5 = .ok (.iconst 4, 1) := by decide +kernel
theorem dc_Mo_family_6 : decode prog_10_method_16_code 6 = .ok (.if_icmp .gt 34, 3) := by decide +kernel
theorem dc_Mo_family_9 : decode prog_10_method_16_code 9 = .ok (.iload_n 2, 1) := by decide +kernel
theorem dc_Mo_family_10 : decode prog_10_method_16_code 10 = .ok (.ifCond .lt 30, 3) := by decide +kernel
theorem dc_Mo_family_13 : decode prog_10_method_16_code 13 = .ok (.iload_n 2, 1) := by decide +kernel
theorem dc_Mo_family_14 : decode prog_10_method_16_code 14 = .ok (.iconst 4, 1) := by decide +kernel
theorem dc_Mo_family_15 : decode prog_10_method_16_code 15 = .ok (.if_icmp .gt 25, 3) := by decide +kernel
theorem dc_Mo_family_18 : decode prog_10_method_16_code 18 = .ok (.iload_n 3, 1) := by decide +kernel
theorem dc_Mo_family_19 : decode prog_10_method_16_code 19 = .ok (.ifCond .lt 21, 3) := by decide +kernel
theorem dc_Mo_family_22 : decode prog_10_method_16_code 22 = .ok (.iload_n 3, 1) := by decide +kernel
theorem dc_Mo_family_23 : decode prog_10_method_16_code 23 = .ok (.iconst 5, 1) := by decide +kernel
theorem dc_Mo_family_24 : decode prog_10_method_16_code 24 = .ok (.if_icmp .gt 16, 3) := by decide +kernel
theorem dc_Mo_family_27 : decode prog_10_method_16_code 27 = .ok (.aload_n 0, 1) := by decide +kernel
theorem dc_Mo_family_28 : decode prog_10_method_16_code 28 = .ok (.getfield 120, 3) := by decide +kernel
theorem dc_Mo_family_31 : decode prog_10_method_16_code 31 = .ok (.iconst 1, 1) := by decide +kernel
theorem dc_Mo_family_32 : decode prog_10_method_16_code 32 = .ok (.iadd, 1) := by decide +kernel
theorem dc_Mo_family_33 : decode prog_10_method_16_code 33 = .ok (.iload_n 3, 1) := by decide +kernel
theorem dc_Mo_family_34 : decode prog_10_method_16_code 34 = .ok (.iadd, 1) := by decide +kernel
theorem dc_Mo_family_35 : decode prog_10_method_16_code 35 = .ok (.bipush 60, 2) := by decide +kernel
theorem dc_Mo_family_37 : decode prog_10_method_16_code 37 = .ok (.if_icmp .le 5, 3) := by decide +kernel
theorem dc_Mo_family_42 : decode prog_10_method_16_code 42 = .ok (.aload_n 0, 1) := by decide +kernel
theorem dc_Mo_family_43 : decode prog_10_method_16_code 43 = .ok (.getfield 120, 3) := by decide +kernel
theorem dc_Mo_family_46 : decode prog_10_method_16_code 46 = .ok (.istore 4, 2) := by decide +kernel
theorem dc_Mo_family_48 : decode prog_10_method_16_code 48 = .ok (.iconst 0, 1) := by decide +kernel
theorem dc_Mo_family_49 : decode prog_10_method_16_code 49 = .ok (.istore 5, 2) := by decide +kernel
