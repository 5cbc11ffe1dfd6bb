abbrev mm_Cm_lift : zk_Mt := (⟨"ClosureMachine", "lift", "(II)I"⟩, prog_1_method_5_code, 3, (Option.some .int), 4, 98)
set_option maxRecDepth 20000 in
theorem ok_Cm_lift : zk_Ok mm_Cm_lift 2 := ⟨zk_in 286 rfl rfl, ⟨by decide +kernel, by decide +kernel, by decide +kernel⟩, zk_in 1 (by decide +kernel) (by decide +kernel)⟩
theorem dc_Cm_lift_0 : decode prog_1_method_5_code 0 = .ok (.aload_n 0, 1) := by decide +kernel
theorem dc_Cm_lift_1 : decode prog_1_method_5_code 1 = .ok (.getfield 10, 3) := by decide +kernel
theorem dc_Cm_lift_4 : decode prog_1_method_5_code 4 = .ok (.iload_n 1, 1) := by decide +kernel
theorem dc_Cm_lift_5 : decode prog_1_method_5_code 5 = .ok (.invokevirtual 81, 3) := by decide +kernel
theorem lk_Cm_81 : zk_LV "ClosureMachine" 81 mm_CmTerms_has := ⟨zk_in 248 (by decide +kernel) (by decide +kernel), zk_in 249 (by decide +kernel) (by decide +kernel), zk_in 250 (by decide +kernel) (by decide +kernel)⟩
theorem dc_Cm_lift_8 : decode prog_1_method_5_code 8 = .ok (.ifCond .eq 22, 3) := by decide +kernel
theorem dc_Cm_lift_30 : decode prog_1_method_5_code 30 = .ok (.iconst (-1), 1) := by decide +kernel
theorem dc_Cm_lift_31 : decode prog_1_method_5_code 31 = .ok (.ireturn, 1) := by decide +kernel
abbrev mm_Cm_def : zk_Mt := (⟨"ClosureMachine", "def", "(I)I"⟩, prog_1_method_7_code, 3, (Option.some .int), 2, 43)
set_option maxRecDepth 20000 in
theorem ok_Cm_def : zk_Ok mm_Cm_def 1 := ⟨zk_in 371 rfl rfl, ⟨by decide +kernel, by decide +kernel, by decide +kernel⟩, zk_in 1 (by decide +kernel) (by decide +kernel)⟩
theorem dc_Cm_def_0 : decode prog_1_method_7_code 0 = .ok (.aload_n 0, 1) := by decide +kernel
theorem dc_Cm_def_1 : decode prog_1_method_7_code 1 = .ok (.getfield 10, 3) := by decide +kernel
theorem dc_Cm_def_4 : decode prog_1_method_7_code 4 = .ok (.iload_n 1, 1) := by decide +kernel
theorem dc_Cm_def_5 : decode prog_1_method_7_code 5 = .ok (.invokevirtual 81, 3) := by decide +kernel
theorem dc_Cm_def_8 : decode prog_1_method_7_code 8 = .ok (.ifCond .eq 25, 3) := by decide +kernel
theorem dc_Cm_def_33 : decode prog_1_method_7_code 33 = .ok (.iconst (-1), 1) := by decide +kernel
theorem dc_Cm_def_34 : decode prog_1_method_7_code 34 = .ok (.ireturn, 1) := by decide +kernel
abbrev mm_Cm_head : zk_Mt := (⟨"ClosureMachine", "head", "(II)I"⟩, prog_1_method_10_code, 3, (Option.some .int), 6, 148)
set_option maxRecDepth 20000 in
theorem ok_Cm_head : zk_Ok mm_Cm_head 2 := ⟨zk_in 422 rfl rfl, ⟨by decide +kernel, by decide +kernel, by decide +kernel⟩, zk_in 1 (by decide +kernel) (by decide +kernel)⟩
theorem dc_Cm_head_0 : decode prog_1_method_10_code 0 = .ok (.aload_n 0, 1) := by decide +kernel
theorem dc_Cm_head_1 : decode prog_1_method_10_code 1 = .ok (.getfield 10, 3) := by decide +kernel
theorem dc_Cm_head_4 : decode prog_1_method_10_code 4 = .ok (.iload_n 1, 1) := by decide +kernel
theorem dc_Cm_head_5 : decode prog_1_method_10_code 5 = .ok (.invokevirtual 81, 3) := by decide +kernel
theorem dc_Cm_head_8 : decode prog_1_method_10_code 8 = .ok (.ifCond .eq 15, 3) := by decide +kernel
theorem dc_Cm_head_23 : decode prog_1_method_10_code 23 = .ok (.iconst (-1), 1) := by decide +kernel
theorem dc_Cm_head_24 : decode prog_1_method_10_code 24 = .ok (.ireturn, 1) := by decide +kernel
abbrev mm_Cm_normal : zk_Mt := (⟨"ClosureMachine", "normal", "(II)I"⟩, prog_1_method_12_code, 7, (Option.some .int), 7, 175)
set_option maxRecDepth 20000 in
theorem ok_Cm_normal : zk_Ok mm_Cm_normal 2 := ⟨zk_in 574 rfl rfl, ⟨by decide +kernel, by decide +kernel, by decide +kernel⟩, zk_in 1 (by decide +kernel) (by decide +kernel)⟩
theorem dc_Cm_normal_0 : decode prog_1_method_12_code 0 = .ok (.aload_n 0, 1) := by decide +kernel
theorem dc_Cm_normal_1 : decode prog_1_method_12_code 1 = .ok (.getfield 10, 3) := by decide +kernel
theorem dc_Cm_normal_4 : decode prog_1_method_12_code 4 = .ok (.iload_n 1, 1) := by decide +kernel
theorem dc_Cm_normal_5 : decode prog_1_method_12_code 5 = .ok (.invokevirtual 81, 3) := by decide +kernel
theorem dc_Cm_normal_8 : decode prog_1_method_12_code 8 = .ok (.ifCond .eq 15, 3) := by decide +kernel
theorem dc_Cm_normal_23 : decode prog_1_method_12_code 23 = .ok (.iconst (-1), 1) := by decide +kernel
theorem dc_Cm_normal_24 : decode prog_1_method_12_code 24 = .ok (.ireturn, 1) := by decide +kernel
abbrev mm_Cm_part : zk_Mt := (⟨"ClosureMachine", "part", "(III)I"⟩, prog_1_method_15_code, 5, (Option.some .int), 3, 72)
set_option maxRecDepth 20000 in
theorem ok_Cm_part : zk_Ok mm_Cm_part 3 := ⟨zk_in 638 rfl rfl, ⟨by decide +kernel, by decide +kernel, by decide +kernel⟩, zk_in 1 (by decide +kernel) (by decide +kernel)⟩
theorem dc_Cm_part_0 : decode prog_1_method_15_code 0 = .ok (.aload_n 0, 1) := by decide +kernel
theorem dc_Cm_part_1 : decode prog_1_method_15_code 1 = .ok (.getfield 10, 3) := by decide +kernel
theorem dc_Cm_part_4 : decode prog_1_method_15_code 4 = .ok (.iload_n 1, 1) := by decide +kernel
theorem dc_Cm_part_5 : decode prog_1_method_15_code 5 = .ok (.invokevirtual 81, 3) := by decide +kernel
theorem dc_Cm_part_8 : decode prog_1_method_15_code 8 = .ok (.ifCond .eq 19, 3) := by decide +kernel
theorem dc_Cm_part_27 : decode prog_1_method_15_code 27 = .ok (.iconst (-1), 1) := by decide +kernel
theorem dc_Cm_part_28 : decode prog_1_method_15_code 28 = .ok (.ireturn, 1) := by decide +kernel
abbrev mm_Cm_cost : zk_Mt := (⟨"ClosureMachine", "cost", "()I"⟩, prog_1_method_13_code, 1, (Option.some .int), 0, 0)
set_option maxRecDepth 20000 in
theorem ok_Cm_cost : zk_Ok mm_Cm_cost 0 := ⟨zk_in 626 rfl rfl, ⟨by decide +kernel, by decide +kernel, by decide +kernel⟩, zk_in 1 (by decide +kernel) (by decide +kernel)⟩
theorem dc_Cm_cost_0 : decode prog_1_method_13_code 0 = .ok (.aload_n 0, 1) := by decide +kernel
theorem dc_Cm_cost_1 : decode prog_1_method_13_code 1 = .ok (.getfield 50, 3) := by decide +kernel
theorem fg_Cm_50 : zk_F "ClosureMachine" 50 6 5 := ⟨rc_6, tc_6, 9, rfl, by decide, zk_in 165 (by decide +kernel) (by decide +kernel)⟩
theorem dc_Cm_cost_4 : decode prog_1_method_13_code 4 = .ok (.ireturn, 1) := by decide +kernel
abbrev mm_Cm_terms : zk_Mt := (⟨"ClosureMachine", "terms", "()I"⟩, prog_1_method_14_code, 1, (Option.some .int), 2, 40)
set_option maxRecDepth 20000 in
theorem ok_Cm_terms : zk_Ok mm_Cm_terms 0 := ⟨zk_in 630 rfl rfl, ⟨by decide +kernel, by decide +kernel, by decide +kernel⟩, zk_in 1 (by decide +kernel) (by decide +kernel)⟩
theorem dc_Cm_terms_0 : decode prog_1_method_14_code 0 = .ok (.aload_n 0, 1) := by decide +kernel
theorem dc_Cm_terms_1 : decode prog_1_method_14_code 1 = .ok (.getfield 10, 3) := by decide +kernel
theorem dc_Cm_terms_4 : decode prog_1_method_14_code 4 = .ok (.invokevirtual 187, 3) := by decide +kernel
theorem lk_Cm_187 : zk_LV "ClosureMachine" 187 mm_CmTerms_count := ⟨zk_in 631 (by decide +kernel) (by decide +kernel), zk_in 632 (by decide +kernel) (by decide +kernel), zk_in 633 (by decide +kernel) (by decide +kernel)⟩
theorem dc_Cm_terms_7 : decode prog_1_method_14_code 7 = .ok (.ireturn, 1) := by decide +kernel
abbrev mm_Cm_join : zk_Mt := (⟨"ClosureMachine", "join", "(III)I"⟩, prog_1_method_3_code, 4, (Option.some .int), 4, 99)
set_option maxRecDepth 20000 in
theorem ok_Cm_join : zk_Ok mm_Cm_join 3 := ⟨zk_in 247 rfl rfl, ⟨by decide +kernel, by decide +kernel, by decide +kernel⟩, zk_in 1 (by decide +kernel) (by decide +kernel)⟩
theorem dc_Cm_join_0 : decode prog_1_method_3_code 0 = .ok (.iload_n 1, 1) := by decide +kernel
theorem dc_Cm_join_1 : decode prog_1_method_3_code 1 = .ok (.iconst 4, 1) := by decide +kernel
theorem dc_Cm_join_2 : decode prog_1_method_3_code 2 = .ok (.if_icmp .eq 11, 3) := by decide +kernel
theorem dc_Cm_join_13 : decode prog_1_method_3_code 13 = .ok (.aload_n 0, 1) := by decide +kernel
theorem dc_Cm_join_14 : decode prog_1_method_3_code 14 = .ok (.getfield 10, 3) := by decide +kernel
theorem dc_Cm_join_17 : decode prog_1_method_3_code 17 = .ok (.iload_n 2, 1) := by decide +kernel
theorem dc_Cm_join_18 : decode prog_1_method_3_code 18 = .ok (.invokevirtual 81, 3) := by decide +kernel
theorem dc_Cm_join_21 : decode prog_1_method_3_code 21 = .ok (.ifCond .eq 28, 3) := by decide +kernel
theorem dc_Cm_join_49 : decode prog_1_method_3_code 49 = .ok (.iconst (-1), 1) := by decide +kernel
theorem dc_Cm_join_50 : decode prog_1_method_3_code 50 = .ok (.ireturn, 1) := by decide +kernel
theorem dc_Cm_join_5 : decode prog_1_method_3_code 5 = .ok (.iload_n 1, 1) := by decide +kernel
theorem dc_Cm_join_6 : decode prog_1_method_3_code 6 = .ok (.bipush 9, 2) := by decide +kernel
theorem dc_Cm_join_8 : decode prog_1_method_3_code 8 = .ok (.if_icmp .eq 5, 3) := by decide +kernel
theorem dc_Cm_join_11 : decode prog_1_method_3_code 11 = .ok (.iconst (-1), 1) := by decide +kernel
theorem dc_Cm_join_12 : decode prog_1_method_3_code 12 = .ok (.ireturn, 1) := by decide +kernel
abbrev mm_Cm_binder : zk_Mt := (⟨"ClosureMachine", "binder", "(IIII)I"⟩, prog_1_method_4_code, 5, (Option.some .int), 4, 99)
set_option maxRecDepth 20000 in
theorem ok_Cm_binder : zk_Ok mm_Cm_binder 4 := ⟨zk_in 282 rfl rfl, ⟨by decide +kernel, by decide +kernel, by decide +kernel⟩, zk_in 1 (by decide +kernel) (by decide +kernel)⟩
theorem dc_Cm_binder_0 : decode prog_1_method_4_code 0 = .ok (.iload_n 1, 1) := by decide +kernel
theorem dc_Cm_binder_1 : decode prog_1_method_4_code 1 = .ok (.iconst 5, 1) := by decide +kernel
theorem dc_Cm_binder_2 : decode prog_1_method_4_code 2 = .ok (.if_icmp .eq 17, 3) := by decide +kernel
theorem dc_Cm_binder_19 : decode prog_1_method_4_code 19 = .ok (.iload_n 2, 1) := by decide +kernel
theorem dc_Cm_binder_20 : decode prog_1_method_4_code 20 = .ok (.iconst (-1), 1) := by decide +kernel
theorem dc_Cm_binder_21 : decode prog_1_method_4_code 21 = .ok (.if_icmp .eq 15, 3) := by decide +kernel
theorem dc_Cm_binder_36 : decode prog_1_method_4_code 36 = .ok (.aload_n 0, 1) := by decide +kernel
theorem dc_Cm_binder_37 : decode prog_1_method_4_code 37 = .ok (.getfield 10, 3) := by decide +kernel
theorem dc_Cm_binder_40 : decode prog_1_method_4_code 40 = .ok (.iload_n 3, 1) := by decide +kernel
theorem dc_Cm_binder_41 : decode prog_1_method_4_code 41 = .ok (.invokevirtual 81, 3) := by decide +kernel
theorem dc_Cm_binder_44 : decode prog_1_method_4_code 44 = .ok (.ifCond .eq 30, 3) := by decide +kernel
theorem dc_Cm_binder_74 : decode prog_1_method_4_code 74 = .ok (.iconst (-1), 1) := by decide +kernel
theorem dc_Cm_binder_75 : decode prog_1_method_4_code 75 = .ok (.ireturn, 1) := by decide +kernel
theorem dc_Cm_binder_24 : decode prog_1_method_4_code 24 = .ok (.iload_n 2, 1) := by decide +kernel
theorem dc_Cm_binder_25 : decode prog_1_method_4_code 25 = .ok (.ifCond .lt 9, 3) := by decide +kernel
theorem dc_Cm_binder_34 : decode prog_1_method_4_code 34 = .ok (.iconst (-1), 1) := by decide +kernel
theorem dc_Cm_binder_35 : decode prog_1_method_4_code 35 = .ok (.ireturn, 1) := by decide +kernel
theorem dc_Cm_binder_28 : decode prog_1_method_4_code 28 = .ok (.iload_n 2, 1) := by decide +kernel
theorem dc_Cm_binder_29 : decode prog_1_method_4_code 29 = .ok (.bipush 99, 2) := by decide +kernel
theorem dc_Cm_binder_31 : decode prog_1_method_4_code 31 = .ok (.if_icmp .le 5, 3) := by decide +kernel
theorem dc_Cm_binder_5 : decode prog_1_method_4_code 5 = .ok (.iload_n 1, 1) := by decide +kernel
theorem dc_Cm_binder_6 : decode prog_1_method_4_code 6 = .ok (.bipush 6, 2) := by decide +kernel
theorem dc_Cm_binder_8 : decode prog_1_method_4_code 8 = .ok (.if_icmp .eq 11, 3) := by decide +kernel
theorem dc_Cm_binder_11 : decode prog_1_method_4_code 11 = .ok (.iload_n 1, 1) := by decide +kernel
theorem dc_Cm_binder_12 : decode prog_1_method_4_code 12 = .ok (.bipush 7, 2) := by decide +kernel
theorem dc_Cm_binder_14 : decode prog_1_method_4_code 14 = .ok (.if_icmp .eq 5, 3) := by decide +kernel
theorem dc_Cm_binder_17 : decode prog_1_method_4_code 17 = .ok (.iconst (-1), 1) := by decide +kernel
theorem dc_Cm_binder_18 : decode prog_1_method_4_code 18 = .ok (.ireturn, 1) := by decide +kernel
abbrev mm_Cm_constructor : zk_Mt := (⟨"ClosureMachine", "constructor", "(II)I"⟩, prog_1_method_9_code, 6, (Option.some .int), 5, 122)
set_option maxRecDepth 20000 in
theorem ok_Cm_constructor : zk_Ok mm_Cm_constructor 2 := ⟨zk_in 387 rfl rfl, ⟨by decide +kernel, by decide +kernel, by decide +kernel⟩, zk_in 1 (by decide +kernel) (by decide +kernel)⟩
theorem dc_Cm_constructor_0 : decode prog_1_method_9_code 0 = .ok (.aload_n 0, 1) := by decide +kernel
theorem dc_Cm_constructor_1 : decode prog_1_method_9_code 1 = .ok (.getfield 19, 3) := by decide +kernel
theorem dc_Cm_constructor_4 : decode prog_1_method_9_code 4 = .ok (.iload_n 1, 1) := by decide +kernel
theorem dc_Cm_constructor_5 : decode prog_1_method_9_code 5 = .ok (.iconst 3, 1) := by decide +kernel
theorem dc_Cm_constructor_6 : decode prog_1_method_9_code 6 = .ok (.invokevirtual 73, 3) := by decide +kernel
theorem lk_Cm_73 : zk_LV "ClosureMachine" 73 mm_CmGlobals_ofKind := ⟨zk_in 202 (by decide +kernel) (by decide +kernel), zk_in 203 (by decide +kernel) (by decide +kernel), zk_in 204 (by decide +kernel) (by decide +kernel)⟩
theorem dc_Cm_constructor_9 : decode prog_1_method_9_code 9 = .ok (.astore_n 3, 1) := by decide +kernel
theorem dc_Cm_constructor_10 : decode prog_1_method_9_code 10 = .ok (.aload_n 3, 1) := by decide +kernel
theorem dc_Cm_constructor_11 : decode prog_1_method_9_code 11 = .ok (.ifnull 32, 3) := by decide +kernel
theorem dc_Cm_constructor_43 : decode prog_1_method_9_code 43 = .ok (.iconst (-1), 1) := by decide +kernel
theorem dc_Cm_constructor_44 : decode prog_1_method_9_code 44 = .ok (.ireturn, 1) := by decide +kernel
abbrev mm_Cm_found : zk_Mt := (⟨"ClosureMachine", "found", "(I)I"⟩, prog_1_method_11_code, 2, (Option.some .int), 0, 0)
set_option maxRecDepth 20000 in
theorem ok_Cm_found : zk_Ok mm_Cm_found 1 := ⟨zk_in 570 rfl rfl, ⟨by decide +kernel, by decide +kernel, by decide +kernel⟩, zk_in 1 (by decide +kernel) (by decide +kernel)⟩
theorem dc_Cm_found_0 : decode prog_1_method_11_code 0 = .ok (.iload_n 1, 1) := by decide +kernel
theorem dc_Cm_found_1 : decode prog_1_method_11_code 1 = .ok (.tableswitch 48 0 2 #[27, 34, 41], 27) := by decide +kernel
theorem dc_Cm_found_28 : decode prog_1_method_11_code 28 = .ok (.aload_n 0, 1) := by decide +kernel
theorem dc_Cm_found_29 : decode prog_1_method_11_code 29 = .ok (.getfield 54, 3) := by decide +kernel
theorem fg_Cm_54 : zk_F "ClosureMachine" 54 6 6 := ⟨rc_6, tc_6, 9, rfl, by decide, zk_in 166 (by decide +kernel) (by decide +kernel)⟩
theorem dc_Cm_found_32 : decode prog_1_method_11_code 32 = .ok (.goto 18, 3) := by decide +kernel
theorem dc_Cm_found_50 : decode prog_1_method_11_code 50 = .ok (.ireturn, 1) := by decide +kernel
theorem dc_Cm_found_35 : decode prog_1_method_11_code 35 = .ok (.aload_n 0, 1) := by decide +kernel
theorem dc_Cm_found_36 : decode prog_1_method_11_code 36 = .ok (.getfield 57, 3) := by decide +kernel
theorem fg_Cm_57 : zk_F "ClosureMachine" 57 6 7 := ⟨rc_6, tc_6, 9, rfl, by decide, zk_in 167 (by decide +kernel) (by decide +kernel)⟩
theorem dc_Cm_found_39 : decode prog_1_method_11_code 39 = .ok (.goto 11, 3) := by decide +kernel
theorem dc_Cm_found_42 : decode prog_1_method_11_code 42 = .ok (.aload_n 0, 1) := by decide +kernel
theorem dc_Cm_found_43 : decode prog_1_method_11_code 43 = .ok (.getfield 60, 3) := by decide +kernel
theorem fg_Cm_60 : zk_F "ClosureMachine" 60 6 8 := ⟨rc_6, tc_6, 9, rfl, by decide, zk_in 168 (by decide +kernel) (by decide +kernel)⟩
theorem dc_Cm_found_46 : decode prog_1_method_11_code 46 = .ok (.goto 4, 3) := by decide +kernel
theorem dc_Cm_found_49 : decode prog_1_method_11_code 49 = .ok (.iconst (-1), 1) := by decide +kernel
abbrev mm_CmRows_add : zk_Mt := (⟨"ClosureMachine$Rows", "add", "(IIII)I"⟩, prog_6_method_2_code, 6, (Option.some .int), 1, 22)
set_option maxRecDepth 20000 in
theorem ok_CmRows_add : zk_Ok mm_CmRows_add 4 := ⟨zk_in 223 rfl rfl, ⟨by decide +kernel, by decide +kernel, by decide +kernel⟩, zk_in 3 (by decide +kernel) (by decide +kernel)⟩
theorem dc_CmRows_add_0 : decode prog_6_method_2_code 0 = .ok (.aload_n 0, 1) := by decide +kernel
theorem dc_CmRows_add_1 : decode prog_6_method_2_code 1 = .ok (.getfield 19, 3) := by decide +kernel
theorem dc_CmRows_add_4 : decode prog_6_method_2_code 4 = .ok (.aload_n 0, 1) := by decide +kernel
theorem dc_CmRows_add_5 : decode prog_6_method_2_code 5 = .ok (.getfield 9, 3) := by decide +kernel
theorem fg_CmRows_9 : zk_F "ClosureMachine$Rows" 9 0 0 := ⟨rc_0, tc_0, 3, rfl, by decide, zk_in 35 (by decide +kernel) (by decide +kernel)⟩
theorem dc_CmRows_add_8 : decode prog_6_method_2_code 8 = .ok (.if_icmp .lt 5, 3) := by decide +kernel
theorem dc_CmRows_add_13 : decode prog_6_method_2_code 13 = .ok (.aload_n 0, 1) := by decide +kernel
theorem dc_CmRows_add_14 : decode prog_6_method_2_code 14 = .ok (.getfield 19, 3) := by decide +kernel
theorem dc_CmRows_add_17 : decode prog_6_method_2_code 17 = .ok (.iconst 4, 1) := by decide +kernel
theorem dc_CmRows_add_18 : decode prog_6_method_2_code 18 = .ok (.imul, 1) := by decide +kernel
theorem dc_CmRows_add_19 : decode prog_6_method_2_code 19 = .ok (.istore 5, 2) := by decide +kernel
theorem dc_CmRows_add_21 : decode prog_6_method_2_code 21 = .ok (.iload 5, 2) := by decide +kernel
theorem dc_CmRows_add_23 : decode prog_6_method_2_code 23 = .ok (.iconst 4, 1) := by decide +kernel
theorem dc_CmRows_add_24 : decode prog_6_method_2_code 24 = .ok (.iadd, 1) := by decide +kernel
theorem dc_CmRows_add_25 : decode prog_6_method_2_code 25 = .ok (.aload_n 0, 1) := by decide +kernel
theorem dc_CmRows_add_26 : decode prog_6_method_2_code 26 = .ok (.getfield 15, 3) := by decide +kernel
theorem fg_CmRows_15 : zk_F "ClosureMachine$Rows" 15 0 1 := ⟨rc_0, tc_0, 3, rfl, by decide, zk_in 36 (by decide +kernel) (by decide +kernel)⟩
theorem dc_CmRows_add_29 : decode prog_6_method_2_code 29 = .ok (.arraylength, 1) := by decide +kernel
theorem dc_CmRows_add_30 : decode prog_6_method_2_code 30 = .ok (.if_icmp .le 21, 3) := by decide +kernel
theorem dc_CmRows_add_51 : decode prog_6_method_2_code 51 = .ok (.aload_n 0, 1) := by decide +kernel
theorem dc_CmRows_add_52 : decode prog_6_method_2_code 52 = .ok (.getfield 15, 3) := by decide +kernel
theorem dc_CmRows_add_55 : decode prog_6_method_2_code 55 = .ok (.iload 5, 2) := by decide +kernel
theorem dc_CmRows_add_57 : decode prog_6_method_2_code 57 = .ok (.iload_n 1, 1) := by decide +kernel
theorem dc_CmRows_add_58 : decode prog_6_method_2_code 58 = .ok (.iastore, 1) := by decide +kernel
theorem dc_CmRows_add_59 : decode prog_6_method_2_code 59 = .ok (.aload_n 0, 1) := by decide +kernel
theorem dc_CmRows_add_60 : decode prog_6_method_2_code 60 = .ok (.getfield 15, 3) := by decide +kernel
theorem dc_CmRows_add_63 : decode prog_6_method_2_code 63 = .ok (.iload 5, 2) := by decide +kernel
theorem dc_CmRows_add_65 : decode prog_6_method_2_code 65 = .ok (.iconst 1, 1) := by decide +kernel
theorem dc_CmRows_add_66 : decode prog_6_method_2_code 66 = .ok (.iadd, 1) := by decide +kernel
theorem dc_CmRows_add_67 : decode prog_6_method_2_code 67 = .ok (.iload_n 2, 1) := by decide +kernel
theorem dc_CmRows_add_68 : decode prog_6_method_2_code 68 = .ok (.iastore, 1) := by decide +kernel
theorem dc_CmRows_add_69 : decode prog_6_method_2_code 69 = .ok (.aload_n 0, 1) := by decide +kernel
theorem dc_CmRows_add_70 : decode prog_6_method_2_code 70 = .ok (.getfield 15, 3) := by decide +kernel
theorem dc_CmRows_add_73 : decode prog_6_method_2_code 73 = .ok (.iload 5, 2) := by decide +kernel
theorem dc_CmRows_add_75 : decode prog_6_method_2_code 75 = .ok (.iconst 2, 1) := by decide +kernel
theorem dc_CmRows_add_76 : decode prog_6_method_2_code 76 = .ok (.iadd, 1) := by decide +kernel
theorem dc_CmRows_add_77 : decode prog_6_method_2_code 77 = .ok (.iload_n 3, 1) := by decide +kernel
theorem dc_CmRows_add_78 : decode prog_6_method_2_code 78 = .ok (.iastore, 1) := by decide +kernel
theorem dc_CmRows_add_79 : decode prog_6_method_2_code 79 = .ok (.aload_n 0, 1) := by decide +kernel
theorem dc_CmRows_add_80 : decode prog_6_method_2_code 80 = .ok (.getfield 15, 3) := by decide +kernel
theorem dc_CmRows_add_83 : decode prog_6_method_2_code 83 = .ok (.iload 5, 2) := by decide +kernel
theorem dc_CmRows_add_85 : decode prog_6_method_2_code 85 = .ok (.iconst 3, 1) := by decide +kernel
theorem dc_CmRows_add_86 : decode prog_6_method_2_code 86 = .ok (.iadd, 1) := by decide +kernel
theorem dc_CmRows_add_87 : decode prog_6_method_2_code 87 = .ok (.iload 4, 2) := by decide +kernel
theorem dc_CmRows_add_89 : decode prog_6_method_2_code 89 = .ok (.iastore, 1) := by decide +kernel
theorem dc_CmRows_add_90 : decode prog_6_method_2_code 90 = .ok (.aload_n 0, 1) := by decide +kernel
theorem dc_CmRows_add_91 : decode prog_6_method_2_code 91 = .ok (.dup, 1) := by decide +kernel
theorem dc_CmRows_add_92 : decode prog_6_method_2_code 92 = .ok (.getfield 19, 3) := by decide +kernel
theorem dc_CmRows_add_95 : decode prog_6_method_2_code 95 = .ok (.dup_x1, 1) := by decide +kernel
theorem dc_CmRows_add_96 : decode prog_6_method_2_code 96 = .ok (.iconst 1, 1) := by decide +kernel
theorem dc_CmRows_add_97 : decode prog_6_method_2_code 97 = .ok (.iadd, 1) := by decide +kernel
theorem dc_CmRows_add_98 : decode prog_6_method_2_code 98 = .ok (.putfield 19, 3) := by decide +kernel
theorem dc_CmRows_add_101 : decode prog_6_method_2_code 101 = .ok (.ireturn, 1) := by decide +kernel
abbrev mm_CmTerms_fits : zk_Mt := (⟨"ClosureMachine$Terms", "fits", "(I)Z"⟩, prog_7_method_13_code, 2, (Option.some .boolean), 1, 20)
set_option maxRecDepth 20000 in
theorem ok_CmTerms_fits : zk_Ok mm_CmTerms_fits 1 := ⟨zk_in 214 rfl rfl, ⟨by decide +kernel, by decide +kernel, by decide +kernel⟩, zk_in 2 (by decide +kernel) (by decide +kernel)⟩
theorem dc_CmTerms_fits_0 : decode prog_7_method_13_code 0 = .ok (.aload_n 0, 1) := by decide +kernel
theorem dc_CmTerms_fits_1 : decode prog_7_method_13_code 1 = .ok (.getfield 21, 3) := by decide +kernel
theorem dc_CmTerms_fits_4 : decode prog_7_method_13_code 4 = .ok (.invokevirtual 35, 3) := by decide +kernel
theorem dc_CmTerms_fits_7 : decode prog_7_method_13_code 7 = .ok (.sipush 3000, 3) := by decide +kernel
theorem dc_CmTerms_fits_10 : decode prog_7_method_13_code 10 = .ok (.if_icmp .ge 25, 3) := by decide +kernel
theorem dc_CmTerms_fits_13 : decode prog_7_method_13_code 13 = .ok (.iload_n 1, 1) := by decide +kernel
theorem dc_CmTerms_fits_14 : decode prog_7_method_13_code 14 = .ok (.sipush 2000, 3) := by decide +kernel
theorem dc_CmTerms_fits_17 : decode prog_7_method_13_code 17 = .ok (.if_icmp .gt 18, 3) := by decide +kernel
theorem dc_CmTerms_fits_20 : decode prog_7_method_13_code 20 = .ok (.iload_n 1, 1) := by decide +kernel
theorem dc_CmTerms_fits_21 : decode prog_7_method_13_code 21 = .ok (.ldc 39, 2) := by decide +kernel
theorem dc_CmTerms_fits_23 : decode prog_7_method_13_code 23 = .ok (.aload_n 0, 1) := by decide +kernel
theorem dc_CmTerms_fits_24 : decode prog_7_method_13_code 24 = .ok (.getfield 27, 3) := by decide +kernel
theorem fg_CmTerms_27 : zk_F "ClosureMachine$Terms" 27 1 3 := ⟨rc_1, tc_1, 4, rfl, by decide, zk_in 51 (by decide +kernel) (by decide +kernel)⟩
theorem dc_CmTerms_fits_27 : decode prog_7_method_13_code 27 = .ok (.isub, 1) := by decide +kernel
theorem dc_CmTerms_fits_28 : decode prog_7_method_13_code 28 = .ok (.if_icmp .gt 7, 3) := by decide +kernel
theorem dc_CmTerms_fits_31 : decode prog_7_method_13_code 31 = .ok (.iconst 1, 1) := by decide +kernel
theorem dc_CmTerms_fits_32 : decode prog_7_method_13_code 32 = .ok (.goto 4, 3) := by decide +kernel
theorem dc_CmTerms_fits_36 : decode prog_7_method_13_code 36 = .ok (.ireturn, 1) := by decide +kernel
abbrev mm_CmTerms_admit : zk_Mt := (⟨"ClosureMachine$Terms", "\x61dmit", "(IIII)I"⟩, prog_7_method_14_code, 5, (Option.some .int), 2, 47)
set_option maxRecDepth 20000 in
theorem ok_CmTerms_admit : zk_Ok mm_CmTerms_admit 4 := ⟨zk_in 243 rfl rfl, ⟨by decide +kernel, by decide +kernel, by decide +kernel⟩, zk_in 2 (by decide +kernel) (by decide +kernel)⟩
theorem dc_CmTerms_admit_0 : decode prog_7_method_14_code 0 = .ok (.aload_n 0, 1) := by decide +kernel
theorem dc_CmTerms_admit_1 : decode prog_7_method_14_code 1 = .ok (.dup, 1) := by decide +kernel
theorem dc_CmTerms_admit_2 : decode prog_7_method_14_code 2 = .ok (.getfield 27, 3) := by decide +kernel
theorem dc_CmTerms_admit_5 : decode prog_7_method_14_code 5 = .ok (.iload_n 2, 1) := by decide +kernel
theorem dc_CmTerms_admit_6 : decode prog_7_method_14_code 6 = .ok (.iadd, 1) := by decide +kernel
theorem dc_CmTerms_admit_7 : decode prog_7_method_14_code 7 = .ok (.putfield 27, 3) := by decide +kernel
theorem dc_CmTerms_admit_10 : decode prog_7_method_14_code 10 = .ok (.aload_n 0, 1) := by decide +kernel
theorem dc_CmTerms_admit_11 : decode prog_7_method_14_code 11 = .ok (.getfield 21, 3) := by decide +kernel
theorem dc_CmTerms_admit_14 : decode prog_7_method_14_code 14 = .ok (.iload_n 1, 1) := by decide +kernel
theorem dc_CmTerms_admit_15 : decode prog_7_method_14_code 15 = .ok (.iload_n 2, 1) := by decide +kernel
theorem dc_CmTerms_admit_16 : decode prog_7_method_14_code 16 = .ok (.iload_n 3, 1) := by decide +kernel
theorem dc_CmTerms_admit_17 : decode prog_7_method_14_code 17 = .ok (.iload 4, 2) := by decide +kernel
theorem dc_CmTerms_admit_19 : decode prog_7_method_14_code 19 = .ok (.invokevirtual 40, 3) := by decide +kernel
theorem lk_CmTerms_40 : zk_LV "ClosureMachine$Terms" 40 mm_CmRows_add := ⟨zk_in 220 (by decide +kernel) (by decide +kernel), zk_in 221 (by decide +kernel) (by decide +kernel), zk_in 222 (by decide +kernel) (by decide +kernel)⟩
theorem dc_CmTerms_admit_22 : decode prog_7_method_14_code 22 = .ok (.ireturn, 1) := by decide +kernel
abbrev mm_CmTerms_addLeaf : zk_Mt := (⟨"ClosureMachine$Terms", "addLeaf", "(III)I"⟩, prog_7_method_15_code, 4, (Option.some .int), 3, 71)
set_option maxRecDepth 20000 in
theorem ok_CmTerms_addLeaf : zk_Ok mm_CmTerms_addLeaf 3 := ⟨zk_in 210 rfl rfl, ⟨by decide +kernel, by decide +kernel, by decide +kernel⟩, zk_in 2 (by decide +kernel) (by decide +kernel)⟩
theorem dc_CmTerms_addLeaf_0 : decode prog_7_method_15_code 0 = .ok (.aload_n 0, 1) := by decide +kernel
theorem dc_CmTerms_addLeaf_1 : decode prog_7_method_15_code 1 = .ok (.iconst 1, 1) := by decide +kernel
theorem dc_CmTerms_addLeaf_2 : decode prog_7_method_15_code 2 = .ok (.invokevirtual 44, 3) := by decide +kernel
theorem lk_CmTerms_44 : zk_LV "ClosureMachine$Terms" 44 mm_CmTerms_fits := ⟨zk_in 211 (by decide +kernel) (by decide +kernel), zk_in 212 (by decide +kernel) (by decide +kernel), zk_in 213 (by decide +kernel) (by decide +kernel)⟩
theorem dc_CmTerms_addLeaf_5 : decode prog_7_method_15_code 5 = .ok (.ifCond .ne 5, 3) := by decide +kernel
theorem dc_CmTerms_addLeaf_10 : decode prog_7_method_15_code 10 = .ok (.aload_n 0, 1) := by decide +kernel
theorem dc_CmTerms_addLeaf_11 : decode prog_7_method_15_code 11 = .ok (.aload_n 0, 1) := by decide +kernel
theorem dc_CmTerms_addLeaf_12 : decode prog_7_method_15_code 12 = .ok (.getfield 17, 3) := by decide +kernel
theorem fg_CmTerms_17 : zk_F "ClosureMachine$Terms" 17 1 0 := ⟨rc_1, tc_1, 4, rfl, by decide, zk_in 46 (by decide +kernel) (by decide +kernel)⟩
theorem dc_CmTerms_addLeaf_15 : decode prog_7_method_15_code 15 = .ok (.iload_n 1, 1) := by decide +kernel
theorem dc_CmTerms_addLeaf_16 : decode prog_7_method_15_code 16 = .ok (.iload_n 2, 1) := by decide +kernel
theorem dc_CmTerms_addLeaf_17 : decode prog_7_method_15_code 17 = .ok (.iload_n 3, 1) := by decide +kernel
theorem dc_CmTerms_addLeaf_18 : decode prog_7_method_15_code 18 = .ok (.iconst (-1), 1) := by decide +kernel
theorem dc_CmTerms_addLeaf_19 : decode prog_7_method_15_code 19 = .ok (.invokevirtual 40, 3) := by decide +kernel
theorem dc_CmTerms_addLeaf_22 : decode prog_7_method_15_code 22 = .ok (.iconst 1, 1) := by decide +kernel
theorem dc_CmTerms_addLeaf_23 : decode prog_7_method_15_code 23 = .ok (.iconst 1, 1) := by decide +kernel
theorem dc_CmTerms_addLeaf_24 : decode prog_7_method_15_code 24 = .ok (.iload_n 1, 1) := by decide +kernel
theorem dc_CmTerms_addLeaf_25 : decode prog_7_method_15_code 25 = .ok (.ifCond .ne 9, 3) := by decide +kernel
theorem dc_CmTerms_addLeaf_34 : decode prog_7_method_15_code 34 = .ok (.iconst 0, 1) := by decide +kernel
theorem dc_CmTerms_addLeaf_35 : decode prog_7_method_15_code 35 = .ok (.invokevirtual 48, 3) := by decide +kernel
theorem lk_CmTerms_48 : zk_LV "ClosureMachine$Terms" 48 mm_CmTerms_admit := ⟨zk_in 240 (by decide +kernel) (by decide +kernel), zk_in 241 (by decide +kernel) (by decide +kernel), zk_in 242 (by decide +kernel) (by decide +kernel)⟩
theorem dc_CmTerms_addLeaf_38 : decode prog_7_method_15_code 38 = .ok (.ireturn, 1) := by decide +kernel
theorem dc_CmTerms_addLeaf_28 : decode prog_7_method_15_code 28 = .ok (.iload_n 2, 1) := by decide +kernel
theorem dc_CmTerms_addLeaf_29 : decode prog_7_method_15_code 29 = .ok (.iconst 1, 1) := by decide +kernel
theorem dc_CmTerms_addLeaf_30 : decode prog_7_method_15_code 30 = .ok (.iadd, 1) := by decide +kernel
theorem dc_CmTerms_addLeaf_31 : decode prog_7_method_15_code 31 = .ok (.goto 4, 3) := by decide +kernel
