abbrev mm_CmRows_size : zk_Mt := (⟨"ClosureMachine$Rows", "size", "()I"⟩, prog_6_method_5_code, 1, (Option.some .int), 0, 0)
set_option maxRecDepth 20000 in
theorem ok_CmRows_size : zk_Ok mm_CmRows_size 0 := ⟨zk_in 218 rfl rfl, ⟨by decide +kernel, by decide +kernel, by decide +kernel⟩, zk_in 3 (by decide +kernel) (by decide +kernel)⟩
theorem dc_CmRows_size_0 : decode prog_6_method_5_code 0 = .ok (.aload_n 0, 1) := by decide +kernel
theorem dc_CmRows_size_1 : decode prog_6_method_5_code 1 = .ok (.getfield 19, 3) := by decide +kernel
theorem fg_CmRows_19 : zk_F "ClosureMachine$Rows" 19 0 2 := ⟨rc_0, tc_0, 3, rfl, by decide, zk_in 37 (by decide +kernel) (by decide +kernel)⟩
theorem dc_CmRows_size_4 : decode prog_6_method_5_code 4 = .ok (.ireturn, 1) := by decide +kernel
abbrev mm_CmTerms_has : zk_Mt := (⟨"ClosureMachine$Terms", "has", "(I)Z"⟩, prog_7_method_8_code, 2, (Option.some .boolean), 1, 20)
set_option maxRecDepth 20000 in
theorem ok_CmTerms_has : zk_Ok mm_CmTerms_has 1 := ⟨zk_in 251 rfl rfl, ⟨by decide +kernel, by decide +kernel, by decide +kernel⟩, zk_in 2 (by decide +kernel) (by decide +kernel)⟩
theorem dc_CmTerms_has_0 : decode prog_7_method_8_code 0 = .ok (.iload_n 1, 1) := by decide +kernel
theorem dc_CmTerms_has_1 : decode prog_7_method_8_code 1 = .ok (.ifCond .lt 18, 3) := by decide +kernel
theorem dc_CmTerms_has_19 : decode prog_7_method_8_code 19 = .ok (.iconst 0, 1) := by decide +kernel
theorem dc_CmTerms_has_20 : decode prog_7_method_8_code 20 = .ok (.ireturn, 1) := by decide +kernel
theorem dc_CmTerms_has_4 : decode prog_7_method_8_code 4 = .ok (.iload_n 1, 1) := by decide +kernel
theorem dc_CmTerms_has_5 : decode prog_7_method_8_code 5 = .ok (.aload_n 0, 1) := by decide +kernel
theorem dc_CmTerms_has_6 : decode prog_7_method_8_code 6 = .ok (.getfield 21, 3) := by decide +kernel
theorem fg_CmTerms_21 : zk_F "ClosureMachine$Terms" 21 1 1 := ⟨rc_1, tc_1, 4, rfl, by decide, zk_in 49 (by decide +kernel) (by decide +kernel)⟩
theorem dc_CmTerms_has_9 : decode prog_7_method_8_code 9 = .ok (.invokevirtual 35, 3) := by decide +kernel
theorem lk_CmTerms_35 : zk_LV "ClosureMachine$Terms" 35 mm_CmRows_size := ⟨zk_in 215 (by decide +kernel) (by decide +kernel), zk_in 216 (by decide +kernel) (by decide +kernel), zk_in 217 (by decide +kernel) (by decide +kernel)⟩
theorem dc_CmTerms_has_12 : decode prog_7_method_8_code 12 = .ok (.if_icmp .ge 7, 3) := by decide +kernel
abbrev mm_CmTerms_count : zk_Mt := (⟨"ClosureMachine$Terms", "count", "()I"⟩, prog_7_method_7_code, 1, (Option.some .int), 1, 20)
set_option maxRecDepth 20000 in
theorem ok_CmTerms_count : zk_Ok mm_CmTerms_count 0 := ⟨zk_in 634 rfl rfl, ⟨by decide +kernel, by decide +kernel, by decide +kernel⟩, zk_in 2 (by decide +kernel) (by decide +kernel)⟩
theorem dc_CmTerms_count_0 : decode prog_7_method_7_code 0 = .ok (.aload_n 0, 1) := by decide +kernel
theorem dc_CmTerms_count_1 : decode prog_7_method_7_code 1 = .ok (.getfield 21, 3) := by decide +kernel
theorem dc_CmTerms_count_4 : decode prog_7_method_7_code 4 = .ok (.invokevirtual 35, 3) := by decide +kernel
theorem dc_CmTerms_count_7 : decode prog_7_method_7_code 7 = .ok (.ireturn, 1) := by decide +kernel
abbrev mm_CmGlobals_at : zk_Mt := (⟨"ClosureMachine$Globals", "at", "(I)LClosureMachine$Global;"⟩, prog_3_method_3_code, 2, (Option.some (.object "ClosureMachine$Global")), 0, 0)
set_option maxRecDepth 20000 in
theorem ok_CmGlobals_at : zk_Ok mm_CmGlobals_at 1 := ⟨zk_in 201 rfl rfl, ⟨by decide +kernel, by decide +kernel, by decide +kernel⟩, zk_in 4 (by decide +kernel) (by decide +kernel)⟩
theorem dc_CmGlobals_at_0 : decode prog_3_method_3_code 0 = .ok (.iload_n 1, 1) := by decide +kernel
theorem dc_CmGlobals_at_1 : decode prog_3_method_3_code 1 = .ok (.ifCond .lt 29, 3) := by decide +kernel
theorem dc_CmGlobals_at_30 : decode prog_3_method_3_code 30 = .ok (.aconst_null, 1) := by decide +kernel
theorem dc_CmGlobals_at_31 : decode prog_3_method_3_code 31 = .ok (.areturn, 1) := by decide +kernel
theorem dc_CmGlobals_at_4 : decode prog_3_method_3_code 4 = .ok (.iload_n 1, 1) := by decide +kernel
theorem dc_CmGlobals_at_5 : decode prog_3_method_3_code 5 = .ok (.aload_n 0, 1) := by decide +kernel
theorem dc_CmGlobals_at_6 : decode prog_3_method_3_code 6 = .ok (.getfield 17, 3) := by decide +kernel
theorem fg_CmGlobals_17 : zk_F "ClosureMachine$Globals" 17 2 1 := ⟨rc_2, tc_2, 2, rfl, by decide, zk_in 70 (by decide +kernel) (by decide +kernel)⟩
theorem dc_CmGlobals_at_9 : decode prog_3_method_3_code 9 = .ok (.if_icmp .ge 21, 3) := by decide +kernel
abbrev mm_CmGlobals_ofKind : zk_Mt := (⟨"ClosureMachine$Globals", "ofKind", "(II)LClosureMachine$Global;"⟩, prog_3_method_4_code, 4, (Option.some (.object "ClosureMachine$Global")), 1, 21)
set_option maxRecDepth 20000 in
theorem ok_CmGlobals_ofKind : zk_Ok mm_CmGlobals_ofKind 2 := ⟨zk_in 205 rfl rfl, ⟨by decide +kernel, by decide +kernel, by decide +kernel⟩, zk_in 4 (by decide +kernel) (by decide +kernel)⟩
theorem dc_CmGlobals_ofKind_0 : decode prog_3_method_4_code 0 = .ok (.aload_n 0, 1) := by decide +kernel
theorem dc_CmGlobals_ofKind_1 : decode prog_3_method_4_code 1 = .ok (.iload_n 1, 1) := by decide +kernel
theorem dc_CmGlobals_ofKind_2 : decode prog_3_method_4_code 2 = .ok (.invokevirtual 21, 3) := by decide +kernel
theorem lk_CmGlobals_21 : zk_LV "ClosureMachine$Globals" 21 mm_CmGlobals_at := ⟨zk_in 206 (by decide +kernel) (by decide +kernel), zk_in 199 (by decide +kernel) (by decide +kernel), zk_in 200 (by decide +kernel) (by decide +kernel)⟩
theorem dc_CmGlobals_ofKind_5 : decode prog_3_method_4_code 5 = .ok (.astore_n 3, 1) := by decide +kernel
theorem dc_CmGlobals_ofKind_6 : decode prog_3_method_4_code 6 = .ok (.aload_n 3, 1) := by decide +kernel
theorem dc_CmGlobals_ofKind_7 : decode prog_3_method_4_code 7 = .ok (.ifnull 15, 3) := by decide +kernel
theorem dc_CmGlobals_ofKind_22 : decode prog_3_method_4_code 22 = .ok (.aconst_null, 1) := by decide +kernel
theorem dc_CmGlobals_ofKind_23 : decode prog_3_method_4_code 23 = .ok (.areturn, 1) := by decide +kernel
abbrev mm_CmGlobals_roomFor : zk_Mt := (⟨"ClosureMachine$Globals", "roomFor", "(I)Z"⟩, prog_3_method_2_code, 2, (Option.some .boolean), 0, 0)
set_option maxRecDepth 20000 in
theorem ok_CmGlobals_roomFor : zk_Ok mm_CmGlobals_roomFor 1 := ⟨zk_in 310 rfl rfl, ⟨by decide +kernel, by decide +kernel, by decide +kernel⟩, zk_in 4 (by decide +kernel) (by decide +kernel)⟩
theorem dc_CmGlobals_roomFor_0 : decode prog_3_method_2_code 0 = .ok (.iload_n 1, 1) := by decide +kernel
theorem dc_CmGlobals_roomFor_1 : decode prog_3_method_2_code 1 = .ok (.bipush 60, 2) := by decide +kernel
theorem dc_CmGlobals_roomFor_3 : decode prog_3_method_2_code 3 = .ok (.aload_n 0, 1) := by decide +kernel
theorem dc_CmGlobals_roomFor_4 : decode prog_3_method_2_code 4 = .ok (.getfield 17, 3) := by decide +kernel
theorem dc_CmGlobals_roomFor_7 : decode prog_3_method_2_code 7 = .ok (.isub, 1) := by decide +kernel
theorem dc_CmGlobals_roomFor_8 : decode prog_3_method_2_code 8 = .ok (.if_icmp .gt 7, 3) := by decide +kernel
theorem dc_CmGlobals_roomFor_15 : decode prog_3_method_2_code 15 = .ok (.iconst 0, 1) := by decide +kernel
theorem dc_CmGlobals_roomFor_16 : decode prog_3_method_2_code 16 = .ok (.ireturn, 1) := by decide +kernel
theorem dc_CmGlobals_roomFor_11 : decode prog_3_method_2_code 11 = .ok (.iconst 1, 1) := by decide +kernel
theorem dc_CmGlobals_roomFor_12 : decode prog_3_method_2_code 12 = .ok (.goto 4, 3) := by decide +kernel
abbrev mm_Cm_isUpTo : zk_Mt := (⟨"ClosureMachine", "isUpTo", "(II)Z"⟩, prog_1_method_17_code, 2, (Option.some .boolean), 0, 0)
set_option maxRecDepth 20000 in
theorem ok_Cm_isUpTo : zk_Ok mm_Cm_isUpTo 2 := ⟨zk_in 197 rfl rfl, ⟨by decide +kernel, by decide +kernel, by decide +kernel⟩, zk_in 1 (by decide +kernel) (by decide +kernel)⟩
theorem dc_Cm_isUpTo_0 : decode prog_1_method_17_code 0 = .ok (.iload_n 0, 1) := by decide +kernel
theorem dc_Cm_isUpTo_1 : decode prog_1_method_17_code 1 = .ok (.ifCond .lt 12, 3) := by decide +kernel
theorem dc_Cm_isUpTo_13 : decode prog_1_method_17_code 13 = .ok (.iconst 0, 1) := by decide +kernel
theorem dc_Cm_isUpTo_14 : decode prog_1_method_17_code 14 = .ok (.ireturn, 1) := by decide +kernel
theorem dc_Cm_isUpTo_4 : decode prog_1_method_17_code 4 = .ok (.iload_n 0, 1) := by decide +kernel
theorem dc_Cm_isUpTo_5 : decode prog_1_method_17_code 5 = .ok (.iload_n 1, 1) := by decide +kernel
theorem dc_Cm_isUpTo_6 : decode prog_1_method_17_code 6 = .ok (.if_icmp .gt 7, 3) := by decide +kernel
theorem dc_Cm_isUpTo_9 : decode prog_1_method_17_code 9 = .ok (.iconst 1, 1) := by decide +kernel
theorem dc_Cm_isUpTo_10 : decode prog_1_method_17_code 10 = .ok (.goto 4, 3) := by decide +kernel
abbrev mm_Cm_isNumber : zk_Mt := (⟨"ClosureMachine", "isNumber", "(I)Z"⟩, prog_1_method_16_code, 1, (Option.some .boolean), 1, 21)
set_option maxRecDepth 20000 in
theorem ok_Cm_isNumber : zk_Ok mm_Cm_isNumber 1 := ⟨zk_in 194 rfl rfl, ⟨by decide +kernel, by decide +kernel, by decide +kernel⟩, zk_in 1 (by decide +kernel) (by decide +kernel)⟩
theorem dc_Cm_isNumber_0 : decode prog_1_method_16_code 0 = .ok (.iload_n 0, 1) := by decide +kernel
theorem dc_Cm_isNumber_1 : decode prog_1_method_16_code 1 = .ok (.sipush 199, 3) := by decide +kernel
theorem dc_Cm_isNumber_4 : decode prog_1_method_16_code 4 = .ok (.invokestatic 112, 3) := by decide +kernel
theorem lk_Cm_112 : zk_LS "ClosureMachine" 112 mm_Cm_isUpTo := ⟨zk_in 195 (by decide +kernel) (by decide +kernel), zk_in 196 (by decide +kernel) (by decide +kernel)⟩
theorem dc_Cm_isNumber_7 : decode prog_1_method_16_code 7 = .ok (.ireturn, 1) := by decide +kernel
