theorem zk_enterB {Z : zk_Z} {μ : zk_Mt} {as : List Value} {M : zk_M} {R : Option Value → zk_M → Prop} (hp : plainName μ.1.cls = true) (hn : as.length ≤ μ.2.2.1) (hc : (as.all fun v => v.category == 1) = true) (h : zk_P Z μ 0 (as.map some ++ List.replicate (μ.2.2.1 - as.length) none) [] M R) : zk_K Z μ as M R :=
  zk_enterK hp hn (fun v hv => by simpa using List.all_eq_true.mp hc v hv) h
set_option maxHeartbeats 4000000 in
set_option maxRecDepth 100000 in
theorem ct_Rows {Z : zk_Z} {n s : Nat} {f : Nat → Option zk_E} {a : Nat} {x : Int32} (ha : f a = some (.inr (.inr (0, [.int 0, .null, .int 0])))) (hlt : a < n) : zk_Kv Z mm_CmRows_init [.ref a, .int x] (n, s, f) (fun M' => ∃ g : Nat → Option zk_E, M' = (n + 1, s + 256, g) ∧ g a = some (.inr (.inr (0, [.int x, .ref n, .int 0]))) ∧ g n = some (.inl (256, fun _ => 0)) ∧ ∀ b, b ≠ a → b ≠ n → g b = f b) := by
  refine zk_enterB (by decide) (Nat.le_of_ble_eq_true rfl) rfl ?_
  show zk_P Z mm_CmRows_init 0 [some (.ref a), some (.int x)] [] (n, s, f) _
  refine zk_aload_0 1 dc_CmRows_init_0 rfl rfl ?_
  refine zk_objInit 4 dc_CmRows_init_1 (zk_in 34 (by decide +kernel) (by decide +kernel)) (zk_in 20 (by decide +kernel) (by decide +kernel)) (zk_in 21 rfl rfl) (Nat.le_of_ble_eq_true rfl) (Nat.le_of_ble_eq_true rfl) rfl ?_
  refine zk_aload_0 5 dc_CmRows_init_4 rfl rfl ?_
  refine zk_iload_1 6 dc_CmRows_init_5 rfl rfl ?_
  refine zk_putF 9 dc_CmRows_init_6 fp_CmRows_9 (fun C T N h => by cases h; rfl) rfl ha rfl rfl (Nat.le_of_ble_eq_true rfl) rfl (fun f1 ha o1 => ?_)
  refine zk_aload_0 10 dc_CmRows_init_9 rfl rfl ?_
  refine zk_sipush (v := 256) 13 dc_CmRows_init_10 (by decide) rfl ?_
  refine zk_newiK (N := 256) 15 dc_CmRows_init_13 (zk_in 45 (by decide +kernel) (by decide +kernel)) (by decide) (by decide) (by decide) rfl (fun f2 hr o2 => ?_)
  have ha := (o2 (a) (by omega) ).trans ha
  refine zk_put 18 dc_CmRows_init_15 fp_CmRows_15 ha rfl rfl (Nat.le_of_ble_eq_true rfl) rfl (fun f3 ha o3 => ?_)
  have hr := (o3 (n) (by omega) ).trans hr
  refine zk_aload_0 19 dc_CmRows_init_18 rfl rfl ?_
  refine zk_iconst (v := 0) 20 dc_CmRows_init_19 (by decide) rfl ?_
  refine zk_put 23 dc_CmRows_init_20 fp_CmRows_19 ha rfl rfl (Nat.le_of_ble_eq_true rfl) rfl (fun f4 ha o4 => ?_)
  have hr := (o4 (n) (by omega) ).trans hr
  exact zk_return dc_CmRows_init_23 rfl ⟨rfl, _, rfl, ha, hr, fun b h1 h2 => by rw [o4 b (by omega), o3 b (by omega), o2 b (by omega), o1 b (by omega)]⟩
set_option maxHeartbeats 4000000 in
set_option maxRecDepth 100000 in
theorem ct_Terms {Z : zk_Z} {n s : Nat} {f : Nat → Option zk_E} {a : Nat} (ha : f a = some (.inr (.inr (1, [.null, .null, .null, .int 0])))) (hlt : a < n) : zk_Kv Z mm_CmTerms_init [.ref a] (n, s, f) (fun M' => ∃ g : Nat → Option zk_E, M' = (n + 6, s + 777, g) ∧ g a = some (.inr (.inr (1, [.ref n, .ref (n + 2), .ref (n + 4), .int 0]))) ∧ g n = some (.inr (.inr (0, [.int 46000, .ref (n + 1), .int 0]))) ∧ g (n + 1) = some (.inl (256, fun _ => 0)) ∧ g (n + 2) = some (.inr (.inr (0, [.int 3000, .ref (n + 2 + 1), .int 0]))) ∧ g (n + 3) = some (.inl (256, fun _ => 0)) ∧ g (n + 4) = some (.inr (.inr (0, [.int 8000, .ref (n + 4 + 1), .int 0]))) ∧ g (n + 5) = some (.inl (256, fun _ => 0)) ∧ ∀ b, b < n → b ≠ a → g b = f b) := by
  refine zk_enterB (by decide) (Nat.le_of_ble_eq_true rfl) rfl ?_
  show zk_P Z mm_CmTerms_init 0 [some (.ref a)] [] (n, s, f) _
  refine zk_aload_0 1 dc_CmTerms_init_0 rfl rfl ?_
  refine zk_objInit 4 dc_CmTerms_init_1 (zk_in 27 (by decide +kernel) (by decide +kernel)) (zk_in 20 (by decide +kernel) (by decide +kernel)) (zk_in 21 rfl rfl) (Nat.le_of_ble_eq_true rfl) (Nat.le_of_ble_eq_true rfl) rfl ?_
  refine zk_aload_0 5 dc_CmTerms_init_4 rfl rfl ?_
  refine zk_newK 8 dc_CmTerms_init_5 nw_CmTerms_11 rfl (fun f1 hq0 o1 => ?_)
  have ha := (o1 (a) (by omega) ).trans ha
  refine zk_dup 9 dc_CmTerms_init_8 rfl rfl ?_
  refine zk_ldc (v := 46000) 11 dc_CmTerms_init_9 (zk_in 30 (by decide +kernel) (by decide +kernel)) rfl ?_
  refine zk_cIv 14 (ct_Rows hq0 (by omega)) dc_CmTerms_init_11 ok_CmRows_init lk_CmTerms_14 rfl rfl ⟨Nat.le_of_ble_eq_true rfl, Nat.le_of_ble_eq_true rfl⟩ (Nat.le_of_ble_eq_true rfl) rfl (fun M1 hk => ?_)
  obtain ⟨g0, rfl, hq0, hr0, p0⟩ := hk
  have ha := (p0 (a) (by omega) (by omega) ).trans ha
  refine zk_putF 17 dc_CmTerms_init_14 fp_CmTerms_17 (fun C T N h => by cases h; rfl) rfl ha rfl rfl (Nat.le_of_ble_eq_true rfl) rfl (fun f2 ha o2 => ?_)
  have hq0 := (o2 (n) (by omega) ).trans hq0
  have hr0 := (o2 (n + 1) (by omega) ).trans hr0
  refine zk_aload_0 18 dc_CmTerms_init_17 rfl rfl ?_
  refine zk_newK 21 dc_CmTerms_init_18 nw_CmTerms_11 rfl (fun f3 hq1 o3 => ?_)
  have hq0 := (o3 (n) (by omega) ).trans hq0
  have hr0 := (o3 (n + 1) (by omega) ).trans hr0
  have ha := (o3 (a) (by omega) ).trans ha
  refine zk_dup 22 dc_CmTerms_init_21 rfl rfl ?_
  refine zk_sipush (v := 3000) 25 dc_CmTerms_init_22 (by decide) rfl ?_
  refine zk_cIv 28 (ct_Rows hq1 (by omega)) dc_CmTerms_init_25 ok_CmRows_init lk_CmTerms_14 rfl rfl ⟨Nat.le_of_ble_eq_true rfl, Nat.le_of_ble_eq_true rfl⟩ (Nat.le_of_ble_eq_true rfl) rfl (fun M1 hk => ?_)
  obtain ⟨g1, rfl, hq1, hr1, p1⟩ := hk
  have hq0 := (p1 (n) (by omega) (by omega) ).trans hq0
  have hr0 := (p1 (n + 1) (by omega) (by omega) ).trans hr0
  have ha := (p1 (a) (by omega) (by omega) ).trans ha
  refine zk_putF 31 dc_CmTerms_init_28 fp_CmTerms_21 (fun C T N h => by cases h; rfl) rfl ha rfl rfl (Nat.le_of_ble_eq_true rfl) rfl (fun f4 ha o4 => ?_)
  have hq0 := (o4 (n) (by omega) ).trans hq0
  have hr0 := (o4 (n + 1) (by omega) ).trans hr0
  have hq1 := (o4 (n + 2) (by omega) ).trans hq1
  have hr1 := (o4 (n + 2 + 1) (by omega) ).trans hr1
  refine zk_aload_0 32 dc_CmTerms_init_31 rfl rfl ?_
  refine zk_newK 35 dc_CmTerms_init_32 nw_CmTerms_11 rfl (fun f5 hq2 o5 => ?_)
  have hq0 := (o5 (n) (by omega) ).trans hq0
  have hr0 := (o5 (n + 1) (by omega) ).trans hr0
  have hq1 := (o5 (n + 2) (by omega) ).trans hq1
  have hr1 := (o5 (n + 2 + 1) (by omega) ).trans hr1
  have ha := (o5 (a) (by omega) ).trans ha
  refine zk_dup 36 dc_CmTerms_init_35 rfl rfl ?_
  refine zk_sipush (v := 8000) 39 dc_CmTerms_init_36 (by decide) rfl ?_
  refine zk_cIv 42 (ct_Rows hq2 (by omega)) dc_CmTerms_init_39 ok_CmRows_init lk_CmTerms_14 rfl rfl ⟨Nat.le_of_ble_eq_true rfl, Nat.le_of_ble_eq_true rfl⟩ (Nat.le_of_ble_eq_true rfl) rfl (fun M1 hk => ?_)
  obtain ⟨g2, rfl, hq2, hr2, p2⟩ := hk
  have hq0 := (p2 (n) (by omega) (by omega) ).trans hq0
  have hr0 := (p2 (n + 1) (by omega) (by omega) ).trans hr0
  have hq1 := (p2 (n + 2) (by omega) (by omega) ).trans hq1
  have hr1 := (p2 (n + 2 + 1) (by omega) (by omega) ).trans hr1
  have ha := (p2 (a) (by omega) (by omega) ).trans ha
  refine zk_putF 45 dc_CmTerms_init_42 fp_CmTerms_24 (fun C T N h => by cases h; rfl) rfl ha rfl rfl (Nat.le_of_ble_eq_true rfl) rfl (fun f6 ha o6 => ?_)
  have hq0 := (o6 (n) (by omega) ).trans hq0
  have hr0 := (o6 (n + 1) (by omega) ).trans hr0
  have hq1 := (o6 (n + 2) (by omega) ).trans hq1
  have hr1 := (o6 (n + 2 + 1) (by omega) ).trans hr1
  have hq2 := (o6 (n + 4) (by omega) ).trans hq2
  have hr2 := (o6 (n + 4 + 1) (by omega) ).trans hr2
  refine zk_aload_0 46 dc_CmTerms_init_45 rfl rfl ?_
  refine zk_iconst (v := 0) 47 dc_CmTerms_init_46 (by decide) rfl ?_
  refine zk_put 50 dc_CmTerms_init_47 fp_CmTerms_27 ha rfl rfl (Nat.le_of_ble_eq_true rfl) rfl (fun f7 ha o7 => ?_)
  have hq0 := (o7 (n) (by omega) ).trans hq0
  have hr0 := (o7 (n + 1) (by omega) ).trans hr0
  have hq1 := (o7 (n + 2) (by omega) ).trans hq1
  have hr1 := (o7 (n + 2 + 1) (by omega) ).trans hr1
  have hq2 := (o7 (n + 4) (by omega) ).trans hq2
  have hr2 := (o7 (n + 4 + 1) (by omega) ).trans hr2
  exact zk_return dc_CmTerms_init_50 rfl ⟨rfl, _, rfl, ha, hq0, hr0, hq1, hr1, hq2, hr2, fun b h1 h2 => by rw [o7 b (by omega), o6 b (by omega), p2 b (by omega) (by omega), o5 b (by omega), o4 b (by omega), p1 b (by omega) (by omega), o3 b (by omega), o2 b (by omega), p0 b (by omega) (by omega), o1 b (by omega)]⟩
set_option maxHeartbeats 4000000 in
set_option maxRecDepth 100000 in
theorem ct_Globals {Z : zk_Z} {n s : Nat} {f : Nat → Option zk_E} {a : Nat} (ha : f a = some (.inr (.inr (2, [.null, .int 0])))) (hlt : a < n) : zk_Kv Z mm_CmGlobals_init [.ref a] (n, s, f) (fun M' => ∃ g : Nat → Option zk_E, M' = (n + 1, s + 60, g) ∧ g a = some (.inr (.inr (2, [.ref n, .int 0]))) ∧ g n = some (.inr (.inl (1, 60, fun _ => none))) ∧ ∀ b, b < n → b ≠ a → g b = f b) := by
  refine zk_enterB (by decide) (Nat.le_of_ble_eq_true rfl) rfl ?_
  show zk_P Z mm_CmGlobals_init 0 [some (.ref a)] [] (n, s, f) _
  refine zk_aload_0 1 dc_CmGlobals_init_0 rfl rfl ?_
  refine zk_objInit 4 dc_CmGlobals_init_1 (zk_in 66 (by decide +kernel) (by decide +kernel)) (zk_in 20 (by decide +kernel) (by decide +kernel)) (zk_in 21 rfl rfl) (Nat.le_of_ble_eq_true rfl) (Nat.le_of_ble_eq_true rfl) rfl ?_
  refine zk_aload_0 5 dc_CmGlobals_init_4 rfl rfl ?_
  refine zk_bipush (v := 60) 7 dc_CmGlobals_init_5 (by decide) rfl ?_
  refine zk_newqK (t := 1) (N := 60) 10 dc_CmGlobals_init_7 (zk_in 67 (by decide +kernel) (by decide +kernel)) (List.mem_of_getElem? (i := 2) rfl) rfl (by decide) (by decide) (by decide) rfl (fun f1 hr o1 => ?_)
  have ha := (o1 (a) (by omega) ).trans ha
  refine zk_putF 13 dc_CmGlobals_init_10 fp_CmGlobals_11 (fun C T N h => by cases h; rfl) rfl ha rfl rfl (Nat.le_of_ble_eq_true rfl) rfl (fun f2 ha o2 => ?_)
  have hr := (o2 (n) (by omega) ).trans hr
  refine zk_aload_0 14 dc_CmGlobals_init_13 rfl rfl ?_
  refine zk_iconst (v := 0) 15 dc_CmGlobals_init_14 (by decide) rfl ?_
  refine zk_put 18 dc_CmGlobals_init_15 fp_CmGlobals_17 ha rfl rfl (Nat.le_of_ble_eq_true rfl) rfl (fun f3 ha o3 => ?_)
  have hr := (o3 (n) (by omega) ).trans hr
  exact zk_return dc_CmGlobals_init_18 rfl ⟨rfl, _, rfl, ha, hr, fun b h1 h2 => by rw [o3 b (by omega), o2 b (by omega), o1 b (by omega)]⟩
set_option maxHeartbeats 4000000 in
set_option maxRecDepth 100000 in
theorem ct_TypeReader {Z : zk_Z} {n s : Nat} {f : Nat → Option zk_E} {a t : Nat} (ha : f a = some (.inr (.inr (3, [.null])))) (hlt : a < n) : zk_Kv Z mm_CmTypeReader_init [.ref a, .ref t] (n, s, f) (fun M' => ∃ g : Nat → Option zk_E, M' = (n + 0, s + 0, g) ∧ g a = some (.inr (.inr (3, [.ref t]))) ∧ ∀ b, b < n → b ≠ a → g b = f b) := by
  refine zk_enterB (by decide) (Nat.le_of_ble_eq_true rfl) rfl ?_
  show zk_P Z mm_CmTypeReader_init 0 [some (.ref a), some (.ref t)] [] (n, s, f) _
  refine zk_aload_0 1 dc_CmTypeReader_init_0 rfl rfl ?_
  refine zk_objInit 4 dc_CmTypeReader_init_1 (zk_in 81 (by decide +kernel) (by decide +kernel)) (zk_in 20 (by decide +kernel) (by decide +kernel)) (zk_in 21 rfl rfl) (Nat.le_of_ble_eq_true rfl) (Nat.le_of_ble_eq_true rfl) rfl ?_
  refine zk_aload_0 5 dc_CmTypeReader_init_4 rfl rfl ?_
  refine zk_aload_1 6 dc_CmTypeReader_init_5 rfl rfl ?_
  refine zk_putF 9 dc_CmTypeReader_init_6 fp_CmTypeReader_9 (fun C T N h => by cases h; rfl) rfl ha rfl rfl (Nat.le_of_ble_eq_true rfl) rfl (fun f1 ha o1 => ?_)
  exact zk_return dc_CmTypeReader_init_9 rfl ⟨rfl, _, rfl, ha, fun b h1 h2 => by rw [o1 b (by omega)]⟩
set_option maxHeartbeats 4000000 in
set_option maxRecDepth 100000 in
theorem ct_Machine {Z : zk_Z} {n s : Nat} {f : Nat → Option zk_E} {a t u : Nat} (ha : f a = some (.inr (.inr (4, [.null, .null, .null, .null, .null, .int 0, .int 0, .int 0, .int 0, .int 0, .int 0])))) (hlt : a < n) : zk_Kv Z mm_CmMachine_init [.ref a, .ref t, .ref u] (n, s, f) (fun M' => ∃ g : Nat → Option zk_E, M' = (n + 6, s + 777, g) ∧ g a = some (.inr (.inr (4, [.ref t, .ref u, .ref n, .ref (n + 2), .ref (n + 4), .int 0, .int 0, .int 21, .int 0, .int (-1), .int (-1)]))) ∧ g n = some (.inr (.inr (0, [.int 12000, .ref (n + 1), .int 0]))) ∧ g (n + 1) = some (.inl (256, fun _ => 0)) ∧ g (n + 2) = some (.inr (.inr (0, [.int 3000, .ref (n + 2 + 1), .int 0]))) ∧ g (n + 3) = some (.inl (256, fun _ => 0)) ∧ g (n + 4) = some (.inr (.inr (0, [.int 3000, .ref (n + 4 + 1), .int 0]))) ∧ g (n + 5) = some (.inl (256, fun _ => 0)) ∧ ∀ b, b < n → b ≠ a → g b = f b) := by
  refine zk_enterB (by decide) (Nat.le_of_ble_eq_true rfl) rfl ?_
  show zk_P Z mm_CmMachine_init 0 [some (.ref a), some (.ref t), some (.ref u)] [] (n, s, f) _
  refine zk_aload_0 1 dc_CmMachine_init_0 rfl rfl ?_
  refine zk_objInit 4 dc_CmMachine_init_1 (zk_in 91 (by decide +kernel) (by decide +kernel)) (zk_in 20 (by decide +kernel) (by decide +kernel)) (zk_in 21 rfl rfl) (Nat.le_of_ble_eq_true rfl) (Nat.le_of_ble_eq_true rfl) rfl ?_
  refine zk_aload_0 5 dc_CmMachine_init_4 rfl rfl ?_
  refine zk_newK 8 dc_CmMachine_init_5 nw_CmMachine_9 rfl (fun f1 hq0 o1 => ?_)
  have ha := (o1 (a) (by omega) ).trans ha
  refine zk_dup 9 dc_CmMachine_init_8 rfl rfl ?_
  refine zk_sipush (v := 12000) 12 dc_CmMachine_init_9 (by decide) rfl ?_
  refine zk_cIv 15 (ct_Rows hq0 (by omega)) dc_CmMachine_init_12 ok_CmRows_init lk_CmMachine_13 rfl rfl ⟨Nat.le_of_ble_eq_true rfl, Nat.le_of_ble_eq_true rfl⟩ (Nat.le_of_ble_eq_true rfl) rfl (fun M1 hk => ?_)
  obtain ⟨g0, rfl, hq0, hr0, p0⟩ := hk
  have ha := (p0 (a) (by omega) (by omega) ).trans ha
  refine zk_putF 18 dc_CmMachine_init_15 fp_CmMachine_16 (fun C T N h => by cases h; rfl) rfl ha rfl rfl (Nat.le_of_ble_eq_true rfl) rfl (fun f2 ha o2 => ?_)
  have hq0 := (o2 (n) (by omega) ).trans hq0
  have hr0 := (o2 (n + 1) (by omega) ).trans hr0
  refine zk_aload_0 19 dc_CmMachine_init_18 rfl rfl ?_
  refine zk_newK 22 dc_CmMachine_init_19 nw_CmMachine_9 rfl (fun f3 hq1 o3 => ?_)
  have hq0 := (o3 (n) (by omega) ).trans hq0
  have hr0 := (o3 (n + 1) (by omega) ).trans hr0
  have ha := (o3 (a) (by omega) ).trans ha
  refine zk_dup 23 dc_CmMachine_init_22 rfl rfl ?_
  refine zk_sipush (v := 3000) 26 dc_CmMachine_init_23 (by decide) rfl ?_
  refine zk_cIv 29 (ct_Rows hq1 (by omega)) dc_CmMachine_init_26 ok_CmRows_init lk_CmMachine_13 rfl rfl ⟨Nat.le_of_ble_eq_true rfl, Nat.le_of_ble_eq_true rfl⟩ (Nat.le_of_ble_eq_true rfl) rfl (fun M1 hk => ?_)
  obtain ⟨g1, rfl, hq1, hr1, p1⟩ := hk
  have hq0 := (p1 (n) (by omega) (by omega) ).trans hq0
  have hr0 := (p1 (n + 1) (by omega) (by omega) ).trans hr0
  have ha := (p1 (a) (by omega) (by omega) ).trans ha
  refine zk_putF 32 dc_CmMachine_init_29 fp_CmMachine_20 (fun C T N h => by cases h; rfl) rfl ha rfl rfl (Nat.le_of_ble_eq_true rfl) rfl (fun f4 ha o4 => ?_)
  have hq0 := (o4 (n) (by omega) ).trans hq0
  have hr0 := (o4 (n + 1) (by omega) ).trans hr0
  have hq1 := (o4 (n + 2) (by omega) ).trans hq1
  have hr1 := (o4 (n + 2 + 1) (by omega) ).trans hr1
  refine zk_aload_0 33 dc_CmMachine_init_32 rfl rfl ?_
  refine zk_newK 36 dc_CmMachine_init_33 nw_CmMachine_9 rfl (fun f5 hq2 o5 => ?_)
  have hq0 := (o5 (n) (by omega) ).trans hq0
  have hr0 := (o5 (n + 1) (by omega) ).trans hr0
  have hq1 := (o5 (n + 2) (by omega) ).trans hq1
  have hr1 := (o5 (n + 2 + 1) (by omega) ).trans hr1
  have ha := (o5 (a) (by omega) ).trans ha
  refine zk_dup 37 dc_CmMachine_init_36 rfl rfl ?_
  refine zk_sipush (v := 3000) 40 dc_CmMachine_init_37 (by decide) rfl ?_
  refine zk_cIv 43 (ct_Rows hq2 (by omega)) dc_CmMachine_init_40 ok_CmRows_init lk_CmMachine_13 rfl rfl ⟨Nat.le_of_ble_eq_true rfl, Nat.le_of_ble_eq_true rfl⟩ (Nat.le_of_ble_eq_true rfl) rfl (fun M1 hk => ?_)
  obtain ⟨g2, rfl, hq2, hr2, p2⟩ := hk
  have hq0 := (p2 (n) (by omega) (by omega) ).trans hq0
  have hr0 := (p2 (n + 1) (by omega) (by omega) ).trans hr0
  have hq1 := (p2 (n + 2) (by omega) (by omega) ).trans hq1
  have hr1 := (p2 (n + 2 + 1) (by omega) (by omega) ).trans hr1
  have ha := (p2 (a) (by omega) (by omega) ).trans ha
  refine zk_putF 46 dc_CmMachine_init_43 fp_CmMachine_23 (fun C T N h => by cases h; rfl) rfl ha rfl rfl (Nat.le_of_ble_eq_true rfl) rfl (fun f6 ha o6 => ?_)
  have hq0 := (o6 (n) (by omega) ).trans hq0
  have hr0 := (o6 (n + 1) (by omega) ).trans hr0
  have hq1 := (o6 (n + 2) (by omega) ).trans hq1
  have hr1 := (o6 (n + 2 + 1) (by omega) ).trans hr1
  have hq2 := (o6 (n + 4) (by omega) ).trans hq2
  have hr2 := (o6 (n + 4 + 1) (by omega) ).trans hr2
  refine zk_aload_0 47 dc_CmMachine_init_46 rfl rfl ?_
  refine zk_iconst (v := 0) 48 dc_CmMachine_init_47 (by decide) rfl ?_
  refine zk_put 51 dc_CmMachine_init_48 fp_CmMachine_26 ha rfl rfl (Nat.le_of_ble_eq_true rfl) rfl (fun f7 ha o7 => ?_)
  have hq0 := (o7 (n) (by omega) ).trans hq0
  have hr0 := (o7 (n + 1) (by omega) ).trans hr0
  have hq1 := (o7 (n + 2) (by omega) ).trans hq1
  have hr1 := (o7 (n + 2 + 1) (by omega) ).trans hr1
  have hq2 := (o7 (n + 4) (by omega) ).trans hq2
  have hr2 := (o7 (n + 4 + 1) (by omega) ).trans hr2
  refine zk_aload_0 52 dc_CmMachine_init_51 rfl rfl ?_
  refine zk_iconst (v := 0) 53 dc_CmMachine_init_52 (by decide) rfl ?_
  refine zk_put 56 dc_CmMachine_init_53 fp_CmMachine_30 ha rfl rfl (Nat.le_of_ble_eq_true rfl) rfl (fun f8 ha o8 => ?_)
  have hq0 := (o8 (n) (by omega) ).trans hq0
  have hr0 := (o8 (n + 1) (by omega) ).trans hr0
  have hq1 := (o8 (n + 2) (by omega) ).trans hq1
  have hr1 := (o8 (n + 2 + 1) (by omega) ).trans hr1
  have hq2 := (o8 (n + 4) (by omega) ).trans hq2
  have hr2 := (o8 (n + 4 + 1) (by omega) ).trans hr2
  refine zk_aload_0 57 dc_CmMachine_init_56 rfl rfl ?_
  refine zk_bipush (v := 21) 59 dc_CmMachine_init_57 (by decide) rfl ?_
  refine zk_put 62 dc_CmMachine_init_59 fp_CmMachine_33 ha rfl rfl (Nat.le_of_ble_eq_true rfl) rfl (fun f9 ha o9 => ?_)
  have hq0 := (o9 (n) (by omega) ).trans hq0
  have hr0 := (o9 (n + 1) (by omega) ).trans hr0
  have hq1 := (o9 (n + 2) (by omega) ).trans hq1
  have hr1 := (o9 (n + 2 + 1) (by omega) ).trans hr1
  have hq2 := (o9 (n + 4) (by omega) ).trans hq2
  have hr2 := (o9 (n + 4 + 1) (by omega) ).trans hr2
  refine zk_aload_0 63 dc_CmMachine_init_62 rfl rfl ?_
  refine zk_iconst (v := 0) 64 dc_CmMachine_init_63 (by decide) rfl ?_
  refine zk_put 67 dc_CmMachine_init_64 fp_CmMachine_36 ha rfl rfl (Nat.le_of_ble_eq_true rfl) rfl (fun f10 ha o10 => ?_)
  have hq0 := (o10 (n) (by omega) ).trans hq0
  have hr0 := (o10 (n + 1) (by omega) ).trans hr0
  have hq1 := (o10 (n + 2) (by omega) ).trans hq1
  have hr1 := (o10 (n + 2 + 1) (by omega) ).trans hr1
  have hq2 := (o10 (n + 4) (by omega) ).trans hq2
  have hr2 := (o10 (n + 4 + 1) (by omega) ).trans hr2
  refine zk_aload_0 68 dc_CmMachine_init_67 rfl rfl ?_
  refine zk_iconst (v := -1) 69 dc_CmMachine_init_68 (by decide) rfl ?_
  refine zk_put 72 dc_CmMachine_init_69 fp_CmMachine_39 ha rfl rfl (Nat.le_of_ble_eq_true rfl) rfl (fun f11 ha o11 => ?_)
  have hq0 := (o11 (n) (by omega) ).trans hq0
  have hr0 := (o11 (n + 1) (by omega) ).trans hr0
  have hq1 := (o11 (n + 2) (by omega) ).trans hq1
  have hr1 := (o11 (n + 2 + 1) (by omega) ).trans hr1
  have hq2 := (o11 (n + 4) (by omega) ).trans hq2
  have hr2 := (o11 (n + 4 + 1) (by omega) ).trans hr2
  refine zk_aload_0 73 dc_CmMachine_init_72 rfl rfl ?_
  refine zk_iconst (v := -1) 74 dc_CmMachine_init_73 (by decide) rfl ?_
  refine zk_put 77 dc_CmMachine_init_74 fp_CmMachine_42 ha rfl rfl (Nat.le_of_ble_eq_true rfl) rfl (fun f12 ha o12 => ?_)
  have hq0 := (o12 (n) (by omega) ).trans hq0
  have hr0 := (o12 (n + 1) (by omega) ).trans hr0
  have hq1 := (o12 (n + 2) (by omega) ).trans hq1
  have hr1 := (o12 (n + 2 + 1) (by omega) ).trans hr1
  have hq2 := (o12 (n + 4) (by omega) ).trans hq2
  have hr2 := (o12 (n + 4 + 1) (by omega) ).trans hr2
  refine zk_aload_0 78 dc_CmMachine_init_77 rfl rfl ?_
  refine zk_aload_1 79 dc_CmMachine_init_78 rfl rfl ?_
  refine zk_putF 82 dc_CmMachine_init_79 fp_CmMachine_45 (fun C T N h => by cases h; rfl) rfl ha rfl rfl (Nat.le_of_ble_eq_true rfl) rfl (fun f13 ha o13 => ?_)
  have hq0 := (o13 (n) (by omega) ).trans hq0
  have hr0 := (o13 (n + 1) (by omega) ).trans hr0
  have hq1 := (o13 (n + 2) (by omega) ).trans hq1
  have hr1 := (o13 (n + 2 + 1) (by omega) ).trans hr1
  have hq2 := (o13 (n + 4) (by omega) ).trans hq2
  have hr2 := (o13 (n + 4 + 1) (by omega) ).trans hr2
  refine zk_aload_0 83 dc_CmMachine_init_82 rfl rfl ?_
  refine zk_aload_2 84 dc_CmMachine_init_83 rfl rfl ?_
  refine zk_putF 87 dc_CmMachine_init_84 fp_CmMachine_49 (fun C T N h => by cases h; rfl) rfl ha rfl rfl (Nat.le_of_ble_eq_true rfl) rfl (fun f14 ha o14 => ?_)
  have hq0 := (o14 (n) (by omega) ).trans hq0
  have hr0 := (o14 (n + 1) (by omega) ).trans hr0
  have hq1 := (o14 (n + 2) (by omega) ).trans hq1
  have hr1 := (o14 (n + 2 + 1) (by omega) ).trans hr1
  have hq2 := (o14 (n + 4) (by omega) ).trans hq2
  have hr2 := (o14 (n + 4 + 1) (by omega) ).trans hr2
  exact zk_return dc_CmMachine_init_87 rfl ⟨rfl, _, rfl, ha, hq0, hr0, hq1, hr1, hq2, hr2, fun b h1 h2 => by rw [o14 b (by omega), o13 b (by omega), o12 b (by omega), o11 b (by omega), o10 b (by omega), o9 b (by omega), o8 b (by omega), o7 b (by omega), o6 b (by omega), p2 b (by omega) (by omega), o5 b (by omega), o4 b (by omega), p1 b (by omega) (by omega), o3 b (by omega), o2 b (by omega), p0 b (by omega) (by omega), o1 b (by omega)]⟩
set_option maxHeartbeats 4000000 in
set_option maxRecDepth 100000 in
theorem ct_Reader {Z : zk_Z} {n s : Nat} {f : Nat → Option zk_E} {a t u : Nat} (ha : f a = some (.inr (.inr (5, [.null, .null, .null, .int 0, .int 0])))) (hlt : a < n) : zk_Kv Z mm_CmReader_init [.ref a, .ref t, .ref u] (n, s, f) (fun M' => ∃ g : Nat → Option zk_E, M' = (n + 2, s + 259, g) ∧ g a = some (.inr (.inr (5, [.ref t, .ref u, .ref n, .int (-1), .int 0]))) ∧ g n = some (.inr (.inr (0, [.int 6000, .ref (n + 1), .int 0]))) ∧ g (n + 1) = some (.inl (256, fun _ => 0)) ∧ ∀ b, b < n → b ≠ a → g b = f b) := by
  refine zk_enterB (by decide) (Nat.le_of_ble_eq_true rfl) rfl ?_
  show zk_P Z mm_CmReader_init 0 [some (.ref a), some (.ref t), some (.ref u)] [] (n, s, f) _
  refine zk_aload_0 1 dc_CmReader_init_0 rfl rfl ?_
  refine zk_objInit 4 dc_CmReader_init_1 (zk_in 140 (by decide +kernel) (by decide +kernel)) (zk_in 20 (by decide +kernel) (by decide +kernel)) (zk_in 21 rfl rfl) (Nat.le_of_ble_eq_true rfl) (Nat.le_of_ble_eq_true rfl) rfl ?_
  refine zk_aload_0 5 dc_CmReader_init_4 rfl rfl ?_
  refine zk_newK 8 dc_CmReader_init_5 nw_CmReader_9 rfl (fun f1 hq0 o1 => ?_)
  have ha := (o1 (a) (by omega) ).trans ha
  refine zk_dup 9 dc_CmReader_init_8 rfl rfl ?_
  refine zk_sipush (v := 6000) 12 dc_CmReader_init_9 (by decide) rfl ?_
  refine zk_cIv 15 (ct_Rows hq0 (by omega)) dc_CmReader_init_12 ok_CmRows_init lk_CmReader_11 rfl rfl ⟨Nat.le_of_ble_eq_true rfl, Nat.le_of_ble_eq_true rfl⟩ (Nat.le_of_ble_eq_true rfl) rfl (fun M1 hk => ?_)
  obtain ⟨g0, rfl, hq0, hr0, p0⟩ := hk
  have ha := (p0 (a) (by omega) (by omega) ).trans ha
  refine zk_putF 18 dc_CmReader_init_15 fp_CmReader_14 (fun C T N h => by cases h; rfl) rfl ha rfl rfl (Nat.le_of_ble_eq_true rfl) rfl (fun f2 ha o2 => ?_)
  have hq0 := (o2 (n) (by omega) ).trans hq0
  have hr0 := (o2 (n + 1) (by omega) ).trans hr0
  refine zk_aload_0 19 dc_CmReader_init_18 rfl rfl ?_
  refine zk_iconst (v := -1) 20 dc_CmReader_init_19 (by decide) rfl ?_
  refine zk_put 23 dc_CmReader_init_20 fp_CmReader_20 ha rfl rfl (Nat.le_of_ble_eq_true rfl) rfl (fun f3 ha o3 => ?_)
  have hq0 := (o3 (n) (by omega) ).trans hq0
  have hr0 := (o3 (n + 1) (by omega) ).trans hr0
  refine zk_aload_0 24 dc_CmReader_init_23 rfl rfl ?_
  refine zk_iconst (v := 0) 25 dc_CmReader_init_24 (by decide) rfl ?_
  refine zk_put 28 dc_CmReader_init_25 fp_CmReader_24 ha rfl rfl (Nat.le_of_ble_eq_true rfl) rfl (fun f4 ha o4 => ?_)
  have hq0 := (o4 (n) (by omega) ).trans hq0
  have hr0 := (o4 (n + 1) (by omega) ).trans hr0
  refine zk_aload_0 29 dc_CmReader_init_28 rfl rfl ?_
  refine zk_aload_1 30 dc_CmReader_init_29 rfl rfl ?_
  refine zk_putF 33 dc_CmReader_init_30 fp_CmReader_27 (fun C T N h => by cases h; rfl) rfl ha rfl rfl (Nat.le_of_ble_eq_true rfl) rfl (fun f5 ha o5 => ?_)
  have hq0 := (o5 (n) (by omega) ).trans hq0
  have hr0 := (o5 (n + 1) (by omega) ).trans hr0
  refine zk_aload_0 34 dc_CmReader_init_33 rfl rfl ?_
  refine zk_aload_2 35 dc_CmReader_init_34 rfl rfl ?_
  refine zk_putF 38 dc_CmReader_init_35 fp_CmReader_31 (fun C T N h => by cases h; rfl) rfl ha rfl rfl (Nat.le_of_ble_eq_true rfl) rfl (fun f6 ha o6 => ?_)
  have hq0 := (o6 (n) (by omega) ).trans hq0
  have hr0 := (o6 (n + 1) (by omega) ).trans hr0
  exact zk_return dc_CmReader_init_38 rfl ⟨rfl, _, rfl, ha, hq0, hr0, fun b h1 h2 => by rw [o6 b (by omega), o5 b (by omega), o4 b (by omega), o3 b (by omega), o2 b (by omega), p0 b (by omega) (by omega), o1 b (by omega)]⟩
set_option maxHeartbeats 4000000 in
set_option maxRecDepth 100000 in
theorem ct_Cm {Z : zk_Z} {n s : Nat} {f : Nat → Option zk_E} {a : Nat} (ha : f a = some (.inr (.inr (6, [.null, .null, .null, .null, .null, .int 0, .int 0, .int 0, .int 0])))) (hlt : a < n) : zk_Kv Z mm_Cm_init [.ref a] (n, s, f) (fun M' => ∃ g : Nat → Option zk_E, M' = (n + 20, s + 1896, g) ∧ g a = some (.inr (.inr (6, [.ref n, .ref (n + 7), .ref (n + 9), .ref (n + 10), .ref (n + 17), .int (-1), .int (-1), .int (-1), .int (-1)]))) ∧ g n = some (.inr (.inr (1, [.ref (n + 1), .ref (n + 3), .ref (n + 5), .int 0]))) ∧ g (n + 1) = some (.inr (.inr (0, [.int 46000, .ref (n + 2), .int 0]))) ∧ g (n + 2) = some (.inl (256, fun _ => 0)) ∧ g (n + 3) = some (.inr (.inr (0, [.int 3000, .ref (n + 4), .int 0]))) ∧ g (n + 4) = some (.inl (256, fun _ => 0)) ∧ g (n + 7) = some (.inr (.inr (2, [.ref (n + 8), .int 0]))) ∧ g (n + 8) = some (.inr (.inl (1, 60, fun _ => none))) ∧ ∀ b, b < n → b ≠ a → g b = f b) := by
  refine zk_enterB (by decide) (Nat.le_of_ble_eq_true rfl) rfl ?_
  show zk_P Z mm_Cm_init 0 [some (.ref a)] [] (n, s, f) _
  refine zk_aload_0 1 dc_Cm_init_0 rfl rfl ?_
  refine zk_objInit 4 dc_Cm_init_1 (zk_in 19 (by decide +kernel) (by decide +kernel)) (zk_in 20 (by decide +kernel) (by decide +kernel)) (zk_in 21 rfl rfl) (Nat.le_of_ble_eq_true rfl) (Nat.le_of_ble_eq_true rfl) rfl ?_
  refine zk_aload_0 5 dc_Cm_init_4 rfl rfl ?_
  refine zk_newK 8 dc_Cm_init_5 nw_Cm_7 rfl (fun f1 ht o1 => ?_)
  have ha := (o1 (a) (by omega) ).trans ha
  refine zk_dup 9 dc_Cm_init_8 rfl rfl ?_
  refine zk_cINv 12 (ct_Terms ht (by omega)) dc_Cm_init_9 ok_CmTerms_init lk_Cm_9 rfl rfl ⟨Nat.le_of_ble_eq_true rfl, Nat.le_of_ble_eq_true rfl⟩ (Nat.le_of_ble_eq_true rfl) rfl (fun M1 hk => ?_)
  obtain ⟨g0, rfl, ht, hq0, hr0, hq1, hr1, hq2, hr2, p0⟩ := hk
  have ha := (p0 (a) (by omega) (by omega) ).trans ha
  refine zk_putF 15 dc_Cm_init_12 fp_Cm_10 (fun C T N h => by cases h; rfl) rfl ha rfl rfl (Nat.le_of_ble_eq_true rfl) rfl (fun f2 ha o2 => ?_)
  have ht := (o2 (n) (by omega) ).trans ht
  have hq0 := (o2 (n + 1) (by omega) ).trans hq0
  have hq1 := (o2 (n + 3) (by omega) ).trans hq1
  have hq2 := (o2 (n + 5) (by omega) ).trans hq2
  have hr0 := (o2 (n + 2) (by omega) ).trans hr0
  have hr1 := (o2 (n + 4) (by omega) ).trans hr1
  have hr2 := (o2 (n + 6) (by omega) ).trans hr2
  refine zk_aload_0 16 dc_Cm_init_15 rfl rfl ?_
  refine zk_newK 19 dc_Cm_init_16 nw_Cm_16 rfl (fun f3 hg o3 => ?_)
  have ht := (o3 (n) (by omega) ).trans ht
  have hq0 := (o3 (n + 1) (by omega) ).trans hq0
  have hq1 := (o3 (n + 3) (by omega) ).trans hq1
  have hq2 := (o3 (n + 5) (by omega) ).trans hq2
  have hr0 := (o3 (n + 2) (by omega) ).trans hr0
  have hr1 := (o3 (n + 4) (by omega) ).trans hr1
  have hr2 := (o3 (n + 6) (by omega) ).trans hr2
  have ha := (o3 (a) (by omega) ).trans ha
  refine zk_dup 20 dc_Cm_init_19 rfl rfl ?_
  refine zk_cINv 23 (ct_Globals hg (by omega)) dc_Cm_init_20 ok_CmGlobals_init lk_Cm_18 rfl rfl ⟨Nat.le_of_ble_eq_true rfl, Nat.le_of_ble_eq_true rfl⟩ (Nat.le_of_ble_eq_true rfl) rfl (fun M1 hk => ?_)
  obtain ⟨g1, rfl, hg, hga, p1⟩ := hk
  have ht := (p1 (n) (by omega) (by omega) ).trans ht
  have hq0 := (p1 (n + 1) (by omega) (by omega) ).trans hq0
  have hq1 := (p1 (n + 3) (by omega) (by omega) ).trans hq1
  have hq2 := (p1 (n + 5) (by omega) (by omega) ).trans hq2
  have hr0 := (p1 (n + 2) (by omega) (by omega) ).trans hr0
  have hr1 := (p1 (n + 4) (by omega) (by omega) ).trans hr1
  have hr2 := (p1 (n + 6) (by omega) (by omega) ).trans hr2
  have ha := (p1 (a) (by omega) (by omega) ).trans ha
  refine zk_putF 26 dc_Cm_init_23 fp_Cm_19 (fun C T N h => by cases h; rfl) rfl ha rfl rfl (Nat.le_of_ble_eq_true rfl) rfl (fun f4 ha o4 => ?_)
  have ht := (o4 (n) (by omega) ).trans ht
  have hq0 := (o4 (n + 1) (by omega) ).trans hq0
  have hq1 := (o4 (n + 3) (by omega) ).trans hq1
  have hq2 := (o4 (n + 5) (by omega) ).trans hq2
  have hr0 := (o4 (n + 2) (by omega) ).trans hr0
  have hr1 := (o4 (n + 4) (by omega) ).trans hr1
  have hr2 := (o4 (n + 6) (by omega) ).trans hr2
  have hg := (o4 (n + 7) (by omega) ).trans hg
  have hga := (o4 (n + 8) (by omega) ).trans hga
  refine zk_aload_0 27 dc_Cm_init_26 rfl rfl ?_
  refine zk_newK 30 dc_Cm_init_27 nw_Cm_23 rfl (fun f5 hy o5 => ?_)
  have ht := (o5 (n) (by omega) ).trans ht
  have hq0 := (o5 (n + 1) (by omega) ).trans hq0
  have hq1 := (o5 (n + 3) (by omega) ).trans hq1
  have hq2 := (o5 (n + 5) (by omega) ).trans hq2
  have hr0 := (o5 (n + 2) (by omega) ).trans hr0
  have hr1 := (o5 (n + 4) (by omega) ).trans hr1
  have hr2 := (o5 (n + 6) (by omega) ).trans hr2
  have hg := (o5 (n + 7) (by omega) ).trans hg
  have hga := (o5 (n + 8) (by omega) ).trans hga
  have ha := (o5 (a) (by omega) ).trans ha
  refine zk_dup 31 dc_Cm_init_30 rfl rfl ?_
  refine zk_aload_0 32 dc_Cm_init_31 rfl rfl ?_
  refine zk_getfield 35 dc_Cm_init_32 fg_Cm_10 ha rfl rfl ?_
  refine zk_cIv 38 (ct_TypeReader hy (by omega)) dc_Cm_init_35 ok_CmTypeReader_init lk_Cm_25 rfl rfl ⟨Nat.le_of_ble_eq_true rfl, Nat.le_of_ble_eq_true rfl⟩ (Nat.le_of_ble_eq_true rfl) rfl (fun M1 hk => ?_)
  obtain ⟨g2, rfl, hy, p2⟩ := hk
  have ht := (p2 (n) (by omega) (by omega) ).trans ht
  have hq0 := (p2 (n + 1) (by omega) (by omega) ).trans hq0
  have hq1 := (p2 (n + 3) (by omega) (by omega) ).trans hq1
  have hq2 := (p2 (n + 5) (by omega) (by omega) ).trans hq2
  have hr0 := (p2 (n + 2) (by omega) (by omega) ).trans hr0
  have hr1 := (p2 (n + 4) (by omega) (by omega) ).trans hr1
  have hr2 := (p2 (n + 6) (by omega) (by omega) ).trans hr2
  have hg := (p2 (n + 7) (by omega) (by omega) ).trans hg
  have hga := (p2 (n + 8) (by omega) (by omega) ).trans hga
  have ha := (p2 (a) (by omega) (by omega) ).trans ha
  refine zk_putF 41 dc_Cm_init_38 fp_Cm_28 (fun C T N h => by cases h; rfl) rfl ha rfl rfl (Nat.le_of_ble_eq_true rfl) rfl (fun f6 ha o6 => ?_)
  have ht := (o6 (n) (by omega) ).trans ht
  have hq0 := (o6 (n + 1) (by omega) ).trans hq0
  have hq1 := (o6 (n + 3) (by omega) ).trans hq1
  have hq2 := (o6 (n + 5) (by omega) ).trans hq2
  have hr0 := (o6 (n + 2) (by omega) ).trans hr0
  have hr1 := (o6 (n + 4) (by omega) ).trans hr1
  have hr2 := (o6 (n + 6) (by omega) ).trans hr2
  have hg := (o6 (n + 7) (by omega) ).trans hg
  have hga := (o6 (n + 8) (by omega) ).trans hga
  have hy := (o6 (n + 9) (by omega) ).trans hy
  refine zk_aload_0 42 dc_Cm_init_41 rfl rfl ?_
  refine zk_newK 45 dc_Cm_init_42 nw_Cm_32 rfl (fun f7 hm o7 => ?_)
  have ht := (o7 (n) (by omega) ).trans ht
  have hq0 := (o7 (n + 1) (by omega) ).trans hq0
  have hq1 := (o7 (n + 3) (by omega) ).trans hq1
  have hq2 := (o7 (n + 5) (by omega) ).trans hq2
  have hr0 := (o7 (n + 2) (by omega) ).trans hr0
  have hr1 := (o7 (n + 4) (by omega) ).trans hr1
  have hr2 := (o7 (n + 6) (by omega) ).trans hr2
  have hg := (o7 (n + 7) (by omega) ).trans hg
  have hga := (o7 (n + 8) (by omega) ).trans hga
  have hy := (o7 (n + 9) (by omega) ).trans hy
  have ha := (o7 (a) (by omega) ).trans ha
  refine zk_dup 46 dc_Cm_init_45 rfl rfl ?_
  refine zk_aload_0 47 dc_Cm_init_46 rfl rfl ?_
  refine zk_getfield 50 dc_Cm_init_47 fg_Cm_10 ha rfl rfl ?_
  refine zk_aload_0 51 dc_Cm_init_50 rfl rfl ?_
  refine zk_getfield 54 dc_Cm_init_51 fg_Cm_19 ha rfl rfl ?_
  refine zk_cIv 57 (ct_Machine hm (by omega)) dc_Cm_init_54 ok_CmMachine_init lk_Cm_34 rfl rfl ⟨Nat.le_of_ble_eq_true rfl, Nat.le_of_ble_eq_true rfl⟩ (Nat.le_of_ble_eq_true rfl) rfl (fun M1 hk => ?_)
  obtain ⟨g3, rfl, hm, hq3, hr3, hq4, hr4, hq5, hr5, p3⟩ := hk
  have ht := (p3 (n) (by omega) (by omega) ).trans ht
  have hq0 := (p3 (n + 1) (by omega) (by omega) ).trans hq0
  have hq1 := (p3 (n + 3) (by omega) (by omega) ).trans hq1
  have hq2 := (p3 (n + 5) (by omega) (by omega) ).trans hq2
  have hr0 := (p3 (n + 2) (by omega) (by omega) ).trans hr0
  have hr1 := (p3 (n + 4) (by omega) (by omega) ).trans hr1
  have hr2 := (p3 (n + 6) (by omega) (by omega) ).trans hr2
  have hg := (p3 (n + 7) (by omega) (by omega) ).trans hg
  have hga := (p3 (n + 8) (by omega) (by omega) ).trans hga
  have hy := (p3 (n + 9) (by omega) (by omega) ).trans hy
  have ha := (p3 (a) (by omega) (by omega) ).trans ha
  refine zk_putF 60 dc_Cm_init_57 fp_Cm_37 (fun C T N h => by cases h; rfl) rfl ha rfl rfl (Nat.le_of_ble_eq_true rfl) rfl (fun f8 ha o8 => ?_)
  have ht := (o8 (n) (by omega) ).trans ht
  have hq0 := (o8 (n + 1) (by omega) ).trans hq0
  have hq1 := (o8 (n + 3) (by omega) ).trans hq1
  have hq2 := (o8 (n + 5) (by omega) ).trans hq2
  have hr0 := (o8 (n + 2) (by omega) ).trans hr0
  have hr1 := (o8 (n + 4) (by omega) ).trans hr1
  have hr2 := (o8 (n + 6) (by omega) ).trans hr2
  have hg := (o8 (n + 7) (by omega) ).trans hg
  have hga := (o8 (n + 8) (by omega) ).trans hga
  have hy := (o8 (n + 9) (by omega) ).trans hy
  have hm := (o8 (n + 10) (by omega) ).trans hm
  have hq3 := (o8 (n + 11) (by omega) ).trans hq3
  have hq4 := (o8 (n + 13) (by omega) ).trans hq4
  have hq5 := (o8 (n + 15) (by omega) ).trans hq5
  have hr3 := (o8 (n + 12) (by omega) ).trans hr3
  have hr4 := (o8 (n + 14) (by omega) ).trans hr4
  have hr5 := (o8 (n + 16) (by omega) ).trans hr5
  refine zk_aload_0 61 dc_Cm_init_60 rfl rfl ?_
  refine zk_newK 64 dc_Cm_init_61 nw_Cm_41 rfl (fun f9 hd o9 => ?_)
  have ht := (o9 (n) (by omega) ).trans ht
  have hq0 := (o9 (n + 1) (by omega) ).trans hq0
  have hq1 := (o9 (n + 3) (by omega) ).trans hq1
  have hq2 := (o9 (n + 5) (by omega) ).trans hq2
  have hr0 := (o9 (n + 2) (by omega) ).trans hr0
  have hr1 := (o9 (n + 4) (by omega) ).trans hr1
  have hr2 := (o9 (n + 6) (by omega) ).trans hr2
  have hg := (o9 (n + 7) (by omega) ).trans hg
  have hga := (o9 (n + 8) (by omega) ).trans hga
  have hy := (o9 (n + 9) (by omega) ).trans hy
  have hm := (o9 (n + 10) (by omega) ).trans hm
  have hq3 := (o9 (n + 11) (by omega) ).trans hq3
  have hq4 := (o9 (n + 13) (by omega) ).trans hq4
  have hq5 := (o9 (n + 15) (by omega) ).trans hq5
  have hr3 := (o9 (n + 12) (by omega) ).trans hr3
  have hr4 := (o9 (n + 14) (by omega) ).trans hr4
  have hr5 := (o9 (n + 16) (by omega) ).trans hr5
  have ha := (o9 (a) (by omega) ).trans ha
  refine zk_dup 65 dc_Cm_init_64 rfl rfl ?_
  refine zk_aload_0 66 dc_Cm_init_65 rfl rfl ?_
  refine zk_getfield 69 dc_Cm_init_66 fg_Cm_10 ha rfl rfl ?_
  refine zk_aload_0 70 dc_Cm_init_69 rfl rfl ?_
  refine zk_getfield 73 dc_Cm_init_70 fg_Cm_37 ha rfl rfl ?_
  refine zk_cIv 76 (ct_Reader hd (by omega)) dc_Cm_init_73 ok_CmReader_init lk_Cm_43 rfl rfl ⟨Nat.le_of_ble_eq_true rfl, Nat.le_of_ble_eq_true rfl⟩ (Nat.le_of_ble_eq_true rfl) rfl (fun M1 hk => ?_)
  obtain ⟨g4, rfl, hd, hq6, hr6, p4⟩ := hk
  have ht := (p4 (n) (by omega) (by omega) ).trans ht
  have hq0 := (p4 (n + 1) (by omega) (by omega) ).trans hq0
  have hq1 := (p4 (n + 3) (by omega) (by omega) ).trans hq1
  have hq2 := (p4 (n + 5) (by omega) (by omega) ).trans hq2
  have hr0 := (p4 (n + 2) (by omega) (by omega) ).trans hr0
  have hr1 := (p4 (n + 4) (by omega) (by omega) ).trans hr1
  have hr2 := (p4 (n + 6) (by omega) (by omega) ).trans hr2
  have hg := (p4 (n + 7) (by omega) (by omega) ).trans hg
  have hga := (p4 (n + 8) (by omega) (by omega) ).trans hga
  have hy := (p4 (n + 9) (by omega) (by omega) ).trans hy
  have hm := (p4 (n + 10) (by omega) (by omega) ).trans hm
  have hq3 := (p4 (n + 11) (by omega) (by omega) ).trans hq3
  have hq4 := (p4 (n + 13) (by omega) (by omega) ).trans hq4
  have hq5 := (p4 (n + 15) (by omega) (by omega) ).trans hq5
  have hr3 := (p4 (n + 12) (by omega) (by omega) ).trans hr3
  have hr4 := (p4 (n + 14) (by omega) (by omega) ).trans hr4
  have hr5 := (p4 (n + 16) (by omega) (by omega) ).trans hr5
  have ha := (p4 (a) (by omega) (by omega) ).trans ha
  refine zk_putF 79 dc_Cm_init_76 fp_Cm_46 (fun C T N h => by cases h; rfl) rfl ha rfl rfl (Nat.le_of_ble_eq_true rfl) rfl (fun f10 ha o10 => ?_)
  have ht := (o10 (n) (by omega) ).trans ht
  have hq0 := (o10 (n + 1) (by omega) ).trans hq0
  have hq1 := (o10 (n + 3) (by omega) ).trans hq1
  have hq2 := (o10 (n + 5) (by omega) ).trans hq2
  have hr0 := (o10 (n + 2) (by omega) ).trans hr0
  have hr1 := (o10 (n + 4) (by omega) ).trans hr1
  have hr2 := (o10 (n + 6) (by omega) ).trans hr2
  have hg := (o10 (n + 7) (by omega) ).trans hg
  have hga := (o10 (n + 8) (by omega) ).trans hga
  have hy := (o10 (n + 9) (by omega) ).trans hy
  have hm := (o10 (n + 10) (by omega) ).trans hm
  have hq3 := (o10 (n + 11) (by omega) ).trans hq3
  have hq4 := (o10 (n + 13) (by omega) ).trans hq4
  have hq5 := (o10 (n + 15) (by omega) ).trans hq5
  have hr3 := (o10 (n + 12) (by omega) ).trans hr3
  have hr4 := (o10 (n + 14) (by omega) ).trans hr4
  have hr5 := (o10 (n + 16) (by omega) ).trans hr5
  have hd := (o10 (n + 17) (by omega) ).trans hd
  have hq6 := (o10 (n + 18) (by omega) ).trans hq6
  have hr6 := (o10 (n + 19) (by omega) ).trans hr6
  refine zk_aload_0 80 dc_Cm_init_79 rfl rfl ?_
  refine zk_iconst (v := -1) 81 dc_Cm_init_80 (by decide) rfl ?_
  refine zk_put 84 dc_Cm_init_81 fp_Cm_50 ha rfl rfl (Nat.le_of_ble_eq_true rfl) rfl (fun f11 ha o11 => ?_)
  have ht := (o11 (n) (by omega) ).trans ht
  have hq0 := (o11 (n + 1) (by omega) ).trans hq0
  have hq1 := (o11 (n + 3) (by omega) ).trans hq1
  have hq2 := (o11 (n + 5) (by omega) ).trans hq2
  have hr0 := (o11 (n + 2) (by omega) ).trans hr0
  have hr1 := (o11 (n + 4) (by omega) ).trans hr1
  have hr2 := (o11 (n + 6) (by omega) ).trans hr2
  have hg := (o11 (n + 7) (by omega) ).trans hg
  have hga := (o11 (n + 8) (by omega) ).trans hga
  have hy := (o11 (n + 9) (by omega) ).trans hy
  have hm := (o11 (n + 10) (by omega) ).trans hm
  have hq3 := (o11 (n + 11) (by omega) ).trans hq3
  have hq4 := (o11 (n + 13) (by omega) ).trans hq4
  have hq5 := (o11 (n + 15) (by omega) ).trans hq5
  have hr3 := (o11 (n + 12) (by omega) ).trans hr3
  have hr4 := (o11 (n + 14) (by omega) ).trans hr4
  have hr5 := (o11 (n + 16) (by omega) ).trans hr5
  have hd := (o11 (n + 17) (by omega) ).trans hd
  have hq6 := (o11 (n + 18) (by omega) ).trans hq6
  have hr6 := (o11 (n + 19) (by omega) ).trans hr6
  refine zk_aload_0 85 dc_Cm_init_84 rfl rfl ?_
  refine zk_iconst (v := -1) 86 dc_Cm_init_85 (by decide) rfl ?_
  refine zk_put 89 dc_Cm_init_86 fp_Cm_54 ha rfl rfl (Nat.le_of_ble_eq_true rfl) rfl (fun f12 ha o12 => ?_)
  have ht := (o12 (n) (by omega) ).trans ht
  have hq0 := (o12 (n + 1) (by omega) ).trans hq0
  have hq1 := (o12 (n + 3) (by omega) ).trans hq1
  have hq2 := (o12 (n + 5) (by omega) ).trans hq2
  have hr0 := (o12 (n + 2) (by omega) ).trans hr0
  have hr1 := (o12 (n + 4) (by omega) ).trans hr1
  have hr2 := (o12 (n + 6) (by omega) ).trans hr2
  have hg := (o12 (n + 7) (by omega) ).trans hg
  have hga := (o12 (n + 8) (by omega) ).trans hga
  have hy := (o12 (n + 9) (by omega) ).trans hy
  have hm := (o12 (n + 10) (by omega) ).trans hm
  have hq3 := (o12 (n + 11) (by omega) ).trans hq3
  have hq4 := (o12 (n + 13) (by omega) ).trans hq4
  have hq5 := (o12 (n + 15) (by omega) ).trans hq5
  have hr3 := (o12 (n + 12) (by omega) ).trans hr3
  have hr4 := (o12 (n + 14) (by omega) ).trans hr4
  have hr5 := (o12 (n + 16) (by omega) ).trans hr5
  have hd := (o12 (n + 17) (by omega) ).trans hd
  have hq6 := (o12 (n + 18) (by omega) ).trans hq6
  have hr6 := (o12 (n + 19) (by omega) ).trans hr6
  refine zk_aload_0 90 dc_Cm_init_89 rfl rfl ?_
  refine zk_iconst (v := -1) 91 dc_Cm_init_90 (by decide) rfl ?_
  refine zk_put 94 dc_Cm_init_91 fp_Cm_57 ha rfl rfl (Nat.le_of_ble_eq_true rfl) rfl (fun f13 ha o13 => ?_)
  have ht := (o13 (n) (by omega) ).trans ht
  have hq0 := (o13 (n + 1) (by omega) ).trans hq0
  have hq1 := (o13 (n + 3) (by omega) ).trans hq1
  have hq2 := (o13 (n + 5) (by omega) ).trans hq2
  have hr0 := (o13 (n + 2) (by omega) ).trans hr0
  have hr1 := (o13 (n + 4) (by omega) ).trans hr1
  have hr2 := (o13 (n + 6) (by omega) ).trans hr2
  have hg := (o13 (n + 7) (by omega) ).trans hg
  have hga := (o13 (n + 8) (by omega) ).trans hga
  have hy := (o13 (n + 9) (by omega) ).trans hy
  have hm := (o13 (n + 10) (by omega) ).trans hm
  have hq3 := (o13 (n + 11) (by omega) ).trans hq3
  have hq4 := (o13 (n + 13) (by omega) ).trans hq4
  have hq5 := (o13 (n + 15) (by omega) ).trans hq5
  have hr3 := (o13 (n + 12) (by omega) ).trans hr3
  have hr4 := (o13 (n + 14) (by omega) ).trans hr4
  have hr5 := (o13 (n + 16) (by omega) ).trans hr5
  have hd := (o13 (n + 17) (by omega) ).trans hd
  have hq6 := (o13 (n + 18) (by omega) ).trans hq6
  have hr6 := (o13 (n + 19) (by omega) ).trans hr6
  refine zk_aload_0 95 dc_Cm_init_94 rfl rfl ?_
  refine zk_iconst (v := -1) 96 dc_Cm_init_95 (by decide) rfl ?_
  refine zk_put 99 dc_Cm_init_96 fp_Cm_60 ha rfl rfl (Nat.le_of_ble_eq_true rfl) rfl (fun f14 ha o14 => ?_)
  have ht := (o14 (n) (by omega) ).trans ht
  have hq0 := (o14 (n + 1) (by omega) ).trans hq0
  have hq1 := (o14 (n + 3) (by omega) ).trans hq1
  have hq2 := (o14 (n + 5) (by omega) ).trans hq2
  have hr0 := (o14 (n + 2) (by omega) ).trans hr0
  have hr1 := (o14 (n + 4) (by omega) ).trans hr1
  have hr2 := (o14 (n + 6) (by omega) ).trans hr2
  have hg := (o14 (n + 7) (by omega) ).trans hg
  have hga := (o14 (n + 8) (by omega) ).trans hga
  have hy := (o14 (n + 9) (by omega) ).trans hy
  have hm := (o14 (n + 10) (by omega) ).trans hm
  have hq3 := (o14 (n + 11) (by omega) ).trans hq3
  have hq4 := (o14 (n + 13) (by omega) ).trans hq4
  have hq5 := (o14 (n + 15) (by omega) ).trans hq5
  have hr3 := (o14 (n + 12) (by omega) ).trans hr3
  have hr4 := (o14 (n + 14) (by omega) ).trans hr4
  have hr5 := (o14 (n + 16) (by omega) ).trans hr5
  have hd := (o14 (n + 17) (by omega) ).trans hd
  have hq6 := (o14 (n + 18) (by omega) ).trans hq6
  have hr6 := (o14 (n + 19) (by omega) ).trans hr6
  exact zk_return dc_Cm_init_99 rfl ⟨rfl, _, rfl, ha, ht, hq0, hr0, hq1, hr1, hg, hga, fun b h1 h2 => by rw [o14 b (by omega), o13 b (by omega), o12 b (by omega), o11 b (by omega), o10 b (by omega), p4 b (by omega) (by omega), o9 b (by omega), o8 b (by omega), p3 b (by omega) (by omega), o7 b (by omega), o6 b (by omega), p2 b (by omega) (by omega), o5 b (by omega), o4 b (by omega), p1 b (by omega) (by omega), o3 b (by omega), o2 b (by omega), p0 b (by omega) (by omega), o1 b (by omega)]⟩
