theorem zk_enterB {Z : zk_Z} {μ : zk_Mt} {as : List Value} {M : zk_M} {R : Option Value → zk_M → Prop} (hp : plainName μ.1.cls = true) (hn : as.length ≤ μ.2.2.1) (hc : (as.all fun v => v.category == 1) = true) (h : zk_P Z μ 0 (as.map some ++ List.replicate (μ.2.2.1 - as.length) none) [] M R) : zk_K Z μ as M R :=
  zk_enterK hp hn (fun v hv => by simpa using List.all_eq_true.mp hc v hv) h
set_option maxHeartbeats 4000000 in
set_option maxRecDepth 100000 in
theorem ct_Rows {Z : zk_Z} {n s : Nat} {f : Nat → Option zk_E} {a : Nat} {x : Int32} (ha : f a = some (.inr (.inr (0, [.int 0, .null, .int 0])))) (hlt : a < n) : zk_Kv Z mm_CmRows_init [.ref a, .int x] (n, s, f) (fun M' => ∃ g : Nat → Option zk_E, M' = (n + 1, s + 256, g) ∧ g a = some (.inr (.inr (0, [.int x, .ref n, .int 0]))) ∧ g n = some (.inl (256, fun _ => 0)) ∧ ∀ b, b ≠ a → b ≠ n → g b = f b) := by
  refine zk_enterB (by decide) (Nat.le_of_ble_eq_true rfl) rfl ?_
  show zk_P Z mm_CmRows_init 0 [some (.ref a), some (.int x)] [] (n, s, f) _
  refine zk_aload_0 1 dc_CmRows_init_0 rfl rfl ?_
  refine zk_objInit 4 dc_CmRows_init_1 (zk_in 34 (by decide +kernel) (by decide +kernel)) (zk_in 20 (by decide +kernel) (by decide +kernel)) (zk_in 21 rfl rfl) (Nat.le_of_ble_eq_true rfl) (Nat.le_of_ble_eq_true rfl) rfl ?_
  refine zk_aload_0 5 dc_CmRows_init_4 rfl rfl ?_
  refine zk_iload_1 6 dc_CmRows_init_5 rfl rfl ?_
  refine zk_putF 9 dc_CmRows_init_6 fp_CmRows_9 (fun C T N h => by cases h; rfl) rfl ha rfl rfl (Nat.le_of_ble_eq_true rfl) rfl (fun f1 ha o1 => ?_)
  refine zk_aload_0 10 dc_CmRows_init_9 rfl rfl ?_
  refine zk_sipush (v := 256) 13 dc_CmRows_init_10 (by decide) rfl ?_
  refine zk_newiK (N := 256) 15 dc_CmRows_init_13 (zk_in 45 (by decide +kernel) (by decide +kernel)) (by decide) (by decide) (by decide) rfl (fun f2 hr o2 => ?_)
  have ha := (o2 (a) (by omega) ).trans ha
  refine zk_put 18 dc_CmRows_init_15 fp_CmRows_15 ha rfl rfl (Nat.le_of_ble_eq_true rfl) rfl (fun f3 ha o3 => ?_)
  have hr := (o3 (n) (by omega) ).trans hr
  refine zk_aload_0 19 dc_CmRows_init_18 rfl rfl ?_
  refine zk_iconst (v := 0) 20 dc_CmRows_init_19 (by decide) rfl ?_
  refine zk_put 23 dc_CmRows_init_20 fp_CmRows_19 ha rfl rfl (Nat.le_of_ble_eq_true rfl) rfl (fun f4 ha o4 => ?_)
  have hr := (o4 (n) (by omega) ).trans hr
  exact zk_return dc_CmRows_init_23 rfl ⟨rfl, _, rfl, ha, hr, fun b h1 h2 => by rw [o4 b (by omega), o3 b (by omega), o2 b (by omega), o1 b (by omega)]⟩
