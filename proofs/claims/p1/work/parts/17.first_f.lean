theorem p1_199 {x : Int32} (h : ¬ (200 : Int32) ≤ x) : x ≤ 199 := by
  rw [Int32.le_iff_toInt_le] at *
  have e1 : (200 : Int32).toInt = 200 := by decide
  have e2 : (199 : Int32).toInt = 199 := by decide
  omega
theorem p1_200 {x : Int32} (h : (200 : Int32) ≤ x) : ¬ x ≤ 199 := by
  rw [Int32.le_iff_toInt_le] at *
  have e1 : (200 : Int32).toInt = 200 := by decide
  have e2 : (199 : Int32).toInt = 199 := by decide
  omega
set_option maxHeartbeats 4000000 in
set_option maxRecDepth 100000 in
theorem m_isn {Z : zk_Z} {w s : Nat} {f : Nat → Option zk_E} {x : Int32} : zk_Kr Z mm_Mo_isNumber [.int x] (w, s, f) (fun v M' => M' = (w, s, f) ∧ (((0 ≤ x ∧ x ≤ 199) ∧ v = .int 1) ∨ (¬ (0 ≤ x ∧ x ≤ 199) ∧ v = .int 0))) := by
  refine zk_enterB (by decide) (Nat.le_of_ble_eq_true rfl) rfl ?_
  show zk_P Z mm_Mo_isNumber 0 [some (.int x)] [] (w, s, f) _
  refine zk_iload_0 1 dc_Mo_isNumber_0 rfl rfl ?_
  refine zk_if_lt 15 4 dc_Mo_isNumber_1 (by decide) rfl (fun hc => ?_) (fun hc => ?_)
  · refine zk_iconst (v := 0) 16 dc_Mo_isNumber_15 (by decide) rfl ?_
    exact zk_ireturn dc_Mo_isNumber_16 rfl (by first | rfl | decide) ⟨_, rfl, rfl, Or.inr ⟨fun q => absurd hc (Int32.not_lt.mpr q.1), rfl⟩⟩
  · refine zk_iload_0 5 dc_Mo_isNumber_4 rfl rfl ?_
    refine zk_sipush (v := 200) 8 dc_Mo_isNumber_5 (by decide) rfl ?_
    refine zk_icmp_ge 15 11 dc_Mo_isNumber_8 (by decide) rfl (fun hd => ?_) (fun hd => ?_)
    · refine zk_iconst (v := 0) 16 dc_Mo_isNumber_15 (by decide) rfl ?_
      exact zk_ireturn dc_Mo_isNumber_16 rfl (by first | rfl | decide) ⟨_, rfl, rfl, Or.inr ⟨fun q => p1_200 hd q.2, rfl⟩⟩
    · refine zk_iconst (v := 1) 12 dc_Mo_isNumber_11 (by decide) rfl ?_
      refine zk_goto 16 dc_Mo_isNumber_12 (by decide) ?_
      exact zk_ireturn dc_Mo_isNumber_16 rfl (by first | rfl | decide) ⟨_, rfl, rfl, Or.inl ⟨⟨Int32.not_lt.mp hc, p1_199 hd⟩, rfl⟩⟩
set_option maxHeartbeats 4000000 in
set_option maxRecDepth 100000 in
theorem m_isTerm {Z : zk_Z} {w s : Nat} {f : Nat → Option zk_E} {a n : Nat} (ha : f a = some (.inr (.inr (9, [.ref n, .ref (n + 5), .ref (n + 6), .ref (n + 7), .int 0, .int 0, .ref (n + 8), .ref (n + 9), .ref (n + 10), .ref (n + 11), .ref (n + 12), .ref (n + 13), .ref (n + 14), .ref (n + 15), .int 0, .ref (n + 16), .ref (n + 17), .ref (n + 18), .ref (n + 19), .int 0, .int 0, .int 0, .int 0, .int 0, .int (-1), .ref (n + 20), .ref (n + 21), .ref (n + 22), .ref (n + 23), .int 0, .ref (n + 24), .ref (n + 25), .ref (n + 26), .int 0, .ref (n + 27), .ref (n + 28), .ref (n + 29), .ref (n + 30), .int 0, .ref (n + 31), .int 0, .ref (n + 32), .int 0, .int 0, .int 0, .int 0, .int 0, .int 0])))) {x : Int32} : zk_Kr Z mm_Mo_isTerm [.ref a, .int x] (w, s, f) (fun v M' => v = .int 0 ∧ M' = (w, s, f)) := by
  refine zk_enterB (by decide) (Nat.le_of_ble_eq_true rfl) rfl ?_
  show zk_P Z mm_Mo_isTerm 0 [some (.ref a), some (.int x)] [] (w, s, f) _
  refine zk_iload_1 1 dc_Mo_isTerm_0 rfl rfl ?_
  refine zk_if_lt 16 4 dc_Mo_isTerm_1 (by decide) rfl (fun hc => ?_) (fun hc => ?_)
  · refine zk_iconst (v := 0) 17 dc_Mo_isTerm_16 (by decide) rfl ?_
    exact zk_ireturn dc_Mo_isTerm_17 rfl (by first | rfl | decide) ⟨_, rfl, rfl, rfl⟩
  · refine zk_iload_1 5 dc_Mo_isTerm_4 rfl rfl ?_
    refine zk_aload_0 6 dc_Mo_isTerm_5 rfl rfl ?_
    refine zk_getfield 9 dc_Mo_isTerm_6 fg_Mo_109 ha rfl rfl ?_
    refine zk_icmp_ge 16 12 dc_Mo_isTerm_9 (by decide) rfl (fun hx => ?_) (fun hx => by first | exact absurd hx (Int32.not_lt.mp hc) | exact absurd (Int32.not_lt.mp hc) hx)
    refine zk_iconst (v := 0) 17 dc_Mo_isTerm_16 (by decide) rfl ?_
    exact zk_ireturn dc_Mo_isTerm_17 rfl (by first | rfl | decide) ⟨_, rfl, rfl, rfl⟩
set_option maxHeartbeats 4000000 in
set_option maxRecDepth 100000 in
theorem m_isGood {Z : zk_Z} {w s : Nat} {f : Nat → Option zk_E} {a n : Nat} (ha : f a = some (.inr (.inr (9, [.ref n, .ref (n + 5), .ref (n + 6), .ref (n + 7), .int 0, .int 0, .ref (n + 8), .ref (n + 9), .ref (n + 10), .ref (n + 11), .ref (n + 12), .ref (n + 13), .ref (n + 14), .ref (n + 15), .int 0, .ref (n + 16), .ref (n + 17), .ref (n + 18), .ref (n + 19), .int 0, .int 0, .int 0, .int 0, .int 0, .int (-1), .ref (n + 20), .ref (n + 21), .ref (n + 22), .ref (n + 23), .int 0, .ref (n + 24), .ref (n + 25), .ref (n + 26), .int 0, .ref (n + 27), .ref (n + 28), .ref (n + 29), .ref (n + 30), .int 0, .ref (n + 31), .int 0, .ref (n + 32), .int 0, .int 0, .int 0, .int 0, .int 0, .int 0])))) {x y : Int32} : zk_Kr Z mm_Mo_isGood [.ref a, .int x, .int y] (w, s, f) (fun v M' => v = .int 0 ∧ M' = (w, s, f)) := by
  refine zk_enterB (by decide) (Nat.le_of_ble_eq_true rfl) rfl ?_
  show zk_P Z mm_Mo_isGood 0 [some (.ref a), some (.int x), some (.int y)] [] (w, s, f) _
  refine zk_aload_0 1 dc_Mo_isGood_0 rfl rfl ?_
  refine zk_iload_1 2 dc_Mo_isGood_1 rfl rfl ?_
  refine zk_cVr 5 (m_isTerm ha) dc_Mo_isGood_2 ok_Mo_isTerm lk_Mo_145 ha rfl rfl rfl ⟨Nat.le_of_ble_eq_true rfl, Nat.le_of_ble_eq_true rfl⟩ (Nat.le_of_ble_eq_true rfl) rfl (fun v M1 hk => ?_)
  obtain ⟨rfl, rfl⟩ := hk
  refine zk_if_eq 24 8 dc_Mo_isGood_5 (by decide) rfl (fun hx => ?_) (fun hx => by first | exact absurd hx rfl | exact absurd rfl hx)
  refine zk_iconst (v := 0) 25 dc_Mo_isGood_24 (by decide) rfl ?_
  exact zk_ireturn dc_Mo_isGood_25 rfl (by first | rfl | decide) ⟨_, rfl, rfl, rfl⟩
set_option maxHeartbeats 4000000 in
set_option maxRecDepth 100000 in
theorem r_lift {Z : zk_Z} {w s : Nat} {f : Nat → Option zk_E} {a n : Nat} (ha : f a = some (.inr (.inr (9, [.ref n, .ref (n + 5), .ref (n + 6), .ref (n + 7), .int 0, .int 0, .ref (n + 8), .ref (n + 9), .ref (n + 10), .ref (n + 11), .ref (n + 12), .ref (n + 13), .ref (n + 14), .ref (n + 15), .int 0, .ref (n + 16), .ref (n + 17), .ref (n + 18), .ref (n + 19), .int 0, .int 0, .int 0, .int 0, .int 0, .int (-1), .ref (n + 20), .ref (n + 21), .ref (n + 22), .ref (n + 23), .int 0, .ref (n + 24), .ref (n + 25), .ref (n + 26), .int 0, .ref (n + 27), .ref (n + 28), .ref (n + 29), .ref (n + 30), .int 0, .ref (n + 31), .int 0, .ref (n + 32), .int 0, .int 0, .int 0, .int 0, .int 0, .int 0]))))  {x y : Int32} : zk_Kr Z mm_Mo_lift [.ref a, .int x, .int y] (w, s, f) (fun v M' => v = .int (-1) ∧ ∃ g : Nat → Option zk_E, M' = (w, s, g)) := by
  refine zk_enterB (by decide) (Nat.le_of_ble_eq_true rfl) rfl ?_
  show zk_P Z mm_Mo_lift 0 [some (.ref a), some (.int x), some (.int y), none, none, none, none] [] (w, s, f) _
  refine zk_aload_0 1 dc_Mo_lift_0 rfl rfl ?_
  refine zk_iload_1 2 dc_Mo_lift_1 rfl rfl ?_
  refine zk_cVr 5 (m_isTerm ha) dc_Mo_lift_2 ok_Mo_isTerm lk_Mo_145 ha rfl rfl rfl ⟨Nat.le_of_ble_eq_true rfl, Nat.le_of_ble_eq_true rfl⟩ (Nat.le_of_ble_eq_true rfl) rfl (fun v M1 hk => ?_)
  obtain ⟨rfl, rfl⟩ := hk
  refine zk_if_eq 28 8 dc_Mo_lift_5 (by decide) rfl (fun hx => ?_) (fun hx => by first | exact absurd hx rfl | exact absurd rfl hx)
  refine zk_iconst (v := -1) 29 dc_Mo_lift_28 (by decide) rfl ?_
  exact zk_ireturn dc_Mo_lift_29 rfl (by first | rfl | decide) ⟨_, rfl, rfl, _, rfl⟩
set_option maxHeartbeats 4000000 in
set_option maxRecDepth 100000 in
theorem r_def {Z : zk_Z} {w s : Nat} {f : Nat → Option zk_E} {a n : Nat} (ha : f a = some (.inr (.inr (9, [.ref n, .ref (n + 5), .ref (n + 6), .ref (n + 7), .int 0, .int 0, .ref (n + 8), .ref (n + 9), .ref (n + 10), .ref (n + 11), .ref (n + 12), .ref (n + 13), .ref (n + 14), .ref (n + 15), .int 0, .ref (n + 16), .ref (n + 17), .ref (n + 18), .ref (n + 19), .int 0, .int 0, .int 0, .int 0, .int 0, .int (-1), .ref (n + 20), .ref (n + 21), .ref (n + 22), .ref (n + 23), .int 0, .ref (n + 24), .ref (n + 25), .ref (n + 26), .int 0, .ref (n + 27), .ref (n + 28), .ref (n + 29), .ref (n + 30), .int 0, .ref (n + 31), .int 0, .ref (n + 32), .int 0, .int 0, .int 0, .int 0, .int 0, .int 0]))))  {x : Int32} : zk_Kr Z mm_Mo_def [.ref a, .int x] (w, s, f) (fun v M' => v = .int (-1) ∧ ∃ g : Nat → Option zk_E, M' = (w, s, g)) := by
  refine zk_enterB (by decide) (Nat.le_of_ble_eq_true rfl) rfl ?_
  show zk_P Z mm_Mo_def 0 [some (.ref a), some (.int x)] [] (w, s, f) _
  refine zk_aload_0 1 dc_Mo_def_0 rfl rfl ?_
  refine zk_iload_1 2 dc_Mo_def_1 rfl rfl ?_
  refine zk_cVr 5 (m_isTerm ha) dc_Mo_def_2 ok_Mo_isTerm lk_Mo_145 ha rfl rfl rfl ⟨Nat.le_of_ble_eq_true rfl, Nat.le_of_ble_eq_true rfl⟩ (Nat.le_of_ble_eq_true rfl) rfl (fun v M1 hk => ?_)
  obtain ⟨rfl, rfl⟩ := hk
  refine zk_if_eq 26 8 dc_Mo_def_5 (by decide) rfl (fun hx => ?_) (fun hx => by first | exact absurd hx rfl | exact absurd rfl hx)
  refine zk_iconst (v := -1) 27 dc_Mo_def_26 (by decide) rfl ?_
  exact zk_ireturn dc_Mo_def_27 rfl (by first | rfl | decide) ⟨_, rfl, rfl, _, rfl⟩
set_option maxHeartbeats 4000000 in
set_option maxRecDepth 100000 in
theorem r_part {Z : zk_Z} {w s : Nat} {f : Nat → Option zk_E} {a n : Nat} (ha : f a = some (.inr (.inr (9, [.ref n, .ref (n + 5), .ref (n + 6), .ref (n + 7), .int 0, .int 0, .ref (n + 8), .ref (n + 9), .ref (n + 10), .ref (n + 11), .ref (n + 12), .ref (n + 13), .ref (n + 14), .ref (n + 15), .int 0, .ref (n + 16), .ref (n + 17), .ref (n + 18), .ref (n + 19), .int 0, .int 0, .int 0, .int 0, .int 0, .int (-1), .ref (n + 20), .ref (n + 21), .ref (n + 22), .ref (n + 23), .int 0, .ref (n + 24), .ref (n + 25), .ref (n + 26), .int 0, .ref (n + 27), .ref (n + 28), .ref (n + 29), .ref (n + 30), .int 0, .ref (n + 31), .int 0, .ref (n + 32), .int 0, .int 0, .int 0, .int 0, .int 0, .int 0]))))  {x y z : Int32} : zk_Kr Z mm_Mo_part [.ref a, .int x, .int y, .int z] (w, s, f) (fun v M' => v = .int (-1) ∧ ∃ g : Nat → Option zk_E, M' = (w, s, g)) := by
  refine zk_enterB (by decide) (Nat.le_of_ble_eq_true rfl) rfl ?_
  show zk_P Z mm_Mo_part 0 [some (.ref a), some (.int x), some (.int y), some (.int z), none] [] (w, s, f) _
  refine zk_aload_0 1 dc_Mo_part_0 rfl rfl ?_
  refine zk_iload_1 2 dc_Mo_part_1 rfl rfl ?_
  refine zk_cVr 5 (m_isTerm ha) dc_Mo_part_2 ok_Mo_isTerm lk_Mo_145 ha rfl rfl rfl ⟨Nat.le_of_ble_eq_true rfl, Nat.le_of_ble_eq_true rfl⟩ (Nat.le_of_ble_eq_true rfl) rfl (fun v M1 hk => ?_)
  obtain ⟨rfl, rfl⟩ := hk
  refine zk_if_eq 39 8 dc_Mo_part_5 (by decide) rfl (fun hx => ?_) (fun hx => by first | exact absurd hx rfl | exact absurd rfl hx)
  refine zk_iconst (v := -1) 40 dc_Mo_part_39 (by decide) rfl ?_
  exact zk_ireturn dc_Mo_part_40 rfl (by first | rfl | decide) ⟨_, rfl, rfl, _, rfl⟩
set_option maxHeartbeats 4000000 in
set_option maxRecDepth 100000 in
theorem r_head {Z : zk_Z} {w s : Nat} {f : Nat → Option zk_E} {a n : Nat} (ha : f a = some (.inr (.inr (9, [.ref n, .ref (n + 5), .ref (n + 6), .ref (n + 7), .int 0, .int 0, .ref (n + 8), .ref (n + 9), .ref (n + 10), .ref (n + 11), .ref (n + 12), .ref (n + 13), .ref (n + 14), .ref (n + 15), .int 0, .ref (n + 16), .ref (n + 17), .ref (n + 18), .ref (n + 19), .int 0, .int 0, .int 0, .int 0, .int 0, .int (-1), .ref (n + 20), .ref (n + 21), .ref (n + 22), .ref (n + 23), .int 0, .ref (n + 24), .ref (n + 25), .ref (n + 26), .int 0, .ref (n + 27), .ref (n + 28), .ref (n + 29), .ref (n + 30), .int 0, .ref (n + 31), .int 0, .ref (n + 32), .int 0, .int 0, .int 0, .int 0, .int 0, .int 0]))))  {x y : Int32} : zk_Kr Z mm_Mo_head [.ref a, .int x, .int y] (w, s, f) (fun v M' => v = .int (-1) ∧ ∃ g : Nat → Option zk_E, M' = (w, s, g)) := by
  refine zk_enterB (by decide) (Nat.le_of_ble_eq_true rfl) rfl ?_
  show zk_P Z mm_Mo_head 0 [some (.ref a), some (.int x), some (.int y), none] [] (w, s, f) _
  refine zk_aload_0 1 dc_Mo_head_0 rfl rfl ?_
  refine zk_iload_1 2 dc_Mo_head_1 rfl rfl ?_
  refine zk_iload_2 3 dc_Mo_head_2 rfl rfl ?_
  refine zk_cVr 6 (m_isGood ha) dc_Mo_head_3 ok_Mo_isGood lk_Mo_268 ha rfl rfl rfl ⟨Nat.le_of_ble_eq_true rfl, Nat.le_of_ble_eq_true rfl⟩ (Nat.le_of_ble_eq_true rfl) rfl (fun v M1 hk => ?_)
  obtain ⟨rfl, rfl⟩ := hk
  refine zk_if_ne 11 9 dc_Mo_head_6 (by decide) rfl (fun hx => by first | exact absurd hx (show ¬ ¬ (0 : Int32) = 0 from fun q => q rfl) | exact absurd (show ¬ ¬ (0 : Int32) = 0 from fun q => q rfl) hx) (fun hx => ?_)
  refine zk_iconst (v := -1) 10 dc_Mo_head_9 (by decide) rfl ?_
  exact zk_ireturn dc_Mo_head_10 rfl (by first | rfl | decide) ⟨_, rfl, rfl, _, rfl⟩
set_option maxHeartbeats 4000000 in
set_option maxRecDepth 100000 in
theorem r_normal {Z : zk_Z} {w s : Nat} {f : Nat → Option zk_E} {a n : Nat} (ha : f a = some (.inr (.inr (9, [.ref n, .ref (n + 5), .ref (n + 6), .ref (n + 7), .int 0, .int 0, .ref (n + 8), .ref (n + 9), .ref (n + 10), .ref (n + 11), .ref (n + 12), .ref (n + 13), .ref (n + 14), .ref (n + 15), .int 0, .ref (n + 16), .ref (n + 17), .ref (n + 18), .ref (n + 19), .int 0, .int 0, .int 0, .int 0, .int 0, .int (-1), .ref (n + 20), .ref (n + 21), .ref (n + 22), .ref (n + 23), .int 0, .ref (n + 24), .ref (n + 25), .ref (n + 26), .int 0, .ref (n + 27), .ref (n + 28), .ref (n + 29), .ref (n + 30), .int 0, .ref (n + 31), .int 0, .ref (n + 32), .int 0, .int 0, .int 0, .int 0, .int 0, .int 0]))))  {x y : Int32} : zk_Kr Z mm_Mo_normal [.ref a, .int x, .int y] (w, s, f) (fun v M' => v = .int (-1) ∧ ∃ g : Nat → Option zk_E, M' = (w, s, g)) := by
  refine zk_enterB (by decide) (Nat.le_of_ble_eq_true rfl) rfl ?_
  show zk_P Z mm_Mo_normal 0 [some (.ref a), some (.int x), some (.int y), none, none, none] [] (w, s, f) _
  refine zk_aload_0 1 dc_Mo_normal_0 rfl rfl ?_
  refine zk_iload_1 2 dc_Mo_normal_1 rfl rfl ?_
  refine zk_iload_2 3 dc_Mo_normal_2 rfl rfl ?_
  refine zk_cVr 6 (m_isGood ha) dc_Mo_normal_3 ok_Mo_isGood lk_Mo_268 ha rfl rfl rfl ⟨Nat.le_of_ble_eq_true rfl, Nat.le_of_ble_eq_true rfl⟩ (Nat.le_of_ble_eq_true rfl) rfl (fun v M1 hk => ?_)
  obtain ⟨rfl, rfl⟩ := hk
  refine zk_if_ne 11 9 dc_Mo_normal_6 (by decide) rfl (fun hx => by first | exact absurd hx (show ¬ ¬ (0 : Int32) = 0 from fun q => q rfl) | exact absurd (show ¬ ¬ (0 : Int32) = 0 from fun q => q rfl) hx) (fun hx => ?_)
  refine zk_iconst (v := -1) 10 dc_Mo_normal_9 (by decide) rfl ?_
  exact zk_ireturn dc_Mo_normal_10 rfl (by first | rfl | decide) ⟨_, rfl, rfl, _, rfl⟩
set_option maxHeartbeats 4000000 in
set_option maxRecDepth 100000 in
theorem r_cost {Z : zk_Z} {w s : Nat} {f : Nat → Option zk_E} {a n : Nat} (ha : f a = some (.inr (.inr (9, [.ref n, .ref (n + 5), .ref (n + 6), .ref (n + 7), .int 0, .int 0, .ref (n + 8), .ref (n + 9), .ref (n + 10), .ref (n + 11), .ref (n + 12), .ref (n + 13), .ref (n + 14), .ref (n + 15), .int 0, .ref (n + 16), .ref (n + 17), .ref (n + 18), .ref (n + 19), .int 0, .int 0, .int 0, .int 0, .int 0, .int (-1), .ref (n + 20), .ref (n + 21), .ref (n + 22), .ref (n + 23), .int 0, .ref (n + 24), .ref (n + 25), .ref (n + 26), .int 0, .ref (n + 27), .ref (n + 28), .ref (n + 29), .ref (n + 30), .int 0, .ref (n + 31), .int 0, .ref (n + 32), .int 0, .int 0, .int 0, .int 0, .int 0, .int 0]))))   : zk_Kr Z mm_Mo_cost [.ref a] (w, s, f) (fun v M' => v = .int (-1) ∧ ∃ g : Nat → Option zk_E, M' = (w, s, g)) := by
  refine zk_enterB (by decide) (Nat.le_of_ble_eq_true rfl) rfl ?_
  show zk_P Z mm_Mo_cost 0 [some (.ref a)] [] (w, s, f) _
  refine zk_aload_0 1 dc_Mo_cost_0 rfl rfl ?_
  refine zk_getfield 4 dc_Mo_cost_1 fg_Mo_62 ha rfl rfl ?_
  exact zk_ireturn dc_Mo_cost_4 rfl (by first | rfl | decide) ⟨_, rfl, rfl, _, rfl⟩
set_option maxHeartbeats 4000000 in
set_option maxRecDepth 100000 in
theorem r_terms {Z : zk_Z} {w s : Nat} {f : Nat → Option zk_E} {a n : Nat} (ha : f a = some (.inr (.inr (9, [.ref n, .ref (n + 5), .ref (n + 6), .ref (n + 7), .int 0, .int 0, .ref (n + 8), .ref (n + 9), .ref (n + 10), .ref (n + 11), .ref (n + 12), .ref (n + 13), .ref (n + 14), .ref (n + 15), .int 0, .ref (n + 16), .ref (n + 17), .ref (n + 18), .ref (n + 19), .int 0, .int 0, .int 0, .int 0, .int 0, .int (-1), .ref (n + 20), .ref (n + 21), .ref (n + 22), .ref (n + 23), .int 0, .ref (n + 24), .ref (n + 25), .ref (n + 26), .int 0, .ref (n + 27), .ref (n + 28), .ref (n + 29), .ref (n + 30), .int 0, .ref (n + 31), .int 0, .ref (n + 32), .int 0, .int 0, .int 0, .int 0, .int 0, .int 0]))))   : zk_Kr Z mm_Mo_terms [.ref a] (w, s, f) (fun v M' => v = .int (0) ∧ ∃ g : Nat → Option zk_E, M' = (w, s, g)) := by
  refine zk_enterB (by decide) (Nat.le_of_ble_eq_true rfl) rfl ?_
  show zk_P Z mm_Mo_terms 0 [some (.ref a)] [] (w, s, f) _
  refine zk_aload_0 1 dc_Mo_terms_0 rfl rfl ?_
  refine zk_getfield 4 dc_Mo_terms_1 fg_Mo_109 ha rfl rfl ?_
  exact zk_ireturn dc_Mo_terms_4 rfl (by first | rfl | decide) ⟨_, rfl, rfl, _, rfl⟩
set_option maxHeartbeats 4000000 in
set_option maxRecDepth 100000 in
theorem r_found {Z : zk_Z} {w s : Nat} {f : Nat → Option zk_E} {a n : Nat} (ha : f a = some (.inr (.inr (9, [.ref n, .ref (n + 5), .ref (n + 6), .ref (n + 7), .int 0, .int 0, .ref (n + 8), .ref (n + 9), .ref (n + 10), .ref (n + 11), .ref (n + 12), .ref (n + 13), .ref (n + 14), .ref (n + 15), .int 0, .ref (n + 16), .ref (n + 17), .ref (n + 18), .ref (n + 19), .int 0, .int 0, .int 0, .int 0, .int 0, .int (-1), .ref (n + 20), .ref (n + 21), .ref (n + 22), .ref (n + 23), .int 0, .ref (n + 24), .ref (n + 25), .ref (n + 26), .int 0, .ref (n + 27), .ref (n + 28), .ref (n + 29), .ref (n + 30), .int 0, .ref (n + 31), .int 0, .ref (n + 32), .int 0, .int 0, .int 0, .int 0, .int 0, .int 0]))))  {x : Int32} : zk_Kr Z mm_Mo_found [.ref a, .int x] (w, s, f) (fun v M' => v = .int (-1) ∧ ∃ g : Nat → Option zk_E, M' = (w, s, g)) := by
  refine zk_enterB (by decide) (Nat.le_of_ble_eq_true rfl) rfl ?_
  show zk_P Z mm_Mo_found 0 [some (.ref a), some (.int x)] [] (w, s, f) _
  refine zk_aload_0 1 dc_Mo_found_0 rfl rfl ?_
  refine zk_getfield 4 dc_Mo_found_1 fg_Mo_277 ha rfl rfl ?_
  refine zk_if_eq 16 7 dc_Mo_found_4 (by decide) rfl (fun hx => ?_) (fun hx => by first | exact absurd hx rfl | exact absurd rfl hx)
  refine zk_iconst (v := -1) 17 dc_Mo_found_16 (by decide) rfl ?_
  refine zk_goto 47 dc_Mo_found_17 (by decide) ?_
  exact zk_ireturn dc_Mo_found_47 rfl (by first | rfl | decide) ⟨_, rfl, rfl, _, rfl⟩
set_option maxHeartbeats 4000000 in
set_option maxRecDepth 100000 in
theorem r_join {Z : zk_Z} {w s : Nat} {f : Nat → Option zk_E} {a n : Nat} (ha : f a = some (.inr (.inr (9, [.ref n, .ref (n + 5), .ref (n + 6), .ref (n + 7), .int 0, .int 0, .ref (n + 8), .ref (n + 9), .ref (n + 10), .ref (n + 11), .ref (n + 12), .ref (n + 13), .ref (n + 14), .ref (n + 15), .int 0, .ref (n + 16), .ref (n + 17), .ref (n + 18), .ref (n + 19), .int 0, .int 0, .int 0, .int 0, .int 0, .int (-1), .ref (n + 20), .ref (n + 21), .ref (n + 22), .ref (n + 23), .int 0, .ref (n + 24), .ref (n + 25), .ref (n + 26), .int 0, .ref (n + 27), .ref (n + 28), .ref (n + 29), .ref (n + 30), .int 0, .ref (n + 31), .int 0, .ref (n + 32), .int 0, .int 0, .int 0, .int 0, .int 0, .int 0]))))  {x y z : Int32} : zk_Kr Z mm_Mo_join [.ref a, .int x, .int y, .int z] (w, s, f) (fun v M' => v = .int (-1) ∧ ∃ g : Nat → Option zk_E, M' = (w, s, g)) := by
  refine zk_enterB (by decide) (Nat.le_of_ble_eq_true rfl) rfl ?_
  show zk_P Z mm_Mo_join 0 [some (.ref a), some (.int x), some (.int y), some (.int z)] [] (w, s, f) _
  refine zk_iload_1 1 dc_Mo_join_0 rfl rfl ?_
  refine zk_iconst (v := 4) 2 dc_Mo_join_1 (by decide) rfl ?_
  refine zk_icmp_eq 11 5 dc_Mo_join_2 (by decide) rfl (fun hc => ?_) (fun hc => ?_)
  · refine zk_aload_0 12 dc_Mo_join_11 rfl rfl ?_
    refine zk_iload_2 13 dc_Mo_join_12 rfl rfl ?_
    refine zk_cVr 16 (m_isTerm ha) dc_Mo_join_13 ok_Mo_isTerm lk_Mo_145 ha rfl rfl rfl ⟨Nat.le_of_ble_eq_true rfl, Nat.le_of_ble_eq_true rfl⟩ (Nat.le_of_ble_eq_true rfl) rfl (fun v M1 hk => ?_)
    obtain ⟨rfl, rfl⟩ := hk
    refine zk_if_eq 38 19 dc_Mo_join_16 (by decide) rfl (fun hx => ?_) (fun hx => by first | exact absurd hx rfl | exact absurd rfl hx)
    refine zk_iconst (v := -1) 39 dc_Mo_join_38 (by decide) rfl ?_
    exact zk_ireturn dc_Mo_join_39 rfl (by first | rfl | decide) ⟨_, rfl, rfl, _, rfl⟩
  · refine zk_iload_1 6 dc_Mo_join_5 rfl rfl ?_
    refine zk_bipush (v := 9) 8 dc_Mo_join_6 (by decide) rfl ?_
    refine zk_icmp_ne 38 11 dc_Mo_join_8 (by decide) rfl (fun hc => ?_) (fun hc => ?_)
    · refine zk_iconst (v := -1) 39 dc_Mo_join_38 (by decide) rfl ?_
      exact zk_ireturn dc_Mo_join_39 rfl (by first | rfl | decide) ⟨_, rfl, rfl, _, rfl⟩
    · refine zk_aload_0 12 dc_Mo_join_11 rfl rfl ?_
      refine zk_iload_2 13 dc_Mo_join_12 rfl rfl ?_
      refine zk_cVr 16 (m_isTerm ha) dc_Mo_join_13 ok_Mo_isTerm lk_Mo_145 ha rfl rfl rfl ⟨Nat.le_of_ble_eq_true rfl, Nat.le_of_ble_eq_true rfl⟩ (Nat.le_of_ble_eq_true rfl) rfl (fun v M1 hk => ?_)
      obtain ⟨rfl, rfl⟩ := hk
      refine zk_if_eq 38 19 dc_Mo_join_16 (by decide) rfl (fun hx => ?_) (fun hx => by first | exact absurd hx rfl | exact absurd rfl hx)
      refine zk_iconst (v := -1) 39 dc_Mo_join_38 (by decide) rfl ?_
      exact zk_ireturn dc_Mo_join_39 rfl (by first | rfl | decide) ⟨_, rfl, rfl, _, rfl⟩
set_option maxHeartbeats 4000000 in
set_option maxRecDepth 100000 in
theorem r_binder {Z : zk_Z} {w s : Nat} {f : Nat → Option zk_E} {a n : Nat} (ha : f a = some (.inr (.inr (9, [.ref n, .ref (n + 5), .ref (n + 6), .ref (n + 7), .int 0, .int 0, .ref (n + 8), .ref (n + 9), .ref (n + 10), .ref (n + 11), .ref (n + 12), .ref (n + 13), .ref (n + 14), .ref (n + 15), .int 0, .ref (n + 16), .ref (n + 17), .ref (n + 18), .ref (n + 19), .int 0, .int 0, .int 0, .int 0, .int 0, .int (-1), .ref (n + 20), .ref (n + 21), .ref (n + 22), .ref (n + 23), .int 0, .ref (n + 24), .ref (n + 25), .ref (n + 26), .int 0, .ref (n + 27), .ref (n + 28), .ref (n + 29), .ref (n + 30), .int 0, .ref (n + 31), .int 0, .ref (n + 32), .int 0, .int 0, .int 0, .int 0, .int 0, .int 0]))))  {x y z u : Int32} : zk_Kr Z mm_Mo_binder [.ref a, .int x, .int y, .int z, .int u] (w, s, f) (fun v M' => v = .int (-1) ∧ ∃ g : Nat → Option zk_E, M' = (w, s, g)) := by
  refine zk_enterB (by decide) (Nat.le_of_ble_eq_true rfl) rfl ?_
  show zk_P Z mm_Mo_binder 0 [some (.ref a), some (.int x), some (.int y), some (.int z), some (.int u)] [] (w, s, f) _
  refine zk_iload_1 1 dc_Mo_binder_0 rfl rfl ?_
  refine zk_iconst (v := 5) 2 dc_Mo_binder_1 (by decide) rfl ?_
  refine zk_icmp_lt 51 5 dc_Mo_binder_2 (by decide) rfl (fun hc => ?_) (fun hc => ?_)
  · refine zk_iconst (v := -1) 52 dc_Mo_binder_51 (by decide) rfl ?_
    exact zk_ireturn dc_Mo_binder_52 rfl (by first | rfl | decide) ⟨_, rfl, rfl, _, rfl⟩
  · refine zk_iload_1 6 dc_Mo_binder_5 rfl rfl ?_
    refine zk_bipush (v := 7) 8 dc_Mo_binder_6 (by decide) rfl ?_
    refine zk_icmp_gt 51 11 dc_Mo_binder_8 (by decide) rfl (fun hc => ?_) (fun hc => ?_)
    · refine zk_iconst (v := -1) 52 dc_Mo_binder_51 (by decide) rfl ?_
      exact zk_ireturn dc_Mo_binder_52 rfl (by first | rfl | decide) ⟨_, rfl, rfl, _, rfl⟩
    · refine zk_iload_2 12 dc_Mo_binder_11 rfl rfl ?_
      refine zk_iconst (v := -1) 13 dc_Mo_binder_12 (by decide) rfl ?_
      refine zk_icmp_lt 51 16 dc_Mo_binder_13 (by decide) rfl (fun hc => ?_) (fun hc => ?_)
      · refine zk_iconst (v := -1) 52 dc_Mo_binder_51 (by decide) rfl ?_
        exact zk_ireturn dc_Mo_binder_52 rfl (by first | rfl | decide) ⟨_, rfl, rfl, _, rfl⟩
      · refine zk_iload_2 17 dc_Mo_binder_16 rfl rfl ?_
        refine zk_bipush (v := 100) 19 dc_Mo_binder_17 (by decide) rfl ?_
        refine zk_icmp_ge 51 22 dc_Mo_binder_19 (by decide) rfl (fun hc => ?_) (fun hc => ?_)
        · refine zk_iconst (v := -1) 52 dc_Mo_binder_51 (by decide) rfl ?_
          exact zk_ireturn dc_Mo_binder_52 rfl (by first | rfl | decide) ⟨_, rfl, rfl, _, rfl⟩
        · refine zk_aload_0 23 dc_Mo_binder_22 rfl rfl ?_
          refine zk_iload_3 24 dc_Mo_binder_23 rfl rfl ?_
          refine zk_cVr 27 (m_isTerm ha) dc_Mo_binder_24 ok_Mo_isTerm lk_Mo_145 ha rfl rfl rfl ⟨Nat.le_of_ble_eq_true rfl, Nat.le_of_ble_eq_true rfl⟩ (Nat.le_of_ble_eq_true rfl) rfl (fun v M1 hk => ?_)
          obtain ⟨rfl, rfl⟩ := hk
          refine zk_if_eq 51 30 dc_Mo_binder_27 (by decide) rfl (fun hx => ?_) (fun hx => by first | exact absurd hx rfl | exact absurd rfl hx)
          refine zk_iconst (v := -1) 52 dc_Mo_binder_51 (by decide) rfl ?_
          exact zk_ireturn dc_Mo_binder_52 rfl (by first | rfl | decide) ⟨_, rfl, rfl, _, rfl⟩
set_option maxHeartbeats 4000000 in
set_option maxRecDepth 100000 in
theorem r_constructor {Z : zk_Z} {w s : Nat} {f : Nat → Option zk_E} {a n : Nat} (ha : f a = some (.inr (.inr (9, [.ref n, .ref (n + 5), .ref (n + 6), .ref (n + 7), .int 0, .int 0, .ref (n + 8), .ref (n + 9), .ref (n + 10), .ref (n + 11), .ref (n + 12), .ref (n + 13), .ref (n + 14), .ref (n + 15), .int 0, .ref (n + 16), .ref (n + 17), .ref (n + 18), .ref (n + 19), .int 0, .int 0, .int 0, .int 0, .int 0, .int (-1), .ref (n + 20), .ref (n + 21), .ref (n + 22), .ref (n + 23), .int 0, .ref (n + 24), .ref (n + 25), .ref (n + 26), .int 0, .ref (n + 27), .ref (n + 28), .ref (n + 29), .ref (n + 30), .int 0, .ref (n + 31), .int 0, .ref (n + 32), .int 0, .int 0, .int 0, .int 0, .int 0, .int 0]))))  {x y : Int32} : zk_Kr Z mm_Mo_constructor [.ref a, .int x, .int y] (w, s, f) (fun v M' => v = .int (-1) ∧ ∃ g : Nat → Option zk_E, M' = (w, s, g)) := by
  refine zk_enterB (by decide) (Nat.le_of_ble_eq_true rfl) rfl ?_
  show zk_P Z mm_Mo_constructor 0 [some (.ref a), some (.int x), some (.int y), none, none, none, none, none, none, none] [] (w, s, f) _
  refine zk_iload_1 1 dc_Mo_constructor_0 rfl rfl ?_
  refine zk_if_lt 49 4 dc_Mo_constructor_1 (by decide) rfl (fun hc => ?_) (fun hc => ?_)
  · refine zk_iconst (v := -1) 50 dc_Mo_constructor_49 (by decide) rfl ?_
    exact zk_ireturn dc_Mo_constructor_50 rfl (by first | rfl | decide) ⟨_, rfl, rfl, _, rfl⟩
  · refine zk_iload_1 5 dc_Mo_constructor_4 rfl rfl ?_
    refine zk_aload_0 6 dc_Mo_constructor_5 rfl rfl ?_
    refine zk_getfield 9 dc_Mo_constructor_6 fg_Mo_120 ha rfl rfl ?_
    refine zk_icmp_ge 49 12 dc_Mo_constructor_9 (by decide) rfl (fun hx => ?_) (fun hx => by first | exact absurd hx (Int32.not_lt.mp hc) | exact absurd (Int32.not_lt.mp hc) hx)
    refine zk_iconst (v := -1) 50 dc_Mo_constructor_49 (by decide) rfl ?_
    exact zk_ireturn dc_Mo_constructor_50 rfl (by first | rfl | decide) ⟨_, rfl, rfl, _, rfl⟩
set_option maxHeartbeats 4000000 in
set_option maxRecDepth 100000 in
theorem m_isRoom {Z : zk_Z} {w s : Nat} {f : Nat → Option zk_E} {a n : Nat} (ha : f a = some (.inr (.inr (9, [.ref n, .ref (n + 5), .ref (n + 6), .ref (n + 7), .int 0, .int 0, .ref (n + 8), .ref (n + 9), .ref (n + 10), .ref (n + 11), .ref (n + 12), .ref (n + 13), .ref (n + 14), .ref (n + 15), .int 0, .ref (n + 16), .ref (n + 17), .ref (n + 18), .ref (n + 19), .int 0, .int 0, .int 0, .int 0, .int 0, .int (-1), .ref (n + 20), .ref (n + 21), .ref (n + 22), .ref (n + 23), .int 0, .ref (n + 24), .ref (n + 25), .ref (n + 26), .int 0, .ref (n + 27), .ref (n + 28), .ref (n + 29), .ref (n + 30), .int 0, .ref (n + 31), .int 0, .ref (n + 32), .int 0, .int 0, .int 0, .int 0, .int 0, .int 0])))) : zk_Kr Z mm_Mo_isRoom [.ref a, .int 1] (w, s, f) (fun v M' => v = .int 1 ∧ M' = (w, s, f)) := by
  refine zk_enterB (by decide) (Nat.le_of_ble_eq_true rfl) rfl ?_
  show zk_P Z mm_Mo_isRoom 0 [some (.ref a), some (.int 1)] [] (w, s, f) _
  refine zk_aload_0 1 dc_Mo_isRoom_0 rfl rfl ?_
  refine zk_getfield 4 dc_Mo_isRoom_1 fg_Mo_109 ha rfl rfl ?_
  refine zk_sipush (v := 3000) 7 dc_Mo_isRoom_4 (by decide) rfl ?_
  refine zk_icmp_ge 32 10 dc_Mo_isRoom_7 (by decide) rfl (fun hx => by first | exact absurd hx (show ¬ (3000 : Int32) ≤ 0 by decide) | exact absurd (show ¬ (3000 : Int32) ≤ 0 by decide) hx) (fun hx => ?_)
  refine zk_iload_1 11 dc_Mo_isRoom_10 rfl rfl ?_
  refine zk_sipush (v := 2000) 14 dc_Mo_isRoom_11 (by decide) rfl ?_
  refine zk_icmp_gt 32 17 dc_Mo_isRoom_14 (by decide) rfl (fun hx => by first | exact absurd hx (show ¬ (2000 : Int32) < 1 by decide) | exact absurd (show ¬ (2000 : Int32) < 1 by decide) hx) (fun hx => ?_)
  refine zk_aload_0 18 dc_Mo_isRoom_17 rfl rfl ?_
  refine zk_getfield 21 dc_Mo_isRoom_18 fg_Mo_112 ha rfl rfl ?_
  refine zk_iload_1 22 dc_Mo_isRoom_21 rfl rfl ?_
  refine zk_iadd 23 dc_Mo_isRoom_22 rfl ?_
  refine zk_ldc (v := 40000) 25 dc_Mo_isRoom_23 (zk_in 846 (by decide +kernel) (by decide +kernel)) rfl ?_
  refine zk_icmp_gt 32 28 dc_Mo_isRoom_25 (by decide) rfl (fun hx => by first | exact absurd hx (show ¬ (40000 : Int32) < 0 + 1 by decide) | exact absurd (show ¬ (40000 : Int32) < 0 + 1 by decide) hx) (fun hx => ?_)
  refine zk_iconst (v := 1) 29 dc_Mo_isRoom_28 (by decide) rfl ?_
  refine zk_goto 33 dc_Mo_isRoom_29 (by decide) ?_
  exact zk_ireturn dc_Mo_isRoom_33 rfl (by first | rfl | decide) ⟨_, rfl, rfl, rfl⟩
set_option maxHeartbeats 4000000 in
set_option maxRecDepth 100000 in
theorem m_term {Z : zk_Z} {w s : Nat} {f : Nat → Option zk_E} {a n : Nat} (ha : f a = some (.inr (.inr (9, [.ref n, .ref (n + 5), .ref (n + 6), .ref (n + 7), .int 0, .int 0, .ref (n + 8), .ref (n + 9), .ref (n + 10), .ref (n + 11), .ref (n + 12), .ref (n + 13), .ref (n + 14), .ref (n + 15), .int 0, .ref (n + 16), .ref (n + 17), .ref (n + 18), .ref (n + 19), .int 0, .int 0, .int 0, .int 0, .int 0, .int (-1), .ref (n + 20), .ref (n + 21), .ref (n + 22), .ref (n + 23), .int 0, .ref (n + 24), .ref (n + 25), .ref (n + 26), .int 0, .ref (n + 27), .ref (n + 28), .ref (n + 29), .ref (n + 30), .int 0, .ref (n + 31), .int 0, .ref (n + 32), .int 0, .int 0, .int 0, .int 0, .int 0, .int 0])))) (c5 : f (n + 5) = some (.inl (3000, fun _ => 0))) (c6 : f (n + 6) = some (.inl (3000, fun _ => 0))) (c7 : f (n + 7) = some (.inl (3000, fun _ => 0))) (hlt : a < n) {x y z : Int32} : zk_Kr Z mm_Mo_term [.ref a, .int x, .int y, .int z] (w, s, f) (fun v M' => v = .int (0) ∧ ∃ g : Nat → Option zk_E, M' = (w, s, g)) := by
  refine zk_enterB (by decide) (Nat.le_of_ble_eq_true rfl) rfl ?_
  show zk_P Z mm_Mo_term 0 [some (.ref a), some (.int x), some (.int y), some (.int z)] [] (w, s, f) _
  refine zk_aload_0 1 dc_Mo_term_0 rfl rfl ?_
  refine zk_getfield 4 dc_Mo_term_1 fg_Mo_16 ha rfl rfl ?_
  refine zk_aload_0 5 dc_Mo_term_4 rfl rfl ?_
  refine zk_getfield 8 dc_Mo_term_5 fg_Mo_109 ha rfl rfl ?_
  refine zk_iload_1 9 dc_Mo_term_8 rfl rfl ?_
  refine zk_iastoreK 10 dc_Mo_term_9 c5 (show vp_in (0 : Int32) 3000 by unfold vp_in; decide) rfl (fun f1 c5 o1 => ?_)
  have ha := (o1 (a) (by omega) ).trans ha
  have c6 := (o1 (n + 6) (by omega) ).trans c6
  have c7 := (o1 (n + 7) (by omega) ).trans c7
  refine zk_aload_0 11 dc_Mo_term_10 rfl rfl ?_
  refine zk_getfield 14 dc_Mo_term_11 fg_Mo_20 ha rfl rfl ?_
  refine zk_aload_0 15 dc_Mo_term_14 rfl rfl ?_
  refine zk_getfield 18 dc_Mo_term_15 fg_Mo_109 ha rfl rfl ?_
  refine zk_iload_2 19 dc_Mo_term_18 rfl rfl ?_
  refine zk_iastoreK 20 dc_Mo_term_19 c6 (show vp_in (0 : Int32) 3000 by unfold vp_in; decide) rfl (fun f2 c6 o2 => ?_)
  have ha := (o2 (a) (by omega) ).trans ha
  have c7 := (o2 (n + 7) (by omega) ).trans c7
  have c5 := (o2 (n + 5) (by omega) ).trans c5
  refine zk_aload_0 21 dc_Mo_term_20 rfl rfl ?_
  refine zk_getfield 24 dc_Mo_term_21 fg_Mo_23 ha rfl rfl ?_
  refine zk_aload_0 25 dc_Mo_term_24 rfl rfl ?_
  refine zk_getfield 28 dc_Mo_term_25 fg_Mo_109 ha rfl rfl ?_
  refine zk_iload_3 29 dc_Mo_term_28 rfl rfl ?_
  refine zk_iastoreK 30 dc_Mo_term_29 c7 (show vp_in (0 : Int32) 3000 by unfold vp_in; decide) rfl (fun f3 c7 o3 => ?_)
  have ha := (o3 (a) (by omega) ).trans ha
  have c5 := (o3 (n + 5) (by omega) ).trans c5
  have c6 := (o3 (n + 6) (by omega) ).trans c6
  refine zk_aload_0 31 dc_Mo_term_30 rfl rfl ?_
  refine zk_dup 32 dc_Mo_term_31 rfl rfl ?_
  refine zk_getfield 35 dc_Mo_term_32 fg_Mo_112 ha rfl rfl ?_
  refine zk_iload_2 36 dc_Mo_term_35 rfl rfl ?_
  refine zk_iadd 37 dc_Mo_term_36 rfl ?_
  refine zk_put 40 dc_Mo_term_37 fp_Mo_112 ha rfl rfl (Nat.le_of_ble_eq_true rfl) rfl (fun f4 ha o4 => ?_)
  have c5 := (o4 (n + 5) (by omega) ).trans c5
  have c6 := (o4 (n + 6) (by omega) ).trans c6
  have c7 := (o4 (n + 7) (by omega) ).trans c7
  refine zk_aload_0 41 dc_Mo_term_40 rfl rfl ?_
  refine zk_dup 42 dc_Mo_term_41 rfl rfl ?_
  refine zk_getfield 45 dc_Mo_term_42 fg_Mo_109 ha rfl rfl ?_
  refine zk_iconst (v := 1) 46 dc_Mo_term_45 (by decide) rfl ?_
  refine zk_iadd 47 dc_Mo_term_46 rfl ?_
  refine zk_put 50 dc_Mo_term_47 fp_Mo_109 ha rfl rfl (Nat.le_of_ble_eq_true rfl) rfl (fun f5 ha o5 => ?_)
  have c5 := (o5 (n + 5) (by omega) ).trans c5
  have c6 := (o5 (n + 6) (by omega) ).trans c6
  have c7 := (o5 (n + 7) (by omega) ).trans c7
  refine zk_aload_0 51 dc_Mo_term_50 rfl rfl ?_
  refine zk_getfield 54 dc_Mo_term_51 fg_Mo_109 ha rfl rfl ?_
  refine zk_iconst (v := 1) 55 dc_Mo_term_54 (by decide) rfl ?_
  refine zk_isub 56 dc_Mo_term_55 rfl ?_
  exact zk_ireturn dc_Mo_term_56 rfl (by first | rfl | decide) ⟨_, rfl, by decide, _, rfl⟩
set_option maxHeartbeats 4000000 in
set_option maxRecDepth 100000 in
theorem r_leaf {Z : zk_Z} {w s : Nat} {f : Nat → Option zk_E} {a n : Nat} (ha : f a = some (.inr (.inr (9, [.ref n, .ref (n + 5), .ref (n + 6), .ref (n + 7), .int 0, .int 0, .ref (n + 8), .ref (n + 9), .ref (n + 10), .ref (n + 11), .ref (n + 12), .ref (n + 13), .ref (n + 14), .ref (n + 15), .int 0, .ref (n + 16), .ref (n + 17), .ref (n + 18), .ref (n + 19), .int 0, .int 0, .int 0, .int 0, .int 0, .int (-1), .ref (n + 20), .ref (n + 21), .ref (n + 22), .ref (n + 23), .int 0, .ref (n + 24), .ref (n + 25), .ref (n + 26), .int 0, .ref (n + 27), .ref (n + 28), .ref (n + 29), .ref (n + 30), .int 0, .ref (n + 31), .int 0, .ref (n + 32), .int 0, .int 0, .int 0, .int 0, .int 0, .int 0])))) {gk gv gs gl : Nat → Int32} (hr : f n = some (.inr (.inr (8, [.ref (n + 1), .ref (n + 2), .ref (n + 3), .ref (n + 4), .int (nI 2201)])))) (hk : f (n + 1) = some (.inl (4096, gk))) (hv : f (n + 2) = some (.inl (4096, gv))) (hs : f (n + 3) = some (.inl (4096, gs))) (hl : f (n + 4) = some (.inl (4096, gl))) (c5 : f (n + 5) = some (.inl (3000, fun _ => 0))) (c6 : f (n + 6) = some (.inl (3000, fun _ => 0))) (c7 : f (n + 7) = some (.inl (3000, fun _ => 0))) (hlt : a < n) {x y z : Int32} : zk_Kr Z mm_Mo_leaf [.ref a, .int x, .int y, .int z] (w, s, f) (fun v M' => v = .int (p1_leaf x y z) ∧ ∃ g : Nat → Option zk_E, M' = (w, s, g)) := by
  refine zk_enterB (by decide) (Nat.le_of_ble_eq_true rfl) rfl ?_
  show zk_P Z mm_Mo_leaf 0 [some (.ref a), some (.int x), some (.int y), some (.int z), none] [] (w, s, f) _
  refine zk_iload_1 1 dc_Mo_leaf_0 rfl rfl ?_
  refine zk_if_eq 9 4 dc_Mo_leaf_1 (by decide) rfl (fun ha0 => ?_) (fun ha0 => ?_)
  · refine zk_iload_2 10 dc_Mo_leaf_9 rfl rfl ?_
    refine zk_cSr 13 (m_isn) dc_Mo_leaf_10 ok_Mo_isNumber lk_Mo_116 rfl rfl ⟨Nat.le_of_ble_eq_true rfl, Nat.le_of_ble_eq_true rfl⟩ (Nat.le_of_ble_eq_true rfl) rfl (fun v M1 hk => ?_)
    obtain ⟨rfl, hk0⟩ := hk
    rcases hk0 with ⟨h1, rfl⟩ | ⟨h1, rfl⟩
    · refine zk_goto 43 dc_Mo_leaf_13 (by decide) ?_
      refine zk_istore_4 45 dc_Mo_leaf_43 (Nat.le_of_ble_eq_true rfl) rfl ?_
      refine zk_iload 47 dc_Mo_leaf_45 rfl rfl ?_
      refine zk_if_eq 83 50 dc_Mo_leaf_47 (by decide) rfl (fun hx => by first | exact absurd hx (show ¬ (1 : Int32) = 0 by decide) | exact absurd (show ¬ (1 : Int32) = 0 by decide) hx) (fun hx => ?_)
      refine zk_iload_1 51 dc_Mo_leaf_50 rfl rfl ?_
      refine zk_iconst (v := 3) 52 dc_Mo_leaf_51 (by decide) rfl ?_
      refine zk_icmp_ne 75 55 dc_Mo_leaf_52 (by decide) rfl (fun hx => ?_) (fun hx => by first | exact absurd hx (show ¬ x = 3 by rw [ha0]; decide) | exact absurd (show ¬ x = 3 by rw [ha0]; decide) hx)
      refine zk_iload_3 76 dc_Mo_leaf_75 rfl rfl ?_
      refine zk_if_ne 83 79 dc_Mo_leaf_76 (by decide) rfl (fun hz => ?_) (fun hz => ?_)
      · refine zk_iconst (v := 0) 84 dc_Mo_leaf_83 (by decide) rfl ?_
        refine zk_istore_4 86 dc_Mo_leaf_84 (Nat.le_of_ble_eq_true rfl) rfl ?_
        refine zk_iload 88 dc_Mo_leaf_86 rfl rfl ?_
        refine zk_if_eq 128 91 dc_Mo_leaf_88 (by decide) rfl (fun hx => ?_) (fun hx => by first | exact absurd hx rfl | exact absurd rfl hx)
        refine zk_iconst (v := -1) 129 dc_Mo_leaf_128 (by decide) rfl ?_
        have hp : p1_leaf x y z = -1 := by rw [p1_leaf, if_neg (fun q => hz q.2.2)]
        exact zk_ireturn dc_Mo_leaf_129 rfl (by first | rfl | decide) ⟨_, rfl, congrArg Value.int hp.symm, _, rfl⟩
      · refine zk_iconst (v := 1) 80 dc_Mo_leaf_79 (by decide) rfl ?_
        refine zk_goto 84 dc_Mo_leaf_80 (by decide) ?_
        refine zk_istore_4 86 dc_Mo_leaf_84 (Nat.le_of_ble_eq_true rfl) rfl ?_
        refine zk_iload 88 dc_Mo_leaf_86 rfl rfl ?_
        refine zk_if_eq 128 91 dc_Mo_leaf_88 (by decide) rfl (fun hx => by first | exact absurd hx (show ¬ (1 : Int32) = 0 by decide) | exact absurd (show ¬ (1 : Int32) = 0 by decide) hx) (fun hx => ?_)
        refine zk_aload_0 92 dc_Mo_leaf_91 rfl rfl ?_
        refine zk_iconst (v := 1) 93 dc_Mo_leaf_92 (by decide) rfl ?_
        refine zk_cVr 96 (m_isRoom ha) dc_Mo_leaf_93 ok_Mo_isRoom lk_Mo_123 ha rfl rfl rfl ⟨Nat.le_of_ble_eq_true rfl, Nat.le_of_ble_eq_true rfl⟩ (Nat.le_of_ble_eq_true rfl) rfl (fun v M1 hk => ?_)
        obtain ⟨rfl, rfl⟩ := hk
        refine zk_if_eq 128 99 dc_Mo_leaf_96 (by decide) rfl (fun hx => by first | exact absurd hx (show ¬ (1 : Int32) = 0 by decide) | exact absurd (show ¬ (1 : Int32) = 0 by decide) hx) (fun hx => ?_)
        refine zk_aload_0 100 dc_Mo_leaf_99 rfl rfl ?_
        refine zk_aload_0 101 dc_Mo_leaf_100 rfl rfl ?_
        refine zk_getfield 104 dc_Mo_leaf_101 fg_Mo_10 ha rfl rfl ?_
        refine zk_iload_1 105 dc_Mo_leaf_104 rfl rfl ?_
        refine zk_iload_2 106 dc_Mo_leaf_105 rfl rfl ?_
        refine zk_iload_3 107 dc_Mo_leaf_106 rfl rfl ?_
        refine zk_cVr 110 (ct_Radd hr hk hv hs hl (by decide)) dc_Mo_leaf_107 ok_MoRows_add lk_Mo_105 hr rfl rfl rfl ⟨Nat.le_of_ble_eq_true rfl, Nat.le_of_ble_eq_true rfl⟩ (Nat.le_of_ble_eq_true rfl) rfl (fun v M1 hk => ?_)
        obtain ⟨g, gk, gv, gs, gl, rfl, rfl, -, -, -, -, -, p⟩ := hk
        have ha := (p (a) (by omega) ).trans ha
        have c5 := (p (n + 5) (by omega) ).trans c5
        have c6 := (p (n + 6) (by omega) ).trans c6
        have c7 := (p (n + 7) (by omega) ).trans c7
        refine zk_iconst (v := 1) 111 dc_Mo_leaf_110 (by decide) rfl ?_
        refine zk_iload_1 112 dc_Mo_leaf_111 rfl rfl ?_
        refine zk_if_ne 121 115 dc_Mo_leaf_112 (by decide) rfl (fun hy => ?_) (fun hy => ?_)
        · refine zk_iconst (v := 0) 122 dc_Mo_leaf_121 (by decide) rfl ?_
          refine zk_cVr 125 (m_term ha c5 c6 c7 hlt) dc_Mo_leaf_122 ok_Mo_term lk_Mo_126 ha rfl rfl rfl ⟨Nat.le_of_ble_eq_true rfl, Nat.le_of_ble_eq_true rfl⟩ (Nat.le_of_ble_eq_true rfl) rfl (fun v M1 hk => ?_)
          obtain ⟨rfl, g2, rfl⟩ := hk
          refine zk_goto 129 dc_Mo_leaf_125 (by decide) ?_
          have hp : p1_leaf x y z = 0 := by rw [p1_leaf, if_pos ⟨by first | exact Or.inl ha0 | exact Or.inr ha0, h1, hz⟩]
          exact zk_ireturn dc_Mo_leaf_129 rfl (by first | rfl | decide) ⟨_, rfl, congrArg Value.int hp.symm, _, rfl⟩
        · refine zk_iload_2 116 dc_Mo_leaf_115 rfl rfl ?_
          refine zk_iconst (v := 1) 117 dc_Mo_leaf_116 (by decide) rfl ?_
          refine zk_iadd 118 dc_Mo_leaf_117 rfl ?_
          refine zk_goto 122 dc_Mo_leaf_118 (by decide) ?_
          refine zk_cVr 125 (m_term ha c5 c6 c7 hlt) dc_Mo_leaf_122 ok_Mo_term lk_Mo_126 ha rfl rfl rfl ⟨Nat.le_of_ble_eq_true rfl, Nat.le_of_ble_eq_true rfl⟩ (Nat.le_of_ble_eq_true rfl) rfl (fun v M1 hk => ?_)
          obtain ⟨rfl, g2, rfl⟩ := hk
          refine zk_goto 129 dc_Mo_leaf_125 (by decide) ?_
          have hp : p1_leaf x y z = 0 := by rw [p1_leaf, if_pos ⟨by first | exact Or.inl ha0 | exact Or.inr ha0, h1, hz⟩]
          exact zk_ireturn dc_Mo_leaf_129 rfl (by first | rfl | decide) ⟨_, rfl, congrArg Value.int hp.symm, _, rfl⟩
    · refine zk_goto 43 dc_Mo_leaf_13 (by decide) ?_
      refine zk_istore_4 45 dc_Mo_leaf_43 (Nat.le_of_ble_eq_true rfl) rfl ?_
      refine zk_iload 47 dc_Mo_leaf_45 rfl rfl ?_
      refine zk_if_eq 83 50 dc_Mo_leaf_47 (by decide) rfl (fun hx => ?_) (fun hx => by first | exact absurd hx rfl | exact absurd rfl hx)
      refine zk_iconst (v := 0) 84 dc_Mo_leaf_83 (by decide) rfl ?_
      refine zk_istore_4 86 dc_Mo_leaf_84 (Nat.le_of_ble_eq_true rfl) rfl ?_
      refine zk_iload 88 dc_Mo_leaf_86 rfl rfl ?_
      refine zk_if_eq 128 91 dc_Mo_leaf_88 (by decide) rfl (fun hx => ?_) (fun hx => by first | exact absurd hx rfl | exact absurd rfl hx)
      refine zk_iconst (v := -1) 129 dc_Mo_leaf_128 (by decide) rfl ?_
      have hp : p1_leaf x y z = -1 := by rw [p1_leaf, if_neg (fun q => h1 q.2.1)]
      exact zk_ireturn dc_Mo_leaf_129 rfl (by first | rfl | decide) ⟨_, rfl, congrArg Value.int hp.symm, _, rfl⟩
  · refine zk_iload_1 5 dc_Mo_leaf_4 rfl rfl ?_
    refine zk_iconst (v := 2) 6 dc_Mo_leaf_5 (by decide) rfl ?_
    refine zk_icmp_ne 16 9 dc_Mo_leaf_6 (by decide) rfl (fun ha2 => ?_) (fun ha2 => ?_)
    · refine zk_iload_1 17 dc_Mo_leaf_16 rfl rfl ?_
      refine zk_iconst (v := 1) 18 dc_Mo_leaf_17 (by decide) rfl ?_
      refine zk_icmp_eq 26 21 dc_Mo_leaf_18 (by decide) rfl (fun hq1 => ?_) (fun hq1 => ?_)
      · refine zk_iload_2 27 dc_Mo_leaf_26 rfl rfl ?_
        refine zk_if_lt 42 30 dc_Mo_leaf_27 (by decide) rfl (fun hg => ?_) (fun hg => ?_)
        · refine zk_iconst (v := 0) 43 dc_Mo_leaf_42 (by decide) rfl ?_
          refine zk_istore_4 45 dc_Mo_leaf_43 (Nat.le_of_ble_eq_true rfl) rfl ?_
          refine zk_iload 47 dc_Mo_leaf_45 rfl rfl ?_
          refine zk_if_eq 83 50 dc_Mo_leaf_47 (by decide) rfl (fun hx => ?_) (fun hx => by first | exact absurd hx rfl | exact absurd rfl hx)
          refine zk_iconst (v := 0) 84 dc_Mo_leaf_83 (by decide) rfl ?_
          refine zk_istore_4 86 dc_Mo_leaf_84 (Nat.le_of_ble_eq_true rfl) rfl ?_
          refine zk_iload 88 dc_Mo_leaf_86 rfl rfl ?_
          refine zk_if_eq 128 91 dc_Mo_leaf_88 (by decide) rfl (fun hx => ?_) (fun hx => by first | exact absurd hx rfl | exact absurd rfl hx)
          refine zk_iconst (v := -1) 129 dc_Mo_leaf_128 (by decide) rfl ?_
          have hp : p1_leaf x y z = -1 := by rw [p1_leaf, if_neg (fun q => q.1.elim ha0 ha2)]
          exact zk_ireturn dc_Mo_leaf_129 rfl (by first | rfl | decide) ⟨_, rfl, congrArg Value.int hp.symm, _, rfl⟩
        · refine zk_iload_2 31 dc_Mo_leaf_30 rfl rfl ?_
          refine zk_aload_0 32 dc_Mo_leaf_31 rfl rfl ?_
          refine zk_getfield 35 dc_Mo_leaf_32 fg_Mo_120 ha rfl rfl ?_
          refine zk_icmp_ge 42 38 dc_Mo_leaf_35 (by decide) rfl (fun hx => ?_) (fun hx => by first | exact absurd hx (Int32.not_lt.mp hg) | exact absurd (Int32.not_lt.mp hg) hx)
          refine zk_iconst (v := 0) 43 dc_Mo_leaf_42 (by decide) rfl ?_
          refine zk_istore_4 45 dc_Mo_leaf_43 (Nat.le_of_ble_eq_true rfl) rfl ?_
          refine zk_iload 47 dc_Mo_leaf_45 rfl rfl ?_
          refine zk_if_eq 83 50 dc_Mo_leaf_47 (by decide) rfl (fun hx => ?_) (fun hx => by first | exact absurd hx rfl | exact absurd rfl hx)
          refine zk_iconst (v := 0) 84 dc_Mo_leaf_83 (by decide) rfl ?_
          refine zk_istore_4 86 dc_Mo_leaf_84 (Nat.le_of_ble_eq_true rfl) rfl ?_
          refine zk_iload 88 dc_Mo_leaf_86 rfl rfl ?_
          refine zk_if_eq 128 91 dc_Mo_leaf_88 (by decide) rfl (fun hx => ?_) (fun hx => by first | exact absurd hx rfl | exact absurd rfl hx)
          refine zk_iconst (v := -1) 129 dc_Mo_leaf_128 (by decide) rfl ?_
          have hp : p1_leaf x y z = -1 := by rw [p1_leaf, if_neg (fun q => q.1.elim ha0 ha2)]
          exact zk_ireturn dc_Mo_leaf_129 rfl (by first | rfl | decide) ⟨_, rfl, congrArg Value.int hp.symm, _, rfl⟩
      · refine zk_iload_1 22 dc_Mo_leaf_21 rfl rfl ?_
        refine zk_iconst (v := 3) 23 dc_Mo_leaf_22 (by decide) rfl ?_
        refine zk_icmp_ne 42 26 dc_Mo_leaf_23 (by decide) rfl (fun hq3 => ?_) (fun hq3 => ?_)
        · refine zk_iconst (v := 0) 43 dc_Mo_leaf_42 (by decide) rfl ?_
          refine zk_istore_4 45 dc_Mo_leaf_43 (Nat.le_of_ble_eq_true rfl) rfl ?_
          refine zk_iload 47 dc_Mo_leaf_45 rfl rfl ?_
          refine zk_if_eq 83 50 dc_Mo_leaf_47 (by decide) rfl (fun hx => ?_) (fun hx => by first | exact absurd hx rfl | exact absurd rfl hx)
          refine zk_iconst (v := 0) 84 dc_Mo_leaf_83 (by decide) rfl ?_
          refine zk_istore_4 86 dc_Mo_leaf_84 (Nat.le_of_ble_eq_true rfl) rfl ?_
          refine zk_iload 88 dc_Mo_leaf_86 rfl rfl ?_
          refine zk_if_eq 128 91 dc_Mo_leaf_88 (by decide) rfl (fun hx => ?_) (fun hx => by first | exact absurd hx rfl | exact absurd rfl hx)
          refine zk_iconst (v := -1) 129 dc_Mo_leaf_128 (by decide) rfl ?_
          have hp : p1_leaf x y z = -1 := by rw [p1_leaf, if_neg (fun q => q.1.elim ha0 ha2)]
          exact zk_ireturn dc_Mo_leaf_129 rfl (by first | rfl | decide) ⟨_, rfl, congrArg Value.int hp.symm, _, rfl⟩
        · refine zk_iload_2 27 dc_Mo_leaf_26 rfl rfl ?_
          refine zk_if_lt 42 30 dc_Mo_leaf_27 (by decide) rfl (fun hg => ?_) (fun hg => ?_)
          · refine zk_iconst (v := 0) 43 dc_Mo_leaf_42 (by decide) rfl ?_
            refine zk_istore_4 45 dc_Mo_leaf_43 (Nat.le_of_ble_eq_true rfl) rfl ?_
            refine zk_iload 47 dc_Mo_leaf_45 rfl rfl ?_
            refine zk_if_eq 83 50 dc_Mo_leaf_47 (by decide) rfl (fun hx => ?_) (fun hx => by first | exact absurd hx rfl | exact absurd rfl hx)
            refine zk_iconst (v := 0) 84 dc_Mo_leaf_83 (by decide) rfl ?_
            refine zk_istore_4 86 dc_Mo_leaf_84 (Nat.le_of_ble_eq_true rfl) rfl ?_
            refine zk_iload 88 dc_Mo_leaf_86 rfl rfl ?_
            refine zk_if_eq 128 91 dc_Mo_leaf_88 (by decide) rfl (fun hx => ?_) (fun hx => by first | exact absurd hx rfl | exact absurd rfl hx)
            refine zk_iconst (v := -1) 129 dc_Mo_leaf_128 (by decide) rfl ?_
            have hp : p1_leaf x y z = -1 := by rw [p1_leaf, if_neg (fun q => q.1.elim ha0 ha2)]
            exact zk_ireturn dc_Mo_leaf_129 rfl (by first | rfl | decide) ⟨_, rfl, congrArg Value.int hp.symm, _, rfl⟩
          · refine zk_iload_2 31 dc_Mo_leaf_30 rfl rfl ?_
            refine zk_aload_0 32 dc_Mo_leaf_31 rfl rfl ?_
            refine zk_getfield 35 dc_Mo_leaf_32 fg_Mo_120 ha rfl rfl ?_
            refine zk_icmp_ge 42 38 dc_Mo_leaf_35 (by decide) rfl (fun hx => ?_) (fun hx => by first | exact absurd hx (Int32.not_lt.mp hg) | exact absurd (Int32.not_lt.mp hg) hx)
            refine zk_iconst (v := 0) 43 dc_Mo_leaf_42 (by decide) rfl ?_
            refine zk_istore_4 45 dc_Mo_leaf_43 (Nat.le_of_ble_eq_true rfl) rfl ?_
            refine zk_iload 47 dc_Mo_leaf_45 rfl rfl ?_
            refine zk_if_eq 83 50 dc_Mo_leaf_47 (by decide) rfl (fun hx => ?_) (fun hx => by first | exact absurd hx rfl | exact absurd rfl hx)
            refine zk_iconst (v := 0) 84 dc_Mo_leaf_83 (by decide) rfl ?_
            refine zk_istore_4 86 dc_Mo_leaf_84 (Nat.le_of_ble_eq_true rfl) rfl ?_
            refine zk_iload 88 dc_Mo_leaf_86 rfl rfl ?_
            refine zk_if_eq 128 91 dc_Mo_leaf_88 (by decide) rfl (fun hx => ?_) (fun hx => by first | exact absurd hx rfl | exact absurd rfl hx)
            refine zk_iconst (v := -1) 129 dc_Mo_leaf_128 (by decide) rfl ?_
            have hp : p1_leaf x y z = -1 := by rw [p1_leaf, if_neg (fun q => q.1.elim ha0 ha2)]
            exact zk_ireturn dc_Mo_leaf_129 rfl (by first | rfl | decide) ⟨_, rfl, congrArg Value.int hp.symm, _, rfl⟩
    · refine zk_iload_2 10 dc_Mo_leaf_9 rfl rfl ?_
      refine zk_cSr 13 (m_isn) dc_Mo_leaf_10 ok_Mo_isNumber lk_Mo_116 rfl rfl ⟨Nat.le_of_ble_eq_true rfl, Nat.le_of_ble_eq_true rfl⟩ (Nat.le_of_ble_eq_true rfl) rfl (fun v M1 hk => ?_)
      obtain ⟨rfl, hk0⟩ := hk
      rcases hk0 with ⟨h1, rfl⟩ | ⟨h1, rfl⟩
      · refine zk_goto 43 dc_Mo_leaf_13 (by decide) ?_
        refine zk_istore_4 45 dc_Mo_leaf_43 (Nat.le_of_ble_eq_true rfl) rfl ?_
        refine zk_iload 47 dc_Mo_leaf_45 rfl rfl ?_
        refine zk_if_eq 83 50 dc_Mo_leaf_47 (by decide) rfl (fun hx => by first | exact absurd hx (show ¬ (1 : Int32) = 0 by decide) | exact absurd (show ¬ (1 : Int32) = 0 by decide) hx) (fun hx => ?_)
        refine zk_iload_1 51 dc_Mo_leaf_50 rfl rfl ?_
        refine zk_iconst (v := 3) 52 dc_Mo_leaf_51 (by decide) rfl ?_
        refine zk_icmp_ne 75 55 dc_Mo_leaf_52 (by decide) rfl (fun hx => ?_) (fun hx => by first | exact absurd hx (show ¬ x = 3 by rw [ha2]; decide) | exact absurd (show ¬ x = 3 by rw [ha2]; decide) hx)
        refine zk_iload_3 76 dc_Mo_leaf_75 rfl rfl ?_
        refine zk_if_ne 83 79 dc_Mo_leaf_76 (by decide) rfl (fun hz => ?_) (fun hz => ?_)
        · refine zk_iconst (v := 0) 84 dc_Mo_leaf_83 (by decide) rfl ?_
          refine zk_istore_4 86 dc_Mo_leaf_84 (Nat.le_of_ble_eq_true rfl) rfl ?_
          refine zk_iload 88 dc_Mo_leaf_86 rfl rfl ?_
          refine zk_if_eq 128 91 dc_Mo_leaf_88 (by decide) rfl (fun hx => ?_) (fun hx => by first | exact absurd hx rfl | exact absurd rfl hx)
          refine zk_iconst (v := -1) 129 dc_Mo_leaf_128 (by decide) rfl ?_
          have hp : p1_leaf x y z = -1 := by rw [p1_leaf, if_neg (fun q => hz q.2.2)]
          exact zk_ireturn dc_Mo_leaf_129 rfl (by first | rfl | decide) ⟨_, rfl, congrArg Value.int hp.symm, _, rfl⟩
        · refine zk_iconst (v := 1) 80 dc_Mo_leaf_79 (by decide) rfl ?_
          refine zk_goto 84 dc_Mo_leaf_80 (by decide) ?_
          refine zk_istore_4 86 dc_Mo_leaf_84 (Nat.le_of_ble_eq_true rfl) rfl ?_
          refine zk_iload 88 dc_Mo_leaf_86 rfl rfl ?_
          refine zk_if_eq 128 91 dc_Mo_leaf_88 (by decide) rfl (fun hx => by first | exact absurd hx (show ¬ (1 : Int32) = 0 by decide) | exact absurd (show ¬ (1 : Int32) = 0 by decide) hx) (fun hx => ?_)
          refine zk_aload_0 92 dc_Mo_leaf_91 rfl rfl ?_
          refine zk_iconst (v := 1) 93 dc_Mo_leaf_92 (by decide) rfl ?_
          refine zk_cVr 96 (m_isRoom ha) dc_Mo_leaf_93 ok_Mo_isRoom lk_Mo_123 ha rfl rfl rfl ⟨Nat.le_of_ble_eq_true rfl, Nat.le_of_ble_eq_true rfl⟩ (Nat.le_of_ble_eq_true rfl) rfl (fun v M1 hk => ?_)
          obtain ⟨rfl, rfl⟩ := hk
          refine zk_if_eq 128 99 dc_Mo_leaf_96 (by decide) rfl (fun hx => by first | exact absurd hx (show ¬ (1 : Int32) = 0 by decide) | exact absurd (show ¬ (1 : Int32) = 0 by decide) hx) (fun hx => ?_)
          refine zk_aload_0 100 dc_Mo_leaf_99 rfl rfl ?_
          refine zk_aload_0 101 dc_Mo_leaf_100 rfl rfl ?_
          refine zk_getfield 104 dc_Mo_leaf_101 fg_Mo_10 ha rfl rfl ?_
          refine zk_iload_1 105 dc_Mo_leaf_104 rfl rfl ?_
          refine zk_iload_2 106 dc_Mo_leaf_105 rfl rfl ?_
          refine zk_iload_3 107 dc_Mo_leaf_106 rfl rfl ?_
          refine zk_cVr 110 (ct_Radd hr hk hv hs hl (by decide)) dc_Mo_leaf_107 ok_MoRows_add lk_Mo_105 hr rfl rfl rfl ⟨Nat.le_of_ble_eq_true rfl, Nat.le_of_ble_eq_true rfl⟩ (Nat.le_of_ble_eq_true rfl) rfl (fun v M1 hk => ?_)
          obtain ⟨g, gk, gv, gs, gl, rfl, rfl, -, -, -, -, -, p⟩ := hk
          have ha := (p (a) (by omega) ).trans ha
          have c5 := (p (n + 5) (by omega) ).trans c5
          have c6 := (p (n + 6) (by omega) ).trans c6
          have c7 := (p (n + 7) (by omega) ).trans c7
          refine zk_iconst (v := 1) 111 dc_Mo_leaf_110 (by decide) rfl ?_
          refine zk_iload_1 112 dc_Mo_leaf_111 rfl rfl ?_
          refine zk_if_ne 121 115 dc_Mo_leaf_112 (by decide) rfl (fun hy => ?_) (fun hy => ?_)
          · refine zk_iconst (v := 0) 122 dc_Mo_leaf_121 (by decide) rfl ?_
            refine zk_cVr 125 (m_term ha c5 c6 c7 hlt) dc_Mo_leaf_122 ok_Mo_term lk_Mo_126 ha rfl rfl rfl ⟨Nat.le_of_ble_eq_true rfl, Nat.le_of_ble_eq_true rfl⟩ (Nat.le_of_ble_eq_true rfl) rfl (fun v M1 hk => ?_)
            obtain ⟨rfl, g2, rfl⟩ := hk
            refine zk_goto 129 dc_Mo_leaf_125 (by decide) ?_
            have hp : p1_leaf x y z = 0 := by rw [p1_leaf, if_pos ⟨by first | exact Or.inl ha2 | exact Or.inr ha2, h1, hz⟩]
            exact zk_ireturn dc_Mo_leaf_129 rfl (by first | rfl | decide) ⟨_, rfl, congrArg Value.int hp.symm, _, rfl⟩
          · refine zk_iload_2 116 dc_Mo_leaf_115 rfl rfl ?_
            refine zk_iconst (v := 1) 117 dc_Mo_leaf_116 (by decide) rfl ?_
            refine zk_iadd 118 dc_Mo_leaf_117 rfl ?_
            refine zk_goto 122 dc_Mo_leaf_118 (by decide) ?_
            refine zk_cVr 125 (m_term ha c5 c6 c7 hlt) dc_Mo_leaf_122 ok_Mo_term lk_Mo_126 ha rfl rfl rfl ⟨Nat.le_of_ble_eq_true rfl, Nat.le_of_ble_eq_true rfl⟩ (Nat.le_of_ble_eq_true rfl) rfl (fun v M1 hk => ?_)
            obtain ⟨rfl, g2, rfl⟩ := hk
            refine zk_goto 129 dc_Mo_leaf_125 (by decide) ?_
            have hp : p1_leaf x y z = 0 := by rw [p1_leaf, if_pos ⟨by first | exact Or.inl ha2 | exact Or.inr ha2, h1, hz⟩]
            exact zk_ireturn dc_Mo_leaf_129 rfl (by first | rfl | decide) ⟨_, rfl, congrArg Value.int hp.symm, _, rfl⟩
      · refine zk_goto 43 dc_Mo_leaf_13 (by decide) ?_
        refine zk_istore_4 45 dc_Mo_leaf_43 (Nat.le_of_ble_eq_true rfl) rfl ?_
        refine zk_iload 47 dc_Mo_leaf_45 rfl rfl ?_
        refine zk_if_eq 83 50 dc_Mo_leaf_47 (by decide) rfl (fun hx => ?_) (fun hx => by first | exact absurd hx rfl | exact absurd rfl hx)
        refine zk_iconst (v := 0) 84 dc_Mo_leaf_83 (by decide) rfl ?_
        refine zk_istore_4 86 dc_Mo_leaf_84 (Nat.le_of_ble_eq_true rfl) rfl ?_
        refine zk_iload 88 dc_Mo_leaf_86 rfl rfl ?_
        refine zk_if_eq 128 91 dc_Mo_leaf_88 (by decide) rfl (fun hx => ?_) (fun hx => by first | exact absurd hx rfl | exact absurd rfl hx)
        refine zk_iconst (v := -1) 129 dc_Mo_leaf_128 (by decide) rfl ?_
        have hp : p1_leaf x y z = -1 := by rw [p1_leaf, if_neg (fun q => h1 q.2.1)]
        exact zk_ireturn dc_Mo_leaf_129 rfl (by first | rfl | decide) ⟨_, rfl, congrArg Value.int hp.symm, _, rfl⟩
set_option maxHeartbeats 4000000 in
set_option maxRecDepth 100000 in
theorem m_global {Z : zk_Z} {w s : Nat} {f : Nat → Option zk_E} {a n c : Nat} {g8 g10 : Nat → Int32} (ha : f a = some (.inr (.inr (9, [.ref n, .ref (n + 5), .ref (n + 6), .ref (n + 7), .int 0, .int 0, .ref (n + 8), .ref (n + 9), .ref (n + 10), .ref (n + 11), .ref (n + 12), .ref (n + 13), .ref (n + 14), .ref (n + 15), .int (nI c), .ref (n + 16), .ref (n + 17), .ref (n + 18), .ref (n + 19), .int 0, .int 0, .int 0, .int 0, .int 0, .int (-1), .ref (n + 20), .ref (n + 21), .ref (n + 22), .ref (n + 23), .int 0, .ref (n + 24), .ref (n + 25), .ref (n + 26), .int 0, .ref (n + 27), .ref (n + 28), .ref (n + 29), .ref (n + 30), .int 0, .ref (n + 31), .int 0, .ref (n + 32), .int 0, .int 0, .int 0, .int 0, .int 0, .int 0])))) (c8 : f (n + 8) = some (.inl (60, g8))) (c10 : f (n + 10) = some (.inl (60, g10))) (hc : c < 60) (hlt : a < n) {x : Int32} : zk_Kr Z mm_Mo_global [.ref a, .int x] (w, s, f) (fun v M' => v = .int (nI c) ∧ ∃ (g : Nat → Option zk_E) (g8 g10 : Nat → Int32), M' = (w, s, g) ∧ g a = some (.inr (.inr (9, [.ref n, .ref (n + 5), .ref (n + 6), .ref (n + 7), .int 0, .int 0, .ref (n + 8), .ref (n + 9), .ref (n + 10), .ref (n + 11), .ref (n + 12), .ref (n + 13), .ref (n + 14), .ref (n + 15), .int (nI (c + 1)), .ref (n + 16), .ref (n + 17), .ref (n + 18), .ref (n + 19), .int 0, .int 0, .int 0, .int 0, .int 0, .int (-1), .ref (n + 20), .ref (n + 21), .ref (n + 22), .ref (n + 23), .int 0, .ref (n + 24), .ref (n + 25), .ref (n + 26), .int 0, .ref (n + 27), .ref (n + 28), .ref (n + 29), .ref (n + 30), .int 0, .ref (n + 31), .int 0, .ref (n + 32), .int 0, .int 0, .int 0, .int 0, .int 0, .int 0]))) ∧ g (n + 8) = some (.inl (60, g8)) ∧ g (n + 10) = some (.inl (60, g10)) ∧ ∀ b, b ≠ a → b ≠ n + 8 → b ≠ n + 10 → g b = f b) := by
  refine zk_enterB (by decide) (Nat.le_of_ble_eq_true rfl) rfl ?_
  show zk_P Z mm_Mo_global 0 [some (.ref a), some (.int x)] [] (w, s, f) _
  refine zk_aload_0 1 dc_Mo_global_0 rfl rfl ?_
  refine zk_getfield 4 dc_Mo_global_1 fg_Mo_26 ha rfl rfl ?_
  refine zk_aload_0 5 dc_Mo_global_4 rfl rfl ?_
  refine zk_getfield 8 dc_Mo_global_5 fg_Mo_120 ha rfl rfl ?_
  refine zk_iload_1 9 dc_Mo_global_8 rfl rfl ?_
  refine zk_iastoreK 10 dc_Mo_global_9 c8 (vp_in_nI hc (by decide)) rfl (fun f1 c8 o1 => ?_)
  have ha := (o1 (a) (by omega) ).trans ha
  have c10 := (o1 (n + 10) (by omega) ).trans c10
  refine zk_aload_0 11 dc_Mo_global_10 rfl rfl ?_
  refine zk_getfield 14 dc_Mo_global_11 fg_Mo_32 ha rfl rfl ?_
  refine zk_aload_0 15 dc_Mo_global_14 rfl rfl ?_
  refine zk_getfield 18 dc_Mo_global_15 fg_Mo_120 ha rfl rfl ?_
  refine zk_iconst (v := -1) 19 dc_Mo_global_18 (by decide) rfl ?_
  refine zk_iastoreK 20 dc_Mo_global_19 c10 (vp_in_nI hc (by decide)) rfl (fun f2 c10 o2 => ?_)
  have ha := (o2 (a) (by omega) ).trans ha
  have c8 := (o2 (n + 8) (by omega) ).trans c8
  refine zk_aload_0 21 dc_Mo_global_20 rfl rfl ?_
  refine zk_dup 22 dc_Mo_global_21 rfl rfl ?_
  refine zk_getfield 25 dc_Mo_global_22 fg_Mo_120 ha rfl rfl ?_
  refine zk_dup_x1 26 dc_Mo_global_25 rfl rfl rfl ?_
  refine zk_iconst (v := 1) 27 dc_Mo_global_26 (by decide) rfl ?_
  refine zk_iadd 28 dc_Mo_global_27 rfl ?_
  refine zk_put 31 dc_Mo_global_28 fp_Mo_120 ha rfl rfl (Nat.le_of_ble_eq_true rfl) rfl (fun f3 ha o3 => ?_)
  have c8 := (o3 (n + 8) (by omega) ).trans c8
  have c10 := (o3 (n + 10) (by omega) ).trans c10
  have ha : f3 a = some (.inr (.inr (9, [.ref n, .ref (n + 5), .ref (n + 6), .ref (n + 7), .int 0, .int 0, .ref (n + 8), .ref (n + 9), .ref (n + 10), .ref (n + 11), .ref (n + 12), .ref (n + 13), .ref (n + 14), .ref (n + 15), .int (nI c + 1), .ref (n + 16), .ref (n + 17), .ref (n + 18), .ref (n + 19), .int 0, .int 0, .int 0, .int 0, .int 0, .int (-1), .ref (n + 20), .ref (n + 21), .ref (n + 22), .ref (n + 23), .int 0, .ref (n + 24), .ref (n + 25), .ref (n + 26), .int 0, .ref (n + 27), .ref (n + 28), .ref (n + 29), .ref (n + 30), .int 0, .ref (n + 31), .int 0, .ref (n + 32), .int 0, .int 0, .int 0, .int 0, .int 0, .int 0]))) := ha
  rw [nI_1] at ha
  exact zk_ireturn dc_Mo_global_31 rfl (by first | rfl | decide) ⟨_, rfl, rfl, _, _, _, rfl, ha, c8, c10, fun b q1 q2 q3 => by rw [o3 b (by omega), o2 b (by omega), o1 b (by omega)]⟩
set_option maxHeartbeats 4000000 in
set_option maxRecDepth 100000 in
theorem r_axiom {Z : zk_Z} {w s : Nat} {f : Nat → Option zk_E} {a n : Nat} (ha : f a = some (.inr (.inr (9, [.ref n, .ref (n + 5), .ref (n + 6), .ref (n + 7), .int 0, .int 0, .ref (n + 8), .ref (n + 9), .ref (n + 10), .ref (n + 11), .ref (n + 12), .ref (n + 13), .ref (n + 14), .ref (n + 15), .int 0, .ref (n + 16), .ref (n + 17), .ref (n + 18), .ref (n + 19), .int 0, .int 0, .int 0, .int 0, .int 0, .int (-1), .ref (n + 20), .ref (n + 21), .ref (n + 22), .ref (n + 23), .int 0, .ref (n + 24), .ref (n + 25), .ref (n + 26), .int 0, .ref (n + 27), .ref (n + 28), .ref (n + 29), .ref (n + 30), .int 0, .ref (n + 31), .int 0, .ref (n + 32), .int 0, .int 0, .int 0, .int 0, .int 0, .int 0])))) (c8 : f (n + 8) = some (.inl (60, fun _ => 0))) (c10 : f (n + 10) = some (.inl (60, fun _ => 0))) (hlt : a < n)  : zk_Kr Z mm_Mo_axiom [.ref a] (w, s, f) (fun v M' => v = .int (nI 0) ∧ ∃ g : Nat → Option zk_E, M' = (w, s, g)) := by
  refine zk_enterB (by decide) (Nat.le_of_ble_eq_true rfl) rfl ?_
  show zk_P Z mm_Mo_axiom 0 [some (.ref a)] [] (w, s, f) _
  refine zk_aload_0 1 dc_Mo_axiom_0 rfl rfl ?_
  refine zk_getfield 4 dc_Mo_axiom_1 fg_Mo_120 ha rfl rfl ?_
  refine zk_bipush (v := 60) 6 dc_Mo_axiom_4 (by decide) rfl ?_
  refine zk_icmp_ne 13 9 dc_Mo_axiom_6 (by decide) rfl (fun hx => ?_) (fun hx => by first | exact absurd hx (show ¬ (0 : Int32) = 60 by decide) | exact absurd (show ¬ (0 : Int32) = 60 by decide) hx)
  refine zk_aload_0 14 dc_Mo_axiom_13 rfl rfl ?_
  refine zk_iconst (v := 0) 15 dc_Mo_axiom_14 (by decide) rfl ?_
  refine zk_cVr 18 (m_global (c := 0) ha c8 c10 (by decide) hlt) dc_Mo_axiom_15 ok_Mo_global lk_Mo_157 ha rfl rfl rfl ⟨Nat.le_of_ble_eq_true rfl, Nat.le_of_ble_eq_true rfl⟩ (Nat.le_of_ble_eq_true rfl) rfl (fun v M1 hk => ?_)
  obtain ⟨rfl, g, g8, g10, rfl, -, -, -, -⟩ := hk
  exact zk_ireturn dc_Mo_axiom_18 rfl (by first | rfl | decide) ⟨_, rfl, rfl, _, rfl⟩
set_option maxHeartbeats 4000000 in
set_option maxRecDepth 100000 in
theorem m_famloop {Z : zk_Z} {w s a n k : Nat} {x1 x2 : Int32} {R : Option Value → zk_M → Prop} (hlt : a < n) (hk : k ≤ 5) (hR : ∀ g : Nat → Option zk_E, R (some (.int 0)) (w, s, g)) : ∀ (m j : Nat) (f : Nat → Option zk_E) (g8 g10 g12 : Nat → Int32), j + m = k + 1 → f a = some (.inr (.inr (9, [.ref n, .ref (n + 5), .ref (n + 6), .ref (n + 7), .int 0, .int 0, .ref (n + 8), .ref (n + 9), .ref (n + 10), .ref (n + 11), .ref (n + 12), .ref (n + 13), .ref (n + 14), .ref (n + 15), .int (nI j), .ref (n + 16), .ref (n + 17), .ref (n + 18), .ref (n + 19), .int 0, .int 0, .int 0, .int 0, .int 0, .int (-1), .ref (n + 20), .ref (n + 21), .ref (n + 22), .ref (n + 23), .int 0, .ref (n + 24), .ref (n + 25), .ref (n + 26), .int 0, .ref (n + 27), .ref (n + 28), .ref (n + 29), .ref (n + 30), .int 0, .ref (n + 31), .int 0, .ref (n + 32), .int 0, .int 0, .int 0, .int 0, .int 0, .int 0]))) → f (n + 8) = some (.inl (60, g8)) → f (n + 10) = some (.inl (60, g10)) → f (n + 12) = some (.inl (60, g12)) → f (n + 13) = some (.inl (60, fun _ => 0)) → f (n + 14) = some (.inl (60, fun _ => 0)) → f (n + 15) = some (.inl (60, fun _ => 0)) → zk_P Z mm_Mo_family 51 [some (.ref a), some (.int x1), some (.int x2), some (.int (nI k)), some (.int 0), some (.int (nI j))] [] (w, s, f) R := by
  intro m
  induction m with
  | zero =>
    intro j f g8 g10 g12 hj ha c8 c10 c12 c13 c14 c15
    have hj : j = k + 1 := by omega
    subst hj
    refine zk_iload 53 dc_Mo_family_51 rfl rfl ?_
    refine zk_iload_3 54 dc_Mo_family_53 rfl rfl ?_
    refine zk_icmp_gt 89 57 dc_Mo_family_54 (by decide) rfl (fun hx => ?_) (fun hx => by first | exact absurd hx (show nI k < nI (k + 1) from nI_lt (by omega) (by omega)) | exact absurd (show nI k < nI (k + 1) from nI_lt (by omega) (by omega)) hx)
    refine zk_aload_0 90 dc_Mo_family_89 rfl rfl ?_
    refine zk_getfield 93 dc_Mo_family_90 fg_Mo_41 ha rfl rfl ?_
    refine zk_iload 95 dc_Mo_family_93 rfl rfl ?_
    refine zk_iload_1 96 dc_Mo_family_95 rfl rfl ?_
    refine zk_iastoreK 97 dc_Mo_family_96 c13 (show vp_in (0 : Int32) 60 by unfold vp_in; decide) rfl (fun f1 c13 o1 => ?_)
    have ha := (o1 (a) (by omega) ).trans ha
    have c14 := (o1 (n + 14) (by omega) ).trans c14
    have c15 := (o1 (n + 15) (by omega) ).trans c15
    refine zk_aload_0 98 dc_Mo_family_97 rfl rfl ?_
    refine zk_getfield 101 dc_Mo_family_98 fg_Mo_44 ha rfl rfl ?_
    refine zk_iload 103 dc_Mo_family_101 rfl rfl ?_
    refine zk_iload_2 104 dc_Mo_family_103 rfl rfl ?_
    refine zk_iastoreK 105 dc_Mo_family_104 c14 (show vp_in (0 : Int32) 60 by unfold vp_in; decide) rfl (fun f2 c14 o2 => ?_)
    have ha := (o2 (a) (by omega) ).trans ha
    have c15 := (o2 (n + 15) (by omega) ).trans c15
    have c13 := (o2 (n + 13) (by omega) ).trans c13
    refine zk_aload_0 106 dc_Mo_family_105 rfl rfl ?_
    refine zk_getfield 109 dc_Mo_family_106 fg_Mo_47 ha rfl rfl ?_
    refine zk_iload 111 dc_Mo_family_109 rfl rfl ?_
    refine zk_iload_3 112 dc_Mo_family_111 rfl rfl ?_
    refine zk_iastoreK 113 dc_Mo_family_112 c15 (show vp_in (0 : Int32) 60 by unfold vp_in; decide) rfl (fun f3 c15 o3 => ?_)
    have ha := (o3 (a) (by omega) ).trans ha
    have c13 := (o3 (n + 13) (by omega) ).trans c13
    have c14 := (o3 (n + 14) (by omega) ).trans c14
    refine zk_iload 115 dc_Mo_family_113 rfl rfl ?_
    exact zk_ireturn dc_Mo_family_115 rfl rfl (hR _)
  | succ m ih =>
    intro j f g8 g10 g12 hj ha c8 c10 c12 c13 c14 c15
    refine zk_iload 53 dc_Mo_family_51 rfl rfl ?_
    refine zk_iload_3 54 dc_Mo_family_53 rfl rfl ?_
    refine zk_icmp_gt 89 57 dc_Mo_family_54 (by decide) rfl (fun hx => by first | exact absurd hx (show ¬ nI k < nI j from nI_nlt (by omega) (by omega)) | exact absurd (show ¬ nI k < nI j from nI_nlt (by omega) (by omega)) hx) (fun hx => ?_)
    refine zk_aload_0 58 dc_Mo_family_57 rfl rfl ?_
    refine zk_getfield 61 dc_Mo_family_58 fg_Mo_38 ha rfl rfl ?_
    refine zk_aload_0 62 dc_Mo_family_61 rfl rfl ?_
    refine zk_getfield 65 dc_Mo_family_62 fg_Mo_120 ha rfl rfl ?_
    refine zk_iload 67 dc_Mo_family_65 rfl rfl ?_
    refine zk_iastoreK 68 dc_Mo_family_67 c12 (vp_in_nI (by omega) (by decide)) rfl (fun f1 c12 o1 => ?_)
    have ha := (o1 (a) (by omega) ).trans ha
    have c8 := (o1 (n + 8) (by omega) ).trans c8
    have c10 := (o1 (n + 10) (by omega) ).trans c10
    have c13 := (o1 (n + 13) (by omega) ).trans c13
    have c14 := (o1 (n + 14) (by omega) ).trans c14
    have c15 := (o1 (n + 15) (by omega) ).trans c15
    refine zk_aload_0 69 dc_Mo_family_68 rfl rfl ?_
    refine zk_iload 71 dc_Mo_family_69 rfl rfl ?_
    refine zk_if_ne 78 74 dc_Mo_family_71 (by decide) rfl (fun hj0 => ?_) (fun hj0 => ?_)
    · refine zk_iconst (v := 3) 79 dc_Mo_family_78 (by decide) rfl ?_
      refine zk_cVr 82 (m_global (c := j) ha c8 c10 (by omega) hlt) dc_Mo_family_79 ok_Mo_global lk_Mo_157 ha rfl rfl rfl ⟨Nat.le_of_ble_eq_true rfl, Nat.le_of_ble_eq_true rfl⟩ (Nat.le_of_ble_eq_true rfl) rfl (fun v M1 hk => ?_)
      obtain ⟨rfl, g, g8, g10, rfl, ha, c8, c10, p⟩ := hk
      have c13 := (p (n + 13) (by omega) (by omega) (by omega) ).trans c13
      have c14 := (p (n + 14) (by omega) (by omega) (by omega) ).trans c14
      have c15 := (p (n + 15) (by omega) (by omega) (by omega) ).trans c15
      have c12 := (p (n + 12) (by omega) (by omega) (by omega) ).trans c12
      refine zk_pop 83 dc_Mo_family_82 rfl rfl ?_
      refine zk_iinc_5 (v := 1) 86 dc_Mo_family_83 (by decide) (Nat.le_of_ble_eq_true rfl) rfl ?_
      refine zk_goto 51 dc_Mo_family_86 (by decide) ?_
      rw [nI_1]
      exact ih (j + 1) g g8 g10 _ (by omega) ha c8 c10 c12 c13 c14 c15
    · refine zk_iconst (v := 2) 75 dc_Mo_family_74 (by decide) rfl ?_
      refine zk_goto 79 dc_Mo_family_75 (by decide) ?_
      refine zk_cVr 82 (m_global (c := j) ha c8 c10 (by omega) hlt) dc_Mo_family_79 ok_Mo_global lk_Mo_157 ha rfl rfl rfl ⟨Nat.le_of_ble_eq_true rfl, Nat.le_of_ble_eq_true rfl⟩ (Nat.le_of_ble_eq_true rfl) rfl (fun v M1 hk => ?_)
      obtain ⟨rfl, g, g8, g10, rfl, ha, c8, c10, p⟩ := hk
      have c13 := (p (n + 13) (by omega) (by omega) (by omega) ).trans c13
      have c14 := (p (n + 14) (by omega) (by omega) (by omega) ).trans c14
      have c15 := (p (n + 15) (by omega) (by omega) (by omega) ).trans c15
      have c12 := (p (n + 12) (by omega) (by omega) (by omega) ).trans c12
      refine zk_pop 83 dc_Mo_family_82 rfl rfl ?_
      refine zk_iinc_5 (v := 1) 86 dc_Mo_family_83 (by decide) (Nat.le_of_ble_eq_true rfl) rfl ?_
      refine zk_goto 51 dc_Mo_family_86 (by decide) ?_
      rw [nI_1]
      exact ih (j + 1) g g8 g10 _ (by omega) ha c8 c10 c12 c13 c14 c15
set_option maxHeartbeats 4000000 in
set_option maxRecDepth 100000 in
theorem r_family {Z : zk_Z} {w s : Nat} {f : Nat → Option zk_E} {a n : Nat} (ha : f a = some (.inr (.inr (9, [.ref n, .ref (n + 5), .ref (n + 6), .ref (n + 7), .int 0, .int 0, .ref (n + 8), .ref (n + 9), .ref (n + 10), .ref (n + 11), .ref (n + 12), .ref (n + 13), .ref (n + 14), .ref (n + 15), .int 0, .ref (n + 16), .ref (n + 17), .ref (n + 18), .ref (n + 19), .int 0, .int 0, .int 0, .int 0, .int 0, .int (-1), .ref (n + 20), .ref (n + 21), .ref (n + 22), .ref (n + 23), .int 0, .ref (n + 24), .ref (n + 25), .ref (n + 26), .int 0, .ref (n + 27), .ref (n + 28), .ref (n + 29), .ref (n + 30), .int 0, .ref (n + 31), .int 0, .ref (n + 32), .int 0, .int 0, .int 0, .int 0, .int 0, .int 0])))) (c8 : f (n + 8) = some (.inl (60, fun _ => 0))) (c10 : f (n + 10) = some (.inl (60, fun _ => 0))) (c12 : f (n + 12) = some (.inl (60, fun _ => 0))) (c13 : f (n + 13) = some (.inl (60, fun _ => 0))) (c14 : f (n + 14) = some (.inl (60, fun _ => 0))) (c15 : f (n + 15) = some (.inl (60, fun _ => 0))) (hlt : a < n) {x y z : Int32} : zk_Kr Z mm_Mo_family [.ref a, .int x, .int y, .int z] (w, s, f) (fun v M' => v = .int (p1_fam x y z) ∧ ∃ g : Nat → Option zk_E, M' = (w, s, g)) := by
  refine zk_enterB (by decide) (Nat.le_of_ble_eq_true rfl) rfl ?_
  show zk_P Z mm_Mo_family 0 [some (.ref a), some (.int x), some (.int y), some (.int z), none, none] [] (w, s, f) _
  refine zk_iload_1 1 dc_Mo_family_0 rfl rfl ?_
  refine zk_if_lt 40 4 dc_Mo_family_1 (by decide) rfl (fun h1 => ?_) (fun h1 => ?_)
  · refine zk_iconst (v := -1) 41 dc_Mo_family_40 (by decide) rfl ?_
    have hp : p1_fam x y z = -1 := by rw [p1_fam, if_neg (fun q => absurd h1 (Int32.not_lt.mpr q.1.1))]
    exact zk_ireturn dc_Mo_family_41 rfl (by first | rfl | decide) ⟨_, rfl, congrArg Value.int hp.symm, _, rfl⟩
  · refine zk_iload_1 5 dc_Mo_family_4 rfl rfl ?_
    refine zk_iconst (v := 4) 6 dc_Mo_family_5 (by decide) rfl ?_
    refine zk_icmp_gt 40 9 dc_Mo_family_6 (by decide) rfl (fun h2 => ?_) (fun h2 => ?_)
    · refine zk_iconst (v := -1) 41 dc_Mo_family_40 (by decide) rfl ?_
      have hp : p1_fam x y z = -1 := by rw [p1_fam, if_neg (fun q => absurd h2 (Int32.not_lt.mpr q.1.2))]
      exact zk_ireturn dc_Mo_family_41 rfl (by first | rfl | decide) ⟨_, rfl, congrArg Value.int hp.symm, _, rfl⟩
    · refine zk_iload_2 10 dc_Mo_family_9 rfl rfl ?_
      refine zk_if_lt 40 13 dc_Mo_family_10 (by decide) rfl (fun h3 => ?_) (fun h3 => ?_)
      · refine zk_iconst (v := -1) 41 dc_Mo_family_40 (by decide) rfl ?_
        have hp : p1_fam x y z = -1 := by rw [p1_fam, if_neg (fun q => absurd h3 (Int32.not_lt.mpr q.2.1.1))]
        exact zk_ireturn dc_Mo_family_41 rfl (by first | rfl | decide) ⟨_, rfl, congrArg Value.int hp.symm, _, rfl⟩
      · refine zk_iload_2 14 dc_Mo_family_13 rfl rfl ?_
        refine zk_iconst (v := 4) 15 dc_Mo_family_14 (by decide) rfl ?_
        refine zk_icmp_gt 40 18 dc_Mo_family_15 (by decide) rfl (fun h4 => ?_) (fun h4 => ?_)
        · refine zk_iconst (v := -1) 41 dc_Mo_family_40 (by decide) rfl ?_
          have hp : p1_fam x y z = -1 := by rw [p1_fam, if_neg (fun q => absurd h4 (Int32.not_lt.mpr q.2.1.2))]
          exact zk_ireturn dc_Mo_family_41 rfl (by first | rfl | decide) ⟨_, rfl, congrArg Value.int hp.symm, _, rfl⟩
        · refine zk_iload_3 19 dc_Mo_family_18 rfl rfl ?_
          refine zk_if_lt 40 22 dc_Mo_family_19 (by decide) rfl (fun h5 => ?_) (fun h5 => ?_)
          · refine zk_iconst (v := -1) 41 dc_Mo_family_40 (by decide) rfl ?_
            have hp : p1_fam x y z = -1 := by rw [p1_fam, if_neg (fun q => absurd h5 (Int32.not_lt.mpr q.2.2.1))]
            exact zk_ireturn dc_Mo_family_41 rfl (by first | rfl | decide) ⟨_, rfl, congrArg Value.int hp.symm, _, rfl⟩
          · refine zk_iload_3 23 dc_Mo_family_22 rfl rfl ?_
            refine zk_iconst (v := 5) 24 dc_Mo_family_23 (by decide) rfl ?_
            refine zk_icmp_gt 40 27 dc_Mo_family_24 (by decide) rfl (fun h6 => ?_) (fun h6 => ?_)
            · refine zk_iconst (v := -1) 41 dc_Mo_family_40 (by decide) rfl ?_
              have hp : p1_fam x y z = -1 := by rw [p1_fam, if_neg (fun q => absurd h6 (Int32.not_lt.mpr q.2.2.2))]
              exact zk_ireturn dc_Mo_family_41 rfl (by first | rfl | decide) ⟨_, rfl, congrArg Value.int hp.symm, _, rfl⟩
            · refine zk_aload_0 28 dc_Mo_family_27 rfl rfl ?_
              obtain ⟨k, hk5, rfl⟩ := nI_of2 (M := 5) (n := 5) rfl h5 (Int32.not_lt.mp h6)
              refine zk_getfield 31 dc_Mo_family_28 fg_Mo_120 ha rfl rfl ?_
              refine zk_iconst (v := 1) 32 dc_Mo_family_31 (by decide) rfl ?_
              refine zk_iadd 33 dc_Mo_family_32 rfl ?_
              refine zk_iload_3 34 dc_Mo_family_33 rfl rfl ?_
              refine zk_iadd 35 dc_Mo_family_34 rfl ?_
              refine zk_bipush (v := 60) 37 dc_Mo_family_35 (by decide) rfl ?_
              refine zk_icmp_le 42 40 dc_Mo_family_37 (by decide) rfl (fun hx => ?_) (fun hx => by first | exact absurd hx (show (0 : Int32) + 1 + nI k ≤ 60 by rcases (show k = 0 ∨ k = 1 ∨ k = 2 ∨ k = 3 ∨ k = 4 ∨ k = 5 by omega) with rfl | rfl | rfl | rfl | rfl | rfl <;> decide) | exact absurd (show (0 : Int32) + 1 + nI k ≤ 60 by rcases (show k = 0 ∨ k = 1 ∨ k = 2 ∨ k = 3 ∨ k = 4 ∨ k = 5 by omega) with rfl | rfl | rfl | rfl | rfl | rfl <;> decide) hx)
              refine zk_aload_0 43 dc_Mo_family_42 rfl rfl ?_
              refine zk_getfield 46 dc_Mo_family_43 fg_Mo_120 ha rfl rfl ?_
              refine zk_istore_4 48 dc_Mo_family_46 (Nat.le_of_ble_eq_true rfl) rfl ?_
              refine zk_iconst (v := 0) 49 dc_Mo_family_48 (by decide) rfl ?_
              refine zk_istore_5 51 dc_Mo_family_49 (Nat.le_of_ble_eq_true rfl) rfl ?_
              have hp : p1_fam x y (nI k) = 0 := by rw [p1_fam, if_pos ⟨⟨Int32.not_lt.mp h1, Int32.not_lt.mp h2⟩, ⟨Int32.not_lt.mp h3, Int32.not_lt.mp h4⟩, Int32.not_lt.mp h5, Int32.not_lt.mp h6⟩]
              exact m_famloop hlt hk5 (fun g => ⟨_, rfl, congrArg Value.int hp.symm, g, rfl⟩) (k + 1) 0 f _ _ _ (by omega) ha c8 c10 c12 c13 c14 c15
