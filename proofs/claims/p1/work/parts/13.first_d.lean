set_option maxHeartbeats 4000000 in
set_option maxRecDepth 100000 in
theorem f_lift {Z : zk_Z} {w s : Nat} {f : Nat → Option zk_E} {a n : Nat} (ha : f (a) = some (.inr (.inr (6, [.ref n, .ref (n + 7), .ref (n + 9), .ref (n + 10), .ref (n + 17), .int (-1), .int (-1), .int (-1), .int (-1)])))) (ht : f (n) = some (.inr (.inr (1, [.ref (n + 1), .ref (n + 3), .ref (n + 5), .int 0])))) (hq0 : f (n + 1) = some (.inr (.inr (0, [.int 46000, .ref (n + 2), .int 0])))) (hr0 : f (n + 2) = some (.inl (256, fun _ => 0))) (hq1 : f (n + 3) = some (.inr (.inr (0, [.int 3000, .ref (n + 4), .int 0])))) (hr1 : f (n + 4) = some (.inl (256, fun _ => 0))) (hg : f (n + 7) = some (.inr (.inr (2, [.ref (n + 8), .int 0])))) (hga : f (n + 8) = some (.inr (.inl (1, 60, fun _ => none)))) (hlt : a < n) (hw : n + 20 ≤ w) {x y : Int32} : zk_Kr Z mm_Cm_lift [.ref a, .int x, .int y] (w, s, f) (fun v M' => v = .int (-1) ∧ p1_po w s n f M') := by
  refine zk_enterB (by decide) (Nat.le_of_ble_eq_true rfl) rfl ?_
  show zk_P Z mm_Cm_lift 0 [some (.ref a), some (.int x), some (.int y)] [] (w, s, f) _
  refine zk_aload_0 1 dc_Cm_lift_0 rfl rfl ?_
  refine zk_getfield 4 dc_Cm_lift_1 fg_Cm_10 ha rfl rfl ?_
  refine zk_iload_1 5 dc_Cm_lift_4 rfl rfl ?_
  refine zk_cVr 8 (c_has ht hq1) dc_Cm_lift_5 ok_CmTerms_has lk_Cm_81 ht rfl rfl rfl ⟨Nat.le_of_ble_eq_true rfl, Nat.le_of_ble_eq_true rfl⟩ (Nat.le_of_ble_eq_true rfl) rfl (fun v M1 hk => ?_)
  obtain ⟨rfl, rfl⟩ := hk
  refine zk_if_eq 30 11 dc_Cm_lift_8 (by decide) rfl (fun hx => ?_) (fun hx => by first | exact absurd hx rfl | exact absurd rfl hx)
  refine zk_iconst (v := -1) 31 dc_Cm_lift_30 (by decide) rfl ?_
  exact zk_ireturn dc_Cm_lift_31 rfl (by first | rfl | decide) ⟨_, rfl, rfl, p1_same⟩
set_option maxHeartbeats 4000000 in
set_option maxRecDepth 100000 in
theorem f_def {Z : zk_Z} {w s : Nat} {f : Nat → Option zk_E} {a n : Nat} (ha : f (a) = some (.inr (.inr (6, [.ref n, .ref (n + 7), .ref (n + 9), .ref (n + 10), .ref (n + 17), .int (-1), .int (-1), .int (-1), .int (-1)])))) (ht : f (n) = some (.inr (.inr (1, [.ref (n + 1), .ref (n + 3), .ref (n + 5), .int 0])))) (hq0 : f (n + 1) = some (.inr (.inr (0, [.int 46000, .ref (n + 2), .int 0])))) (hr0 : f (n + 2) = some (.inl (256, fun _ => 0))) (hq1 : f (n + 3) = some (.inr (.inr (0, [.int 3000, .ref (n + 4), .int 0])))) (hr1 : f (n + 4) = some (.inl (256, fun _ => 0))) (hg : f (n + 7) = some (.inr (.inr (2, [.ref (n + 8), .int 0])))) (hga : f (n + 8) = some (.inr (.inl (1, 60, fun _ => none)))) (hlt : a < n) (hw : n + 20 ≤ w) {x : Int32} : zk_Kr Z mm_Cm_def [.ref a, .int x] (w, s, f) (fun v M' => v = .int (-1) ∧ p1_po w s n f M') := by
  refine zk_enterB (by decide) (Nat.le_of_ble_eq_true rfl) rfl ?_
  show zk_P Z mm_Cm_def 0 [some (.ref a), some (.int x), none] [] (w, s, f) _
  refine zk_aload_0 1 dc_Cm_def_0 rfl rfl ?_
  refine zk_getfield 4 dc_Cm_def_1 fg_Cm_10 ha rfl rfl ?_
  refine zk_iload_1 5 dc_Cm_def_4 rfl rfl ?_
  refine zk_cVr 8 (c_has ht hq1) dc_Cm_def_5 ok_CmTerms_has lk_Cm_81 ht rfl rfl rfl ⟨Nat.le_of_ble_eq_true rfl, Nat.le_of_ble_eq_true rfl⟩ (Nat.le_of_ble_eq_true rfl) rfl (fun v M1 hk => ?_)
  obtain ⟨rfl, rfl⟩ := hk
  refine zk_if_eq 33 11 dc_Cm_def_8 (by decide) rfl (fun hx => ?_) (fun hx => by first | exact absurd hx rfl | exact absurd rfl hx)
  refine zk_iconst (v := -1) 34 dc_Cm_def_33 (by decide) rfl ?_
  exact zk_ireturn dc_Cm_def_34 rfl (by first | rfl | decide) ⟨_, rfl, rfl, p1_same⟩
set_option maxHeartbeats 4000000 in
set_option maxRecDepth 100000 in
theorem f_head {Z : zk_Z} {w s : Nat} {f : Nat → Option zk_E} {a n : Nat} (ha : f (a) = some (.inr (.inr (6, [.ref n, .ref (n + 7), .ref (n + 9), .ref (n + 10), .ref (n + 17), .int (-1), .int (-1), .int (-1), .int (-1)])))) (ht : f (n) = some (.inr (.inr (1, [.ref (n + 1), .ref (n + 3), .ref (n + 5), .int 0])))) (hq0 : f (n + 1) = some (.inr (.inr (0, [.int 46000, .ref (n + 2), .int 0])))) (hr0 : f (n + 2) = some (.inl (256, fun _ => 0))) (hq1 : f (n + 3) = some (.inr (.inr (0, [.int 3000, .ref (n + 4), .int 0])))) (hr1 : f (n + 4) = some (.inl (256, fun _ => 0))) (hg : f (n + 7) = some (.inr (.inr (2, [.ref (n + 8), .int 0])))) (hga : f (n + 8) = some (.inr (.inl (1, 60, fun _ => none)))) (hlt : a < n) (hw : n + 20 ≤ w) {x y : Int32} : zk_Kr Z mm_Cm_head [.ref a, .int x, .int y] (w, s, f) (fun v M' => v = .int (-1) ∧ p1_po w s n f M') := by
  refine zk_enterB (by decide) (Nat.le_of_ble_eq_true rfl) rfl ?_
  show zk_P Z mm_Cm_head 0 [some (.ref a), some (.int x), some (.int y)] [] (w, s, f) _
  refine zk_aload_0 1 dc_Cm_head_0 rfl rfl ?_
  refine zk_getfield 4 dc_Cm_head_1 fg_Cm_10 ha rfl rfl ?_
  refine zk_iload_1 5 dc_Cm_head_4 rfl rfl ?_
  refine zk_cVr 8 (c_has ht hq1) dc_Cm_head_5 ok_CmTerms_has lk_Cm_81 ht rfl rfl rfl ⟨Nat.le_of_ble_eq_true rfl, Nat.le_of_ble_eq_true rfl⟩ (Nat.le_of_ble_eq_true rfl) rfl (fun v M1 hk => ?_)
  obtain ⟨rfl, rfl⟩ := hk
  refine zk_if_eq 23 11 dc_Cm_head_8 (by decide) rfl (fun hx => ?_) (fun hx => by first | exact absurd hx rfl | exact absurd rfl hx)
  refine zk_iconst (v := -1) 24 dc_Cm_head_23 (by decide) rfl ?_
  exact zk_ireturn dc_Cm_head_24 rfl (by first | rfl | decide) ⟨_, rfl, rfl, p1_same⟩
set_option maxHeartbeats 4000000 in
set_option maxRecDepth 100000 in
theorem f_normal {Z : zk_Z} {w s : Nat} {f : Nat → Option zk_E} {a n : Nat} (ha : f (a) = some (.inr (.inr (6, [.ref n, .ref (n + 7), .ref (n + 9), .ref (n + 10), .ref (n + 17), .int (-1), .int (-1), .int (-1), .int (-1)])))) (ht : f (n) = some (.inr (.inr (1, [.ref (n + 1), .ref (n + 3), .ref (n + 5), .int 0])))) (hq0 : f (n + 1) = some (.inr (.inr (0, [.int 46000, .ref (n + 2), .int 0])))) (hr0 : f (n + 2) = some (.inl (256, fun _ => 0))) (hq1 : f (n + 3) = some (.inr (.inr (0, [.int 3000, .ref (n + 4), .int 0])))) (hr1 : f (n + 4) = some (.inl (256, fun _ => 0))) (hg : f (n + 7) = some (.inr (.inr (2, [.ref (n + 8), .int 0])))) (hga : f (n + 8) = some (.inr (.inl (1, 60, fun _ => none)))) (hlt : a < n) (hw : n + 20 ≤ w) {x y : Int32} : zk_Kr Z mm_Cm_normal [.ref a, .int x, .int y] (w, s, f) (fun v M' => v = .int (-1) ∧ p1_po w s n f M') := by
  refine zk_enterB (by decide) (Nat.le_of_ble_eq_true rfl) rfl ?_
  show zk_P Z mm_Cm_normal 0 [some (.ref a), some (.int x), some (.int y), none, none, none, none] [] (w, s, f) _
  refine zk_aload_0 1 dc_Cm_normal_0 rfl rfl ?_
  refine zk_getfield 4 dc_Cm_normal_1 fg_Cm_10 ha rfl rfl ?_
  refine zk_iload_1 5 dc_Cm_normal_4 rfl rfl ?_
  refine zk_cVr 8 (c_has ht hq1) dc_Cm_normal_5 ok_CmTerms_has lk_Cm_81 ht rfl rfl rfl ⟨Nat.le_of_ble_eq_true rfl, Nat.le_of_ble_eq_true rfl⟩ (Nat.le_of_ble_eq_true rfl) rfl (fun v M1 hk => ?_)
  obtain ⟨rfl, rfl⟩ := hk
  refine zk_if_eq 23 11 dc_Cm_normal_8 (by decide) rfl (fun hx => ?_) (fun hx => by first | exact absurd hx rfl | exact absurd rfl hx)
  refine zk_iconst (v := -1) 24 dc_Cm_normal_23 (by decide) rfl ?_
  exact zk_ireturn dc_Cm_normal_24 rfl (by first | rfl | decide) ⟨_, rfl, rfl, p1_same⟩
set_option maxHeartbeats 4000000 in
set_option maxRecDepth 100000 in
theorem f_part {Z : zk_Z} {w s : Nat} {f : Nat → Option zk_E} {a n : Nat} (ha : f (a) = some (.inr (.inr (6, [.ref n, .ref (n + 7), .ref (n + 9), .ref (n + 10), .ref (n + 17), .int (-1), .int (-1), .int (-1), .int (-1)])))) (ht : f (n) = some (.inr (.inr (1, [.ref (n + 1), .ref (n + 3), .ref (n + 5), .int 0])))) (hq0 : f (n + 1) = some (.inr (.inr (0, [.int 46000, .ref (n + 2), .int 0])))) (hr0 : f (n + 2) = some (.inl (256, fun _ => 0))) (hq1 : f (n + 3) = some (.inr (.inr (0, [.int 3000, .ref (n + 4), .int 0])))) (hr1 : f (n + 4) = some (.inl (256, fun _ => 0))) (hg : f (n + 7) = some (.inr (.inr (2, [.ref (n + 8), .int 0])))) (hga : f (n + 8) = some (.inr (.inl (1, 60, fun _ => none)))) (hlt : a < n) (hw : n + 20 ≤ w) {x y z : Int32} : zk_Kr Z mm_Cm_part [.ref a, .int x, .int y, .int z] (w, s, f) (fun v M' => v = .int (-1) ∧ p1_po w s n f M') := by
  refine zk_enterB (by decide) (Nat.le_of_ble_eq_true rfl) rfl ?_
  show zk_P Z mm_Cm_part 0 [some (.ref a), some (.int x), some (.int y), some (.int z), none] [] (w, s, f) _
  refine zk_aload_0 1 dc_Cm_part_0 rfl rfl ?_
  refine zk_getfield 4 dc_Cm_part_1 fg_Cm_10 ha rfl rfl ?_
  refine zk_iload_1 5 dc_Cm_part_4 rfl rfl ?_
  refine zk_cVr 8 (c_has ht hq1) dc_Cm_part_5 ok_CmTerms_has lk_Cm_81 ht rfl rfl rfl ⟨Nat.le_of_ble_eq_true rfl, Nat.le_of_ble_eq_true rfl⟩ (Nat.le_of_ble_eq_true rfl) rfl (fun v M1 hk => ?_)
  obtain ⟨rfl, rfl⟩ := hk
  refine zk_if_eq 27 11 dc_Cm_part_8 (by decide) rfl (fun hx => ?_) (fun hx => by first | exact absurd hx rfl | exact absurd rfl hx)
  refine zk_iconst (v := -1) 28 dc_Cm_part_27 (by decide) rfl ?_
  exact zk_ireturn dc_Cm_part_28 rfl (by first | rfl | decide) ⟨_, rfl, rfl, p1_same⟩
set_option maxHeartbeats 4000000 in
set_option maxRecDepth 100000 in
theorem f_cost {Z : zk_Z} {w s : Nat} {f : Nat → Option zk_E} {a n : Nat} (ha : f (a) = some (.inr (.inr (6, [.ref n, .ref (n + 7), .ref (n + 9), .ref (n + 10), .ref (n + 17), .int (-1), .int (-1), .int (-1), .int (-1)])))) (ht : f (n) = some (.inr (.inr (1, [.ref (n + 1), .ref (n + 3), .ref (n + 5), .int 0])))) (hq0 : f (n + 1) = some (.inr (.inr (0, [.int 46000, .ref (n + 2), .int 0])))) (hr0 : f (n + 2) = some (.inl (256, fun _ => 0))) (hq1 : f (n + 3) = some (.inr (.inr (0, [.int 3000, .ref (n + 4), .int 0])))) (hr1 : f (n + 4) = some (.inl (256, fun _ => 0))) (hg : f (n + 7) = some (.inr (.inr (2, [.ref (n + 8), .int 0])))) (hga : f (n + 8) = some (.inr (.inl (1, 60, fun _ => none)))) (hlt : a < n) (hw : n + 20 ≤ w)  : zk_Kr Z mm_Cm_cost [.ref a] (w, s, f) (fun v M' => v = .int (-1) ∧ p1_po w s n f M') := by
  refine zk_enterB (by decide) (Nat.le_of_ble_eq_true rfl) rfl ?_
  show zk_P Z mm_Cm_cost 0 [some (.ref a)] [] (w, s, f) _
  refine zk_aload_0 1 dc_Cm_cost_0 rfl rfl ?_
  refine zk_getfield 4 dc_Cm_cost_1 fg_Cm_50 ha rfl rfl ?_
  exact zk_ireturn dc_Cm_cost_4 rfl (by first | rfl | decide) ⟨_, rfl, rfl, p1_same⟩
set_option maxHeartbeats 4000000 in
set_option maxRecDepth 100000 in
theorem f_terms {Z : zk_Z} {w s : Nat} {f : Nat → Option zk_E} {a n : Nat} (ha : f (a) = some (.inr (.inr (6, [.ref n, .ref (n + 7), .ref (n + 9), .ref (n + 10), .ref (n + 17), .int (-1), .int (-1), .int (-1), .int (-1)])))) (ht : f (n) = some (.inr (.inr (1, [.ref (n + 1), .ref (n + 3), .ref (n + 5), .int 0])))) (hq0 : f (n + 1) = some (.inr (.inr (0, [.int 46000, .ref (n + 2), .int 0])))) (hr0 : f (n + 2) = some (.inl (256, fun _ => 0))) (hq1 : f (n + 3) = some (.inr (.inr (0, [.int 3000, .ref (n + 4), .int 0])))) (hr1 : f (n + 4) = some (.inl (256, fun _ => 0))) (hg : f (n + 7) = some (.inr (.inr (2, [.ref (n + 8), .int 0])))) (hga : f (n + 8) = some (.inr (.inl (1, 60, fun _ => none)))) (hlt : a < n) (hw : n + 20 ≤ w)  : zk_Kr Z mm_Cm_terms [.ref a] (w, s, f) (fun v M' => v = .int (0) ∧ p1_po w s n f M') := by
  refine zk_enterB (by decide) (Nat.le_of_ble_eq_true rfl) rfl ?_
  show zk_P Z mm_Cm_terms 0 [some (.ref a)] [] (w, s, f) _
  refine zk_aload_0 1 dc_Cm_terms_0 rfl rfl ?_
  refine zk_getfield 4 dc_Cm_terms_1 fg_Cm_10 ha rfl rfl ?_
  refine zk_cVr 7 (c_count ht hq1) dc_Cm_terms_4 ok_CmTerms_count lk_Cm_187 ht rfl rfl rfl ⟨Nat.le_of_ble_eq_true rfl, Nat.le_of_ble_eq_true rfl⟩ (Nat.le_of_ble_eq_true rfl) rfl (fun v M1 hk => ?_)
  obtain ⟨rfl, rfl⟩ := hk
  exact zk_ireturn dc_Cm_terms_7 rfl (by first | rfl | decide) ⟨_, rfl, rfl, p1_same⟩
set_option maxHeartbeats 4000000 in
set_option maxRecDepth 100000 in
theorem f_join {Z : zk_Z} {w s : Nat} {f : Nat → Option zk_E} {a n : Nat} (ha : f (a) = some (.inr (.inr (6, [.ref n, .ref (n + 7), .ref (n + 9), .ref (n + 10), .ref (n + 17), .int (-1), .int (-1), .int (-1), .int (-1)])))) (ht : f (n) = some (.inr (.inr (1, [.ref (n + 1), .ref (n + 3), .ref (n + 5), .int 0])))) (hq0 : f (n + 1) = some (.inr (.inr (0, [.int 46000, .ref (n + 2), .int 0])))) (hr0 : f (n + 2) = some (.inl (256, fun _ => 0))) (hq1 : f (n + 3) = some (.inr (.inr (0, [.int 3000, .ref (n + 4), .int 0])))) (hr1 : f (n + 4) = some (.inl (256, fun _ => 0))) (hg : f (n + 7) = some (.inr (.inr (2, [.ref (n + 8), .int 0])))) (hga : f (n + 8) = some (.inr (.inl (1, 60, fun _ => none)))) (hlt : a < n) (hw : n + 20 ≤ w) {x y z : Int32} : zk_Kr Z mm_Cm_join [.ref a, .int x, .int y, .int z] (w, s, f) (fun v M' => v = .int (-1) ∧ p1_po w s n f M') := by
  refine zk_enterB (by decide) (Nat.le_of_ble_eq_true rfl) rfl ?_
  show zk_P Z mm_Cm_join 0 [some (.ref a), some (.int x), some (.int y), some (.int z)] [] (w, s, f) _
  refine zk_iload_1 1 dc_Cm_join_0 rfl rfl ?_
  refine zk_iconst (v := 4) 2 dc_Cm_join_1 (by decide) rfl ?_
  refine zk_icmp_eq 13 5 dc_Cm_join_2 (by decide) rfl (fun hc => ?_) (fun hc => ?_)
  · refine zk_aload_0 14 dc_Cm_join_13 rfl rfl ?_
    refine zk_getfield 17 dc_Cm_join_14 fg_Cm_10 ha rfl rfl ?_
    refine zk_iload_2 18 dc_Cm_join_17 rfl rfl ?_
    refine zk_cVr 21 (c_has ht hq1) dc_Cm_join_18 ok_CmTerms_has lk_Cm_81 ht rfl rfl rfl ⟨Nat.le_of_ble_eq_true rfl, Nat.le_of_ble_eq_true rfl⟩ (Nat.le_of_ble_eq_true rfl) rfl (fun v M1 hk => ?_)
    obtain ⟨rfl, rfl⟩ := hk
    refine zk_if_eq 49 24 dc_Cm_join_21 (by decide) rfl (fun hx => ?_) (fun hx => by first | exact absurd hx rfl | exact absurd rfl hx)
    refine zk_iconst (v := -1) 50 dc_Cm_join_49 (by decide) rfl ?_
    exact zk_ireturn dc_Cm_join_50 rfl (by first | rfl | decide) ⟨_, rfl, rfl, p1_same⟩
  · refine zk_iload_1 6 dc_Cm_join_5 rfl rfl ?_
    refine zk_bipush (v := 9) 8 dc_Cm_join_6 (by decide) rfl ?_
    refine zk_icmp_eq 13 11 dc_Cm_join_8 (by decide) rfl (fun hc => ?_) (fun hc => ?_)
    · refine zk_aload_0 14 dc_Cm_join_13 rfl rfl ?_
      refine zk_getfield 17 dc_Cm_join_14 fg_Cm_10 ha rfl rfl ?_
      refine zk_iload_2 18 dc_Cm_join_17 rfl rfl ?_
      refine zk_cVr 21 (c_has ht hq1) dc_Cm_join_18 ok_CmTerms_has lk_Cm_81 ht rfl rfl rfl ⟨Nat.le_of_ble_eq_true rfl, Nat.le_of_ble_eq_true rfl⟩ (Nat.le_of_ble_eq_true rfl) rfl (fun v M1 hk => ?_)
      obtain ⟨rfl, rfl⟩ := hk
      refine zk_if_eq 49 24 dc_Cm_join_21 (by decide) rfl (fun hx => ?_) (fun hx => by first | exact absurd hx rfl | exact absurd rfl hx)
      refine zk_iconst (v := -1) 50 dc_Cm_join_49 (by decide) rfl ?_
      exact zk_ireturn dc_Cm_join_50 rfl (by first | rfl | decide) ⟨_, rfl, rfl, p1_same⟩
    · refine zk_iconst (v := -1) 12 dc_Cm_join_11 (by decide) rfl ?_
      exact zk_ireturn dc_Cm_join_12 rfl (by first | rfl | decide) ⟨_, rfl, rfl, p1_same⟩
set_option maxHeartbeats 4000000 in
set_option maxRecDepth 100000 in
theorem f_binder {Z : zk_Z} {w s : Nat} {f : Nat → Option zk_E} {a n : Nat} (ha : f (a) = some (.inr (.inr (6, [.ref n, .ref (n + 7), .ref (n + 9), .ref (n + 10), .ref (n + 17), .int (-1), .int (-1), .int (-1), .int (-1)])))) (ht : f (n) = some (.inr (.inr (1, [.ref (n + 1), .ref (n + 3), .ref (n + 5), .int 0])))) (hq0 : f (n + 1) = some (.inr (.inr (0, [.int 46000, .ref (n + 2), .int 0])))) (hr0 : f (n + 2) = some (.inl (256, fun _ => 0))) (hq1 : f (n + 3) = some (.inr (.inr (0, [.int 3000, .ref (n + 4), .int 0])))) (hr1 : f (n + 4) = some (.inl (256, fun _ => 0))) (hg : f (n + 7) = some (.inr (.inr (2, [.ref (n + 8), .int 0])))) (hga : f (n + 8) = some (.inr (.inl (1, 60, fun _ => none)))) (hlt : a < n) (hw : n + 20 ≤ w) {x y z u : Int32} : zk_Kr Z mm_Cm_binder [.ref a, .int x, .int y, .int z, .int u] (w, s, f) (fun v M' => v = .int (-1) ∧ p1_po w s n f M') := by
  refine zk_enterB (by decide) (Nat.le_of_ble_eq_true rfl) rfl ?_
  show zk_P Z mm_Cm_binder 0 [some (.ref a), some (.int x), some (.int y), some (.int z), some (.int u)] [] (w, s, f) _
  refine zk_iload_1 1 dc_Cm_binder_0 rfl rfl ?_
  refine zk_iconst (v := 5) 2 dc_Cm_binder_1 (by decide) rfl ?_
  refine zk_icmp_eq 19 5 dc_Cm_binder_2 (by decide) rfl (fun hc => ?_) (fun hc => ?_)
  · refine zk_iload_2 20 dc_Cm_binder_19 rfl rfl ?_
    refine zk_iconst (v := -1) 21 dc_Cm_binder_20 (by decide) rfl ?_
    refine zk_icmp_eq 36 24 dc_Cm_binder_21 (by decide) rfl (fun hc => ?_) (fun hc => ?_)
    · refine zk_aload_0 37 dc_Cm_binder_36 rfl rfl ?_
      refine zk_getfield 40 dc_Cm_binder_37 fg_Cm_10 ha rfl rfl ?_
      refine zk_iload_3 41 dc_Cm_binder_40 rfl rfl ?_
      refine zk_cVr 44 (c_has ht hq1) dc_Cm_binder_41 ok_CmTerms_has lk_Cm_81 ht rfl rfl rfl ⟨Nat.le_of_ble_eq_true rfl, Nat.le_of_ble_eq_true rfl⟩ (Nat.le_of_ble_eq_true rfl) rfl (fun v M1 hk => ?_)
      obtain ⟨rfl, rfl⟩ := hk
      refine zk_if_eq 74 47 dc_Cm_binder_44 (by decide) rfl (fun hx => ?_) (fun hx => by first | exact absurd hx rfl | exact absurd rfl hx)
      refine zk_iconst (v := -1) 75 dc_Cm_binder_74 (by decide) rfl ?_
      exact zk_ireturn dc_Cm_binder_75 rfl (by first | rfl | decide) ⟨_, rfl, rfl, p1_same⟩
    · refine zk_iload_2 25 dc_Cm_binder_24 rfl rfl ?_
      refine zk_if_lt 34 28 dc_Cm_binder_25 (by decide) rfl (fun hc => ?_) (fun hc => ?_)
      · refine zk_iconst (v := -1) 35 dc_Cm_binder_34 (by decide) rfl ?_
        exact zk_ireturn dc_Cm_binder_35 rfl (by first | rfl | decide) ⟨_, rfl, rfl, p1_same⟩
      · refine zk_iload_2 29 dc_Cm_binder_28 rfl rfl ?_
        refine zk_bipush (v := 99) 31 dc_Cm_binder_29 (by decide) rfl ?_
        refine zk_icmp_le 36 34 dc_Cm_binder_31 (by decide) rfl (fun hc => ?_) (fun hc => ?_)
        · refine zk_aload_0 37 dc_Cm_binder_36 rfl rfl ?_
          refine zk_getfield 40 dc_Cm_binder_37 fg_Cm_10 ha rfl rfl ?_
          refine zk_iload_3 41 dc_Cm_binder_40 rfl rfl ?_
          refine zk_cVr 44 (c_has ht hq1) dc_Cm_binder_41 ok_CmTerms_has lk_Cm_81 ht rfl rfl rfl ⟨Nat.le_of_ble_eq_true rfl, Nat.le_of_ble_eq_true rfl⟩ (Nat.le_of_ble_eq_true rfl) rfl (fun v M1 hk => ?_)
          obtain ⟨rfl, rfl⟩ := hk
          refine zk_if_eq 74 47 dc_Cm_binder_44 (by decide) rfl (fun hx => ?_) (fun hx => by first | exact absurd hx rfl | exact absurd rfl hx)
          refine zk_iconst (v := -1) 75 dc_Cm_binder_74 (by decide) rfl ?_
          exact zk_ireturn dc_Cm_binder_75 rfl (by first | rfl | decide) ⟨_, rfl, rfl, p1_same⟩
        · refine zk_iconst (v := -1) 35 dc_Cm_binder_34 (by decide) rfl ?_
          exact zk_ireturn dc_Cm_binder_35 rfl (by first | rfl | decide) ⟨_, rfl, rfl, p1_same⟩
  · refine zk_iload_1 6 dc_Cm_binder_5 rfl rfl ?_
    refine zk_bipush (v := 6) 8 dc_Cm_binder_6 (by decide) rfl ?_
    refine zk_icmp_eq 19 11 dc_Cm_binder_8 (by decide) rfl (fun hc => ?_) (fun hc => ?_)
    · refine zk_iload_2 20 dc_Cm_binder_19 rfl rfl ?_
      refine zk_iconst (v := -1) 21 dc_Cm_binder_20 (by decide) rfl ?_
      refine zk_icmp_eq 36 24 dc_Cm_binder_21 (by decide) rfl (fun hc => ?_) (fun hc => ?_)
      · refine zk_aload_0 37 dc_Cm_binder_36 rfl rfl ?_
        refine zk_getfield 40 dc_Cm_binder_37 fg_Cm_10 ha rfl rfl ?_
        refine zk_iload_3 41 dc_Cm_binder_40 rfl rfl ?_
        refine zk_cVr 44 (c_has ht hq1) dc_Cm_binder_41 ok_CmTerms_has lk_Cm_81 ht rfl rfl rfl ⟨Nat.le_of_ble_eq_true rfl, Nat.le_of_ble_eq_true rfl⟩ (Nat.le_of_ble_eq_true rfl) rfl (fun v M1 hk => ?_)
        obtain ⟨rfl, rfl⟩ := hk
        refine zk_if_eq 74 47 dc_Cm_binder_44 (by decide) rfl (fun hx => ?_) (fun hx => by first | exact absurd hx rfl | exact absurd rfl hx)
        refine zk_iconst (v := -1) 75 dc_Cm_binder_74 (by decide) rfl ?_
        exact zk_ireturn dc_Cm_binder_75 rfl (by first | rfl | decide) ⟨_, rfl, rfl, p1_same⟩
      · refine zk_iload_2 25 dc_Cm_binder_24 rfl rfl ?_
        refine zk_if_lt 34 28 dc_Cm_binder_25 (by decide) rfl (fun hc => ?_) (fun hc => ?_)
        · refine zk_iconst (v := -1) 35 dc_Cm_binder_34 (by decide) rfl ?_
          exact zk_ireturn dc_Cm_binder_35 rfl (by first | rfl | decide) ⟨_, rfl, rfl, p1_same⟩
        · refine zk_iload_2 29 dc_Cm_binder_28 rfl rfl ?_
          refine zk_bipush (v := 99) 31 dc_Cm_binder_29 (by decide) rfl ?_
          refine zk_icmp_le 36 34 dc_Cm_binder_31 (by decide) rfl (fun hc => ?_) (fun hc => ?_)
          · refine zk_aload_0 37 dc_Cm_binder_36 rfl rfl ?_
            refine zk_getfield 40 dc_Cm_binder_37 fg_Cm_10 ha rfl rfl ?_
            refine zk_iload_3 41 dc_Cm_binder_40 rfl rfl ?_
            refine zk_cVr 44 (c_has ht hq1) dc_Cm_binder_41 ok_CmTerms_has lk_Cm_81 ht rfl rfl rfl ⟨Nat.le_of_ble_eq_true rfl, Nat.le_of_ble_eq_true rfl⟩ (Nat.le_of_ble_eq_true rfl) rfl (fun v M1 hk => ?_)
            obtain ⟨rfl, rfl⟩ := hk
            refine zk_if_eq 74 47 dc_Cm_binder_44 (by decide) rfl (fun hx => ?_) (fun hx => by first | exact absurd hx rfl | exact absurd rfl hx)
            refine zk_iconst (v := -1) 75 dc_Cm_binder_74 (by decide) rfl ?_
            exact zk_ireturn dc_Cm_binder_75 rfl (by first | rfl | decide) ⟨_, rfl, rfl, p1_same⟩
          · refine zk_iconst (v := -1) 35 dc_Cm_binder_34 (by decide) rfl ?_
            exact zk_ireturn dc_Cm_binder_35 rfl (by first | rfl | decide) ⟨_, rfl, rfl, p1_same⟩
    · refine zk_iload_1 12 dc_Cm_binder_11 rfl rfl ?_
      refine zk_bipush (v := 7) 14 dc_Cm_binder_12 (by decide) rfl ?_
      refine zk_icmp_eq 19 17 dc_Cm_binder_14 (by decide) rfl (fun hc => ?_) (fun hc => ?_)
      · refine zk_iload_2 20 dc_Cm_binder_19 rfl rfl ?_
        refine zk_iconst (v := -1) 21 dc_Cm_binder_20 (by decide) rfl ?_
        refine zk_icmp_eq 36 24 dc_Cm_binder_21 (by decide) rfl (fun hc => ?_) (fun hc => ?_)
        · refine zk_aload_0 37 dc_Cm_binder_36 rfl rfl ?_
          refine zk_getfield 40 dc_Cm_binder_37 fg_Cm_10 ha rfl rfl ?_
          refine zk_iload_3 41 dc_Cm_binder_40 rfl rfl ?_
          refine zk_cVr 44 (c_has ht hq1) dc_Cm_binder_41 ok_CmTerms_has lk_Cm_81 ht rfl rfl rfl ⟨Nat.le_of_ble_eq_true rfl, Nat.le_of_ble_eq_true rfl⟩ (Nat.le_of_ble_eq_true rfl) rfl (fun v M1 hk => ?_)
          obtain ⟨rfl, rfl⟩ := hk
          refine zk_if_eq 74 47 dc_Cm_binder_44 (by decide) rfl (fun hx => ?_) (fun hx => by first | exact absurd hx rfl | exact absurd rfl hx)
          refine zk_iconst (v := -1) 75 dc_Cm_binder_74 (by decide) rfl ?_
          exact zk_ireturn dc_Cm_binder_75 rfl (by first | rfl | decide) ⟨_, rfl, rfl, p1_same⟩
        · refine zk_iload_2 25 dc_Cm_binder_24 rfl rfl ?_
          refine zk_if_lt 34 28 dc_Cm_binder_25 (by decide) rfl (fun hc => ?_) (fun hc => ?_)
          · refine zk_iconst (v := -1) 35 dc_Cm_binder_34 (by decide) rfl ?_
            exact zk_ireturn dc_Cm_binder_35 rfl (by first | rfl | decide) ⟨_, rfl, rfl, p1_same⟩
          · refine zk_iload_2 29 dc_Cm_binder_28 rfl rfl ?_
            refine zk_bipush (v := 99) 31 dc_Cm_binder_29 (by decide) rfl ?_
            refine zk_icmp_le 36 34 dc_Cm_binder_31 (by decide) rfl (fun hc => ?_) (fun hc => ?_)
            · refine zk_aload_0 37 dc_Cm_binder_36 rfl rfl ?_
              refine zk_getfield 40 dc_Cm_binder_37 fg_Cm_10 ha rfl rfl ?_
              refine zk_iload_3 41 dc_Cm_binder_40 rfl rfl ?_
              refine zk_cVr 44 (c_has ht hq1) dc_Cm_binder_41 ok_CmTerms_has lk_Cm_81 ht rfl rfl rfl ⟨Nat.le_of_ble_eq_true rfl, Nat.le_of_ble_eq_true rfl⟩ (Nat.le_of_ble_eq_true rfl) rfl (fun v M1 hk => ?_)
              obtain ⟨rfl, rfl⟩ := hk
              refine zk_if_eq 74 47 dc_Cm_binder_44 (by decide) rfl (fun hx => ?_) (fun hx => by first | exact absurd hx rfl | exact absurd rfl hx)
              refine zk_iconst (v := -1) 75 dc_Cm_binder_74 (by decide) rfl ?_
              exact zk_ireturn dc_Cm_binder_75 rfl (by first | rfl | decide) ⟨_, rfl, rfl, p1_same⟩
            · refine zk_iconst (v := -1) 35 dc_Cm_binder_34 (by decide) rfl ?_
              exact zk_ireturn dc_Cm_binder_35 rfl (by first | rfl | decide) ⟨_, rfl, rfl, p1_same⟩
      · refine zk_iconst (v := -1) 18 dc_Cm_binder_17 (by decide) rfl ?_
        exact zk_ireturn dc_Cm_binder_18 rfl (by first | rfl | decide) ⟨_, rfl, rfl, p1_same⟩
set_option maxHeartbeats 4000000 in
set_option maxRecDepth 100000 in
theorem f_constructor {Z : zk_Z} {w s : Nat} {f : Nat → Option zk_E} {a n : Nat} (ha : f (a) = some (.inr (.inr (6, [.ref n, .ref (n + 7), .ref (n + 9), .ref (n + 10), .ref (n + 17), .int (-1), .int (-1), .int (-1), .int (-1)])))) (ht : f (n) = some (.inr (.inr (1, [.ref (n + 1), .ref (n + 3), .ref (n + 5), .int 0])))) (hq0 : f (n + 1) = some (.inr (.inr (0, [.int 46000, .ref (n + 2), .int 0])))) (hr0 : f (n + 2) = some (.inl (256, fun _ => 0))) (hq1 : f (n + 3) = some (.inr (.inr (0, [.int 3000, .ref (n + 4), .int 0])))) (hr1 : f (n + 4) = some (.inl (256, fun _ => 0))) (hg : f (n + 7) = some (.inr (.inr (2, [.ref (n + 8), .int 0])))) (hga : f (n + 8) = some (.inr (.inl (1, 60, fun _ => none)))) (hlt : a < n) (hw : n + 20 ≤ w) {x y : Int32} : zk_Kr Z mm_Cm_constructor [.ref a, .int x, .int y] (w, s, f) (fun v M' => v = .int (-1) ∧ p1_po w s n f M') := by
  refine zk_enterB (by decide) (Nat.le_of_ble_eq_true rfl) rfl ?_
  show zk_P Z mm_Cm_constructor 0 [some (.ref a), some (.int x), some (.int y), none, none, none] [] (w, s, f) _
  refine zk_aload_0 1 dc_Cm_constructor_0 rfl rfl ?_
  refine zk_getfield 4 dc_Cm_constructor_1 fg_Cm_19 ha rfl rfl ?_
  refine zk_iload_1 5 dc_Cm_constructor_4 rfl rfl ?_
  refine zk_iconst (v := 3) 6 dc_Cm_constructor_5 (by decide) rfl ?_
  refine zk_cVr 9 (c_ofKind hg) dc_Cm_constructor_6 ok_CmGlobals_ofKind lk_Cm_73 hg rfl rfl rfl ⟨Nat.le_of_ble_eq_true rfl, Nat.le_of_ble_eq_true rfl⟩ (Nat.le_of_ble_eq_true rfl) rfl (fun v M1 hk => ?_)
  obtain ⟨rfl, rfl⟩ := hk
  refine zk_astoreN_3 10 dc_Cm_constructor_9 (Nat.le_of_ble_eq_true rfl) rfl ?_
  refine zk_aloadN_3 11 dc_Cm_constructor_10 rfl rfl ?_
  refine zk_ifnullN 43 dc_Cm_constructor_11 (by decide) ?_
  refine zk_iconst (v := -1) 44 dc_Cm_constructor_43 (by decide) rfl ?_
  exact zk_ireturn dc_Cm_constructor_44 rfl (by first | rfl | decide) ⟨_, rfl, rfl, p1_same⟩
set_option maxHeartbeats 4000000 in
set_option maxRecDepth 100000 in
theorem f_found {Z : zk_Z} {w s : Nat} {f : Nat → Option zk_E} {a n : Nat} (ha : f (a) = some (.inr (.inr (6, [.ref n, .ref (n + 7), .ref (n + 9), .ref (n + 10), .ref (n + 17), .int (-1), .int (-1), .int (-1), .int (-1)])))) (ht : f (n) = some (.inr (.inr (1, [.ref (n + 1), .ref (n + 3), .ref (n + 5), .int 0])))) (hq0 : f (n + 1) = some (.inr (.inr (0, [.int 46000, .ref (n + 2), .int 0])))) (hr0 : f (n + 2) = some (.inl (256, fun _ => 0))) (hq1 : f (n + 3) = some (.inr (.inr (0, [.int 3000, .ref (n + 4), .int 0])))) (hr1 : f (n + 4) = some (.inl (256, fun _ => 0))) (hg : f (n + 7) = some (.inr (.inr (2, [.ref (n + 8), .int 0])))) (hga : f (n + 8) = some (.inr (.inl (1, 60, fun _ => none)))) (hlt : a < n) (hw : n + 20 ≤ w) {x : Int32} : zk_Kr Z mm_Cm_found [.ref a, .int x] (w, s, f) (fun v M' => v = .int (-1) ∧ p1_po w s n f M') := by
  refine zk_enterB (by decide) (Nat.le_of_ble_eq_true rfl) rfl ?_
  show zk_P Z mm_Cm_found 0 [some (.ref a), some (.int x)] [] (w, s, f) _
  refine zk_iload_1 1 dc_Cm_found_0 rfl rfl ?_
  by_cases t0 : x = 0
  · refine zk_tableIn 28 0 t0 dc_Cm_found_1 (by decide) (by decide) rfl (by decide) ?_
    refine zk_aload_0 29 dc_Cm_found_28 rfl rfl ?_
    refine zk_getfield 32 dc_Cm_found_29 fg_Cm_54 ha rfl rfl ?_
    refine zk_goto 50 dc_Cm_found_32 (by decide) ?_
    exact zk_ireturn dc_Cm_found_50 rfl (by first | rfl | decide) ⟨_, rfl, rfl, p1_same⟩
  by_cases t1 : x = 1
  · refine zk_tableIn 35 1 t1 dc_Cm_found_1 (by decide) (by decide) rfl (by decide) ?_
    refine zk_aload_0 36 dc_Cm_found_35 rfl rfl ?_
    refine zk_getfield 39 dc_Cm_found_36 fg_Cm_57 ha rfl rfl ?_
    refine zk_goto 50 dc_Cm_found_39 (by decide) ?_
    exact zk_ireturn dc_Cm_found_50 rfl (by first | rfl | decide) ⟨_, rfl, rfl, p1_same⟩
  by_cases t2 : x = 2
  · refine zk_tableIn 42 2 t2 dc_Cm_found_1 (by decide) (by decide) rfl (by decide) ?_
    refine zk_aload_0 43 dc_Cm_found_42 rfl rfl ?_
    refine zk_getfield 46 dc_Cm_found_43 fg_Cm_60 ha rfl rfl ?_
    refine zk_goto 50 dc_Cm_found_46 (by decide) ?_
    exact zk_ireturn dc_Cm_found_50 rfl (by first | rfl | decide) ⟨_, rfl, rfl, p1_same⟩
  refine zk_tableOut 49 dc_Cm_found_1 (zk_out fun k h1 h2 q => by rcases (show k = 0 ∨ k = 1 ∨ k = 2 by omega) with rfl | rfl | rfl <;> first | exact t0 (Int32.toInt_inj.mp (q.trans (by decide))) | exact t1 (Int32.toInt_inj.mp (q.trans (by decide))) | exact t2 (Int32.toInt_inj.mp (q.trans (by decide)))) (by decide) ?_
  refine zk_iconst (v := -1) 50 dc_Cm_found_49 (by decide) rfl ?_
  exact zk_ireturn dc_Cm_found_50 rfl (by first | rfl | decide) ⟨_, rfl, rfl, p1_same⟩
set_option maxHeartbeats 4000000 in
set_option maxRecDepth 100000 in
theorem c_radd {Z : zk_Z} {w s : Nat} {f : Nat → Option zk_E} {q r : Nat} {m x y z u : Int32} (hq : f q = some (.inr (.inr (0, [.int m, .ref r, .int 0])))) (hr : f r = some (.inl (256, fun _ => 0))) (hqr : q ≠ r) (hm : (0 : Int32) < m) : zk_Kr Z mm_CmRows_add [.ref q, .int x, .int y, .int z, .int u] (w, s, f) (fun v M' => v = .int 0 ∧ ∃ g : Nat → Option zk_E, M' = (w, s, g) ∧ ∀ b, b ≠ q → b ≠ r → g b = f b) := by
  refine zk_enterB (by decide) (Nat.le_of_ble_eq_true rfl) rfl ?_
  show zk_P Z mm_CmRows_add 0 [some (.ref q), some (.int x), some (.int y), some (.int z), some (.int u), none] [] (w, s, f) _
  refine zk_aload_0 1 dc_CmRows_add_0 rfl rfl ?_
  refine zk_getfield 4 dc_CmRows_add_1 fg_CmRows_19 hq rfl rfl ?_
  refine zk_aload_0 5 dc_CmRows_add_4 rfl rfl ?_
  refine zk_getfield 8 dc_CmRows_add_5 fg_CmRows_9 hq rfl rfl ?_
  refine zk_icmp_lt 13 11 dc_CmRows_add_8 (by decide) rfl (fun hx => ?_) (fun hx => by first | exact absurd hx hm | exact absurd hm hx)
  refine zk_aload_0 14 dc_CmRows_add_13 rfl rfl ?_
  refine zk_getfield 17 dc_CmRows_add_14 fg_CmRows_19 hq rfl rfl ?_
  refine zk_iconst (v := 4) 18 dc_CmRows_add_17 (by decide) rfl ?_
  refine zk_imul 19 dc_CmRows_add_18 rfl ?_
  refine zk_istore_5 21 dc_CmRows_add_19 (Nat.le_of_ble_eq_true rfl) rfl ?_
  refine zk_iload 23 dc_CmRows_add_21 rfl rfl ?_
  refine zk_iconst (v := 4) 24 dc_CmRows_add_23 (by decide) rfl ?_
  refine zk_iadd 25 dc_CmRows_add_24 rfl ?_
  refine zk_aload_0 26 dc_CmRows_add_25 rfl rfl ?_
  refine zk_getfield 29 dc_CmRows_add_26 fg_CmRows_15 hq rfl rfl ?_
  refine zk_alen 30 dc_CmRows_add_29 rfl hr rfl ?_
  refine zk_icmp_le 51 33 dc_CmRows_add_30 (by decide) rfl (fun hx => ?_) (fun hx => by first | exact absurd hx (show (0 : Int32) * 4 + 4 ≤ nI 256 by decide) | exact absurd (show (0 : Int32) * 4 + 4 ≤ nI 256 by decide) hx)
  refine zk_aload_0 52 dc_CmRows_add_51 rfl rfl ?_
  refine zk_getfield 55 dc_CmRows_add_52 fg_CmRows_15 hq rfl rfl ?_
  refine zk_iload 57 dc_CmRows_add_55 rfl rfl ?_
  refine zk_iload_1 58 dc_CmRows_add_57 rfl rfl ?_
  refine zk_iastoreK 59 dc_CmRows_add_58 hr (show vp_in ((0 : Int32) * 4) 256 by unfold vp_in; decide) rfl (fun f1 hr o1 => ?_)
  have hq := (o1 (q) (by omega) ).trans hq
  refine zk_aload_0 60 dc_CmRows_add_59 rfl rfl ?_
  refine zk_getfield 63 dc_CmRows_add_60 fg_CmRows_15 hq rfl rfl ?_
  refine zk_iload 65 dc_CmRows_add_63 rfl rfl ?_
  refine zk_iconst (v := 1) 66 dc_CmRows_add_65 (by decide) rfl ?_
  refine zk_iadd 67 dc_CmRows_add_66 rfl ?_
  refine zk_iload_2 68 dc_CmRows_add_67 rfl rfl ?_
  refine zk_iastoreK 69 dc_CmRows_add_68 hr (show vp_in ((0 : Int32) * 4 + 1) 256 by unfold vp_in; decide) rfl (fun f2 hr o2 => ?_)
  have hq := (o2 (q) (by omega) ).trans hq
  refine zk_aload_0 70 dc_CmRows_add_69 rfl rfl ?_
  refine zk_getfield 73 dc_CmRows_add_70 fg_CmRows_15 hq rfl rfl ?_
  refine zk_iload 75 dc_CmRows_add_73 rfl rfl ?_
  refine zk_iconst (v := 2) 76 dc_CmRows_add_75 (by decide) rfl ?_
  refine zk_iadd 77 dc_CmRows_add_76 rfl ?_
  refine zk_iload_3 78 dc_CmRows_add_77 rfl rfl ?_
  refine zk_iastoreK 79 dc_CmRows_add_78 hr (show vp_in ((0 : Int32) * 4 + 2) 256 by unfold vp_in; decide) rfl (fun f3 hr o3 => ?_)
  have hq := (o3 (q) (by omega) ).trans hq
  refine zk_aload_0 80 dc_CmRows_add_79 rfl rfl ?_
  refine zk_getfield 83 dc_CmRows_add_80 fg_CmRows_15 hq rfl rfl ?_
  refine zk_iload 85 dc_CmRows_add_83 rfl rfl ?_
  refine zk_iconst (v := 3) 86 dc_CmRows_add_85 (by decide) rfl ?_
  refine zk_iadd 87 dc_CmRows_add_86 rfl ?_
  refine zk_iload 89 dc_CmRows_add_87 rfl rfl ?_
  refine zk_iastoreK 90 dc_CmRows_add_89 hr (show vp_in ((0 : Int32) * 4 + 3) 256 by unfold vp_in; decide) rfl (fun f4 hr o4 => ?_)
  have hq := (o4 (q) (by omega) ).trans hq
  refine zk_aload_0 91 dc_CmRows_add_90 rfl rfl ?_
  refine zk_dup 92 dc_CmRows_add_91 rfl rfl ?_
  refine zk_getfield 95 dc_CmRows_add_92 fg_CmRows_19 hq rfl rfl ?_
  refine zk_dup_x1 96 dc_CmRows_add_95 rfl rfl rfl ?_
  refine zk_iconst (v := 1) 97 dc_CmRows_add_96 (by decide) rfl ?_
  refine zk_iadd 98 dc_CmRows_add_97 rfl ?_
  refine zk_put 101 dc_CmRows_add_98 fp_CmRows_19 hq rfl rfl (Nat.le_of_ble_eq_true rfl) rfl (fun f5 hq o5 => ?_)
  have hr := (o5 (r) (by omega) ).trans hr
  exact zk_ireturn dc_CmRows_add_101 rfl (by first | rfl | decide) ⟨_, rfl, rfl, _, rfl, fun b q1 q2 => by rw [o5 b (by omega), o4 b (by omega), o3 b (by omega), o2 b (by omega), o1 b (by omega)]⟩
set_option maxHeartbeats 4000000 in
set_option maxRecDepth 100000 in
theorem c_fits {Z : zk_Z} {w s : Nat} {f : Nat → Option zk_E} {t : Nat} (ht : f t = some (.inr (.inr (1, [.ref (t + 1), .ref (t + 3), .ref (t + 5), .int 0])))) (hq1 : f (t + 3) = some (.inr (.inr (0, [.int 3000, .ref (t + 4), .int 0])))) : zk_Kr Z mm_CmTerms_fits [.ref t, .int 1] (w, s, f) (fun v M' => v = .int 1 ∧ M' = (w, s, f)) := by
  refine zk_enterB (by decide) (Nat.le_of_ble_eq_true rfl) rfl ?_
  show zk_P Z mm_CmTerms_fits 0 [some (.ref t), some (.int 1)] [] (w, s, f) _
  refine zk_aload_0 1 dc_CmTerms_fits_0 rfl rfl ?_
  refine zk_getfield 4 dc_CmTerms_fits_1 fg_CmTerms_21 ht rfl rfl ?_
  refine zk_cVr 7 (c_size hq1) dc_CmTerms_fits_4 ok_CmRows_size lk_CmTerms_35 hq1 rfl rfl rfl ⟨Nat.le_of_ble_eq_true rfl, Nat.le_of_ble_eq_true rfl⟩ (Nat.le_of_ble_eq_true rfl) rfl (fun v M1 hk => ?_)
  obtain ⟨rfl, rfl⟩ := hk
  refine zk_sipush (v := 3000) 10 dc_CmTerms_fits_7 (by decide) rfl ?_
  refine zk_icmp_ge 35 13 dc_CmTerms_fits_10 (by decide) rfl (fun hx => by first | exact absurd hx (show ¬ (3000 : Int32) ≤ 0 by decide) | exact absurd (show ¬ (3000 : Int32) ≤ 0 by decide) hx) (fun hx => ?_)
  refine zk_iload_1 14 dc_CmTerms_fits_13 rfl rfl ?_
  refine zk_sipush (v := 2000) 17 dc_CmTerms_fits_14 (by decide) rfl ?_
  refine zk_icmp_gt 35 20 dc_CmTerms_fits_17 (by decide) rfl (fun hx => by first | exact absurd hx (show ¬ (2000 : Int32) < 1 by decide) | exact absurd (show ¬ (2000 : Int32) < 1 by decide) hx) (fun hx => ?_)
  refine zk_iload_1 21 dc_CmTerms_fits_20 rfl rfl ?_
  refine zk_ldc (v := 40000) 23 dc_CmTerms_fits_21 (zk_in 219 (by decide +kernel) (by decide +kernel)) rfl ?_
  refine zk_aload_0 24 dc_CmTerms_fits_23 rfl rfl ?_
  refine zk_getfield 27 dc_CmTerms_fits_24 fg_CmTerms_27 ht rfl rfl ?_
  refine zk_isub 28 dc_CmTerms_fits_27 rfl ?_
  refine zk_icmp_gt 35 31 dc_CmTerms_fits_28 (by decide) rfl (fun hx => by first | exact absurd hx (show ¬ (40000 : Int32) - 0 < 1 by decide) | exact absurd (show ¬ (40000 : Int32) - 0 < 1 by decide) hx) (fun hx => ?_)
  refine zk_iconst (v := 1) 32 dc_CmTerms_fits_31 (by decide) rfl ?_
  refine zk_goto 36 dc_CmTerms_fits_32 (by decide) ?_
  exact zk_ireturn dc_CmTerms_fits_36 rfl (by first | rfl | decide) ⟨_, rfl, rfl, rfl⟩
set_option maxHeartbeats 4000000 in
set_option maxRecDepth 100000 in
theorem c_admit {Z : zk_Z} {w s : Nat} {f : Nat → Option zk_E} {t : Nat} (ht : f t = some (.inr (.inr (1, [.ref (t + 1), .ref (t + 3), .ref (t + 5), .int 0])))) (hq1 : f (t + 3) = some (.inr (.inr (0, [.int 3000, .ref (t + 4), .int 0])))) (hr1 : f (t + 4) = some (.inl (256, fun _ => 0))) {x y z u : Int32} : zk_Kr Z mm_CmTerms_admit [.ref t, .int x, .int y, .int z, .int u] (w, s, f) (fun v M' => v = .int 0 ∧ ∃ g : Nat → Option zk_E, M' = (w, s, g) ∧ ∀ b, (b < t ∨ t + 4 < b) → g b = f b) := by
  refine zk_enterB (by decide) (Nat.le_of_ble_eq_true rfl) rfl ?_
  show zk_P Z mm_CmTerms_admit 0 [some (.ref t), some (.int x), some (.int y), some (.int z), some (.int u)] [] (w, s, f) _
  refine zk_aload_0 1 dc_CmTerms_admit_0 rfl rfl ?_
  refine zk_dup 2 dc_CmTerms_admit_1 rfl rfl ?_
  refine zk_getfield 5 dc_CmTerms_admit_2 fg_CmTerms_27 ht rfl rfl ?_
  refine zk_iload_2 6 dc_CmTerms_admit_5 rfl rfl ?_
  refine zk_iadd 7 dc_CmTerms_admit_6 rfl ?_
  refine zk_put 10 dc_CmTerms_admit_7 fp_CmTerms_27 ht rfl rfl (Nat.le_of_ble_eq_true rfl) rfl (fun f1 ht o1 => ?_)
  have hq1 := (o1 (t + 3) (by omega) ).trans hq1
  have hr1 := (o1 (t + 4) (by omega) ).trans hr1
  refine zk_aload_0 11 dc_CmTerms_admit_10 rfl rfl ?_
  refine zk_getfield 14 dc_CmTerms_admit_11 fg_CmTerms_21 ht rfl rfl ?_
  refine zk_iload_1 15 dc_CmTerms_admit_14 rfl rfl ?_
  refine zk_iload_2 16 dc_CmTerms_admit_15 rfl rfl ?_
  refine zk_iload_3 17 dc_CmTerms_admit_16 rfl rfl ?_
  refine zk_iload 19 dc_CmTerms_admit_17 rfl rfl ?_
  refine zk_cVr 22 (c_radd hq1 hr1 (by omega) (by decide)) dc_CmTerms_admit_19 ok_CmRows_add lk_CmTerms_40 hq1 rfl rfl rfl ⟨Nat.le_of_ble_eq_true rfl, Nat.le_of_ble_eq_true rfl⟩ (Nat.le_of_ble_eq_true rfl) rfl (fun v M1 hk => ?_)
  obtain ⟨rfl, g, rfl, p⟩ := hk
  have ht := (p (t) (by omega) (by omega) ).trans ht
  exact zk_ireturn dc_CmTerms_admit_22 rfl (by first | rfl | decide) ⟨_, rfl, rfl, _, rfl, fun b q1 => by rw [p b (by omega) (by omega), o1 b (by omega)]⟩
set_option maxHeartbeats 4000000 in
set_option maxRecDepth 100000 in
theorem c_addLeaf {Z : zk_Z} {w s : Nat} {f : Nat → Option zk_E} {t : Nat} (ht : f t = some (.inr (.inr (1, [.ref (t + 1), .ref (t + 3), .ref (t + 5), .int 0])))) (hq0 : f (t + 1) = some (.inr (.inr (0, [.int 46000, .ref (t + 2), .int 0])))) (hr0 : f (t + 2) = some (.inl (256, fun _ => 0))) (hq1 : f (t + 3) = some (.inr (.inr (0, [.int 3000, .ref (t + 4), .int 0])))) (hr1 : f (t + 4) = some (.inl (256, fun _ => 0))) {x y z : Int32} : zk_Kr Z mm_CmTerms_addLeaf [.ref t, .int x, .int y, .int z] (w, s, f) (fun v M' => v = .int 0 ∧ ∃ g : Nat → Option zk_E, M' = (w, s, g) ∧ ∀ b, (b < t ∨ t + 4 < b) → g b = f b) := by
  refine zk_enterB (by decide) (Nat.le_of_ble_eq_true rfl) rfl ?_
  show zk_P Z mm_CmTerms_addLeaf 0 [some (.ref t), some (.int x), some (.int y), some (.int z)] [] (w, s, f) _
  refine zk_aload_0 1 dc_CmTerms_addLeaf_0 rfl rfl ?_
  refine zk_iconst (v := 1) 2 dc_CmTerms_addLeaf_1 (by decide) rfl ?_
  refine zk_cVr 5 (c_fits ht hq1) dc_CmTerms_addLeaf_2 ok_CmTerms_fits lk_CmTerms_44 ht rfl rfl rfl ⟨Nat.le_of_ble_eq_true rfl, Nat.le_of_ble_eq_true rfl⟩ (Nat.le_of_ble_eq_true rfl) rfl (fun v M1 hk => ?_)
  obtain ⟨rfl, rfl⟩ := hk
  refine zk_if_ne 10 8 dc_CmTerms_addLeaf_5 (by decide) rfl (fun hx => ?_) (fun hx => by first | exact absurd hx (show ¬ (1 : Int32) = 0 by decide) | exact absurd (show ¬ (1 : Int32) = 0 by decide) hx)
  refine zk_aload_0 11 dc_CmTerms_addLeaf_10 rfl rfl ?_
  refine zk_aload_0 12 dc_CmTerms_addLeaf_11 rfl rfl ?_
  refine zk_getfield 15 dc_CmTerms_addLeaf_12 fg_CmTerms_17 ht rfl rfl ?_
  refine zk_iload_1 16 dc_CmTerms_addLeaf_15 rfl rfl ?_
  refine zk_iload_2 17 dc_CmTerms_addLeaf_16 rfl rfl ?_
  refine zk_iload_3 18 dc_CmTerms_addLeaf_17 rfl rfl ?_
  refine zk_iconst (v := -1) 19 dc_CmTerms_addLeaf_18 (by decide) rfl ?_
  refine zk_cVr 22 (c_radd hq0 hr0 (by omega) (by decide)) dc_CmTerms_addLeaf_19 ok_CmRows_add lk_CmTerms_40 hq0 rfl rfl rfl ⟨Nat.le_of_ble_eq_true rfl, Nat.le_of_ble_eq_true rfl⟩ (Nat.le_of_ble_eq_true rfl) rfl (fun v M1 hk => ?_)
  obtain ⟨rfl, g, rfl, p⟩ := hk
  have ht := (p (t) (by omega) (by omega) ).trans ht
  have hq1 := (p (t + 3) (by omega) (by omega) ).trans hq1
  have hr1 := (p (t + 4) (by omega) (by omega) ).trans hr1
  refine zk_iconst (v := 1) 23 dc_CmTerms_addLeaf_22 (by decide) rfl ?_
  refine zk_iconst (v := 1) 24 dc_CmTerms_addLeaf_23 (by decide) rfl ?_
  refine zk_iload_1 25 dc_CmTerms_addLeaf_24 rfl rfl ?_
  refine zk_if_ne 34 28 dc_CmTerms_addLeaf_25 (by decide) rfl (fun hc => ?_) (fun hc => ?_)
  · refine zk_iconst (v := 0) 35 dc_CmTerms_addLeaf_34 (by decide) rfl ?_
    refine zk_cVr 38 (c_admit ht hq1 hr1) dc_CmTerms_addLeaf_35 ok_CmTerms_admit lk_CmTerms_48 ht rfl rfl rfl ⟨Nat.le_of_ble_eq_true rfl, Nat.le_of_ble_eq_true rfl⟩ (Nat.le_of_ble_eq_true rfl) rfl (fun v M1 hk => ?_)
    obtain ⟨rfl, g2, rfl, p2⟩ := hk
    exact zk_ireturn dc_CmTerms_addLeaf_38 rfl (by first | rfl | decide) ⟨_, rfl, rfl, _, rfl, fun b q1 => by rw [p2 b (by omega), p b (by omega) (by omega)]⟩
  · refine zk_iload_2 29 dc_CmTerms_addLeaf_28 rfl rfl ?_
    refine zk_iconst (v := 1) 30 dc_CmTerms_addLeaf_29 (by decide) rfl ?_
    refine zk_iadd 31 dc_CmTerms_addLeaf_30 rfl ?_
    refine zk_goto 35 dc_CmTerms_addLeaf_31 (by decide) ?_
    refine zk_cVr 38 (c_admit ht hq1 hr1) dc_CmTerms_addLeaf_35 ok_CmTerms_admit lk_CmTerms_48 ht rfl rfl rfl ⟨Nat.le_of_ble_eq_true rfl, Nat.le_of_ble_eq_true rfl⟩ (Nat.le_of_ble_eq_true rfl) rfl (fun v M1 hk => ?_)
    obtain ⟨rfl, g2, rfl, p2⟩ := hk
    exact zk_ireturn dc_CmTerms_addLeaf_38 rfl (by first | rfl | decide) ⟨_, rfl, rfl, _, rfl, fun b q1 => by rw [p2 b (by omega), p b (by omega) (by omega)]⟩
