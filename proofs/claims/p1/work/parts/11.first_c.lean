theorem zk_out {x : Int32} {lo hi : Int} (h : ∀ k : Int, lo ≤ k → k ≤ hi → x.toInt = k → False) : x.toInt < lo ∨ hi < x.toInt := by
  by_cases h1 : x.toInt < lo
  · exact Or.inl h1
  · by_cases h2 : hi < x.toInt
    · exact Or.inr h2
    · exact (h x.toInt (by omega) (by omega) rfl).elim
/-- behind a first call: the cells of the other side are as they were; little is new -/
def p1_po (w s n : Nat) (f : Nat → Option zk_E) (M' : zk_M) : Prop := ∃ (w2 s2 : Nat) (g : Nat → Option zk_E), M' = (w2, s2, g) ∧ w2 ≤ w + 6 ∧ s2 ≤ s + 54 ∧ ∀ b, n + 20 ≤ b → b < w → g b = f b
theorem p1_same {w s n : Nat} {f : Nat → Option zk_E} : p1_po w s n f (w, s, f) := ⟨w, s, f, rfl, Nat.le_add_right _ _, Nat.le_add_right _ _, fun _ _ _ => rfl⟩
def p1_leaf (k x y : Int32) : Int32 := if (k = 0 ∨ k = 2) ∧ (0 ≤ x ∧ x ≤ 199) ∧ y = 0 then 0 else -1
def p1_fam (p i c : Int32) : Int32 := if (0 ≤ p ∧ p ≤ 4) ∧ (0 ≤ i ∧ i ≤ 4) ∧ (0 ≤ c ∧ c ≤ 5) then 0 else -1
set_option maxHeartbeats 4000000 in
set_option maxRecDepth 100000 in
theorem c_size {Z : zk_Z} {w s : Nat} {f : Nat → Option zk_E} {q : Nat} {x : Int32} {u v : Value} (hq : f q = some (.inr (.inr (0, [u, v, .int x])))) : zk_Kr Z mm_CmRows_size [.ref q] (w, s, f) (fun v M' => v = .int x ∧ M' = (w, s, f)) := by
  refine zk_enterB (by decide) (Nat.le_of_ble_eq_true rfl) rfl ?_
  show zk_P Z mm_CmRows_size 0 [some (.ref q)] [] (w, s, f) _
  refine zk_aload_0 1 dc_CmRows_size_0 rfl rfl ?_
  refine zk_getfield 4 dc_CmRows_size_1 fg_CmRows_19 hq rfl rfl ?_
  exact zk_ireturn dc_CmRows_size_4 rfl (by first | rfl | decide) ⟨_, rfl, rfl, rfl⟩
set_option maxHeartbeats 4000000 in
set_option maxRecDepth 100000 in
theorem c_has {Z : zk_Z} {w s : Nat} {f : Nat → Option zk_E} {t q : Nat} {u v w1 w2 w3 : Value} (ht : f t = some (.inr (.inr (1, [w1, .ref q, w2, w3])))) (hq : f q = some (.inr (.inr (0, [u, v, .int 0])))) {x : Int32} : zk_Kr Z mm_CmTerms_has [.ref t, .int x] (w, s, f) (fun v M' => v = .int 0 ∧ M' = (w, s, f)) := by
  refine zk_enterB (by decide) (Nat.le_of_ble_eq_true rfl) rfl ?_
  show zk_P Z mm_CmTerms_has 0 [some (.ref t), some (.int x)] [] (w, s, f) _
  refine zk_iload_1 1 dc_CmTerms_has_0 rfl rfl ?_
  refine zk_if_lt 19 4 dc_CmTerms_has_1 (by decide) rfl (fun hc => ?_) (fun hc => ?_)
  · refine zk_iconst (v := 0) 20 dc_CmTerms_has_19 (by decide) rfl ?_
    exact zk_ireturn dc_CmTerms_has_20 rfl (by first | rfl | decide) ⟨_, rfl, rfl, rfl⟩
  · refine zk_iload_1 5 dc_CmTerms_has_4 rfl rfl ?_
    refine zk_aload_0 6 dc_CmTerms_has_5 rfl rfl ?_
    refine zk_getfield 9 dc_CmTerms_has_6 fg_CmTerms_21 ht rfl rfl ?_
    refine zk_cVr 12 (c_size hq) dc_CmTerms_has_9 ok_CmRows_size lk_CmTerms_35 hq rfl rfl rfl ⟨Nat.le_of_ble_eq_true rfl, Nat.le_of_ble_eq_true rfl⟩ (Nat.le_of_ble_eq_true rfl) rfl (fun v M1 hk => ?_)
    obtain ⟨rfl, rfl⟩ := hk
    refine zk_icmp_ge 19 15 dc_CmTerms_has_12 (by decide) rfl (fun hx => ?_) (fun hx => by first | exact absurd hx (Int32.not_lt.mp hc) | exact absurd (Int32.not_lt.mp hc) hx)
    refine zk_iconst (v := 0) 20 dc_CmTerms_has_19 (by decide) rfl ?_
    exact zk_ireturn dc_CmTerms_has_20 rfl (by first | rfl | decide) ⟨_, rfl, rfl, rfl⟩
set_option maxHeartbeats 4000000 in
set_option maxRecDepth 100000 in
theorem c_count {Z : zk_Z} {w s : Nat} {f : Nat → Option zk_E} {t q : Nat} {u v w1 w2 w3 : Value} (ht : f t = some (.inr (.inr (1, [w1, .ref q, w2, w3])))) (hq : f q = some (.inr (.inr (0, [u, v, .int 0])))) : zk_Kr Z mm_CmTerms_count [.ref t] (w, s, f) (fun v M' => v = .int 0 ∧ M' = (w, s, f)) := by
  refine zk_enterB (by decide) (Nat.le_of_ble_eq_true rfl) rfl ?_
  show zk_P Z mm_CmTerms_count 0 [some (.ref t)] [] (w, s, f) _
  refine zk_aload_0 1 dc_CmTerms_count_0 rfl rfl ?_
  refine zk_getfield 4 dc_CmTerms_count_1 fg_CmTerms_21 ht rfl rfl ?_
  refine zk_cVr 7 (c_size hq) dc_CmTerms_count_4 ok_CmRows_size lk_CmTerms_35 hq rfl rfl rfl ⟨Nat.le_of_ble_eq_true rfl, Nat.le_of_ble_eq_true rfl⟩ (Nat.le_of_ble_eq_true rfl) rfl (fun v M1 hk => ?_)
  obtain ⟨rfl, rfl⟩ := hk
  exact zk_ireturn dc_CmTerms_count_7 rfl (by first | rfl | decide) ⟨_, rfl, rfl, rfl⟩
set_option maxHeartbeats 4000000 in
set_option maxRecDepth 100000 in
theorem c_at {Z : zk_Z} {w s : Nat} {f : Nat → Option zk_E} {q : Nat} {u : Value} (hq : f q = some (.inr (.inr (2, [u, .int 0])))) {x : Int32} : zk_Kr Z mm_CmGlobals_at [.ref q, .int x] (w, s, f) (fun v M' => v = .null ∧ M' = (w, s, f)) := by
  refine zk_enterB (by decide) (Nat.le_of_ble_eq_true rfl) rfl ?_
  show zk_P Z mm_CmGlobals_at 0 [some (.ref q), some (.int x)] [] (w, s, f) _
  refine zk_iload_1 1 dc_CmGlobals_at_0 rfl rfl ?_
  refine zk_if_lt 30 4 dc_CmGlobals_at_1 (by decide) rfl (fun hc => ?_) (fun hc => ?_)
  · refine zk_null 31 dc_CmGlobals_at_30 rfl ?_
    exact zk_areturn dc_CmGlobals_at_31 rfl (by first | exact Or.inl ⟨_, rfl⟩ | exact Or.inr ⟨_, rfl⟩) (Or.inl rfl) ⟨_, rfl, rfl, rfl⟩
  · refine zk_iload_1 5 dc_CmGlobals_at_4 rfl rfl ?_
    refine zk_aload_0 6 dc_CmGlobals_at_5 rfl rfl ?_
    refine zk_getfield 9 dc_CmGlobals_at_6 fg_CmGlobals_17 hq rfl rfl ?_
    refine zk_icmp_ge 30 12 dc_CmGlobals_at_9 (by decide) rfl (fun hx => ?_) (fun hx => by first | exact absurd hx (Int32.not_lt.mp hc) | exact absurd (Int32.not_lt.mp hc) hx)
    refine zk_null 31 dc_CmGlobals_at_30 rfl ?_
    exact zk_areturn dc_CmGlobals_at_31 rfl (by first | exact Or.inl ⟨_, rfl⟩ | exact Or.inr ⟨_, rfl⟩) (Or.inl rfl) ⟨_, rfl, rfl, rfl⟩
set_option maxHeartbeats 4000000 in
set_option maxRecDepth 100000 in
theorem c_ofKind {Z : zk_Z} {w s : Nat} {f : Nat → Option zk_E} {q : Nat} {u : Value} (hq : f q = some (.inr (.inr (2, [u, .int 0])))) {x : Int32} {y : Int32} : zk_Kr Z mm_CmGlobals_ofKind [.ref q, .int x, .int y] (w, s, f) (fun v M' => v = .null ∧ M' = (w, s, f)) := by
  refine zk_enterB (by decide) (Nat.le_of_ble_eq_true rfl) rfl ?_
  show zk_P Z mm_CmGlobals_ofKind 0 [some (.ref q), some (.int x), some (.int y), none] [] (w, s, f) _
  refine zk_aload_0 1 dc_CmGlobals_ofKind_0 rfl rfl ?_
  refine zk_iload_1 2 dc_CmGlobals_ofKind_1 rfl rfl ?_
  refine zk_cVr 5 (c_at hq) dc_CmGlobals_ofKind_2 ok_CmGlobals_at lk_CmGlobals_21 hq rfl rfl rfl ⟨Nat.le_of_ble_eq_true rfl, Nat.le_of_ble_eq_true rfl⟩ (Nat.le_of_ble_eq_true rfl) rfl (fun v M1 hk => ?_)
  obtain ⟨rfl, rfl⟩ := hk
  refine zk_astoreN_3 6 dc_CmGlobals_ofKind_5 (Nat.le_of_ble_eq_true rfl) rfl ?_
  refine zk_aloadN_3 7 dc_CmGlobals_ofKind_6 rfl rfl ?_
  refine zk_ifnullN 22 dc_CmGlobals_ofKind_7 (by decide) ?_
  refine zk_null 23 dc_CmGlobals_ofKind_22 rfl ?_
  exact zk_areturn dc_CmGlobals_ofKind_23 rfl (by first | exact Or.inl ⟨_, rfl⟩ | exact Or.inr ⟨_, rfl⟩) (Or.inl rfl) ⟨_, rfl, rfl, rfl⟩
set_option maxHeartbeats 4000000 in
set_option maxRecDepth 100000 in
theorem c_room {Z : zk_Z} {w s : Nat} {f : Nat → Option zk_E} {q : Nat} {u : Value} (hq : f q = some (.inr (.inr (2, [u, .int 0])))) {x : Int32} : zk_Kr Z mm_CmGlobals_roomFor [.ref q, .int x] (w, s, f) (fun v M' => M' = (w, s, f) ∧ ((x ≤ 60 - 0 ∧ v = .int 1) ∨ (60 - 0 < x ∧ v = .int 0))) := by
  refine zk_enterB (by decide) (Nat.le_of_ble_eq_true rfl) rfl ?_
  show zk_P Z mm_CmGlobals_roomFor 0 [some (.ref q), some (.int x)] [] (w, s, f) _
  refine zk_iload_1 1 dc_CmGlobals_roomFor_0 rfl rfl ?_
  refine zk_bipush (v := 60) 3 dc_CmGlobals_roomFor_1 (by decide) rfl ?_
  refine zk_aload_0 4 dc_CmGlobals_roomFor_3 rfl rfl ?_
  refine zk_getfield 7 dc_CmGlobals_roomFor_4 fg_CmGlobals_17 hq rfl rfl ?_
  refine zk_isub 8 dc_CmGlobals_roomFor_7 rfl ?_
  refine zk_icmp_gt 15 11 dc_CmGlobals_roomFor_8 (by decide) rfl (fun hc => ?_) (fun hc => ?_)
  · refine zk_iconst (v := 0) 16 dc_CmGlobals_roomFor_15 (by decide) rfl ?_
    exact zk_ireturn dc_CmGlobals_roomFor_16 rfl (by first | rfl | decide) ⟨_, rfl, rfl, Or.inr ⟨hc, rfl⟩⟩
  · refine zk_iconst (v := 1) 12 dc_CmGlobals_roomFor_11 (by decide) rfl ?_
    refine zk_goto 16 dc_CmGlobals_roomFor_12 (by decide) ?_
    exact zk_ireturn dc_CmGlobals_roomFor_16 rfl (by first | rfl | decide) ⟨_, rfl, rfl, Or.inl ⟨Int32.not_lt.mp hc, rfl⟩⟩
set_option maxHeartbeats 4000000 in
set_option maxRecDepth 100000 in
theorem c_upto {Z : zk_Z} {w s : Nat} {f : Nat → Option zk_E} {x y : Int32} : zk_Kr Z mm_Cm_isUpTo [.int x, .int y] (w, s, f) (fun v M' => M' = (w, s, f) ∧ (((0 ≤ x ∧ x ≤ y) ∧ v = .int 1) ∨ (¬ (0 ≤ x ∧ x ≤ y) ∧ v = .int 0))) := by
  refine zk_enterB (by decide) (Nat.le_of_ble_eq_true rfl) rfl ?_
  show zk_P Z mm_Cm_isUpTo 0 [some (.int x), some (.int y)] [] (w, s, f) _
  refine zk_iload_0 1 dc_Cm_isUpTo_0 rfl rfl ?_
  refine zk_if_lt 13 4 dc_Cm_isUpTo_1 (by decide) rfl (fun hc => ?_) (fun hc => ?_)
  · refine zk_iconst (v := 0) 14 dc_Cm_isUpTo_13 (by decide) rfl ?_
    exact zk_ireturn dc_Cm_isUpTo_14 rfl (by first | rfl | decide) ⟨_, rfl, rfl, Or.inr ⟨fun q => absurd hc (Int32.not_lt.mpr q.1), rfl⟩⟩
  · refine zk_iload_0 5 dc_Cm_isUpTo_4 rfl rfl ?_
    refine zk_iload_1 6 dc_Cm_isUpTo_5 rfl rfl ?_
    refine zk_icmp_gt 13 9 dc_Cm_isUpTo_6 (by decide) rfl (fun hd => ?_) (fun hd => ?_)
    · refine zk_iconst (v := 0) 14 dc_Cm_isUpTo_13 (by decide) rfl ?_
      exact zk_ireturn dc_Cm_isUpTo_14 rfl (by first | rfl | decide) ⟨_, rfl, rfl, Or.inr ⟨fun q => absurd hd (Int32.not_lt.mpr q.2), rfl⟩⟩
    · refine zk_iconst (v := 1) 10 dc_Cm_isUpTo_9 (by decide) rfl ?_
      refine zk_goto 14 dc_Cm_isUpTo_10 (by decide) ?_
      exact zk_ireturn dc_Cm_isUpTo_14 rfl (by first | rfl | decide) ⟨_, rfl, rfl, Or.inl ⟨⟨Int32.not_lt.mp hc, Int32.not_lt.mp hd⟩, rfl⟩⟩
set_option maxHeartbeats 4000000 in
set_option maxRecDepth 100000 in
theorem c_isn {Z : zk_Z} {w s : Nat} {f : Nat → Option zk_E} {x : Int32} : zk_Kr Z mm_Cm_isNumber [.int x] (w, s, f) (fun v M' => M' = (w, s, f) ∧ (((0 ≤ x ∧ x ≤ 199) ∧ v = .int 1) ∨ (¬ (0 ≤ x ∧ x ≤ 199) ∧ v = .int 0))) := by
  refine zk_enterB (by decide) (Nat.le_of_ble_eq_true rfl) rfl ?_
  show zk_P Z mm_Cm_isNumber 0 [some (.int x)] [] (w, s, f) _
  refine zk_iload_0 1 dc_Cm_isNumber_0 rfl rfl ?_
  refine zk_sipush (v := 199) 4 dc_Cm_isNumber_1 (by decide) rfl ?_
  refine zk_cSr 7 (c_upto) dc_Cm_isNumber_4 ok_Cm_isUpTo lk_Cm_112 rfl rfl ⟨Nat.le_of_ble_eq_true rfl, Nat.le_of_ble_eq_true rfl⟩ (Nat.le_of_ble_eq_true rfl) rfl (fun v M1 hk => ?_)
  obtain ⟨rfl, hk⟩ := hk
  rcases hk with ⟨h1, rfl⟩ | ⟨h1, rfl⟩
  · exact zk_ireturn dc_Cm_isNumber_7 rfl (by first | rfl | decide) ⟨_, rfl, rfl, Or.inl ⟨h1, rfl⟩⟩
  · exact zk_ireturn dc_Cm_isNumber_7 rfl (by first | rfl | decide) ⟨_, rfl, rfl, Or.inr ⟨h1, rfl⟩⟩
