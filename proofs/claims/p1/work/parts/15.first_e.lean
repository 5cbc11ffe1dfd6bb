set_option maxHeartbeats 4000000 in
set_option maxRecDepth 100000 in
theorem f_leaf {Z : zk_Z} {w s : Nat} {f : Nat → Option zk_E} {a n : Nat} (ha : f (a) = some (.inr (.inr (6, [.ref n, .ref (n + 7), .ref (n + 9), .ref (n + 10), .ref (n + 17), .int (-1), .int (-1), .int (-1), .int (-1)])))) (ht : f (n) = some (.inr (.inr (1, [.ref (n + 1), .ref (n + 3), .ref (n + 5), .int 0])))) (hq0 : f (n + 1) = some (.inr (.inr (0, [.int 46000, .ref (n + 2), .int 0])))) (hr0 : f (n + 2) = some (.inl (256, fun _ => 0))) (hq1 : f (n + 3) = some (.inr (.inr (0, [.int 3000, .ref (n + 4), .int 0])))) (hr1 : f (n + 4) = some (.inl (256, fun _ => 0))) (hg : f (n + 7) = some (.inr (.inr (2, [.ref (n + 8), .int 0])))) (hga : f (n + 8) = some (.inr (.inl (1, 60, fun _ => none)))) (hlt : a < n) (hw : n + 20 ≤ w) {x y z : Int32} : zk_Kr Z mm_Cm_leaf [.ref a, .int x, .int y, .int z] (w, s, f) (fun v M' => v = .int (p1_leaf x y z) ∧ p1_po w s n f M') := by
  refine zk_enterB (by decide) (Nat.le_of_ble_eq_true rfl) rfl ?_
  show zk_P Z mm_Cm_leaf 0 [some (.ref a), some (.int x), some (.int y), some (.int z), none] [] (w, s, f) _
  refine zk_iload_1 1 dc_Cm_leaf_0 rfl rfl ?_
  by_cases t0 : x = 0
  · refine zk_tableIn 32 0 t0 dc_Cm_leaf_1 (by decide) (by decide) rfl (by decide) ?_
    refine zk_iload_2 33 dc_Cm_leaf_32 rfl rfl ?_
    refine zk_cSr 36 (c_isn) dc_Cm_leaf_33 ok_Cm_isNumber lk_Cm_63 rfl rfl ⟨Nat.le_of_ble_eq_true rfl, Nat.le_of_ble_eq_true rfl⟩ (Nat.le_of_ble_eq_true rfl) rfl (fun v M1 hk => ?_)
    obtain ⟨rfl, hk⟩ := hk
    rcases hk with ⟨h1, rfl⟩ | ⟨h1, rfl⟩
    · refine zk_if_eq 47 39 dc_Cm_leaf_36 (by decide) rfl (fun hx => by first | exact absurd hx (show ¬ (1 : Int32) = 0 by decide) | exact absurd (show ¬ (1 : Int32) = 0 by decide) hx) (fun hx => ?_)
      refine zk_iload_3 40 dc_Cm_leaf_39 rfl rfl ?_
      refine zk_if_ne 47 43 dc_Cm_leaf_40 (by decide) rfl (fun hc => ?_) (fun hc => ?_)
      · refine zk_iconst (v := 0) 48 dc_Cm_leaf_47 (by decide) rfl ?_
        refine zk_goto 102 dc_Cm_leaf_48 (by decide) ?_
        refine zk_istore_4 104 dc_Cm_leaf_102 (Nat.le_of_ble_eq_true rfl) rfl ?_
        refine zk_iload 106 dc_Cm_leaf_104 rfl rfl ?_
        refine zk_if_eq 122 109 dc_Cm_leaf_106 (by decide) rfl (fun hx => ?_) (fun hx => by first | exact absurd hx rfl | exact absurd rfl hx)
        refine zk_iconst (v := -1) 123 dc_Cm_leaf_122 (by decide) rfl ?_
        have hp : p1_leaf x y z = -1 := by rw [p1_leaf, if_neg (fun q => hc q.2.2)]
        exact zk_ireturn dc_Cm_leaf_123 rfl (by first | rfl | decide) ⟨_, rfl, congrArg Value.int hp.symm, p1_same⟩
      · refine zk_iconst (v := 1) 44 dc_Cm_leaf_43 (by decide) rfl ?_
        refine zk_goto 102 dc_Cm_leaf_44 (by decide) ?_
        refine zk_istore_4 104 dc_Cm_leaf_102 (Nat.le_of_ble_eq_true rfl) rfl ?_
        refine zk_iload 106 dc_Cm_leaf_104 rfl rfl ?_
        refine zk_if_eq 122 109 dc_Cm_leaf_106 (by decide) rfl (fun hx => by first | exact absurd hx (show ¬ (1 : Int32) = 0 by decide) | exact absurd (show ¬ (1 : Int32) = 0 by decide) hx) (fun hx => ?_)
        refine zk_aload_0 110 dc_Cm_leaf_109 rfl rfl ?_
        refine zk_getfield 113 dc_Cm_leaf_110 fg_Cm_10 ha rfl rfl ?_
        refine zk_iload_1 114 dc_Cm_leaf_113 rfl rfl ?_
        refine zk_iload_2 115 dc_Cm_leaf_114 rfl rfl ?_
        refine zk_iload_3 116 dc_Cm_leaf_115 rfl rfl ?_
        refine zk_cVr 119 (c_addLeaf ht hq0 hr0 hq1 hr1) dc_Cm_leaf_116 ok_CmTerms_addLeaf lk_Cm_77 ht rfl rfl rfl ⟨Nat.le_of_ble_eq_true rfl, Nat.le_of_ble_eq_true rfl⟩ (Nat.le_of_ble_eq_true rfl) rfl (fun v M1 hk => ?_)
        obtain ⟨rfl, g, rfl, p⟩ := hk
        refine zk_goto 123 dc_Cm_leaf_119 (by decide) ?_
        have hp : p1_leaf x y z = 0 := by rw [p1_leaf, if_pos ⟨by first | exact Or.inl t0 | exact Or.inr t2, h1, hc⟩]
        exact zk_ireturn dc_Cm_leaf_123 rfl (by first | rfl | decide) ⟨_, rfl, congrArg Value.int hp.symm, w, s, g, rfl, Nat.le_add_right _ _, Nat.le_add_right _ _, fun b q1 q2 => p b (by omega)⟩
    · refine zk_if_eq 47 39 dc_Cm_leaf_36 (by decide) rfl (fun hx => ?_) (fun hx => by first | exact absurd hx rfl | exact absurd rfl hx)
      refine zk_iconst (v := 0) 48 dc_Cm_leaf_47 (by decide) rfl ?_
      refine zk_goto 102 dc_Cm_leaf_48 (by decide) ?_
      refine zk_istore_4 104 dc_Cm_leaf_102 (Nat.le_of_ble_eq_true rfl) rfl ?_
      refine zk_iload 106 dc_Cm_leaf_104 rfl rfl ?_
      refine zk_if_eq 122 109 dc_Cm_leaf_106 (by decide) rfl (fun hx => ?_) (fun hx => by first | exact absurd hx rfl | exact absurd rfl hx)
      refine zk_iconst (v := -1) 123 dc_Cm_leaf_122 (by decide) rfl ?_
      have hp : p1_leaf x y z = -1 := by rw [p1_leaf, if_neg (fun q => h1 q.2.1)]
      exact zk_ireturn dc_Cm_leaf_123 rfl (by first | rfl | decide) ⟨_, rfl, congrArg Value.int hp.symm, p1_same⟩
  by_cases t1 : x = 1
  · refine zk_tableIn 51 1 t1 dc_Cm_leaf_1 (by decide) (by decide) rfl (by decide) ?_
    refine zk_aload_0 52 dc_Cm_leaf_51 rfl rfl ?_
    refine zk_getfield 55 dc_Cm_leaf_52 fg_Cm_19 ha rfl rfl ?_
    refine zk_iload_2 56 dc_Cm_leaf_55 rfl rfl ?_
    refine zk_cVr 59 (c_at hg) dc_Cm_leaf_56 ok_CmGlobals_at lk_Cm_67 hg rfl rfl rfl ⟨Nat.le_of_ble_eq_true rfl, Nat.le_of_ble_eq_true rfl⟩ (Nat.le_of_ble_eq_true rfl) rfl (fun v M1 hk => ?_)
    obtain ⟨rfl, rfl⟩ := hk
    refine zk_ifnullN 70 dc_Cm_leaf_59 (by decide) ?_
    refine zk_iconst (v := 0) 71 dc_Cm_leaf_70 (by decide) rfl ?_
    refine zk_goto 102 dc_Cm_leaf_71 (by decide) ?_
    refine zk_istore_4 104 dc_Cm_leaf_102 (Nat.le_of_ble_eq_true rfl) rfl ?_
    refine zk_iload 106 dc_Cm_leaf_104 rfl rfl ?_
    refine zk_if_eq 122 109 dc_Cm_leaf_106 (by decide) rfl (fun hx => ?_) (fun hx => by first | exact absurd hx rfl | exact absurd rfl hx)
    refine zk_iconst (v := -1) 123 dc_Cm_leaf_122 (by decide) rfl ?_
    have hp : p1_leaf x y z = -1 := by rw [p1_leaf, if_neg (fun q => by rw [t1] at q; exact absurd q.1 (by decide))]
    exact zk_ireturn dc_Cm_leaf_123 rfl (by first | rfl | decide) ⟨_, rfl, congrArg Value.int hp.symm, p1_same⟩
  by_cases t2 : x = 2
  · refine zk_tableIn 32 2 t2 dc_Cm_leaf_1 (by decide) (by decide) rfl (by decide) ?_
    refine zk_iload_2 33 dc_Cm_leaf_32 rfl rfl ?_
    refine zk_cSr 36 (c_isn) dc_Cm_leaf_33 ok_Cm_isNumber lk_Cm_63 rfl rfl ⟨Nat.le_of_ble_eq_true rfl, Nat.le_of_ble_eq_true rfl⟩ (Nat.le_of_ble_eq_true rfl) rfl (fun v M1 hk => ?_)
    obtain ⟨rfl, hk⟩ := hk
    rcases hk with ⟨h1, rfl⟩ | ⟨h1, rfl⟩
    · refine zk_if_eq 47 39 dc_Cm_leaf_36 (by decide) rfl (fun hx => by first | exact absurd hx (show ¬ (1 : Int32) = 0 by decide) | exact absurd (show ¬ (1 : Int32) = 0 by decide) hx) (fun hx => ?_)
      refine zk_iload_3 40 dc_Cm_leaf_39 rfl rfl ?_
      refine zk_if_ne 47 43 dc_Cm_leaf_40 (by decide) rfl (fun hc => ?_) (fun hc => ?_)
      · refine zk_iconst (v := 0) 48 dc_Cm_leaf_47 (by decide) rfl ?_
        refine zk_goto 102 dc_Cm_leaf_48 (by decide) ?_
        refine zk_istore_4 104 dc_Cm_leaf_102 (Nat.le_of_ble_eq_true rfl) rfl ?_
        refine zk_iload 106 dc_Cm_leaf_104 rfl rfl ?_
        refine zk_if_eq 122 109 dc_Cm_leaf_106 (by decide) rfl (fun hx => ?_) (fun hx => by first | exact absurd hx rfl | exact absurd rfl hx)
        refine zk_iconst (v := -1) 123 dc_Cm_leaf_122 (by decide) rfl ?_
        have hp : p1_leaf x y z = -1 := by rw [p1_leaf, if_neg (fun q => hc q.2.2)]
        exact zk_ireturn dc_Cm_leaf_123 rfl (by first | rfl | decide) ⟨_, rfl, congrArg Value.int hp.symm, p1_same⟩
      · refine zk_iconst (v := 1) 44 dc_Cm_leaf_43 (by decide) rfl ?_
        refine zk_goto 102 dc_Cm_leaf_44 (by decide) ?_
        refine zk_istore_4 104 dc_Cm_leaf_102 (Nat.le_of_ble_eq_true rfl) rfl ?_
        refine zk_iload 106 dc_Cm_leaf_104 rfl rfl ?_
        refine zk_if_eq 122 109 dc_Cm_leaf_106 (by decide) rfl (fun hx => by first | exact absurd hx (show ¬ (1 : Int32) = 0 by decide) | exact absurd (show ¬ (1 : Int32) = 0 by decide) hx) (fun hx => ?_)
        refine zk_aload_0 110 dc_Cm_leaf_109 rfl rfl ?_
        refine zk_getfield 113 dc_Cm_leaf_110 fg_Cm_10 ha rfl rfl ?_
        refine zk_iload_1 114 dc_Cm_leaf_113 rfl rfl ?_
        refine zk_iload_2 115 dc_Cm_leaf_114 rfl rfl ?_
        refine zk_iload_3 116 dc_Cm_leaf_115 rfl rfl ?_
        refine zk_cVr 119 (c_addLeaf ht hq0 hr0 hq1 hr1) dc_Cm_leaf_116 ok_CmTerms_addLeaf lk_Cm_77 ht rfl rfl rfl ⟨Nat.le_of_ble_eq_true rfl, Nat.le_of_ble_eq_true rfl⟩ (Nat.le_of_ble_eq_true rfl) rfl (fun v M1 hk => ?_)
        obtain ⟨rfl, g, rfl, p⟩ := hk
        refine zk_goto 123 dc_Cm_leaf_119 (by decide) ?_
        have hp : p1_leaf x y z = 0 := by rw [p1_leaf, if_pos ⟨by first | exact Or.inl t0 | exact Or.inr t2, h1, hc⟩]
        exact zk_ireturn dc_Cm_leaf_123 rfl (by first | rfl | decide) ⟨_, rfl, congrArg Value.int hp.symm, w, s, g, rfl, Nat.le_add_right _ _, Nat.le_add_right _ _, fun b q1 q2 => p b (by omega)⟩
    · refine zk_if_eq 47 39 dc_Cm_leaf_36 (by decide) rfl (fun hx => ?_) (fun hx => by first | exact absurd hx rfl | exact absurd rfl hx)
      refine zk_iconst (v := 0) 48 dc_Cm_leaf_47 (by decide) rfl ?_
      refine zk_goto 102 dc_Cm_leaf_48 (by decide) ?_
      refine zk_istore_4 104 dc_Cm_leaf_102 (Nat.le_of_ble_eq_true rfl) rfl ?_
      refine zk_iload 106 dc_Cm_leaf_104 rfl rfl ?_
      refine zk_if_eq 122 109 dc_Cm_leaf_106 (by decide) rfl (fun hx => ?_) (fun hx => by first | exact absurd hx rfl | exact absurd rfl hx)
      refine zk_iconst (v := -1) 123 dc_Cm_leaf_122 (by decide) rfl ?_
      have hp : p1_leaf x y z = -1 := by rw [p1_leaf, if_neg (fun q => h1 q.2.1)]
      exact zk_ireturn dc_Cm_leaf_123 rfl (by first | rfl | decide) ⟨_, rfl, congrArg Value.int hp.symm, p1_same⟩
  by_cases t3 : x = 3
  · refine zk_tableIn 74 3 t3 dc_Cm_leaf_1 (by decide) (by decide) rfl (by decide) ?_
    refine zk_aload_0 75 dc_Cm_leaf_74 rfl rfl ?_
    refine zk_getfield 78 dc_Cm_leaf_75 fg_Cm_19 ha rfl rfl ?_
    refine zk_iload_2 79 dc_Cm_leaf_78 rfl rfl ?_
    refine zk_iconst (v := 2) 80 dc_Cm_leaf_79 (by decide) rfl ?_
    refine zk_cVr 83 (c_ofKind hg) dc_Cm_leaf_80 ok_CmGlobals_ofKind lk_Cm_73 hg rfl rfl rfl ⟨Nat.le_of_ble_eq_true rfl, Nat.le_of_ble_eq_true rfl⟩ (Nat.le_of_ble_eq_true rfl) rfl (fun v M1 hk => ?_)
    obtain ⟨rfl, rfl⟩ := hk
    refine zk_ifnullN 97 dc_Cm_leaf_83 (by decide) ?_
    refine zk_iconst (v := 0) 98 dc_Cm_leaf_97 (by decide) rfl ?_
    refine zk_goto 102 dc_Cm_leaf_98 (by decide) ?_
    refine zk_istore_4 104 dc_Cm_leaf_102 (Nat.le_of_ble_eq_true rfl) rfl ?_
    refine zk_iload 106 dc_Cm_leaf_104 rfl rfl ?_
    refine zk_if_eq 122 109 dc_Cm_leaf_106 (by decide) rfl (fun hx => ?_) (fun hx => by first | exact absurd hx rfl | exact absurd rfl hx)
    refine zk_iconst (v := -1) 123 dc_Cm_leaf_122 (by decide) rfl ?_
    have hp : p1_leaf x y z = -1 := by rw [p1_leaf, if_neg (fun q => by rw [t3] at q; exact absurd q.1 (by decide))]
    exact zk_ireturn dc_Cm_leaf_123 rfl (by first | rfl | decide) ⟨_, rfl, congrArg Value.int hp.symm, p1_same⟩
  refine zk_tableOut 101 dc_Cm_leaf_1 (zk_out fun k h1 h2 q => by rcases (show k = 0 ∨ k = 1 ∨ k = 2 ∨ k = 3 by omega) with rfl | rfl | rfl | rfl <;> first | exact t0 (Int32.toInt_inj.mp (q.trans (by decide))) | exact t1 (Int32.toInt_inj.mp (q.trans (by decide))) | exact t2 (Int32.toInt_inj.mp (q.trans (by decide))) | exact t3 (Int32.toInt_inj.mp (q.trans (by decide)))) (by decide) ?_
  refine zk_iconst (v := 0) 102 dc_Cm_leaf_101 (by decide) rfl ?_
  refine zk_istore_4 104 dc_Cm_leaf_102 (Nat.le_of_ble_eq_true rfl) rfl ?_
  refine zk_iload 106 dc_Cm_leaf_104 rfl rfl ?_
  refine zk_if_eq 122 109 dc_Cm_leaf_106 (by decide) rfl (fun hx => ?_) (fun hx => by first | exact absurd hx rfl | exact absurd rfl hx)
  refine zk_iconst (v := -1) 123 dc_Cm_leaf_122 (by decide) rfl ?_
  have hp : p1_leaf x y z = -1 := by rw [p1_leaf, if_neg (fun q => q.1.elim t0 t2)]
  exact zk_ireturn dc_Cm_leaf_123 rfl (by first | rfl | decide) ⟨_, rfl, congrArg Value.int hp.symm, p1_same⟩
set_option maxHeartbeats 4000000 in
set_option maxRecDepth 100000 in
theorem ct_Global {Z : zk_Z} {w s : Nat} {f : Nat → Option zk_E} {a : Nat} {x : Int32} (ha : f a = some (.inr (.inr (7, [.int 0, .int 0, .int 0, .int 0, .int 0, .int 0, .int 0, .null, .int 0])))) : zk_Kv Z mm_CmGlobal_init [.ref a, .int x] (w, s, f) (fun M' => ∃ g : Nat → Option zk_E, M' = (w, s, g) ∧ g a = some (.inr (.inr (7, [.int x, .int (-1), .int 0, .int 0, .int 0, .int (-1), .int (-1), .null, .int 0]))) ∧ ∀ b, b ≠ a → g b = f b) := by
  refine zk_enterB (by decide) (Nat.le_of_ble_eq_true rfl) rfl ?_
  show zk_P Z mm_CmGlobal_init 0 [some (.ref a), some (.int x)] [] (w, s, f) _
  refine zk_aload_0 1 dc_CmGlobal_init_0 rfl rfl ?_
  refine zk_objInit 4 dc_CmGlobal_init_1 (zk_in 316 (by decide +kernel) (by decide +kernel)) (zk_in 20 (by decide +kernel) (by decide +kernel)) (zk_in 21 rfl rfl) (Nat.le_of_ble_eq_true rfl) (Nat.le_of_ble_eq_true rfl) rfl ?_
  refine zk_aload_0 5 dc_CmGlobal_init_4 rfl rfl ?_
  refine zk_iconst (v := -1) 6 dc_CmGlobal_init_5 (by decide) rfl ?_
  refine zk_put 9 dc_CmGlobal_init_6 fp_CmGlobal_9 ha rfl rfl (Nat.le_of_ble_eq_true rfl) rfl (fun f1 ha o1 => ?_)
  refine zk_aload_0 10 dc_CmGlobal_init_9 rfl rfl ?_
  refine zk_iconst (v := 0) 11 dc_CmGlobal_init_10 (by decide) rfl ?_
  refine zk_put 14 dc_CmGlobal_init_11 fp_CmGlobal_15 ha rfl rfl (Nat.le_of_ble_eq_true rfl) rfl (fun f2 ha o2 => ?_)
  refine zk_aload_0 15 dc_CmGlobal_init_14 rfl rfl ?_
  refine zk_iconst (v := 0) 16 dc_CmGlobal_init_15 (by decide) rfl ?_
  refine zk_put 19 dc_CmGlobal_init_16 fp_CmGlobal_18 ha rfl rfl (Nat.le_of_ble_eq_true rfl) rfl (fun f3 ha o3 => ?_)
  refine zk_aload_0 20 dc_CmGlobal_init_19 rfl rfl ?_
  refine zk_iconst (v := 0) 21 dc_CmGlobal_init_20 (by decide) rfl ?_
  refine zk_put 24 dc_CmGlobal_init_21 fp_CmGlobal_21 ha rfl rfl (Nat.le_of_ble_eq_true rfl) rfl (fun f4 ha o4 => ?_)
  refine zk_aload_0 25 dc_CmGlobal_init_24 rfl rfl ?_
  refine zk_iconst (v := -1) 26 dc_CmGlobal_init_25 (by decide) rfl ?_
  refine zk_put 29 dc_CmGlobal_init_26 fp_CmGlobal_24 ha rfl rfl (Nat.le_of_ble_eq_true rfl) rfl (fun f5 ha o5 => ?_)
  refine zk_aload_0 30 dc_CmGlobal_init_29 rfl rfl ?_
  refine zk_iconst (v := -1) 31 dc_CmGlobal_init_30 (by decide) rfl ?_
  refine zk_put 34 dc_CmGlobal_init_31 fp_CmGlobal_27 ha rfl rfl (Nat.le_of_ble_eq_true rfl) rfl (fun f6 ha o6 => ?_)
  refine zk_aload_0 35 dc_CmGlobal_init_34 rfl rfl ?_
  refine zk_null 36 dc_CmGlobal_init_35 rfl ?_
  refine zk_put 39 dc_CmGlobal_init_36 fp_CmGlobal_30 ha rfl rfl (Nat.le_of_ble_eq_true rfl) rfl (fun f7 ha o7 => ?_)
  refine zk_aload_0 40 dc_CmGlobal_init_39 rfl rfl ?_
  refine zk_iconst (v := 0) 41 dc_CmGlobal_init_40 (by decide) rfl ?_
  refine zk_put 44 dc_CmGlobal_init_41 fp_CmGlobal_34 ha rfl rfl (Nat.le_of_ble_eq_true rfl) rfl (fun f8 ha o8 => ?_)
  refine zk_aload_0 45 dc_CmGlobal_init_44 rfl rfl ?_
  refine zk_iload_1 46 dc_CmGlobal_init_45 rfl rfl ?_
  refine zk_putF 49 dc_CmGlobal_init_46 fp_CmGlobal_37 (fun C T N h => by cases h; rfl) rfl ha rfl rfl (Nat.le_of_ble_eq_true rfl) rfl (fun f9 ha o9 => ?_)
  exact zk_return dc_CmGlobal_init_49 rfl ⟨rfl, _, rfl, ha, fun b q1 => by rw [o9 b (by omega), o8 b (by omega), o7 b (by omega), o6 b (by omega), o5 b (by omega), o4 b (by omega), o3 b (by omega), o2 b (by omega), o1 b (by omega)]⟩
set_option maxHeartbeats 4000000 in
set_option maxRecDepth 100000 in
theorem c_gadd {Z : zk_Z} {w s : Nat} {f : Nat → Option zk_E} {q r v c : Nat} {h : Nat → Option Nat} {vs : List Value} (hq : f q = some (.inr (.inr (2, [.ref r, .int (nI c)])))) (hr : f r = some (.inr (.inl (1, 60, h)))) (hv : f v = some (.inr (.inr (7, vs)))) (hc : c < 60) (h1 : q ≠ r) (h2 : q ≠ v) (h3 : r ≠ v) : zk_Kr Z mm_CmGlobals_add [.ref q, .ref v] (w, s, f) (fun x M' => x = .int (nI c) ∧ ∃ (g : Nat → Option zk_E) (h2 : Nat → Option Nat), M' = (w, s, g) ∧ g q = some (.inr (.inr (2, [.ref r, .int (nI (c + 1))]))) ∧ g r = some (.inr (.inl (1, 60, h2))) ∧ ∀ b, b ≠ q → b ≠ r → g b = f b) := by
  refine zk_enterB (by decide) (Nat.le_of_ble_eq_true rfl) rfl ?_
  show zk_P Z mm_CmGlobals_add 0 [some (.ref q), some (.ref v)] [] (w, s, f) _
  refine zk_aload_0 1 dc_CmGlobals_add_0 rfl rfl ?_
  refine zk_getfield 4 dc_CmGlobals_add_1 fg_CmGlobals_17 hq rfl rfl ?_
  refine zk_if_lt 19 7 dc_CmGlobals_add_4 (by decide) rfl (fun hx => by first | exact absurd hx (nI_pos (show c < 2 ^ 31 by omega)) | exact absurd (nI_pos (show c < 2 ^ 31 by omega)) hx) (fun hx => ?_)
  refine zk_aload_0 8 dc_CmGlobals_add_7 rfl rfl ?_
  refine zk_getfield 11 dc_CmGlobals_add_8 fg_CmGlobals_17 hq rfl rfl ?_
  refine zk_aload_0 12 dc_CmGlobals_add_11 rfl rfl ?_
  refine zk_getfield 15 dc_CmGlobals_add_12 fg_CmGlobals_11 hq rfl rfl ?_
  refine zk_alenq 16 dc_CmGlobals_add_15 rfl hr rfl ?_
  refine zk_icmp_lt 21 19 dc_CmGlobals_add_16 (by decide) rfl (fun hx => ?_) (fun hx => by first | exact absurd hx (show nI c < nI 60 from nI_lt hc (by decide)) | exact absurd (show nI c < nI 60 from nI_lt hc (by decide)) hx)
  refine zk_aload_0 22 dc_CmGlobals_add_21 rfl rfl ?_
  refine zk_getfield 25 dc_CmGlobals_add_22 fg_CmGlobals_11 hq rfl rfl ?_
  refine zk_aload_0 26 dc_CmGlobals_add_25 rfl rfl ?_
  refine zk_getfield 29 dc_CmGlobals_add_26 fg_CmGlobals_17 hq rfl rfl ?_
  refine zk_aload_1 30 dc_CmGlobals_add_29 rfl rfl ?_
  refine zk_aastoreK 31 dc_CmGlobals_add_30 rfl hr hv rfl (vp_in_nI hc (by decide)) rfl (fun f1 hr o1 => ?_)
  have hq := (o1 (q) (by omega) ).trans hq
  have hv := (o1 (v) (by omega) ).trans hv
  refine zk_aload_0 32 dc_CmGlobals_add_31 rfl rfl ?_
  refine zk_dup 33 dc_CmGlobals_add_32 rfl rfl ?_
  refine zk_getfield 36 dc_CmGlobals_add_33 fg_CmGlobals_17 hq rfl rfl ?_
  refine zk_dup_x1 37 dc_CmGlobals_add_36 rfl rfl rfl ?_
  refine zk_iconst (v := 1) 38 dc_CmGlobals_add_37 (by decide) rfl ?_
  refine zk_iadd 39 dc_CmGlobals_add_38 rfl ?_
  refine zk_put 42 dc_CmGlobals_add_39 fp_CmGlobals_17 hq rfl rfl (Nat.le_of_ble_eq_true rfl) rfl (fun f2 hq o2 => ?_)
  have hv := (o2 (v) (by omega) ).trans hv
  have hr := (o2 (r) (by omega) ).trans hr
  rw [nI_1] at hq
  exact zk_ireturn dc_CmGlobals_add_42 rfl (by first | rfl | decide) ⟨_, rfl, rfl, _, _, rfl, hq, hr, fun b q1 q2 => by rw [o2 b (by omega), o1 b (by omega)]⟩
set_option maxHeartbeats 4000000 in
set_option maxRecDepth 100000 in
theorem f_axiom {Z : zk_Z} {w s : Nat} {f : Nat → Option zk_E} {a n : Nat} (ha : f (a) = some (.inr (.inr (6, [.ref n, .ref (n + 7), .ref (n + 9), .ref (n + 10), .ref (n + 17), .int (-1), .int (-1), .int (-1), .int (-1)])))) (ht : f (n) = some (.inr (.inr (1, [.ref (n + 1), .ref (n + 3), .ref (n + 5), .int 0])))) (hq0 : f (n + 1) = some (.inr (.inr (0, [.int 46000, .ref (n + 2), .int 0])))) (hr0 : f (n + 2) = some (.inl (256, fun _ => 0))) (hq1 : f (n + 3) = some (.inr (.inr (0, [.int 3000, .ref (n + 4), .int 0])))) (hr1 : f (n + 4) = some (.inl (256, fun _ => 0))) (hg : f (n + 7) = some (.inr (.inr (2, [.ref (n + 8), .int 0])))) (hga : f (n + 8) = some (.inr (.inl (1, 60, fun _ => none)))) (hlt : a < n) (hw : n + 20 ≤ w) : zk_Kr Z mm_Cm_axiom [.ref a] (w, s, f) (fun v M' => v = .int (nI 0) ∧ p1_po w s n f M') := by
  refine zk_enterB (by decide) (Nat.le_of_ble_eq_true rfl) rfl ?_
  show zk_P Z mm_Cm_axiom 0 [some (.ref a)] [] (w, s, f) _
  refine zk_aload_0 1 dc_Cm_axiom_0 rfl rfl ?_
  refine zk_getfield 4 dc_Cm_axiom_1 fg_Cm_19 ha rfl rfl ?_
  refine zk_iconst (v := 1) 5 dc_Cm_axiom_4 (by decide) rfl ?_
  refine zk_cVr 8 (c_room hg) dc_Cm_axiom_5 ok_CmGlobals_roomFor lk_Cm_92 hg rfl rfl rfl ⟨Nat.le_of_ble_eq_true rfl, Nat.le_of_ble_eq_true rfl⟩ (Nat.le_of_ble_eq_true rfl) rfl (fun v M1 hk => ?_)
  obtain ⟨rfl, hk⟩ := hk
  have hk : v = .int 1 := by rcases hk with ⟨_, h⟩ | ⟨h, _⟩ <;> first | exact h | exact absurd h (by decide)
  subst hk
  refine zk_if_eq 29 11 dc_Cm_axiom_8 (by decide) rfl (fun hx => by first | exact absurd hx (show ¬ (1 : Int32) = 0 by decide) | exact absurd (show ¬ (1 : Int32) = 0 by decide) hx) (fun hx => ?_)
  refine zk_aload_0 12 dc_Cm_axiom_11 rfl rfl ?_
  refine zk_getfield 15 dc_Cm_axiom_12 fg_Cm_19 ha rfl rfl ?_
  refine zk_newK 18 dc_Cm_axiom_15 nw_Cm_71 rfl (fun f1 hv o1 => ?_)
  have hg := (o1 (n + 7) (by omega) ).trans hg
  have hga := (o1 (n + 8) (by omega) ).trans hga
  refine zk_dup 19 dc_Cm_axiom_18 rfl rfl ?_
  refine zk_iconst (v := 0) 20 dc_Cm_axiom_19 (by decide) rfl ?_
  refine zk_cIv 23 (ct_Global hv) dc_Cm_axiom_20 ok_CmGlobal_init lk_Cm_95 rfl rfl ⟨Nat.le_of_ble_eq_true rfl, Nat.le_of_ble_eq_true rfl⟩ (Nat.le_of_ble_eq_true rfl) rfl (fun M1 hk => ?_)
  obtain ⟨g1, rfl, hv, p1⟩ := hk
  have hg := (p1 (n + 7) (by omega) ).trans hg
  have hga := (p1 (n + 8) (by omega) ).trans hga
  refine zk_cVr 26 (c_gadd (c := 0) hg hga hv (by decide) (by omega) (by omega) (by omega)) dc_Cm_axiom_23 ok_CmGlobals_add lk_Cm_98 hg rfl rfl rfl ⟨Nat.le_of_ble_eq_true rfl, Nat.le_of_ble_eq_true rfl⟩ (Nat.le_of_ble_eq_true rfl) rfl (fun v M1 hk => ?_)
  obtain ⟨rfl, g2, h2, rfl, -, -, p2⟩ := hk
  refine zk_goto 30 dc_Cm_axiom_26 (by decide) ?_
  exact zk_ireturn dc_Cm_axiom_30 rfl (by first | rfl | decide) ⟨_, rfl, rfl, _, _, _, rfl, by omega, by omega, fun b q1 q2 => by rw [p2 b (by omega) (by omega), p1 b (by omega), o1 b (by omega)]⟩
set_option maxHeartbeats 4000000 in
set_option maxRecDepth 100000 in
theorem c_famloop {Z : zk_Z} {q r k x4 : Nat} {x1 x2 x5 : Int32} {R : Option Value → zk_M → Prop} (hqr : q ≠ r) (hk : k ≤ 5) : ∀ (m j w s : Nat) (f : Nat → Option zk_E) (h : Nat → Option Nat) (l7 : Option Value), j + m = k → f q = some (.inr (.inr (2, [.ref r, .int (nI (j + 1))]))) → f r = some (.inr (.inl (1, 60, h))) → q < w → r < w → (∀ (g : Nat → Option zk_E) (w2 s2 : Nat), w2 = w + m → s2 = s + 9 * m → (∀ b, b < w → b ≠ q → b ≠ r → g b = f b) → R (some (.int x5)) (w2, s2, g)) → zk_P Z mm_CmGlobals_addFamily 39 [some (.ref q), some (.int x1), some (.int x2), some (.int (nI k)), some (.ref x4), some (.int x5), some (.int (nI j)), l7] [] (w, s, f) R := by
  intro m
  induction m with
  | zero =>
    intro j w s f h l7 hj hq hr hw1 hw2 hR
    have hj : j = k := by omega
    subst hj
    refine zk_iload 41 dc_CmGlobals_addFamily_39 rfl rfl ?_
    refine zk_iload_3 42 dc_CmGlobals_addFamily_41 rfl rfl ?_
    refine zk_icmp_ge 82 45 dc_CmGlobals_addFamily_42 (by decide) rfl (fun hx => ?_) (fun hx => by first | exact absurd hx (show nI j ≤ nI j from Int32.le_refl _) | exact absurd (show nI j ≤ nI j from Int32.le_refl _) hx)
    refine zk_iload 84 dc_CmGlobals_addFamily_82 rfl rfl ?_
    exact zk_ireturn dc_CmGlobals_addFamily_84 rfl rfl (hR f w s rfl rfl (fun _ _ _ _ => rfl))
  | succ m ih =>
    intro j w s f h l7 hj hq hr hw1 hw2 hR
    refine zk_iload 41 dc_CmGlobals_addFamily_39 rfl rfl ?_
    refine zk_iload_3 42 dc_CmGlobals_addFamily_41 rfl rfl ?_
    refine zk_icmp_ge 82 45 dc_CmGlobals_addFamily_42 (by decide) rfl (fun hx => by first | exact absurd hx (show ¬ nI k ≤ nI j from nI_ge (by omega) (by omega)) | exact absurd (show ¬ nI k ≤ nI j from nI_ge (by omega) (by omega)) hx) (fun hx => ?_)
    refine zk_newK 48 dc_CmGlobals_addFamily_45 nw_CmGlobals_9 rfl (fun f1 hv o1 => ?_)
    have hq := (o1 (q) (by omega) ).trans hq
    have hr := (o1 (r) (by omega) ).trans hr
    refine zk_dup 49 dc_CmGlobals_addFamily_48 rfl rfl ?_
    refine zk_iconst (v := 3) 50 dc_CmGlobals_addFamily_49 (by decide) rfl ?_
    refine zk_cIv 53 (ct_Global hv) dc_CmGlobals_addFamily_50 ok_CmGlobal_init lk_CmGlobals_28 rfl rfl ⟨Nat.le_of_ble_eq_true rfl, Nat.le_of_ble_eq_true rfl⟩ (Nat.le_of_ble_eq_true rfl) rfl (fun M1 hk => ?_)
    obtain ⟨g1, rfl, hv, p1⟩ := hk
    have hq := (p1 (q) (by omega) ).trans hq
    have hr := (p1 (r) (by omega) ).trans hr
    refine zk_astore_7 55 dc_CmGlobals_addFamily_53 (Nat.le_of_ble_eq_true rfl) rfl ?_
    refine zk_aload 57 dc_CmGlobals_addFamily_55 rfl rfl ?_
    refine zk_iload 59 dc_CmGlobals_addFamily_57 rfl rfl ?_
    refine zk_put 62 dc_CmGlobals_addFamily_59 fp_CmGlobals_44 hv rfl rfl (Nat.le_of_ble_eq_true rfl) rfl (fun f2 hv o2 => ?_)
    have hq := (o2 (q) (by omega) ).trans hq
    have hr := (o2 (r) (by omega) ).trans hr
    refine zk_aload 64 dc_CmGlobals_addFamily_62 rfl rfl ?_
    refine zk_iload 66 dc_CmGlobals_addFamily_64 rfl rfl ?_
    refine zk_put 69 dc_CmGlobals_addFamily_66 fp_CmGlobals_47 hv rfl rfl (Nat.le_of_ble_eq_true rfl) rfl (fun f3 hv o3 => ?_)
    have hq := (o3 (q) (by omega) ).trans hq
    have hr := (o3 (r) (by omega) ).trans hr
    refine zk_aload_0 70 dc_CmGlobals_addFamily_69 rfl rfl ?_
    refine zk_aload 72 dc_CmGlobals_addFamily_70 rfl rfl ?_
    refine zk_cVr 75 (c_gadd (c := j + 1) hq hr hv (by omega) hqr (by omega) (by omega)) dc_CmGlobals_addFamily_72 ok_CmGlobals_add lk_CmGlobals_40 hq rfl rfl rfl ⟨Nat.le_of_ble_eq_true rfl, Nat.le_of_ble_eq_true rfl⟩ (Nat.le_of_ble_eq_true rfl) rfl (fun v M1 hk => ?_)
    obtain ⟨rfl, g2, h2, rfl, hq, hr, p2⟩ := hk
    refine zk_pop 76 dc_CmGlobals_addFamily_75 rfl rfl ?_
    refine zk_iinc_6 (v := 1) 79 dc_CmGlobals_addFamily_76 (by decide) (Nat.le_of_ble_eq_true rfl) rfl ?_
    refine zk_goto 39 dc_CmGlobals_addFamily_79 (by decide) ?_
    rw [nI_1]
    exact ih (j + 1) (w + 1) (s + 9) g2 h2 _ (by omega) hq hr (by omega) (by omega) (fun g3 w2 s2 e1 e2 o => hR g3 w2 s2 (by omega) (by omega) (fun b b1 b2 b3 => by rw [o b (by omega) b2 b3, p2 b (by omega) (by omega), o3 b (by omega), o2 b (by omega), p1 b (by omega), o1 b (by omega)]))
set_option maxHeartbeats 4000000 in
set_option maxRecDepth 100000 in
theorem c_addFamily {Z : zk_Z} {w s : Nat} {f : Nat → Option zk_E} {q r k : Nat} {h : Nat → Option Nat} {x1 x2 : Int32} (hq : f q = some (.inr (.inr (2, [.ref r, .int (nI 0)])))) (hr : f r = some (.inr (.inl (1, 60, h)))) (hqr : q ≠ r) (hk : k ≤ 5) (hw1 : q < w) (hw2 : r < w) : zk_Kr Z mm_CmGlobals_addFamily [.ref q, .int x1, .int x2, .int (nI k)] (w, s, f) (fun v M' => v = .int (nI 0) ∧ ∃ (w2 s2 : Nat) (g : Nat → Option zk_E), M' = (w2, s2, g) ∧ w2 ≤ w + 6 ∧ s2 ≤ s + 54 ∧ ∀ b, b < w → b ≠ q → b ≠ r → g b = f b) := by
  refine zk_enterB (by decide) (Nat.le_of_ble_eq_true rfl) rfl ?_
  show zk_P Z mm_CmGlobals_addFamily 0 [some (.ref q), some (.int x1), some (.int x2), some (.int (nI k)), none, none, none, none] [] (w, s, f) _
  refine zk_newK 3 dc_CmGlobals_addFamily_0 nw_CmGlobals_9 rfl (fun f1 hv o1 => ?_)
  have hq := (o1 (q) (by omega) ).trans hq
  have hr := (o1 (r) (by omega) ).trans hr
  refine zk_dup 4 dc_CmGlobals_addFamily_3 rfl rfl ?_
  refine zk_iconst (v := 2) 5 dc_CmGlobals_addFamily_4 (by decide) rfl ?_
  refine zk_cIv 8 (ct_Global hv) dc_CmGlobals_addFamily_5 ok_CmGlobal_init lk_CmGlobals_28 rfl rfl ⟨Nat.le_of_ble_eq_true rfl, Nat.le_of_ble_eq_true rfl⟩ (Nat.le_of_ble_eq_true rfl) rfl (fun M1 hk => ?_)
  obtain ⟨g1, rfl, hv, p1⟩ := hk
  have hq := (p1 (q) (by omega) ).trans hq
  have hr := (p1 (r) (by omega) ).trans hr
  refine zk_astore_4 10 dc_CmGlobals_addFamily_8 (Nat.le_of_ble_eq_true rfl) rfl ?_
  refine zk_aload 12 dc_CmGlobals_addFamily_10 rfl rfl ?_
  refine zk_iload_1 13 dc_CmGlobals_addFamily_12 rfl rfl ?_
  refine zk_put 16 dc_CmGlobals_addFamily_13 fp_CmGlobals_31 hv rfl rfl (Nat.le_of_ble_eq_true rfl) rfl (fun f2 hv o2 => ?_)
  have hq := (o2 (q) (by omega) ).trans hq
  have hr := (o2 (r) (by omega) ).trans hr
  refine zk_aload 18 dc_CmGlobals_addFamily_16 rfl rfl ?_
  refine zk_iload_2 19 dc_CmGlobals_addFamily_18 rfl rfl ?_
  refine zk_put 22 dc_CmGlobals_addFamily_19 fp_CmGlobals_34 hv rfl rfl (Nat.le_of_ble_eq_true rfl) rfl (fun f3 hv o3 => ?_)
  have hq := (o3 (q) (by omega) ).trans hq
  have hr := (o3 (r) (by omega) ).trans hr
  refine zk_aload 24 dc_CmGlobals_addFamily_22 rfl rfl ?_
  refine zk_iload_3 25 dc_CmGlobals_addFamily_24 rfl rfl ?_
  refine zk_put 28 dc_CmGlobals_addFamily_25 fp_CmGlobals_37 hv rfl rfl (Nat.le_of_ble_eq_true rfl) rfl (fun f4 hv o4 => ?_)
  have hq := (o4 (q) (by omega) ).trans hq
  have hr := (o4 (r) (by omega) ).trans hr
  refine zk_aload_0 29 dc_CmGlobals_addFamily_28 rfl rfl ?_
  refine zk_aload 31 dc_CmGlobals_addFamily_29 rfl rfl ?_
  refine zk_cVr 34 (c_gadd (c := 0) hq hr hv (by decide) hqr (by omega) (by omega)) dc_CmGlobals_addFamily_31 ok_CmGlobals_add lk_CmGlobals_40 hq rfl rfl rfl ⟨Nat.le_of_ble_eq_true rfl, Nat.le_of_ble_eq_true rfl⟩ (Nat.le_of_ble_eq_true rfl) rfl (fun v M1 hk => ?_)
  obtain ⟨rfl, g2, h2, rfl, hq, hr, p2⟩ := hk
  refine zk_istore_5 36 dc_CmGlobals_addFamily_34 (Nat.le_of_ble_eq_true rfl) rfl ?_
  refine zk_iconst (v := 0) 37 dc_CmGlobals_addFamily_36 (by decide) rfl ?_
  refine zk_istore_6 39 dc_CmGlobals_addFamily_37 (Nat.le_of_ble_eq_true rfl) rfl ?_
  exact c_famloop hqr hk k 0 (w + 1) (s + 9) g2 h2 _ (by omega) hq hr (by omega) (by omega) (fun g3 w2 s2 e1 e2 o => ⟨_, rfl, rfl, w2, s2, g3, rfl, by omega, by omega, fun b b1 b2 b3 => by rw [o b (by omega) b2 b3, p2 b (by omega) (by omega), o4 b (by omega), o3 b (by omega), o2 b (by omega), p1 b (by omega), o1 b (by omega)]⟩)
set_option maxHeartbeats 4000000 in
set_option maxRecDepth 100000 in
theorem f_family {Z : zk_Z} {w s : Nat} {f : Nat → Option zk_E} {a n : Nat} (ha : f (a) = some (.inr (.inr (6, [.ref n, .ref (n + 7), .ref (n + 9), .ref (n + 10), .ref (n + 17), .int (-1), .int (-1), .int (-1), .int (-1)])))) (ht : f (n) = some (.inr (.inr (1, [.ref (n + 1), .ref (n + 3), .ref (n + 5), .int 0])))) (hq0 : f (n + 1) = some (.inr (.inr (0, [.int 46000, .ref (n + 2), .int 0])))) (hr0 : f (n + 2) = some (.inl (256, fun _ => 0))) (hq1 : f (n + 3) = some (.inr (.inr (0, [.int 3000, .ref (n + 4), .int 0])))) (hr1 : f (n + 4) = some (.inl (256, fun _ => 0))) (hg : f (n + 7) = some (.inr (.inr (2, [.ref (n + 8), .int 0])))) (hga : f (n + 8) = some (.inr (.inl (1, 60, fun _ => none)))) (hlt : a < n) (hw : n + 20 ≤ w) {x y z : Int32} : zk_Kr Z mm_Cm_family [.ref a, .int x, .int y, .int z] (w, s, f) (fun v M' => v = .int (p1_fam x y z) ∧ p1_po w s n f M') := by
  refine zk_enterB (by decide) (Nat.le_of_ble_eq_true rfl) rfl ?_
  show zk_P Z mm_Cm_family 0 [some (.ref a), some (.int x), some (.int y), some (.int z)] [] (w, s, f) _
  refine zk_iload_1 1 dc_Cm_family_0 rfl rfl ?_
  refine zk_iconst (v := 4) 2 dc_Cm_family_1 (by decide) rfl ?_
  refine zk_cSr 5 (c_upto) dc_Cm_family_2 ok_Cm_isUpTo lk_Cm_112 rfl rfl ⟨Nat.le_of_ble_eq_true rfl, Nat.le_of_ble_eq_true rfl⟩ (Nat.le_of_ble_eq_true rfl) rfl (fun v M1 hk => ?_)
  obtain ⟨rfl, hk⟩ := hk
  rcases hk with ⟨h1, rfl⟩ | ⟨h1, rfl⟩
  · refine zk_if_eq 37 8 dc_Cm_family_5 (by decide) rfl (fun hx => by first | exact absurd hx (show ¬ (1 : Int32) = 0 by decide) | exact absurd (show ¬ (1 : Int32) = 0 by decide) hx) (fun hx => ?_)
    refine zk_iload_2 9 dc_Cm_family_8 rfl rfl ?_
    refine zk_iconst (v := 4) 10 dc_Cm_family_9 (by decide) rfl ?_
    refine zk_cSr 13 (c_upto) dc_Cm_family_10 ok_Cm_isUpTo lk_Cm_112 rfl rfl ⟨Nat.le_of_ble_eq_true rfl, Nat.le_of_ble_eq_true rfl⟩ (Nat.le_of_ble_eq_true rfl) rfl (fun v M1 hk => ?_)
    obtain ⟨rfl, hk⟩ := hk
    rcases hk with ⟨h2, rfl⟩ | ⟨h2, rfl⟩
    · refine zk_if_eq 37 16 dc_Cm_family_13 (by decide) rfl (fun hx => by first | exact absurd hx (show ¬ (1 : Int32) = 0 by decide) | exact absurd (show ¬ (1 : Int32) = 0 by decide) hx) (fun hx => ?_)
      refine zk_iload_3 17 dc_Cm_family_16 rfl rfl ?_
      refine zk_iconst (v := 5) 18 dc_Cm_family_17 (by decide) rfl ?_
      refine zk_cSr 21 (c_upto) dc_Cm_family_18 ok_Cm_isUpTo lk_Cm_112 rfl rfl ⟨Nat.le_of_ble_eq_true rfl, Nat.le_of_ble_eq_true rfl⟩ (Nat.le_of_ble_eq_true rfl) rfl (fun v M1 hk => ?_)
      obtain ⟨rfl, hk⟩ := hk
      rcases hk with ⟨h3, rfl⟩ | ⟨h3, rfl⟩
      · refine zk_if_eq 37 24 dc_Cm_family_21 (by decide) rfl (fun hx => by first | exact absurd hx (show ¬ (1 : Int32) = 0 by decide) | exact absurd (show ¬ (1 : Int32) = 0 by decide) hx) (fun hx => ?_)
        refine zk_aload_0 25 dc_Cm_family_24 rfl rfl ?_
        refine zk_getfield 28 dc_Cm_family_25 fg_Cm_19 ha rfl rfl ?_
        refine zk_iconst (v := 1) 29 dc_Cm_family_28 (by decide) rfl ?_
        refine zk_iload_3 30 dc_Cm_family_29 rfl rfl ?_
        refine zk_iadd 31 dc_Cm_family_30 rfl ?_
        obtain ⟨k, hk5, rfl⟩ := nI_of2 (M := 5) (n := 5) rfl (Int32.not_lt.mpr h3.1) h3.2
        refine zk_cVr 34 (c_room hg) dc_Cm_family_31 ok_CmGlobals_roomFor lk_Cm_92 hg rfl rfl rfl ⟨Nat.le_of_ble_eq_true rfl, Nat.le_of_ble_eq_true rfl⟩ (Nat.le_of_ble_eq_true rfl) rfl (fun v M1 hk => ?_)
        obtain ⟨rfl, hk⟩ := hk
        have hk : v = .int 1 := by
          rcases hk with ⟨_, h⟩ | ⟨h, _⟩
          · exact h
          · rcases (show k = 0 ∨ k = 1 ∨ k = 2 ∨ k = 3 ∨ k = 4 ∨ k = 5 by omega) with rfl | rfl | rfl | rfl | rfl | rfl <;> exact absurd h (by decide)
        subst hk
        refine zk_if_ne 39 37 dc_Cm_family_34 (by decide) rfl (fun hx => ?_) (fun hx => by first | exact absurd hx (show ¬ (1 : Int32) = 0 by decide) | exact absurd (show ¬ (1 : Int32) = 0 by decide) hx)
        refine zk_aload_0 40 dc_Cm_family_39 rfl rfl ?_
        refine zk_getfield 43 dc_Cm_family_40 fg_Cm_19 ha rfl rfl ?_
        refine zk_iload_1 44 dc_Cm_family_43 rfl rfl ?_
        refine zk_iload_2 45 dc_Cm_family_44 rfl rfl ?_
        refine zk_iload_3 46 dc_Cm_family_45 rfl rfl ?_
        refine zk_cVr 49 (c_addFamily hg hga (by omega) hk5 (by omega) (by omega)) dc_Cm_family_46 ok_CmGlobals_addFamily lk_Cm_116 hg rfl rfl rfl ⟨Nat.le_of_ble_eq_true rfl, Nat.le_of_ble_eq_true rfl⟩ (Nat.le_of_ble_eq_true rfl) rfl (fun v M1 hk => ?_)
        obtain ⟨rfl, w2, s2, g, rfl, q1, q2, p⟩ := hk
        have hp : p1_fam x y (nI k) = 0 := by rw [p1_fam, if_pos ⟨h1, h2, h3⟩]
        exact zk_ireturn dc_Cm_family_49 rfl (by first | rfl | decide) ⟨_, rfl, congrArg Value.int hp.symm, w2, s2, g, rfl, q1, q2, fun b b1 b2 => p b b2 (by omega) (by omega)⟩
      · refine zk_if_eq 37 24 dc_Cm_family_21 (by decide) rfl (fun hx => ?_) (fun hx => by first | exact absurd hx rfl | exact absurd rfl hx)
        refine zk_iconst (v := -1) 38 dc_Cm_family_37 (by decide) rfl ?_
        have hp : p1_fam x y z = -1 := by rw [p1_fam, if_neg (fun q => h3 q.2.2)]
        exact zk_ireturn dc_Cm_family_38 rfl (by first | rfl | decide) ⟨_, rfl, congrArg Value.int hp.symm, p1_same⟩
    · refine zk_if_eq 37 16 dc_Cm_family_13 (by decide) rfl (fun hx => ?_) (fun hx => by first | exact absurd hx rfl | exact absurd rfl hx)
      refine zk_iconst (v := -1) 38 dc_Cm_family_37 (by decide) rfl ?_
      have hp : p1_fam x y z = -1 := by rw [p1_fam, if_neg (fun q => h2 q.2.1)]
      exact zk_ireturn dc_Cm_family_38 rfl (by first | rfl | decide) ⟨_, rfl, congrArg Value.int hp.symm, p1_same⟩
  · refine zk_if_eq 37 8 dc_Cm_family_5 (by decide) rfl (fun hx => ?_) (fun hx => by first | exact absurd hx rfl | exact absurd rfl hx)
    refine zk_iconst (v := -1) 38 dc_Cm_family_37 (by decide) rfl ?_
    have hp : p1_fam x y z = -1 := by rw [p1_fam, if_neg (fun q => h1 q.1)]
    exact zk_ireturn dc_Cm_family_38 rfl (by first | rfl | decide) ⟨_, rfl, congrArg Value.int hp.symm, p1_same⟩
