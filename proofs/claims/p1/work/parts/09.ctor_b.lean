set_option maxHeartbeats 4000000 in
set_option maxRecDepth 100000 in
theorem ct_MRows {Z : zk_Z} {n s : Nat} {f : Nat → Option zk_E} {a : Nat} (ha : f a = some (.inr (.inr (8, [.null, .null, .null, .null, .int 0])))) (hlt : a < n) : zk_Kv Z mm_MoRows_init [.ref a] (n, s, f) (fun M' => ∃ g : Nat → Option zk_E, M' = (n + 4, s + 16384, g) ∧ g a = some (.inr (.inr (8, [.ref n, .ref (n + 1), .ref (n + 2), .ref (n + 3), .int 0]))) ∧ g (n + 0) = some (.inl (4096, fun _ => 0)) ∧ g (n + 1) = some (.inl (4096, fun _ => 0)) ∧ g (n + 2) = some (.inl (4096, fun _ => 0)) ∧ g (n + 3) = some (.inl (4096, fun _ => 0)) ∧ ∀ b, b < n → b ≠ a → g b = f b) := by
  refine zk_enterB (by decide) (Nat.le_of_ble_eq_true rfl) rfl ?_
  show zk_P Z mm_MoRows_init 0 [some (.ref a)] [] (n, s, f) _
  refine zk_aload_0 1 dc_MoRows_init_0 rfl rfl ?_
  refine zk_objInit 4 dc_MoRows_init_1 (zk_in 660 (by decide +kernel) (by decide +kernel)) (zk_in 20 (by decide +kernel) (by decide +kernel)) (zk_in 21 rfl rfl) (Nat.le_of_ble_eq_true rfl) (Nat.le_of_ble_eq_true rfl) rfl ?_
  refine zk_aload_0 5 dc_MoRows_init_4 rfl rfl ?_
  refine zk_sipush (v := 4096) 8 dc_MoRows_init_5 (by decide) rfl ?_
  refine zk_newiK (N := 4096) 10 dc_MoRows_init_8 (zk_in 45 (by decide +kernel) (by decide +kernel)) (by decide) (by decide) (by decide) rfl (fun f1 h0 o1 => ?_)
  have ha := (o1 (a) (by omega) ).trans ha
  refine zk_put 13 dc_MoRows_init_10 fp_MoRows_9 ha rfl rfl (Nat.le_of_ble_eq_true rfl) rfl (fun f2 ha o2 => ?_)
  have h0 := (o2 (n + 0) (by omega) ).trans h0
  refine zk_aload_0 14 dc_MoRows_init_13 rfl rfl ?_
  refine zk_sipush (v := 4096) 17 dc_MoRows_init_14 (by decide) rfl ?_
  refine zk_newiK (N := 4096) 19 dc_MoRows_init_17 (zk_in 45 (by decide +kernel) (by decide +kernel)) (by decide) (by decide) (by decide) rfl (fun f3 h1 o3 => ?_)
  have h0 := (o3 (n + 0) (by omega) ).trans h0
  have ha := (o3 (a) (by omega) ).trans ha
  refine zk_put 22 dc_MoRows_init_19 fp_MoRows_15 ha rfl rfl (Nat.le_of_ble_eq_true rfl) rfl (fun f4 ha o4 => ?_)
  have h0 := (o4 (n + 0) (by omega) ).trans h0
  have h1 := (o4 (n + 1) (by omega) ).trans h1
  refine zk_aload_0 23 dc_MoRows_init_22 rfl rfl ?_
  refine zk_sipush (v := 4096) 26 dc_MoRows_init_23 (by decide) rfl ?_
  refine zk_newiK (N := 4096) 28 dc_MoRows_init_26 (zk_in 45 (by decide +kernel) (by decide +kernel)) (by decide) (by decide) (by decide) rfl (fun f5 h2 o5 => ?_)
  have h0 := (o5 (n + 0) (by omega) ).trans h0
  have h1 := (o5 (n + 1) (by omega) ).trans h1
  have ha := (o5 (a) (by omega) ).trans ha
  refine zk_put 31 dc_MoRows_init_28 fp_MoRows_18 ha rfl rfl (Nat.le_of_ble_eq_true rfl) rfl (fun f6 ha o6 => ?_)
  have h0 := (o6 (n + 0) (by omega) ).trans h0
  have h1 := (o6 (n + 1) (by omega) ).trans h1
  have h2 := (o6 (n + 2) (by omega) ).trans h2
  refine zk_aload_0 32 dc_MoRows_init_31 rfl rfl ?_
  refine zk_sipush (v := 4096) 35 dc_MoRows_init_32 (by decide) rfl ?_
  refine zk_newiK (N := 4096) 37 dc_MoRows_init_35 (zk_in 45 (by decide +kernel) (by decide +kernel)) (by decide) (by decide) (by decide) rfl (fun f7 h3 o7 => ?_)
  have h0 := (o7 (n + 0) (by omega) ).trans h0
  have h1 := (o7 (n + 1) (by omega) ).trans h1
  have h2 := (o7 (n + 2) (by omega) ).trans h2
  have ha := (o7 (a) (by omega) ).trans ha
  refine zk_put 40 dc_MoRows_init_37 fp_MoRows_21 ha rfl rfl (Nat.le_of_ble_eq_true rfl) rfl (fun f8 ha o8 => ?_)
  have h0 := (o8 (n + 0) (by omega) ).trans h0
  have h1 := (o8 (n + 1) (by omega) ).trans h1
  have h2 := (o8 (n + 2) (by omega) ).trans h2
  have h3 := (o8 (n + 3) (by omega) ).trans h3
  exact zk_return dc_MoRows_init_40 rfl ⟨rfl, _, rfl, ha, h0, h1, h2, h3, fun b q1 q2 => by rw [o8 b (by omega), o7 b (by omega), o6 b (by omega), o5 b (by omega), o4 b (by omega), o3 b (by omega), o2 b (by omega), o1 b (by omega)]⟩
set_option maxHeartbeats 4000000 in
set_option maxRecDepth 100000 in
theorem ct_Radd {Z : zk_Z} {n s : Nat} {f : Nat → Option zk_E} {a c : Nat} {x y z : Int32} {gk gv gs gl : Nat → Int32} (ha : f a = some (.inr (.inr (8, [.ref (a + 1), .ref (a + 2), .ref (a + 3), .ref (a + 4), .int (nI c)])))) (hk : f (a + 1) = some (.inl (4096, gk))) (hv : f (a + 2) = some (.inl (4096, gv))) (hs : f (a + 3) = some (.inl (4096, gs))) (hl : f (a + 4) = some (.inl (4096, gl))) (hc : c < 4096) : zk_Kr Z mm_MoRows_add [.ref a, .int x, .int y, .int z] (n, s, f) (fun v M' => ∃ (g : Nat → Option zk_E) (gk gv gs gl : Nat → Int32), v = .int (nI c) ∧ M' = (n, s, g) ∧ g a = some (.inr (.inr (8, [.ref (a + 1), .ref (a + 2), .ref (a + 3), .ref (a + 4), .int (nI (c + 1))]))) ∧ g (a + 1) = some (.inl (4096, gk)) ∧ g (a + 2) = some (.inl (4096, gv)) ∧ g (a + 3) = some (.inl (4096, gs)) ∧ g (a + 4) = some (.inl (4096, gl)) ∧ ∀ b, (b < a ∨ a + 4 < b) → g b = f b) := by
  refine zk_enterB (by decide) (Nat.le_of_ble_eq_true rfl) rfl ?_
  show zk_P Z mm_MoRows_add 0 [some (.ref a), some (.int x), some (.int y), some (.int z)] [] (n, s, f) _
  refine zk_aload_0 1 dc_MoRows_add_0 rfl rfl ?_
  refine zk_getfield 4 dc_MoRows_add_1 fg_MoRows_30 ha rfl rfl ?_
  refine zk_aload_0 5 dc_MoRows_add_4 rfl rfl ?_
  refine zk_getfield 8 dc_MoRows_add_5 fg_MoRows_9 ha rfl rfl ?_
  refine zk_alen 9 dc_MoRows_add_8 rfl hk rfl ?_
  refine zk_icmp_ne 56 12 dc_MoRows_add_9 (by decide) rfl (fun hx => ?_) (fun hx => by first | exact absurd hx (show ¬ nI c = nI 4096 from fun q => by have := (nI_eq (by omega) (by omega)).mp q; omega) | exact absurd (show ¬ nI c = nI 4096 from fun q => by have := (nI_eq (by omega) (by omega)).mp q; omega) hx)
  refine zk_aload_0 57 dc_MoRows_add_56 rfl rfl ?_
  refine zk_getfield 60 dc_MoRows_add_57 fg_MoRows_9 ha rfl rfl ?_
  refine zk_aload_0 61 dc_MoRows_add_60 rfl rfl ?_
  refine zk_getfield 64 dc_MoRows_add_61 fg_MoRows_30 ha rfl rfl ?_
  refine zk_iload_1 65 dc_MoRows_add_64 rfl rfl ?_
  refine zk_iastoreK 66 dc_MoRows_add_65 hk (vp_in_nI hc (by decide)) rfl (fun f1 hk o1 => ?_)
  have ha := (o1 (a) (by omega) ).trans ha
  have hv := (o1 (a + 2) (by omega) ).trans hv
  have hs := (o1 (a + 3) (by omega) ).trans hs
  have hl := (o1 (a + 4) (by omega) ).trans hl
  refine zk_aload_0 67 dc_MoRows_add_66 rfl rfl ?_
  refine zk_getfield 70 dc_MoRows_add_67 fg_MoRows_15 ha rfl rfl ?_
  refine zk_aload_0 71 dc_MoRows_add_70 rfl rfl ?_
  refine zk_getfield 74 dc_MoRows_add_71 fg_MoRows_30 ha rfl rfl ?_
  refine zk_iload_2 75 dc_MoRows_add_74 rfl rfl ?_
  refine zk_iastoreK 76 dc_MoRows_add_75 hv (vp_in_nI hc (by decide)) rfl (fun f2 hv o2 => ?_)
  have ha := (o2 (a) (by omega) ).trans ha
  have hs := (o2 (a + 3) (by omega) ).trans hs
  have hl := (o2 (a + 4) (by omega) ).trans hl
  have hk := (o2 (a + 1) (by omega) ).trans hk
  refine zk_aload_0 77 dc_MoRows_add_76 rfl rfl ?_
  refine zk_getfield 80 dc_MoRows_add_77 fg_MoRows_18 ha rfl rfl ?_
  refine zk_aload_0 81 dc_MoRows_add_80 rfl rfl ?_
  refine zk_getfield 84 dc_MoRows_add_81 fg_MoRows_30 ha rfl rfl ?_
  refine zk_iload_3 85 dc_MoRows_add_84 rfl rfl ?_
  refine zk_iastoreK 86 dc_MoRows_add_85 hs (vp_in_nI hc (by decide)) rfl (fun f3 hs o3 => ?_)
  have ha := (o3 (a) (by omega) ).trans ha
  have hl := (o3 (a + 4) (by omega) ).trans hl
  have hk := (o3 (a + 1) (by omega) ).trans hk
  have hv := (o3 (a + 2) (by omega) ).trans hv
  refine zk_aload_0 87 dc_MoRows_add_86 rfl rfl ?_
  refine zk_getfield 90 dc_MoRows_add_87 fg_MoRows_21 ha rfl rfl ?_
  refine zk_aload_0 91 dc_MoRows_add_90 rfl rfl ?_
  refine zk_getfield 94 dc_MoRows_add_91 fg_MoRows_30 ha rfl rfl ?_
  refine zk_iconst (v := 1) 95 dc_MoRows_add_94 (by decide) rfl ?_
  refine zk_iastoreK 96 dc_MoRows_add_95 hl (vp_in_nI hc (by decide)) rfl (fun f4 hl o4 => ?_)
  have ha := (o4 (a) (by omega) ).trans ha
  have hk := (o4 (a + 1) (by omega) ).trans hk
  have hv := (o4 (a + 2) (by omega) ).trans hv
  have hs := (o4 (a + 3) (by omega) ).trans hs
  refine zk_aload_0 97 dc_MoRows_add_96 rfl rfl ?_
  refine zk_dup 98 dc_MoRows_add_97 rfl rfl ?_
  refine zk_getfield 101 dc_MoRows_add_98 fg_MoRows_30 ha rfl rfl ?_
  refine zk_dup_x1 102 dc_MoRows_add_101 rfl rfl rfl ?_
  refine zk_iconst (v := 1) 103 dc_MoRows_add_102 (by decide) rfl ?_
  refine zk_iadd 104 dc_MoRows_add_103 rfl ?_
  refine zk_put 107 dc_MoRows_add_104 fp_MoRows_30 ha rfl rfl (Nat.le_of_ble_eq_true rfl) rfl (fun f5 ha o5 => ?_)
  have hk := (o5 (a + 1) (by omega) ).trans hk
  have hv := (o5 (a + 2) (by omega) ).trans hv
  have hs := (o5 (a + 3) (by omega) ).trans hs
  have hl := (o5 (a + 4) (by omega) ).trans hl
  rw [nI_1] at ha
  exact zk_ireturn dc_MoRows_add_107 rfl (by first | rfl | decide) ⟨_, rfl, _, _, _, _, _, rfl, rfl, ha, hk, hv, hs, hl, fun b q1 => by rw [o5 b (by omega), o4 b (by omega), o3 b (by omega), o2 b (by omega), o1 b (by omega)]⟩
set_option maxHeartbeats 4000000 in
set_option maxRecDepth 100000 in
theorem ct_Mo_loop {Z : zk_Z} {n s a r : Nat} {fs : List Value} {R : Option Value → zk_M → Prop} (hfs : fs[0]? = some (.ref r)) (hlt : a < r) : ∀ (m i : Nat) (f : Nat → Option zk_E) (gk gv gs gl : Nat → Int32), i + m = 2201 → f a = some (.inr (.inr (9, fs))) → f r = some (.inr (.inr (8, [.ref (r + 1), .ref (r + 2), .ref (r + 3), .ref (r + 4), .int (nI i)]))) → f (r + 1) = some (.inl (4096, gk)) → f (r + 2) = some (.inl (4096, gv)) → f (r + 3) = some (.inl (4096, gs)) → f (r + 4) = some (.inl (4096, gl)) → (∀ (g : Nat → Option zk_E) (gk gv gs gl : Nat → Int32), (∀ b, (b < r ∨ r + 4 < b) → g b = f b) → g r = some (.inr (.inr (8, [.ref (r + 1), .ref (r + 2), .ref (r + 3), .ref (r + 4), .int (nI 2201)]))) → g (r + 1) = some (.inl (4096, gk)) → g (r + 2) = some (.inl (4096, gv)) → g (r + 3) = some (.inl (4096, gs)) → g (r + 4) = some (.inl (4096, gl)) → R none (n, s, g)) → zk_P Z mm_Mo_init 256 [some (.ref a), some (.int (nI i))] [] (n, s, f) R := by
  intro m
  induction m with
  | zero =>
    intro i f gk gv gs gl hi ha hr hk hv hs hl hR
    have hi : i = 2201 := by omega
    subst hi
    refine zk_iload_1 257 dc_Mo_init_256 rfl rfl ?_
    refine zk_sipush (v := 2200) 260 dc_Mo_init_257 (by decide) rfl ?_
    refine zk_icmp_gt 280 263 dc_Mo_init_260 (by decide) rfl (fun hx => ?_) (fun hx => by first | exact absurd hx (show nI 2200 < nI 2201 from nI_lt (by decide) (by decide)) | exact absurd (show nI 2200 < nI 2201 from nI_lt (by decide) (by decide)) hx)
    exact zk_return dc_Mo_init_280 rfl (hR f gk gv gs gl (fun _ _ => rfl) hr hk hv hs hl)
  | succ m ih =>
    intro i f gk gv gs gl hi ha hr hk hv hs hl hR
    refine zk_iload_1 257 dc_Mo_init_256 rfl rfl ?_
    refine zk_sipush (v := 2200) 260 dc_Mo_init_257 (by decide) rfl ?_
    refine zk_icmp_gt 280 263 dc_Mo_init_260 (by decide) rfl (fun hx => by first | exact absurd hx (show ¬ nI 2200 < nI i from nI_nlt (by omega) (by decide)) | exact absurd (show ¬ nI 2200 < nI i from nI_nlt (by omega) (by decide)) hx) (fun hx => ?_)
    refine zk_aload_0 264 dc_Mo_init_263 rfl rfl ?_
    refine zk_getfield 267 dc_Mo_init_264 fg_Mo_10 ha hfs rfl ?_
    refine zk_iconst (v := 0) 268 dc_Mo_init_267 (by decide) rfl ?_
    refine zk_iload_1 269 dc_Mo_init_268 rfl rfl ?_
    refine zk_iconst (v := 0) 270 dc_Mo_init_269 (by decide) rfl ?_
    refine zk_cVr 273 (ct_Radd hr hk hv hs hl (by omega)) dc_Mo_init_270 ok_MoRows_add lk_Mo_105 hr rfl rfl rfl ⟨Nat.le_of_ble_eq_true rfl, Nat.le_of_ble_eq_true rfl⟩ (Nat.le_of_ble_eq_true rfl) rfl (fun v M1 hk => ?_)
    obtain ⟨g, gk, gv, gs, gl, rfl, rfl, hr, hk, hv, hs, hl, ho⟩ := hk
    have ha := (ho (a) (by omega) ).trans ha
    refine zk_pop 274 dc_Mo_init_273 rfl rfl ?_
    refine zk_iinc_1 (v := 1) 277 dc_Mo_init_274 (by decide) (Nat.le_of_ble_eq_true rfl) rfl ?_
    refine zk_goto 256 dc_Mo_init_277 (by decide) ?_
    rw [nI_1]
    exact ih (i + 1) g gk gv gs gl (by omega) ha hr hk hv hs hl (fun g2 a1 a2 a3 a4 o2 => hR g2 a1 a2 a3 a4 (fun b hb => (o2 b hb).trans (ho b hb)))
set_option maxHeartbeats 4000000 in
set_option maxRecDepth 100000 in
theorem ct_Mo {Z : zk_Z} {n s : Nat} {f : Nat → Option zk_E} {a : Nat} (ha : f a = some (.inr (.inr (9, [.null, .null, .null, .null, .int 0, .int 0, .null, .null, .null, .null, .null, .null, .null, .null, .int 0, .null, .null, .null, .null, .int 0, .int 0, .int 0, .int 0, .int 0, .int 0, .null, .null, .null, .null, .int 0, .null, .null, .null, .int 0, .null, .null, .null, .null, .int 0, .null, .int 0, .null, .int 0, .int 0, .int 0, .int 0, .int 0, .int 0])))) (hlt : a < n) : zk_Kv Z mm_Mo_init [.ref a] (n, s, f) (fun M' => ∃ (g : Nat → Option zk_E) (gk gv gs gl : Nat → Int32), M' = (n + 33, s + 28301, g) ∧ g a = some (.inr (.inr (9, [.ref n, .ref (n + 5), .ref (n + 6), .ref (n + 7), .int 0, .int 0, .ref (n + 8), .ref (n + 9), .ref (n + 10), .ref (n + 11), .ref (n + 12), .ref (n + 13), .ref (n + 14), .ref (n + 15), .int 0, .ref (n + 16), .ref (n + 17), .ref (n + 18), .ref (n + 19), .int 0, .int 0, .int 0, .int 0, .int 0, .int (-1), .ref (n + 20), .ref (n + 21), .ref (n + 22), .ref (n + 23), .int 0, .ref (n + 24), .ref (n + 25), .ref (n + 26), .int 0, .ref (n + 27), .ref (n + 28), .ref (n + 29), .ref (n + 30), .int 0, .ref (n + 31), .int 0, .ref (n + 32), .int 0, .int 0, .int 0, .int 0, .int 0, .int 0]))) ∧ g n = some (.inr (.inr (8, [.ref (n + 1), .ref (n + 2), .ref (n + 3), .ref (n + 4), .int (nI 2201)]))) ∧ g (n + 1) = some (.inl (4096, gk)) ∧ g (n + 2) = some (.inl (4096, gv)) ∧ g (n + 3) = some (.inl (4096, gs)) ∧ g (n + 4) = some (.inl (4096, gl)) ∧ g (n + 5) = some (.inl (3000, fun _ => 0)) ∧ g (n + 6) = some (.inl (3000, fun _ => 0)) ∧ g (n + 7) = some (.inl (3000, fun _ => 0)) ∧ g (n + 8) = some (.inl (60, fun _ => 0)) ∧ g (n + 10) = some (.inl (60, fun _ => 0)) ∧ g (n + 12) = some (.inl (60, fun _ => 0)) ∧ g (n + 13) = some (.inl (60, fun _ => 0)) ∧ g (n + 14) = some (.inl (60, fun _ => 0)) ∧ g (n + 15) = some (.inl (60, fun _ => 0)) ∧ ∀ b, b < n → b ≠ a → g b = f b) := by
  refine zk_enterB (by decide) (Nat.le_of_ble_eq_true rfl) rfl ?_
  show zk_P Z mm_Mo_init 0 [some (.ref a), none] [] (n, s, f) _
  refine zk_aload_0 1 dc_Mo_init_0 rfl rfl ?_
  refine zk_objInit 4 dc_Mo_init_1 (zk_in 654 (by decide +kernel) (by decide +kernel)) (zk_in 20 (by decide +kernel) (by decide +kernel)) (zk_in 21 rfl rfl) (Nat.le_of_ble_eq_true rfl) (Nat.le_of_ble_eq_true rfl) rfl ?_
  refine zk_aload_0 5 dc_Mo_init_4 rfl rfl ?_
  refine zk_newK 8 dc_Mo_init_5 nw_Mo_7 rfl (fun f1 hr o1 => ?_)
  have ha := (o1 (a) (by omega) ).trans ha
  refine zk_dup 9 dc_Mo_init_8 rfl rfl ?_
  refine zk_cINv 12 (ct_MRows hr (by omega)) dc_Mo_init_9 ok_MoRows_init lk_Mo_9 rfl rfl ⟨Nat.le_of_ble_eq_true rfl, Nat.le_of_ble_eq_true rfl⟩ (Nat.le_of_ble_eq_true rfl) rfl (fun M1 hk => ?_)
  obtain ⟨g0, rfl, hr, hk, hv, hs, hl, p0⟩ := hk
  have ha := (p0 (a) (by omega) (by omega) ).trans ha
  refine zk_putF 15 dc_Mo_init_12 fp_Mo_10 (fun C T N h => by cases h; rfl) rfl ha rfl rfl (Nat.le_of_ble_eq_true rfl) rfl (fun f2 ha o2 => ?_)
  have ha : f2 (a) = some (.inr (.inr (9, [.ref n, .null, .null, .null, .int 0, .int 0, .null, .null, .null, .null, .null, .null, .null, .null, .int 0, .null, .null, .null, .null, .int 0, .int 0, .int 0, .int 0, .int 0, .int 0, .null, .null, .null, .null, .int 0, .null, .null, .null, .int 0, .null, .null, .null, .null, .int 0, .null, .int 0, .null, .int 0, .int 0, .int 0, .int 0, .int 0, .int 0]))) := ha
  have hr := (o2 (n) (by omega) ).trans hr
  have hk := (o2 (n + 1) (by omega) ).trans hk
  have hv := (o2 (n + 2) (by omega) ).trans hv
  have hs := (o2 (n + 3) (by omega) ).trans hs
  have hl := (o2 (n + 4) (by omega) ).trans hl
  refine zk_aload_0 16 dc_Mo_init_15 rfl rfl ?_
  refine zk_sipush (v := 3000) 19 dc_Mo_init_16 (by decide) rfl ?_
  refine zk_newiK (N := 3000) 21 dc_Mo_init_19 (zk_in 45 (by decide +kernel) (by decide +kernel)) (by decide) (by decide) (by decide) rfl (fun f3 c5 o3 => ?_)
  have hr := (o3 (n) (by omega) ).trans hr
  have hk := (o3 (n + 1) (by omega) ).trans hk
  have hv := (o3 (n + 2) (by omega) ).trans hv
  have hs := (o3 (n + 3) (by omega) ).trans hs
  have hl := (o3 (n + 4) (by omega) ).trans hl
  have ha := (o3 (a) (by omega) ).trans ha
  refine zk_putF 24 dc_Mo_init_21 fp_Mo_16 (fun C T N h => by cases h; rfl) rfl ha rfl rfl (Nat.le_of_ble_eq_true rfl) rfl (fun f4 ha o4 => ?_)
  have ha : f4 (a) = some (.inr (.inr (9, [.ref n, .ref (n + 5), .null, .null, .int 0, .int 0, .null, .null, .null, .null, .null, .null, .null, .null, .int 0, .null, .null, .null, .null, .int 0, .int 0, .int 0, .int 0, .int 0, .int 0, .null, .null, .null, .null, .int 0, .null, .null, .null, .int 0, .null, .null, .null, .null, .int 0, .null, .int 0, .null, .int 0, .int 0, .int 0, .int 0, .int 0, .int 0]))) := ha
  have hr := (o4 (n) (by omega) ).trans hr
  have hk := (o4 (n + 1) (by omega) ).trans hk
  have hv := (o4 (n + 2) (by omega) ).trans hv
  have hs := (o4 (n + 3) (by omega) ).trans hs
  have hl := (o4 (n + 4) (by omega) ).trans hl
  have c5 := (o4 (n + 5) (by omega) ).trans c5
  refine zk_aload_0 25 dc_Mo_init_24 rfl rfl ?_
  refine zk_sipush (v := 3000) 28 dc_Mo_init_25 (by decide) rfl ?_
  refine zk_newiK (N := 3000) 30 dc_Mo_init_28 (zk_in 45 (by decide +kernel) (by decide +kernel)) (by decide) (by decide) (by decide) rfl (fun f5 c6 o5 => ?_)
  have hr := (o5 (n) (by omega) ).trans hr
  have hk := (o5 (n + 1) (by omega) ).trans hk
  have hv := (o5 (n + 2) (by omega) ).trans hv
  have hs := (o5 (n + 3) (by omega) ).trans hs
  have hl := (o5 (n + 4) (by omega) ).trans hl
  have c5 := (o5 (n + 5) (by omega) ).trans c5
  have ha := (o5 (a) (by omega) ).trans ha
  refine zk_putF 33 dc_Mo_init_30 fp_Mo_20 (fun C T N h => by cases h; rfl) rfl ha rfl rfl (Nat.le_of_ble_eq_true rfl) rfl (fun f6 ha o6 => ?_)
  have ha : f6 (a) = some (.inr (.inr (9, [.ref n, .ref (n + 5), .ref (n + 6), .null, .int 0, .int 0, .null, .null, .null, .null, .null, .null, .null, .null, .int 0, .null, .null, .null, .null, .int 0, .int 0, .int 0, .int 0, .int 0, .int 0, .null, .null, .null, .null, .int 0, .null, .null, .null, .int 0, .null, .null, .null, .null, .int 0, .null, .int 0, .null, .int 0, .int 0, .int 0, .int 0, .int 0, .int 0]))) := ha
  have hr := (o6 (n) (by omega) ).trans hr
  have hk := (o6 (n + 1) (by omega) ).trans hk
  have hv := (o6 (n + 2) (by omega) ).trans hv
  have hs := (o6 (n + 3) (by omega) ).trans hs
  have hl := (o6 (n + 4) (by omega) ).trans hl
  have c5 := (o6 (n + 5) (by omega) ).trans c5
  have c6 := (o6 (n + 6) (by omega) ).trans c6
  refine zk_aload_0 34 dc_Mo_init_33 rfl rfl ?_
  refine zk_sipush (v := 3000) 37 dc_Mo_init_34 (by decide) rfl ?_
  refine zk_newiK (N := 3000) 39 dc_Mo_init_37 (zk_in 45 (by decide +kernel) (by decide +kernel)) (by decide) (by decide) (by decide) rfl (fun f7 c7 o7 => ?_)
  have hr := (o7 (n) (by omega) ).trans hr
  have hk := (o7 (n + 1) (by omega) ).trans hk
  have hv := (o7 (n + 2) (by omega) ).trans hv
  have hs := (o7 (n + 3) (by omega) ).trans hs
  have hl := (o7 (n + 4) (by omega) ).trans hl
  have c5 := (o7 (n + 5) (by omega) ).trans c5
  have c6 := (o7 (n + 6) (by omega) ).trans c6
  have ha := (o7 (a) (by omega) ).trans ha
  refine zk_putF 42 dc_Mo_init_39 fp_Mo_23 (fun C T N h => by cases h; rfl) rfl ha rfl rfl (Nat.le_of_ble_eq_true rfl) rfl (fun f8 ha o8 => ?_)
  have ha : f8 (a) = some (.inr (.inr (9, [.ref n, .ref (n + 5), .ref (n + 6), .ref (n + 7), .int 0, .int 0, .null, .null, .null, .null, .null, .null, .null, .null, .int 0, .null, .null, .null, .null, .int 0, .int 0, .int 0, .int 0, .int 0, .int 0, .null, .null, .null, .null, .int 0, .null, .null, .null, .int 0, .null, .null, .null, .null, .int 0, .null, .int 0, .null, .int 0, .int 0, .int 0, .int 0, .int 0, .int 0]))) := ha
  have hr := (o8 (n) (by omega) ).trans hr
  have hk := (o8 (n + 1) (by omega) ).trans hk
  have hv := (o8 (n + 2) (by omega) ).trans hv
  have hs := (o8 (n + 3) (by omega) ).trans hs
  have hl := (o8 (n + 4) (by omega) ).trans hl
  have c5 := (o8 (n + 5) (by omega) ).trans c5
  have c6 := (o8 (n + 6) (by omega) ).trans c6
  have c7 := (o8 (n + 7) (by omega) ).trans c7
  refine zk_aload_0 43 dc_Mo_init_42 rfl rfl ?_
  refine zk_bipush (v := 60) 45 dc_Mo_init_43 (by decide) rfl ?_
  refine zk_newiK (N := 60) 47 dc_Mo_init_45 (zk_in 45 (by decide +kernel) (by decide +kernel)) (by decide) (by decide) (by decide) rfl (fun f9 c8 o9 => ?_)
  have hr := (o9 (n) (by omega) ).trans hr
  have hk := (o9 (n + 1) (by omega) ).trans hk
  have hv := (o9 (n + 2) (by omega) ).trans hv
  have hs := (o9 (n + 3) (by omega) ).trans hs
  have hl := (o9 (n + 4) (by omega) ).trans hl
  have c5 := (o9 (n + 5) (by omega) ).trans c5
  have c6 := (o9 (n + 6) (by omega) ).trans c6
  have c7 := (o9 (n + 7) (by omega) ).trans c7
  have ha := (o9 (a) (by omega) ).trans ha
  refine zk_putF 50 dc_Mo_init_47 fp_Mo_26 (fun C T N h => by cases h; rfl) rfl ha rfl rfl (Nat.le_of_ble_eq_true rfl) rfl (fun f10 ha o10 => ?_)
  have ha : f10 (a) = some (.inr (.inr (9, [.ref n, .ref (n + 5), .ref (n + 6), .ref (n + 7), .int 0, .int 0, .ref (n + 8), .null, .null, .null, .null, .null, .null, .null, .int 0, .null, .null, .null, .null, .int 0, .int 0, .int 0, .int 0, .int 0, .int 0, .null, .null, .null, .null, .int 0, .null, .null, .null, .int 0, .null, .null, .null, .null, .int 0, .null, .int 0, .null, .int 0, .int 0, .int 0, .int 0, .int 0, .int 0]))) := ha
  have hr := (o10 (n) (by omega) ).trans hr
  have hk := (o10 (n + 1) (by omega) ).trans hk
  have hv := (o10 (n + 2) (by omega) ).trans hv
  have hs := (o10 (n + 3) (by omega) ).trans hs
  have hl := (o10 (n + 4) (by omega) ).trans hl
  have c5 := (o10 (n + 5) (by omega) ).trans c5
  have c6 := (o10 (n + 6) (by omega) ).trans c6
  have c7 := (o10 (n + 7) (by omega) ).trans c7
  have c8 := (o10 (n + 8) (by omega) ).trans c8
  refine zk_aload_0 51 dc_Mo_init_50 rfl rfl ?_
  refine zk_bipush (v := 60) 53 dc_Mo_init_51 (by decide) rfl ?_
  refine zk_newiK (N := 60) 55 dc_Mo_init_53 (zk_in 45 (by decide +kernel) (by decide +kernel)) (by decide) (by decide) (by decide) rfl (fun f11 c9 o11 => ?_)
  have hr := (o11 (n) (by omega) ).trans hr
  have hk := (o11 (n + 1) (by omega) ).trans hk
  have hv := (o11 (n + 2) (by omega) ).trans hv
  have hs := (o11 (n + 3) (by omega) ).trans hs
  have hl := (o11 (n + 4) (by omega) ).trans hl
  have c5 := (o11 (n + 5) (by omega) ).trans c5
  have c6 := (o11 (n + 6) (by omega) ).trans c6
  have c7 := (o11 (n + 7) (by omega) ).trans c7
  have c8 := (o11 (n + 8) (by omega) ).trans c8
  have ha := (o11 (a) (by omega) ).trans ha
  refine zk_putF 58 dc_Mo_init_55 fp_Mo_29 (fun C T N h => by cases h; rfl) rfl ha rfl rfl (Nat.le_of_ble_eq_true rfl) rfl (fun f12 ha o12 => ?_)
  have ha : f12 (a) = some (.inr (.inr (9, [.ref n, .ref (n + 5), .ref (n + 6), .ref (n + 7), .int 0, .int 0, .ref (n + 8), .ref (n + 9), .null, .null, .null, .null, .null, .null, .int 0, .null, .null, .null, .null, .int 0, .int 0, .int 0, .int 0, .int 0, .int 0, .null, .null, .null, .null, .int 0, .null, .null, .null, .int 0, .null, .null, .null, .null, .int 0, .null, .int 0, .null, .int 0, .int 0, .int 0, .int 0, .int 0, .int 0]))) := ha
  have hr := (o12 (n) (by omega) ).trans hr
  have hk := (o12 (n + 1) (by omega) ).trans hk
  have hv := (o12 (n + 2) (by omega) ).trans hv
  have hs := (o12 (n + 3) (by omega) ).trans hs
  have hl := (o12 (n + 4) (by omega) ).trans hl
  have c5 := (o12 (n + 5) (by omega) ).trans c5
  have c6 := (o12 (n + 6) (by omega) ).trans c6
  have c7 := (o12 (n + 7) (by omega) ).trans c7
  have c8 := (o12 (n + 8) (by omega) ).trans c8
  refine zk_aload_0 59 dc_Mo_init_58 rfl rfl ?_
  refine zk_bipush (v := 60) 61 dc_Mo_init_59 (by decide) rfl ?_
  refine zk_newiK (N := 60) 63 dc_Mo_init_61 (zk_in 45 (by decide +kernel) (by decide +kernel)) (by decide) (by decide) (by decide) rfl (fun f13 c10 o13 => ?_)
  have hr := (o13 (n) (by omega) ).trans hr
  have hk := (o13 (n + 1) (by omega) ).trans hk
  have hv := (o13 (n + 2) (by omega) ).trans hv
  have hs := (o13 (n + 3) (by omega) ).trans hs
  have hl := (o13 (n + 4) (by omega) ).trans hl
  have c5 := (o13 (n + 5) (by omega) ).trans c5
  have c6 := (o13 (n + 6) (by omega) ).trans c6
  have c7 := (o13 (n + 7) (by omega) ).trans c7
  have c8 := (o13 (n + 8) (by omega) ).trans c8
  have ha := (o13 (a) (by omega) ).trans ha
  refine zk_putF 66 dc_Mo_init_63 fp_Mo_32 (fun C T N h => by cases h; rfl) rfl ha rfl rfl (Nat.le_of_ble_eq_true rfl) rfl (fun f14 ha o14 => ?_)
  have ha : f14 (a) = some (.inr (.inr (9, [.ref n, .ref (n + 5), .ref (n + 6), .ref (n + 7), .int 0, .int 0, .ref (n + 8), .ref (n + 9), .ref (n + 10), .null, .null, .null, .null, .null, .int 0, .null, .null, .null, .null, .int 0, .int 0, .int 0, .int 0, .int 0, .int 0, .null, .null, .null, .null, .int 0, .null, .null, .null, .int 0, .null, .null, .null, .null, .int 0, .null, .int 0, .null, .int 0, .int 0, .int 0, .int 0, .int 0, .int 0]))) := ha
  have hr := (o14 (n) (by omega) ).trans hr
  have hk := (o14 (n + 1) (by omega) ).trans hk
  have hv := (o14 (n + 2) (by omega) ).trans hv
  have hs := (o14 (n + 3) (by omega) ).trans hs
  have hl := (o14 (n + 4) (by omega) ).trans hl
  have c5 := (o14 (n + 5) (by omega) ).trans c5
  have c6 := (o14 (n + 6) (by omega) ).trans c6
  have c7 := (o14 (n + 7) (by omega) ).trans c7
  have c8 := (o14 (n + 8) (by omega) ).trans c8
  have c10 := (o14 (n + 10) (by omega) ).trans c10
  refine zk_aload_0 67 dc_Mo_init_66 rfl rfl ?_
  refine zk_bipush (v := 60) 69 dc_Mo_init_67 (by decide) rfl ?_
  refine zk_newiK (N := 60) 71 dc_Mo_init_69 (zk_in 45 (by decide +kernel) (by decide +kernel)) (by decide) (by decide) (by decide) rfl (fun f15 c11 o15 => ?_)
  have hr := (o15 (n) (by omega) ).trans hr
  have hk := (o15 (n + 1) (by omega) ).trans hk
  have hv := (o15 (n + 2) (by omega) ).trans hv
  have hs := (o15 (n + 3) (by omega) ).trans hs
  have hl := (o15 (n + 4) (by omega) ).trans hl
  have c5 := (o15 (n + 5) (by omega) ).trans c5
  have c6 := (o15 (n + 6) (by omega) ).trans c6
  have c7 := (o15 (n + 7) (by omega) ).trans c7
  have c8 := (o15 (n + 8) (by omega) ).trans c8
  have c10 := (o15 (n + 10) (by omega) ).trans c10
  have ha := (o15 (a) (by omega) ).trans ha
  refine zk_putF 74 dc_Mo_init_71 fp_Mo_35 (fun C T N h => by cases h; rfl) rfl ha rfl rfl (Nat.le_of_ble_eq_true rfl) rfl (fun f16 ha o16 => ?_)
  have ha : f16 (a) = some (.inr (.inr (9, [.ref n, .ref (n + 5), .ref (n + 6), .ref (n + 7), .int 0, .int 0, .ref (n + 8), .ref (n + 9), .ref (n + 10), .ref (n + 11), .null, .null, .null, .null, .int 0, .null, .null, .null, .null, .int 0, .int 0, .int 0, .int 0, .int 0, .int 0, .null, .null, .null, .null, .int 0, .null, .null, .null, .int 0, .null, .null, .null, .null, .int 0, .null, .int 0, .null, .int 0, .int 0, .int 0, .int 0, .int 0, .int 0]))) := ha
  have hr := (o16 (n) (by omega) ).trans hr
  have hk := (o16 (n + 1) (by omega) ).trans hk
  have hv := (o16 (n + 2) (by omega) ).trans hv
  have hs := (o16 (n + 3) (by omega) ).trans hs
  have hl := (o16 (n + 4) (by omega) ).trans hl
  have c5 := (o16 (n + 5) (by omega) ).trans c5
  have c6 := (o16 (n + 6) (by omega) ).trans c6
  have c7 := (o16 (n + 7) (by omega) ).trans c7
  have c8 := (o16 (n + 8) (by omega) ).trans c8
  have c10 := (o16 (n + 10) (by omega) ).trans c10
  refine zk_aload_0 75 dc_Mo_init_74 rfl rfl ?_
  refine zk_bipush (v := 60) 77 dc_Mo_init_75 (by decide) rfl ?_
  refine zk_newiK (N := 60) 79 dc_Mo_init_77 (zk_in 45 (by decide +kernel) (by decide +kernel)) (by decide) (by decide) (by decide) rfl (fun f17 c12 o17 => ?_)
  have hr := (o17 (n) (by omega) ).trans hr
  have hk := (o17 (n + 1) (by omega) ).trans hk
  have hv := (o17 (n + 2) (by omega) ).trans hv
  have hs := (o17 (n + 3) (by omega) ).trans hs
  have hl := (o17 (n + 4) (by omega) ).trans hl
  have c5 := (o17 (n + 5) (by omega) ).trans c5
  have c6 := (o17 (n + 6) (by omega) ).trans c6
  have c7 := (o17 (n + 7) (by omega) ).trans c7
  have c8 := (o17 (n + 8) (by omega) ).trans c8
  have c10 := (o17 (n + 10) (by omega) ).trans c10
  have ha := (o17 (a) (by omega) ).trans ha
  refine zk_putF 82 dc_Mo_init_79 fp_Mo_38 (fun C T N h => by cases h; rfl) rfl ha rfl rfl (Nat.le_of_ble_eq_true rfl) rfl (fun f18 ha o18 => ?_)
  have ha : f18 (a) = some (.inr (.inr (9, [.ref n, .ref (n + 5), .ref (n + 6), .ref (n + 7), .int 0, .int 0, .ref (n + 8), .ref (n + 9), .ref (n + 10), .ref (n + 11), .ref (n + 12), .null, .null, .null, .int 0, .null, .null, .null, .null, .int 0, .int 0, .int 0, .int 0, .int 0, .int 0, .null, .null, .null, .null, .int 0, .null, .null, .null, .int 0, .null, .null, .null, .null, .int 0, .null, .int 0, .null, .int 0, .int 0, .int 0, .int 0, .int 0, .int 0]))) := ha
  have hr := (o18 (n) (by omega) ).trans hr
  have hk := (o18 (n + 1) (by omega) ).trans hk
  have hv := (o18 (n + 2) (by omega) ).trans hv
  have hs := (o18 (n + 3) (by omega) ).trans hs
  have hl := (o18 (n + 4) (by omega) ).trans hl
  have c5 := (o18 (n + 5) (by omega) ).trans c5
  have c6 := (o18 (n + 6) (by omega) ).trans c6
  have c7 := (o18 (n + 7) (by omega) ).trans c7
  have c8 := (o18 (n + 8) (by omega) ).trans c8
  have c10 := (o18 (n + 10) (by omega) ).trans c10
  have c12 := (o18 (n + 12) (by omega) ).trans c12
  refine zk_aload_0 83 dc_Mo_init_82 rfl rfl ?_
  refine zk_bipush (v := 60) 85 dc_Mo_init_83 (by decide) rfl ?_
  refine zk_newiK (N := 60) 87 dc_Mo_init_85 (zk_in 45 (by decide +kernel) (by decide +kernel)) (by decide) (by decide) (by decide) rfl (fun f19 c13 o19 => ?_)
  have hr := (o19 (n) (by omega) ).trans hr
  have hk := (o19 (n + 1) (by omega) ).trans hk
  have hv := (o19 (n + 2) (by omega) ).trans hv
  have hs := (o19 (n + 3) (by omega) ).trans hs
  have hl := (o19 (n + 4) (by omega) ).trans hl
  have c5 := (o19 (n + 5) (by omega) ).trans c5
  have c6 := (o19 (n + 6) (by omega) ).trans c6
  have c7 := (o19 (n + 7) (by omega) ).trans c7
  have c8 := (o19 (n + 8) (by omega) ).trans c8
  have c10 := (o19 (n + 10) (by omega) ).trans c10
  have c12 := (o19 (n + 12) (by omega) ).trans c12
  have ha := (o19 (a) (by omega) ).trans ha
  refine zk_putF 90 dc_Mo_init_87 fp_Mo_41 (fun C T N h => by cases h; rfl) rfl ha rfl rfl (Nat.le_of_ble_eq_true rfl) rfl (fun f20 ha o20 => ?_)
  have ha : f20 (a) = some (.inr (.inr (9, [.ref n, .ref (n + 5), .ref (n + 6), .ref (n + 7), .int 0, .int 0, .ref (n + 8), .ref (n + 9), .ref (n + 10), .ref (n + 11), .ref (n + 12), .ref (n + 13), .null, .null, .int 0, .null, .null, .null, .null, .int 0, .int 0, .int 0, .int 0, .int 0, .int 0, .null, .null, .null, .null, .int 0, .null, .null, .null, .int 0, .null, .null, .null, .null, .int 0, .null, .int 0, .null, .int 0, .int 0, .int 0, .int 0, .int 0, .int 0]))) := ha
  have hr := (o20 (n) (by omega) ).trans hr
  have hk := (o20 (n + 1) (by omega) ).trans hk
  have hv := (o20 (n + 2) (by omega) ).trans hv
  have hs := (o20 (n + 3) (by omega) ).trans hs
  have hl := (o20 (n + 4) (by omega) ).trans hl
  have c5 := (o20 (n + 5) (by omega) ).trans c5
  have c6 := (o20 (n + 6) (by omega) ).trans c6
  have c7 := (o20 (n + 7) (by omega) ).trans c7
  have c8 := (o20 (n + 8) (by omega) ).trans c8
  have c10 := (o20 (n + 10) (by omega) ).trans c10
  have c12 := (o20 (n + 12) (by omega) ).trans c12
  have c13 := (o20 (n + 13) (by omega) ).trans c13
  refine zk_aload_0 91 dc_Mo_init_90 rfl rfl ?_
  refine zk_bipush (v := 60) 93 dc_Mo_init_91 (by decide) rfl ?_
  refine zk_newiK (N := 60) 95 dc_Mo_init_93 (zk_in 45 (by decide +kernel) (by decide +kernel)) (by decide) (by decide) (by decide) rfl (fun f21 c14 o21 => ?_)
  have hr := (o21 (n) (by omega) ).trans hr
  have hk := (o21 (n + 1) (by omega) ).trans hk
  have hv := (o21 (n + 2) (by omega) ).trans hv
  have hs := (o21 (n + 3) (by omega) ).trans hs
  have hl := (o21 (n + 4) (by omega) ).trans hl
  have c5 := (o21 (n + 5) (by omega) ).trans c5
  have c6 := (o21 (n + 6) (by omega) ).trans c6
  have c7 := (o21 (n + 7) (by omega) ).trans c7
  have c8 := (o21 (n + 8) (by omega) ).trans c8
  have c10 := (o21 (n + 10) (by omega) ).trans c10
  have c12 := (o21 (n + 12) (by omega) ).trans c12
  have c13 := (o21 (n + 13) (by omega) ).trans c13
  have ha := (o21 (a) (by omega) ).trans ha
  refine zk_putF 98 dc_Mo_init_95 fp_Mo_44 (fun C T N h => by cases h; rfl) rfl ha rfl rfl (Nat.le_of_ble_eq_true rfl) rfl (fun f22 ha o22 => ?_)
  have ha : f22 (a) = some (.inr (.inr (9, [.ref n, .ref (n + 5), .ref (n + 6), .ref (n + 7), .int 0, .int 0, .ref (n + 8), .ref (n + 9), .ref (n + 10), .ref (n + 11), .ref (n + 12), .ref (n + 13), .ref (n + 14), .null, .int 0, .null, .null, .null, .null, .int 0, .int 0, .int 0, .int 0, .int 0, .int 0, .null, .null, .null, .null, .int 0, .null, .null, .null, .int 0, .null, .null, .null, .null, .int 0, .null, .int 0, .null, .int 0, .int 0, .int 0, .int 0, .int 0, .int 0]))) := ha
  have hr := (o22 (n) (by omega) ).trans hr
  have hk := (o22 (n + 1) (by omega) ).trans hk
  have hv := (o22 (n + 2) (by omega) ).trans hv
  have hs := (o22 (n + 3) (by omega) ).trans hs
  have hl := (o22 (n + 4) (by omega) ).trans hl
  have c5 := (o22 (n + 5) (by omega) ).trans c5
  have c6 := (o22 (n + 6) (by omega) ).trans c6
  have c7 := (o22 (n + 7) (by omega) ).trans c7
  have c8 := (o22 (n + 8) (by omega) ).trans c8
  have c10 := (o22 (n + 10) (by omega) ).trans c10
  have c12 := (o22 (n + 12) (by omega) ).trans c12
  have c13 := (o22 (n + 13) (by omega) ).trans c13
  have c14 := (o22 (n + 14) (by omega) ).trans c14
  refine zk_aload_0 99 dc_Mo_init_98 rfl rfl ?_
  refine zk_bipush (v := 60) 101 dc_Mo_init_99 (by decide) rfl ?_
  refine zk_newiK (N := 60) 103 dc_Mo_init_101 (zk_in 45 (by decide +kernel) (by decide +kernel)) (by decide) (by decide) (by decide) rfl (fun f23 c15 o23 => ?_)
  have hr := (o23 (n) (by omega) ).trans hr
  have hk := (o23 (n + 1) (by omega) ).trans hk
  have hv := (o23 (n + 2) (by omega) ).trans hv
  have hs := (o23 (n + 3) (by omega) ).trans hs
  have hl := (o23 (n + 4) (by omega) ).trans hl
  have c5 := (o23 (n + 5) (by omega) ).trans c5
  have c6 := (o23 (n + 6) (by omega) ).trans c6
  have c7 := (o23 (n + 7) (by omega) ).trans c7
  have c8 := (o23 (n + 8) (by omega) ).trans c8
  have c10 := (o23 (n + 10) (by omega) ).trans c10
  have c12 := (o23 (n + 12) (by omega) ).trans c12
  have c13 := (o23 (n + 13) (by omega) ).trans c13
  have c14 := (o23 (n + 14) (by omega) ).trans c14
  have ha := (o23 (a) (by omega) ).trans ha
  refine zk_putF 106 dc_Mo_init_103 fp_Mo_47 (fun C T N h => by cases h; rfl) rfl ha rfl rfl (Nat.le_of_ble_eq_true rfl) rfl (fun f24 ha o24 => ?_)
  have ha : f24 (a) = some (.inr (.inr (9, [.ref n, .ref (n + 5), .ref (n + 6), .ref (n + 7), .int 0, .int 0, .ref (n + 8), .ref (n + 9), .ref (n + 10), .ref (n + 11), .ref (n + 12), .ref (n + 13), .ref (n + 14), .ref (n + 15), .int 0, .null, .null, .null, .null, .int 0, .int 0, .int 0, .int 0, .int 0, .int 0, .null, .null, .null, .null, .int 0, .null, .null, .null, .int 0, .null, .null, .null, .null, .int 0, .null, .int 0, .null, .int 0, .int 0, .int 0, .int 0, .int 0, .int 0]))) := ha
  have hr := (o24 (n) (by omega) ).trans hr
  have hk := (o24 (n + 1) (by omega) ).trans hk
  have hv := (o24 (n + 2) (by omega) ).trans hv
  have hs := (o24 (n + 3) (by omega) ).trans hs
  have hl := (o24 (n + 4) (by omega) ).trans hl
  have c5 := (o24 (n + 5) (by omega) ).trans c5
  have c6 := (o24 (n + 6) (by omega) ).trans c6
  have c7 := (o24 (n + 7) (by omega) ).trans c7
  have c8 := (o24 (n + 8) (by omega) ).trans c8
  have c10 := (o24 (n + 10) (by omega) ).trans c10
  have c12 := (o24 (n + 12) (by omega) ).trans c12
  have c13 := (o24 (n + 13) (by omega) ).trans c13
  have c14 := (o24 (n + 14) (by omega) ).trans c14
  have c15 := (o24 (n + 15) (by omega) ).trans c15
  refine zk_aload_0 107 dc_Mo_init_106 rfl rfl ?_
  refine zk_bipush (v := 64) 109 dc_Mo_init_107 (by decide) rfl ?_
  refine zk_newiK (N := 64) 111 dc_Mo_init_109 (zk_in 45 (by decide +kernel) (by decide +kernel)) (by decide) (by decide) (by decide) rfl (fun f25 c16 o25 => ?_)
  have hr := (o25 (n) (by omega) ).trans hr
  have hk := (o25 (n + 1) (by omega) ).trans hk
  have hv := (o25 (n + 2) (by omega) ).trans hv
  have hs := (o25 (n + 3) (by omega) ).trans hs
  have hl := (o25 (n + 4) (by omega) ).trans hl
  have c5 := (o25 (n + 5) (by omega) ).trans c5
  have c6 := (o25 (n + 6) (by omega) ).trans c6
  have c7 := (o25 (n + 7) (by omega) ).trans c7
  have c8 := (o25 (n + 8) (by omega) ).trans c8
  have c10 := (o25 (n + 10) (by omega) ).trans c10
  have c12 := (o25 (n + 12) (by omega) ).trans c12
  have c13 := (o25 (n + 13) (by omega) ).trans c13
  have c14 := (o25 (n + 14) (by omega) ).trans c14
  have c15 := (o25 (n + 15) (by omega) ).trans c15
  have ha := (o25 (a) (by omega) ).trans ha
  refine zk_put 114 dc_Mo_init_111 fp_Mo_50 ha rfl rfl (Nat.le_of_ble_eq_true rfl) rfl (fun f26 ha o26 => ?_)
  have ha : f26 (a) = some (.inr (.inr (9, [.ref n, .ref (n + 5), .ref (n + 6), .ref (n + 7), .int 0, .int 0, .ref (n + 8), .ref (n + 9), .ref (n + 10), .ref (n + 11), .ref (n + 12), .ref (n + 13), .ref (n + 14), .ref (n + 15), .int 0, .ref (n + 16), .null, .null, .null, .int 0, .int 0, .int 0, .int 0, .int 0, .int 0, .null, .null, .null, .null, .int 0, .null, .null, .null, .int 0, .null, .null, .null, .null, .int 0, .null, .int 0, .null, .int 0, .int 0, .int 0, .int 0, .int 0, .int 0]))) := ha
  have hr := (o26 (n) (by omega) ).trans hr
  have hk := (o26 (n + 1) (by omega) ).trans hk
  have hv := (o26 (n + 2) (by omega) ).trans hv
  have hs := (o26 (n + 3) (by omega) ).trans hs
  have hl := (o26 (n + 4) (by omega) ).trans hl
  have c5 := (o26 (n + 5) (by omega) ).trans c5
  have c6 := (o26 (n + 6) (by omega) ).trans c6
  have c7 := (o26 (n + 7) (by omega) ).trans c7
  have c8 := (o26 (n + 8) (by omega) ).trans c8
  have c10 := (o26 (n + 10) (by omega) ).trans c10
  have c12 := (o26 (n + 12) (by omega) ).trans c12
  have c13 := (o26 (n + 13) (by omega) ).trans c13
  have c14 := (o26 (n + 14) (by omega) ).trans c14
  have c15 := (o26 (n + 15) (by omega) ).trans c15
  refine zk_aload_0 115 dc_Mo_init_114 rfl rfl ?_
  refine zk_bipush (v := 64) 117 dc_Mo_init_115 (by decide) rfl ?_
  refine zk_newiK (N := 64) 119 dc_Mo_init_117 (zk_in 45 (by decide +kernel) (by decide +kernel)) (by decide) (by decide) (by decide) rfl (fun f27 c17 o27 => ?_)
  have hr := (o27 (n) (by omega) ).trans hr
  have hk := (o27 (n + 1) (by omega) ).trans hk
  have hv := (o27 (n + 2) (by omega) ).trans hv
  have hs := (o27 (n + 3) (by omega) ).trans hs
  have hl := (o27 (n + 4) (by omega) ).trans hl
  have c5 := (o27 (n + 5) (by omega) ).trans c5
  have c6 := (o27 (n + 6) (by omega) ).trans c6
  have c7 := (o27 (n + 7) (by omega) ).trans c7
  have c8 := (o27 (n + 8) (by omega) ).trans c8
  have c10 := (o27 (n + 10) (by omega) ).trans c10
  have c12 := (o27 (n + 12) (by omega) ).trans c12
  have c13 := (o27 (n + 13) (by omega) ).trans c13
  have c14 := (o27 (n + 14) (by omega) ).trans c14
  have c15 := (o27 (n + 15) (by omega) ).trans c15
  have ha := (o27 (a) (by omega) ).trans ha
  refine zk_put 122 dc_Mo_init_119 fp_Mo_53 ha rfl rfl (Nat.le_of_ble_eq_true rfl) rfl (fun f28 ha o28 => ?_)
  have ha : f28 (a) = some (.inr (.inr (9, [.ref n, .ref (n + 5), .ref (n + 6), .ref (n + 7), .int 0, .int 0, .ref (n + 8), .ref (n + 9), .ref (n + 10), .ref (n + 11), .ref (n + 12), .ref (n + 13), .ref (n + 14), .ref (n + 15), .int 0, .ref (n + 16), .ref (n + 17), .null, .null, .int 0, .int 0, .int 0, .int 0, .int 0, .int 0, .null, .null, .null, .null, .int 0, .null, .null, .null, .int 0, .null, .null, .null, .null, .int 0, .null, .int 0, .null, .int 0, .int 0, .int 0, .int 0, .int 0, .int 0]))) := ha
  have hr := (o28 (n) (by omega) ).trans hr
  have hk := (o28 (n + 1) (by omega) ).trans hk
  have hv := (o28 (n + 2) (by omega) ).trans hv
  have hs := (o28 (n + 3) (by omega) ).trans hs
  have hl := (o28 (n + 4) (by omega) ).trans hl
  have c5 := (o28 (n + 5) (by omega) ).trans c5
  have c6 := (o28 (n + 6) (by omega) ).trans c6
  have c7 := (o28 (n + 7) (by omega) ).trans c7
  have c8 := (o28 (n + 8) (by omega) ).trans c8
  have c10 := (o28 (n + 10) (by omega) ).trans c10
  have c12 := (o28 (n + 12) (by omega) ).trans c12
  have c13 := (o28 (n + 13) (by omega) ).trans c13
  have c14 := (o28 (n + 14) (by omega) ).trans c14
  have c15 := (o28 (n + 15) (by omega) ).trans c15
  refine zk_aload_0 123 dc_Mo_init_122 rfl rfl ?_
  refine zk_bipush (v := 64) 125 dc_Mo_init_123 (by decide) rfl ?_
  refine zk_newiK (N := 64) 127 dc_Mo_init_125 (zk_in 45 (by decide +kernel) (by decide +kernel)) (by decide) (by decide) (by decide) rfl (fun f29 c18 o29 => ?_)
  have hr := (o29 (n) (by omega) ).trans hr
  have hk := (o29 (n + 1) (by omega) ).trans hk
  have hv := (o29 (n + 2) (by omega) ).trans hv
  have hs := (o29 (n + 3) (by omega) ).trans hs
  have hl := (o29 (n + 4) (by omega) ).trans hl
  have c5 := (o29 (n + 5) (by omega) ).trans c5
  have c6 := (o29 (n + 6) (by omega) ).trans c6
  have c7 := (o29 (n + 7) (by omega) ).trans c7
  have c8 := (o29 (n + 8) (by omega) ).trans c8
  have c10 := (o29 (n + 10) (by omega) ).trans c10
  have c12 := (o29 (n + 12) (by omega) ).trans c12
  have c13 := (o29 (n + 13) (by omega) ).trans c13
  have c14 := (o29 (n + 14) (by omega) ).trans c14
  have c15 := (o29 (n + 15) (by omega) ).trans c15
  have ha := (o29 (a) (by omega) ).trans ha
  refine zk_put 130 dc_Mo_init_127 fp_Mo_56 ha rfl rfl (Nat.le_of_ble_eq_true rfl) rfl (fun f30 ha o30 => ?_)
  have ha : f30 (a) = some (.inr (.inr (9, [.ref n, .ref (n + 5), .ref (n + 6), .ref (n + 7), .int 0, .int 0, .ref (n + 8), .ref (n + 9), .ref (n + 10), .ref (n + 11), .ref (n + 12), .ref (n + 13), .ref (n + 14), .ref (n + 15), .int 0, .ref (n + 16), .ref (n + 17), .ref (n + 18), .null, .int 0, .int 0, .int 0, .int 0, .int 0, .int 0, .null, .null, .null, .null, .int 0, .null, .null, .null, .int 0, .null, .null, .null, .null, .int 0, .null, .int 0, .null, .int 0, .int 0, .int 0, .int 0, .int 0, .int 0]))) := ha
  have hr := (o30 (n) (by omega) ).trans hr
  have hk := (o30 (n + 1) (by omega) ).trans hk
  have hv := (o30 (n + 2) (by omega) ).trans hv
  have hs := (o30 (n + 3) (by omega) ).trans hs
  have hl := (o30 (n + 4) (by omega) ).trans hl
  have c5 := (o30 (n + 5) (by omega) ).trans c5
  have c6 := (o30 (n + 6) (by omega) ).trans c6
  have c7 := (o30 (n + 7) (by omega) ).trans c7
  have c8 := (o30 (n + 8) (by omega) ).trans c8
  have c10 := (o30 (n + 10) (by omega) ).trans c10
  have c12 := (o30 (n + 12) (by omega) ).trans c12
  have c13 := (o30 (n + 13) (by omega) ).trans c13
  have c14 := (o30 (n + 14) (by omega) ).trans c14
  have c15 := (o30 (n + 15) (by omega) ).trans c15
  refine zk_aload_0 131 dc_Mo_init_130 rfl rfl ?_
  refine zk_bipush (v := 64) 133 dc_Mo_init_131 (by decide) rfl ?_
  refine zk_newiK (N := 64) 135 dc_Mo_init_133 (zk_in 45 (by decide +kernel) (by decide +kernel)) (by decide) (by decide) (by decide) rfl (fun f31 c19 o31 => ?_)
  have hr := (o31 (n) (by omega) ).trans hr
  have hk := (o31 (n + 1) (by omega) ).trans hk
  have hv := (o31 (n + 2) (by omega) ).trans hv
  have hs := (o31 (n + 3) (by omega) ).trans hs
  have hl := (o31 (n + 4) (by omega) ).trans hl
  have c5 := (o31 (n + 5) (by omega) ).trans c5
  have c6 := (o31 (n + 6) (by omega) ).trans c6
  have c7 := (o31 (n + 7) (by omega) ).trans c7
  have c8 := (o31 (n + 8) (by omega) ).trans c8
  have c10 := (o31 (n + 10) (by omega) ).trans c10
  have c12 := (o31 (n + 12) (by omega) ).trans c12
  have c13 := (o31 (n + 13) (by omega) ).trans c13
  have c14 := (o31 (n + 14) (by omega) ).trans c14
  have c15 := (o31 (n + 15) (by omega) ).trans c15
  have ha := (o31 (a) (by omega) ).trans ha
  refine zk_put 138 dc_Mo_init_135 fp_Mo_59 ha rfl rfl (Nat.le_of_ble_eq_true rfl) rfl (fun f32 ha o32 => ?_)
  have ha : f32 (a) = some (.inr (.inr (9, [.ref n, .ref (n + 5), .ref (n + 6), .ref (n + 7), .int 0, .int 0, .ref (n + 8), .ref (n + 9), .ref (n + 10), .ref (n + 11), .ref (n + 12), .ref (n + 13), .ref (n + 14), .ref (n + 15), .int 0, .ref (n + 16), .ref (n + 17), .ref (n + 18), .ref (n + 19), .int 0, .int 0, .int 0, .int 0, .int 0, .int 0, .null, .null, .null, .null, .int 0, .null, .null, .null, .int 0, .null, .null, .null, .null, .int 0, .null, .int 0, .null, .int 0, .int 0, .int 0, .int 0, .int 0, .int 0]))) := ha
  have hr := (o32 (n) (by omega) ).trans hr
  have hk := (o32 (n + 1) (by omega) ).trans hk
  have hv := (o32 (n + 2) (by omega) ).trans hv
  have hs := (o32 (n + 3) (by omega) ).trans hs
  have hl := (o32 (n + 4) (by omega) ).trans hl
  have c5 := (o32 (n + 5) (by omega) ).trans c5
  have c6 := (o32 (n + 6) (by omega) ).trans c6
  have c7 := (o32 (n + 7) (by omega) ).trans c7
  have c8 := (o32 (n + 8) (by omega) ).trans c8
  have c10 := (o32 (n + 10) (by omega) ).trans c10
  have c12 := (o32 (n + 12) (by omega) ).trans c12
  have c13 := (o32 (n + 13) (by omega) ).trans c13
  have c14 := (o32 (n + 14) (by omega) ).trans c14
  have c15 := (o32 (n + 15) (by omega) ).trans c15
  refine zk_aload_0 139 dc_Mo_init_138 rfl rfl ?_
  refine zk_iconst (v := -1) 140 dc_Mo_init_139 (by decide) rfl ?_
  refine zk_put 143 dc_Mo_init_140 fp_Mo_62 ha rfl rfl (Nat.le_of_ble_eq_true rfl) rfl (fun f33 ha o33 => ?_)
  have ha : f33 (a) = some (.inr (.inr (9, [.ref n, .ref (n + 5), .ref (n + 6), .ref (n + 7), .int 0, .int 0, .ref (n + 8), .ref (n + 9), .ref (n + 10), .ref (n + 11), .ref (n + 12), .ref (n + 13), .ref (n + 14), .ref (n + 15), .int 0, .ref (n + 16), .ref (n + 17), .ref (n + 18), .ref (n + 19), .int 0, .int 0, .int 0, .int 0, .int 0, .int (-1), .null, .null, .null, .null, .int 0, .null, .null, .null, .int 0, .null, .null, .null, .null, .int 0, .null, .int 0, .null, .int 0, .int 0, .int 0, .int 0, .int 0, .int 0]))) := ha
  have hr := (o33 (n) (by omega) ).trans hr
  have hk := (o33 (n + 1) (by omega) ).trans hk
  have hv := (o33 (n + 2) (by omega) ).trans hv
  have hs := (o33 (n + 3) (by omega) ).trans hs
  have hl := (o33 (n + 4) (by omega) ).trans hl
  have c5 := (o33 (n + 5) (by omega) ).trans c5
  have c6 := (o33 (n + 6) (by omega) ).trans c6
  have c7 := (o33 (n + 7) (by omega) ).trans c7
  have c8 := (o33 (n + 8) (by omega) ).trans c8
  have c10 := (o33 (n + 10) (by omega) ).trans c10
  have c12 := (o33 (n + 12) (by omega) ).trans c12
  have c13 := (o33 (n + 13) (by omega) ).trans c13
  have c14 := (o33 (n + 14) (by omega) ).trans c14
  have c15 := (o33 (n + 15) (by omega) ).trans c15
  refine zk_aload_0 144 dc_Mo_init_143 rfl rfl ?_
  refine zk_sipush (v := 256) 147 dc_Mo_init_144 (by decide) rfl ?_
  refine zk_newiK (N := 256) 149 dc_Mo_init_147 (zk_in 45 (by decide +kernel) (by decide +kernel)) (by decide) (by decide) (by decide) rfl (fun f34 c20 o34 => ?_)
  have hr := (o34 (n) (by omega) ).trans hr
  have hk := (o34 (n + 1) (by omega) ).trans hk
  have hv := (o34 (n + 2) (by omega) ).trans hv
  have hs := (o34 (n + 3) (by omega) ).trans hs
  have hl := (o34 (n + 4) (by omega) ).trans hl
  have c5 := (o34 (n + 5) (by omega) ).trans c5
  have c6 := (o34 (n + 6) (by omega) ).trans c6
  have c7 := (o34 (n + 7) (by omega) ).trans c7
  have c8 := (o34 (n + 8) (by omega) ).trans c8
  have c10 := (o34 (n + 10) (by omega) ).trans c10
  have c12 := (o34 (n + 12) (by omega) ).trans c12
  have c13 := (o34 (n + 13) (by omega) ).trans c13
  have c14 := (o34 (n + 14) (by omega) ).trans c14
  have c15 := (o34 (n + 15) (by omega) ).trans c15
  have ha := (o34 (a) (by omega) ).trans ha
  refine zk_put 152 dc_Mo_init_149 fp_Mo_66 ha rfl rfl (Nat.le_of_ble_eq_true rfl) rfl (fun f35 ha o35 => ?_)
  have ha : f35 (a) = some (.inr (.inr (9, [.ref n, .ref (n + 5), .ref (n + 6), .ref (n + 7), .int 0, .int 0, .ref (n + 8), .ref (n + 9), .ref (n + 10), .ref (n + 11), .ref (n + 12), .ref (n + 13), .ref (n + 14), .ref (n + 15), .int 0, .ref (n + 16), .ref (n + 17), .ref (n + 18), .ref (n + 19), .int 0, .int 0, .int 0, .int 0, .int 0, .int (-1), .ref (n + 20), .null, .null, .null, .int 0, .null, .null, .null, .int 0, .null, .null, .null, .null, .int 0, .null, .int 0, .null, .int 0, .int 0, .int 0, .int 0, .int 0, .int 0]))) := ha
  have hr := (o35 (n) (by omega) ).trans hr
  have hk := (o35 (n + 1) (by omega) ).trans hk
  have hv := (o35 (n + 2) (by omega) ).trans hv
  have hs := (o35 (n + 3) (by omega) ).trans hs
  have hl := (o35 (n + 4) (by omega) ).trans hl
  have c5 := (o35 (n + 5) (by omega) ).trans c5
  have c6 := (o35 (n + 6) (by omega) ).trans c6
  have c7 := (o35 (n + 7) (by omega) ).trans c7
  have c8 := (o35 (n + 8) (by omega) ).trans c8
  have c10 := (o35 (n + 10) (by omega) ).trans c10
  have c12 := (o35 (n + 12) (by omega) ).trans c12
  have c13 := (o35 (n + 13) (by omega) ).trans c13
  have c14 := (o35 (n + 14) (by omega) ).trans c14
  have c15 := (o35 (n + 15) (by omega) ).trans c15
  refine zk_aload_0 153 dc_Mo_init_152 rfl rfl ?_
  refine zk_sipush (v := 256) 156 dc_Mo_init_153 (by decide) rfl ?_
  refine zk_newiK (N := 256) 158 dc_Mo_init_156 (zk_in 45 (by decide +kernel) (by decide +kernel)) (by decide) (by decide) (by decide) rfl (fun f36 c21 o36 => ?_)
  have hr := (o36 (n) (by omega) ).trans hr
  have hk := (o36 (n + 1) (by omega) ).trans hk
  have hv := (o36 (n + 2) (by omega) ).trans hv
  have hs := (o36 (n + 3) (by omega) ).trans hs
  have hl := (o36 (n + 4) (by omega) ).trans hl
  have c5 := (o36 (n + 5) (by omega) ).trans c5
  have c6 := (o36 (n + 6) (by omega) ).trans c6
  have c7 := (o36 (n + 7) (by omega) ).trans c7
  have c8 := (o36 (n + 8) (by omega) ).trans c8
  have c10 := (o36 (n + 10) (by omega) ).trans c10
  have c12 := (o36 (n + 12) (by omega) ).trans c12
  have c13 := (o36 (n + 13) (by omega) ).trans c13
  have c14 := (o36 (n + 14) (by omega) ).trans c14
  have c15 := (o36 (n + 15) (by omega) ).trans c15
  have ha := (o36 (a) (by omega) ).trans ha
  refine zk_put 161 dc_Mo_init_158 fp_Mo_69 ha rfl rfl (Nat.le_of_ble_eq_true rfl) rfl (fun f37 ha o37 => ?_)
  have ha : f37 (a) = some (.inr (.inr (9, [.ref n, .ref (n + 5), .ref (n + 6), .ref (n + 7), .int 0, .int 0, .ref (n + 8), .ref (n + 9), .ref (n + 10), .ref (n + 11), .ref (n + 12), .ref (n + 13), .ref (n + 14), .ref (n + 15), .int 0, .ref (n + 16), .ref (n + 17), .ref (n + 18), .ref (n + 19), .int 0, .int 0, .int 0, .int 0, .int 0, .int (-1), .ref (n + 20), .ref (n + 21), .null, .null, .int 0, .null, .null, .null, .int 0, .null, .null, .null, .null, .int 0, .null, .int 0, .null, .int 0, .int 0, .int 0, .int 0, .int 0, .int 0]))) := ha
  have hr := (o37 (n) (by omega) ).trans hr
  have hk := (o37 (n + 1) (by omega) ).trans hk
  have hv := (o37 (n + 2) (by omega) ).trans hv
  have hs := (o37 (n + 3) (by omega) ).trans hs
  have hl := (o37 (n + 4) (by omega) ).trans hl
  have c5 := (o37 (n + 5) (by omega) ).trans c5
  have c6 := (o37 (n + 6) (by omega) ).trans c6
  have c7 := (o37 (n + 7) (by omega) ).trans c7
  have c8 := (o37 (n + 8) (by omega) ).trans c8
  have c10 := (o37 (n + 10) (by omega) ).trans c10
  have c12 := (o37 (n + 12) (by omega) ).trans c12
  have c13 := (o37 (n + 13) (by omega) ).trans c13
  have c14 := (o37 (n + 14) (by omega) ).trans c14
  have c15 := (o37 (n + 15) (by omega) ).trans c15
  refine zk_aload_0 162 dc_Mo_init_161 rfl rfl ?_
  refine zk_sipush (v := 256) 165 dc_Mo_init_162 (by decide) rfl ?_
  refine zk_newiK (N := 256) 167 dc_Mo_init_165 (zk_in 45 (by decide +kernel) (by decide +kernel)) (by decide) (by decide) (by decide) rfl (fun f38 c22 o38 => ?_)
  have hr := (o38 (n) (by omega) ).trans hr
  have hk := (o38 (n + 1) (by omega) ).trans hk
  have hv := (o38 (n + 2) (by omega) ).trans hv
  have hs := (o38 (n + 3) (by omega) ).trans hs
  have hl := (o38 (n + 4) (by omega) ).trans hl
  have c5 := (o38 (n + 5) (by omega) ).trans c5
  have c6 := (o38 (n + 6) (by omega) ).trans c6
  have c7 := (o38 (n + 7) (by omega) ).trans c7
  have c8 := (o38 (n + 8) (by omega) ).trans c8
  have c10 := (o38 (n + 10) (by omega) ).trans c10
  have c12 := (o38 (n + 12) (by omega) ).trans c12
  have c13 := (o38 (n + 13) (by omega) ).trans c13
  have c14 := (o38 (n + 14) (by omega) ).trans c14
  have c15 := (o38 (n + 15) (by omega) ).trans c15
  have ha := (o38 (a) (by omega) ).trans ha
  refine zk_put 170 dc_Mo_init_167 fp_Mo_72 ha rfl rfl (Nat.le_of_ble_eq_true rfl) rfl (fun f39 ha o39 => ?_)
  have ha : f39 (a) = some (.inr (.inr (9, [.ref n, .ref (n + 5), .ref (n + 6), .ref (n + 7), .int 0, .int 0, .ref (n + 8), .ref (n + 9), .ref (n + 10), .ref (n + 11), .ref (n + 12), .ref (n + 13), .ref (n + 14), .ref (n + 15), .int 0, .ref (n + 16), .ref (n + 17), .ref (n + 18), .ref (n + 19), .int 0, .int 0, .int 0, .int 0, .int 0, .int (-1), .ref (n + 20), .ref (n + 21), .ref (n + 22), .null, .int 0, .null, .null, .null, .int 0, .null, .null, .null, .null, .int 0, .null, .int 0, .null, .int 0, .int 0, .int 0, .int 0, .int 0, .int 0]))) := ha
  have hr := (o39 (n) (by omega) ).trans hr
  have hk := (o39 (n + 1) (by omega) ).trans hk
  have hv := (o39 (n + 2) (by omega) ).trans hv
  have hs := (o39 (n + 3) (by omega) ).trans hs
  have hl := (o39 (n + 4) (by omega) ).trans hl
  have c5 := (o39 (n + 5) (by omega) ).trans c5
  have c6 := (o39 (n + 6) (by omega) ).trans c6
  have c7 := (o39 (n + 7) (by omega) ).trans c7
  have c8 := (o39 (n + 8) (by omega) ).trans c8
  have c10 := (o39 (n + 10) (by omega) ).trans c10
  have c12 := (o39 (n + 12) (by omega) ).trans c12
  have c13 := (o39 (n + 13) (by omega) ).trans c13
  have c14 := (o39 (n + 14) (by omega) ).trans c14
  have c15 := (o39 (n + 15) (by omega) ).trans c15
  refine zk_aload_0 171 dc_Mo_init_170 rfl rfl ?_
  refine zk_sipush (v := 256) 174 dc_Mo_init_171 (by decide) rfl ?_
  refine zk_newiK (N := 256) 176 dc_Mo_init_174 (zk_in 45 (by decide +kernel) (by decide +kernel)) (by decide) (by decide) (by decide) rfl (fun f40 c23 o40 => ?_)
  have hr := (o40 (n) (by omega) ).trans hr
  have hk := (o40 (n + 1) (by omega) ).trans hk
  have hv := (o40 (n + 2) (by omega) ).trans hv
  have hs := (o40 (n + 3) (by omega) ).trans hs
  have hl := (o40 (n + 4) (by omega) ).trans hl
  have c5 := (o40 (n + 5) (by omega) ).trans c5
  have c6 := (o40 (n + 6) (by omega) ).trans c6
  have c7 := (o40 (n + 7) (by omega) ).trans c7
  have c8 := (o40 (n + 8) (by omega) ).trans c8
  have c10 := (o40 (n + 10) (by omega) ).trans c10
  have c12 := (o40 (n + 12) (by omega) ).trans c12
  have c13 := (o40 (n + 13) (by omega) ).trans c13
  have c14 := (o40 (n + 14) (by omega) ).trans c14
  have c15 := (o40 (n + 15) (by omega) ).trans c15
  have ha := (o40 (a) (by omega) ).trans ha
  refine zk_put 179 dc_Mo_init_176 fp_Mo_75 ha rfl rfl (Nat.le_of_ble_eq_true rfl) rfl (fun f41 ha o41 => ?_)
  have ha : f41 (a) = some (.inr (.inr (9, [.ref n, .ref (n + 5), .ref (n + 6), .ref (n + 7), .int 0, .int 0, .ref (n + 8), .ref (n + 9), .ref (n + 10), .ref (n + 11), .ref (n + 12), .ref (n + 13), .ref (n + 14), .ref (n + 15), .int 0, .ref (n + 16), .ref (n + 17), .ref (n + 18), .ref (n + 19), .int 0, .int 0, .int 0, .int 0, .int 0, .int (-1), .ref (n + 20), .ref (n + 21), .ref (n + 22), .ref (n + 23), .int 0, .null, .null, .null, .int 0, .null, .null, .null, .null, .int 0, .null, .int 0, .null, .int 0, .int 0, .int 0, .int 0, .int 0, .int 0]))) := ha
  have hr := (o41 (n) (by omega) ).trans hr
  have hk := (o41 (n + 1) (by omega) ).trans hk
  have hv := (o41 (n + 2) (by omega) ).trans hv
  have hs := (o41 (n + 3) (by omega) ).trans hs
  have hl := (o41 (n + 4) (by omega) ).trans hl
  have c5 := (o41 (n + 5) (by omega) ).trans c5
  have c6 := (o41 (n + 6) (by omega) ).trans c6
  have c7 := (o41 (n + 7) (by omega) ).trans c7
  have c8 := (o41 (n + 8) (by omega) ).trans c8
  have c10 := (o41 (n + 10) (by omega) ).trans c10
  have c12 := (o41 (n + 12) (by omega) ).trans c12
  have c13 := (o41 (n + 13) (by omega) ).trans c13
  have c14 := (o41 (n + 14) (by omega) ).trans c14
  have c15 := (o41 (n + 15) (by omega) ).trans c15
  refine zk_aload_0 180 dc_Mo_init_179 rfl rfl ?_
  refine zk_sipush (v := 256) 183 dc_Mo_init_180 (by decide) rfl ?_
  refine zk_newiK (N := 256) 185 dc_Mo_init_183 (zk_in 45 (by decide +kernel) (by decide +kernel)) (by decide) (by decide) (by decide) rfl (fun f42 c24 o42 => ?_)
  have hr := (o42 (n) (by omega) ).trans hr
  have hk := (o42 (n + 1) (by omega) ).trans hk
  have hv := (o42 (n + 2) (by omega) ).trans hv
  have hs := (o42 (n + 3) (by omega) ).trans hs
  have hl := (o42 (n + 4) (by omega) ).trans hl
  have c5 := (o42 (n + 5) (by omega) ).trans c5
  have c6 := (o42 (n + 6) (by omega) ).trans c6
  have c7 := (o42 (n + 7) (by omega) ).trans c7
  have c8 := (o42 (n + 8) (by omega) ).trans c8
  have c10 := (o42 (n + 10) (by omega) ).trans c10
  have c12 := (o42 (n + 12) (by omega) ).trans c12
  have c13 := (o42 (n + 13) (by omega) ).trans c13
  have c14 := (o42 (n + 14) (by omega) ).trans c14
  have c15 := (o42 (n + 15) (by omega) ).trans c15
  have ha := (o42 (a) (by omega) ).trans ha
  refine zk_put 188 dc_Mo_init_185 fp_Mo_78 ha rfl rfl (Nat.le_of_ble_eq_true rfl) rfl (fun f43 ha o43 => ?_)
  have ha : f43 (a) = some (.inr (.inr (9, [.ref n, .ref (n + 5), .ref (n + 6), .ref (n + 7), .int 0, .int 0, .ref (n + 8), .ref (n + 9), .ref (n + 10), .ref (n + 11), .ref (n + 12), .ref (n + 13), .ref (n + 14), .ref (n + 15), .int 0, .ref (n + 16), .ref (n + 17), .ref (n + 18), .ref (n + 19), .int 0, .int 0, .int 0, .int 0, .int 0, .int (-1), .ref (n + 20), .ref (n + 21), .ref (n + 22), .ref (n + 23), .int 0, .ref (n + 24), .null, .null, .int 0, .null, .null, .null, .null, .int 0, .null, .int 0, .null, .int 0, .int 0, .int 0, .int 0, .int 0, .int 0]))) := ha
  have hr := (o43 (n) (by omega) ).trans hr
  have hk := (o43 (n + 1) (by omega) ).trans hk
  have hv := (o43 (n + 2) (by omega) ).trans hv
  have hs := (o43 (n + 3) (by omega) ).trans hs
  have hl := (o43 (n + 4) (by omega) ).trans hl
  have c5 := (o43 (n + 5) (by omega) ).trans c5
  have c6 := (o43 (n + 6) (by omega) ).trans c6
  have c7 := (o43 (n + 7) (by omega) ).trans c7
  have c8 := (o43 (n + 8) (by omega) ).trans c8
  have c10 := (o43 (n + 10) (by omega) ).trans c10
  have c12 := (o43 (n + 12) (by omega) ).trans c12
  have c13 := (o43 (n + 13) (by omega) ).trans c13
  have c14 := (o43 (n + 14) (by omega) ).trans c14
  have c15 := (o43 (n + 15) (by omega) ).trans c15
  refine zk_aload_0 189 dc_Mo_init_188 rfl rfl ?_
  refine zk_sipush (v := 256) 192 dc_Mo_init_189 (by decide) rfl ?_
  refine zk_newiK (N := 256) 194 dc_Mo_init_192 (zk_in 45 (by decide +kernel) (by decide +kernel)) (by decide) (by decide) (by decide) rfl (fun f44 c25 o44 => ?_)
  have hr := (o44 (n) (by omega) ).trans hr
  have hk := (o44 (n + 1) (by omega) ).trans hk
  have hv := (o44 (n + 2) (by omega) ).trans hv
  have hs := (o44 (n + 3) (by omega) ).trans hs
  have hl := (o44 (n + 4) (by omega) ).trans hl
  have c5 := (o44 (n + 5) (by omega) ).trans c5
  have c6 := (o44 (n + 6) (by omega) ).trans c6
  have c7 := (o44 (n + 7) (by omega) ).trans c7
  have c8 := (o44 (n + 8) (by omega) ).trans c8
  have c10 := (o44 (n + 10) (by omega) ).trans c10
  have c12 := (o44 (n + 12) (by omega) ).trans c12
  have c13 := (o44 (n + 13) (by omega) ).trans c13
  have c14 := (o44 (n + 14) (by omega) ).trans c14
  have c15 := (o44 (n + 15) (by omega) ).trans c15
  have ha := (o44 (a) (by omega) ).trans ha
  refine zk_put 197 dc_Mo_init_194 fp_Mo_81 ha rfl rfl (Nat.le_of_ble_eq_true rfl) rfl (fun f45 ha o45 => ?_)
  have ha : f45 (a) = some (.inr (.inr (9, [.ref n, .ref (n + 5), .ref (n + 6), .ref (n + 7), .int 0, .int 0, .ref (n + 8), .ref (n + 9), .ref (n + 10), .ref (n + 11), .ref (n + 12), .ref (n + 13), .ref (n + 14), .ref (n + 15), .int 0, .ref (n + 16), .ref (n + 17), .ref (n + 18), .ref (n + 19), .int 0, .int 0, .int 0, .int 0, .int 0, .int (-1), .ref (n + 20), .ref (n + 21), .ref (n + 22), .ref (n + 23), .int 0, .ref (n + 24), .ref (n + 25), .null, .int 0, .null, .null, .null, .null, .int 0, .null, .int 0, .null, .int 0, .int 0, .int 0, .int 0, .int 0, .int 0]))) := ha
  have hr := (o45 (n) (by omega) ).trans hr
  have hk := (o45 (n + 1) (by omega) ).trans hk
  have hv := (o45 (n + 2) (by omega) ).trans hv
  have hs := (o45 (n + 3) (by omega) ).trans hs
  have hl := (o45 (n + 4) (by omega) ).trans hl
  have c5 := (o45 (n + 5) (by omega) ).trans c5
  have c6 := (o45 (n + 6) (by omega) ).trans c6
  have c7 := (o45 (n + 7) (by omega) ).trans c7
  have c8 := (o45 (n + 8) (by omega) ).trans c8
  have c10 := (o45 (n + 10) (by omega) ).trans c10
  have c12 := (o45 (n + 12) (by omega) ).trans c12
  have c13 := (o45 (n + 13) (by omega) ).trans c13
  have c14 := (o45 (n + 14) (by omega) ).trans c14
  have c15 := (o45 (n + 15) (by omega) ).trans c15
  refine zk_aload_0 198 dc_Mo_init_197 rfl rfl ?_
  refine zk_sipush (v := 256) 201 dc_Mo_init_198 (by decide) rfl ?_
  refine zk_newiK (N := 256) 203 dc_Mo_init_201 (zk_in 45 (by decide +kernel) (by decide +kernel)) (by decide) (by decide) (by decide) rfl (fun f46 c26 o46 => ?_)
  have hr := (o46 (n) (by omega) ).trans hr
  have hk := (o46 (n + 1) (by omega) ).trans hk
  have hv := (o46 (n + 2) (by omega) ).trans hv
  have hs := (o46 (n + 3) (by omega) ).trans hs
  have hl := (o46 (n + 4) (by omega) ).trans hl
  have c5 := (o46 (n + 5) (by omega) ).trans c5
  have c6 := (o46 (n + 6) (by omega) ).trans c6
  have c7 := (o46 (n + 7) (by omega) ).trans c7
  have c8 := (o46 (n + 8) (by omega) ).trans c8
  have c10 := (o46 (n + 10) (by omega) ).trans c10
  have c12 := (o46 (n + 12) (by omega) ).trans c12
  have c13 := (o46 (n + 13) (by omega) ).trans c13
  have c14 := (o46 (n + 14) (by omega) ).trans c14
  have c15 := (o46 (n + 15) (by omega) ).trans c15
  have ha := (o46 (a) (by omega) ).trans ha
  refine zk_put 206 dc_Mo_init_203 fp_Mo_84 ha rfl rfl (Nat.le_of_ble_eq_true rfl) rfl (fun f47 ha o47 => ?_)
  have ha : f47 (a) = some (.inr (.inr (9, [.ref n, .ref (n + 5), .ref (n + 6), .ref (n + 7), .int 0, .int 0, .ref (n + 8), .ref (n + 9), .ref (n + 10), .ref (n + 11), .ref (n + 12), .ref (n + 13), .ref (n + 14), .ref (n + 15), .int 0, .ref (n + 16), .ref (n + 17), .ref (n + 18), .ref (n + 19), .int 0, .int 0, .int 0, .int 0, .int 0, .int (-1), .ref (n + 20), .ref (n + 21), .ref (n + 22), .ref (n + 23), .int 0, .ref (n + 24), .ref (n + 25), .ref (n + 26), .int 0, .null, .null, .null, .null, .int 0, .null, .int 0, .null, .int 0, .int 0, .int 0, .int 0, .int 0, .int 0]))) := ha
  have hr := (o47 (n) (by omega) ).trans hr
  have hk := (o47 (n + 1) (by omega) ).trans hk
  have hv := (o47 (n + 2) (by omega) ).trans hv
  have hs := (o47 (n + 3) (by omega) ).trans hs
  have hl := (o47 (n + 4) (by omega) ).trans hl
  have c5 := (o47 (n + 5) (by omega) ).trans c5
  have c6 := (o47 (n + 6) (by omega) ).trans c6
  have c7 := (o47 (n + 7) (by omega) ).trans c7
  have c8 := (o47 (n + 8) (by omega) ).trans c8
  have c10 := (o47 (n + 10) (by omega) ).trans c10
  have c12 := (o47 (n + 12) (by omega) ).trans c12
  have c13 := (o47 (n + 13) (by omega) ).trans c13
  have c14 := (o47 (n + 14) (by omega) ).trans c14
  have c15 := (o47 (n + 15) (by omega) ).trans c15
  refine zk_aload_0 207 dc_Mo_init_206 rfl rfl ?_
  refine zk_bipush (v := 64) 209 dc_Mo_init_207 (by decide) rfl ?_
  refine zk_newiK (N := 64) 211 dc_Mo_init_209 (zk_in 45 (by decide +kernel) (by decide +kernel)) (by decide) (by decide) (by decide) rfl (fun f48 c27 o48 => ?_)
  have hr := (o48 (n) (by omega) ).trans hr
  have hk := (o48 (n + 1) (by omega) ).trans hk
  have hv := (o48 (n + 2) (by omega) ).trans hv
  have hs := (o48 (n + 3) (by omega) ).trans hs
  have hl := (o48 (n + 4) (by omega) ).trans hl
  have c5 := (o48 (n + 5) (by omega) ).trans c5
  have c6 := (o48 (n + 6) (by omega) ).trans c6
  have c7 := (o48 (n + 7) (by omega) ).trans c7
  have c8 := (o48 (n + 8) (by omega) ).trans c8
  have c10 := (o48 (n + 10) (by omega) ).trans c10
  have c12 := (o48 (n + 12) (by omega) ).trans c12
  have c13 := (o48 (n + 13) (by omega) ).trans c13
  have c14 := (o48 (n + 14) (by omega) ).trans c14
  have c15 := (o48 (n + 15) (by omega) ).trans c15
  have ha := (o48 (a) (by omega) ).trans ha
  refine zk_put 214 dc_Mo_init_211 fp_Mo_87 ha rfl rfl (Nat.le_of_ble_eq_true rfl) rfl (fun f49 ha o49 => ?_)
  have ha : f49 (a) = some (.inr (.inr (9, [.ref n, .ref (n + 5), .ref (n + 6), .ref (n + 7), .int 0, .int 0, .ref (n + 8), .ref (n + 9), .ref (n + 10), .ref (n + 11), .ref (n + 12), .ref (n + 13), .ref (n + 14), .ref (n + 15), .int 0, .ref (n + 16), .ref (n + 17), .ref (n + 18), .ref (n + 19), .int 0, .int 0, .int 0, .int 0, .int 0, .int (-1), .ref (n + 20), .ref (n + 21), .ref (n + 22), .ref (n + 23), .int 0, .ref (n + 24), .ref (n + 25), .ref (n + 26), .int 0, .ref (n + 27), .null, .null, .null, .int 0, .null, .int 0, .null, .int 0, .int 0, .int 0, .int 0, .int 0, .int 0]))) := ha
  have hr := (o49 (n) (by omega) ).trans hr
  have hk := (o49 (n + 1) (by omega) ).trans hk
  have hv := (o49 (n + 2) (by omega) ).trans hv
  have hs := (o49 (n + 3) (by omega) ).trans hs
  have hl := (o49 (n + 4) (by omega) ).trans hl
  have c5 := (o49 (n + 5) (by omega) ).trans c5
  have c6 := (o49 (n + 6) (by omega) ).trans c6
  have c7 := (o49 (n + 7) (by omega) ).trans c7
  have c8 := (o49 (n + 8) (by omega) ).trans c8
  have c10 := (o49 (n + 10) (by omega) ).trans c10
  have c12 := (o49 (n + 12) (by omega) ).trans c12
  have c13 := (o49 (n + 13) (by omega) ).trans c13
  have c14 := (o49 (n + 14) (by omega) ).trans c14
  have c15 := (o49 (n + 15) (by omega) ).trans c15
  refine zk_aload_0 215 dc_Mo_init_214 rfl rfl ?_
  refine zk_bipush (v := 64) 217 dc_Mo_init_215 (by decide) rfl ?_
  refine zk_newiK (N := 64) 219 dc_Mo_init_217 (zk_in 45 (by decide +kernel) (by decide +kernel)) (by decide) (by decide) (by decide) rfl (fun f50 c28 o50 => ?_)
  have hr := (o50 (n) (by omega) ).trans hr
  have hk := (o50 (n + 1) (by omega) ).trans hk
  have hv := (o50 (n + 2) (by omega) ).trans hv
  have hs := (o50 (n + 3) (by omega) ).trans hs
  have hl := (o50 (n + 4) (by omega) ).trans hl
  have c5 := (o50 (n + 5) (by omega) ).trans c5
  have c6 := (o50 (n + 6) (by omega) ).trans c6
  have c7 := (o50 (n + 7) (by omega) ).trans c7
  have c8 := (o50 (n + 8) (by omega) ).trans c8
  have c10 := (o50 (n + 10) (by omega) ).trans c10
  have c12 := (o50 (n + 12) (by omega) ).trans c12
  have c13 := (o50 (n + 13) (by omega) ).trans c13
  have c14 := (o50 (n + 14) (by omega) ).trans c14
  have c15 := (o50 (n + 15) (by omega) ).trans c15
  have ha := (o50 (a) (by omega) ).trans ha
  refine zk_put 222 dc_Mo_init_219 fp_Mo_90 ha rfl rfl (Nat.le_of_ble_eq_true rfl) rfl (fun f51 ha o51 => ?_)
  have ha : f51 (a) = some (.inr (.inr (9, [.ref n, .ref (n + 5), .ref (n + 6), .ref (n + 7), .int 0, .int 0, .ref (n + 8), .ref (n + 9), .ref (n + 10), .ref (n + 11), .ref (n + 12), .ref (n + 13), .ref (n + 14), .ref (n + 15), .int 0, .ref (n + 16), .ref (n + 17), .ref (n + 18), .ref (n + 19), .int 0, .int 0, .int 0, .int 0, .int 0, .int (-1), .ref (n + 20), .ref (n + 21), .ref (n + 22), .ref (n + 23), .int 0, .ref (n + 24), .ref (n + 25), .ref (n + 26), .int 0, .ref (n + 27), .ref (n + 28), .null, .null, .int 0, .null, .int 0, .null, .int 0, .int 0, .int 0, .int 0, .int 0, .int 0]))) := ha
  have hr := (o51 (n) (by omega) ).trans hr
  have hk := (o51 (n + 1) (by omega) ).trans hk
  have hv := (o51 (n + 2) (by omega) ).trans hv
  have hs := (o51 (n + 3) (by omega) ).trans hs
  have hl := (o51 (n + 4) (by omega) ).trans hl
  have c5 := (o51 (n + 5) (by omega) ).trans c5
  have c6 := (o51 (n + 6) (by omega) ).trans c6
  have c7 := (o51 (n + 7) (by omega) ).trans c7
  have c8 := (o51 (n + 8) (by omega) ).trans c8
  have c10 := (o51 (n + 10) (by omega) ).trans c10
  have c12 := (o51 (n + 12) (by omega) ).trans c12
  have c13 := (o51 (n + 13) (by omega) ).trans c13
  have c14 := (o51 (n + 14) (by omega) ).trans c14
  have c15 := (o51 (n + 15) (by omega) ).trans c15
  refine zk_aload_0 223 dc_Mo_init_222 rfl rfl ?_
  refine zk_bipush (v := 64) 225 dc_Mo_init_223 (by decide) rfl ?_
  refine zk_newiK (N := 64) 227 dc_Mo_init_225 (zk_in 45 (by decide +kernel) (by decide +kernel)) (by decide) (by decide) (by decide) rfl (fun f52 c29 o52 => ?_)
  have hr := (o52 (n) (by omega) ).trans hr
  have hk := (o52 (n + 1) (by omega) ).trans hk
  have hv := (o52 (n + 2) (by omega) ).trans hv
  have hs := (o52 (n + 3) (by omega) ).trans hs
  have hl := (o52 (n + 4) (by omega) ).trans hl
  have c5 := (o52 (n + 5) (by omega) ).trans c5
  have c6 := (o52 (n + 6) (by omega) ).trans c6
  have c7 := (o52 (n + 7) (by omega) ).trans c7
  have c8 := (o52 (n + 8) (by omega) ).trans c8
  have c10 := (o52 (n + 10) (by omega) ).trans c10
  have c12 := (o52 (n + 12) (by omega) ).trans c12
  have c13 := (o52 (n + 13) (by omega) ).trans c13
  have c14 := (o52 (n + 14) (by omega) ).trans c14
  have c15 := (o52 (n + 15) (by omega) ).trans c15
  have ha := (o52 (a) (by omega) ).trans ha
  refine zk_put 230 dc_Mo_init_227 fp_Mo_93 ha rfl rfl (Nat.le_of_ble_eq_true rfl) rfl (fun f53 ha o53 => ?_)
  have ha : f53 (a) = some (.inr (.inr (9, [.ref n, .ref (n + 5), .ref (n + 6), .ref (n + 7), .int 0, .int 0, .ref (n + 8), .ref (n + 9), .ref (n + 10), .ref (n + 11), .ref (n + 12), .ref (n + 13), .ref (n + 14), .ref (n + 15), .int 0, .ref (n + 16), .ref (n + 17), .ref (n + 18), .ref (n + 19), .int 0, .int 0, .int 0, .int 0, .int 0, .int (-1), .ref (n + 20), .ref (n + 21), .ref (n + 22), .ref (n + 23), .int 0, .ref (n + 24), .ref (n + 25), .ref (n + 26), .int 0, .ref (n + 27), .ref (n + 28), .ref (n + 29), .null, .int 0, .null, .int 0, .null, .int 0, .int 0, .int 0, .int 0, .int 0, .int 0]))) := ha
  have hr := (o53 (n) (by omega) ).trans hr
  have hk := (o53 (n + 1) (by omega) ).trans hk
  have hv := (o53 (n + 2) (by omega) ).trans hv
  have hs := (o53 (n + 3) (by omega) ).trans hs
  have hl := (o53 (n + 4) (by omega) ).trans hl
  have c5 := (o53 (n + 5) (by omega) ).trans c5
  have c6 := (o53 (n + 6) (by omega) ).trans c6
  have c7 := (o53 (n + 7) (by omega) ).trans c7
  have c8 := (o53 (n + 8) (by omega) ).trans c8
  have c10 := (o53 (n + 10) (by omega) ).trans c10
  have c12 := (o53 (n + 12) (by omega) ).trans c12
  have c13 := (o53 (n + 13) (by omega) ).trans c13
  have c14 := (o53 (n + 14) (by omega) ).trans c14
  have c15 := (o53 (n + 15) (by omega) ).trans c15
  refine zk_aload_0 231 dc_Mo_init_230 rfl rfl ?_
  refine zk_bipush (v := 64) 233 dc_Mo_init_231 (by decide) rfl ?_
  refine zk_newiK (N := 64) 235 dc_Mo_init_233 (zk_in 45 (by decide +kernel) (by decide +kernel)) (by decide) (by decide) (by decide) rfl (fun f54 c30 o54 => ?_)
  have hr := (o54 (n) (by omega) ).trans hr
  have hk := (o54 (n + 1) (by omega) ).trans hk
  have hv := (o54 (n + 2) (by omega) ).trans hv
  have hs := (o54 (n + 3) (by omega) ).trans hs
  have hl := (o54 (n + 4) (by omega) ).trans hl
  have c5 := (o54 (n + 5) (by omega) ).trans c5
  have c6 := (o54 (n + 6) (by omega) ).trans c6
  have c7 := (o54 (n + 7) (by omega) ).trans c7
  have c8 := (o54 (n + 8) (by omega) ).trans c8
  have c10 := (o54 (n + 10) (by omega) ).trans c10
  have c12 := (o54 (n + 12) (by omega) ).trans c12
  have c13 := (o54 (n + 13) (by omega) ).trans c13
  have c14 := (o54 (n + 14) (by omega) ).trans c14
  have c15 := (o54 (n + 15) (by omega) ).trans c15
  have ha := (o54 (a) (by omega) ).trans ha
  refine zk_put 238 dc_Mo_init_235 fp_Mo_96 ha rfl rfl (Nat.le_of_ble_eq_true rfl) rfl (fun f55 ha o55 => ?_)
  have ha : f55 (a) = some (.inr (.inr (9, [.ref n, .ref (n + 5), .ref (n + 6), .ref (n + 7), .int 0, .int 0, .ref (n + 8), .ref (n + 9), .ref (n + 10), .ref (n + 11), .ref (n + 12), .ref (n + 13), .ref (n + 14), .ref (n + 15), .int 0, .ref (n + 16), .ref (n + 17), .ref (n + 18), .ref (n + 19), .int 0, .int 0, .int 0, .int 0, .int 0, .int (-1), .ref (n + 20), .ref (n + 21), .ref (n + 22), .ref (n + 23), .int 0, .ref (n + 24), .ref (n + 25), .ref (n + 26), .int 0, .ref (n + 27), .ref (n + 28), .ref (n + 29), .ref (n + 30), .int 0, .null, .int 0, .null, .int 0, .int 0, .int 0, .int 0, .int 0, .int 0]))) := ha
  have hr := (o55 (n) (by omega) ).trans hr
  have hk := (o55 (n + 1) (by omega) ).trans hk
  have hv := (o55 (n + 2) (by omega) ).trans hv
  have hs := (o55 (n + 3) (by omega) ).trans hs
  have hl := (o55 (n + 4) (by omega) ).trans hl
  have c5 := (o55 (n + 5) (by omega) ).trans c5
  have c6 := (o55 (n + 6) (by omega) ).trans c6
  have c7 := (o55 (n + 7) (by omega) ).trans c7
  have c8 := (o55 (n + 8) (by omega) ).trans c8
  have c10 := (o55 (n + 10) (by omega) ).trans c10
  have c12 := (o55 (n + 12) (by omega) ).trans c12
  have c13 := (o55 (n + 13) (by omega) ).trans c13
  have c14 := (o55 (n + 14) (by omega) ).trans c14
  have c15 := (o55 (n + 15) (by omega) ).trans c15
  refine zk_aload_0 239 dc_Mo_init_238 rfl rfl ?_
  refine zk_bipush (v := 64) 241 dc_Mo_init_239 (by decide) rfl ?_
  refine zk_newiK (N := 64) 243 dc_Mo_init_241 (zk_in 45 (by decide +kernel) (by decide +kernel)) (by decide) (by decide) (by decide) rfl (fun f56 c31 o56 => ?_)
  have hr := (o56 (n) (by omega) ).trans hr
  have hk := (o56 (n + 1) (by omega) ).trans hk
  have hv := (o56 (n + 2) (by omega) ).trans hv
  have hs := (o56 (n + 3) (by omega) ).trans hs
  have hl := (o56 (n + 4) (by omega) ).trans hl
  have c5 := (o56 (n + 5) (by omega) ).trans c5
  have c6 := (o56 (n + 6) (by omega) ).trans c6
  have c7 := (o56 (n + 7) (by omega) ).trans c7
  have c8 := (o56 (n + 8) (by omega) ).trans c8
  have c10 := (o56 (n + 10) (by omega) ).trans c10
  have c12 := (o56 (n + 12) (by omega) ).trans c12
  have c13 := (o56 (n + 13) (by omega) ).trans c13
  have c14 := (o56 (n + 14) (by omega) ).trans c14
  have c15 := (o56 (n + 15) (by omega) ).trans c15
  have ha := (o56 (a) (by omega) ).trans ha
  refine zk_put 246 dc_Mo_init_243 fp_Mo_99 ha rfl rfl (Nat.le_of_ble_eq_true rfl) rfl (fun f57 ha o57 => ?_)
  have ha : f57 (a) = some (.inr (.inr (9, [.ref n, .ref (n + 5), .ref (n + 6), .ref (n + 7), .int 0, .int 0, .ref (n + 8), .ref (n + 9), .ref (n + 10), .ref (n + 11), .ref (n + 12), .ref (n + 13), .ref (n + 14), .ref (n + 15), .int 0, .ref (n + 16), .ref (n + 17), .ref (n + 18), .ref (n + 19), .int 0, .int 0, .int 0, .int 0, .int 0, .int (-1), .ref (n + 20), .ref (n + 21), .ref (n + 22), .ref (n + 23), .int 0, .ref (n + 24), .ref (n + 25), .ref (n + 26), .int 0, .ref (n + 27), .ref (n + 28), .ref (n + 29), .ref (n + 30), .int 0, .ref (n + 31), .int 0, .null, .int 0, .int 0, .int 0, .int 0, .int 0, .int 0]))) := ha
  have hr := (o57 (n) (by omega) ).trans hr
  have hk := (o57 (n + 1) (by omega) ).trans hk
  have hv := (o57 (n + 2) (by omega) ).trans hv
  have hs := (o57 (n + 3) (by omega) ).trans hs
  have hl := (o57 (n + 4) (by omega) ).trans hl
  have c5 := (o57 (n + 5) (by omega) ).trans c5
  have c6 := (o57 (n + 6) (by omega) ).trans c6
  have c7 := (o57 (n + 7) (by omega) ).trans c7
  have c8 := (o57 (n + 8) (by omega) ).trans c8
  have c10 := (o57 (n + 10) (by omega) ).trans c10
  have c12 := (o57 (n + 12) (by omega) ).trans c12
  have c13 := (o57 (n + 13) (by omega) ).trans c13
  have c14 := (o57 (n + 14) (by omega) ).trans c14
  have c15 := (o57 (n + 15) (by omega) ).trans c15
  refine zk_aload_0 247 dc_Mo_init_246 rfl rfl ?_
  refine zk_bipush (v := 64) 249 dc_Mo_init_247 (by decide) rfl ?_
  refine zk_newiK (N := 64) 251 dc_Mo_init_249 (zk_in 45 (by decide +kernel) (by decide +kernel)) (by decide) (by decide) (by decide) rfl (fun f58 c32 o58 => ?_)
  have hr := (o58 (n) (by omega) ).trans hr
  have hk := (o58 (n + 1) (by omega) ).trans hk
  have hv := (o58 (n + 2) (by omega) ).trans hv
  have hs := (o58 (n + 3) (by omega) ).trans hs
  have hl := (o58 (n + 4) (by omega) ).trans hl
  have c5 := (o58 (n + 5) (by omega) ).trans c5
  have c6 := (o58 (n + 6) (by omega) ).trans c6
  have c7 := (o58 (n + 7) (by omega) ).trans c7
  have c8 := (o58 (n + 8) (by omega) ).trans c8
  have c10 := (o58 (n + 10) (by omega) ).trans c10
  have c12 := (o58 (n + 12) (by omega) ).trans c12
  have c13 := (o58 (n + 13) (by omega) ).trans c13
  have c14 := (o58 (n + 14) (by omega) ).trans c14
  have c15 := (o58 (n + 15) (by omega) ).trans c15
  have ha := (o58 (a) (by omega) ).trans ha
  refine zk_put 254 dc_Mo_init_251 fp_Mo_102 ha rfl rfl (Nat.le_of_ble_eq_true rfl) rfl (fun f59 ha o59 => ?_)
  have ha : f59 (a) = some (.inr (.inr (9, [.ref n, .ref (n + 5), .ref (n + 6), .ref (n + 7), .int 0, .int 0, .ref (n + 8), .ref (n + 9), .ref (n + 10), .ref (n + 11), .ref (n + 12), .ref (n + 13), .ref (n + 14), .ref (n + 15), .int 0, .ref (n + 16), .ref (n + 17), .ref (n + 18), .ref (n + 19), .int 0, .int 0, .int 0, .int 0, .int 0, .int (-1), .ref (n + 20), .ref (n + 21), .ref (n + 22), .ref (n + 23), .int 0, .ref (n + 24), .ref (n + 25), .ref (n + 26), .int 0, .ref (n + 27), .ref (n + 28), .ref (n + 29), .ref (n + 30), .int 0, .ref (n + 31), .int 0, .ref (n + 32), .int 0, .int 0, .int 0, .int 0, .int 0, .int 0]))) := ha
  have hr := (o59 (n) (by omega) ).trans hr
  have hk := (o59 (n + 1) (by omega) ).trans hk
  have hv := (o59 (n + 2) (by omega) ).trans hv
  have hs := (o59 (n + 3) (by omega) ).trans hs
  have hl := (o59 (n + 4) (by omega) ).trans hl
  have c5 := (o59 (n + 5) (by omega) ).trans c5
  have c6 := (o59 (n + 6) (by omega) ).trans c6
  have c7 := (o59 (n + 7) (by omega) ).trans c7
  have c8 := (o59 (n + 8) (by omega) ).trans c8
  have c10 := (o59 (n + 10) (by omega) ).trans c10
  have c12 := (o59 (n + 12) (by omega) ).trans c12
  have c13 := (o59 (n + 13) (by omega) ).trans c13
  have c14 := (o59 (n + 14) (by omega) ).trans c14
  have c15 := (o59 (n + 15) (by omega) ).trans c15
  refine zk_iconst (v := 0) 255 dc_Mo_init_254 (by decide) rfl ?_
  refine zk_istore_1 256 dc_Mo_init_255 (Nat.le_of_ble_eq_true rfl) rfl ?_
  have ha : f59 a = some (.inr (.inr (9, [.ref n, .ref (n + 5), .ref (n + 6), .ref (n + 7), .int 0, .int 0, .ref (n + 8), .ref (n + 9), .ref (n + 10), .ref (n + 11), .ref (n + 12), .ref (n + 13), .ref (n + 14), .ref (n + 15), .int 0, .ref (n + 16), .ref (n + 17), .ref (n + 18), .ref (n + 19), .int 0, .int 0, .int 0, .int 0, .int 0, .int (-1), .ref (n + 20), .ref (n + 21), .ref (n + 22), .ref (n + 23), .int 0, .ref (n + 24), .ref (n + 25), .ref (n + 26), .int 0, .ref (n + 27), .ref (n + 28), .ref (n + 29), .ref (n + 30), .int 0, .ref (n + 31), .int 0, .ref (n + 32), .int 0, .int 0, .int 0, .int 0, .int 0, .int 0]))) := ha
  exact ct_Mo_loop (r := n) rfl (by omega) 2201 0 f59 _ _ _ _ rfl ha hr hk hv hs hl (fun g gk gv gs gl o hr hk hv hs hl => ⟨rfl, g, gk, gv, gs, gl, rfl, (o a (by omega)).trans ha, hr, hk, hv, hs, hl, (o (n + 5) (by omega)).trans c5, (o (n + 6) (by omega)).trans c6, (o (n + 7) (by omega)).trans c7, (o (n + 8) (by omega)).trans c8, (o (n + 10) (by omega)).trans c10, (o (n + 12) (by omega)).trans c12, (o (n + 13) (by omega)).trans c13, (o (n + 14) (by omega)).trans c14, (o (n + 15) (by omega)).trans c15, fun b q1 q2 => by rw [o b (by omega), o59 b (by omega), o58 b (by omega), o57 b (by omega), o56 b (by omega), o55 b (by omega), o54 b (by omega), o53 b (by omega), o52 b (by omega), o51 b (by omega), o50 b (by omega), o49 b (by omega), o48 b (by omega), o47 b (by omega), o46 b (by omega), o45 b (by omega), o44 b (by omega), o43 b (by omega), o42 b (by omega), o41 b (by omega), o40 b (by omega), o39 b (by omega), o38 b (by omega), o37 b (by omega), o36 b (by omega), o35 b (by omega), o34 b (by omega), o33 b (by omega), o32 b (by omega), o31 b (by omega), o30 b (by omega), o29 b (by omega), o28 b (by omega), o27 b (by omega), o26 b (by omega), o25 b (by omega), o24 b (by omega), o23 b (by omega), o22 b (by omega), o21 b (by omega), o20 b (by omega), o19 b (by omega), o18 b (by omega), o17 b (by omega), o16 b (by omega), o15 b (by omega), o14 b (by omega), o13 b (by omega), o12 b (by omega), o11 b (by omega), o10 b (by omega), o9 b (by omega), o8 b (by omega), o7 b (by omega), o6 b (by omega), o5 b (by omega), o4 b (by omega), o3 b (by omega), o2 b (by omega), p0 b (by omega) (by omega), o1 b (by omega)]⟩)
