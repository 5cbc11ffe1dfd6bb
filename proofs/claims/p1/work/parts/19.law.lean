/-! THE CLAIM OUT OF ONE WALK OF THE LAW'S BODY. Your part is whole_start (and what it stands on); all else here is the same for every law, but numbers. -/
def R_law : String := "ClosureMachineLaw"
def lw_P (b : Addr) (xs : List Int32) (args : Array Value) (s : State) : Prop := args = #[.ref b] ∧ s.IntsAt b xs ∧ xs.length ≤ 5 ∧ (Jvm.Cond.and given_1 narrow_1).before args s = true
def lw_Q (_ : Array Value) (s : State) (o : Outcome) (t : State) : Prop := o = .returned (some (.int 1)) ∧ Framed s o t [] 600000 7302250
def lw_Z (below : List Frame) (a : Array Value) (s : State) : State → Prop := fun t => ∃ o, t.status = .running ∧ Ended t below o ∧ lw_Q a s o t
/-- the law's own end, with 1 on the stack, nothing written that was there before, its room as the claim has it -/
theorem lw_ret {p : Program} {l : Launch} {e : Env} {s : State} {m : MethodId} {below : List Frame} {meth : Method} {c : Code} {b : Nat} (hx : p.tables.exec = Jvm.exec) (hb : c.code = code) (hr : meth.sig.returnType = ret) (hlocks : meth.locks = false) {pc : Nat} {H : Heap} {ls : Array Slot} (hdg : decode code pc = .ok (.ireturn, 1)) : W p l e room_1 s m #[Value.ref b] below meth c H [] 600000 7302250 (lw_Z below #[Value.ref b] s) (F0 m pc ls [.int 1]) := by
  intro T hT X
  obtain ⟨fs, hret, hrun, hended, hW, hframe⟩ := X.leave (v := some (.int 1)) (hlocks := hlocks) (fun h => by rw [hr] at h; cases h)
  have hmeth' : T.vm.method? m = some meth := X.method'
  refine ⟨T.setFrames fs, ?_, .returned (some (.int 1)), hrun, hended, rfl, ⟨_, rfl⟩, hW, hframe⟩
  jvm_step X.here [X.here.top, hx, hb, hdg, hmeth', hr, ret, narrow_b1]
  (try refine ⟨rfl, ?_⟩); (try refine ⟨rfl, ?_⟩)
  first | (intro acts; rw [hret _ acts rfl rfl rfl]) | rw [hret _ _ rfl rfl rfl]
  exact Steps.refl _
/-- what holds at the law's entry: the machine, the code, the tables' words (any of lw_tbl by 'hts w (by decide +kernel)'), the script of L ints xs at the cell b, what the Statement gives of the start (any of its parts by flat_of_before) -/
def lw_At (p : Program) (s : State) (m : MethodId) (meth : Method) (c : Code) (b L : Nat) (xs : Nat → Int32) : Prop :=
  p.tables.exec = Jvm.exec ∧ c.code = code ∧ meth.sig.returnType = ret ∧ c.maxLocals = 4 ∧ s.vm.findClass R_law = some m.cls ∧ (∀ w ∈ lw_tbl, w.before #[Value.ref b] s = true) ∧ va_X b L xs s s.heap ∧ b < s.heap.size ∧ meth.locks = false ∧ (Jvm.Cond.and given_1 narrow_1).before #[Value.ref b] s = true
abbrev mm_law : zk_Mt := (⟨"ClosureMachineLaw", "law", "([I)Z"⟩, code, 4, ret, 11, 462)
theorem zk_topi {Z : zk_Z} {μ : zk_Mt} {pc : Nat} {lo : List (Option Value)} {st : List Value} {M : zk_M} {R : Option Value → zk_M → Prop} {x : Int32} (k : ∀ y : Int32, zk_P Z μ pc lo (.int y :: st) M R) : zk_P Z μ pc lo (.int x :: st) M R := k x
theorem zk_Lo_entry {as : List Value} {n : Nat} (hn : as.length ≤ n) (hc : ∀ v ∈ as, v.category = 1) : zk_Lo ((lg_sl as ++ List.replicate (n - (lg_sl as).length) Slot.unset).toArray) n (as.map some ++ List.replicate (n - as.length) none) := by
  have hl := lv_entry as (n := n) (by rw [zk_sl hc]; exact hn)
  refine ⟨hl.1, hl.2.1, fun i v hi => ?_⟩
  by_cases hia : i < as.length
  · rw [List.getElem?_append_left (by simpa using hia), List.getElem?_map] at hi
    cases hx : as[i]? with
    | none => rw [hx] at hi; cases hi
    | some w =>
      rw [hx] at hi
      cases hi
      have hm := zk_args hc 0 i v hx
      rw [Nat.zero_add] at hm
      exact ⟨hc v (List.mem_of_getElem? hx), hl.2.2 _ hm⟩
  · rw [List.getElem?_append_right (by simpa using hia)] at hi
    have := List.mem_of_getElem? hi
    have := (List.mem_replicate.mp this).2
    cases this
theorem zk_inst : ∀ (ci : Nat) (C : String) (T : u_T) (N : Nat), vwCl[ci]? = some (C, T, N) → Cond.instantiable C N ∈ zk_all := by
  intro ci C T N h
  match ci, h with
  | 0, h => cases h; exact zk_in 29 (by decide +kernel) (by decide +kernel)
  | 1, h => cases h; exact zk_in 23 (by decide +kernel) (by decide +kernel)
  | 2, h => cases h; exact zk_in 62 (by decide +kernel) (by decide +kernel)
  | 3, h => cases h; exact zk_in 77 (by decide +kernel) (by decide +kernel)
  | 4, h => cases h; exact zk_in 87 (by decide +kernel) (by decide +kernel)
  | 5, h => cases h; exact zk_in 136 (by decide +kernel) (by decide +kernel)
  | 6, h => cases h; exact zk_in 15 (by decide +kernel) (by decide +kernel)
  | 7, h => cases h; exact zk_in 312 (by decide +kernel) (by decide +kernel)
  | 8, h => cases h; exact zk_in 656 (by decide +kernel) (by decide +kernel)
  | 9, h => cases h; exact zk_in 650 (by decide +kernel) (by decide +kernel)
  | k + 10, h => simp [vwCl] at h
set_option maxHeartbeats 1000000 in
/-- THE LAW'S BODY OUT OF THE JUDGEMENT -/
theorem zk_law {p : Program} {e : Env} {s : State} {m : MethodId} {below : List Frame} {meth : Method} {c : Code} (l : Launch) {b L : Nat} {xs : Nat → Int32} (C0 : lw_At p s m meth c b L xs)
    (h : ∀ (κ : Nat → ClassId) (D : va_G), zk_P (l, κ, D, s.heap.size, b, L, xs) mm_law 0 [some (.ref b), none, none, none] [] (s.heap.size, 0, fun _ => none) (fun r M' => r = some (.int 1) ∧ M'.1 ≤ s.heap.size + 600000 ∧ M'.2.1 ≤ 7302250)) :
    W p l e room_1 s m #[Value.ref b] below meth c s.heap [] 0 0 (lw_Z below #[Value.ref b] s) (entryFrame m ([Value.ref b] : List Value).toArray 4) := by
  obtain ⟨hx, hb, hr, hml, hown, hts, hX, hbl, hlocks, hgv⟩ := id C0
  have hall : ∀ w ∈ zk_all, w.before #[Value.ref b] s = true := fun w hw => hts w (List.mem_filter.mp hw).1
  have hcl : ∀ k : Nat, ∃ q : ClassId × (Nat → Nat), ∀ r : vw_C, vwCl[k]? = some r → u_Kn s r.1 r.2.1 r.2.2 q.1 q.2 := by
    intro k
    cases hk : vwCl[k]? with
    | none => exact ⟨(0, fun _ => 0), fun r hr => by cases hr⟩
    | some r =>
      obtain ⟨C, T, N⟩ := r
      obtain ⟨cC, iS, hKn⟩ := u_known (C := C) (T := T) (N := N) (n := N) hall (zk_cls_ok k C T N hk).1 (hall _ (zk_inst k C T N hk))
      exact ⟨(cC, iS), fun r hr => by cases hr; exact hKn⟩
  obtain ⟨φ, hφ⟩ := Classical.axiomOfChoice hcl
  obtain ⟨cI, kI, compI, i1, i2, i3⟩ := Cond.arrayClass_spec (hall (.arrayClass .int) (zk_in 45 (by decide +kernel) (by decide +kernel)))
  obtain ⟨comp, cG, kG, g1, -, g2, g3, g4⟩ := Cond.arrayOver_spec (hts (.arrayOver (.object "ClosureMachine$Global")) (zk_nw_in _ (List.mem_of_getElem? (i := 2) rfl)))
  have hK : va_K (fun k => (φ k).1, fun k => (φ k).2) vwCl [(cI, .int), (cG, .object "ClosureMachine$Global")] s := by
    refine ⟨fun k q hq => hφ k q hq, fun k q hq => ?_⟩
    match k, hq with
    | 0, hq => cases hq; exact ⟨fun n z => ⟨fun k h => (by cases h), kI, i2, compI, i3⟩, i1⟩
    | 1, hq => cases hq; exact ⟨fun n z => ⟨fun k h => (by cases h), kG, g2, comp, g3⟩, kG, comp, g2, g3, g1, g4⟩
    | k + 2, hq => simp at hq
  obtain ⟨r, M', ⟨rfl, h1, h2⟩, -, -, hW⟩ := h (fun k => if k = 0 then cI else cG) (fun k => (φ k).1, fun k => (φ k).2)
  have h1 : M'.1 ≤ s.heap.size + 600000 := h1
  rw [lg_entry_eq]
  have hn : ∀ w ∈ zk_nw, va_Nw w s := by
    intro w hw
    have hb := hts w (zk_nw_in w hw)
    rcases zk_nw_is w hw with ⟨a, i, x, g, rfl⟩ | ⟨a, i, b, n, d, g, rfl⟩ | ⟨C, rfl⟩
    · exact va_Nw.of rfl hb
    · exact va_Nw.of rfl hb
    · exact va_AO.of hb
  have hV := hW p e s m #[Value.ref b] below meth c s.heap [] 0 0 600000 7302250 _ ⟨hx, hb, hr, hml, hown, hall, hlocks, fun q => absurd q (by decide), hK, Nat.le_refl _, hX, hbl, hn⟩ ⟨rfl, fun a x hx => by cases hx⟩ va_S.rf (zk_Lo_entry (as := [Value.ref b]) (n := 4) (Nat.le_of_ble_eq_true rfl) (fun v hv => by rw [List.mem_singleton.mp hv]; rfl)) (show 0 + (M'.1 - s.heap.size) ≤ 600000 by omega) (show 0 + (M'.2.1 - 0) ≤ 7302250 by omega)
  intro T hT X
  obtain ⟨t, a1, o, b1, b2, ⟨ho, -, -⟩, Lc, ⟨q1, q2, q3⟩, hfree⟩ := hV T hT X
  exact ⟨t, a1, o, b1, b2, ho, q1, q2, q3.weaken (fun y hy hlt => absurd hlt (Nat.not_lt.mpr (hfree y hy))) (Nat.le_refl _) (Nat.le_refl _)⟩
set_option maxHeartbeats 4000000 in
set_option maxRecDepth 100000 in
theorem p1_body {l : Launch} {κ : Nat → ClassId} {D : va_G} {B b : Nat} {xs : Nat → Int32} {w s a n a2 n2 : Nat} {f : Nat → Option zk_E} {gk gv gs gl : Nat → Int32} {R : Option Value → zk_M → Prop} (ha : f (a) = some (.inr (.inr (6, [.ref n, .ref (n + 7), .ref (n + 9), .ref (n + 10), .ref (n + 17), .int (-1), .int (-1), .int (-1), .int (-1)])))) (ht : f (n) = some (.inr (.inr (1, [.ref (n + 1), .ref (n + 3), .ref (n + 5), .int 0])))) (hq0 : f (n + 1) = some (.inr (.inr (0, [.int 46000, .ref (n + 2), .int 0])))) (hr0 : f (n + 2) = some (.inl (256, fun _ => 0))) (hq1 : f (n + 3) = some (.inr (.inr (0, [.int 3000, .ref (n + 4), .int 0])))) (hr1 : f (n + 4) = some (.inl (256, fun _ => 0))) (hg : f (n + 7) = some (.inr (.inr (2, [.ref (n + 8), .int 0])))) (hga : f (n + 8) = some (.inr (.inl (1, 60, fun _ => none)))) (ma : f (a2) = some (.inr (.inr (9, [.ref n2, .ref (n2 + 5), .ref (n2 + 6), .ref (n2 + 7), .int 0, .int 0, .ref (n2 + 8), .ref (n2 + 9), .ref (n2 + 10), .ref (n2 + 11), .ref (n2 + 12), .ref (n2 + 13), .ref (n2 + 14), .ref (n2 + 15), .int 0, .ref (n2 + 16), .ref (n2 + 17), .ref (n2 + 18), .ref (n2 + 19), .int 0, .int 0, .int 0, .int 0, .int 0, .int (-1), .ref (n2 + 20), .ref (n2 + 21), .ref (n2 + 22), .ref (n2 + 23), .int 0, .ref (n2 + 24), .ref (n2 + 25), .ref (n2 + 26), .int 0, .ref (n2 + 27), .ref (n2 + 28), .ref (n2 + 29), .ref (n2 + 30), .int 0, .ref (n2 + 31), .int 0, .ref (n2 + 32), .int 0, .int 0, .int 0, .int 0, .int 0, .int 0])))) (mr : f (n2) = some (.inr (.inr (8, [.ref (n2 + 1), .ref (n2 + 2), .ref (n2 + 3), .ref (n2 + 4), .int (nI 2201)])))) (mk : f (n2 + 1) = some (.inl (4096, gk))) (mv : f (n2 + 2) = some (.inl (4096, gv))) (ms : f (n2 + 3) = some (.inl (4096, gs))) (ml : f (n2 + 4) = some (.inl (4096, gl))) (m5 : f (n2 + 5) = some (.inl (3000, fun _ => 0))) (m6 : f (n2 + 6) = some (.inl (3000, fun _ => 0))) (m7 : f (n2 + 7) = some (.inl (3000, fun _ => 0))) (m8 : f (n2 + 8) = some (.inl (60, fun _ => 0))) (m10 : f (n2 + 10) = some (.inl (60, fun _ => 0))) (m12 : f (n2 + 12) = some (.inl (60, fun _ => 0))) (m13 : f (n2 + 13) = some (.inl (60, fun _ => 0))) (m14 : f (n2 + 14) = some (.inl (60, fun _ => 0))) (m15 : f (n2 + 15) = some (.inl (60, fun _ => 0))) (hlt : a < n) (hn : n + 20 ≤ a2) (hlt2 : a2 < n2) (hw : n2 + 33 ≤ w) (hR : ∀ (w2 s2 : Nat) (g : Nat → Option zk_E), w2 ≤ w + 6 → s2 ≤ s + 54 → R (some (.int 1)) (w2, s2, g)) : zk_P (l, κ, D, B, b, 5, xs) mm_law 18 [some (.ref b), some (.ref a), some (.ref a2), some (.int 0)] [] (w, s, f) R := by
  refine zk_iload_3 19 dc_CmLaw_law_18 rfl rfl ?_
  refine zk_aload_0 20 dc_CmLaw_law_19 rfl rfl ?_
  refine zk_slen 21 dc_CmLaw_law_20 rfl ?_
  refine zk_iconst (v := 5) 22 dc_CmLaw_law_21 (by decide) rfl ?_
  refine zk_isub 23 dc_CmLaw_law_22 rfl ?_
  refine zk_icmp_gt 552 26 dc_CmLaw_law_23 (by decide) rfl (fun hx => by first | exact absurd hx (show ¬ nI 5 - 5 < (0 : Int32) by decide) | exact absurd (show ¬ nI 5 - 5 < (0 : Int32) by decide) hx) (fun hx => ?_)
  refine zk_aload_0 27 dc_CmLaw_law_26 rfl rfl ?_
  refine zk_iload_3 28 dc_CmLaw_law_27 rfl rfl ?_
  refine zk_sload 29 dc_CmLaw_law_28 (show vp_in (0 : Int32) 5 by unfold vp_in; decide) rfl ?_
  refine zk_bipush (v := 15) 31 dc_CmLaw_law_29 (by decide) rfl ?_
  refine zk_iand 32 dc_CmLaw_law_31 rfl ?_
  refine zk_topi (fun y => ?_)
  by_cases t0 : y = 0
  · refine zk_tableIn 104 0 t0 dc_CmLaw_law_32 (by decide) (by decide) rfl (by decide) ?_
    refine zk_aload_1 105 dc_CmLaw_law_104 rfl rfl ?_
    refine zk_aload_0 106 dc_CmLaw_law_105 rfl rfl ?_
    refine zk_iload_3 107 dc_CmLaw_law_106 rfl rfl ?_
    refine zk_iconst (v := 1) 108 dc_CmLaw_law_107 (by decide) rfl ?_
    refine zk_iadd 109 dc_CmLaw_law_108 rfl ?_
    refine zk_sload 110 dc_CmLaw_law_109 (show vp_in ((0 : Int32) + 1) 5 by unfold vp_in; decide) rfl ?_
    refine zk_aload_0 111 dc_CmLaw_law_110 rfl rfl ?_
    refine zk_iload_3 112 dc_CmLaw_law_111 rfl rfl ?_
    refine zk_iconst (v := 2) 113 dc_CmLaw_law_112 (by decide) rfl ?_
    refine zk_iadd 114 dc_CmLaw_law_113 rfl ?_
    refine zk_sload 115 dc_CmLaw_law_114 (show vp_in ((0 : Int32) + 2) 5 by unfold vp_in; decide) rfl ?_
    refine zk_aload_0 116 dc_CmLaw_law_115 rfl rfl ?_
    refine zk_iload_3 117 dc_CmLaw_law_116 rfl rfl ?_
    refine zk_iconst (v := 3) 118 dc_CmLaw_law_117 (by decide) rfl ?_
    refine zk_iadd 119 dc_CmLaw_law_118 rfl ?_
    refine zk_sload 120 dc_CmLaw_law_119 (show vp_in ((0 : Int32) + 3) 5 by unfold vp_in; decide) rfl ?_
    refine zk_cVr 123 (f_leaf ha ht hq0 hr0 hq1 hr1 hg hga hlt (by omega)) dc_CmLaw_law_120 ok_Cm_leaf lk_CmLaw_13 ha rfl rfl rfl ⟨Nat.le_of_ble_eq_true rfl, Nat.le_of_ble_eq_true rfl⟩ (Nat.le_of_ble_eq_true rfl) rfl (fun v M1 hk => ?_)
    obtain ⟨rfl, w2, s2, g, rfl, hw2, hs2, p⟩ := hk
    have ma := (p (a2) (by omega) (by omega) ).trans ma
    have mr := (p (n2) (by omega) (by omega) ).trans mr
    have mk := (p (n2 + 1) (by omega) (by omega) ).trans mk
    have mv := (p (n2 + 2) (by omega) (by omega) ).trans mv
    have ms := (p (n2 + 3) (by omega) (by omega) ).trans ms
    have ml := (p (n2 + 4) (by omega) (by omega) ).trans ml
    have m5 := (p (n2 + 5) (by omega) (by omega) ).trans m5
    have m6 := (p (n2 + 6) (by omega) (by omega) ).trans m6
    have m7 := (p (n2 + 7) (by omega) (by omega) ).trans m7
    have m8 := (p (n2 + 8) (by omega) (by omega) ).trans m8
    have m10 := (p (n2 + 10) (by omega) (by omega) ).trans m10
    have m12 := (p (n2 + 12) (by omega) (by omega) ).trans m12
    have m13 := (p (n2 + 13) (by omega) (by omega) ).trans m13
    have m14 := (p (n2 + 14) (by omega) (by omega) ).trans m14
    have m15 := (p (n2 + 15) (by omega) (by omega) ).trans m15
    refine zk_aload_2 124 dc_CmLaw_law_123 rfl rfl ?_
    refine zk_aload_0 125 dc_CmLaw_law_124 rfl rfl ?_
    refine zk_iload_3 126 dc_CmLaw_law_125 rfl rfl ?_
    refine zk_iconst (v := 1) 127 dc_CmLaw_law_126 (by decide) rfl ?_
    refine zk_iadd 128 dc_CmLaw_law_127 rfl ?_
    refine zk_sload 129 dc_CmLaw_law_128 (show vp_in ((0 : Int32) + 1) 5 by unfold vp_in; decide) rfl ?_
    refine zk_aload_0 130 dc_CmLaw_law_129 rfl rfl ?_
    refine zk_iload_3 131 dc_CmLaw_law_130 rfl rfl ?_
    refine zk_iconst (v := 2) 132 dc_CmLaw_law_131 (by decide) rfl ?_
    refine zk_iadd 133 dc_CmLaw_law_132 rfl ?_
    refine zk_sload 134 dc_CmLaw_law_133 (show vp_in ((0 : Int32) + 2) 5 by unfold vp_in; decide) rfl ?_
    refine zk_aload_0 135 dc_CmLaw_law_134 rfl rfl ?_
    refine zk_iload_3 136 dc_CmLaw_law_135 rfl rfl ?_
    refine zk_iconst (v := 3) 137 dc_CmLaw_law_136 (by decide) rfl ?_
    refine zk_iadd 138 dc_CmLaw_law_137 rfl ?_
    refine zk_sload 139 dc_CmLaw_law_138 (show vp_in ((0 : Int32) + 3) 5 by unfold vp_in; decide) rfl ?_
    refine zk_cVr 142 (r_leaf ma mr mk mv ms ml m5 m6 m7 hlt2) dc_CmLaw_law_139 ok_Mo_leaf lk_CmLaw_17 ma rfl rfl rfl ⟨Nat.le_of_ble_eq_true rfl, Nat.le_of_ble_eq_true rfl⟩ (Nat.le_of_ble_eq_true rfl) rfl (fun v M1 hk => ?_)
    obtain ⟨rfl, g2, rfl⟩ := hk
    refine zk_icmp_eq 546 145 dc_CmLaw_law_142 (by decide) rfl (fun hx => ?_) (fun hx => by first | exact absurd hx rfl | exact absurd rfl hx)
    refine zk_iinc_3 (v := 5) 549 dc_CmLaw_law_546 (by decide) (Nat.le_of_ble_eq_true rfl) rfl ?_
    refine zk_goto 18 dc_CmLaw_law_549 (by decide) ?_
    refine zk_iload_3 19 dc_CmLaw_law_18 rfl rfl ?_
    refine zk_aload_0 20 dc_CmLaw_law_19 rfl rfl ?_
    refine zk_slen 21 dc_CmLaw_law_20 rfl ?_
    refine zk_iconst (v := 5) 22 dc_CmLaw_law_21 (by decide) rfl ?_
    refine zk_isub 23 dc_CmLaw_law_22 rfl ?_
    refine zk_icmp_gt 552 26 dc_CmLaw_law_23 (by decide) rfl (fun hx => ?_) (fun hx => by first | exact absurd hx (show nI 5 - 5 < (0 : Int32) + 5 by decide) | exact absurd (show nI 5 - 5 < (0 : Int32) + 5 by decide) hx)
    refine zk_iconst (v := 1) 553 dc_CmLaw_law_552 (by decide) rfl ?_
    exact zk_ireturn dc_CmLaw_law_553 rfl rfl (hR _ _ _ (by omega) (by omega))
  by_cases t1 : y = 1
  · refine zk_tableIn 147 1 t1 dc_CmLaw_law_32 (by decide) (by decide) rfl (by decide) ?_
    refine zk_aload_1 148 dc_CmLaw_law_147 rfl rfl ?_
    refine zk_aload_0 149 dc_CmLaw_law_148 rfl rfl ?_
    refine zk_iload_3 150 dc_CmLaw_law_149 rfl rfl ?_
    refine zk_iconst (v := 1) 151 dc_CmLaw_law_150 (by decide) rfl ?_
    refine zk_iadd 152 dc_CmLaw_law_151 rfl ?_
    refine zk_sload 153 dc_CmLaw_law_152 (show vp_in ((0 : Int32) + 1) 5 by unfold vp_in; decide) rfl ?_
    refine zk_aload_0 154 dc_CmLaw_law_153 rfl rfl ?_
    refine zk_iload_3 155 dc_CmLaw_law_154 rfl rfl ?_
    refine zk_iconst (v := 2) 156 dc_CmLaw_law_155 (by decide) rfl ?_
    refine zk_iadd 157 dc_CmLaw_law_156 rfl ?_
    refine zk_sload 158 dc_CmLaw_law_157 (show vp_in ((0 : Int32) + 2) 5 by unfold vp_in; decide) rfl ?_
    refine zk_aload_0 159 dc_CmLaw_law_158 rfl rfl ?_
    refine zk_iload_3 160 dc_CmLaw_law_159 rfl rfl ?_
    refine zk_iconst (v := 3) 161 dc_CmLaw_law_160 (by decide) rfl ?_
    refine zk_iadd 162 dc_CmLaw_law_161 rfl ?_
    refine zk_sload 163 dc_CmLaw_law_162 (show vp_in ((0 : Int32) + 3) 5 by unfold vp_in; decide) rfl ?_
    refine zk_cVr 166 (f_join ha ht hq0 hr0 hq1 hr1 hg hga hlt (by omega)) dc_CmLaw_law_163 ok_Cm_join lk_CmLaw_18 ha rfl rfl rfl ⟨Nat.le_of_ble_eq_true rfl, Nat.le_of_ble_eq_true rfl⟩ (Nat.le_of_ble_eq_true rfl) rfl (fun v M1 hk => ?_)
    obtain ⟨rfl, w2, s2, g, rfl, hw2, hs2, p⟩ := hk
    have ma := (p (a2) (by omega) (by omega) ).trans ma
    have mr := (p (n2) (by omega) (by omega) ).trans mr
    have mk := (p (n2 + 1) (by omega) (by omega) ).trans mk
    have mv := (p (n2 + 2) (by omega) (by omega) ).trans mv
    have ms := (p (n2 + 3) (by omega) (by omega) ).trans ms
    have ml := (p (n2 + 4) (by omega) (by omega) ).trans ml
    have m5 := (p (n2 + 5) (by omega) (by omega) ).trans m5
    have m6 := (p (n2 + 6) (by omega) (by omega) ).trans m6
    have m7 := (p (n2 + 7) (by omega) (by omega) ).trans m7
    have m8 := (p (n2 + 8) (by omega) (by omega) ).trans m8
    have m10 := (p (n2 + 10) (by omega) (by omega) ).trans m10
    have m12 := (p (n2 + 12) (by omega) (by omega) ).trans m12
    have m13 := (p (n2 + 13) (by omega) (by omega) ).trans m13
    have m14 := (p (n2 + 14) (by omega) (by omega) ).trans m14
    have m15 := (p (n2 + 15) (by omega) (by omega) ).trans m15
    refine zk_aload_2 167 dc_CmLaw_law_166 rfl rfl ?_
    refine zk_aload_0 168 dc_CmLaw_law_167 rfl rfl ?_
    refine zk_iload_3 169 dc_CmLaw_law_168 rfl rfl ?_
    refine zk_iconst (v := 1) 170 dc_CmLaw_law_169 (by decide) rfl ?_
    refine zk_iadd 171 dc_CmLaw_law_170 rfl ?_
    refine zk_sload 172 dc_CmLaw_law_171 (show vp_in ((0 : Int32) + 1) 5 by unfold vp_in; decide) rfl ?_
    refine zk_aload_0 173 dc_CmLaw_law_172 rfl rfl ?_
    refine zk_iload_3 174 dc_CmLaw_law_173 rfl rfl ?_
    refine zk_iconst (v := 2) 175 dc_CmLaw_law_174 (by decide) rfl ?_
    refine zk_iadd 176 dc_CmLaw_law_175 rfl ?_
    refine zk_sload 177 dc_CmLaw_law_176 (show vp_in ((0 : Int32) + 2) 5 by unfold vp_in; decide) rfl ?_
    refine zk_aload_0 178 dc_CmLaw_law_177 rfl rfl ?_
    refine zk_iload_3 179 dc_CmLaw_law_178 rfl rfl ?_
    refine zk_iconst (v := 3) 180 dc_CmLaw_law_179 (by decide) rfl ?_
    refine zk_iadd 181 dc_CmLaw_law_180 rfl ?_
    refine zk_sload 182 dc_CmLaw_law_181 (show vp_in ((0 : Int32) + 3) 5 by unfold vp_in; decide) rfl ?_
    refine zk_cVr 185 (r_join ma ) dc_CmLaw_law_182 ok_Mo_join lk_CmLaw_21 ma rfl rfl rfl ⟨Nat.le_of_ble_eq_true rfl, Nat.le_of_ble_eq_true rfl⟩ (Nat.le_of_ble_eq_true rfl) rfl (fun v M1 hk => ?_)
    obtain ⟨rfl, g2, rfl⟩ := hk
    refine zk_icmp_eq 546 188 dc_CmLaw_law_185 (by decide) rfl (fun hx => ?_) (fun hx => by first | exact absurd hx rfl | exact absurd rfl hx)
    refine zk_iinc_3 (v := 5) 549 dc_CmLaw_law_546 (by decide) (Nat.le_of_ble_eq_true rfl) rfl ?_
    refine zk_goto 18 dc_CmLaw_law_549 (by decide) ?_
    refine zk_iload_3 19 dc_CmLaw_law_18 rfl rfl ?_
    refine zk_aload_0 20 dc_CmLaw_law_19 rfl rfl ?_
    refine zk_slen 21 dc_CmLaw_law_20 rfl ?_
    refine zk_iconst (v := 5) 22 dc_CmLaw_law_21 (by decide) rfl ?_
    refine zk_isub 23 dc_CmLaw_law_22 rfl ?_
    refine zk_icmp_gt 552 26 dc_CmLaw_law_23 (by decide) rfl (fun hx => ?_) (fun hx => by first | exact absurd hx (show nI 5 - 5 < (0 : Int32) + 5 by decide) | exact absurd (show nI 5 - 5 < (0 : Int32) + 5 by decide) hx)
    refine zk_iconst (v := 1) 553 dc_CmLaw_law_552 (by decide) rfl ?_
    exact zk_ireturn dc_CmLaw_law_553 rfl rfl (hR _ _ _ (by omega) (by omega))
  by_cases t2 : y = 2
  · refine zk_tableIn 190 2 t2 dc_CmLaw_law_32 (by decide) (by decide) rfl (by decide) ?_
    refine zk_aload_1 191 dc_CmLaw_law_190 rfl rfl ?_
    refine zk_aload_0 192 dc_CmLaw_law_191 rfl rfl ?_
    refine zk_iload_3 193 dc_CmLaw_law_192 rfl rfl ?_
    refine zk_iconst (v := 1) 194 dc_CmLaw_law_193 (by decide) rfl ?_
    refine zk_iadd 195 dc_CmLaw_law_194 rfl ?_
    refine zk_sload 196 dc_CmLaw_law_195 (show vp_in ((0 : Int32) + 1) 5 by unfold vp_in; decide) rfl ?_
    refine zk_aload_0 197 dc_CmLaw_law_196 rfl rfl ?_
    refine zk_iload_3 198 dc_CmLaw_law_197 rfl rfl ?_
    refine zk_iconst (v := 2) 199 dc_CmLaw_law_198 (by decide) rfl ?_
    refine zk_iadd 200 dc_CmLaw_law_199 rfl ?_
    refine zk_sload 201 dc_CmLaw_law_200 (show vp_in ((0 : Int32) + 2) 5 by unfold vp_in; decide) rfl ?_
    refine zk_aload_0 202 dc_CmLaw_law_201 rfl rfl ?_
    refine zk_iload_3 203 dc_CmLaw_law_202 rfl rfl ?_
    refine zk_iconst (v := 3) 204 dc_CmLaw_law_203 (by decide) rfl ?_
    refine zk_iadd 205 dc_CmLaw_law_204 rfl ?_
    refine zk_sload 206 dc_CmLaw_law_205 (show vp_in ((0 : Int32) + 3) 5 by unfold vp_in; decide) rfl ?_
    refine zk_aload_0 207 dc_CmLaw_law_206 rfl rfl ?_
    refine zk_iload_3 208 dc_CmLaw_law_207 rfl rfl ?_
    refine zk_iconst (v := 4) 209 dc_CmLaw_law_208 (by decide) rfl ?_
    refine zk_iadd 210 dc_CmLaw_law_209 rfl ?_
    refine zk_sload 211 dc_CmLaw_law_210 (show vp_in ((0 : Int32) + 4) 5 by unfold vp_in; decide) rfl ?_
    refine zk_cVr 214 (f_binder ha ht hq0 hr0 hq1 hr1 hg hga hlt (by omega)) dc_CmLaw_law_211 ok_Cm_binder lk_CmLaw_22 ha rfl rfl rfl ⟨Nat.le_of_ble_eq_true rfl, Nat.le_of_ble_eq_true rfl⟩ (Nat.le_of_ble_eq_true rfl) rfl (fun v M1 hk => ?_)
    obtain ⟨rfl, w2, s2, g, rfl, hw2, hs2, p⟩ := hk
    have ma := (p (a2) (by omega) (by omega) ).trans ma
    have mr := (p (n2) (by omega) (by omega) ).trans mr
    have mk := (p (n2 + 1) (by omega) (by omega) ).trans mk
    have mv := (p (n2 + 2) (by omega) (by omega) ).trans mv
    have ms := (p (n2 + 3) (by omega) (by omega) ).trans ms
    have ml := (p (n2 + 4) (by omega) (by omega) ).trans ml
    have m5 := (p (n2 + 5) (by omega) (by omega) ).trans m5
    have m6 := (p (n2 + 6) (by omega) (by omega) ).trans m6
    have m7 := (p (n2 + 7) (by omega) (by omega) ).trans m7
    have m8 := (p (n2 + 8) (by omega) (by omega) ).trans m8
    have m10 := (p (n2 + 10) (by omega) (by omega) ).trans m10
    have m12 := (p (n2 + 12) (by omega) (by omega) ).trans m12
    have m13 := (p (n2 + 13) (by omega) (by omega) ).trans m13
    have m14 := (p (n2 + 14) (by omega) (by omega) ).trans m14
    have m15 := (p (n2 + 15) (by omega) (by omega) ).trans m15
    refine zk_aload_2 215 dc_CmLaw_law_214 rfl rfl ?_
    refine zk_aload_0 216 dc_CmLaw_law_215 rfl rfl ?_
    refine zk_iload_3 217 dc_CmLaw_law_216 rfl rfl ?_
    refine zk_iconst (v := 1) 218 dc_CmLaw_law_217 (by decide) rfl ?_
    refine zk_iadd 219 dc_CmLaw_law_218 rfl ?_
    refine zk_sload 220 dc_CmLaw_law_219 (show vp_in ((0 : Int32) + 1) 5 by unfold vp_in; decide) rfl ?_
    refine zk_aload_0 221 dc_CmLaw_law_220 rfl rfl ?_
    refine zk_iload_3 222 dc_CmLaw_law_221 rfl rfl ?_
    refine zk_iconst (v := 2) 223 dc_CmLaw_law_222 (by decide) rfl ?_
    refine zk_iadd 224 dc_CmLaw_law_223 rfl ?_
    refine zk_sload 225 dc_CmLaw_law_224 (show vp_in ((0 : Int32) + 2) 5 by unfold vp_in; decide) rfl ?_
    refine zk_aload_0 226 dc_CmLaw_law_225 rfl rfl ?_
    refine zk_iload_3 227 dc_CmLaw_law_226 rfl rfl ?_
    refine zk_iconst (v := 3) 228 dc_CmLaw_law_227 (by decide) rfl ?_
    refine zk_iadd 229 dc_CmLaw_law_228 rfl ?_
    refine zk_sload 230 dc_CmLaw_law_229 (show vp_in ((0 : Int32) + 3) 5 by unfold vp_in; decide) rfl ?_
    refine zk_aload_0 231 dc_CmLaw_law_230 rfl rfl ?_
    refine zk_iload_3 232 dc_CmLaw_law_231 rfl rfl ?_
    refine zk_iconst (v := 4) 233 dc_CmLaw_law_232 (by decide) rfl ?_
    refine zk_iadd 234 dc_CmLaw_law_233 rfl ?_
    refine zk_sload 235 dc_CmLaw_law_234 (show vp_in ((0 : Int32) + 4) 5 by unfold vp_in; decide) rfl ?_
    refine zk_cVr 238 (r_binder ma ) dc_CmLaw_law_235 ok_Mo_binder lk_CmLaw_26 ma rfl rfl rfl ⟨Nat.le_of_ble_eq_true rfl, Nat.le_of_ble_eq_true rfl⟩ (Nat.le_of_ble_eq_true rfl) rfl (fun v M1 hk => ?_)
    obtain ⟨rfl, g2, rfl⟩ := hk
    refine zk_icmp_eq 546 241 dc_CmLaw_law_238 (by decide) rfl (fun hx => ?_) (fun hx => by first | exact absurd hx rfl | exact absurd rfl hx)
    refine zk_iinc_3 (v := 5) 549 dc_CmLaw_law_546 (by decide) (Nat.le_of_ble_eq_true rfl) rfl ?_
    refine zk_goto 18 dc_CmLaw_law_549 (by decide) ?_
    refine zk_iload_3 19 dc_CmLaw_law_18 rfl rfl ?_
    refine zk_aload_0 20 dc_CmLaw_law_19 rfl rfl ?_
    refine zk_slen 21 dc_CmLaw_law_20 rfl ?_
    refine zk_iconst (v := 5) 22 dc_CmLaw_law_21 (by decide) rfl ?_
    refine zk_isub 23 dc_CmLaw_law_22 rfl ?_
    refine zk_icmp_gt 552 26 dc_CmLaw_law_23 (by decide) rfl (fun hx => ?_) (fun hx => by first | exact absurd hx (show nI 5 - 5 < (0 : Int32) + 5 by decide) | exact absurd (show nI 5 - 5 < (0 : Int32) + 5 by decide) hx)
    refine zk_iconst (v := 1) 553 dc_CmLaw_law_552 (by decide) rfl ?_
    exact zk_ireturn dc_CmLaw_law_553 rfl rfl (hR _ _ _ (by omega) (by omega))
  by_cases t3 : y = 3
  · refine zk_tableIn 243 3 t3 dc_CmLaw_law_32 (by decide) (by decide) rfl (by decide) ?_
    refine zk_aload_1 244 dc_CmLaw_law_243 rfl rfl ?_
    refine zk_aload_0 245 dc_CmLaw_law_244 rfl rfl ?_
    refine zk_iload_3 246 dc_CmLaw_law_245 rfl rfl ?_
    refine zk_iconst (v := 1) 247 dc_CmLaw_law_246 (by decide) rfl ?_
    refine zk_iadd 248 dc_CmLaw_law_247 rfl ?_
    refine zk_sload 249 dc_CmLaw_law_248 (show vp_in ((0 : Int32) + 1) 5 by unfold vp_in; decide) rfl ?_
    refine zk_aload_0 250 dc_CmLaw_law_249 rfl rfl ?_
    refine zk_iload_3 251 dc_CmLaw_law_250 rfl rfl ?_
    refine zk_iconst (v := 2) 252 dc_CmLaw_law_251 (by decide) rfl ?_
    refine zk_iadd 253 dc_CmLaw_law_252 rfl ?_
    refine zk_sload 254 dc_CmLaw_law_253 (show vp_in ((0 : Int32) + 2) 5 by unfold vp_in; decide) rfl ?_
    refine zk_cVr 257 (f_lift ha ht hq0 hr0 hq1 hr1 hg hga hlt (by omega)) dc_CmLaw_law_254 ok_Cm_lift lk_CmLaw_27 ha rfl rfl rfl ⟨Nat.le_of_ble_eq_true rfl, Nat.le_of_ble_eq_true rfl⟩ (Nat.le_of_ble_eq_true rfl) rfl (fun v M1 hk => ?_)
    obtain ⟨rfl, w2, s2, g, rfl, hw2, hs2, p⟩ := hk
    have ma := (p (a2) (by omega) (by omega) ).trans ma
    have mr := (p (n2) (by omega) (by omega) ).trans mr
    have mk := (p (n2 + 1) (by omega) (by omega) ).trans mk
    have mv := (p (n2 + 2) (by omega) (by omega) ).trans mv
    have ms := (p (n2 + 3) (by omega) (by omega) ).trans ms
    have ml := (p (n2 + 4) (by omega) (by omega) ).trans ml
    have m5 := (p (n2 + 5) (by omega) (by omega) ).trans m5
    have m6 := (p (n2 + 6) (by omega) (by omega) ).trans m6
    have m7 := (p (n2 + 7) (by omega) (by omega) ).trans m7
    have m8 := (p (n2 + 8) (by omega) (by omega) ).trans m8
    have m10 := (p (n2 + 10) (by omega) (by omega) ).trans m10
    have m12 := (p (n2 + 12) (by omega) (by omega) ).trans m12
    have m13 := (p (n2 + 13) (by omega) (by omega) ).trans m13
    have m14 := (p (n2 + 14) (by omega) (by omega) ).trans m14
    have m15 := (p (n2 + 15) (by omega) (by omega) ).trans m15
    refine zk_aload_2 258 dc_CmLaw_law_257 rfl rfl ?_
    refine zk_aload_0 259 dc_CmLaw_law_258 rfl rfl ?_
    refine zk_iload_3 260 dc_CmLaw_law_259 rfl rfl ?_
    refine zk_iconst (v := 1) 261 dc_CmLaw_law_260 (by decide) rfl ?_
    refine zk_iadd 262 dc_CmLaw_law_261 rfl ?_
    refine zk_sload 263 dc_CmLaw_law_262 (show vp_in ((0 : Int32) + 1) 5 by unfold vp_in; decide) rfl ?_
    refine zk_aload_0 264 dc_CmLaw_law_263 rfl rfl ?_
    refine zk_iload_3 265 dc_CmLaw_law_264 rfl rfl ?_
    refine zk_iconst (v := 2) 266 dc_CmLaw_law_265 (by decide) rfl ?_
    refine zk_iadd 267 dc_CmLaw_law_266 rfl ?_
    refine zk_sload 268 dc_CmLaw_law_267 (show vp_in ((0 : Int32) + 2) 5 by unfold vp_in; decide) rfl ?_
    refine zk_cVr 271 (r_lift ma ) dc_CmLaw_law_268 ok_Mo_lift lk_CmLaw_31 ma rfl rfl rfl ⟨Nat.le_of_ble_eq_true rfl, Nat.le_of_ble_eq_true rfl⟩ (Nat.le_of_ble_eq_true rfl) rfl (fun v M1 hk => ?_)
    obtain ⟨rfl, g2, rfl⟩ := hk
    refine zk_icmp_eq 546 274 dc_CmLaw_law_271 (by decide) rfl (fun hx => ?_) (fun hx => by first | exact absurd hx rfl | exact absurd rfl hx)
    refine zk_iinc_3 (v := 5) 549 dc_CmLaw_law_546 (by decide) (Nat.le_of_ble_eq_true rfl) rfl ?_
    refine zk_goto 18 dc_CmLaw_law_549 (by decide) ?_
    refine zk_iload_3 19 dc_CmLaw_law_18 rfl rfl ?_
    refine zk_aload_0 20 dc_CmLaw_law_19 rfl rfl ?_
    refine zk_slen 21 dc_CmLaw_law_20 rfl ?_
    refine zk_iconst (v := 5) 22 dc_CmLaw_law_21 (by decide) rfl ?_
    refine zk_isub 23 dc_CmLaw_law_22 rfl ?_
    refine zk_icmp_gt 552 26 dc_CmLaw_law_23 (by decide) rfl (fun hx => ?_) (fun hx => by first | exact absurd hx (show nI 5 - 5 < (0 : Int32) + 5 by decide) | exact absurd (show nI 5 - 5 < (0 : Int32) + 5 by decide) hx)
    refine zk_iconst (v := 1) 553 dc_CmLaw_law_552 (by decide) rfl ?_
    exact zk_ireturn dc_CmLaw_law_553 rfl rfl (hR _ _ _ (by omega) (by omega))
  by_cases t4 : y = 4
  · refine zk_tableIn 276 4 t4 dc_CmLaw_law_32 (by decide) (by decide) rfl (by decide) ?_
    refine zk_aload_1 277 dc_CmLaw_law_276 rfl rfl ?_
    refine zk_cVr 280 (f_axiom ha ht hq0 hr0 hq1 hr1 hg hga hlt (by omega)) dc_CmLaw_law_277 ok_Cm_axiom lk_CmLaw_32 ha rfl rfl rfl ⟨Nat.le_of_ble_eq_true rfl, Nat.le_of_ble_eq_true rfl⟩ (Nat.le_of_ble_eq_true rfl) rfl (fun v M1 hk => ?_)
    obtain ⟨rfl, w2, s2, g, rfl, hw2, hs2, p⟩ := hk
    have ma := (p (a2) (by omega) (by omega) ).trans ma
    have mr := (p (n2) (by omega) (by omega) ).trans mr
    have mk := (p (n2 + 1) (by omega) (by omega) ).trans mk
    have mv := (p (n2 + 2) (by omega) (by omega) ).trans mv
    have ms := (p (n2 + 3) (by omega) (by omega) ).trans ms
    have ml := (p (n2 + 4) (by omega) (by omega) ).trans ml
    have m5 := (p (n2 + 5) (by omega) (by omega) ).trans m5
    have m6 := (p (n2 + 6) (by omega) (by omega) ).trans m6
    have m7 := (p (n2 + 7) (by omega) (by omega) ).trans m7
    have m8 := (p (n2 + 8) (by omega) (by omega) ).trans m8
    have m10 := (p (n2 + 10) (by omega) (by omega) ).trans m10
    have m12 := (p (n2 + 12) (by omega) (by omega) ).trans m12
    have m13 := (p (n2 + 13) (by omega) (by omega) ).trans m13
    have m14 := (p (n2 + 14) (by omega) (by omega) ).trans m14
    have m15 := (p (n2 + 15) (by omega) (by omega) ).trans m15
    refine zk_aload_2 281 dc_CmLaw_law_280 rfl rfl ?_
    refine zk_cVr 284 (r_axiom ma m8 m10 hlt2) dc_CmLaw_law_281 ok_Mo_axiom lk_CmLaw_36 ma rfl rfl rfl ⟨Nat.le_of_ble_eq_true rfl, Nat.le_of_ble_eq_true rfl⟩ (Nat.le_of_ble_eq_true rfl) rfl (fun v M1 hk => ?_)
    obtain ⟨rfl, g2, rfl⟩ := hk
    refine zk_icmp_eq 546 287 dc_CmLaw_law_284 (by decide) rfl (fun hx => ?_) (fun hx => by first | exact absurd hx rfl | exact absurd rfl hx)
    refine zk_iinc_3 (v := 5) 549 dc_CmLaw_law_546 (by decide) (Nat.le_of_ble_eq_true rfl) rfl ?_
    refine zk_goto 18 dc_CmLaw_law_549 (by decide) ?_
    refine zk_iload_3 19 dc_CmLaw_law_18 rfl rfl ?_
    refine zk_aload_0 20 dc_CmLaw_law_19 rfl rfl ?_
    refine zk_slen 21 dc_CmLaw_law_20 rfl ?_
    refine zk_iconst (v := 5) 22 dc_CmLaw_law_21 (by decide) rfl ?_
    refine zk_isub 23 dc_CmLaw_law_22 rfl ?_
    refine zk_icmp_gt 552 26 dc_CmLaw_law_23 (by decide) rfl (fun hx => ?_) (fun hx => by first | exact absurd hx (show nI 5 - 5 < (0 : Int32) + 5 by decide) | exact absurd (show nI 5 - 5 < (0 : Int32) + 5 by decide) hx)
    refine zk_iconst (v := 1) 553 dc_CmLaw_law_552 (by decide) rfl ?_
    exact zk_ireturn dc_CmLaw_law_553 rfl rfl (hR _ _ _ (by omega) (by omega))
  by_cases t5 : y = 5
  · refine zk_tableIn 289 5 t5 dc_CmLaw_law_32 (by decide) (by decide) rfl (by decide) ?_
    refine zk_aload_1 290 dc_CmLaw_law_289 rfl rfl ?_
    refine zk_aload_0 291 dc_CmLaw_law_290 rfl rfl ?_
    refine zk_iload_3 292 dc_CmLaw_law_291 rfl rfl ?_
    refine zk_iconst (v := 1) 293 dc_CmLaw_law_292 (by decide) rfl ?_
    refine zk_iadd 294 dc_CmLaw_law_293 rfl ?_
    refine zk_sload 295 dc_CmLaw_law_294 (show vp_in ((0 : Int32) + 1) 5 by unfold vp_in; decide) rfl ?_
    refine zk_cVr 298 (f_def ha ht hq0 hr0 hq1 hr1 hg hga hlt (by omega)) dc_CmLaw_law_295 ok_Cm_def lk_CmLaw_37 ha rfl rfl rfl ⟨Nat.le_of_ble_eq_true rfl, Nat.le_of_ble_eq_true rfl⟩ (Nat.le_of_ble_eq_true rfl) rfl (fun v M1 hk => ?_)
    obtain ⟨rfl, w2, s2, g, rfl, hw2, hs2, p⟩ := hk
    have ma := (p (a2) (by omega) (by omega) ).trans ma
    have mr := (p (n2) (by omega) (by omega) ).trans mr
    have mk := (p (n2 + 1) (by omega) (by omega) ).trans mk
    have mv := (p (n2 + 2) (by omega) (by omega) ).trans mv
    have ms := (p (n2 + 3) (by omega) (by omega) ).trans ms
    have ml := (p (n2 + 4) (by omega) (by omega) ).trans ml
    have m5 := (p (n2 + 5) (by omega) (by omega) ).trans m5
    have m6 := (p (n2 + 6) (by omega) (by omega) ).trans m6
    have m7 := (p (n2 + 7) (by omega) (by omega) ).trans m7
    have m8 := (p (n2 + 8) (by omega) (by omega) ).trans m8
    have m10 := (p (n2 + 10) (by omega) (by omega) ).trans m10
    have m12 := (p (n2 + 12) (by omega) (by omega) ).trans m12
    have m13 := (p (n2 + 13) (by omega) (by omega) ).trans m13
    have m14 := (p (n2 + 14) (by omega) (by omega) ).trans m14
    have m15 := (p (n2 + 15) (by omega) (by omega) ).trans m15
    refine zk_aload_2 299 dc_CmLaw_law_298 rfl rfl ?_
    refine zk_aload_0 300 dc_CmLaw_law_299 rfl rfl ?_
    refine zk_iload_3 301 dc_CmLaw_law_300 rfl rfl ?_
    refine zk_iconst (v := 1) 302 dc_CmLaw_law_301 (by decide) rfl ?_
    refine zk_iadd 303 dc_CmLaw_law_302 rfl ?_
    refine zk_sload 304 dc_CmLaw_law_303 (show vp_in ((0 : Int32) + 1) 5 by unfold vp_in; decide) rfl ?_
    refine zk_cVr 307 (r_def ma ) dc_CmLaw_law_304 ok_Mo_def lk_CmLaw_41 ma rfl rfl rfl ⟨Nat.le_of_ble_eq_true rfl, Nat.le_of_ble_eq_true rfl⟩ (Nat.le_of_ble_eq_true rfl) rfl (fun v M1 hk => ?_)
    obtain ⟨rfl, g2, rfl⟩ := hk
    refine zk_icmp_eq 546 310 dc_CmLaw_law_307 (by decide) rfl (fun hx => ?_) (fun hx => by first | exact absurd hx rfl | exact absurd rfl hx)
    refine zk_iinc_3 (v := 5) 549 dc_CmLaw_law_546 (by decide) (Nat.le_of_ble_eq_true rfl) rfl ?_
    refine zk_goto 18 dc_CmLaw_law_549 (by decide) ?_
    refine zk_iload_3 19 dc_CmLaw_law_18 rfl rfl ?_
    refine zk_aload_0 20 dc_CmLaw_law_19 rfl rfl ?_
    refine zk_slen 21 dc_CmLaw_law_20 rfl ?_
    refine zk_iconst (v := 5) 22 dc_CmLaw_law_21 (by decide) rfl ?_
    refine zk_isub 23 dc_CmLaw_law_22 rfl ?_
    refine zk_icmp_gt 552 26 dc_CmLaw_law_23 (by decide) rfl (fun hx => ?_) (fun hx => by first | exact absurd hx (show nI 5 - 5 < (0 : Int32) + 5 by decide) | exact absurd (show nI 5 - 5 < (0 : Int32) + 5 by decide) hx)
    refine zk_iconst (v := 1) 553 dc_CmLaw_law_552 (by decide) rfl ?_
    exact zk_ireturn dc_CmLaw_law_553 rfl rfl (hR _ _ _ (by omega) (by omega))
  by_cases t6 : y = 6
  · refine zk_tableIn 312 6 t6 dc_CmLaw_law_32 (by decide) (by decide) rfl (by decide) ?_
    refine zk_aload_1 313 dc_CmLaw_law_312 rfl rfl ?_
    refine zk_aload_0 314 dc_CmLaw_law_313 rfl rfl ?_
    refine zk_iload_3 315 dc_CmLaw_law_314 rfl rfl ?_
    refine zk_iconst (v := 1) 316 dc_CmLaw_law_315 (by decide) rfl ?_
    refine zk_iadd 317 dc_CmLaw_law_316 rfl ?_
    refine zk_sload 318 dc_CmLaw_law_317 (show vp_in ((0 : Int32) + 1) 5 by unfold vp_in; decide) rfl ?_
    refine zk_aload_0 319 dc_CmLaw_law_318 rfl rfl ?_
    refine zk_iload_3 320 dc_CmLaw_law_319 rfl rfl ?_
    refine zk_iconst (v := 2) 321 dc_CmLaw_law_320 (by decide) rfl ?_
    refine zk_iadd 322 dc_CmLaw_law_321 rfl ?_
    refine zk_sload 323 dc_CmLaw_law_322 (show vp_in ((0 : Int32) + 2) 5 by unfold vp_in; decide) rfl ?_
    refine zk_aload_0 324 dc_CmLaw_law_323 rfl rfl ?_
    refine zk_iload_3 325 dc_CmLaw_law_324 rfl rfl ?_
    refine zk_iconst (v := 3) 326 dc_CmLaw_law_325 (by decide) rfl ?_
    refine zk_iadd 327 dc_CmLaw_law_326 rfl ?_
    refine zk_sload 328 dc_CmLaw_law_327 (show vp_in ((0 : Int32) + 3) 5 by unfold vp_in; decide) rfl ?_
    refine zk_cVr 331 (f_family ha ht hq0 hr0 hq1 hr1 hg hga hlt (by omega)) dc_CmLaw_law_328 ok_Cm_family lk_CmLaw_42 ha rfl rfl rfl ⟨Nat.le_of_ble_eq_true rfl, Nat.le_of_ble_eq_true rfl⟩ (Nat.le_of_ble_eq_true rfl) rfl (fun v M1 hk => ?_)
    obtain ⟨rfl, w2, s2, g, rfl, hw2, hs2, p⟩ := hk
    have ma := (p (a2) (by omega) (by omega) ).trans ma
    have mr := (p (n2) (by omega) (by omega) ).trans mr
    have mk := (p (n2 + 1) (by omega) (by omega) ).trans mk
    have mv := (p (n2 + 2) (by omega) (by omega) ).trans mv
    have ms := (p (n2 + 3) (by omega) (by omega) ).trans ms
    have ml := (p (n2 + 4) (by omega) (by omega) ).trans ml
    have m5 := (p (n2 + 5) (by omega) (by omega) ).trans m5
    have m6 := (p (n2 + 6) (by omega) (by omega) ).trans m6
    have m7 := (p (n2 + 7) (by omega) (by omega) ).trans m7
    have m8 := (p (n2 + 8) (by omega) (by omega) ).trans m8
    have m10 := (p (n2 + 10) (by omega) (by omega) ).trans m10
    have m12 := (p (n2 + 12) (by omega) (by omega) ).trans m12
    have m13 := (p (n2 + 13) (by omega) (by omega) ).trans m13
    have m14 := (p (n2 + 14) (by omega) (by omega) ).trans m14
    have m15 := (p (n2 + 15) (by omega) (by omega) ).trans m15
    refine zk_aload_2 332 dc_CmLaw_law_331 rfl rfl ?_
    refine zk_aload_0 333 dc_CmLaw_law_332 rfl rfl ?_
    refine zk_iload_3 334 dc_CmLaw_law_333 rfl rfl ?_
    refine zk_iconst (v := 1) 335 dc_CmLaw_law_334 (by decide) rfl ?_
    refine zk_iadd 336 dc_CmLaw_law_335 rfl ?_
    refine zk_sload 337 dc_CmLaw_law_336 (show vp_in ((0 : Int32) + 1) 5 by unfold vp_in; decide) rfl ?_
    refine zk_aload_0 338 dc_CmLaw_law_337 rfl rfl ?_
    refine zk_iload_3 339 dc_CmLaw_law_338 rfl rfl ?_
    refine zk_iconst (v := 2) 340 dc_CmLaw_law_339 (by decide) rfl ?_
    refine zk_iadd 341 dc_CmLaw_law_340 rfl ?_
    refine zk_sload 342 dc_CmLaw_law_341 (show vp_in ((0 : Int32) + 2) 5 by unfold vp_in; decide) rfl ?_
    refine zk_aload_0 343 dc_CmLaw_law_342 rfl rfl ?_
    refine zk_iload_3 344 dc_CmLaw_law_343 rfl rfl ?_
    refine zk_iconst (v := 3) 345 dc_CmLaw_law_344 (by decide) rfl ?_
    refine zk_iadd 346 dc_CmLaw_law_345 rfl ?_
    refine zk_sload 347 dc_CmLaw_law_346 (show vp_in ((0 : Int32) + 3) 5 by unfold vp_in; decide) rfl ?_
    refine zk_cVr 350 (r_family ma m8 m10 m12 m13 m14 m15 hlt2) dc_CmLaw_law_347 ok_Mo_family lk_CmLaw_45 ma rfl rfl rfl ⟨Nat.le_of_ble_eq_true rfl, Nat.le_of_ble_eq_true rfl⟩ (Nat.le_of_ble_eq_true rfl) rfl (fun v M1 hk => ?_)
    obtain ⟨rfl, g2, rfl⟩ := hk
    refine zk_icmp_eq 546 353 dc_CmLaw_law_350 (by decide) rfl (fun hx => ?_) (fun hx => by first | exact absurd hx rfl | exact absurd rfl hx)
    refine zk_iinc_3 (v := 5) 549 dc_CmLaw_law_546 (by decide) (Nat.le_of_ble_eq_true rfl) rfl ?_
    refine zk_goto 18 dc_CmLaw_law_549 (by decide) ?_
    refine zk_iload_3 19 dc_CmLaw_law_18 rfl rfl ?_
    refine zk_aload_0 20 dc_CmLaw_law_19 rfl rfl ?_
    refine zk_slen 21 dc_CmLaw_law_20 rfl ?_
    refine zk_iconst (v := 5) 22 dc_CmLaw_law_21 (by decide) rfl ?_
    refine zk_isub 23 dc_CmLaw_law_22 rfl ?_
    refine zk_icmp_gt 552 26 dc_CmLaw_law_23 (by decide) rfl (fun hx => ?_) (fun hx => by first | exact absurd hx (show nI 5 - 5 < (0 : Int32) + 5 by decide) | exact absurd (show nI 5 - 5 < (0 : Int32) + 5 by decide) hx)
    refine zk_iconst (v := 1) 553 dc_CmLaw_law_552 (by decide) rfl ?_
    exact zk_ireturn dc_CmLaw_law_553 rfl rfl (hR _ _ _ (by omega) (by omega))
  by_cases t7 : y = 7
  · refine zk_tableIn 355 7 t7 dc_CmLaw_law_32 (by decide) (by decide) rfl (by decide) ?_
    refine zk_aload_1 356 dc_CmLaw_law_355 rfl rfl ?_
    refine zk_aload_0 357 dc_CmLaw_law_356 rfl rfl ?_
    refine zk_iload_3 358 dc_CmLaw_law_357 rfl rfl ?_
    refine zk_iconst (v := 1) 359 dc_CmLaw_law_358 (by decide) rfl ?_
    refine zk_iadd 360 dc_CmLaw_law_359 rfl ?_
    refine zk_sload 361 dc_CmLaw_law_360 (show vp_in ((0 : Int32) + 1) 5 by unfold vp_in; decide) rfl ?_
    refine zk_aload_0 362 dc_CmLaw_law_361 rfl rfl ?_
    refine zk_iload_3 363 dc_CmLaw_law_362 rfl rfl ?_
    refine zk_iconst (v := 2) 364 dc_CmLaw_law_363 (by decide) rfl ?_
    refine zk_iadd 365 dc_CmLaw_law_364 rfl ?_
    refine zk_sload 366 dc_CmLaw_law_365 (show vp_in ((0 : Int32) + 2) 5 by unfold vp_in; decide) rfl ?_
    refine zk_cVr 369 (f_constructor ha ht hq0 hr0 hq1 hr1 hg hga hlt (by omega)) dc_CmLaw_law_366 ok_Cm_constructor lk_CmLaw_46 ha rfl rfl rfl ⟨Nat.le_of_ble_eq_true rfl, Nat.le_of_ble_eq_true rfl⟩ (Nat.le_of_ble_eq_true rfl) rfl (fun v M1 hk => ?_)
    obtain ⟨rfl, w2, s2, g, rfl, hw2, hs2, p⟩ := hk
    have ma := (p (a2) (by omega) (by omega) ).trans ma
    have mr := (p (n2) (by omega) (by omega) ).trans mr
    have mk := (p (n2 + 1) (by omega) (by omega) ).trans mk
    have mv := (p (n2 + 2) (by omega) (by omega) ).trans mv
    have ms := (p (n2 + 3) (by omega) (by omega) ).trans ms
    have ml := (p (n2 + 4) (by omega) (by omega) ).trans ml
    have m5 := (p (n2 + 5) (by omega) (by omega) ).trans m5
    have m6 := (p (n2 + 6) (by omega) (by omega) ).trans m6
    have m7 := (p (n2 + 7) (by omega) (by omega) ).trans m7
    have m8 := (p (n2 + 8) (by omega) (by omega) ).trans m8
    have m10 := (p (n2 + 10) (by omega) (by omega) ).trans m10
    have m12 := (p (n2 + 12) (by omega) (by omega) ).trans m12
    have m13 := (p (n2 + 13) (by omega) (by omega) ).trans m13
    have m14 := (p (n2 + 14) (by omega) (by omega) ).trans m14
    have m15 := (p (n2 + 15) (by omega) (by omega) ).trans m15
    refine zk_aload_2 370 dc_CmLaw_law_369 rfl rfl ?_
    refine zk_aload_0 371 dc_CmLaw_law_370 rfl rfl ?_
    refine zk_iload_3 372 dc_CmLaw_law_371 rfl rfl ?_
    refine zk_iconst (v := 1) 373 dc_CmLaw_law_372 (by decide) rfl ?_
    refine zk_iadd 374 dc_CmLaw_law_373 rfl ?_
    refine zk_sload 375 dc_CmLaw_law_374 (show vp_in ((0 : Int32) + 1) 5 by unfold vp_in; decide) rfl ?_
    refine zk_aload_0 376 dc_CmLaw_law_375 rfl rfl ?_
    refine zk_iload_3 377 dc_CmLaw_law_376 rfl rfl ?_
    refine zk_iconst (v := 2) 378 dc_CmLaw_law_377 (by decide) rfl ?_
    refine zk_iadd 379 dc_CmLaw_law_378 rfl ?_
    refine zk_sload 380 dc_CmLaw_law_379 (show vp_in ((0 : Int32) + 2) 5 by unfold vp_in; decide) rfl ?_
    refine zk_cVr 383 (r_constructor ma ) dc_CmLaw_law_380 ok_Mo_constructor lk_CmLaw_49 ma rfl rfl rfl ⟨Nat.le_of_ble_eq_true rfl, Nat.le_of_ble_eq_true rfl⟩ (Nat.le_of_ble_eq_true rfl) rfl (fun v M1 hk => ?_)
    obtain ⟨rfl, g2, rfl⟩ := hk
    refine zk_icmp_eq 546 386 dc_CmLaw_law_383 (by decide) rfl (fun hx => ?_) (fun hx => by first | exact absurd hx rfl | exact absurd rfl hx)
    refine zk_iinc_3 (v := 5) 549 dc_CmLaw_law_546 (by decide) (Nat.le_of_ble_eq_true rfl) rfl ?_
    refine zk_goto 18 dc_CmLaw_law_549 (by decide) ?_
    refine zk_iload_3 19 dc_CmLaw_law_18 rfl rfl ?_
    refine zk_aload_0 20 dc_CmLaw_law_19 rfl rfl ?_
    refine zk_slen 21 dc_CmLaw_law_20 rfl ?_
    refine zk_iconst (v := 5) 22 dc_CmLaw_law_21 (by decide) rfl ?_
    refine zk_isub 23 dc_CmLaw_law_22 rfl ?_
    refine zk_icmp_gt 552 26 dc_CmLaw_law_23 (by decide) rfl (fun hx => ?_) (fun hx => by first | exact absurd hx (show nI 5 - 5 < (0 : Int32) + 5 by decide) | exact absurd (show nI 5 - 5 < (0 : Int32) + 5 by decide) hx)
    refine zk_iconst (v := 1) 553 dc_CmLaw_law_552 (by decide) rfl ?_
    exact zk_ireturn dc_CmLaw_law_553 rfl rfl (hR _ _ _ (by omega) (by omega))
  by_cases t8 : y = 8
  · refine zk_tableIn 388 8 t8 dc_CmLaw_law_32 (by decide) (by decide) rfl (by decide) ?_
    refine zk_aload_1 389 dc_CmLaw_law_388 rfl rfl ?_
    refine zk_aload_0 390 dc_CmLaw_law_389 rfl rfl ?_
    refine zk_iload_3 391 dc_CmLaw_law_390 rfl rfl ?_
    refine zk_iconst (v := 1) 392 dc_CmLaw_law_391 (by decide) rfl ?_
    refine zk_iadd 393 dc_CmLaw_law_392 rfl ?_
    refine zk_sload 394 dc_CmLaw_law_393 (show vp_in ((0 : Int32) + 1) 5 by unfold vp_in; decide) rfl ?_
    refine zk_aload_0 395 dc_CmLaw_law_394 rfl rfl ?_
    refine zk_iload_3 396 dc_CmLaw_law_395 rfl rfl ?_
    refine zk_iconst (v := 2) 397 dc_CmLaw_law_396 (by decide) rfl ?_
    refine zk_iadd 398 dc_CmLaw_law_397 rfl ?_
    refine zk_sload 399 dc_CmLaw_law_398 (show vp_in ((0 : Int32) + 2) 5 by unfold vp_in; decide) rfl ?_
    refine zk_cVr 402 (f_head ha ht hq0 hr0 hq1 hr1 hg hga hlt (by omega)) dc_CmLaw_law_399 ok_Cm_head lk_CmLaw_50 ha rfl rfl rfl ⟨Nat.le_of_ble_eq_true rfl, Nat.le_of_ble_eq_true rfl⟩ (Nat.le_of_ble_eq_true rfl) rfl (fun v M1 hk => ?_)
    obtain ⟨rfl, w2, s2, g, rfl, hw2, hs2, p⟩ := hk
    have ma := (p (a2) (by omega) (by omega) ).trans ma
    have mr := (p (n2) (by omega) (by omega) ).trans mr
    have mk := (p (n2 + 1) (by omega) (by omega) ).trans mk
    have mv := (p (n2 + 2) (by omega) (by omega) ).trans mv
    have ms := (p (n2 + 3) (by omega) (by omega) ).trans ms
    have ml := (p (n2 + 4) (by omega) (by omega) ).trans ml
    have m5 := (p (n2 + 5) (by omega) (by omega) ).trans m5
    have m6 := (p (n2 + 6) (by omega) (by omega) ).trans m6
    have m7 := (p (n2 + 7) (by omega) (by omega) ).trans m7
    have m8 := (p (n2 + 8) (by omega) (by omega) ).trans m8
    have m10 := (p (n2 + 10) (by omega) (by omega) ).trans m10
    have m12 := (p (n2 + 12) (by omega) (by omega) ).trans m12
    have m13 := (p (n2 + 13) (by omega) (by omega) ).trans m13
    have m14 := (p (n2 + 14) (by omega) (by omega) ).trans m14
    have m15 := (p (n2 + 15) (by omega) (by omega) ).trans m15
    refine zk_aload_2 403 dc_CmLaw_law_402 rfl rfl ?_
    refine zk_aload_0 404 dc_CmLaw_law_403 rfl rfl ?_
    refine zk_iload_3 405 dc_CmLaw_law_404 rfl rfl ?_
    refine zk_iconst (v := 1) 406 dc_CmLaw_law_405 (by decide) rfl ?_
    refine zk_iadd 407 dc_CmLaw_law_406 rfl ?_
    refine zk_sload 408 dc_CmLaw_law_407 (show vp_in ((0 : Int32) + 1) 5 by unfold vp_in; decide) rfl ?_
    refine zk_aload_0 409 dc_CmLaw_law_408 rfl rfl ?_
    refine zk_iload_3 410 dc_CmLaw_law_409 rfl rfl ?_
    refine zk_iconst (v := 2) 411 dc_CmLaw_law_410 (by decide) rfl ?_
    refine zk_iadd 412 dc_CmLaw_law_411 rfl ?_
    refine zk_sload 413 dc_CmLaw_law_412 (show vp_in ((0 : Int32) + 2) 5 by unfold vp_in; decide) rfl ?_
    refine zk_cVr 416 (r_head ma ) dc_CmLaw_law_413 ok_Mo_head lk_CmLaw_53 ma rfl rfl rfl ⟨Nat.le_of_ble_eq_true rfl, Nat.le_of_ble_eq_true rfl⟩ (Nat.le_of_ble_eq_true rfl) rfl (fun v M1 hk => ?_)
    obtain ⟨rfl, g2, rfl⟩ := hk
    refine zk_icmp_eq 546 419 dc_CmLaw_law_416 (by decide) rfl (fun hx => ?_) (fun hx => by first | exact absurd hx rfl | exact absurd rfl hx)
    refine zk_iinc_3 (v := 5) 549 dc_CmLaw_law_546 (by decide) (Nat.le_of_ble_eq_true rfl) rfl ?_
    refine zk_goto 18 dc_CmLaw_law_549 (by decide) ?_
    refine zk_iload_3 19 dc_CmLaw_law_18 rfl rfl ?_
    refine zk_aload_0 20 dc_CmLaw_law_19 rfl rfl ?_
    refine zk_slen 21 dc_CmLaw_law_20 rfl ?_
    refine zk_iconst (v := 5) 22 dc_CmLaw_law_21 (by decide) rfl ?_
    refine zk_isub 23 dc_CmLaw_law_22 rfl ?_
    refine zk_icmp_gt 552 26 dc_CmLaw_law_23 (by decide) rfl (fun hx => ?_) (fun hx => by first | exact absurd hx (show nI 5 - 5 < (0 : Int32) + 5 by decide) | exact absurd (show nI 5 - 5 < (0 : Int32) + 5 by decide) hx)
    refine zk_iconst (v := 1) 553 dc_CmLaw_law_552 (by decide) rfl ?_
    exact zk_ireturn dc_CmLaw_law_553 rfl rfl (hR _ _ _ (by omega) (by omega))
  by_cases t9 : y = 9
  · refine zk_tableIn 421 9 t9 dc_CmLaw_law_32 (by decide) (by decide) rfl (by decide) ?_
    refine zk_aload_1 422 dc_CmLaw_law_421 rfl rfl ?_
    refine zk_aload_0 423 dc_CmLaw_law_422 rfl rfl ?_
    refine zk_iload_3 424 dc_CmLaw_law_423 rfl rfl ?_
    refine zk_iconst (v := 1) 425 dc_CmLaw_law_424 (by decide) rfl ?_
    refine zk_iadd 426 dc_CmLaw_law_425 rfl ?_
    refine zk_sload 427 dc_CmLaw_law_426 (show vp_in ((0 : Int32) + 1) 5 by unfold vp_in; decide) rfl ?_
    refine zk_cVr 430 (f_found ha ht hq0 hr0 hq1 hr1 hg hga hlt (by omega)) dc_CmLaw_law_427 ok_Cm_found lk_CmLaw_54 ha rfl rfl rfl ⟨Nat.le_of_ble_eq_true rfl, Nat.le_of_ble_eq_true rfl⟩ (Nat.le_of_ble_eq_true rfl) rfl (fun v M1 hk => ?_)
    obtain ⟨rfl, w2, s2, g, rfl, hw2, hs2, p⟩ := hk
    have ma := (p (a2) (by omega) (by omega) ).trans ma
    have mr := (p (n2) (by omega) (by omega) ).trans mr
    have mk := (p (n2 + 1) (by omega) (by omega) ).trans mk
    have mv := (p (n2 + 2) (by omega) (by omega) ).trans mv
    have ms := (p (n2 + 3) (by omega) (by omega) ).trans ms
    have ml := (p (n2 + 4) (by omega) (by omega) ).trans ml
    have m5 := (p (n2 + 5) (by omega) (by omega) ).trans m5
    have m6 := (p (n2 + 6) (by omega) (by omega) ).trans m6
    have m7 := (p (n2 + 7) (by omega) (by omega) ).trans m7
    have m8 := (p (n2 + 8) (by omega) (by omega) ).trans m8
    have m10 := (p (n2 + 10) (by omega) (by omega) ).trans m10
    have m12 := (p (n2 + 12) (by omega) (by omega) ).trans m12
    have m13 := (p (n2 + 13) (by omega) (by omega) ).trans m13
    have m14 := (p (n2 + 14) (by omega) (by omega) ).trans m14
    have m15 := (p (n2 + 15) (by omega) (by omega) ).trans m15
    refine zk_aload_2 431 dc_CmLaw_law_430 rfl rfl ?_
    refine zk_aload_0 432 dc_CmLaw_law_431 rfl rfl ?_
    refine zk_iload_3 433 dc_CmLaw_law_432 rfl rfl ?_
    refine zk_iconst (v := 1) 434 dc_CmLaw_law_433 (by decide) rfl ?_
    refine zk_iadd 435 dc_CmLaw_law_434 rfl ?_
    refine zk_sload 436 dc_CmLaw_law_435 (show vp_in ((0 : Int32) + 1) 5 by unfold vp_in; decide) rfl ?_
    refine zk_cVr 439 (r_found ma ) dc_CmLaw_law_436 ok_Mo_found lk_CmLaw_57 ma rfl rfl rfl ⟨Nat.le_of_ble_eq_true rfl, Nat.le_of_ble_eq_true rfl⟩ (Nat.le_of_ble_eq_true rfl) rfl (fun v M1 hk => ?_)
    obtain ⟨rfl, g2, rfl⟩ := hk
    refine zk_icmp_eq 546 442 dc_CmLaw_law_439 (by decide) rfl (fun hx => ?_) (fun hx => by first | exact absurd hx rfl | exact absurd rfl hx)
    refine zk_iinc_3 (v := 5) 549 dc_CmLaw_law_546 (by decide) (Nat.le_of_ble_eq_true rfl) rfl ?_
    refine zk_goto 18 dc_CmLaw_law_549 (by decide) ?_
    refine zk_iload_3 19 dc_CmLaw_law_18 rfl rfl ?_
    refine zk_aload_0 20 dc_CmLaw_law_19 rfl rfl ?_
    refine zk_slen 21 dc_CmLaw_law_20 rfl ?_
    refine zk_iconst (v := 5) 22 dc_CmLaw_law_21 (by decide) rfl ?_
    refine zk_isub 23 dc_CmLaw_law_22 rfl ?_
    refine zk_icmp_gt 552 26 dc_CmLaw_law_23 (by decide) rfl (fun hx => ?_) (fun hx => by first | exact absurd hx (show nI 5 - 5 < (0 : Int32) + 5 by decide) | exact absurd (show nI 5 - 5 < (0 : Int32) + 5 by decide) hx)
    refine zk_iconst (v := 1) 553 dc_CmLaw_law_552 (by decide) rfl ?_
    exact zk_ireturn dc_CmLaw_law_553 rfl rfl (hR _ _ _ (by omega) (by omega))
  by_cases t10 : y = 10
  · refine zk_tableIn 444 10 t10 dc_CmLaw_law_32 (by decide) (by decide) rfl (by decide) ?_
    refine zk_aload_1 445 dc_CmLaw_law_444 rfl rfl ?_
    refine zk_aload_0 446 dc_CmLaw_law_445 rfl rfl ?_
    refine zk_iload_3 447 dc_CmLaw_law_446 rfl rfl ?_
    refine zk_iconst (v := 1) 448 dc_CmLaw_law_447 (by decide) rfl ?_
    refine zk_iadd 449 dc_CmLaw_law_448 rfl ?_
    refine zk_sload 450 dc_CmLaw_law_449 (show vp_in ((0 : Int32) + 1) 5 by unfold vp_in; decide) rfl ?_
    refine zk_aload_0 451 dc_CmLaw_law_450 rfl rfl ?_
    refine zk_iload_3 452 dc_CmLaw_law_451 rfl rfl ?_
    refine zk_iconst (v := 2) 453 dc_CmLaw_law_452 (by decide) rfl ?_
    refine zk_iadd 454 dc_CmLaw_law_453 rfl ?_
    refine zk_sload 455 dc_CmLaw_law_454 (show vp_in ((0 : Int32) + 2) 5 by unfold vp_in; decide) rfl ?_
    refine zk_cVr 458 (f_normal ha ht hq0 hr0 hq1 hr1 hg hga hlt (by omega)) dc_CmLaw_law_455 ok_Cm_normal lk_CmLaw_58 ha rfl rfl rfl ⟨Nat.le_of_ble_eq_true rfl, Nat.le_of_ble_eq_true rfl⟩ (Nat.le_of_ble_eq_true rfl) rfl (fun v M1 hk => ?_)
    obtain ⟨rfl, w2, s2, g, rfl, hw2, hs2, p⟩ := hk
    have ma := (p (a2) (by omega) (by omega) ).trans ma
    have mr := (p (n2) (by omega) (by omega) ).trans mr
    have mk := (p (n2 + 1) (by omega) (by omega) ).trans mk
    have mv := (p (n2 + 2) (by omega) (by omega) ).trans mv
    have ms := (p (n2 + 3) (by omega) (by omega) ).trans ms
    have ml := (p (n2 + 4) (by omega) (by omega) ).trans ml
    have m5 := (p (n2 + 5) (by omega) (by omega) ).trans m5
    have m6 := (p (n2 + 6) (by omega) (by omega) ).trans m6
    have m7 := (p (n2 + 7) (by omega) (by omega) ).trans m7
    have m8 := (p (n2 + 8) (by omega) (by omega) ).trans m8
    have m10 := (p (n2 + 10) (by omega) (by omega) ).trans m10
    have m12 := (p (n2 + 12) (by omega) (by omega) ).trans m12
    have m13 := (p (n2 + 13) (by omega) (by omega) ).trans m13
    have m14 := (p (n2 + 14) (by omega) (by omega) ).trans m14
    have m15 := (p (n2 + 15) (by omega) (by omega) ).trans m15
    refine zk_aload_2 459 dc_CmLaw_law_458 rfl rfl ?_
    refine zk_aload_0 460 dc_CmLaw_law_459 rfl rfl ?_
    refine zk_iload_3 461 dc_CmLaw_law_460 rfl rfl ?_
    refine zk_iconst (v := 1) 462 dc_CmLaw_law_461 (by decide) rfl ?_
    refine zk_iadd 463 dc_CmLaw_law_462 rfl ?_
    refine zk_sload 464 dc_CmLaw_law_463 (show vp_in ((0 : Int32) + 1) 5 by unfold vp_in; decide) rfl ?_
    refine zk_aload_0 465 dc_CmLaw_law_464 rfl rfl ?_
    refine zk_iload_3 466 dc_CmLaw_law_465 rfl rfl ?_
    refine zk_iconst (v := 2) 467 dc_CmLaw_law_466 (by decide) rfl ?_
    refine zk_iadd 468 dc_CmLaw_law_467 rfl ?_
    refine zk_sload 469 dc_CmLaw_law_468 (show vp_in ((0 : Int32) + 2) 5 by unfold vp_in; decide) rfl ?_
    refine zk_cVr 472 (r_normal ma ) dc_CmLaw_law_469 ok_Mo_normal lk_CmLaw_61 ma rfl rfl rfl ⟨Nat.le_of_ble_eq_true rfl, Nat.le_of_ble_eq_true rfl⟩ (Nat.le_of_ble_eq_true rfl) rfl (fun v M1 hk => ?_)
    obtain ⟨rfl, g2, rfl⟩ := hk
    refine zk_icmp_eq 546 475 dc_CmLaw_law_472 (by decide) rfl (fun hx => ?_) (fun hx => by first | exact absurd hx rfl | exact absurd rfl hx)
    refine zk_iinc_3 (v := 5) 549 dc_CmLaw_law_546 (by decide) (Nat.le_of_ble_eq_true rfl) rfl ?_
    refine zk_goto 18 dc_CmLaw_law_549 (by decide) ?_
    refine zk_iload_3 19 dc_CmLaw_law_18 rfl rfl ?_
    refine zk_aload_0 20 dc_CmLaw_law_19 rfl rfl ?_
    refine zk_slen 21 dc_CmLaw_law_20 rfl ?_
    refine zk_iconst (v := 5) 22 dc_CmLaw_law_21 (by decide) rfl ?_
    refine zk_isub 23 dc_CmLaw_law_22 rfl ?_
    refine zk_icmp_gt 552 26 dc_CmLaw_law_23 (by decide) rfl (fun hx => ?_) (fun hx => by first | exact absurd hx (show nI 5 - 5 < (0 : Int32) + 5 by decide) | exact absurd (show nI 5 - 5 < (0 : Int32) + 5 by decide) hx)
    refine zk_iconst (v := 1) 553 dc_CmLaw_law_552 (by decide) rfl ?_
    exact zk_ireturn dc_CmLaw_law_553 rfl rfl (hR _ _ _ (by omega) (by omega))
  by_cases t11 : y = 11
  · refine zk_tableIn 477 11 t11 dc_CmLaw_law_32 (by decide) (by decide) rfl (by decide) ?_
    refine zk_aload_1 478 dc_CmLaw_law_477 rfl rfl ?_
    refine zk_cVr 481 (f_cost ha ht hq0 hr0 hq1 hr1 hg hga hlt (by omega)) dc_CmLaw_law_478 ok_Cm_cost lk_CmLaw_62 ha rfl rfl rfl ⟨Nat.le_of_ble_eq_true rfl, Nat.le_of_ble_eq_true rfl⟩ (Nat.le_of_ble_eq_true rfl) rfl (fun v M1 hk => ?_)
    obtain ⟨rfl, w2, s2, g, rfl, hw2, hs2, p⟩ := hk
    have ma := (p (a2) (by omega) (by omega) ).trans ma
    have mr := (p (n2) (by omega) (by omega) ).trans mr
    have mk := (p (n2 + 1) (by omega) (by omega) ).trans mk
    have mv := (p (n2 + 2) (by omega) (by omega) ).trans mv
    have ms := (p (n2 + 3) (by omega) (by omega) ).trans ms
    have ml := (p (n2 + 4) (by omega) (by omega) ).trans ml
    have m5 := (p (n2 + 5) (by omega) (by omega) ).trans m5
    have m6 := (p (n2 + 6) (by omega) (by omega) ).trans m6
    have m7 := (p (n2 + 7) (by omega) (by omega) ).trans m7
    have m8 := (p (n2 + 8) (by omega) (by omega) ).trans m8
    have m10 := (p (n2 + 10) (by omega) (by omega) ).trans m10
    have m12 := (p (n2 + 12) (by omega) (by omega) ).trans m12
    have m13 := (p (n2 + 13) (by omega) (by omega) ).trans m13
    have m14 := (p (n2 + 14) (by omega) (by omega) ).trans m14
    have m15 := (p (n2 + 15) (by omega) (by omega) ).trans m15
    refine zk_aload_2 482 dc_CmLaw_law_481 rfl rfl ?_
    refine zk_cVr 485 (r_cost ma ) dc_CmLaw_law_482 ok_Mo_cost lk_CmLaw_65 ma rfl rfl rfl ⟨Nat.le_of_ble_eq_true rfl, Nat.le_of_ble_eq_true rfl⟩ (Nat.le_of_ble_eq_true rfl) rfl (fun v M1 hk => ?_)
    obtain ⟨rfl, g2, rfl⟩ := hk
    refine zk_icmp_eq 546 488 dc_CmLaw_law_485 (by decide) rfl (fun hx => ?_) (fun hx => by first | exact absurd hx rfl | exact absurd rfl hx)
    refine zk_iinc_3 (v := 5) 549 dc_CmLaw_law_546 (by decide) (Nat.le_of_ble_eq_true rfl) rfl ?_
    refine zk_goto 18 dc_CmLaw_law_549 (by decide) ?_
    refine zk_iload_3 19 dc_CmLaw_law_18 rfl rfl ?_
    refine zk_aload_0 20 dc_CmLaw_law_19 rfl rfl ?_
    refine zk_slen 21 dc_CmLaw_law_20 rfl ?_
    refine zk_iconst (v := 5) 22 dc_CmLaw_law_21 (by decide) rfl ?_
    refine zk_isub 23 dc_CmLaw_law_22 rfl ?_
    refine zk_icmp_gt 552 26 dc_CmLaw_law_23 (by decide) rfl (fun hx => ?_) (fun hx => by first | exact absurd hx (show nI 5 - 5 < (0 : Int32) + 5 by decide) | exact absurd (show nI 5 - 5 < (0 : Int32) + 5 by decide) hx)
    refine zk_iconst (v := 1) 553 dc_CmLaw_law_552 (by decide) rfl ?_
    exact zk_ireturn dc_CmLaw_law_553 rfl rfl (hR _ _ _ (by omega) (by omega))
  by_cases t12 : y = 12
  · refine zk_tableIn 490 12 t12 dc_CmLaw_law_32 (by decide) (by decide) rfl (by decide) ?_
    refine zk_aload_1 491 dc_CmLaw_law_490 rfl rfl ?_
    refine zk_cVr 494 (f_terms ha ht hq0 hr0 hq1 hr1 hg hga hlt (by omega)) dc_CmLaw_law_491 ok_Cm_terms lk_CmLaw_66 ha rfl rfl rfl ⟨Nat.le_of_ble_eq_true rfl, Nat.le_of_ble_eq_true rfl⟩ (Nat.le_of_ble_eq_true rfl) rfl (fun v M1 hk => ?_)
    obtain ⟨rfl, w2, s2, g, rfl, hw2, hs2, p⟩ := hk
    have ma := (p (a2) (by omega) (by omega) ).trans ma
    have mr := (p (n2) (by omega) (by omega) ).trans mr
    have mk := (p (n2 + 1) (by omega) (by omega) ).trans mk
    have mv := (p (n2 + 2) (by omega) (by omega) ).trans mv
    have ms := (p (n2 + 3) (by omega) (by omega) ).trans ms
    have ml := (p (n2 + 4) (by omega) (by omega) ).trans ml
    have m5 := (p (n2 + 5) (by omega) (by omega) ).trans m5
    have m6 := (p (n2 + 6) (by omega) (by omega) ).trans m6
    have m7 := (p (n2 + 7) (by omega) (by omega) ).trans m7
    have m8 := (p (n2 + 8) (by omega) (by omega) ).trans m8
    have m10 := (p (n2 + 10) (by omega) (by omega) ).trans m10
    have m12 := (p (n2 + 12) (by omega) (by omega) ).trans m12
    have m13 := (p (n2 + 13) (by omega) (by omega) ).trans m13
    have m14 := (p (n2 + 14) (by omega) (by omega) ).trans m14
    have m15 := (p (n2 + 15) (by omega) (by omega) ).trans m15
    refine zk_aload_2 495 dc_CmLaw_law_494 rfl rfl ?_
    refine zk_cVr 498 (r_terms ma ) dc_CmLaw_law_495 ok_Mo_terms lk_CmLaw_69 ma rfl rfl rfl ⟨Nat.le_of_ble_eq_true rfl, Nat.le_of_ble_eq_true rfl⟩ (Nat.le_of_ble_eq_true rfl) rfl (fun v M1 hk => ?_)
    obtain ⟨rfl, g2, rfl⟩ := hk
    refine zk_icmp_eq 546 501 dc_CmLaw_law_498 (by decide) rfl (fun hx => ?_) (fun hx => by first | exact absurd hx rfl | exact absurd rfl hx)
    refine zk_iinc_3 (v := 5) 549 dc_CmLaw_law_546 (by decide) (Nat.le_of_ble_eq_true rfl) rfl ?_
    refine zk_goto 18 dc_CmLaw_law_549 (by decide) ?_
    refine zk_iload_3 19 dc_CmLaw_law_18 rfl rfl ?_
    refine zk_aload_0 20 dc_CmLaw_law_19 rfl rfl ?_
    refine zk_slen 21 dc_CmLaw_law_20 rfl ?_
    refine zk_iconst (v := 5) 22 dc_CmLaw_law_21 (by decide) rfl ?_
    refine zk_isub 23 dc_CmLaw_law_22 rfl ?_
    refine zk_icmp_gt 552 26 dc_CmLaw_law_23 (by decide) rfl (fun hx => ?_) (fun hx => by first | exact absurd hx (show nI 5 - 5 < (0 : Int32) + 5 by decide) | exact absurd (show nI 5 - 5 < (0 : Int32) + 5 by decide) hx)
    refine zk_iconst (v := 1) 553 dc_CmLaw_law_552 (by decide) rfl ?_
    exact zk_ireturn dc_CmLaw_law_553 rfl rfl (hR _ _ _ (by omega) (by omega))
  by_cases t13 : y = 13
  · refine zk_tableIn 503 13 t13 dc_CmLaw_law_32 (by decide) (by decide) rfl (by decide) ?_
    refine zk_aload_1 504 dc_CmLaw_law_503 rfl rfl ?_
    refine zk_aload_0 505 dc_CmLaw_law_504 rfl rfl ?_
    refine zk_iload_3 506 dc_CmLaw_law_505 rfl rfl ?_
    refine zk_iconst (v := 1) 507 dc_CmLaw_law_506 (by decide) rfl ?_
    refine zk_iadd 508 dc_CmLaw_law_507 rfl ?_
    refine zk_sload 509 dc_CmLaw_law_508 (show vp_in ((0 : Int32) + 1) 5 by unfold vp_in; decide) rfl ?_
    refine zk_aload_0 510 dc_CmLaw_law_509 rfl rfl ?_
    refine zk_iload_3 511 dc_CmLaw_law_510 rfl rfl ?_
    refine zk_iconst (v := 2) 512 dc_CmLaw_law_511 (by decide) rfl ?_
    refine zk_iadd 513 dc_CmLaw_law_512 rfl ?_
    refine zk_sload 514 dc_CmLaw_law_513 (show vp_in ((0 : Int32) + 2) 5 by unfold vp_in; decide) rfl ?_
    refine zk_aload_0 515 dc_CmLaw_law_514 rfl rfl ?_
    refine zk_iload_3 516 dc_CmLaw_law_515 rfl rfl ?_
    refine zk_iconst (v := 3) 517 dc_CmLaw_law_516 (by decide) rfl ?_
    refine zk_iadd 518 dc_CmLaw_law_517 rfl ?_
    refine zk_sload 519 dc_CmLaw_law_518 (show vp_in ((0 : Int32) + 3) 5 by unfold vp_in; decide) rfl ?_
    refine zk_cVr 522 (f_part ha ht hq0 hr0 hq1 hr1 hg hga hlt (by omega)) dc_CmLaw_law_519 ok_Cm_part lk_CmLaw_70 ha rfl rfl rfl ⟨Nat.le_of_ble_eq_true rfl, Nat.le_of_ble_eq_true rfl⟩ (Nat.le_of_ble_eq_true rfl) rfl (fun v M1 hk => ?_)
    obtain ⟨rfl, w2, s2, g, rfl, hw2, hs2, p⟩ := hk
    have ma := (p (a2) (by omega) (by omega) ).trans ma
    have mr := (p (n2) (by omega) (by omega) ).trans mr
    have mk := (p (n2 + 1) (by omega) (by omega) ).trans mk
    have mv := (p (n2 + 2) (by omega) (by omega) ).trans mv
    have ms := (p (n2 + 3) (by omega) (by omega) ).trans ms
    have ml := (p (n2 + 4) (by omega) (by omega) ).trans ml
    have m5 := (p (n2 + 5) (by omega) (by omega) ).trans m5
    have m6 := (p (n2 + 6) (by omega) (by omega) ).trans m6
    have m7 := (p (n2 + 7) (by omega) (by omega) ).trans m7
    have m8 := (p (n2 + 8) (by omega) (by omega) ).trans m8
    have m10 := (p (n2 + 10) (by omega) (by omega) ).trans m10
    have m12 := (p (n2 + 12) (by omega) (by omega) ).trans m12
    have m13 := (p (n2 + 13) (by omega) (by omega) ).trans m13
    have m14 := (p (n2 + 14) (by omega) (by omega) ).trans m14
    have m15 := (p (n2 + 15) (by omega) (by omega) ).trans m15
    refine zk_aload_2 523 dc_CmLaw_law_522 rfl rfl ?_
    refine zk_aload_0 524 dc_CmLaw_law_523 rfl rfl ?_
    refine zk_iload_3 525 dc_CmLaw_law_524 rfl rfl ?_
    refine zk_iconst (v := 1) 526 dc_CmLaw_law_525 (by decide) rfl ?_
    refine zk_iadd 527 dc_CmLaw_law_526 rfl ?_
    refine zk_sload 528 dc_CmLaw_law_527 (show vp_in ((0 : Int32) + 1) 5 by unfold vp_in; decide) rfl ?_
    refine zk_aload_0 529 dc_CmLaw_law_528 rfl rfl ?_
    refine zk_iload_3 530 dc_CmLaw_law_529 rfl rfl ?_
    refine zk_iconst (v := 2) 531 dc_CmLaw_law_530 (by decide) rfl ?_
    refine zk_iadd 532 dc_CmLaw_law_531 rfl ?_
    refine zk_sload 533 dc_CmLaw_law_532 (show vp_in ((0 : Int32) + 2) 5 by unfold vp_in; decide) rfl ?_
    refine zk_aload_0 534 dc_CmLaw_law_533 rfl rfl ?_
    refine zk_iload_3 535 dc_CmLaw_law_534 rfl rfl ?_
    refine zk_iconst (v := 3) 536 dc_CmLaw_law_535 (by decide) rfl ?_
    refine zk_iadd 537 dc_CmLaw_law_536 rfl ?_
    refine zk_sload 538 dc_CmLaw_law_537 (show vp_in ((0 : Int32) + 3) 5 by unfold vp_in; decide) rfl ?_
    refine zk_cVr 541 (r_part ma ) dc_CmLaw_law_538 ok_Mo_part lk_CmLaw_73 ma rfl rfl rfl ⟨Nat.le_of_ble_eq_true rfl, Nat.le_of_ble_eq_true rfl⟩ (Nat.le_of_ble_eq_true rfl) rfl (fun v M1 hk => ?_)
    obtain ⟨rfl, g2, rfl⟩ := hk
    refine zk_icmp_eq 546 544 dc_CmLaw_law_541 (by decide) rfl (fun hx => ?_) (fun hx => by first | exact absurd hx rfl | exact absurd rfl hx)
    refine zk_iinc_3 (v := 5) 549 dc_CmLaw_law_546 (by decide) (Nat.le_of_ble_eq_true rfl) rfl ?_
    refine zk_goto 18 dc_CmLaw_law_549 (by decide) ?_
    refine zk_iload_3 19 dc_CmLaw_law_18 rfl rfl ?_
    refine zk_aload_0 20 dc_CmLaw_law_19 rfl rfl ?_
    refine zk_slen 21 dc_CmLaw_law_20 rfl ?_
    refine zk_iconst (v := 5) 22 dc_CmLaw_law_21 (by decide) rfl ?_
    refine zk_isub 23 dc_CmLaw_law_22 rfl ?_
    refine zk_icmp_gt 552 26 dc_CmLaw_law_23 (by decide) rfl (fun hx => ?_) (fun hx => by first | exact absurd hx (show nI 5 - 5 < (0 : Int32) + 5 by decide) | exact absurd (show nI 5 - 5 < (0 : Int32) + 5 by decide) hx)
    refine zk_iconst (v := 1) 553 dc_CmLaw_law_552 (by decide) rfl ?_
    exact zk_ireturn dc_CmLaw_law_553 rfl rfl (hR _ _ _ (by omega) (by omega))
  refine zk_tableOut 546 dc_CmLaw_law_32 (zk_out fun k h1 h2 q => by rcases (show k = 0 ∨ k = 1 ∨ k = 2 ∨ k = 3 ∨ k = 4 ∨ k = 5 ∨ k = 6 ∨ k = 7 ∨ k = 8 ∨ k = 9 ∨ k = 10 ∨ k = 11 ∨ k = 12 ∨ k = 13 by omega) with rfl | rfl | rfl | rfl | rfl | rfl | rfl | rfl | rfl | rfl | rfl | rfl | rfl | rfl <;> first | exact t0 (Int32.toInt_inj.mp (q.trans (by decide))) | exact t1 (Int32.toInt_inj.mp (q.trans (by decide))) | exact t2 (Int32.toInt_inj.mp (q.trans (by decide))) | exact t3 (Int32.toInt_inj.mp (q.trans (by decide))) | exact t4 (Int32.toInt_inj.mp (q.trans (by decide))) | exact t5 (Int32.toInt_inj.mp (q.trans (by decide))) | exact t6 (Int32.toInt_inj.mp (q.trans (by decide))) | exact t7 (Int32.toInt_inj.mp (q.trans (by decide))) | exact t8 (Int32.toInt_inj.mp (q.trans (by decide))) | exact t9 (Int32.toInt_inj.mp (q.trans (by decide))) | exact t10 (Int32.toInt_inj.mp (q.trans (by decide))) | exact t11 (Int32.toInt_inj.mp (q.trans (by decide))) | exact t12 (Int32.toInt_inj.mp (q.trans (by decide))) | exact t13 (Int32.toInt_inj.mp (q.trans (by decide)))) (by decide) ?_
  refine zk_iinc_3 (v := 5) 549 dc_CmLaw_law_546 (by decide) (Nat.le_of_ble_eq_true rfl) rfl ?_
  refine zk_goto 18 dc_CmLaw_law_549 (by decide) ?_
  refine zk_iload_3 19 dc_CmLaw_law_18 rfl rfl ?_
  refine zk_aload_0 20 dc_CmLaw_law_19 rfl rfl ?_
  refine zk_slen 21 dc_CmLaw_law_20 rfl ?_
  refine zk_iconst (v := 5) 22 dc_CmLaw_law_21 (by decide) rfl ?_
  refine zk_isub 23 dc_CmLaw_law_22 rfl ?_
  refine zk_icmp_gt 552 26 dc_CmLaw_law_23 (by decide) rfl (fun hx => ?_) (fun hx => by first | exact absurd hx (show nI 5 - 5 < (0 : Int32) + 5 by decide) | exact absurd (show nI 5 - 5 < (0 : Int32) + 5 by decide) hx)
  refine zk_iconst (v := 1) 553 dc_CmLaw_law_552 (by decide) rfl ?_
  exact zk_ireturn dc_CmLaw_law_553 rfl rfl (hR _ _ _ (by omega) (by omega))
theorem p1_short {l : Launch} {κ : Nat → ClassId} {D : va_G} {B b L : Nat} {xs : Nat → Int32} {a a2 : Nat} {M : zk_M} {R : Option Value → zk_M → Prop} (hL : L < 5) (hR : R (some (.int 1)) M) : zk_P (l, κ, D, B, b, L, xs) mm_law 18 [some (.ref b), some (.ref a), some (.ref a2), some (.int 0)] [] M R := by
  have hgt : nI L - 5 < (0 : Int32) := by rcases (show L = 0 ∨ L = 1 ∨ L = 2 ∨ L = 3 ∨ L = 4 by omega) with rfl | rfl | rfl | rfl | rfl <;> decide
  refine zk_iload_3 19 dc_CmLaw_law_18 rfl rfl ?_
  refine zk_aload_0 20 dc_CmLaw_law_19 rfl rfl ?_
  refine zk_slen 21 dc_CmLaw_law_20 rfl ?_
  refine zk_iconst (v := 5) 22 dc_CmLaw_law_21 (by decide) rfl ?_
  refine zk_isub 23 dc_CmLaw_law_22 rfl ?_
  refine zk_icmp_gt 552 26 dc_CmLaw_law_23 (by decide) rfl (fun hx => ?_) (fun hx => by first | exact absurd hx hgt | exact absurd hgt hx)
  refine zk_iconst (v := 1) 553 dc_CmLaw_law_552 (by decide) rfl ?_
  exact zk_ireturn dc_CmLaw_law_553 rfl rfl hR
set_option maxHeartbeats 4000000 in
set_option maxRecDepth 100000 in
theorem p1_entry {l : Launch} {κ : Nat → ClassId} {D : va_G} {B b L : Nat} {xs : Nat → Int32} (hL : L ≤ 5) : zk_P (l, κ, D, B, b, L, xs) mm_law 0 [some (.ref b), none, none, none] [] (B, 0, fun _ => none) (fun r M' => r = some (.int 1) ∧ M'.1 ≤ B + 600000 ∧ M'.2.1 ≤ 7302250) := by
  refine zk_newK 3 dc_CmLaw_law_0 nw_CmLaw_7 rfl (fun f1 ha o1 => ?_)
  refine zk_dup 4 dc_CmLaw_law_3 rfl rfl ?_
  refine zk_cIv 7 (ct_Cm ha (by omega)) dc_CmLaw_law_4 ok_Cm_init lk_CmLaw_9 rfl rfl ⟨Nat.le_of_ble_eq_true rfl, Nat.le_of_ble_eq_true rfl⟩ (Nat.le_of_ble_eq_true rfl) rfl (fun M1 hk => ?_)
  obtain ⟨g, rfl, ha, ht, hq0, hr0, hq1, hr1, hg, hga, p⟩ := hk
  refine zk_astore_1 8 dc_CmLaw_law_7 (Nat.le_of_ble_eq_true rfl) rfl ?_
  refine zk_newK 11 dc_CmLaw_law_8 nw_CmLaw_10 rfl (fun f2 ma o2 => ?_)
  have ha := (o2 (B) (by omega) ).trans ha
  have ht := (o2 (B + 1) (by omega) ).trans ht
  have hq0 := (o2 (B + 2) (by omega) ).trans hq0
  have hr0 := (o2 (B + 3) (by omega) ).trans hr0
  have hq1 := (o2 (B + 4) (by omega) ).trans hq1
  have hr1 := (o2 (B + 5) (by omega) ).trans hr1
  have hg := (o2 (B + 8) (by omega) ).trans hg
  have hga := (o2 (B + 9) (by omega) ).trans hga
  refine zk_dup 12 dc_CmLaw_law_11 rfl rfl ?_
  refine zk_cIv 15 (ct_Mo ma (by omega)) dc_CmLaw_law_12 ok_Mo_init lk_CmLaw_12 rfl rfl ⟨Nat.le_of_ble_eq_true rfl, Nat.le_of_ble_eq_true rfl⟩ (Nat.le_of_ble_eq_true rfl) rfl (fun M1 hk => ?_)
  obtain ⟨g2, gk, gv, gs, gl, rfl, ma, mr, mk, mv, ms, ml, m5, m6, m7, m8, m10, m12, m13, m14, m15, p2⟩ := hk
  have ha := (p2 (B) (by omega) (by omega) ).trans ha
  have ht := (p2 (B + 1) (by omega) (by omega) ).trans ht
  have hq0 := (p2 (B + 2) (by omega) (by omega) ).trans hq0
  have hr0 := (p2 (B + 3) (by omega) (by omega) ).trans hr0
  have hq1 := (p2 (B + 4) (by omega) (by omega) ).trans hq1
  have hr1 := (p2 (B + 5) (by omega) (by omega) ).trans hr1
  have hg := (p2 (B + 8) (by omega) (by omega) ).trans hg
  have hga := (p2 (B + 9) (by omega) (by omega) ).trans hga
  refine zk_astore_2 16 dc_CmLaw_law_15 (Nat.le_of_ble_eq_true rfl) rfl ?_
  refine zk_iconst (v := 0) 17 dc_CmLaw_law_16 (by decide) rfl ?_
  refine zk_istore_3 18 dc_CmLaw_law_17 (Nat.le_of_ble_eq_true rfl) rfl ?_
  by_cases h5 : L = 5
  · subst h5
    exact p1_body (a := B) (n := B + 1) (a2 := B + 21) (n2 := B + 22) ha ht hq0 hr0 hq1 hr1 hg hga ma mr mk mv ms ml m5 m6 m7 m8 m10 m12 m13 m14 m15 (by omega) (by omega) (by omega) (by omega) (fun w2 s2 g3 q1 q2 => ⟨rfl, show w2 ≤ B + 600000 by omega, show s2 ≤ 7302250 by omega⟩)
  · exact p1_short (by omega) ⟨rfl, show B + 1 + 20 + 1 + 33 ≤ B + 600000 by omega, show 0 + 9 + 1896 + 48 + 28301 ≤ 7302250 by omega⟩
theorem whole_start {p : Program} {e : Env} {s : State} {m : MethodId} {below : List Frame} {meth : Method} {c : Code} (l : Launch) {b L : Nat} {xs : Nat → Int32} (hL : L ≤ 5) (C0 : lw_At p s m meth c b L xs) : W p l e room_1 s m #[Value.ref b] below meth c s.heap [] 0 0 (lw_Z below #[Value.ref b] s) (entryFrame m ([Value.ref b] : List Value).toArray 4) := by
  exact zk_law l C0 (fun κ D => p1_entry hL)
set_option maxHeartbeats 4000000 in
theorem lw_walk (l : Launch) (b : Addr) (xs : List Int32) : MetFree l x (headSpec (Jvm.Cond.code x code maxLocals ret :: tables_1) room_1) (lw_P b xs) (fun _ _ _ _ _ => True) lw_Q := by
  refine MetFree.of_bodyS (code := code) (maxLocals := maxLocals) (ret := ret) (by decide) ?_ ?_
  · intro args s m h hn
    obtain ⟨meth, c, h1, h2, h3, h4, h5, h6, -, -⟩ := Cond.code_spec hn (atoms_spec (ws := Jvm.Cond.code x code maxLocals ret :: tables_1) h _ List.mem_cons_self)
    exact ⟨meth, c, h1, h2, h3, h4, h5, h6⟩
  · intro p e s m args below meth c s₁ B hml0 hP _
    obtain ⟨rfl, hx, hbd, hgv⟩ := hP
    obtain ⟨scr, harrAt, hlist, hof, hsmall⟩ := hx
    obtain ⟨hcb, hkn, -, -⟩ := State.arrayAt?_spec harrAt
    have hown : s.vm.findClass R_law = some m.cls := findClass_of_methodNamed B.named
    have hts0 : ∀ c ∈ (Jvm.Cond.code x code maxLocals ret :: tables_1), c.before #[Value.ref b] s = true := atoms_spec (ws := Jvm.Cond.code x code maxLocals ret :: tables_1) B.pre
    have hts : ∀ w ∈ lw_tbl, w.before #[Value.ref b] s = true := k2_hts_sels lw_privs (fun w hw => hts0 w (List.mem_cons_of_mem _ hw)) lw_privs_ok
    have hml : c.maxLocals = 4 := B.maxLocals_eq (hts0 _ List.mem_cons_self)
    have X₀ : Stand p l e room_1 s m #[Value.ref b] below meth c s₁ [] 0 0 := Stand.of_body B
    have hh0 : s₁.heap = s.heap := by rw [B.state]; rfl
    have hsz : scr.slots.size = xs.length := by rw [← Array.length_toList, hlist, List.length_map]
    have hval : ∀ j : Nat, j < xs.length → scr.slots[j]? = some (.int (xs.getD j 0)) := fun j hj => by
      rw [← Array.getElem?_toList, hlist]
      simp [hj]
    have hbl : b < s.heap.size := (Array.getElem?_eq_some_iff.mp hcb).1
    have hX : va_X b xs.length (fun j => xs.getD j 0) s s.heap := ⟨scr, hcb, hof, hkn, hsz, hval⟩
    have K : W p l e room_1 s m #[Value.ref b] below meth c s₁.heap [] 0 0 (lw_Z below #[Value.ref b] s) (entryFrame m ([Value.ref b] : List Value).toArray 4) := by
      rw [hh0]
      exact whole_start l hbd ⟨B.exec, B.bytes, B.returns, hml, hown, hts, hX, hbl, B.notSynchronized, hgv⟩
    obtain ⟨t, a1, o, b1, b2, b3⟩ := K s₁ rfl X₀
    exact ⟨t, o, a1, b1, b2, b3⟩
theorem lw_pre_spec {args : Array Value} {s : State} (h : (Jvm.Cond.and given_1 narrow_1).before args s = true) (hr : rest_1_c.before args s = true) : ∃ (b : Addr) (xs : List Int32), lw_P b xs args s := by
  have hs := flat_of_before _ h
  have hq := flat_of_before _ hr
  have hc : (Cond.count 1).before args s = true := hs _ (by decide +kernel)
  have harr : (Cond.arrayOf (.arg 0) .int).before args s = true := hs _ (by decide +kernel)
  have hle : (Cond.le (.length (.arg 0)) (.int 5)).before args s = true := hs _ (by decide +kernel)
  have hlen : (Cond.isInt (.length (.arg 0))).before args s = true := hq _ (by decide +kernel)
  have hall : (Cond.all (.arg 0) (.isInt (.elem (.arg 0) (.index 0)))).before args s = true := hq _ (by decide +kernel)
  obtain ⟨b, xs, hb, hx⟩ := State.ints_of_pre rfl harr hlen hall
  have hsm : xs.length < 2 ^ 31 := hx.choose_spec.2.2.2
  have hev : (Term.length (.arg 0)).eval args s none [] s = some (.int xs.length.toInt32) := hx.length_eval hb
  have hv := Cond.le_ints hev (show (Term.int 5).eval args s none [] s = some (.int 5) from rfl)
  have hd : xs.length.toInt32 ≤ 5 := by
    simpa [Cond.before, Cond.holds, hv] using hle
  have hN : xs.length ≤ 5 := (Int32.ofNat_le_ofNat hsm (by decide)).mp (show Int32.ofNat xs.length ≤ Int32.ofNat 5 from hd)
  exact ⟨b, xs, Cond.one_arg hc (show args[0]? = some (.ref b) from hb), hx, hN, h⟩
theorem lw_comes (l : Launch) : Comes l x (Jvm.Cond.code x code maxLocals ret :: tables_1) room_1 (fun tb e args s => Calls_1 tb e args s ∧ rest_1 tb e args s ∧ Pre_1 tb e args s)
    (fun _ _ args s o t => lw_Q args s o t) := by
  intro p e ha hc hk s m args below hf hfit hheap happ hpre
  obtain ⟨b, xs, hP⟩ := lw_pre_spec hpre.2.2 hpre.2.1
  obtain ⟨k, o, h1, h2, h3, hQ⟩ := lw_walk l b xs p e ha hc hk s m args below hf ((Spec.applies_iff_loose hf).mp happ).1 hP trivial
  exact ⟨k, o, h1, h2, h3, hQ⟩
theorem lw_frame {s t : State} {o : Outcome} {args : Array Value} (h : Framed s o t [] 600000 7302250) :
    Framed s o t (fieldLocs frame_1_writes args s ++ arrayLocs frame_1_arrays args s ++ staticLocs frame_1_statics s) 600000 7302250 := h
theorem lw_limb (L : Cond) (hL : ∀ (args : Array Value) (s t : State), L.after args s (.returned (some (.int 1))) t = true) :
    ArmFor flags0 classFile x code maxLocals ret World_1 tables_1 room_1 Calls_1 rest_1 Pre_1
      (fun tb e a s o t => postC L tb e a s o t ∧ Framed s o t (fieldLocs frame_1_writes a s ++ arrayLocs frame_1_arrays a s ++ staticLocs frame_1_statics s) 600000 7302250) := by
  intro l _ _ _ p e ha hc hk s m args below hf hfit hheap happ hpre
  obtain ⟨k, o, h1, h2, h3, rfl, hF⟩ := lw_comes l p e ha hc hk s m args below hf hfit hheap happ hpre
  exact ⟨k, _, h1, h2, h3, hL args s _, lw_frame hF⟩
theorem i_vc : Claimed_1_1 ∧ Claimed_1_2 := ⟨lw_limb limb_1_1 (fun args s t => by simp [limb_1_1, Cond.after, Cond.holds, Cond.value]), lw_limb limb_1_2 (fun args s t => Cond.after_iff.mpr (by
  first | (rw [show limb_1_2 = Cond.eq .result (.int 1) from rfl, Cond.eq_ints (x := 1) (y := 1) rfl rfl]; simp; done) | (simp [limb_1_2, Cond.value, Term.eval]; done)))⟩
