/-! THE PURE MEMORY AND ITS JUDGEMENT. A cell is an array of ints (length, contents), an array of references (its place among the array types, length, contents) or an object (its class's place, its fields).
A memory: the next address, the slots made so far, the cells. A world Z: the launch, the array classes, the classes' numbers, the first own address, the script's address, its length, its ints. -/
abbrev zk_E : Type := (Nat × (Nat → Int32)) ⊕ ((Nat × Nat × (Nat → Option Nat)) ⊕ (Nat × List Value))
abbrev zk_M : Type := Nat × Nat × (Nat → Option zk_E)
abbrev zk_Z : Type := Launch × (Nat → ClassId) × va_G × Nat × Nat × Nat × (Nat → Int32)
/-- a method: its name, its code, its locals, what it returns; the frames and the words of locals that it asks for below itself -/
abbrev zk_Mt : Type := MethodName × ByteArray × Nat × Option FieldType × Nat × Nat
def zk_tr (Z : zk_Z) (e : zk_E) : va_E := match e with
  | .inl a => .inl (Z.2.1 0, a.1, .inl a.2)
  | .inr (.inl a) => .inl (Z.2.1 a.1, a.2.1, .inr (.inr (.inr (.inr a.2.2))))
  | .inr (.inr o) => .inr o
/-- the heap holds the memory -/
def zk_H (Z : zk_Z) (M : zk_M) (H : Heap) : Prop := H.size = M.1 ∧ ∀ (a : Nat) (e : zk_E), M.2.2 a = some e → Z.2.2.2.1 ≤ a ∧ va_at Z.2.2.1 vwCl (a, zk_tr Z e) H
def zk_A (Z : zk_Z) : Nat → Prop := fun q => Z.2.2.2.1 ≤ q
def zk_tys (Z : zk_Z) : List (ClassId × FieldType) := (List.range zk_ty.length).map fun i => (Z.2.1 i, zk_ty.getD i .int)
theorem zk_tys_at {Z : zk_Z} {i : Nat} {t : FieldType} (h : zk_ty[i]? = some t) : (zk_tys Z)[i]? = some (Z.2.1 i, t) := by
  have hl := (List.getElem?_eq_some_iff.mp h).1
  have e : zk_ty.getD i .int = t := by rw [List.getD_eq_getElem?_getD, h]; rfl
  rw [zk_tys, List.getElem?_map, List.getElem?_range hl]
  show some (Z.2.1 i, zk_ty.getD i .int) = _
  rw [e]
def zk_ws (μ : zk_Mt) : List Cond := Cond.code μ.1 μ.2.1 μ.2.2.1 μ.2.2.2.1 :: zk_all
/-- what holds of the machine while a method of ours runs -/
def zk_Ctx (Z : zk_Z) (μ : zk_Mt) (p : Program) (s : State) (m : MethodId) (args : Array Value) (meth : Method) (c : Code) : Prop :=
  p.tables.exec = Jvm.exec ∧ c.code = μ.2.1 ∧ meth.sig.returnType = μ.2.2.2.1 ∧ c.maxLocals = μ.2.2.1 ∧ s.vm.findClass μ.1.cls = some m.cls ∧ (∀ w ∈ zk_all, w.before args s = true) ∧ meth.locks = false ∧ (μ.1.name = "<init>" → meth.name = "<init>") ∧ va_K Z.2.2.1 vwCl (zk_tys Z) s ∧ Z.2.2.2.1 ≤ s.heap.size ∧ va_X Z.2.2.2.2.1 Z.2.2.2.2.2.1 Z.2.2.2.2.2.2 s s.heap ∧ Z.2.2.2.2.1 < Z.2.2.2.1 ∧ ∀ w ∈ zk_nw, va_Nw w s
def zk_Pc (Z : zk_Z) (as : List Value) (M : zk_M) : Array Value → State → Prop := fun v U => v = as.toArray ∧ zk_H Z M U.heap ∧ va_K Z.2.2.1 vwCl (zk_tys Z) U ∧ Z.2.2.2.1 ≤ U.heap.size ∧ va_X Z.2.2.2.2.1 Z.2.2.2.2.2.1 Z.2.2.2.2.2.2 U U.heap ∧ Z.2.2.2.2.1 < Z.2.2.2.1 ∧ ∀ w ∈ zk_nw, va_Nw w U
def zk_Q (Z : zk_Z) (r : Option Value) (M : zk_M) : Array Value → State → Outcome → State → Prop := fun _ st o t => o = .returned r ∧ zk_H Z M t.heap ∧ va_F (zk_A Z) st t
def zk_rm (μ : zk_Mt) (C S : Nat) : Room := { frames := μ.2.2.2.2.1, cells := C, slots := S, locals := μ.2.2.2.2.2 }
/-- the locals: what is listed is held, each of one slot -/
def zk_Lo (ls : Array Slot) (n : Nat) (lo : List (Option Value)) : Prop := ls.size = n ∧ lv_wf ls ∧ ∀ (i : Nat) (v : Value), lo[i]? = some (some v) → v.category = 1 ∧ ls[i]? = some (.val v)
def zk_ll (lo : List (Option Value)) : List (Nat × Value) := (List.range lo.length).filterMap fun j => (lo.getD j none).map fun v => (j, v)
theorem zk_ll_mem {lo : List (Option Value)} {q : Nat × Value} : q ∈ zk_ll lo ↔ lo[q.1]? = some (some q.2) := by
  obtain ⟨j, w⟩ := q
  constructor
  · intro h
    obtain ⟨i, hi, he⟩ := List.mem_filterMap.mp h
    have hl := List.mem_range.mp hi
    rw [List.getD_eq_getElem?_getD, List.getElem?_eq_getElem hl] at he
    cases hx : lo[i] with
    | none => simp [hx] at he
    | some x =>
      simp [hx] at he
      obtain ⟨e1, e2⟩ := he
      subst e1; subst e2
      show lo[i]? = some (some x)
      rw [List.getElem?_eq_getElem hl, hx]
  · intro h
    have h : lo[j]? = some (some w) := h
    refine List.mem_filterMap.mpr ⟨j, List.mem_range.mpr (List.getElem?_eq_some_iff.mp h).1, ?_⟩
    rw [List.getD_eq_getElem?_getD, h]
    rfl
theorem zk_Lo.has {ls : Array Slot} {n : Nat} {lo : List (Option Value)} (h : zk_Lo ls n lo) : lv_has ls n (zk_ll lo) := ⟨h.1, h.2.1, fun q hq => (h.2.2 q.1 q.2 (zk_ll_mem.mp hq)).2⟩
theorem zk_Lo.at {ls : Array Slot} {n : Nat} {lo : List (Option Value)} (h : zk_Lo ls n lo) {i : Nat} {v : Value} (hv : lo[i]? = some (some v)) : ls[i]? = some (.val v) := (h.2.2 i v hv).2
theorem zk_Lo.set {ls ls' : Array Slot} {n i : Nat} {v : Value} {lo : List (Option Value)} (h : zk_Lo ls n lo) (hc : v.category = 1) (h' : lv_has ls' n ((i, v) :: (zk_ll lo).filter (fun q => !(q.1 == i) && !(q.1 + 1 == i && q.2.category == 2)))) : zk_Lo ls' n (lo.set i (some v)) := by
  refine ⟨h'.1, h'.2.1, fun j w hj => ?_⟩
  by_cases hji : j = i
  · subst hji
    have hl : j < lo.length := by
      have := (List.getElem?_eq_some_iff.mp hj).1
      simpa using this
    rw [List.getElem?_set_self hl] at hj
    cases hj
    exact ⟨hc, h'.2.2 (j, v) List.mem_cons_self⟩
  · rw [List.getElem?_set_ne (Ne.symm hji)] at hj
    have hw := (h.2.2 j w hj).1
    refine ⟨hw, h'.2.2 (j, w) (List.mem_cons_of_mem _ (List.mem_filter.mpr ⟨zk_ll_mem.mpr hj, ?_⟩))⟩
    simp [hji, hw]
/-- FROM HERE, WITH THIS MEMORY, THE METHOD RETURNS r, AND THE MEMORY IS THEN M' -/
def zk_X (Z : zk_Z) (μ : zk_Mt) (pc : Nat) (lo : List (Option Value)) (st : List Value) (M : zk_M) (r : Option Value) (M' : zk_M) : Prop :=
  M.1 ≤ M'.1 ∧ M.2.1 ≤ M'.2.1 ∧ ∀ (p : Program) (e : Env) (s : State) (m : MethodId) (args : Array Value) (below : List Frame) (meth : Method) (c : Code) (H : Heap) (locs : List Loc) (cells slots C S : Nat) (ls : Array Slot),
    zk_Ctx Z μ p s m args meth c → zk_H Z M H → va_S (zk_A Z) s.heap H locs → zk_Lo ls μ.2.2.1 lo → cells + (M'.1 - M.1) ≤ C → slots + (M'.2.1 - M.2.1) ≤ S →
    W p Z.1 e (zk_rm μ C S) s m args below meth c H locs cells slots (MQ below (zk_Q Z r M') args s C S (zk_A Z)) (F0 m pc ls st)
def zk_P (Z : zk_Z) (μ : zk_Mt) (pc : Nat) (lo : List (Option Value)) (st : List Value) (M : zk_M) (R : Option Value → zk_M → Prop) : Prop := ∃ (r : Option Value) (M' : zk_M), R r M' ∧ zk_X Z μ pc lo st M r M'
/-- A CONTRACT: called with these, with this memory, it returns r, and the memory is then M' -/
def zk_C (Z : zk_Z) (μ : zk_Mt) (as : List Value) (M : zk_M) (r : Option Value) (M' : zk_M) : Prop :=
  M.1 ≤ M'.1 ∧ M.2.1 ≤ M'.2.1 ∧ Met Z.1 μ.1 (zk_ws μ) (zk_rm μ (M'.1 - M.1) (M'.2.1 - M.2.1)) (zk_Pc Z as M) (zk_Q Z r M') (M'.1 - M.1) (M'.2.1 - M.2.1) (zk_A Z)
def zk_K (Z : zk_Z) (μ : zk_Mt) (as : List Value) (M : zk_M) (R : Option Value → zk_M → Prop) : Prop := ∃ (r : Option Value) (M' : zk_M), R r M' ∧ zk_C Z μ as M r M'
theorem zk_P.mono {Z : zk_Z} {μ : zk_Mt} {pc : Nat} {lo : List (Option Value)} {st : List Value} {M : zk_M} {R R' : Option Value → zk_M → Prop} (h : zk_P Z μ pc lo st M R) (hr : ∀ r M', R r M' → R' r M') : zk_P Z μ pc lo st M R' := by
  obtain ⟨r, M', h1, h2⟩ := h
  exact ⟨r, M', hr r M' h1, h2⟩
theorem zk_sl {as : List Value} (hc : ∀ v ∈ as, v.category = 1) : (lg_sl as).length = as.length := by
  induction as with
  | nil => rfl
  | cons v as ih =>
    have hv : ¬ v.category = 2 := by rw [hc v List.mem_cons_self]; decide
    have e : lg_sl (v :: as) = Slot.val v :: lg_sl as := by simp [lg_sl, hv]
    rw [e, List.length_cons, List.length_cons, ih fun w hw => hc w (List.mem_cons_of_mem _ hw)]
theorem zk_args {as : List Value} (hc : ∀ v ∈ as, v.category = 1) : ∀ (k i : Nat) (v : Value), as[i]? = some v → (k + i, v) ∈ lv_args k as := by
  induction as with
  | nil => intro k i v h; simp at h
  | cons w as ih =>
    intro k i v h
    have hw : ¬ w.category = 2 := by rw [hc w List.mem_cons_self]; decide
    cases i with
    | zero =>
      rw [List.getElem?_cons_zero] at h
      cases h
      exact List.mem_cons_self
    | succ i =>
      rw [List.getElem?_cons_succ] at h
      have := ih (fun w hw => hc w (List.mem_cons_of_mem _ hw)) (k + 1) i v h
      rw [lv_args, if_neg hw]
      refine List.mem_cons_of_mem _ ?_
      rw [show k + (i + 1) = k + 1 + i by omega]
      exact this
theorem zk_enter {Z : zk_Z} {μ : zk_Mt} {as : List Value} {M : zk_M} {r : Option Value} {M' : zk_M} (hp : plainName μ.1.cls = true) (hn : as.length ≤ μ.2.2.1) (hc : ∀ v ∈ as, v.category = 1) (h : zk_X Z μ 0 (as.map some ++ List.replicate (μ.2.2.1 - as.length) none) [] M r M') : zk_C Z μ as M r M' := by
  refine ⟨h.1, h.2.1, Met.ofW (cc := μ.2.1) (maxL := μ.2.2.1) (ret := μ.2.2.2.1) hp rfl ?_⟩
  intro p e s m args below meth c s₁ B hml hv
  obtain ⟨rfl, hH, hK, hbs, hX, hbb, hnw⟩ := hv
  have ctx : zk_Ctx Z μ p s m as.toArray meth c := ⟨B.exec, B.bytes, B.returns, hml, findClass_of_methodNamed B.named, (fun w hw => atoms_spec (ws := zk_ws μ) B.pre w (List.mem_cons_of_mem _ hw)), B.notSynchronized, (fun h => (name_of_methodNamed B.named B.method).1.trans h), hK, hbs, hX, hbb, hnw⟩
  have hl := lv_entry as (n := μ.2.2.1) (by rw [zk_sl hc]; exact hn)
  rw [lg_entry_eq]
  refine h.2.2 p e s m as.toArray below meth c s.heap [] 0 0 _ _ _ ctx hH va_S.rf ⟨hl.1, hl.2.1, fun i v hi => ?_⟩ (by simp) (by simp)
  by_cases hia : i < as.length
  · rw [List.getElem?_append_left (by simpa using hia), List.getElem?_map] at hi
    cases hx : as[i]? with
    | none => rw [hx] at hi; cases hi
    | some w =>
      rw [hx] at hi
      cases hi
      have hm := zk_args hc 0 i v hx
      rw [Nat.zero_add] at hm
      exact ⟨hc v (List.mem_of_getElem? hx), hl.2.2 _ hm⟩
  · rw [List.getElem?_append_right (by simpa using hia)] at hi
    have := List.mem_of_getElem? hi
    have := (List.mem_replicate.mp this).2
    cases this
theorem zk_enterK {Z : zk_Z} {μ : zk_Mt} {as : List Value} {M : zk_M} {R : Option Value → zk_M → Prop} (hp : plainName μ.1.cls = true) (hn : as.length ≤ μ.2.2.1) (hc : ∀ v ∈ as, v.category = 1) (h : zk_P Z μ 0 (as.map some ++ List.replicate (μ.2.2.1 - as.length) none) [] M R) : zk_K Z μ as M R := by
  obtain ⟨r, M', h1, h2⟩ := h
  exact ⟨r, M', h1, zk_enter hp hn hc h2⟩
