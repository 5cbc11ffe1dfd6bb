/-! THE RULES OF FIELDS, ARRAYS, NEW CELLS AND CALLS -/
theorem zk_one {D : va_G} {cl : List vw_C} {x : Nat × va_E} {H : Heap} (h : va_at D cl x H) : va_P D cl [x] H := by
  intro k q hq
  have hz : k < 1 := (List.getElem?_eq_some_iff.mp hq).1
  rw [show k = 0 by omega] at hq
  cases hq
  exact h
theorem zk_H.put {Z : zk_Z} {M : zk_M} {H H1 : Heap} {a : Nat} {e0 e : zk_E} (h : zk_H Z M H) (h0 : M.2.2 a = some e0) (hz : H1.size = H.size) (ho : ∀ q : Nat, q ≠ a → H1[q]? = H[q]?) (he : va_at Z.2.2.1 vwCl (a, zk_tr Z e) H1) : zk_H Z (M.1, M.2.1, va_up M.2.2 a (some e)) H1 := by
  refine ⟨by rw [hz]; exact h.1, fun b x hb => ?_⟩
  by_cases hba : b = a
  · subst hba
    have hb : va_up M.2.2 b (some e) b = some x := hb
    rw [va_up_self] at hb
    cases hb
    exact ⟨(h.2 b e0 h0).1, he⟩
  · have hb : va_up M.2.2 a (some e) b = some x := hb
    rw [va_up_ne _ _ hba] at hb
    exact ⟨(h.2 b x hb).1, (h.2 b x hb).2.kept (ho b hba)⟩
theorem zk_H.lt {Z : zk_Z} {M : zk_M} {H : Heap} (h : zk_H Z M H) {a : Nat} {e : zk_E} (ha : M.2.2 a = some e) : a < M.1 := by
  rw [← h.1]
  exact (h.2 a e ha).2.lt
theorem zk_H.push {Z : zk_Z} {M : zk_M} {H H1 : Heap} {e : zk_E} {n : Nat} (h : zk_H Z M H) (hz : H1.size = M.1 + 1) (ho : ∀ q : Nat, q < M.1 → H1[q]? = H[q]?) (he : va_at Z.2.2.1 vwCl (M.1, zk_tr Z e) H1) (hb : Z.2.2.2.1 ≤ M.1) : zk_H Z (M.1 + 1, M.2.1 + n, va_up M.2.2 M.1 (some e)) H1 := by
  refine ⟨hz, fun b x hx => ?_⟩
  have hx : va_up M.2.2 M.1 (some e) b = some x := hx
  by_cases hba : b = M.1
  · subst hba
    rw [va_up_self] at hx
    cases hx
    exact ⟨hb, he⟩
  · rw [va_up_ne _ _ hba] at hx
    exact ⟨(h.2 b x hx).1, (h.2 b x hx).2.kept (ho b (h.lt hx))⟩
section ZKM
variable {Z : zk_Z} {μ : zk_Mt} {pc : Nat} {lo : List (Option Value)} {st : List Value} {M : zk_M} {R : Option Value → zk_M → Prop}
/-- a step that writes to one cell -/
theorem zk_lift2 {pc' : Nat} {st' : List Value} {f : Nat → Option zk_E}
    (hstep : ∀ (p : Program) (e : Env) (s : State) (m : MethodId) (args : Array Value) (below : List Frame) (meth : Method) (c : Code) (H : Heap) (locs : List Loc) (cells slots C S : Nat) (ls : Array Slot) (Q : State → Prop),
      zk_Ctx Z μ p s m args meth c → zk_H Z M H → va_S (zk_A Z) s.heap H locs → zk_Lo ls μ.2.2.1 lo →
      (∀ (H1 : Heap) (locs1 : List Loc), zk_H Z (M.1, M.2.1, f) H1 → va_S (zk_A Z) s.heap H1 locs1 → W p Z.1 e (zk_rm μ C S) s m args below meth c H1 locs1 cells slots Q (F0 m pc' ls st')) → W p Z.1 e (zk_rm μ C S) s m args below meth c H locs cells slots Q (F0 m pc ls st))
    (k : zk_P Z μ pc' lo st' (M.1, M.2.1, f) R) : zk_P Z μ pc lo st M R := by
  obtain ⟨r, M', hR, h1, h2, h⟩ := k
  exact ⟨r, M', hR, h1, h2, fun p e s m args below meth c H locs cells slots C S ls cx hH hS hl hc hs => hstep p e s m args below meth c H locs cells slots C S ls _ cx hH hS hl fun H1 locs1 hH1 hS1 => h p e s m args below meth c H1 locs1 cells slots C S ls cx hH1 hS1 hl hc hs⟩
/-- a step that makes a cell -/
theorem zk_lift3 {pc' n : Nat} {st' : List Value} {f : Nat → Option zk_E}
    (hstep : ∀ (p : Program) (e : Env) (s : State) (m : MethodId) (args : Array Value) (below : List Frame) (meth : Method) (c : Code) (H : Heap) (locs : List Loc) (cells slots C S : Nat) (ls : Array Slot) (Q : State → Prop),
      zk_Ctx Z μ p s m args meth c → zk_H Z M H → va_S (zk_A Z) s.heap H locs → zk_Lo ls μ.2.2.1 lo → cells + 1 ≤ (zk_rm μ C S).cells → slots + n ≤ (zk_rm μ C S).slots →
      (∀ H1 : Heap, zk_H Z (M.1 + 1, M.2.1 + n, f) H1 → va_S (zk_A Z) s.heap H1 locs → W p Z.1 e (zk_rm μ C S) s m args below meth c H1 locs (cells + 1) (slots + n) Q (F0 m pc' ls st')) → W p Z.1 e (zk_rm μ C S) s m args below meth c H locs cells slots Q (F0 m pc ls st))
    (k : zk_P Z μ pc' lo st' (M.1 + 1, M.2.1 + n, f) R) : zk_P Z μ pc lo st M R := by
  obtain ⟨r, M', hR, h1, h2, h⟩ := k
  have h1 : M.1 + 1 ≤ M'.1 := h1
  have h2 : M.2.1 + n ≤ M'.2.1 := h2
  refine ⟨r, M', hR, by omega, by omega, fun p e s m args below meth c H locs cells slots C S ls cx hH hS hl hc hs => hstep p e s m args below meth c H locs cells slots C S ls _ cx hH hS hl (show cells + 1 ≤ C by omega) (show slots + n ≤ S by omega) fun H1 hH1 hS1 => h p e s m args below meth c H1 locs (cells + 1) (slots + n) C S ls cx hH1 hS1 hl (show cells + 1 + (M'.1 - (M.1 + 1)) ≤ C by omega) (show slots + n + (M'.2.1 - (M.2.1 + n)) ≤ S by omega)⟩
def zk_F (own : String) (idx ci k : Nat) : Prop := ∃ (C : String) (T : u_T) (N : Nat), vwCl[ci]? = some (C, T, N) ∧ k < N ∧ Cond.fieldLink own idx (T k).1 (T k).2.1 (T k).2.2.1 ∈ zk_all
def zk_Fp (own : String) (idx ci k : Nat) (ty : FieldType) (fin : Bool) : Prop := ∃ (C : String) (T : u_T) (N : Nat), vwCl[ci]? = some (C, T, N) ∧ k < N ∧ Cond.fieldLink own idx (T k).1 (T k).2.1 (T k).2.2.1 ∈ zk_all ∧ parseFieldDescriptor (T k).2.2.1 = some ty ∧ (T k).2.2.2 = fin ∧ (T k).1 = C
theorem zk_getfield {idx ci j a : Nat} {fs : List Value} {v : Value} (q : Nat) (hd : decode μ.2.1 pc = .ok (.getfield idx, 3)) (hf : zk_F μ.1.cls idx ci j) (hM : M.2.2 a = some (.inr (.inr (ci, fs)))) (hv : fs[j]? = some v) (hq : pc + 3 = q) (k : zk_P Z μ q lo (v :: st) M R) : zk_P Z μ pc lo (.ref a :: st) M R := by
  subst hq
  obtain ⟨C, T, N, hc, hj, hw⟩ := hf
  exact zk_lift (fun p e s m args below meth c H locs cells slots C0 S ls Q cx hH hS hl hcc hss kk =>
    va_get (D := Z.2.2.1) (cl := vwCl) (ci := ci) (fs := fs) cx.1 cx.2.1 cx.2.2.2.2.2.1 (zk_cls_ok ci C T N hc).1 cx.2.2.2.2.1 cx.2.2.2.2.2.2.2.2.1 (zk_one (hH.2 a _ hM).2) 0 rfl hc j hj (cx.2.2.2.2.2.1 _ hw) (fun _ h => h) hv hd (kk ls hl)) k
theorem zk_putG {idx ci j a : Nat} {fs : List Value} {v : Value} {ty : FieldType} (q : Nat) (hd : decode μ.2.1 pc = .ok (.putfield idx, 3)) (hf : zk_Fp μ.1.cls idx ci j ty false) (hM : M.2.2 a = some (.inr (.inr (ci, fs)))) (hn : narrow ty v = v) (hfit : fits ty v = true) (hlen : j < fs.length) (hq : pc + 3 = q) (k : zk_P Z μ q lo st (M.1, M.2.1, va_up M.2.2 a (some (.inr (.inr (ci, fs.set j v))))) R) : zk_P Z μ pc lo (v :: .ref a :: st) M R := by
  subst hq
  obtain ⟨C, T, N, hc, hj, hw, hty, hfin, -⟩ := hf
  obtain ⟨hin, ty0, hty0, hnm⟩ := zk_cls_ok ci C T N hc
  refine zk_lift2 (fun p e s m args below meth c H locs cells slots C0 S ls Q cx hH hS hl kk => ?_) k
  have hts := cx.2.2.2.2.2.1
  have hin' : ∀ w ∈ u_ws C T N, w ∈ zk_all := hin
  have hK := cx.2.2.2.2.2.2.2.2.1
  have hap := va_apart (own := μ.1.cls) hts hin' ty0 hty0 hnm hK hc
  obtain ⟨r, h1, cell, q1, q2, q3, q4⟩ := (hH.2 a _ hM).2
  have hr : r = (C, T, N) := Option.some.inj (h1.symm.trans hc)
  subst hr
  obtain ⟨hSl, hfc, kC, hkC, hkind⟩ := hK.1 ci _ hc
  obtain ⟨cf, kf, fi, f, hi, hsl⟩ := hSl j hj
  have hlay := hts _ (hin' _ (u_in_lay hj))
  unfold u_lay at hlay
  rw [if_neg (by rw [hfin]; decide)] at hlay
  have hst := (u_facts hfc hkC (u_lays hts hin' hj) hi).1
  have h6 := u_store hfc hkC hkind hlay hi hty hn hfit
  refine W.putK cx.1 cx.2.1 (f := f) ⟨cx.2.2.2.2.1, hts _ hw, ⟨_, _, _, hi⟩, hst⟩ (by rw [q2]; exact h6) q1 q3 (by rw [hsl]; exact k2_hasslot (q4 j hj)) rfl rfl hd fun H' e1 e2 e3 => ?_
  rw [hsl] at e1 ⊢
  exact kk H' _ (hH.put hM e2 e3 ⟨_, hc, t_OB.to (V := updV (vp_V fs) j v) ⟨_, e1, q2, q3, t_set q4 hap hj v⟩ (fun i _ => vp_updV_set hlen v i)⟩) (hS.put e2 e3 (hH.2 a _ hM).1)
theorem zk_putGF {idx ci j a : Nat} {fs : List Value} {v : Value} {ty : FieldType} (q : Nat) (hd : decode μ.2.1 pc = .ok (.putfield idx, 3)) (hf : zk_Fp μ.1.cls idx ci j ty true) (hcl : ∀ C T N, vwCl[ci]? = some (C, T, N) → C = μ.1.cls) (hinit : μ.1.name = "<init>") (hM : M.2.2 a = some (.inr (.inr (ci, fs)))) (hn : narrow ty v = v) (hfit : fits ty v = true) (hlen : j < fs.length) (hq : pc + 3 = q) (k : zk_P Z μ q lo st (M.1, M.2.1, va_up M.2.2 a (some (.inr (.inr (ci, fs.set j v))))) R) : zk_P Z μ pc lo (v :: .ref a :: st) M R := by
  subst hq
  obtain ⟨C, T, N, hc, hj, hw, hty, hfin, hdecl⟩ := hf
  have hown : C = μ.1.cls := hcl C T N hc
  obtain ⟨hin, ty0, hty0, hnm⟩ := zk_cls_ok ci C T N hc
  refine zk_lift2 (fun p e s m args below meth c H locs cells slots C0 S ls Q cx hH hS hl kk => ?_) k
  have hts := cx.2.2.2.2.2.1
  have hin' : ∀ w ∈ u_ws C T N, w ∈ zk_all := hin
  have hK := cx.2.2.2.2.2.2.2.2.1
  have hap := va_apart (own := μ.1.cls) hts hin' ty0 hty0 hnm hK hc
  obtain ⟨r, h1, cell, q1, q2, q3, q4⟩ := (hH.2 a _ hM).2
  have hr : r = (C, T, N) := Option.some.inj (h1.symm.trans hc)
  subst hr
  obtain ⟨hSl, hfc, kC, hkC, hkind⟩ := hK.1 ci _ hc
  obtain ⟨cf, kf, fi, f, hi, hsl⟩ := hSl j hj
  have hlay := hts _ (hin' _ (u_in_lay hj))
  unfold u_lay at hlay
  rw [if_pos hfin] at hlay
  have hst := (u_facts hfc hkC (u_lays hts hin' hj) hi).1
  have hcf : m.cls = cf := by
    obtain ⟨_, _, c', _, _, _, -, -, hf', -, -, -, hown2, -⟩ := Cond.laysFinal_spec hlay
    have e1 : c' = cf := by have := hi.symm.trans hf'; simp at this; exact this.1.symm
    rw [hdecl, hown] at hown2
    rw [← e1]; exact Option.some.inj (cx.2.2.2.2.1.symm.trans hown2)
  have h6 := u_fits hfc hkC hkind (Or.inr hlay) hi hty hn hfit
  refine W.putFinK cx.1 cx.2.1 cx.2.2.2.2.1 (hts _ hw) hi hst hcf (cx.2.2.2.2.2.2.2.1 hinit) (by rw [q2]; exact h6) q1 q3 (by rw [hsl]; exact k2_hasslot (q4 j hj)) rfl rfl hd fun H' e1 e2 e3 => ?_
  rw [hsl] at e1 ⊢
  exact kk H' _ (hH.put hM e2 e3 ⟨_, hc, t_OB.to (V := updV (vp_V fs) j v) ⟨_, e1, q2, q3, t_set q4 hap hj v⟩ (fun i _ => vp_updV_set hlen v i)⟩) (hS.put e2 e3 (hH.2 a _ hM).1)
/-- Object.<init> -/
theorem zk_objInit {idx a : Nat} (q : Nat) (hd : decode μ.2.1 pc = .ok (.invokespecial idx, 3)) (h1 : Cond.methodLink μ.1.cls idx objectInit ∈ zk_all) (h2 : Cond.instanceMethod objectInit ∈ zk_all) (h3 : Cond.code objectInit ⟨#[0xb1]⟩ 1 none ∈ zk_all) (hw : (st.map fun v => v.category).sum + 12 ≤ μ.2.2.2.2.2) (hd0 : 1 ≤ μ.2.2.2.2.1) (hq : pc + 3 = q) (k : zk_P Z μ q lo st M R) : zk_P Z μ pc lo (.ref a :: st) M R := by
  subst hq
  exact zk_lift (fun p e s m args below meth c H locs cells slots C0 S ls Q cx hH hS hl hcc hss kk =>
    W.objInit cx.1 cx.2.1 cx.2.2.2.2.1 (cx.2.2.2.2.2.1 _ h1) (cx.2.2.2.2.2.1 _ h2) (cx.2.2.2.2.2.1 _ h3) rfl (by rw [cx.2.2.2.1]; exact hl.1) rfl hd hd0 (show 2 * 0 + _ + 12 ≤ μ.2.2.2.2.2 by omega) (kk ls hl)) k
/-- new: an object -/
def zk_N (own : String) (idx ci N : Nat) (fs : List Value) : Prop := ∃ (C : String) (T : u_T) (ty : Nat → FieldType), vwCl[ci]? = some (C, T, N) ∧ Cond.classLink own idx C ∈ zk_all ∧ Cond.instantiable C N ∈ zk_all ∧ Cond.initialized C ∈ zk_all ∧ (∀ k, k < N → parseFieldDescriptor (T k).2.2.1 = some (ty k)) ∧ ∀ j, j < N → defaultValue (ty j) = vp_V fs j
theorem zk_new {idx ci N : Nat} {fs : List Value} (q : Nat) (hd : decode μ.2.1 pc = .ok (.new idx, 3)) (hf : zk_N μ.1.cls idx ci N fs) (hq : pc + 3 = q) (k : zk_P Z μ q lo (.ref M.1 :: st) (M.1 + 1, M.2.1 + N, va_up M.2.2 M.1 (some (.inr (.inr (ci, fs))))) R) : zk_P Z μ pc lo st M R := by
  subst hq
  obtain ⟨C, T, ty, hc, w1, w2, w3, hty, hfs⟩ := hf
  refine zk_lift3 (fun p e s m args below meth c H locs cells slots C0 S ls Q cx hH hS hl hcc hss kk => ?_) k
  have hts := cx.2.2.2.2.2.1
  have hK := cx.2.2.2.2.2.2.2.2.1
  have hKn := hK.1 ci _ hc
  refine W.newcK cx.1 cx.2.1 cx.2.2.2.2.1 (hts _ w1) (hts _ w2) (hts _ w3) rfl hd hcc hss hKn.2.1 hH.1 fun H1 kC hkC e1 z1 o1 => ?_
  have hb : Z.2.2.2.1 ≤ M.1 := by rw [← hH.1]; exact Nat.le_trans cx.2.2.2.2.2.2.2.2.2.1 hS.1
  have hsz := hH.1
  refine kk H1 (hH.push z1 o1 ⟨_, hc, (u_born ty hts (zk_cls_ok ci C T N hc).1 hKn hkC e1 hty).to hfs⟩ hb) ⟨Nat.le_trans hS.1 (by omega), fun x g1 g2 => (o1 x (by have := hS.1; omega)).trans (hS.2.1 x g1 g2), hS.2.2⟩
/-- new int[n] -/
theorem zk_newi {n : Int32} {N : Nat} (q : Nat) (hd : decode μ.2.1 pc = .ok (.newarray .int, 2)) (hw : Cond.arrayClass .int ∈ zk_all) (ht : zk_ty[0]? = some .int) (hn : ¬ n < 0) (hN : n.toNatClampNeg = N) (hbytes : N * 4 ≤ 536870912) (hq : pc + 2 = q) (k : zk_P Z μ q lo (.ref M.1 :: st) (M.1 + 1, M.2.1 + N, va_up M.2.2 M.1 (some (.inl (N, fun _ => 0)))) R) : zk_P Z μ pc lo (.int n :: st) M R := by
  subst hq
  refine zk_lift3 (fun p e s m args below meth c H locs cells slots C0 S ls Q cx hH hS hl hcc hss kk => ?_) k
  have hts := cx.2.2.2.2.2.1
  have hK := cx.2.2.2.2.2.2.2.2.1
  refine va_newaK cx.1 cx.2.1 (atype := .int) (hts _ hw) rfl hd rfl hn hN hbytes hcc hss hH.1 fun H1 cA e1 z1 o1 hAr hNm => ?_
  have hb : Z.2.2.2.1 ≤ M.1 := by rw [← hH.1]; exact Nat.le_trans cx.2.2.2.2.2.2.2.2.2.1 hS.1
  have hsz := hH.1
  have hcA : cA = Z.2.1 0 := by
    have h2 : s.vm.findClass ("[" ++ FieldType.int.toString) = some (Z.2.1 0) := (hK.2 0 _ (zk_tys_at ht)).2
    exact Option.some.inj (hNm.symm.trans h2)
  subst hcA
  refine kk H1 (hH.push z1 o1 ?_ hb) ⟨Nat.le_trans hS.1 (by omega), fun x g1 g2 => (o1 x (by have := hS.1; omega)).trans (hS.2.1 x g1 g2), hS.2.2⟩
  show H1[M.1]? = some (vp_cell _ _)
  rw [vp_cell_i]
  exact e1
/-- new C[n] -/
theorem zk_newq {idx t : Nat} {n : Int32} {N : Nat} {C : String} (q : Nat) (hd : decode μ.2.1 pc = .ok (.anewarray idx, 3)) (hw : Cond.classLink μ.1.cls idx C ∈ zk_all) (hw2 : Cond.arrayOver (.object C) ∈ zk_nw) (ht : zk_ty[t]? = some (.object C)) (hn : ¬ n < 0) (hN : n.toNatClampNeg = N) (hbytes : N * 4 ≤ 536870912) (hq : pc + 3 = q) (k : zk_P Z μ q lo (.ref M.1 :: st) (M.1 + 1, M.2.1 + N, va_up M.2.2 M.1 (some (.inr (.inl (t, N, fun _ => none))))) R) : zk_P Z μ pc lo (.int n :: st) M R := by
  subst hq; subst hN
  refine zk_lift3 (fun p e s m args below meth c H locs cells slots C0 S ls Q cx hH hS hl hcc hss kk => ?_) k
  have hts := cx.2.2.2.2.2.1
  have hK := cx.2.2.2.2.2.2.2.2.1
  refine W.anew cx.1 cx.2.1 cx.2.2.2.2.1 (hts _ hw) (va_AO.use (cx.2.2.2.2.2.2.2.2.2.2.2.2 _ hw2)) rfl hd rfl hn hbytes hcc hss fun cA kA comp f1 f2 f3 f4 => ?_
  generalize hH1 : H.push ({ cls := cA, slots := Array.replicate n.toNatClampNeg .null, vm := .none } : Cell) = H1
  have z1 : H1.size = M.1 + 1 := by rw [← hH1, Array.size_push, hH.1]
  have e1 : H1[M.1]? = some (arrV cA n.toNatClampNeg (fun _ => .null)) := by rw [← hH1, ← hH.1, Array.getElem?_push_size, ← arrV_new]
  have o1 : ∀ q : Nat, q < M.1 → H1[q]? = H[q]? := fun q hq => by rw [← hH1, Array.getElem?_push, if_neg (by rw [hH.1]; exact Nat.ne_of_lt hq)]
  have hb : Z.2.2.2.1 ≤ M.1 := by rw [← hH.1]; exact Nat.le_trans cx.2.2.2.2.2.2.2.2.2.1 hS.1
  have hsz := hH.1
  have hcA : cA = Z.2.1 t := by
    obtain ⟨_, _, -, -, -, h2⟩ := (hK.2 t _ (zk_tys_at ht)).2
    exact Option.some.inj (f1.symm.trans h2)
  subst hcA
  rw [hH.1]
  refine kk H1 (hH.push z1 o1 ?_ hb) ⟨Nat.le_trans hS.1 (by omega), fun x g1 g2 => (o1 x (by have := hS.1; omega)).trans (hS.2.1 x g1 g2), hS.2.2⟩
  show H1[M.1]? = some (vp_cell _ _)
  rw [vp_cell_q]
  exact e1
theorem zk_iaload {a n : Nat} {g : Nat → Int32} {i : Int32} (q : Nat) (hd : decode μ.2.1 pc = .ok (.iaload, 1)) (ht : zk_ty[0]? = some .int) (hM : M.2.2 a = some (.inl (n, g))) (hin : vp_in i n) (hq : pc + 1 = q) (k : zk_P Z μ q lo (.int (g i.toNatClampNeg) :: st) M R) : zk_P Z μ pc lo (.int i :: .ref a :: st) M R := by
  subst hq
  exact zk_lift (fun p e s m args below meth c H locs cells slots C0 S ls Q cx hH hS hl hcc hss kk =>
    va_iald (D := Z.2.2.1) (cl := vwCl) (n := n) (f := g) cx.1 cx.2.1 cx.2.2.2.2.2.2.2.2.1 (zk_one (hH.2 a _ hM).2) 0 0 rfl (zk_tys_at ht) hin hd (kk ls hl)) k
theorem zk_alen {a n : Nat} {g : Nat → Int32} (q : Nat) (hd : decode μ.2.1 pc = .ok (.arraylength, 1)) (ht : zk_ty[0]? = some .int) (hM : M.2.2 a = some (.inl (n, g))) (hq : pc + 1 = q) (k : zk_P Z μ q lo (.int (nI n) :: st) M R) : zk_P Z μ pc lo (.ref a :: st) M R := by
  subst hq
  exact zk_lift (fun p e s m args below meth c H locs cells slots C0 S ls Q cx hH hS hl hcc hss kk =>
    va_alen (D := Z.2.2.1) (cl := vwCl) (x := (n, .inl g)) cx.1 cx.2.1 cx.2.2.2.2.2.2.2.2.1 (zk_one (hH.2 a _ hM).2) 0 0 rfl (zk_tys_at ht) rfl hd (kk ls hl)) k
theorem zk_alenq {a t n : Nat} {g : Nat → Option Nat} {ty : FieldType} (q : Nat) (hd : decode μ.2.1 pc = .ok (.arraylength, 1)) (ht : zk_ty[t]? = some ty) (hM : M.2.2 a = some (.inr (.inl (t, n, g)))) (hq : pc + 1 = q) (k : zk_P Z μ q lo (.int (nI n) :: st) M R) : zk_P Z μ pc lo (.ref a :: st) M R := by
  subst hq
  exact zk_lift (fun p e s m args below meth c H locs cells slots C0 S ls Q cx hH hS hl hcc hss kk =>
    va_alen (D := Z.2.2.1) (cl := vwCl) (x := (n, .inr (.inr (.inr (.inr g))))) cx.1 cx.2.1 cx.2.2.2.2.2.2.2.2.1 (zk_one (hH.2 a _ hM).2) 0 t rfl (zk_tys_at ht) rfl hd (kk ls hl)) k
theorem zk_iastore {a n : Nat} {g : Nat → Int32} {i x : Int32} (q : Nat) (hd : decode μ.2.1 pc = .ok (.iastore, 1)) (ht : zk_ty[0]? = some .int) (hM : M.2.2 a = some (.inl (n, g))) (hin : vp_in i n) (hq : pc + 1 = q) (k : zk_P Z μ q lo st (M.1, M.2.1, va_up M.2.2 a (some (.inl (n, upd g i.toNatClampNeg x)))) R) : zk_P Z μ pc lo (.int x :: .int i :: .ref a :: st) M R := by
  subst hq
  refine zk_lift2 (fun p e s m args below meth c H locs cells slots C0 S ls Q cx hH hS hl kk => ?_) k
  have hK := cx.2.2.2.2.2.2.2.2.1
  refine W.iast cx.1 cx.2.1 (hH.2 a _ hM).2 ((hK.2 0 _ (zk_tys_at ht)).1 n (fun j => .int (g j))) (fun q => by cases q) (by show ¬ (i < 0 ∨ (arrV _ _ _).slots.size ≤ _); rw [arrV_size]; exact hin) rfl rfl hd fun H1 e1 z oq => ?_
  refine kk H1 _ (hH.put hM z oq ?_) (hS.put z oq (hH.2 a _ hM).1)
  show H1[a]? = some (vp_cell _ _)
  rw [e1]
  rw [vp_cell_i, vp_cell_i, arrV_store]
  congr 2
  funext j
  by_cases hj : j = i.toNatClampNeg
  · subst hj
    simp [updV, upd]
  · simp [updV, upd, hj]
theorem zk_aaload {a t n : Nat} {g : Nat → Option Nat} {C : String} {i : Int32} {v : Value} (q : Nat) (hd : decode μ.2.1 pc = .ok (.aaload, 1)) (ht : zk_ty[t]? = some (.object C)) (hM : M.2.2 a = some (.inr (.inl (t, n, g)))) (hin : vp_in i n) (hv : va_rf (g i.toNatClampNeg) = v) (hq : pc + 1 = q) (k : zk_P Z μ q lo (v :: st) M R) : zk_P Z μ pc lo (.int i :: .ref a :: st) M R := by
  subst hq; subst hv
  exact zk_lift (fun p e s m args below meth c H locs cells slots C0 S ls Q cx hH hS hl hcc hss kk =>
    va_aldq (D := Z.2.2.1) (cl := vwCl) (C := C) (n := n) (f := g) cx.1 cx.2.1 cx.2.2.2.2.2.2.2.2.1 (zk_one (hH.2 a _ hM).2) 0 t rfl (zk_tys_at ht) hin hd (kk ls hl)) k
theorem zk_aastore {a t n v ci N : Nat} {g : Nat → Option Nat} {C : String} {T : u_T} {vs : List Value} {i : Int32} (q : Nat) (hd : decode μ.2.1 pc = .ok (.aastore, 1)) (ht : zk_ty[t]? = some (.object C)) (hM : M.2.2 a = some (.inr (.inl (t, n, g)))) (hv : M.2.2 v = some (.inr (.inr (ci, vs)))) (hc : vwCl[ci]? = some (C, T, N)) (hin : vp_in i n) (hq : pc + 1 = q) (k : zk_P Z μ q lo st (M.1, M.2.1, va_up M.2.2 a (some (.inr (.inl (t, n, va_up g i.toNatClampNeg (some v)))))) R) : zk_P Z μ pc lo (.ref v :: .int i :: .ref a :: st) M R := by
  subst hq
  refine zk_lift2 (fun p e s m args below meth c H locs cells slots C0 S ls Q cx hH hS hl kk => ?_) k
  have hK := cx.2.2.2.2.2.2.2.2.1
  have hlt : i.toNatClampNeg < n := Nat.not_le.mp fun q => hin (Or.inr q)
  have h0 : ¬ i < 0 := fun q => hin (Or.inl q)
  obtain ⟨r', hr', cellV, g1, g2, g3, -⟩ := (hH.2 v _ hv).2
  have hcls := (hK.1 ci _ hc).2
  obtain ⟨kA, comp, k1, k2, k3, -⟩ := (hK.2 t _ (zk_tys_at ht)).2
  have hcomp : comp = Z.2.2.1.1 ci := Option.some.inj (k3.symm.trans hcls.1)
  subst hcomp
  obtain ⟨kC, hkC, -⟩ := hcls.2
  have ha : H[a]? = some (vp_cell (Z.2.1 t) (n, .inr (.inr (.inr (.inr g))))) := (hH.2 a _ hM).2
  refine W.aast cx.1 cx.2.1 ha (fun q h => by cases h) (fun h => by cases h) k1 k2 rfl hkC ⟨h0, by show _ < (arrV _ _ _).slots.size; rw [arrV_size]; exact hlt⟩ g1 (fun q h => by rw [g3] at h; cases h) (by rw [g2]; exact hkC) (by rw [g2]; exact va_assign hcls) rfl rfl hd fun H1 e1 z oq => ?_
  refine kk H1 _ (hH.put hM z oq ?_) (hS.put z oq (hH.2 a _ hM).1)
  show H1[a]? = some (vp_cell _ _)
  rw [e1]
  rw [vp_cell_q, vp_cell_q, arrV_store]
  congr 2
  funext j
  by_cases hj : j = i.toNatClampNeg
  · subst hj
    simp [updV, va_up, va_rf]
  · simp [updV, va_up, hj]
/-- the script -/
theorem zk_sload {i : Int32} (q : Nat) (hd : decode μ.2.1 pc = .ok (.iaload, 1)) (hin : vp_in i Z.2.2.2.2.2.1) (hq : pc + 1 = q) (k : zk_P Z μ q lo (.int (Z.2.2.2.2.2.2 i.toNatClampNeg) :: st) M R) : zk_P Z μ pc lo (.int i :: .ref Z.2.2.2.2.1 :: st) M R := by
  subst hq
  exact zk_lift (fun p e s m args below meth c H locs cells slots C0 S ls Q cx hH hS hl hcc hss kk =>
    va_sld cx.1 cx.2.1 cx.2.2.2.2.2.2.2.2.2.2.1 (Nat.lt_of_lt_of_le cx.2.2.2.2.2.2.2.2.2.2.2.1 cx.2.2.2.2.2.2.2.2.2.1) (Nat.not_le.mpr cx.2.2.2.2.2.2.2.2.2.2.2.1) hS hin hd (kk ls hl)) k
theorem zk_slen (q : Nat) (hd : decode μ.2.1 pc = .ok (.arraylength, 1)) (hq : pc + 1 = q) (k : zk_P Z μ q lo (.int (nI Z.2.2.2.2.2.1) :: st) M R) : zk_P Z μ pc lo (.ref Z.2.2.2.2.1 :: st) M R := by
  subst hq
  exact zk_lift (fun p e s m args below meth c H locs cells slots C0 S ls Q cx hH hS hl hcc hss kk =>
    va_slen cx.1 cx.2.1 cx.2.2.2.2.2.2.2.2.2.2.1 (Nat.lt_of_lt_of_le cx.2.2.2.2.2.2.2.2.2.2.2.1 cx.2.2.2.2.2.2.2.2.2.1) (Nat.not_le.mpr cx.2.2.2.2.2.2.2.2.2.2.2.1) hS hd (kk ls hl)) k
end ZKM
/-! CALLS -/
theorem zk_nw_is : ∀ w ∈ zk_nw, (∃ a i x h, w = Cond.methodLinkNest a i x h) ∨ (∃ a i b n d h, w = Cond.fieldLinkNest a i b n d h) ∨ ∃ C, w = Cond.arrayOver (.object C) := by
  intro w hw
  simp only [zk_nw, List.mem_cons, List.not_mem_nil, or_false] at hw
  rcases hw with rfl | rfl | rfl | rfl | rfl | rfl | rfl | rfl | rfl | rfl <;> first | exact Or.inl ⟨_, _, _, _, rfl⟩ | exact Or.inr (Or.inl ⟨_, _, _, _, _, _, rfl⟩) | exact Or.inr (Or.inr ⟨_, rfl⟩)
theorem zk_nw_same (w : Cond) (hw : w ∈ zk_nw) {u U : State} (e : u.vm = U.vm) (h : va_Nw w u) : va_Nw w U := by
  rcases zk_nw_is w hw with ⟨a, i, x, g, rfl⟩ | ⟨a, i, b, n, d, g, rfl⟩ | ⟨C, rfl⟩
  · exact va_Nw.same rfl e h
  · exact va_Nw.same rfl e h
  · exact va_AO.moved (by rw [e]; exact Vm.Alike.refl _) h
theorem zk_nw_warm (w : Cond) (hw : w ∈ zk_nw) {s U : State} (hW : s.WarmedH U.vm) (h : va_Nw w s) : va_Nw w U := by
  rcases zk_nw_is w hw with ⟨a, i, x, g, rfl⟩ | ⟨a, i, b, n, d, g, rfl⟩ | ⟨C, rfl⟩
  · exact va_Nw.warmM hW h
  · exact va_Nw.warmF hW h
  · exact va_AO.moved hW.alike h
theorem zk_blind {Z : zk_Z} {as : List Value} {M : zk_M} : FrameBlind (zk_Pc Z as M) := fun a U g mk h =>
  ⟨h.1, h.2.1, va_K.moved (u := U) (U := U.calling g mk a) (Vm.Alike.refl U.vm) h.2.2.1, h.2.2.2.1, va_X.moved (u := U) (U := U.calling g mk a) (Vm.Alike.refl U.vm) h.2.2.2.2.1, h.2.2.2.2.2.1, fun w hw => zk_nw_same w hw (u := U) (U := U.calling g mk a) rfl (h.2.2.2.2.2.2 w hw)⟩
theorem zk_pre {Z : zk_Z} {μ : zk_Mt} {p : Program} {s : State} {m : MethodId} {args : Array Value} {meth : Method} {c : Code} {M : zk_M} {H : Heap} {locs : List Loc} {as : List Value} (cx : zk_Ctx Z μ p s m args meth c) (hH : zk_H Z M H) (hS : va_S (zk_A Z) s.heap H locs) : PreS s H (zk_Pc Z as M) as := by
  obtain ⟨-, -, -, -, -, -, -, -, hK, hb, hX, hbb, hnw⟩ := cx
  refine ⟨zk_blind, fun U hU hW => ⟨rfl, by rw [hU]; exact hH, va_K.moved hW.alike hK, by rw [hU]; exact Nat.le_trans hb hS.1, ?_, hbb, fun w hw => zk_nw_warm w hw hW (hnw w hw)⟩⟩
  rw [hU]
  exact va_X.moved hW.alike (hX.kept (hS.2.1 _ (Nat.lt_of_lt_of_le hbb hb) (Nat.not_le.mpr hbb)))
theorem zk_back {Z : zk_Z} {p : Program} {l : Launch} {e : Env} {Rm : Room} {s : State} {m : MethodId} {args : Array Value} {below : List Frame} {meth : Method} {c : Code} {H : Heap} {locs : List Loc} {cells slots mc ms pc : Nat} {Q : State → Prop} {ls : Array Slot} {st0 rest : List Value} {a : Array Value} {r : Option Value} {M' : zk_M}
    (hr : va_Run p l e Rm s m args below meth c H locs cells slots mc ms (F0 m pc ls st0) rest (zk_Q Z r M' a) (zk_A Z)) (hS : va_S (zk_A Z) s.heap H locs)
    (kk : ∀ (H1 : Heap) (locs1 : List Loc), zk_H Z M' H1 → va_S (zk_A Z) s.heap H1 locs1 → W p l e Rm s m args below meth c H1 locs1 (cells + mc) (slots + ms) Q (F0 m (pc + 3) ls (r.toList ++ rest))) : W p l e Rm s m args below meth c H locs cells slots Q (F0 m pc ls st0) := by
  intro T hT X
  obtain ⟨v, st₀, t, T', L, h0, X', hL, e1, e2, ⟨hv, hH, hz, hk⟩, st⟩ := hr T hT X
  cases hv
  rw [h0] at hz hk
  obtain ⟨t2, a1, b1⟩ := kk T'.heap (locs ++ L) (by rw [e1]; exact hH)
    ⟨Nat.le_trans hS.1 (by rw [e1]; exact hz), fun q h1 h2 => by rw [e1, hk q (Nat.lt_of_lt_of_le h1 hS.1) h2]; exact hS.2.1 q h1 h2, fun q hq => by
      rcases List.mem_append.mp hq with h | h
      · exact hS.2.2 q h
      · exact hL q h⟩ T' rfl X'
  exact ⟨t2, st t2 a1, b1⟩
theorem zk_goodIn {μ2 : zk_Mt} {ws : List Cond} (h : ∀ w ∈ ws, w ∈ zk_all) (hc : Cond.code μ2.1 μ2.2.1 μ2.2.2.1 μ2.2.2.2.1 ∈ zk_all) : GoodIn zk_all (ws ++ zk_ws μ2) := by
  have key : ∀ w, w ∈ zk_all → w ∈ zk_all ∧ ((w.onTables && w.keeps) = true ∨ ∃ ty, w = .arrayClass ty) := fun w hw => ⟨hw, good_of_word (List.mem_filter.mp hw).2⟩
  intro w hw
  rcases List.mem_append.mp hw with h1 | h1
  · exact key w (h w h1)
  · rcases List.mem_cons.mp h1 with h2 | h2
    · rw [h2]; exact key _ hc
    · exact key w h2
/-- a method that may be called: its code word; its name is no method handle's; its locals are few; it has n parameters -/
def zk_Ok (μ : zk_Mt) (n : Nat) : Prop := Cond.code μ.1 μ.2.1 μ.2.2.1 μ.2.2.2.1 ∈ zk_all ∧ (μ.1.cls ≠ "java/lang/invoke/MethodHandle" ∧ μ.1.cls ≠ "java/lang/invoke/VarHandle" ∧ (parseMethodDescriptor μ.1.desc).map (fun d => d.parameters.length) = some n) ∧ Cond.initialized μ.1.cls ∈ zk_all
def zk_LV (own : String) (idx : Nat) (μ : zk_Mt) : Prop := Cond.methodLink own idx μ.1 ∈ zk_all ∧ Cond.instanceMethod μ.1 ∈ zk_all ∧ Cond.selects μ.1.cls μ.1 μ.1 ∈ zk_all
def zk_LS (own : String) (idx : Nat) (μ : zk_Mt) : Prop := Cond.methodLink own idx μ.1 ∈ zk_all ∧ Cond.static μ.1 ∈ zk_all
def zk_LIN (own : String) (idx : Nat) (μ : zk_Mt) (host : String) : Prop := Cond.methodLinkNest own idx μ.1 host ∈ zk_nw ∧ Cond.instanceMethod μ.1 ∈ zk_all ∧ μ.1.name = "<init>" ∧ μ.2.2.2.1 = none
def zk_LI (own : String) (idx : Nat) (μ : zk_Mt) : Prop := Cond.methodLink own idx μ.1 ∈ zk_all ∧ Cond.instanceMethod μ.1 ∈ zk_all ∧ μ.1.name = "<init>" ∧ μ.2.2.2.1 = none
section ZKC
variable {Z : zk_Z} {μ : zk_Mt} {pc : Nat} {lo : List (Option Value)} {st : List Value} {M : zk_M} {R : Option Value → zk_M → Prop}
theorem zk_callV {μ2 : zk_Mt} {idx n b ci N : Nat} {T : u_T} {fs As rest : List Value} {r : Option Value} {M1 : zk_M} (q : Nat) (hC : zk_C Z μ2 (.ref b :: As) M r M1) (hd : decode μ.2.1 pc = .ok (.invokevirtual idx, 3)) (hk : zk_Ok μ2 n) (hfr : μ2.2.2.2.2.1 + 1 ≤ μ.2.2.2.2.1 ∧ 8 + (μ2.2.2.1 + 11) + μ2.2.2.2.2.2 ≤ μ.2.2.2.2.2) (hl0 : zk_LV μ.1.cls idx μ2) (hM : M.2.2 b = some (.inr (.inr (ci, fs)))) (hci : vwCl[ci]? = some (μ2.1.cls, T, N)) (hn : As.length = n) (hst : st = As.reverse ++ .ref b :: rest) (hw : (rest.map fun v => v.category).sum ≤ 8) (hq : pc + 3 = q) (k : zk_P Z μ q lo (r.toList ++ rest) M1 R) : zk_P Z μ pc lo st M R := by
  subst hq; subst hst
  obtain ⟨r', M', hR, h1, h2, h⟩ := k
  obtain ⟨c1, c2, hMet⟩ := hC
  obtain ⟨k1, k2, k4⟩ := hk
  refine ⟨r', M', hR, Nat.le_trans c1 h1, Nat.le_trans c2 h2, fun p e s m args below meth c H locs cells slots C S ls cx hH hS hl hc hs => ?_⟩
  have hcw : CallW (zk_rm μ C S) s args μ.1.cls μ2.1.cls idx μ2.1 μ2.2.1 μ2.2.2.1 μ2.2.2.2.1 (zk_ws μ2) (zk_rm μ2 (M1.1 - M.1) (M1.2.1 - M.2.1)) (M1.1 - M.1) (M1.2.1 - M.2.1) n :=
    cwV n cx.2.2.2.2.2.1 (zk_goodIn (fun w hw => by rcases List.mem_cons.mp hw with rfl | hw; exact hl0.1; rcases List.mem_cons.mp hw with rfl | hw; exact hl0.2.1; rcases List.mem_cons.mp hw with rfl | hw; exact hl0.2.2; rcases List.mem_cons.mp hw with rfl | hw; exact k4; cases hw) k1) rfl rfl rfl ⟨rfl, k2⟩ hfr
  refine zk_back (va_runV (As := As) (rest := rest) ⟨cx.1, cx.2.1, cx.2.2.2.1, cx.2.2.2.2.1, cx.2.2.2.2.2.1⟩ hMet hcw ⟨zk_blind, va_recv cx.2.2.2.2.2.2.2.2.1 (zk_one (hH.2 b _ hM).2) (ci := ci) (q0 := 0) hci rfl, (zk_pre cx hH hS).2⟩ rfl hn hl.1 rfl (lv_room hw) hd ⟨show cells + (M1.1 - M.1) ≤ C by omega, show slots + (M1.2.1 - M.2.1) ≤ S by omega⟩) hS fun H1 locs1 hH1 hS1 => ?_
  exact h p e s m args below meth c H1 locs1 _ _ C S ls cx hH1 hS1 hl (by omega) (by omega)
theorem zk_callS {μ2 : zk_Mt} {idx n : Nat} {As rest : List Value} {r : Option Value} {M1 : zk_M} (q : Nat) (hC : zk_C Z μ2 As M r M1) (hd : decode μ.2.1 pc = .ok (.invokestatic idx, 3)) (hk : zk_Ok μ2 n) (hfr : μ2.2.2.2.2.1 + 1 ≤ μ.2.2.2.2.1 ∧ 8 + (μ2.2.2.1 + 11) + μ2.2.2.2.2.2 ≤ μ.2.2.2.2.2) (hl0 : zk_LS μ.1.cls idx μ2) (hn : As.length = n) (hst : st = As.reverse ++ rest) (hw : (rest.map fun v => v.category).sum ≤ 8) (hq : pc + 3 = q) (k : zk_P Z μ q lo (r.toList ++ rest) M1 R) : zk_P Z μ pc lo st M R := by
  subst hq; subst hst
  obtain ⟨r', M', hR, h1, h2, h⟩ := k
  obtain ⟨c1, c2, hMet⟩ := hC
  obtain ⟨k1, k2, k4⟩ := hk
  refine ⟨r', M', hR, Nat.le_trans c1 h1, Nat.le_trans c2 h2, fun p e s m args below meth c H locs cells slots C S ls cx hH hS hl hc hs => ?_⟩
  have hcw : CallB (zk_rm μ C S) s args μ.1.cls idx μ2.1 μ2.2.1 μ2.2.2.1 μ2.2.2.2.1 (zk_ws μ2) (zk_rm μ2 (M1.1 - M.1) (M1.2.1 - M.2.1)) (M1.1 - M.1) (M1.2.1 - M.2.1) n ∧ (Cond.static μ2.1).before args s = true :=
    va_cwS n cx.2.2.2.2.2.1 (zk_goodIn (fun w hw => by rcases List.mem_cons.mp hw with rfl | hw; exact hl0.1; rcases List.mem_cons.mp hw with rfl | hw; exact hl0.2; rcases List.mem_cons.mp hw with rfl | hw; exact k4; cases hw) k1) rfl rfl rfl k2 hfr
  refine zk_back (va_runS (As := As) (rest := rest) ⟨cx.1, cx.2.1, cx.2.2.2.1, cx.2.2.2.2.1, cx.2.2.2.2.2.1⟩ hMet hcw (zk_pre cx hH hS) rfl hn hl.1 rfl (lv_room hw) hd ⟨show cells + (M1.1 - M.1) ≤ C by omega, show slots + (M1.2.1 - M.2.1) ≤ S by omega⟩) hS fun H1 locs1 hH1 hS1 => ?_
  exact h p e s m args below meth c H1 locs1 _ _ C S ls cx hH1 hS1 hl (by omega) (by omega)
theorem zk_callI {μ2 : zk_Mt} {idx n b : Nat} {As rest : List Value} {r : Option Value} {M1 : zk_M} (q : Nat) (hC : zk_C Z μ2 (.ref b :: As) M r M1) (hd : decode μ.2.1 pc = .ok (.invokespecial idx, 3)) (hk : zk_Ok μ2 n) (hfr : μ2.2.2.2.2.1 + 1 ≤ μ.2.2.2.2.1 ∧ 8 + (μ2.2.2.1 + 11) + μ2.2.2.2.2.2 ≤ μ.2.2.2.2.2) (hl0 : zk_LI μ.1.cls idx μ2) (hn : As.length = n) (hst : st = As.reverse ++ .ref b :: rest) (hw : (rest.map fun v => v.category).sum ≤ 8) (hq : pc + 3 = q) (k : zk_P Z μ q lo (r.toList ++ rest) M1 R) : zk_P Z μ pc lo st M R := by
  subst hq; subst hst
  obtain ⟨r', M', hR, h1, h2, h⟩ := k
  obtain ⟨c1, c2, hMet⟩ := hC
  obtain ⟨k1, k2, k4⟩ := hk
  obtain ⟨l1, l2, l3, l4⟩ := hl0
  obtain ⟨y2, b2, n2, t2, f2, g2⟩ := μ2
  have l4 : t2 = none := l4
  subst l4
  refine ⟨r', M', hR, Nat.le_trans c1 h1, Nat.le_trans c2 h2, fun p e s m args below meth c H locs cells slots C S ls cx hH hS hl hc hs => ?_⟩
  have hts := cx.2.2.2.2.2.1
  have hcw := cwI (R := zk_rm μ C S) (s := s) (args := args) (own := μ.1.cls) (index := idx) (y := y2) (bytes := b2) (maxL := n2) (ws := zk_ws (y2, b2, n2, none, f2, g2)) (ws' := zk_all) (rm := zk_rm (y2, b2, n2, none, f2, g2) (M1.1 - M.1) (M1.2.1 - M.2.1)) (mc := M1.1 - M.1) (ms := M1.2.1 - M.2.1) n hts (zk_goodIn (ws := []) (fun w hw => by cases hw) k1) rfl rfl rfl (hts _ k4) (hts _ l1) (hts _ l2) l3 k2 hfr
  refine zk_back (va_runI (As := As) (rest := rest) ⟨cx.1, cx.2.1, cx.2.2.2.1, cx.2.2.2.2.1, hts⟩ hMet hcw (zk_pre cx hH hS) rfl hn hl.1 rfl (lv_room hw) hd ⟨show cells + (M1.1 - M.1) ≤ C by omega, show slots + (M1.2.1 - M.2.1) ≤ S by omega⟩) hS fun H1 locs1 hH1 hS1 => ?_
  exact h p e s m args below meth c H1 locs1 _ _ C S ls cx hH1 hS1 hl (by omega) (by omega)
theorem zk_callIN {μ2 : zk_Mt} {idx n b : Nat} {host : String} {As rest : List Value} {r : Option Value} {M1 : zk_M} (q : Nat) (hC : zk_C Z μ2 (.ref b :: As) M r M1) (hd : decode μ.2.1 pc = .ok (.invokespecial idx, 3)) (hk : zk_Ok μ2 n) (hfr : μ2.2.2.2.2.1 + 1 ≤ μ.2.2.2.2.1 ∧ 8 + (μ2.2.2.1 + 11) + μ2.2.2.2.2.2 ≤ μ.2.2.2.2.2) (hl0 : zk_LIN μ.1.cls idx μ2 host) (hn : As.length = n) (hst : st = As.reverse ++ .ref b :: rest) (hw : (rest.map fun v => v.category).sum ≤ 8) (hq : pc + 3 = q) (k : zk_P Z μ q lo (r.toList ++ rest) M1 R) : zk_P Z μ pc lo st M R := by
  subst hq; subst hst
  obtain ⟨r', M', hR, h1, h2, h⟩ := k
  obtain ⟨c1, c2, hMet⟩ := hC
  obtain ⟨k1, k2, k4⟩ := hk
  obtain ⟨l1, l2, l3, l4⟩ := hl0
  obtain ⟨y2, b2, n2, t2, f2, g2⟩ := μ2
  have l4 : t2 = none := l4
  subst l4
  refine ⟨r', M', hR, Nat.le_trans c1 h1, Nat.le_trans c2 h2, fun p e s m args below meth c H locs cells slots C S ls cx hH hS hl hc hs => ?_⟩
  have hts := cx.2.2.2.2.2.1
  have hcw : va_CN (zk_rm μ C S) s args μ.1.cls idx y2 host b2 n2 none (zk_ws (y2, b2, n2, none, f2, g2)) (zk_rm (y2, b2, n2, none, f2, g2) (M1.1 - M.1) (M1.2.1 - M.2.1)) (M1.1 - M.1) (M1.2.1 - M.2.1) n := va_cnB (ws' := zk_all) n hts (zk_goodIn (ws := []) (fun w hw => by cases hw) k1) rfl rfl rfl (cx.2.2.2.2.2.2.2.2.2.2.2.2 _ l1) (hts _ k4) k2 hfr
  refine zk_back (va_runIN (As := As) (rest := rest) ⟨cx.1, cx.2.1, cx.2.2.2.1, cx.2.2.2.2.1, hts⟩ hMet ⟨hcw, l3, hts _ l2⟩ (zk_pre cx hH hS) rfl hn hl.1 rfl (lv_room hw) hd ⟨show cells + (M1.1 - M.1) ≤ C by omega, show slots + (M1.2.1 - M.2.1) ≤ S by omega⟩) hS fun H1 locs1 hH1 hS1 => ?_
  exact h p e s m args below meth c H1 locs1 _ _ C S ls cx hH1 hS1 hl (by omega) (by omega)
end ZKC
