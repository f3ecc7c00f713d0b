/-! ===== constructors: a walk with a world that grows ===== -/
def gx_rk (d mc ms : Nat) : Room := { frames := d, cells := mc, slots := ms, locals := 64 * d }
def Gc (M : gx_M) (d mc ms : Nat) (p : Program) (R : Room) (s : State) (m : MethodId) (args : Array Value) (meth : Method) (c : Code) (cT : Nat → ClassId) (D : va_G) (A : Nat → Prop) : Prop :=
  p.tables.exec = Jvm.exec ∧ c.code = M.2.1 ∧ c.maxLocals = M.2.2.1 ∧ meth.sig.returnType = M.2.2.2 ∧ s.vm.findClass M.1.cls = some m.cls ∧ (∀ w ∈ gw_tbl, w.before args s = true) ∧ meth.locks = false ∧ va_K D vwCl (gx_T cT) s ∧ (d ≤ R.frames ∧ 64 * d ≤ R.locals ∧ mc ≤ R.cells ∧ ms ≤ R.slots) ∧ (∀ q, s.heap.size ≤ q → A q) ∧ gx_N s ∧ meth.name = "<init>"
def Gq (cT : Nat → ClassId) (D : va_G) (A : Nat → Prop) (Q : va_W → Prop) : Array Value → State → Outcome → State → Prop := va_Qv (S := va_W) Q (fun w t => va_P D vwCl w t.heap ∧ va_K D vwCl (gx_T cT) t ∧ va_D A w) A
/-- a constructor's walk: k cells of n slots made so far, mc of ms in all -/
def Gv (cT : Nat → ClassId) (D : va_G) (M : gx_M) (d mc ms k n pc : Nat) (loc st : List Value) (ws : va_W) (Q : va_W → Prop) : Prop :=
  ∀ (p : Program) (l : Launch) (e : Env) (R : Room) (s : State) (m : MethodId) (args : Array Value) (below : List Frame) (meth : Method) (c : Code) (A : Nat → Prop), Gc M d mc ms p R s m args meth c cT D A →
    ∀ (H : Heap) (locs : List Loc) (ls : Array Slot), va_P D vwCl ws H → va_D A ws → va_S A s.heap H locs → (ls.size = M.2.2.1 ∧ ∀ (i : Nat) (v : Value), loc[i]? = some v → ls[i]? = some (.val v)) →
      W p l e R s m args below meth c H locs k n (MQ below (Gq cT D A Q) args s mc ms A) (F0 m pc ls st)
/-- a constructor's contract -/
def Kt (cT : Nat → ClassId) (D : va_G) (d mc ms : Nat) (M : gx_M) (h0 : Nat) (av : List Value) (e0 : va_E) (Q : va_W → Prop) : Prop :=
  ∀ (l : Launch) (sz : Nat), Met l M.1 (.code M.1 M.2.1 M.2.2.1 M.2.2.2 :: gw_tbl) (gx_rk d mc ms)
    (va_Pc (.ref h0 :: av) (fun U => U.heap.size = sz ∧ va_P D vwCl [(h0, e0)] U.heap ∧ va_K D vwCl (gx_T cT) U ∧ va_D (fun _ => True) [(h0, e0)] ∧ gx_N U))
    (Gq cT D (va_A [(h0, e0)] sz) Q) mc ms (va_A [(h0, e0)] sz)
theorem gx_v_id (v : Value) : gx_v id v = v := by cases v <;> rfl
theorem gx_map_id (av : List Value) : av.map (gx_v id) = av := by
  rw [show gx_v id = id from funext gx_v_id, List.map_id]
section GVS
variable {cT : Nat → ClassId} {D : va_G} {M M' : gx_M} {d d' mc ms mc' ms' k n pc : Nat} {loc st : List Value} {ws : va_W} {Q Q' : va_W → Prop}
theorem kt_intro {h0 : Nat} {av : List Value} {e0 : va_E} (hy : plainName M.1.cls = true) (hn0 : M.1.name = "<init>") (hlen : (gx_sl (.ref h0 :: av)).length ≤ M.2.2.1) (hl : ∀ (i : Nat) (v : Value), (.ref h0 :: av)[i]? = some v → (gx_ent M.2.2.1 (.ref h0 :: av))[i]? = some (some v)) (kk : Gv cT D M d mc ms 0 0 0 (.ref h0 :: av) [] [(h0, e0)] Q) : Kt cT D d mc ms M h0 av e0 Q := by
  intro l sz
  refine Met.ofW (cc := M.2.1) (maxL := M.2.2.1) (ret := M.2.2.2) hy rfl ?_
  intro p e s m args below meth c s₁ B hml hv
  obtain ⟨rfl, hsz, hP, hK, hD0, hN⟩ := hv
  subst hsz
  have hts := atoms_spec (ws := .code M.1 M.2.1 M.2.2.1 M.2.2.2 :: gw_tbl) B.pre
  have hown : s.vm.findClass M.1.cls = some m.cls := findClass_of_methodNamed B.named
  have hin : meth.name = "<init>" := (name_of_methodNamed B.named B.method).1.trans hn0
  have hD := hD0.self (sz := s.heap.size)
  rw [lg_entry_eq]
  have hent := gx_lr_entry id (.ref h0 :: av) hlen
  rw [gx_map_id] at hent
  exact kk p l e _ s m _ below meth c _ ⟨B.exec, B.bytes, hml, B.returns, hown, fun w hw => hts w (List.mem_cons_of_mem _ hw), B.notSynchronized, hK, ⟨Nat.le_refl _, Nat.le_refl _, Nat.le_refl _, Nat.le_refl _⟩, fun q h => Or.inr h, hN, hin⟩ s.heap [] _ hP hD va_S.rf ⟨hent.1, fun i v hi => by
    have h9 := hent.2.2.2 i v (hl i v hi)
    rw [gx_v_id] at h9
    exact h9⟩
theorem gv_ald (i : Nat) {f : Fin 4} {q : Nat} (hd : decode M.2.1 pc = .ok (.aload_n f, 1)) (hf : (f : Nat) = i) (hl : loc[i]? = some (.ref q)) (kk : Gv cT D M d mc ms k n (pc + 1) loc (.ref q :: st) ws Q) : Gv cT D M d mc ms k n pc loc st ws Q := by
  intro p l e R s m args below meth c A C H locs ls hP hD hS hl'
  exact lv_aload_n C.1 C.2.1 hd hf (hl'.2 _ _ hl) (kk p l e R s m args below meth c A C H locs ls hP hD hS hl')
theorem gv_ild (i : Nat) {f : Fin 4} {x : Int32} (hd : decode M.2.1 pc = .ok (.iload_n f, 1)) (hf : (f : Nat) = i) (hl : loc[i]? = some (.int x)) (kk : Gv cT D M d mc ms k n (pc + 1) loc (.int x :: st) ws Q) : Gv cT D M d mc ms k n pc loc st ws Q := by
  intro p l e R s m args below meth c A C H locs ls hP hD hS hl'
  exact lv_iload_n C.1 C.2.1 hd hf (hl'.2 _ _ hl) (kk p l e R s m args below meth c A C H locs ls hP hD hS hl')
theorem gv_ic {x : Int} {v : Int32} (hd : decode M.2.1 pc = .ok (.iconst x, 1)) (hv : Int32.ofInt x = v) (kk : Gv cT D M d mc ms k n (pc + 1) loc (.int v :: st) ws Q) : Gv cT D M d mc ms k n pc loc st ws Q := by
  intro p l e R s m args below meth c A C H locs ls hP hD hS hl'
  exact lv_iconst C.1 C.2.1 hd hv (kk p l e R s m args below meth c A C H locs ls hP hD hS hl')
theorem gv_bi {x : Int} {v : Int32} (hd : decode M.2.1 pc = .ok (.bipush x, 2)) (hv : (Int8.ofInt x).toInt32 = v) (kk : Gv cT D M d mc ms k n (pc + 2) loc (.int v :: st) ws Q) : Gv cT D M d mc ms k n pc loc st ws Q := by
  intro p l e R s m args below meth c A C H locs ls hP hD hS hl'
  exact lv_bipush C.1 C.2.1 hd hv (kk p l e R s m args below meth c A C H locs ls hP hD hS hl')
theorem gv_si {x : Int} {v : Int32} (hd : decode M.2.1 pc = .ok (.sipush x, 3)) (hv : (Int16.ofInt x).toInt32 = v) (kk : Gv cT D M d mc ms k n (pc + 3) loc (.int v :: st) ws Q) : Gv cT D M d mc ms k n pc loc st ws Q := by
  intro p l e R s m args below meth c A C H locs ls hP hD hS hl'
  exact lv_sipush C.1 C.2.1 hd hv (kk p l e R s m args below meth c A C H locs ls hP hD hS hl')
theorem gv_mul {x y : Int32} (hd : decode M.2.1 pc = .ok (.imul, 1)) (kk : Gv cT D M d mc ms k n (pc + 1) loc (.int (x * y) :: st) ws Q) : Gv cT D M d mc ms k n pc loc (.int y :: .int x :: st) ws Q := by
  intro p l e R s m args below meth c A C H locs ls hP hD hS hl'
  exact lv_imul C.1 C.2.1 hd (kk p l e R s m args below meth c A C H locs ls hP hD hS hl')
theorem gv_dup {v : Value} (hd : decode M.2.1 pc = .ok (.dup, 1)) (hv : v.category = 1) (kk : Gv cT D M d mc ms k n (pc + 1) loc (v :: v :: st) ws Q) : Gv cT D M d mc ms k n pc loc (v :: st) ws Q := by
  intro p l e R s m args below meth c A C H locs ls hP hD hS hl'
  exact lv_dup C.1 C.2.1 hd hv (kk p l e R s m args below meth c A C H locs ls hP hD hS hl')
theorem ob_w : Cond.instanceMethod objectInit ∈ gw_tbl ∧ Cond.code objectInit ⟨#[0xb1]⟩ 1 none ∈ gw_tbl := ⟨gw_in 69 (by decide +kernel) (by decide +kernel), gw_in 70 (by decide +kernel) (by decide +kernel)⟩
theorem gv_obj {idx q : Nat} (hd : decode M.2.1 pc = .ok (.invokespecial idx, 3)) (hk : Cond.methodLink M.1.cls idx objectInit ∈ gw_tbl) (h1 : 1 ≤ d) (hcat : (st.map fun v => v.category).sum ≤ 8) (kk : Gv cT D M d mc ms k n (pc + 3) loc st ws Q) : Gv cT D M d mc ms k n pc loc (.ref q :: st) ws Q := by
  intro p l e R s m args below meth c A C H locs ls hP hD hS hl'
  have k1 := kk p l e R s m args below meth c A C H locs ls hP hD hS hl'
  obtain ⟨c1, c2, c3, c4, c5, c6, c7, c8, ⟨r1, r2, r3, r4⟩, c10, c11, c12⟩ := C
  refine W.objInit c1 c2 c5 (c6 _ hk) (c6 _ ob_w.1) (c6 _ ob_w.2) rfl (hl'.1.trans c3.symm) rfl hd (Nat.le_trans h1 r1) ?_ ?_
  · show 2 * 0 + _ + 12 ≤ _
    omega
  · exact k1
theorem arr_w : Cond.arrayClass .int ∈ gw_tbl ∧ Cond.arrayClass .boolean ∈ gw_tbl := ⟨gw_in 87 (by decide +kernel) (by decide +kernel), gw_in 901 (by decide +kernel) (by decide +kernel)⟩
theorem gv_newi {x : Int32} (N : Nat) (hx : x = nI N) (hN : N ≤ 1000) (hc : k + 1 ≤ mc) (hs : n + N ≤ ms) (hd : decode M.2.1 pc = .ok (.newarray .int, 2)) (kk : ∀ q : Nat, Gv cT D M d mc ms (k + 1) (n + N) (pc + 2) loc (.ref q :: st) (ws ++ [(q, .inl (cT 0, N, .inl (fun _ => 0)))]) Q) : Gv cT D M d mc ms k n pc loc (.int x :: st) ws Q := by
  intro p l e R s m args below meth c A C H locs ls hP hD hS hl'
  have kk' := fun q H1 hP1 hD1 hS1 => kk q p l e R s m args below meth c A C H1 locs ls hP1 hD1 hS1 hl'
  obtain ⟨c1, c2, c3, c4, c5, c6, c7, c8, ⟨r1, r2, r3, r4⟩, c10, c11, c12⟩ := C
  subst hx
  refine va_newa (atype := .int) (ty := .int) (N' := N) (a0 := (N, .inl (fun _ => 0))) c1 c2 (c6 _ arr_w.1) rfl c8 hP hD hS c10 (fun cA => rfl) (nI_pos (by omega)) (nI_clamp (by omega)) (by show N * 4 ≤ 536870912; omega) (by omega) (by omega) hd (fun q cA H1 hK1 hP1 hD1 hS1 => ?_)
  have e1 : s.vm.findClass ("[" ++ (FieldType.int).toString) = some cA := (hK1.2 2 (cA, .int) rfl).2
  have e2 : s.vm.findClass ("[" ++ (FieldType.int).toString) = some (cT 0) := (c8.2 0 (cT 0, .int) rfl).2
  have e3 : cA = cT 0 := Option.some.inj (e1.symm.trans e2)
  subst e3
  exact kk' q H1 hP1 hD1 hS1
theorem gv_newz {x : Int32} (N : Nat) (hx : x = nI N) (hN : N ≤ 1000) (hc : k + 1 ≤ mc) (hs : n + N ≤ ms) (hd : decode M.2.1 pc = .ok (.newarray .boolean, 2)) (kk : ∀ q : Nat, Gv cT D M d mc ms (k + 1) (n + N) (pc + 2) loc (.ref q :: st) (ws ++ [(q, .inl (cT 1, N, .inl (fun _ => 0)))]) Q) : Gv cT D M d mc ms k n pc loc (.int x :: st) ws Q := by
  intro p l e R s m args below meth c A C H locs ls hP hD hS hl'
  have kk' := fun q H1 hP1 hD1 hS1 => kk q p l e R s m args below meth c A C H1 locs ls hP1 hD1 hS1 hl'
  obtain ⟨c1, c2, c3, c4, c5, c6, c7, c8, ⟨r1, r2, r3, r4⟩, c10, c11, c12⟩ := C
  subst hx
  refine va_newa (atype := .boolean) (ty := .boolean) (N' := N) (a0 := (N, .inl (fun _ => 0))) c1 c2 (c6 _ arr_w.2) rfl c8 hP hD hS c10 (fun cA => rfl) (nI_pos (by omega)) (nI_clamp (by omega)) (by show N * 1 ≤ 536870912; omega) (by omega) (by omega) hd (fun q cA H1 hK1 hP1 hD1 hS1 => ?_)
  have e1 : s.vm.findClass ("[" ++ (FieldType.boolean).toString) = some cA := (hK1.2 2 (cA, .boolean) rfl).2
  have e2 : s.vm.findClass ("[" ++ (FieldType.boolean).toString) = some (cT 1) := (c8.2 1 (cT 1, .boolean) rfl).2
  have e3 : cA = cT 1 := Option.some.inj (e1.symm.trans e2)
  subst e3
  exact kk' q H1 hP1 hD1 hS1
/-- a class that can be made -/
def gx_Nw (own : String) (idx ci N : Nat) (fs : List Value) : Prop := ∃ (C : String) (T : u_T) (ty : Nat → FieldType), vwCl[ci]? = some (C, T, N) ∧ (∀ w ∈ u_ws C T N, w ∈ gw_tbl) ∧ (∀ k, k < N → parseFieldDescriptor (T k).2.2.1 = some (ty k)) ∧ Cond.classLink own idx C ∈ gw_tbl ∧ Cond.instantiable C N ∈ gw_tbl ∧ Cond.initialized C ∈ gw_tbl ∧ ∀ j, j < N → defaultValue (ty j) = vp_V fs j
theorem gv_new {idx ci N : Nat} {fs : List Value} (hw : gx_Nw M.1.cls idx ci N fs) (hc : k + 1 ≤ mc) (hs : n + N ≤ ms) (hd : decode M.2.1 pc = .ok (.new idx, 3)) (kk : ∀ q : Nat, Gv cT D M d mc ms (k + 1) (n + N) (pc + 3) loc (.ref q :: st) (ws ++ [(q, .inr (ci, fs))]) Q) : Gv cT D M d mc ms k n pc loc st ws Q := by
  intro p l e R s m args below meth c A C H locs ls hP hD hS hl'
  have kk' := fun q H1 hP1 hD1 hS1 => kk q p l e R s m args below meth c A C H1 locs ls hP1 hD1 hS1 hl'
  obtain ⟨c1, c2, c3, c4, c5, c6, c7, c8, ⟨r1, r2, r3, r4⟩, c10, c11, c12⟩ := C
  obtain ⟨C, T, ty, w1, w2, w3, w4, w5, w6, w7⟩ := hw
  exact va_new c1 c2 c6 w2 ty w3 c5 (c6 _ w4) (c6 _ w5) (c6 _ w6) c8 hP hD hS c10 w1 w7 (by omega) (by omega) hd (fun q H1 hP1 hD1 hS1 => kk' q H1 hP1 hD1 hS1)
theorem gv_get {idx ci kf q0 a : Nat} {fs : List Value} {v : Value} (hd : decode M.2.1 pc = .ok (.getfield idx, 3)) (hk : gx_FL M.1.cls idx ci kf) (he : ws[q0]? = some (a, .inr (ci, fs))) (hv : fs[kf]? = some v) (kk : Gv cT D M d mc ms k n (pc + 3) loc (v :: st) ws Q) : Gv cT D M d mc ms k n pc loc (.ref a :: st) ws Q := by
  intro p l e R s m args below meth c A C H locs ls hP hD hS hl'
  have k1 := kk p l e R s m args below meth c A C H locs ls hP hD hS hl'
  obtain ⟨c1, c2, c3, c4, c5, c6, c7, c8, ⟨r1, r2, r3, r4⟩, c10, c11, c12⟩ := C
  obtain ⟨Cn, T, N, hc, hkN, hin, hl⟩ := hk
  rcases hl with hl | ⟨host, hl⟩
  · exact va_get (T := T) c1 c2 c6 hin c5 c8 hP q0 he hc kf hkN (c6 _ hl) (fun _ h9 => h9) hv hd k1
  · exact va_getN (T := T) c1 c2 c6 hin c5 c8 hP q0 he hc kf hkN (c11.use hl) (fun _ h9 => h9) hv hd k1
/-- a final field, written in its own constructor -/
def gx_FF (own : String) (idx ci k : Nat) (ty : FieldType) : Prop := ∃ (C : String) (T : u_T) (N : Nat) (ty0 : Nat → FieldType), vwCl[ci]? = some (C, T, N) ∧ k < N ∧ (∀ w ∈ u_ws C T N, w ∈ gw_tbl) ∧ Cond.fieldLink own idx (T k).1 (T k).2.1 (T k).2.2.1 ∈ gw_tbl ∧ (∀ k, k < N → parseFieldDescriptor (T k).2.2.1 = some (ty0 k)) ∧ (∀ a, a < N → ∀ b, b < N → a ≠ b → (T a).2.1 ≠ (T b).2.1) ∧ (T k).2.2.2 = true ∧ (T k).1 = own ∧ parseFieldDescriptor (T k).2.2.1 = some ty
theorem gv_putf {idx ci kf q0 a : Nat} {fs : List Value} {v : Value} {ty : FieldType} (hd : decode M.2.1 pc = .ok (.putfield idx, 3)) (hk : gx_FF M.1.cls idx ci kf ty) (he : ws[q0]? = some (a, .inr (ci, fs))) (hlen : kf < fs.length) (hn : narrow ty v = v) (hfit : fits ty v = true) (kk : Gv cT D M d mc ms k n (pc + 3) loc st (ws.set q0 (a, .inr (ci, fs.set kf v))) Q) : Gv cT D M d mc ms k n pc loc (v :: .ref a :: st) ws Q := by
  intro p l e R s m args below meth c A C H locs ls hP hD hS hl'
  have kk' := fun H1 locs1 hP1 hD1 hS1 => kk p l e R s m args below meth c A C H1 locs1 ls hP1 hD1 hS1 hl'
  obtain ⟨c1, c2, c3, c4, c5, c6, c7, c8, ⟨r1, r2, r3, r4⟩, c10, c11, c12⟩ := C
  obtain ⟨Cn, T, N, ty0, hc, hkN, hin, hl, hty, hnm, hfin, hdecl, hpd⟩ := hk
  exact va_putF (T := T) c1 c2 c6 hin ty0 hty hnm c5 c8 hP hD hS q0 he hc kf hkN (c6 _ hl) (fun _ h9 => h9) hfin c12 hdecl hpd hn hfit hlen hd (fun H1 locs1 hP1 hD1 hS1 => kk' H1 locs1 hP1 hD1 hS1)
theorem gv_puti {idx ci kf q0 a : Nat} {fs : List Value} {x : Int32} (hd : decode M.2.1 pc = .ok (.putfield idx, 3)) (hk : gx_FP M.1.cls idx ci kf .int) (he : ws[q0]? = some (a, .inr (ci, fs))) (hlen : kf < fs.length) (kk : Gv cT D M d mc ms k n (pc + 3) loc st (ws.set q0 (a, .inr (ci, fs.set kf (.int x)))) Q) : Gv cT D M d mc ms k n pc loc (.int x :: .ref a :: st) ws Q := by
  intro p l e R s m args below meth c A C H locs ls hP hD hS hl'
  have kk' := fun H1 locs1 hP1 hD1 hS1 => kk p l e R s m args below meth c A C H1 locs1 ls hP1 hD1 hS1 hl'
  obtain ⟨c1, c2, c3, c4, c5, c6, c7, c8, ⟨r1, r2, r3, r4⟩, c10, c11, c12⟩ := C
  obtain ⟨Cn, T, N, ty0, hc, hkN, hin, hl, hty, hnm, hfin, hpd⟩ := hk
  rcases hl with hl | ⟨host, hl⟩
  · exact va_put (T := T) c1 c2 c6 hin ty0 hty hnm c5 c8 hP hD hS q0 he hc kf hkN (c6 _ hl) (fun _ h9 => h9) hfin hpd rfl rfl hlen hd (fun H1 locs1 hP1 hD1 hS1 => kk' H1 locs1 hP1 hD1 hS1)
  · exact va_putN (T := T) c1 c2 c6 hin ty0 hty hnm c5 c8 hP hD hS q0 he hc kf hkN (c11.use hl) (fun _ h9 => h9) hfin hpd rfl rfl hlen hd (fun H1 locs1 hP1 hD1 hS1 => kk' H1 locs1 hP1 hD1 hS1)
theorem gv_max {x y : Int32} {idx : Nat} (hd : decode M.2.1 pc = .ok (.invokestatic idx, 3)) (hk : Cond.methodLink M.1.cls idx Lib.Math.max.name ∈ gw_tbl) (hdd : 1 ≤ d) (hkc : k ≤ mc) (hns : n ≤ ms) (hcat : (st.map fun v => v.category).sum ≤ 8) (kk : Gv cT D M d mc ms k n (pc + 3) loc (.int (if x < y then y else x) :: st) ws Q) : Gv cT D M d mc ms k n pc loc (.int y :: .int x :: st) ws Q := by
  intro p l e R s m args below meth c A C H locs ls hP hD hS hl'
  have k1 := kk p l e R s m args below meth c A C H locs ls hP hD hS hl'
  obtain ⟨c1, c2, c3, c4, c5, c6, c7, c8, ⟨r1, r2, r3, r4⟩, c10, c11, c12⟩ := C
  exact va_mmax c1 c2 (c3.trans hl'.1.symm) c5 (c6 _ hk) (c6 _ gx_max_w.1) (c6 _ gx_max_w.2.1) (c6 _ gx_max_w.2.2) (Nat.le_trans hdd r1) (by omega) (by omega) (by omega) hd k1
theorem gv_ret (hd : decode M.2.1 pc = .ok (.return_, 1)) (hr : M.2.2.2 = none) (hkc : k ≤ mc) (hns : n ≤ ms) (hq : Q ws) : Gv cT D M d mc ms k n pc loc [] ws Q := by
  intro p l e R s m args below meth c A C H locs ls hP hD hS hl'
  obtain ⟨c1, c2, c3, c4, c5, c6, c7, c8, ⟨r1, r2, r3, r4⟩, c10, c11, c12⟩ := C
  refine W.widen hkc hns ?_
  exact W.vret c1 c2 (c4.trans hr) (fun t ht hW => ⟨⟨ws, rfl, hq, by rw [ht]; exact hP, va_K.moved hW.alike c8, hD⟩, hS.F ht⟩) hS.2.2 hd c7
/-! ===== behind the call of a constructor ===== -/
theorem nd_rng : ∀ (n a : Nat), va_nd (List.range' a n) = true
  | 0, a => rfl
  | n + 1, a => by
    show (decide (a ∉ List.range' (a + 1) n) && va_nd (List.range' (a + 1) n)) = true
    rw [nd_rng n (a + 1), Bool.and_true, decide_eq_true_iff]
    intro h
    have := List.mem_range'_1.mp h
    omega
theorem rng_map (ws : va_W) (x : Nat × va_E) : (List.range' 0 ws.length).map (fun i => (ws ++ [x])[i]?) = ws.map some := by
  apply List.ext_getElem?
  intro i
  rw [List.getElem?_map, List.getElem?_map]
  by_cases h : i < ws.length
  · rw [List.getElem?_range' h, Option.map_some, Nat.zero_add, Nat.one_mul, List.getElem?_append_left h]
    rw [List.getElem?_eq_getElem h]
    rfl
  · rw [List.getElem?_eq_none (by rw [List.length_range']; omega), List.getElem?_eq_none (by omega)]
    rfl
theorem last_map (ws : va_W) (x : Nat × va_E) : [ws.length].map (fun i => (ws ++ [x])[i]?) = [x].map some := by
  show [(ws ++ [x])[ws.length]?] = [some x]
  rw [List.getElem?_append_right (Nat.le_refl _), Nat.sub_self]
  rfl
theorem gc_join {A0 : Nat → Prop} {h : Nat} {e0 : va_E} {w1 : va_W} {H H1 : Heap} (hP : va_P D vwCl (ws ++ [(h, e0)]) H) (hD : va_D A0 (ws ++ [(h, e0)])) (hk : ∀ q : Nat, q < H.size → ¬ va_A [(h, e0)] H.size q → H1[q]? = H[q]?) (hF : ∀ q, va_A [(h, e0)] H.size q → A0 q) (hP1 : va_P D vwCl w1 H1) (hD1 : va_D (va_A [(h, e0)] H.size) w1) : va_P D vwCl (ws ++ w1) H1 ∧ va_D A0 (ws ++ w1) :=
  va_join (wc := [(h, e0)]) (wr := ws) hP hD [ws.length] (List.range' 0 ws.length) (last_map ws _) (rng_map ws _) (nd_rng _ _) (fun i hi hc => by
    have h1 := List.mem_range'_1.mp hi
    have h2 : i = ws.length := List.mem_singleton.mp hc
    omega) hk hF hP1 hD1
theorem gc_blind {h0 sz : Nat} {av : List Value} {e0 : va_E} : FrameBlind (va_Pc (.ref h0 :: av) (fun U => U.heap.size = sz ∧ va_P D vwCl [(h0, e0)] U.heap ∧ va_K D vwCl (gx_T cT) U ∧ va_D (fun _ => True) [(h0, e0)] ∧ gx_N U)) := by
  intro a U g mk q
  obtain ⟨q0, q1, qP, qK, qD, qN⟩ := q
  exact ⟨q0, q1, qP, va_K.moved (u := U) (U := U.calling g mk a) (Vm.Alike.refl U.vm) qK, qD, gx_N.same (s := U) (U := U.calling g mk a) rfl qN⟩
theorem gc_one {A : Nat → Prop} {h : Nat} {e0 : va_E} (hD : va_D A (ws ++ [(h, e0)])) : va_D A [(h, e0)] := by
  refine ⟨fun i j p q hi hj _ => ?_, fun k q hk => ?_⟩
  · have h1 := (List.getElem?_eq_some_iff.mp hi).1
    have h2 := (List.getElem?_eq_some_iff.mp hj).1
    have h3 : i < 1 := h1
    have h4 : j < 1 := h2
    omega
  · have h1 : k < 1 := (List.getElem?_eq_some_iff.mp hk).1
    obtain rfl : k = 0 := by omega
    cases hk
    exact hD.2 ws.length (h, e0) (by rw [List.getElem?_append_right (Nat.le_refl _), Nat.sub_self]; rfl)
theorem gc_oneP {h : Nat} {e0 : va_E} {H : Heap} (hP : va_P D vwCl (ws ++ [(h, e0)]) H) : va_P D vwCl [(h, e0)] H := by
  intro k q hk
  have h1 : k < 1 := (List.getElem?_eq_some_iff.mp hk).1
  obtain rfl : k = 0 := by omega
  cases hk
  exact hP ws.length (h, e0) (by rw [List.getElem?_append_right (Nat.le_refl _), Nat.sub_self]; rfl)
/-- a constructor's words -/
def gx_MI (M : gx_M) (n : Nat) : Prop := Cond.instanceMethod M.1 ∈ gw_tbl ∧ Cond.initialized M.1.cls ∈ gw_tbl ∧ Cond.code M.1 M.2.1 M.2.2.1 M.2.2.2 ∈ gw_tbl ∧ M.1.cls ≠ "java/lang/invoke/MethodHandle" ∧ M.1.cls ≠ "java/lang/invoke/VarHandle" ∧ (parseMethodDescriptor M.1.desc).map (fun d => d.parameters.length) = some n ∧ M.2.2.1 ≤ 45 ∧ M.1.name = "<init>" ∧ M.2.2.2 = none
theorem gc_run {p : Program} {l : Launch} {e : Env} {R : Room} {s : State} {m : MethodId} {args : Array Value} {below : List Frame} {meth : Method} {c : Code} {cc : ByteArray} {own : String} {nL idx na h : Nat} {A : Nat → Prop} {H : Heap} {locs : List Loc} {ls : Array Slot} {As : List Value} {e0 : va_E} {cells slots : Nat} {Qm : State → Prop}
    (hx : p.tables.exec = Jvm.exec) (hb : c.code = cc) (hml : c.maxLocals = nL) (hown : s.vm.findClass own = some m.cls) (hts : ∀ w ∈ gw_tbl, w.before args s = true) (hK : va_K D vwCl (gx_T cT) s) (hN : gx_N s) (hA : ∀ q, s.heap.size ≤ q → A q)
    (hP : va_P D vwCl (ws ++ [(h, e0)]) H) (hD : va_D A (ws ++ [(h, e0)])) (hS : va_S A s.heap H locs) (hsz : ls.size = nL)
    (hd : decode cc pc = .ok (.invokespecial idx, 3)) (hlk : gx_Lk own idx M'.1) (hv : gx_MI M' na) (hn : As.length = na) (hct : Kt cT D d' mc' ms' M' h As e0 Q') (hfr : d' + 1 ≤ R.frames) (hlo : 64 * (d' + 1) ≤ R.locals) (hc : cells + mc' ≤ R.cells) (hs : slots + ms' ≤ R.slots) (hcat : (st.map fun v => v.category).sum ≤ 8)
    (kk : ∀ (w1 : va_W) (H1 : Heap) (locs1 : List Loc), Q' w1 → va_P D vwCl (ws ++ w1) H1 → va_D A (ws ++ w1) → va_S A s.heap H1 locs1 → W p l e R s m args below meth c H1 locs1 (cells + mc') (slots + ms') Qm (F0 m (pc + 3) ls st)) :
    W p l e R s m args below meth c H locs cells slots Qm (F0 m pc ls (As.reverse ++ .ref h :: st)) := by
  obtain ⟨v1, v2, v3, v4, v5, v6, v7, v8, v9⟩ := hv
  have hM := hct l H.size
  rw [v9] at hM
  rw [v9] at v3
  have hF : ∀ q, va_A [(h, e0)] H.size q → A q := by
    intro q hq
    rcases hq with ⟨k, e, hk⟩ | hq
    · exact (gc_one hD).2 k (q, e) hk
    · exact hA q (Nat.le_trans hS.1 hq)
  have hpre : ∀ U : State, U.heap = H → s.WarmedH U.vm → va_Pc (.ref h :: As) (fun U => U.heap.size = H.size ∧ va_P D vwCl [(h, e0)] U.heap ∧ va_K D vwCl (gx_T cT) U ∧ va_D (fun _ => True) [(h, e0)] ∧ gx_N U) (.ref h :: As).toArray U := fun U hU hW => ⟨rfl, by rw [hU], by rw [hU]; exact gc_oneP hP, va_K.moved hW.alike hK, (gc_one hD).weaken (fun _ _ _ _ => trivial), hN.warm hW⟩
  have fin : ∀ (u : va_W) (t : State) (H1 : Heap) (locs1 : List Loc), t.heap = H1 → s.vm.Alike t.vm → Q' u → (va_P D vwCl u t.heap ∧ va_K D vwCl (gx_T cT) t ∧ va_D (va_A [(h, e0)] H.size) u) → H.size ≤ H1.size → (∀ q : Nat, q < H.size → ¬ va_A [(h, e0)] H.size q → H1[q]? = H[q]?) → va_S A s.heap H1 locs1 → W p l e R s m args below meth c H1 locs1 (cells + mc') (slots + ms') Qm (F0 m (pc + 3) ls st) := by
    intro u t H1 locs1 ht hvm hq hB hz hk1 hS1
    obtain ⟨b1, b2, b3⟩ := hB
    rw [ht] at b1
    obtain ⟨j1, j2⟩ := gc_join hP hD hk1 hF b1 b3
    exact kk u H1 locs1 hq j1 j2 hS1
  have gI : GoodIn gw_tbl (.code M'.1 M'.2.1 M'.2.2.1 none :: gw_tbl) := by
    intro w hw
    have h1 : w ∈ gw_tbl := by
      rcases List.mem_cons.mp hw with e | e
      · rw [e]; exact v3
      · exact e
    exact ⟨h1, good_of_word (List.all_eq_true.mp gx_good w h1)⟩
  rcases hlk with hk | ⟨host, hk⟩
  · exact va_callv (va_runI (As := As) (rest := st) ⟨hx, hb, hml, hown, hts⟩ hM (cwI na hts gI rfl rfl rfl (hts _ v2) (hts _ hk) (hts _ v1) v8 ⟨v4, v5, v6⟩ ⟨hfr, by show 8 + (M'.2.2.1 + 11) + 64 * d' ≤ R.locals; omega⟩) ⟨gc_blind, hpre⟩ rfl hn hsz rfl (lv_room hcat) hd ⟨hc, hs⟩) hS (fun q _ h9 => hF q h9) hF fin
  · exact va_callv (va_runIN (As := As) (rest := st) ⟨hx, hb, hml, hown, hts⟩ hM ⟨va_cnB na hts gI rfl rfl rfl (hN _ hk) (hts _ v2) ⟨v4, v5, v6⟩ ⟨hfr, by show 8 + (M'.2.2.1 + 11) + 64 * d' ≤ R.locals; omega⟩, v8, hts _ v1⟩ ⟨gc_blind, hpre⟩ rfl hn hsz rfl (lv_room hcat) hd ⟨hc, hs⟩) hS (fun q _ h9 => hF q h9) hF fin
theorem gv_call {idx na h : Nat} {As : List Value} {e0 : va_E} (hd : decode M.2.1 pc = .ok (.invokespecial idx, 3)) (hlk : gx_Lk M.1.cls idx M'.1) (hv : gx_MI M' na) (hn : As.length = na) (hct : Kt cT D d' mc' ms' M' h As e0 Q') (hdd : d' + 1 ≤ d) (hc : k + mc' ≤ mc) (hs : n + ms' ≤ ms) (hcat : (st.map fun v => v.category).sum ≤ 8) (kk : ∀ w1 : va_W, Q' w1 → Gv cT D M d mc ms (k + mc') (n + ms') (pc + 3) loc st (ws ++ w1) Q) : Gv cT D M d mc ms k n pc loc (As.reverse ++ .ref h :: st) (ws ++ [(h, e0)]) Q := by
  intro p l e R s m args below meth c A C H locs ls hP hD hS hl'
  have kk' := fun w1 H1 locs1 hq hP1 hD1 hS1 => kk w1 hq p l e R s m args below meth c A C H1 locs1 ls hP1 hD1 hS1 hl'
  obtain ⟨c1, c2, c3, c4, c5, c6, c7, c8, ⟨r1, r2, r3, r4⟩, c10, c11, c12⟩ := C
  exact gc_run (Q' := Q') c1 c2 c3 c5 c6 c8 c11 c10 hP hD hS hl'.1 hd hlk hv hn hct (Nat.le_trans hdd r1) (by omega) (by omega) (by omega) hcat (fun w1 H1 locs1 hq hP1 hD1 hS1 => kk' w1 H1 locs1 hq hP1 hD1 hS1)
end GVS
