/-! THE WORLD AS A MEMORY: cells are numbered; an int cell or int field is 'S cell place', a long field 'L cell'; references are numbers of cells. Ev: a walk from a place of a method; Ct: a method's contract. -/
def gw_tbl : List Cond := lw_tbl.filter goodWord
theorem gx_good : gw_tbl.all goodWord = true := List.all_eq_true.mpr (fun w h => (List.mem_filter.mp h).2)
theorem gw_in {w : Cond} (i : Nat) (h : lw_tbl[i]? = some w) (hg : goodWord w = true) : w ∈ gw_tbl := List.mem_filter.mpr ⟨List.mem_of_getElem? h, hg⟩
def gx_isN (w : Cond) : Bool := match w with
  | .fieldLinkNest _ _ _ _ _ _ => true
  | .methodLinkNest _ _ _ _ => true
  | _ => false
def gn_tbl : List Cond := lw_tbl.filter gx_isN
theorem gn_in {w : Cond} (i : Nat) (h : lw_tbl[i]? = some w) (hg : gx_isN w = true) : w ∈ gn_tbl := List.mem_filter.mpr ⟨List.mem_of_getElem? h, hg⟩
/-- the links to private members of nest mates -/
def gx_N (U : State) : Prop := ∀ w ∈ gn_tbl, va_Nw w U
theorem gx_N.warm {s U : State} (hW : s.WarmedH U.vm) (h : gx_N s) : gx_N U := by
  intro w hw
  have h1 := h w hw
  have h2 := (List.mem_filter.mp hw).2
  cases w <;> first | exact va_Nw.warmF hW h1 | exact va_Nw.warmM hW h1 | cases h2
theorem gx_N.same {s U : State} (hv : s.vm = U.vm) (h : gx_N s) : gx_N U := by
  intro w hw
  have h1 := h w hw
  have h2 := (List.mem_filter.mp hw).2
  refine va_Nw.same ?_ hv h1
  cases w <;> first | rfl | cases h2
theorem gx_N.use {s : State} {args : Array Value} (h : gx_N s) {w : Cond} (hw : w ∈ gn_tbl) : w.before args s = true := by
  have h1 := h w hw
  have h2 := (List.mem_filter.mp hw).2
  refine va_Nw.use ?_ h1
  cases w <;> first | rfl | cases h2
abbrev gx_S : Type := Nat → Nat → Int32
abbrev gx_L : Type := Nat → Int64
abbrev gx_M : Type := MethodName × ByteArray × Nat × Option FieldType
abbrev gx_Sh : Type := (Nat × Nat) ⊕ (Nat × List Nat)
def sh_all : List gx_Sh := [
  .inr (10, [3, 5, 6, 13, 20, 24, 28, 32, 35, 0, 37, 41, 44, 45, 1]),
  .inr (3, [4, 0]), .inl (0, 60),
  .inr (5, [0, 0, 0]),
  .inr (2, [0, 0, 7, 8, 9, 10, 11, 12]), .inl (0, 5), .inl (0, 5), .inl (0, 5), .inl (0, 4), .inl (0, 4), .inl (0, 4),
  .inr (2, [0, 0, 14, 15, 16, 17, 18, 19]), .inl (0, 5), .inl (0, 5), .inl (0, 5), .inl (0, 4), .inl (0, 4), .inl (0, 4),
  .inr (9, [13, 21, 22, 23, 0]), .inl (0, 5), .inl (0, 5), .inl (0, 4),
  .inr (9, [13, 25, 26, 27, 0]), .inl (0, 5), .inl (0, 5), .inl (0, 4),
  .inr (9, [13, 29, 30, 31, 0]), .inl (0, 5), .inl (0, 5), .inl (0, 4),
  .inr (0, [33, 0, 0]), .inr (8, [0, 34]), .inl (0, 210),
  .inr (8, [0, 36]), .inl (0, 30),
  .inr (7, [38, 39, 40, 0]), .inl (0, 6), .inl (0, 6), .inl (0, 6),
  .inr (6, [13, 20, 28, 42, 43, 0, 0]), .inl (0, 5), .inl (0, 4),
  .inr (1, [13, 20, 28]),
  .inr (4, [13, 20, 0, 0, 0, 0]),
  .inr (11, [0, 0, 47, 48, 49, 50, 51, 52, 53, 54, 0, 0, 55, 0, 0, 0, 0, 0, 56, 0, 57, 58, 59, 1, 60, 61]),
  .inl (0, 5), .inl (0, 5), .inl (0, 4), .inl (0, 4), .inl (0, 30), .inl (0, 15), .inl (0, 8), .inl (0, 4), .inl (0, 60), .inl (0, 210), .inl (0, 6), .inl (0, 6), .inl (0, 6), .inl (1, 2), .inl (0, 30)]
def gx_v (ad : Nat → Nat) (v : Value) : Value := match v with
  | .ref k => .ref (ad k)
  | w => w
def gx_fv (ad : Nat → Nat) (f : Nat → Int32) (lg : Int64) (j t : Nat) : Value := match t with
  | 0 => .int (f j)
  | 1 => .long lg
  | r + 2 => .ref (ad r)
def gx_ce (ad : Nat → Nat) (cT : Nat → ClassId) (sh : gx_Sh) (f : Nat → Int32) (lg : Int64) : va_E := match sh with
  | .inl q => .inl (cT q.1, q.2, .inl f)
  | .inr q => .inr (q.1, q.2.mapIdx (fun j t => gx_fv ad f lg j t))
def gx_w (ad : Nat → Nat) (cT : Nat → ClassId) (S : gx_S) (L : gx_L) : va_W := sh_all.mapIdx (fun k sh => (ad k, gx_ce ad cT sh (S k) (L k)))
abbrev gx_T (cT : Nat → ClassId) : List (ClassId × FieldType) := [(cT 0, .int), (cT 1, .boolean)]
def gx_ord (j : Nat) : Int32 := match j with
  | 0 => 1
  | 1 => 1
  | 2 => 2
  | 3 => 6
  | _ => 24
def gx_Z (A : Nat → Prop) (U : State) (H : Heap) : Prop := ∃ t : Nat, va_Z "GlassTax$Chances" "ORDERS_OF" "[I" (.ref t) A U H ∧ va_T .int t 5 (fun j => .int (gx_ord j)) A U H
def gx_lr (ad : Nat → Nat) (ls : Array Slot) (nL : Nat) (loc : List (Option Value)) : Prop := ls.size = nL ∧ lv_wf ls ∧ loc.length ≤ nL ∧ ∀ (i : Nat) (v : Value), loc[i]? = some (some v) → ls[i]? = some (.val (gx_v ad v))
def gx_Cx (M : gx_M) (d : Nat) (p : Program) (R : Room) (s : State) (m : MethodId) (args : Array Value) (meth : Method) (c : Code) (cT : Nat → ClassId) (D : va_G) (A : Nat → Prop) : Prop :=
  p.tables.exec = Jvm.exec ∧ c.code = M.2.1 ∧ c.maxLocals = M.2.2.1 ∧ meth.sig.returnType = M.2.2.2 ∧ s.vm.findClass M.1.cls = some m.cls ∧ (∀ w ∈ gw_tbl, w.before args s = true) ∧ meth.locks = false ∧ va_K D vwCl (gx_T cT) s ∧ gx_Z A s s.heap ∧ d ≤ R.frames ∧ 64 * d ≤ R.locals ∧ (∀ q, s.heap.size ≤ q → A q) ∧ gx_N s
def gx_Qc (ad : Nat → Nat) (cT : Nat → ClassId) (D : va_G) (A : Nat → Prop) (Q : Option Value → gx_S → gx_L → Prop) : Array Value → State → Outcome → State → Prop := fun _ st oc t =>
  (∃ (v : Option Value) (S' : gx_S) (L' : gx_L), oc = .returned (v.map (gx_v ad)) ∧ Q v S' L' ∧ va_P D vwCl (gx_w ad cT S' L') t.heap ∧ va_K D vwCl (gx_T cT) t ∧ va_D A (gx_w ad cT S' L')) ∧ va_F A st t
/-- a walk of method M (of d frames at most), from the place pc, with locals loc, operands st, in the memory S, L: it ends with Q -/
def Ev (M : gx_M) (d pc : Nat) (loc : List (Option Value)) (st : List Value) (S : gx_S) (L : gx_L) (Q : Option Value → gx_S → gx_L → Prop) : Prop :=
  ∀ (p : Program) (l : Launch) (e : Env) (R : Room) (s : State) (m : MethodId) (args : Array Value) (below : List Frame) (meth : Method) (c : Code) (ad : Nat → Nat) (cT : Nat → ClassId) (D : va_G) (A : Nat → Prop), gx_Cx M d p R s m args meth c cT D A →
    ∀ (H : Heap) (locs : List Loc) (ls : Array Slot), va_P D vwCl (gx_w ad cT S L) H → va_D A (gx_w ad cT S L) → va_S A s.heap H locs → gx_lr ad ls M.2.2.1 loc →
      W p l e R s m args below meth c H locs 0 0 (MQ below (gx_Qc ad cT D A Q) args s 0 0 A) (F0 m pc ls (st.map (gx_v ad)))
def gx_rm (d : Nat) : Room := { frames := d, cells := 0, slots := 0, locals := 64 * d }
/-- the contract of method M (of d frames at most): called with av in the memory S, L it ends with Q -/
def Ct (d : Nat) (M : gx_M) (av : List Value) (S : gx_S) (L : gx_L) (Q : Option Value → gx_S → gx_L → Prop) : Prop :=
  ∀ (l : Launch) (ad : Nat → Nat) (cT : Nat → ClassId) (D : va_G) (sz : Nat), Met l M.1 (.code M.1 M.2.1 M.2.2.1 M.2.2.2 :: gw_tbl) (gx_rm d)
    (va_Pc (av.map (gx_v ad)) (fun U => U.heap.size = sz ∧ va_P D vwCl (gx_w ad cT S L) U.heap ∧ va_K D vwCl (gx_T cT) U ∧ va_D (fun _ => True) (gx_w ad cT S L) ∧ gx_Z (va_A (gx_w ad cT S L) sz) U U.heap ∧ gx_N U))
    (gx_Qc ad cT D (va_A (gx_w ad cT S L) sz) Q) 0 0 (va_A (gx_w ad cT S L) sz)
/-! ===== the world's cells ===== -/
theorem gx_w_get {ad : Nat → Nat} {cT : Nat → ClassId} {S : gx_S} {L : gx_L} {k : Nat} {sh : gx_Sh} (h : sh_all[k]? = some sh) : (gx_w ad cT S L)[k]? = some (ad k, gx_ce ad cT sh (S k) (L k)) := by
  unfold gx_w
  rw [List.getElem?_mapIdx, h]
  rfl
def gx_up (S : gx_S) (k : Nat) (f : Nat → Int32) : gx_S := fun i => if i = k then f else S i
def gx_uL (L : gx_L) (k : Nat) (v : Int64) : gx_L := fun i => if i = k then v else L i
theorem gx_w_set {ad : Nat → Nat} {cT : Nat → ClassId} {S S' : gx_S} {L L' : gx_L} {k : Nat} {sh : gx_Sh} (h : sh_all[k]? = some sh) {e : va_E} (he : e = gx_ce ad cT sh (S' k) (L' k)) (h1 : ∀ i, i ≠ k → S' i = S i) (h2 : ∀ i, i ≠ k → L' i = L i) : (gx_w ad cT S L).set k (ad k, e) = gx_w ad cT S' L' := by
  apply List.ext_getElem?
  intro i
  unfold gx_w
  rw [List.getElem?_set, List.getElem?_mapIdx, List.getElem?_mapIdx]
  have hk : k < sh_all.length := (List.getElem?_eq_some_iff.mp h).1
  by_cases hi : k = i
  · subst hi
    rw [if_pos rfl, if_pos (by rw [List.length_mapIdx]; exact hk), h, he]
    rfl
  · rw [if_neg hi, h1 i (Ne.symm hi), h2 i (Ne.symm hi)]
theorem gx_up_at (S : gx_S) (k : Nat) (f : Nat → Int32) : gx_up S k f k = f := if_pos rfl
theorem gx_up_ne (S : gx_S) {k i : Nat} (f : Nat → Int32) (h : i ≠ k) : gx_up S k f i = S i := if_neg h
theorem gx_uL_at (L : gx_L) (k : Nat) (v : Int64) : gx_uL L k v k = v := if_pos rfl
theorem gx_uL_ne (L : gx_L) {k i : Nat} (v : Int64) (h : i ≠ k) : gx_uL L k v i = L i := if_neg h
/-- class and field of a cell: 0 an int, 1 a long, r + 2 the cell r -/
def gx_tp (o ci k : Nat) : Option Nat := match sh_all[o]? with
  | some (.inr q) => if q.1 = ci then q.2[k]? else none
  | _ => none
def gx_ar (o : Nat) : Option (Nat × Nat) := match sh_all[o]? with
  | some (.inl q) => some q
  | _ => none
theorem gx_tp_spec {o ci k t : Nat} (h : gx_tp o ci k = some t) : ∃ tm : List Nat, sh_all[o]? = some (.inr (ci, tm)) ∧ tm[k]? = some t := by
  unfold gx_tp at h
  split at h
  · rename_i q hq
    split at h
    · rename_i h1
      subst h1
      exact ⟨q.2, hq, h⟩
    · cases h
  · cases h
theorem gx_ar_spec {o : Nat} {q : Nat × Nat} (h : gx_ar o = some q) : sh_all[o]? = some (.inl q) := by
  unfold gx_ar at h
  split at h
  · rename_i q' hq
    cases h
    exact hq
  · cases h
/-! ===== words of the tables ===== -/
/-- a field's link, its own class's or a nest mate's -/
def gx_FL (own : String) (idx ci k : Nat) : Prop := ∃ (C : String) (T : u_T) (N : Nat), vwCl[ci]? = some (C, T, N) ∧ k < N ∧ (∀ w ∈ u_ws C T N, w ∈ gw_tbl) ∧
  (Cond.fieldLink own idx (T k).1 (T k).2.1 (T k).2.2.1 ∈ gw_tbl ∨ ∃ host : String, Cond.fieldLinkNest own idx (T k).1 (T k).2.1 (T k).2.2.1 host ∈ gn_tbl)
/-- the same, of a field that is written -/
def gx_FP (own : String) (idx ci k : Nat) (ty : FieldType) : Prop := ∃ (C : String) (T : u_T) (N : Nat) (ty0 : Nat → FieldType), vwCl[ci]? = some (C, T, N) ∧ k < N ∧ (∀ w ∈ u_ws C T N, w ∈ gw_tbl) ∧
  (Cond.fieldLink own idx (T k).1 (T k).2.1 (T k).2.2.1 ∈ gw_tbl ∨ ∃ host : String, Cond.fieldLinkNest own idx (T k).1 (T k).2.1 (T k).2.2.1 host ∈ gn_tbl) ∧
  (∀ k, k < N → parseFieldDescriptor (T k).2.2.1 = some (ty0 k)) ∧ (∀ a, a < N → ∀ b, b < N → a ≠ b → (T a).2.1 ≠ (T b).2.1) ∧ (T k).2.2.2 = false ∧ parseFieldDescriptor (T k).2.2.1 = some ty
/-- a method's link -/
def gx_Lk (own : String) (idx : Nat) (y : MethodName) : Prop := Cond.methodLink own idx y ∈ gw_tbl ∨ ∃ host : String, Cond.methodLinkNest own idx y host ∈ gn_tbl
/-- a method of objects, of n parameters -/
def gx_MV (M : gx_M) (n : Nat) : Prop := Cond.instanceMethod M.1 ∈ gw_tbl ∧ Cond.selects M.1.cls M.1 M.1 ∈ gw_tbl ∧ Cond.initialized M.1.cls ∈ gw_tbl ∧ Cond.code M.1 M.2.1 M.2.2.1 M.2.2.2 ∈ gw_tbl ∧ M.1.cls ≠ "java/lang/invoke/MethodHandle" ∧ M.1.cls ≠ "java/lang/invoke/VarHandle" ∧ (parseMethodDescriptor M.1.desc).map (fun d => d.parameters.length) = some n ∧ M.2.2.1 ≤ 45
/-- a static method, of n parameters -/
def gx_MS (M : gx_M) (n : Nat) : Prop := Cond.static M.1 ∈ gw_tbl ∧ Cond.initialized M.1.cls ∈ gw_tbl ∧ Cond.code M.1 M.2.1 M.2.2.1 M.2.2.2 ∈ gw_tbl ∧ M.1.cls ≠ "java/lang/invoke/MethodHandle" ∧ M.1.cls ≠ "java/lang/invoke/VarHandle" ∧ (parseMethodDescriptor M.1.desc).map (fun d => d.parameters.length) = some n ∧ M.2.2.1 ≤ 45
theorem gx_goodIn {M : gx_M} (h : Cond.code M.1 M.2.1 M.2.2.1 M.2.2.2 ∈ gw_tbl) : GoodIn gw_tbl (.code M.1 M.2.1 M.2.2.1 M.2.2.2 :: gw_tbl) := by
  intro w hw
  have h1 : w ∈ gw_tbl := by
    rcases List.mem_cons.mp hw with e | e
    · rw [e]; exact h
    · exact e
  exact ⟨h1, good_of_word (List.all_eq_true.mp gx_good w h1)⟩
/-! ===== the walk's steps ===== -/
section GXS
variable {M : gx_M} {d pc : Nat} {loc lr : List (Option Value)} {st : List Value} {S : gx_S} {L : gx_L} {Q : Option Value → gx_S → gx_L → Prop} {l0 l1 l2 l3 l4 l5 l6 l7 l8 l9 l10 l11 : Option Value}
theorem ev_aload_g {i n : Nat} {k : Nat} (hl : loc[i]? = some (some (.ref k))) (hd : (∃ f : Fin 4, (f : Nat) = i ∧ decode M.2.1 pc = .ok (.aload_n f, 1) ∧ n = 1) ∨ (decode M.2.1 pc = .ok (.aload i, 2) ∧ n = 2)) (kk : Ev M d (pc + n) loc (.ref k :: st) S L Q) : Ev M d pc loc st S L Q := by
  intro p l e R s m args below meth c ad cT D A C H locs ls hP hD hS hl'
  have h1 := hl'.2.2.2 _ _ hl
  have k1 := kk p l e R s m args below meth c ad cT D A C H locs ls hP hD hS hl'
  rcases hd with ⟨f, hf, h, rfl⟩ | ⟨h, rfl⟩
  · exact lv_aload_n C.1 C.2.1 h hf h1 k1
  · exact lv_aload C.1 C.2.1 h h1 k1
theorem ev_iload_g {i n : Nat} {x : Int32} (hl : loc[i]? = some (some (.int x))) (hd : (∃ f : Fin 4, (f : Nat) = i ∧ decode M.2.1 pc = .ok (.iload_n f, 1) ∧ n = 1) ∨ (decode M.2.1 pc = .ok (.iload i, 2) ∧ n = 2)) (kk : Ev M d (pc + n) loc (.int x :: st) S L Q) : Ev M d pc loc st S L Q := by
  intro p l e R s m args below meth c ad cT D A C H locs ls hP hD hS hl'
  have h1 := hl'.2.2.2 _ _ hl
  have k1 := kk p l e R s m args below meth c ad cT D A C H locs ls hP hD hS hl'
  rcases hd with ⟨f, hf, h, rfl⟩ | ⟨h, rfl⟩
  · exact lv_iload_n C.1 C.2.1 h hf h1 k1
  · exact lv_iload C.1 C.2.1 h h1 k1
theorem ev_lload_g {i n : Nat} {x : Int64} (hl : loc[i]? = some (some (.long x))) (hd : (∃ f : Fin 4, (f : Nat) = i ∧ decode M.2.1 pc = .ok (.lload_n f, 1) ∧ n = 1) ∨ (decode M.2.1 pc = .ok (.lload i, 2) ∧ n = 2)) (kk : Ev M d (pc + n) loc (.long x :: st) S L Q) : Ev M d pc loc st S L Q := by
  intro p l e R s m args below meth c ad cT D A C H locs ls hP hD hS hl'
  have h1 := hl'.2.2.2 _ _ hl
  have k1 := kk p l e R s m args below meth c ad cT D A C H locs ls hP hD hS hl'
  rcases hd with ⟨f, hf, h, rfl⟩ | ⟨h, rfl⟩
  · exact lv_lload_n C.1 C.2.1 h hf h1 k1
  · exact lv_lload C.1 C.2.1 h h1 k1
/-- the locals as the kit's rows have them -/
def gx_al (ad : Nat → Nat) (loc : List (Option Value)) : List (Nat × Value) := (List.range loc.length).filterMap (fun i => match loc[i]? with
  | some (some v) => some (i, gx_v ad v)
  | _ => none)
theorem gx_al_mem {ad : Nat → Nat} {loc : List (Option Value)} {q : Nat × Value} : q ∈ gx_al ad loc ↔ ∃ v, loc[q.1]? = some (some v) ∧ q.2 = gx_v ad v := by
  unfold gx_al
  rw [List.mem_filterMap]
  constructor
  · rintro ⟨i, hi, h⟩
    split at h
    · rename_i v hv
      cases h
      exact ⟨v, hv, rfl⟩
    · cases h
  · rintro ⟨v, h1, h2⟩
    refine ⟨q.1, List.mem_range.mpr (List.getElem?_eq_some_iff.mp h1).1, ?_⟩
    rw [h1]
    show some (q.1, gx_v ad v) = some q
    rw [← h2]
theorem gx_lr_has {ad : Nat → Nat} {ls : Array Slot} {nL : Nat} {loc : List (Option Value)} (h : gx_lr ad ls nL loc) : lv_has ls nL (gx_al ad loc) := by
  refine ⟨h.1, h.2.1, fun q hq => ?_⟩
  obtain ⟨v, h1, h2⟩ := gx_al_mem.mp hq
  rw [h2]
  exact h.2.2.2 _ _ h1
/-- no long reaches into the place i -/
def gx_nl (loc : List (Option Value)) (i : Nat) : Bool := match i with
  | 0 => true
  | j + 1 => match loc[j]? with
    | some (some v) => v.category != 2
    | _ => true
theorem gx_v_cat (ad : Nat → Nat) (v : Value) : (gx_v ad v).category = v.category := by cases v <;> rfl
theorem gx_lr_set1 {ad : Nat → Nat} {ls' : Array Slot} {nL i : Nat} {loc : List (Option Value)} {v : Value} (hlen : loc.length ≤ nL) (hn : gx_nl loc i = true) (h : lv_has ls' nL ((i, gx_v ad v) :: (gx_al ad loc).filter (fun q => !(q.1 == i) && !(q.1 + 1 == i && q.2.category == 2)))) : gx_lr ad ls' nL (loc.set i (some v)) := by
  refine ⟨h.1, h.2.1, by rw [List.length_set]; exact hlen, fun j w hj => ?_⟩
  rw [List.getElem?_set] at hj
  by_cases hij : i = j
  · subst hij
    rw [if_pos rfl] at hj
    split at hj
    · cases hj
      exact h.2.2 (i, gx_v ad v) List.mem_cons_self
    · cases hj
  · rw [if_neg hij] at hj
    refine h.2.2 (j, gx_v ad w) (List.mem_cons_of_mem _ (List.mem_filter.mpr ⟨gx_al_mem.mpr ⟨w, hj, rfl⟩, ?_⟩))
    have h1 : (j == i) = false := by simp [Ne.symm hij]
    have h2 : (j + 1 == i && (gx_v ad w).category == 2) = false := by
      rw [gx_v_cat]
      by_cases h3 : j + 1 = i
      · subst h3
        have h4 : (w.category != 2) = true := by
          have h5 := hn
          unfold gx_nl at h5
          simp only [hj] at h5
          exact h5
        simp at h4 ⊢
        exact h4
      · simp [h3]
    simp only [h1, h2]
    rfl
theorem ev_store_g {i n : Nat} {x : Int32} (hi : i < M.2.2.1) (hn : gx_nl loc i = true) (hd : (∃ f : Fin 4, (f : Nat) = i ∧ decode M.2.1 pc = .ok (.istore_n f, 1) ∧ n = 1) ∨ (decode M.2.1 pc = .ok (.istore i, 2) ∧ n = 2)) (kk : Ev M d (pc + n) (loc.set i (some (.int x))) st S L Q) : Ev M d pc loc (.int x :: st) S L Q := by
  intro p l e R s m args below meth c ad cT D A C H locs ls hP hD hS hl'
  have k1 := fun ls h => kk p l e R s m args below meth c ad cT D A C H locs ls hP hD hS h
  rcases hd with ⟨f, hf, h, rfl⟩ | ⟨h, rfl⟩
  · exact lv_istore_n C.1 C.2.1 h hf (gx_lr_has hl') hi rfl (fun ls' h' => k1 ls' (gx_lr_set1 (v := .int x) hl'.2.2.1 hn h'))
  · exact lv_istore C.1 C.2.1 h (gx_lr_has hl') hi rfl (fun ls' h' => k1 ls' (gx_lr_set1 (v := .int x) hl'.2.2.1 hn h'))
theorem ev_iinc_g {i : Nat} {n : Int} {x v : Int32} (hl : loc[i]? = some (some (.int x))) (hi : i < M.2.2.1) (hn : gx_nl loc i = true) (hd : decode M.2.1 pc = .ok (.iinc i n, 3)) (hv : x + Int32.ofInt n = v) (kk : Ev M d (pc + 3) (loc.set i (some (.int v))) st S L Q) : Ev M d pc loc st S L Q := by
  intro p l e R s m args below meth c ad cT D A C H locs ls hP hD hS hl'
  obtain ⟨k, hk⟩ := List.getElem?_of_mem (gx_al_mem (ad := ad) (q := (i, Value.int x)) |>.mpr ⟨.int x, hl, rfl⟩)
  exact lv_iinc C.1 C.2.1 hd (gx_lr_has hl') hk hv hi rfl (fun ls' h' => kk p l e R s m args below meth c ad cT D A C H locs ls' hP hD hS (gx_lr_set1 (v := .int v) hl'.2.2.1 hn h'))
theorem gx_lr_set2 {ad : Nat → Nat} {ls' : Array Slot} {nL i : Nat} {loc : List (Option Value)} {v : Value} (hlen : loc.length ≤ nL) (hn : gx_nl loc i = true) (h : lv_has ls' nL ((i, gx_v ad v) :: (gx_al ad loc).filter (fun q => !(q.1 == i) && (!(q.1 == i + 1) && !(q.1 + 1 == i && q.2.category == 2))))) : gx_lr ad ls' nL ((loc.set i (some v)).set (i + 1) none) := by
  refine ⟨h.1, h.2.1, by rw [List.length_set, List.length_set]; exact hlen, fun j w hj => ?_⟩
  rw [List.getElem?_set] at hj
  by_cases hij1 : i + 1 = j
  · subst hij1
    rw [if_pos rfl] at hj
    split at hj <;> cases hj
  · rw [if_neg hij1, List.getElem?_set] at hj
    by_cases hij : i = j
    · subst hij
      rw [if_pos rfl] at hj
      split at hj
      · cases hj
        exact h.2.2 (i, gx_v ad v) List.mem_cons_self
      · cases hj
    · rw [if_neg hij] at hj
      refine h.2.2 (j, gx_v ad w) (List.mem_cons_of_mem _ (List.mem_filter.mpr ⟨gx_al_mem.mpr ⟨w, hj, rfl⟩, ?_⟩))
      have h0 : (j == i + 1) = false := by simp [Ne.symm hij1]
      have h1 : (j == i) = false := by simp [Ne.symm hij]
      have h2 : (j + 1 == i && (gx_v ad w).category == 2) = false := by
        rw [gx_v_cat]
        by_cases h3 : j + 1 = i
        · subst h3
          have h4 : (w.category != 2) = true := by
            have h5 := hn
            unfold gx_nl at h5
            simp only [hj] at h5
            exact h5
          simp at h4 ⊢
          exact h4
        · simp [h3]
      simp only [h0, h1, h2]
      rfl
theorem ev_lstore_g {i n : Nat} {x : Int64} (hi : i + 1 < M.2.2.1) (hn : gx_nl loc i = true) (hd : (∃ f : Fin 4, (f : Nat) = i ∧ decode M.2.1 pc = .ok (.lstore_n f, 1) ∧ n = 1) ∨ (decode M.2.1 pc = .ok (.lstore i, 2) ∧ n = 2)) (kk : Ev M d (pc + n) ((loc.set i (some (.long x))).set (i + 1) none) st S L Q) : Ev M d pc loc (.long x :: st) S L Q := by
  intro p l e R s m args below meth c ad cT D A C H locs ls hP hD hS hl'
  have k1 := fun ls h => kk p l e R s m args below meth c ad cT D A C H locs ls hP hD hS h
  rcases hd with ⟨f, hf, h, rfl⟩ | ⟨h, rfl⟩
  · exact lv_lstore_n C.1 C.2.1 h hf (gx_lr_has hl') hi rfl (fun ls' h' => k1 ls' (gx_lr_set2 (v := .long x) hl'.2.2.1 hn h'))
  · exact lv_lstore C.1 C.2.1 h (gx_lr_has hl') hi rfl (fun ls' h' => k1 ls' (gx_lr_set2 (v := .long x) hl'.2.2.1 hn h'))
end GXS
