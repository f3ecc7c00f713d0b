section GXV
variable {M : gx_M} {d pc : Nat} {loc : List (Option Value)} {st : List Value} {S : gx_S} {L : gx_L} {Q : Option Value → gx_S → gx_L → Prop}
/-! ===== ends ===== -/
theorem gx_end {ad : Nat → Nat} {cT : Nat → ClassId} {D : va_G} {A : Nat → Prop} {s t : State} {H : Heap} {locs : List Loc} {args : Array Value} {v : Option Value} (hP : va_P D vwCl (gx_w ad cT S L) H) (hD : va_D A (gx_w ad cT S L)) (hS : va_S A s.heap H locs) (hK : va_K D vwCl (gx_T cT) s) (hq : Q v S L) (ht : t.heap = H) (hW : s.WarmedH t.vm) : gx_Qc ad cT D A Q args s (.returned (v.map (gx_v ad))) t :=
  ⟨⟨v, S, L, rfl, hq, by rw [ht]; exact hP, va_K.moved hW.alike hK, hD⟩, hS.F ht⟩
theorem ev_iret {x : Int32} (hd : decode M.2.1 pc = .ok (.ireturn, 1)) (hq : Q (some (.int x)) S L) (hr : M.2.2.2 = some .int := by rfl) : Ev M d pc loc [.int x] S L Q := by
  intro p l e R s m args below meth c ad cT D A C H locs ls hP hD hS hl'
  exact W.iret (v := x) C.1 C.2.1 (C.2.2.2.1.trans hr) (fun t ht hW => gx_end (v := some (.int x)) hP hD hS C.2.2.2.2.2.2.2.1 hq ht hW) hS.2.2 hd C.2.2.2.2.2.2.1
theorem ev_zret {x : Int32} (hd : decode M.2.1 pc = .ok (.ireturn, 1)) (hn : narrow .boolean (.int x) = .int x) (hq : Q (some (.int x)) S L) (hr : M.2.2.2 = some .boolean := by rfl) : Ev M d pc loc [.int x] S L Q := by
  intro p l e R s m args below meth c ad cT D A C H locs ls hP hD hS hl'
  exact W.zret (v := x) (ty := .boolean) C.1 C.2.1 (C.2.2.2.1.trans hr) hn (fun t ht hW => gx_end (v := some (.int x)) hP hD hS C.2.2.2.2.2.2.2.1 hq ht hW) hS.2.2 hd C.2.2.2.2.2.2.1
theorem ev_lret {x : Int64} (hd : decode M.2.1 pc = .ok (.lreturn, 1)) (hq : Q (some (.long x)) S L) (hr : M.2.2.2 = some .long := by rfl) : Ev M d pc loc [.long x] S L Q := by
  intro p l e R s m args below meth c ad cT D A C H locs ls hP hD hS hl'
  exact W.lret (v := x) C.1 C.2.1 (C.2.2.2.1.trans hr) (fun t ht hW => gx_end (v := some (.long x)) hP hD hS C.2.2.2.2.2.2.2.1 hq ht hW) hS.2.2 hd C.2.2.2.2.2.2.1
theorem ev_vret (hd : decode M.2.1 pc = .ok (.return_, 1)) (hq : Q none S L) (hr : M.2.2.2 = none := by rfl) : Ev M d pc loc [] S L Q := by
  intro p l e R s m args below meth c ad cT D A C H locs ls hP hD hS hl'
  exact W.vret C.1 C.2.1 (C.2.2.2.1.trans hr) (fun t ht hW => gx_end (v := none) hP hD hS C.2.2.2.2.2.2.2.1 hq ht hW) hS.2.2 hd C.2.2.2.2.2.2.1
/-! ===== a method's beginning ===== -/
def gx_sl (av : List Value) : List (Option Value) := av.flatMap fun v => if v.category = 2 then [some v, none] else [some v]
def gx_ent (nL : Nat) (av : List Value) : List (Option Value) := gx_sl av ++ List.replicate (nL - (gx_sl av).length) none
theorem gx_sl_slots (ad : Nat → Nat) (av : List Value) : lg_sl (av.map (gx_v ad)) = (gx_sl av).map (fun o => match o with
    | some v => Slot.val (gx_v ad v)
    | none => Slot.second) := by
  induction av with
  | nil => rfl
  | cons v av ih =>
    unfold lg_sl gx_sl at ih ⊢
    rw [List.map_cons, List.flatMap_cons, List.flatMap_cons, List.map_append, ih, gx_v_cat]
    congr 1
    split <;> rfl
theorem gx_lr_entry (ad : Nat → Nat) (av : List Value) {nL : Nat} (h : (gx_sl av).length ≤ nL) : gx_lr ad ((lg_sl (av.map (gx_v ad)) ++ List.replicate (nL - (lg_sl (av.map (gx_v ad))).length) Slot.unset).toArray) nL (gx_ent nL av) := by
  have hlen : (lg_sl (av.map (gx_v ad))).length = (gx_sl av).length := by rw [gx_sl_slots, List.length_map]
  have h0 := lv_entry (av.map (gx_v ad)) (n := nL) (by rw [hlen]; exact h)
  refine ⟨h0.1, h0.2.1, ?_, fun i v hi => ?_⟩
  · unfold gx_ent
    rw [List.length_append, List.length_replicate]
    omega
  · unfold gx_ent at hi
    rw [List.getElem?_append] at hi
    split at hi
    · rename_i hlt
      rw [List.getElem?_toArray, List.getElem?_append_left (by rw [hlen]; exact hlt), gx_sl_slots, List.getElem?_map, hi]
      rfl
    · have := List.eq_of_mem_replicate (List.mem_of_getElem? hi)
      cases this
theorem ct_intro {av : List Value} (hy : plainName M.1.cls = true) (hlen : (gx_sl av).length ≤ M.2.2.1) (he : gx_ent M.2.2.1 av = loc) (k : Ev M d 0 loc [] S L Q) : Ct d M av S L Q := by
  intro l ad cT D sz
  refine Met.ofW (cc := M.2.1) (maxL := M.2.2.1) (ret := M.2.2.2) hy rfl ?_
  intro p e s m args below meth c s₁ B hml hv
  obtain ⟨rfl, hsz, hP, hK, hD0, hZ, hN⟩ := hv
  subst hsz
  have hts := atoms_spec (ws := .code M.1 M.2.1 M.2.2.1 M.2.2.2 :: gw_tbl) B.pre
  have hown : s.vm.findClass M.1.cls = some m.cls := findClass_of_methodNamed B.named
  have hD := hD0.self (sz := s.heap.size)
  rw [lg_entry_eq]
  subst he
  exact k p l e _ s m _ below meth c ad cT D _ ⟨B.exec, B.bytes, hml, B.returns, hown, fun w hw => hts w (List.mem_cons_of_mem _ hw), B.notSynchronized, hK, hZ, Nat.le_refl _, Nat.le_refl _, fun q h => Or.inr h, hN⟩ s.heap [] _ hP hD va_S.rf (gx_lr_entry ad av hlen)
/-! ===== calls ===== -/
theorem gx_pre {ad : Nat → Nat} {cT : Nat → ClassId} {D : va_G} {A : Nat → Prop} {s U : State} {H : Heap} {locs : List Loc} {av : List Value} (hP : va_P D vwCl (gx_w ad cT S L) H) (hD : va_D A (gx_w ad cT S L)) (hS : va_S A s.heap H locs) (hK : va_K D vwCl (gx_T cT) s) (hZ : gx_Z A s s.heap) (hN : gx_N s) (hA : ∀ q, va_A (gx_w ad cT S L) H.size q → A q) (hU : U.heap = H) (hW : s.WarmedH U.vm) :
    va_Pc (av.map (gx_v ad)) (fun U => U.heap.size = H.size ∧ va_P D vwCl (gx_w ad cT S L) U.heap ∧ va_K D vwCl (gx_T cT) U ∧ va_D (fun _ => True) (gx_w ad cT S L) ∧ gx_Z (va_A (gx_w ad cT S L) H.size) U U.heap ∧ gx_N U) (av.map (gx_v ad)).toArray U := by
  obtain ⟨t, z1, z2⟩ := hZ
  refine ⟨rfl, by rw [hU], by rw [hU]; exact hP, va_K.moved hW.alike hK, hD.weaken (fun _ _ _ _ => trivial), ⟨t, ?_, ?_⟩, hN.warm hW⟩
  · rw [hU]
    exact va_Z.moved hW.alike ((z1.kept (H1 := H) (fun a h1 h2 => hS.2.1 a h1 h2)).narrow hA)
  · rw [hU]
    exact va_T.moved hW.alike ((z2.kept (H1 := H) (fun a h1 h2 => hS.2.1 a h1 h2)).narrow hA)
theorem gx_blind {ad : Nat → Nat} {cT : Nat → ClassId} {D : va_G} {sz : Nat} {A : Nat → Prop} {av : List Value} : FrameBlind (va_Pc (av.map (gx_v ad)) (fun U => U.heap.size = sz ∧ va_P D vwCl (gx_w ad cT S L) U.heap ∧ va_K D vwCl (gx_T cT) U ∧ va_D (fun _ => True) (gx_w ad cT S L) ∧ gx_Z A U U.heap ∧ gx_N U)) := by
  intro a U g mk q
  obtain ⟨q0, q1, qP, qK, qD, ⟨t, z1, z2⟩, qN⟩ := q
  exact ⟨q0, q1, qP, va_K.moved (u := U) (U := U.calling g mk a) (Vm.Alike.refl U.vm) qK, qD, ⟨t, va_Z.moved (u := U) (U := U.calling g mk a) (Vm.Alike.refl U.vm) z1, va_T.moved (u := U) (U := U.calling g mk a) (Vm.Alike.refl U.vm) z2⟩, gx_N.same (s := U) (U := U.calling g mk a) rfl qN⟩
theorem gx_free {ad : Nat → Nat} {cT : Nat → ClassId} {A : Nat → Prop} {H0 H : Heap} {locs : List Loc} (hD : va_D A (gx_w ad cT S L)) (hS : va_S A H0 H locs) (hA : ∀ q, H0.size ≤ q → A q) : ∀ q, va_A (gx_w ad cT S L) H.size q → A q := by
  intro q h
  rcases h with ⟨k, e, h⟩ | h
  · exact hD.2 k (q, e) h
  · exact hA q (Nat.le_trans hS.1 h)
/-- behind a call -/
theorem gx_back {p : Program} {l : Launch} {e : Env} {R : Room} {s : State} {m : MethodId} {args a9 : Array Value} {below : List Frame} {meth : Method} {c : Code} {ad : Nat → Nat} {cT : Nat → ClassId} {D : va_G} {A : Nat → Prop} {H : Heap} {locs : List Loc} {ls : Array Slot} {st0 : List Value} {Q' : Option Value → gx_S → gx_L → Prop} {cells slots : Nat} {Qm : State → Prop}
    (hS : va_S A s.heap H locs) (hA : ∀ q, va_A (gx_w ad cT S L) H.size q → A q)
    (hr : va_Run p l e R s m args below meth c H locs cells slots 0 0 (F0 m pc ls st0) (st.map (gx_v ad)) (gx_Qc ad cT D (va_A (gx_w ad cT S L) H.size) Q' a9) (va_A (gx_w ad cT S L) H.size))
    (kk : ∀ (v : Option Value) (S' : gx_S) (L' : gx_L) (H1 : Heap) (locs1 : List Loc), Q' v S' L' → va_P D vwCl (gx_w ad cT S' L') H1 → va_D A (gx_w ad cT S' L') → va_S A s.heap H1 locs1 → W p l e R s m args below meth c H1 locs1 cells slots Qm (F0 m (pc + 3) ls ((v.toList ++ st).map (gx_v ad)))) :
    W p l e R s m args below meth c H locs cells slots Qm (F0 m pc ls st0) := by
  intro T hT X
  obtain ⟨v, st₀, t, T', Lc, h0, X', hL, e1, e2, ⟨⟨v', S', L', hv, hq, hP', hK', hD'⟩, hz, hk⟩, stp⟩ := hr T hT X
  cases hv
  rw [h0] at hz hk
  have hS' : va_S A s.heap T'.heap (locs ++ Lc) := ⟨Nat.le_trans hS.1 (by rw [e1]; exact hz), fun q h1 h2 => by rw [e1, hk q (Nat.lt_of_lt_of_le h1 hS.1) (fun z => h2 (hA q z))]; exact hS.2.1 q h1 h2, fun q hq9 => by
      rcases List.mem_append.mp hq9 with h | h
      · exact hS.2.2 q h
      · exact hA _ (hL q h)⟩
  have k1 := kk v' S' L' T'.heap (locs ++ Lc) hq (by rw [e1]; exact hP') (hD'.weaken (fun _ q _ h => hA q.1 h)) hS'
  have hst : (v'.map (gx_v ad)).toList ++ st.map (gx_v ad) = (v'.toList ++ st).map (gx_v ad) := by
    cases v' <;> rfl
  rw [← hst] at k1
  obtain ⟨t2, a1, b1⟩ := k1 T' rfl X'
  exact ⟨t2, stp t2 a1, b1⟩
theorem gx_room {st : List Value} {ad : Nat → Nat} {m : MethodId} {pc : Nat} {ls : Array Slot} {rest : List Value} (h : (st.map fun v => v.category).sum ≤ 8) : 2 * (F0 m pc ls rest).monitorRoom + ((st.map (gx_v ad)).map fun v => v.category).sum ≤ 8 := by
  refine lv_room ?_
  have : (st.map (gx_v ad)).map (fun v => v.category) = st.map (fun v => v.category) := by
    rw [List.map_map]
    exact List.map_congr_left (fun v _ => gx_v_cat ad v)
  rw [this]
  exact h
theorem gx_callB {M' : gx_M} {d' n idx : Nat} {own : String} {R : Room} {s : State} {args : Array Value} (hts : ∀ w ∈ gw_tbl, w.before args s = true) (hl : Cond.methodLink own idx M'.1 ∈ gw_tbl) (hini : Cond.initialized M'.1.cls ∈ gw_tbl) (hcode : Cond.code M'.1 M'.2.1 M'.2.2.1 M'.2.2.2 ∈ gw_tbl) (h1 : M'.1.cls ≠ "java/lang/invoke/MethodHandle") (h2 : M'.1.cls ≠ "java/lang/invoke/VarHandle") (hn : (parseMethodDescriptor M'.1.desc).map (fun d => d.parameters.length) = some n) (hm : M'.2.2.1 ≤ 45) (hf : d' + 1 ≤ R.frames) (hlo : 64 * (d' + 1) ≤ R.locals) :
    CallB R s args own idx M'.1 M'.2.1 M'.2.2.1 M'.2.2.2 (.code M'.1 M'.2.1 M'.2.2.1 M'.2.2.2 :: gw_tbl) (gx_rm d') 0 0 n :=
  callB_of n hts (gx_goodIn hcode) rfl rfl rfl (hts _ hini) (hts _ hl) ⟨h1, h2, hn⟩ ⟨hf, by show 8 + (M'.2.2.1 + 11) + 64 * d' ≤ R.locals; omega⟩
theorem gx_callN {M' : gx_M} {d' n idx : Nat} {own host : String} {R : Room} {s : State} {args : Array Value} (hts : ∀ w ∈ gw_tbl, w.before args s = true) (hl : va_Nw (Cond.methodLinkNest own idx M'.1 host) s) (hini : Cond.initialized M'.1.cls ∈ gw_tbl) (hcode : Cond.code M'.1 M'.2.1 M'.2.2.1 M'.2.2.2 ∈ gw_tbl) (h1 : M'.1.cls ≠ "java/lang/invoke/MethodHandle") (h2 : M'.1.cls ≠ "java/lang/invoke/VarHandle") (hn : (parseMethodDescriptor M'.1.desc).map (fun d => d.parameters.length) = some n) (hm : M'.2.2.1 ≤ 45) (hf : d' + 1 ≤ R.frames) (hlo : 64 * (d' + 1) ≤ R.locals) :
    va_CN R s args own idx M'.1 host M'.2.1 M'.2.2.1 M'.2.2.2 (.code M'.1 M'.2.1 M'.2.2.1 M'.2.2.2 :: gw_tbl) (gx_rm d') 0 0 n :=
  va_cnB n hts (gx_goodIn hcode) rfl rfl rfl hl (hts _ hini) ⟨h1, h2, hn⟩ ⟨hf, by show 8 + (M'.2.2.1 + 11) + 64 * d' ≤ R.locals; omega⟩
theorem ev_callV_g {M' : gx_M} {d' n idx b : Nat} {As : List Value} {st0 : List Value} {Q' : Option Value → gx_S → gx_L → Prop} {ci : Nat} {tm : List Nat} {q : vw_C} (hd : decode M.2.1 pc = .ok (.invokevirtual idx, 3)) (hk : gx_Lk M.1.cls idx M'.1) (hv : gx_MV M' n) (hn : As.length = n) (hb : sh_all[b]? = some (.inr (ci, tm))) (hq : vwCl[ci]? = some q) (hcl : q.1 = M'.1.cls) (hst : st0 = As.reverse ++ .ref b :: st) (hct : Ct d' M' (.ref b :: As) S L Q') (hdd : d' + 1 ≤ d) (hcat : (st.map fun v => v.category).sum ≤ 8)
    (kk : ∀ (v : Option Value) (S' : gx_S) (L' : gx_L), Q' v S' L' → Ev M d (pc + 3) loc (v.toList ++ st) S' L' Q) : Ev M d pc loc st0 S L Q := by
  intro p l e R s m args below meth c ad cT D A C H locs ls hP hD hS hl'
  have hA := gx_free hD hS C.2.2.2.2.2.2.2.2.2.2.2.1
  obtain ⟨v1, v2, v3, v4, v5, v6, v7, v8⟩ := hv
  obtain ⟨c1, c2, c3, c4, c5, c6, c7, c8, c9, c10, c11, c12, c13⟩ := C
  have hM := hct l ad cT D H.size
  have hpre : ∀ U : State, U.heap = H → s.WarmedH U.vm → _ := fun U hU hW => gx_pre (av := .ref b :: As) hP hD hS c8 c9 c13 hA hU hW
  have hrv := va_recv (a := ad b) (q0 := b) c8 hP hq (gx_w_get hb)
  rw [hcl] at hrv
  have hstk : st0.map (gx_v ad) = (As.map (gx_v ad)).reverse ++ .ref (ad b) :: st.map (gx_v ad) := by
    rw [hst, List.map_append, List.map_reverse]
    rfl
  have hsize : ls.size = M.2.2.1 := hl'.1
  have kk' := fun v S' L' H1 locs1 h9 a b e9 => kk v S' L' h9 p l e R s m args below meth c ad cT D A ⟨c1, c2, c3, c4, c5, c6, c7, c8, c9, c10, c11, c12, c13⟩ H1 locs1 ls a b e9 hl'
  rcases hk with hk | ⟨host, hk⟩
  · refine gx_back (S := S) (L := L) hS hA (va_runV (As := As.map (gx_v ad)) (rest := st.map (gx_v ad)) ⟨c1, c2, c3, c5, c6⟩ hM ⟨gx_callB c6 hk v3 v4 v5 v6 v7 v8 (Nat.le_trans hdd c10) (by omega), c6 _ v1, c6 _ v2⟩ ⟨gx_blind, hrv, hpre⟩ rfl (by rw [List.length_map]; exact hn) hsize hstk (gx_room hcat) hd ⟨Nat.zero_le _, Nat.zero_le _⟩) kk'
  · refine gx_back (S := S) (L := L) hS hA (va_runVN (As := As.map (gx_v ad)) (rest := st.map (gx_v ad)) ⟨c1, c2, c3, c5, c6⟩ hM ⟨gx_callN c6 (c13 _ hk) v3 v4 v5 v6 v7 v8 (Nat.le_trans hdd c10) (by omega), c6 _ v1, c6 _ v2⟩ ⟨gx_blind, hrv, hpre⟩ rfl (by rw [List.length_map]; exact hn) hsize hstk (gx_room hcat) hd ⟨Nat.zero_le _, Nat.zero_le _⟩) kk'
theorem ev_callS_g {M' : gx_M} {d' n idx : Nat} {As : List Value} {st0 : List Value} {Q' : Option Value → gx_S → gx_L → Prop} (hd : decode M.2.1 pc = .ok (.invokestatic idx, 3)) (hk : gx_Lk M.1.cls idx M'.1) (hv : gx_MS M' n) (hn : As.length = n) (hst : st0 = As.reverse ++ st) (hct : Ct d' M' As S L Q') (hdd : d' + 1 ≤ d) (hcat : (st.map fun v => v.category).sum ≤ 8)
    (kk : ∀ (v : Option Value) (S' : gx_S) (L' : gx_L), Q' v S' L' → Ev M d (pc + 3) loc (v.toList ++ st) S' L' Q) : Ev M d pc loc st0 S L Q := by
  intro p l e R s m args below meth c ad cT D A C H locs ls hP hD hS hl'
  have hA := gx_free hD hS C.2.2.2.2.2.2.2.2.2.2.2.1
  obtain ⟨v1, v3, v4, v5, v6, v7, v8⟩ := hv
  obtain ⟨c1, c2, c3, c4, c5, c6, c7, c8, c9, c10, c11, c12, c13⟩ := C
  have hM := hct l ad cT D H.size
  have hpre : ∀ U : State, U.heap = H → s.WarmedH U.vm → _ := fun U hU hW => gx_pre (av := As) hP hD hS c8 c9 c13 hA hU hW
  have hstk : st0.map (gx_v ad) = (As.map (gx_v ad)).reverse ++ st.map (gx_v ad) := by
    rw [hst, List.map_append, List.map_reverse]
  have hsize : ls.size = M.2.2.1 := hl'.1
  have kk' := fun v S' L' H1 locs1 h9 a b e9 => kk v S' L' h9 p l e R s m args below meth c ad cT D A ⟨c1, c2, c3, c4, c5, c6, c7, c8, c9, c10, c11, c12, c13⟩ H1 locs1 ls a b e9 hl'
  rcases hk with hk | ⟨host, hk⟩
  · refine gx_back (S := S) (L := L) hS hA (va_runS (As := As.map (gx_v ad)) (rest := st.map (gx_v ad)) ⟨c1, c2, c3, c5, c6⟩ hM ⟨gx_callB c6 hk v3 v4 v5 v6 v7 v8 (Nat.le_trans hdd c10) (by omega), c6 _ v1⟩ ⟨gx_blind, hpre⟩ rfl (by rw [List.length_map]; exact hn) hsize hstk (gx_room hcat) hd ⟨Nat.zero_le _, Nat.zero_le _⟩) kk'
  · refine gx_back (S := S) (L := L) hS hA (va_runSN (As := As.map (gx_v ad)) (rest := st.map (gx_v ad)) ⟨c1, c2, c3, c5, c6⟩ hM ⟨gx_callN c6 (c13 _ hk) v3 v4 v5 v6 v7 v8 (Nat.le_trans hdd c10) (by omega), c6 _ v1, trivial⟩ ⟨gx_blind, hpre⟩ rfl (by rw [List.length_map]; exact hn) hsize hstk (gx_room hcat) hd ⟨Nat.zero_le _, Nat.zero_le _⟩) kk'
end GXV
