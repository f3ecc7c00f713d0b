/-! THE CLAIM OUT OF ONE WALK OF THE LAW'S BODY. Your part is whole_start (and what it stands on); all else here is the same for every law, but numbers. -/
def R_law : String := "GlassTaxLaw"
def lw_P (b : Addr) (xs : List Int32) (args : Array Value) (s : State) : Prop := args = #[.ref b] ∧ s.IntsAt b xs ∧ xs.length ≤ 256 ∧ (Jvm.Cond.and given_1 narrow_1).before args s = true
def lw_Q (_ : Array Value) (s : State) (o : Outcome) (t : State) : Prop := o = .returned (some (.int 1)) ∧ Framed s o t [] 600000 7302250
def lw_Z (below : List Frame) (a : Array Value) (s : State) : State → Prop := fun t => ∃ o, t.status = .running ∧ Ended t below o ∧ lw_Q a s o t
/-- the law's own end, with 1 on the stack, nothing written that was there before, its room as the claim has it -/
theorem lw_ret {p : Program} {l : Launch} {e : Env} {s : State} {m : MethodId} {below : List Frame} {meth : Method} {c : Code} {b : Nat} (hx : p.tables.exec = Jvm.exec) (hb : c.code = code) (hr : meth.sig.returnType = ret) (hlocks : meth.locks = false) {pc : Nat} {H : Heap} {ls : Array Slot} (hdg : decode code pc = .ok (.ireturn, 1)) : W p l e room_1 s m #[Value.ref b] below meth c H [] 600000 7302250 (lw_Z below #[Value.ref b] s) (F0 m pc ls [.int 1]) := by
  intro T hT X
  obtain ⟨fs, hret, hrun, hended, hW, hframe⟩ := X.leave (v := some (.int 1)) (hlocks := hlocks) (fun h => by rw [hr] at h; cases h)
  have hmeth' : T.vm.method? m = some meth := X.method'
  refine ⟨T.setFrames fs, ?_, .returned (some (.int 1)), hrun, hended, rfl, ⟨_, rfl⟩, hW, hframe⟩
  jvm_step X.here [X.here.top, hx, hb, hdg, hmeth', hr, ret, narrow_b1]
  (try refine ⟨rfl, ?_⟩); (try refine ⟨rfl, ?_⟩)
  first | (intro acts; rw [hret _ acts rfl rfl rfl]) | rw [hret _ _ rfl rfl rfl]
  exact Steps.refl _
/-- what holds at the law's entry: the machine, the code, the tables' words (any of lw_tbl by 'hts w (by decide +kernel)'), the script of L ints xs at the cell b, what the Statement gives of the start (any of its parts by flat_of_before) -/
def lw_At (p : Program) (s : State) (m : MethodId) (meth : Method) (c : Code) (b L : Nat) (xs : Nat → Int32) : Prop :=
  p.tables.exec = Jvm.exec ∧ c.code = code ∧ meth.sig.returnType = ret ∧ c.maxLocals = 4 ∧ s.vm.findClass R_law = some m.cls ∧ (∀ w ∈ lw_tbl, w.before #[Value.ref b] s = true) ∧ va_X b L xs s s.heap ∧ b < s.heap.size ∧ meth.locks = false ∧ (Jvm.Cond.and given_1 narrow_1).before #[Value.ref b] s = true
/-! ===== the law's context, and its walk at a memory ===== -/
def LC (p : Program) (s : State) (m : MethodId) (meth : Method) (c : Code) (b Ln : Nat) (xs : Nat → Int32) (cT : Nat → ClassId) (D : va_G) : Prop := lw_At p s m meth c b Ln xs ∧ Ln ≤ 256 ∧ va_K D vwCl (gx_T cT) s ∧ gx_Z (fun q : Nat => s.heap.size ≤ q) s s.heap ∧ gx_N s ∧ ∀ w ∈ gw_tbl, w.before #[Value.ref b] s = true
def Lw (p : Program) (l : Launch) (e : Env) (s : State) (m : MethodId) (below : List Frame) (meth : Method) (c : Code) (b : Nat) (ad : Nat → Nat) (cT : Nat → ClassId) (D : va_G) (pc : Nat) (x3 : Int32) (st : List Value) (S : gx_S) (L : gx_L) : Prop :=
  ∀ (H : Heap) (locs : List Loc) (ls : Array Slot), va_P D vwCl (gx_w ad cT S L) H → va_D (fun q : Nat => s.heap.size ≤ q) (gx_w ad cT S L) → va_S (fun q : Nat => s.heap.size ≤ q) s.heap H locs → lv_has ls 4 [(0, .ref b), (1, .ref (ad 0)), (2, .ref (ad 44)), (3, .int x3)] →
    W p l e room_1 s m #[Value.ref b] below meth c H locs 60 922 (lw_Z below #[Value.ref b] s) (F0 m pc ls st)
section LWS
variable {p : Program} {l : Launch} {e : Env} {s : State} {m : MethodId} {below : List Frame} {meth : Method} {c : Code} {b Ln : Nat} {xs : Nat → Int32} {ad : Nat → Nat} {cT : Nat → ClassId} {D : va_G} {pc : Nat} {x3 : Int32} {st : List Value} {S : gx_S} {L : gx_L}
theorem lw_a0 (C : LC p s m meth c b Ln xs cT D) (hd : decode code pc = .ok (.aload_n 0, 1)) (kk : Lw p l e s m below meth c b ad cT D (pc + 1) x3 (.ref b :: st) S L) : Lw p l e s m below meth c b ad cT D pc x3 st S L := by
  intro H locs ls hP hD hS hl
  exact lv_aload_n C.1.1 C.1.2.1 hd rfl (lv_at hl 0 rfl) (kk H locs ls hP hD hS hl)
theorem lw_a1 (C : LC p s m meth c b Ln xs cT D) (hd : decode code pc = .ok (.aload_n 1, 1)) (kk : Lw p l e s m below meth c b ad cT D (pc + 1) x3 (.ref (ad 0) :: st) S L) : Lw p l e s m below meth c b ad cT D pc x3 st S L := by
  intro H locs ls hP hD hS hl
  exact lv_aload_n C.1.1 C.1.2.1 hd rfl (lv_at hl 1 rfl) (kk H locs ls hP hD hS hl)
theorem lw_a2 (C : LC p s m meth c b Ln xs cT D) (hd : decode code pc = .ok (.aload_n 2, 1)) (kk : Lw p l e s m below meth c b ad cT D (pc + 1) x3 (.ref (ad 44) :: st) S L) : Lw p l e s m below meth c b ad cT D pc x3 st S L := by
  intro H locs ls hP hD hS hl
  exact lv_aload_n C.1.1 C.1.2.1 hd rfl (lv_at hl 2 rfl) (kk H locs ls hP hD hS hl)
theorem lw_i3 (C : LC p s m meth c b Ln xs cT D) (hd : decode code pc = .ok (.iload_n 3, 1)) (kk : Lw p l e s m below meth c b ad cT D (pc + 1) x3 (.int x3 :: st) S L) : Lw p l e s m below meth c b ad cT D pc x3 st S L := by
  intro H locs ls hP hD hS hl
  exact lv_iload_n C.1.1 C.1.2.1 hd rfl (lv_at hl 3 rfl) (kk H locs ls hP hD hS hl)
theorem lw_ic {n : Int} {v : Int32} (C : LC p s m meth c b Ln xs cT D) (hd : decode code pc = .ok (.iconst n, 1)) (hv : Int32.ofInt n = v) (kk : Lw p l e s m below meth c b ad cT D (pc + 1) x3 (.int v :: st) S L) : Lw p l e s m below meth c b ad cT D pc x3 st S L := by
  intro H locs ls hP hD hS hl
  exact lv_iconst C.1.1 C.1.2.1 hd hv (kk H locs ls hP hD hS hl)
theorem lw_bi {n : Int} {v : Int32} (C : LC p s m meth c b Ln xs cT D) (hd : decode code pc = .ok (.bipush n, 2)) (hv : (Int8.ofInt n).toInt32 = v) (kk : Lw p l e s m below meth c b ad cT D (pc + 2) x3 (.int v :: st) S L) : Lw p l e s m below meth c b ad cT D pc x3 st S L := by
  intro H locs ls hP hD hS hl
  exact lv_bipush C.1.1 C.1.2.1 hd hv (kk H locs ls hP hD hS hl)
theorem lw_add {x y : Int32} (C : LC p s m meth c b Ln xs cT D) (hd : decode code pc = .ok (.iadd, 1)) (kk : Lw p l e s m below meth c b ad cT D (pc + 1) x3 (.int (x + y) :: st) S L) : Lw p l e s m below meth c b ad cT D pc x3 (.int y :: .int x :: st) S L := by
  intro H locs ls hP hD hS hl
  exact lv_iadd C.1.1 C.1.2.1 hd (kk H locs ls hP hD hS hl)
theorem lw_sub {x y : Int32} (C : LC p s m meth c b Ln xs cT D) (hd : decode code pc = .ok (.isub, 1)) (kk : Lw p l e s m below meth c b ad cT D (pc + 1) x3 (.int (x - y) :: st) S L) : Lw p l e s m below meth c b ad cT D pc x3 (.int y :: .int x :: st) S L := by
  intro H locs ls hP hD hS hl
  exact lv_isub C.1.1 C.1.2.1 hd (kk H locs ls hP hD hS hl)
theorem lw_and {x y : Int32} (C : LC p s m meth c b Ln xs cT D) (hd : decode code pc = .ok (.iand, 1)) (kk : Lw p l e s m below meth c b ad cT D (pc + 1) x3 (.int (x &&& y) :: st) S L) : Lw p l e s m below meth c b ad cT D pc x3 (.int y :: .int x :: st) S L := by
  intro H locs ls hP hD hS hl
  exact lv_iand C.1.1 C.1.2.1 hd (kk H locs ls hP hD hS hl)
theorem lw_sl {k : Nat} (C : LC p s m meth c b Ln xs cT D) (hd : decode code pc = .ok (.iaload, 1)) (hk : k < Ln) (kk : Lw p l e s m below meth c b ad cT D (pc + 1) x3 (.int (xs k) :: st) S L) : Lw p l e s m below meth c b ad cT D pc x3 (.int (nI k) :: .ref b :: st) S L := by
  intro H locs ls hP hD hS hl
  have k1 := kk H locs ls hP hD hS hl
  have hlt := C.2.1
  obtain ⟨hx, hb, hr, hml, hown, hts, hX, hbl, hlocks, hgv⟩ := C.1
  refine va_sld hx hb hX hbl (Nat.not_le.mpr hbl) hS (vp_in_nI hk (by omega)) hd ?_
  rw [nI_clamp (by omega)]
  exact k1
theorem lw_len (C : LC p s m meth c b Ln xs cT D) (hd : decode code pc = .ok (.arraylength, 1)) (kk : Lw p l e s m below meth c b ad cT D (pc + 1) x3 (.int (nI Ln) :: st) S L) : Lw p l e s m below meth c b ad cT D pc x3 (.ref b :: st) S L := by
  intro H locs ls hP hD hS hl
  have k1 := kk H locs ls hP hD hS hl
  obtain ⟨hx, hb, hr, hml, hown, hts, hX, hbl, hlocks, hgv⟩ := C.1
  exact va_slen hx hb hX hbl (Nat.not_le.mpr hbl) hS hd k1
/-- script[i + k] -/
theorem lw_ld {i : Nat} (k : Nat) {kI : Int} (C : LC p s m meth c b Ln xs cT D) (h0 : decode code pc = .ok (.aload_n 0, 1)) (h1 : decode code (pc + 1) = .ok (.iload_n 3, 1)) (h2 : decode code (pc + 2) = .ok (.iconst kI, 1)) (h3 : decode code (pc + 3) = .ok (.iadd, 1)) (h4 : decode code (pc + 4) = .ok (.iaload, 1)) (hv : Int32.ofInt kI = nI k) (hk : i + k < Ln) (kk : Lw p l e s m below meth c b ad cT D (pc + 5) (nI i) (.int (xs (i + k)) :: st) S L) : Lw p l e s m below meth c b ad cT D pc (nI i) st S L := by
  refine lw_a0 C h0 ?_
  refine lw_i3 C h1 ?_
  refine lw_ic C h2 hv ?_
  refine lw_add C h3 ?_
  rw [nI_add]
  exact lw_sl C h4 hk kk
/-- script[i + k] != 0 -/
theorem lw_bl {i : Nat} (k : Nat) {kI : Int} (C : LC p s m meth c b Ln xs cT D) (h0 : decode code pc = .ok (.aload_n 0, 1)) (h1 : decode code (pc + 1) = .ok (.iload_n 3, 1)) (h2 : decode code (pc + 2) = .ok (.iconst kI, 1)) (h3 : decode code (pc + 3) = .ok (.iadd, 1)) (h4 : decode code (pc + 4) = .ok (.iaload, 1)) (hv : Int32.ofInt kI = nI k) (hk : i + k < Ln) (h5 : decode code (pc + 5) = .ok (.ifCond .eq 7, 3)) (h6 : decode code (pc + 8) = .ok (.iconst 1, 1)) (h7 : decode code (pc + 9) = .ok (.goto 4, 3)) (h8 : decode code (pc + 12) = .ok (.iconst 0, 1)) (kk : Lw p l e s m below meth c b ad cT D (pc + 13) (nI i) (.int (if xs (i + k) = 0 then 0 else 1) :: st) S L) : Lw p l e s m below meth c b ad cT D pc (nI i) st S L := by
  refine lw_ld k C h0 h1 h2 h3 h4 hv hk ?_
  intro H locs ls hP hD hS hl
  have k1 := kk H locs ls hP hD hS hl
  obtain ⟨hx, hb, hr, hml, hown, hts, hX, hbl, hlocks, hgv⟩ := C.1
  refine lv_if_eq (tgt := pc + 12) hx hb h5 (by omega) (fun c9 => ?_) (fun c9 => ?_)
  · rw [if_pos c9] at k1
    exact lv_iconst (v := 0) hx hb h8 (by decide) k1
  · rw [if_neg c9] at k1
    refine lv_iconst (v := 1) hx hb h6 (by decide) ?_
    exact lv_goto (tgt := pc + 13) hx hb h7 (by omega) k1
def lval (x y : Int32) : Int64 := x.toInt64 <<< ((32 : Int32).toInt64 &&& 63) ||| (y.toInt64 &&& 4294967295)
/-- ((long) script[i + k] << 32) | (script[i + k'] & 0xFFFFFFFFL) -/
theorem lw_ll {i : Nat} (k k' : Nat) {kI kI' : Int} (C : LC p s m meth c b Ln xs cT D) (h0 : decode code pc = .ok (.aload_n 0, 1)) (h1 : decode code (pc + 1) = .ok (.iload_n 3, 1)) (h2 : decode code (pc + 2) = .ok (.iconst kI, 1)) (h3 : decode code (pc + 3) = .ok (.iadd, 1)) (h4 : decode code (pc + 4) = .ok (.iaload, 1)) (hv : Int32.ofInt kI = nI k) (hk : i + k < Ln) (h5 : decode code (pc + 5) = .ok (.i2l, 1)) (h6 : decode code (pc + 6) = .ok (.bipush 32, 2)) (h8 : decode code (pc + 8) = .ok (.lshl, 1))
    (g0 : decode code (pc + 9) = .ok (.aload_n 0, 1)) (g1 : decode code (pc + 9 + 1) = .ok (.iload_n 3, 1)) (g2 : decode code (pc + 9 + 2) = .ok (.iconst kI', 1)) (g3 : decode code (pc + 9 + 3) = .ok (.iadd, 1)) (g4 : decode code (pc + 9 + 4) = .ok (.iaload, 1)) (gv : Int32.ofInt kI' = nI k') (gk : i + k' < Ln) (g5 : decode code (pc + 14) = .ok (.i2l, 1)) (g6 : decode code (pc + 15) = .ok (.ldc2_w 86, 3)) (g7 : decode code (pc + 18) = .ok (.land, 1)) (g8 : decode code (pc + 19) = .ok (.lor, 1))
    (kk : Lw p l e s m below meth c b ad cT D (pc + 20) (nI i) (.long (lval (xs (i + k)) (xs (i + k'))) :: st) S L) : Lw p l e s m below meth c b ad cT D pc (nI i) st S L := by
  refine lw_ld k C h0 h1 h2 h3 h4 hv hk ?_
  have k2 : Lw p l e s m below meth c b ad cT D (pc + 9) (nI i) (.long ((xs (i + k)).toInt64 <<< ((32 : Int32).toInt64 &&& 63)) :: st) S L := by
    refine lw_ld k' C g0 g1 g2 g3 g4 gv gk ?_
    intro H locs ls hP hD hS hl
    have k1 := kk H locs ls hP hD hS hl
    have hg := C.2.2.2.2.2 _ kc_L_86
    obtain ⟨hx, hb, hr, hml, hown, hts, hX, hbl, hlocks, hgv⟩ := C.1
    refine lv_i2l hx hb g5 rfl ?_
    refine lv_ldc2 (own := RL) hx hb hown hg g6 ?_
    refine lv_land hx hb g7 ?_
    exact lv_lor hx hb g8 k1
  intro H locs ls hP hD hS hl
  have k1 := k2 H locs ls hP hD hS hl
  obtain ⟨hx, hb, hr, hml, hown, hts, hX, hbl, hlocks, hgv⟩ := C.1
  refine lv_i2l hx hb h5 rfl ?_
  refine lv_bipush (v := 32) hx hb h6 (by decide) ?_
  exact lv_lshl hx hb h8 rfl k1
theorem lw_call {M' : gx_M} {d' n idx bb ci : Nat} {As st0 : List Value} {Q' : Option Value → gx_S → gx_L → Prop} (C : LC p s m meth c b Ln xs cT D) (hd : decode code pc = .ok (.invokevirtual idx, 3)) (hk : gx_Lk RL idx M'.1) (hv : gx_MV M' n ∧ gx_mc M' ci) (hn : As.length = n) (hbb : gx_cl bb = some ci) (hct : Ct d' M' (.ref bb :: As) S L Q') (hdd : d' ≤ 20) (hcat : (st0.map fun v => v.category).sum ≤ 8) (kk : ∀ (v : Option Value) (S' : gx_S) (L' : gx_L), Q' v S' L' → Lw p l e s m below meth c b ad cT D (pc + 3) x3 ((v.toList ++ st0).map (gx_v ad)) S' L') : Lw p l e s m below meth c b ad cT D pc x3 ((As.reverse ++ .ref bb :: st0).map (gx_v ad)) S L := by
  intro H locs ls hP hD hS hl
  obtain ⟨tm, hsh⟩ := gx_cl_spec hbb
  obtain ⟨⟨v1, v2, v3, v4, v5, v6, v7, v8⟩, q, hq, hcl⟩ := hv
  obtain ⟨C0, hL6, hK, hZ, hN, hg⟩ := C
  obtain ⟨hx, hb, hr, hml, hown, hts, hX, hbl, hlocks, hgv⟩ := C0
  have hA : ∀ q : Nat, s.heap.size ≤ q → (fun q : Nat => s.heap.size ≤ q) q := fun _ h => h
  have hF := gx_free hD hS hA
  have hM := hct l ad cT D H.size
  have hpre : ∀ U : State, U.heap = H → s.WarmedH U.vm → _ := fun U hU hW => gx_pre (av := .ref bb :: As) hP hD hS hK hZ hN hF hU hW
  have hrv := va_recv (a := ad bb) (q0 := bb) hK hP hq (gx_w_get hsh)
  rw [hcl] at hrv
  have hstk : (As.reverse ++ .ref bb :: st0).map (gx_v ad) = (As.map (gx_v ad)).reverse ++ .ref (ad bb) :: st0.map (gx_v ad) := by
    rw [List.map_append, List.map_reverse]
    rfl
  have kk' := fun v S' L' H1 locs1 h9 a b9 e9 => kk v S' L' h9 H1 locs1 ls a b9 e9 hl
  have hR1 : d' + 1 ≤ room_1.frames := by show d' + 1 ≤ 2048; omega
  have hR2 : 64 * (d' + 1) ≤ room_1.locals := by show 64 * (d' + 1) ≤ 84000; omega
  rcases hk with hk | ⟨host, hk⟩
  · exact gx_back (S := S) (L := L) hS hF (va_runV (As := As.map (gx_v ad)) (rest := st0.map (gx_v ad)) ⟨hx, hb, hml, hown, hg⟩ hM ⟨gx_callB hg hk v3 v4 v5 v6 v7 v8 hR1 hR2, hg _ v1, hg _ v2⟩ ⟨gx_blind, hrv, hpre⟩ rfl (by rw [List.length_map]; exact hn) hl.1 hstk (gx_room hcat) hd ⟨by show 60 + 0 ≤ 600000; omega, by show 922 + 0 ≤ 7302250; omega⟩) kk'
  · exact gx_back (S := S) (L := L) hS hF (va_runVN (As := As.map (gx_v ad)) (rest := st0.map (gx_v ad)) ⟨hx, hb, hml, hown, hg⟩ hM ⟨gx_callN hg (hN _ hk) v3 v4 v5 v6 v7 v8 hR1 hR2, hg _ v1, hg _ v2⟩ ⟨gx_blind, hrv, hpre⟩ rfl (by rw [List.length_map]; exact hn) hl.1 hstk (gx_room hcat) hd ⟨by show 60 + 0 ≤ 600000; omega, by show 922 + 0 ≤ 7302250; omega⟩) kk'
theorem lw_eq {x y : Int32} {off : Int} (C : LC p s m meth c b Ln xs cT D) (hd : decode code pc = .ok (.if_icmp .eq off, 3)) (ht : (pc : Int) + off = ((1026 : Nat) : Int)) (h : y = x) (kk : Lw p l e s m below meth c b ad cT D 1026 x3 st S L) : Lw p l e s m below meth c b ad cT D pc x3 (.int y :: .int x :: st) S L := by
  intro H locs ls hP hD hS hl
  have k1 := kk H locs ls hP hD hS hl
  exact lv_icmp_eq (tgt := 1026) C.1.1 C.1.2.1 hd ht (fun _ => k1) (fun h9 => absurd h.symm h9)
theorem lw_eql {x y : Int64} (C : LC p s m meth c b Ln xs cT D) (hd : decode code pc = .ok (.lcmp, 1)) (hd1 : decode code (pc + 1) = .ok (.ifCond .eq 97, 3)) (ht : ((pc + 1 : Nat) : Int) + 97 = ((1026 : Nat) : Int)) (h : y = x) (kk : Lw p l e s m below meth c b ad cT D 1026 x3 st S L) : Lw p l e s m below meth c b ad cT D pc x3 (.long y :: .long x :: st) S L := by
  intro H locs ls hP hD hS hl
  have k1 := kk H locs ls hP hD hS hl
  subst h
  refine W.lcmp C.1.1 C.1.2.1 hd ?_
  refine lv_if_eq (tgt := 1026) C.1.1 C.1.2.1 hd1 ht (fun _ => k1) (fun h9 => absurd ?_ h9)
  unfold lg_cmp
  rw [if_neg (Int64.lt_irrefl), if_pos rfl]
/-! ===== the calls, one by one ===== -/
theorem lc_0 (C : LC p s m meth c b Ln xs cT D) {i : Nat} (hi : i + 4 ≤ Ln) (hR : RR S L) (kk : ∀ (S' : gx_S) (L' : gx_L), RR S' L' → Lw p l e s m below meth c b ad cT D 1026 (nI i) [] S' L') : Lw p l e s m below meth c b ad cT D 164 (nI i) [] S L := by
  obtain ⟨D1, P1, hD1, hc1, h1⟩ := pr_write S L hR ((xs (i + 1)))
  refine lw_a1 C dL_law_164 ?_
  refine lw_ld 1 C dL_law_165 dL_law_166 dL_law_167 dL_law_168 dL_law_169 (by decide) (by omega) ?_
  refine lw_call (M' := mX10_write) (As := [.int (xs (i + 1))]) (bb := 0) (st0 := []) C dL_law_170 lk_L_13 vX10_write rfl rfl hc1 hD1 (Nat.le_of_ble_eq_true rfl) (fun v1 S1 L1 q1 => ?_)
  obtain ⟨r1, hv1, q1⟩ := q1
  subst hv1
  obtain ⟨D2, P2, hD2, hc2, h2⟩ := h1 r1 S1 L1 q1
  refine lw_a2 C dL_law_173 ?_
  refine lw_ld 1 C dL_law_174 dL_law_175 dL_law_176 dL_law_177 dL_law_178 (by decide) (by omega) ?_
  refine lw_call (M' := mX11_write) (As := [.int (xs (i + 1))]) (bb := 44) (st0 := [.int r1]) C dL_law_179 lk_L_17 vX11_write rfl rfl hc2 hD2 (Nat.le_of_ble_eq_true rfl) (fun v2 S2 L2 q2 => ?_)
  obtain ⟨r2, hv2, q2⟩ := q2
  subst hv2
  obtain ⟨e1, hR2⟩ := h2 r2 S2 L2 q2
  exact lw_eq C dL_law_182 (by decide) e1 (kk S2 L2 hR2)
theorem lc_1 (C : LC p s m meth c b Ln xs cT D) {i : Nat} (hi : i + 4 ≤ Ln) (hR : RR S L) (kk : ∀ (S' : gx_S) (L' : gx_L), RR S' L' → Lw p l e s m below meth c b ad cT D 1026 (nI i) [] S' L') : Lw p l e s m below meth c b ad cT D 187 (nI i) [] S L := by
  obtain ⟨D1, P1, hD1, hc1, h1⟩ := pr_wipe S L hR 
  refine lw_a1 C dL_law_187 ?_
  refine lw_call (M' := mX10_wipe) (As := []) (bb := 0) (st0 := []) C dL_law_188 lk_L_18 vX10_wipe rfl rfl hc1 hD1 (Nat.le_of_ble_eq_true rfl) (fun v1 S1 L1 q1 => ?_)
  obtain ⟨r1, hv1, q1⟩ := q1
  subst hv1
  obtain ⟨D2, P2, hD2, hc2, h2⟩ := h1 r1 S1 L1 q1
  refine lw_a2 C dL_law_191 ?_
  refine lw_call (M' := mX11_wipe) (As := []) (bb := 44) (st0 := [.int r1]) C dL_law_192 lk_L_22 vX11_wipe rfl rfl hc2 hD2 (Nat.le_of_ble_eq_true rfl) (fun v2 S2 L2 q2 => ?_)
  obtain ⟨r2, hv2, q2⟩ := q2
  subst hv2
  obtain ⟨e1, hR2⟩ := h2 r2 S2 L2 q2
  exact lw_eq C dL_law_195 (by decide) e1 (kk S2 L2 hR2)
theorem lc_2 (C : LC p s m meth c b Ln xs cT D) {i : Nat} (hi : i + 4 ≤ Ln) (hR : RR S L) (kk : ∀ (S' : gx_S) (L' : gx_L), RR S' L' → Lw p l e s m below meth c b ad cT D 1026 (nI i) [] S' L') : Lw p l e s m below meth c b ad cT D 200 (nI i) [] S L := by
  obtain ⟨D1, P1, hD1, hc1, h1⟩ := pr_fault S L hR 
  refine lw_a1 C dL_law_200 ?_
  refine lw_call (M' := mX10_fault) (As := []) (bb := 0) (st0 := []) C dL_law_201 lk_L_23 vX10_fault rfl rfl hc1 hD1 (Nat.le_of_ble_eq_true rfl) (fun v1 S1 L1 q1 => ?_)
  obtain ⟨r1, hv1, q1⟩ := q1
  subst hv1
  obtain ⟨D2, P2, hD2, hc2, h2⟩ := h1 r1 S1 L1 q1
  refine lw_a2 C dL_law_204 ?_
  refine lw_call (M' := mX11_fault) (As := []) (bb := 44) (st0 := [.int r1]) C dL_law_205 lk_L_26 vX11_fault rfl rfl hc2 hD2 (Nat.le_of_ble_eq_true rfl) (fun v2 S2 L2 q2 => ?_)
  obtain ⟨r2, hv2, q2⟩ := q2
  subst hv2
  obtain ⟨e1, hR2⟩ := h2 r2 S2 L2 q2
  exact lw_eq C dL_law_208 (by decide) e1 (kk S2 L2 hR2)
theorem lc_3 (C : LC p s m meth c b Ln xs cT D) {i : Nat} (hi : i + 4 ≤ Ln) (hR : RR S L) (kk : ∀ (S' : gx_S) (L' : gx_L), RR S' L' → Lw p l e s m below meth c b ad cT D 1026 (nI i) [] S' L') : Lw p l e s m below meth c b ad cT D 213 (nI i) [] S L := by
  obtain ⟨D1, P1, hD1, hc1, h1⟩ := pr_inn S L hR 
  refine lw_a1 C dL_law_213 ?_
  refine lw_call (M' := mX10_inn) (As := []) (bb := 0) (st0 := []) C dL_law_214 lk_L_27 vX10_inn rfl rfl hc1 hD1 (Nat.le_of_ble_eq_true rfl) (fun v1 S1 L1 q1 => ?_)
  obtain ⟨r1, hv1, q1⟩ := q1
  subst hv1
  obtain ⟨D2, P2, hD2, hc2, h2⟩ := h1 r1 S1 L1 q1
  refine lw_a2 C dL_law_217 ?_
  refine lw_call (M' := mX11_inn) (As := []) (bb := 44) (st0 := [.int r1]) C dL_law_218 lk_L_30 vX11_inn rfl rfl hc2 hD2 (Nat.le_of_ble_eq_true rfl) (fun v2 S2 L2 q2 => ?_)
  obtain ⟨r2, hv2, q2⟩ := q2
  subst hv2
  obtain ⟨e1, hR2⟩ := h2 r2 S2 L2 q2
  exact lw_eq C dL_law_221 (by decide) e1 (kk S2 L2 hR2)
theorem lc_4 (C : LC p s m meth c b Ln xs cT D) {i : Nat} (hi : i + 4 ≤ Ln) (hR : RR S L) (kk : ∀ (S' : gx_S) (L' : gx_L), RR S' L' → Lw p l e s m below meth c b ad cT D 1026 (nI i) [] S' L') : Lw p l e s m below meth c b ad cT D 226 (nI i) [] S L := by
  obtain ⟨D1, P1, hD1, hc1, h1⟩ := pr_glass S L hR ((xs (i + 1))) ((xs (i + 2)))
  refine lw_a1 C dL_law_226 ?_
  refine lw_ld 1 C dL_law_227 dL_law_228 dL_law_229 dL_law_230 dL_law_231 (by decide) (by omega) ?_
  refine lw_ld 2 C dL_law_232 dL_law_233 dL_law_234 dL_law_235 dL_law_236 (by decide) (by omega) ?_
  refine lw_call (M' := mX10_glass) (As := [.int (xs (i + 1)), .int (xs (i + 2))]) (bb := 0) (st0 := []) C dL_law_237 lk_L_31 vX10_glass rfl rfl hc1 hD1 (Nat.le_of_ble_eq_true rfl) (fun v1 S1 L1 q1 => ?_)
  obtain ⟨r1, hv1, q1⟩ := q1
  subst hv1
  obtain ⟨D2, P2, hD2, hc2, h2⟩ := h1 r1 S1 L1 q1
  refine lw_a2 C dL_law_240 ?_
  refine lw_ld 1 C dL_law_241 dL_law_242 dL_law_243 dL_law_244 dL_law_245 (by decide) (by omega) ?_
  refine lw_ld 2 C dL_law_246 dL_law_247 dL_law_248 dL_law_249 dL_law_250 (by decide) (by omega) ?_
  refine lw_call (M' := mX11_glass) (As := [.int (xs (i + 1)), .int (xs (i + 2))]) (bb := 44) (st0 := [.int r1]) C dL_law_251 lk_L_35 vX11_glass rfl rfl hc2 hD2 (Nat.le_of_ble_eq_true rfl) (fun v2 S2 L2 q2 => ?_)
  obtain ⟨r2, hv2, q2⟩ := q2
  subst hv2
  obtain ⟨e1, hR2⟩ := h2 r2 S2 L2 q2
  exact lw_eq C dL_law_254 (by decide) e1 (kk S2 L2 hR2)
theorem lc_5 (C : LC p s m meth c b Ln xs cT D) {i : Nat} (hi : i + 4 ≤ Ln) (hR : RR S L) (kk : ∀ (S' : gx_S) (L' : gx_L), RR S' L' → Lw p l e s m below meth c b ad cT D 1026 (nI i) [] S' L') : Lw p l e s m below meth c b ad cT D 259 (nI i) [] S L := by
  obtain ⟨D1, P1, hD1, hc1, h1⟩ := pr_drinker S L hR ((xs (i + 1))) ((xs (i + 2)))
  refine lw_a1 C dL_law_259 ?_
  refine lw_ld 1 C dL_law_260 dL_law_261 dL_law_262 dL_law_263 dL_law_264 (by decide) (by omega) ?_
  refine lw_ld 2 C dL_law_265 dL_law_266 dL_law_267 dL_law_268 dL_law_269 (by decide) (by omega) ?_
  refine lw_call (M' := mX10_drinker) (As := [.int (xs (i + 1)), .int (xs (i + 2))]) (bb := 0) (st0 := []) C dL_law_270 lk_L_36 vX10_drinker rfl rfl hc1 hD1 (Nat.le_of_ble_eq_true rfl) (fun v1 S1 L1 q1 => ?_)
  obtain ⟨r1, hv1, q1⟩ := q1
  subst hv1
  obtain ⟨D2, P2, hD2, hc2, h2⟩ := h1 r1 S1 L1 q1
  refine lw_a2 C dL_law_273 ?_
  refine lw_ld 1 C dL_law_274 dL_law_275 dL_law_276 dL_law_277 dL_law_278 (by decide) (by omega) ?_
  refine lw_ld 2 C dL_law_279 dL_law_280 dL_law_281 dL_law_282 dL_law_283 (by decide) (by omega) ?_
  refine lw_call (M' := mX11_drinker) (As := [.int (xs (i + 1)), .int (xs (i + 2))]) (bb := 44) (st0 := [.int r1]) C dL_law_284 lk_L_39 vX11_drinker rfl rfl hc2 hD2 (Nat.le_of_ble_eq_true rfl) (fun v2 S2 L2 q2 => ?_)
  obtain ⟨r2, hv2, q2⟩ := q2
  subst hv2
  obtain ⟨e1, hR2⟩ := h2 r2 S2 L2 q2
  exact lw_eq C dL_law_287 (by decide) e1 (kk S2 L2 hR2)
theorem lc_6 (C : LC p s m meth c b Ln xs cT D) {i : Nat} (hi : i + 4 ≤ Ln) (hR : RR S L) (kk : ∀ (S' : gx_S) (L' : gx_L), RR S' L' → Lw p l e s m below meth c b ad cT D 1026 (nI i) [] S' L') : Lw p l e s m below meth c b ad cT D 292 (nI i) [] S L := by
  obtain ⟨D1, P1, hD1, hc1, h1⟩ := pr_pour S L hR ((xs (i + 1))) ((xs (i + 2)))
  refine lw_a1 C dL_law_292 ?_
  refine lw_ld 1 C dL_law_293 dL_law_294 dL_law_295 dL_law_296 dL_law_297 (by decide) (by omega) ?_
  refine lw_ld 2 C dL_law_298 dL_law_299 dL_law_300 dL_law_301 dL_law_302 (by decide) (by omega) ?_
  refine lw_call (M' := mX10_pour) (As := [.int (xs (i + 1)), .int (xs (i + 2))]) (bb := 0) (st0 := []) C dL_law_303 lk_L_40 vX10_pour rfl rfl hc1 hD1 (Nat.le_of_ble_eq_true rfl) (fun v1 S1 L1 q1 => ?_)
  obtain ⟨r1, hv1, q1⟩ := q1
  subst hv1
  obtain ⟨D2, P2, hD2, hc2, h2⟩ := h1 r1 S1 L1 q1
  refine lw_a2 C dL_law_306 ?_
  refine lw_ld 1 C dL_law_307 dL_law_308 dL_law_309 dL_law_310 dL_law_311 (by decide) (by omega) ?_
  refine lw_ld 2 C dL_law_312 dL_law_313 dL_law_314 dL_law_315 dL_law_316 (by decide) (by omega) ?_
  refine lw_call (M' := mX11_pour) (As := [.int (xs (i + 1)), .int (xs (i + 2))]) (bb := 44) (st0 := [.int r1]) C dL_law_317 lk_L_43 vX11_pour rfl rfl hc2 hD2 (Nat.le_of_ble_eq_true rfl) (fun v2 S2 L2 q2 => ?_)
  obtain ⟨r2, hv2, q2⟩ := q2
  subst hv2
  obtain ⟨e1, hR2⟩ := h2 r2 S2 L2 q2
  exact lw_eq C dL_law_320 (by decide) e1 (kk S2 L2 hR2)
theorem lc_7 (C : LC p s m meth c b Ln xs cT D) {i : Nat} (hi : i + 4 ≤ Ln) (hR : RR S L) (kk : ∀ (S' : gx_S) (L' : gx_L), RR S' L' → Lw p l e s m below meth c b ad cT D 1026 (nI i) [] S' L') : Lw p l e s m below meth c b ad cT D 325 (nI i) [] S L := by
  obtain ⟨D1, P1, hD1, hc1, h1⟩ := pr_drink S L hR ((xs (i + 1))) ((xs (i + 2)))
  refine lw_a1 C dL_law_325 ?_
  refine lw_ld 1 C dL_law_326 dL_law_327 dL_law_328 dL_law_329 dL_law_330 (by decide) (by omega) ?_
  refine lw_ld 2 C dL_law_331 dL_law_332 dL_law_333 dL_law_334 dL_law_335 (by decide) (by omega) ?_
  refine lw_call (M' := mX10_drink) (As := [.int (xs (i + 1)), .int (xs (i + 2))]) (bb := 0) (st0 := []) C dL_law_336 lk_L_44 vX10_drink rfl rfl hc1 hD1 (Nat.le_of_ble_eq_true rfl) (fun v1 S1 L1 q1 => ?_)
  obtain ⟨r1, hv1, q1⟩ := q1
  subst hv1
  obtain ⟨D2, P2, hD2, hc2, h2⟩ := h1 r1 S1 L1 q1
  refine lw_a2 C dL_law_339 ?_
  refine lw_ld 1 C dL_law_340 dL_law_341 dL_law_342 dL_law_343 dL_law_344 (by decide) (by omega) ?_
  refine lw_ld 2 C dL_law_345 dL_law_346 dL_law_347 dL_law_348 dL_law_349 (by decide) (by omega) ?_
  refine lw_call (M' := mX11_drink) (As := [.int (xs (i + 1)), .int (xs (i + 2))]) (bb := 44) (st0 := [.int r1]) C dL_law_350 lk_L_47 vX11_drink rfl rfl hc2 hD2 (Nat.le_of_ble_eq_true rfl) (fun v2 S2 L2 q2 => ?_)
  obtain ⟨r2, hv2, q2⟩ := q2
  subst hv2
  obtain ⟨e1, hR2⟩ := h2 r2 S2 L2 q2
  exact lw_eq C dL_law_353 (by decide) e1 (kk S2 L2 hR2)
theorem lc_8 (C : LC p s m meth c b Ln xs cT D) {i : Nat} (hi : i + 4 ≤ Ln) (hR : RR S L) (kk : ∀ (S' : gx_S) (L' : gx_L), RR S' L' → Lw p l e s m below meth c b ad cT D 1026 (nI i) [] S' L') : Lw p l e s m below meth c b ad cT D 358 (nI i) [] S L := by
  obtain ⟨D1, P1, hD1, hc1, h1⟩ := pr_tip S L hR ((xs (i + 1))) ((xs (i + 2)))
  refine lw_a1 C dL_law_358 ?_
  refine lw_ld 1 C dL_law_359 dL_law_360 dL_law_361 dL_law_362 dL_law_363 (by decide) (by omega) ?_
  refine lw_ld 2 C dL_law_364 dL_law_365 dL_law_366 dL_law_367 dL_law_368 (by decide) (by omega) ?_
  refine lw_call (M' := mX10_tip) (As := [.int (xs (i + 1)), .int (xs (i + 2))]) (bb := 0) (st0 := []) C dL_law_369 lk_L_48 vX10_tip rfl rfl hc1 hD1 (Nat.le_of_ble_eq_true rfl) (fun v1 S1 L1 q1 => ?_)
  obtain ⟨r1, hv1, q1⟩ := q1
  subst hv1
  obtain ⟨D2, P2, hD2, hc2, h2⟩ := h1 r1 S1 L1 q1
  refine lw_a2 C dL_law_372 ?_
  refine lw_ld 1 C dL_law_373 dL_law_374 dL_law_375 dL_law_376 dL_law_377 (by decide) (by omega) ?_
  refine lw_ld 2 C dL_law_378 dL_law_379 dL_law_380 dL_law_381 dL_law_382 (by decide) (by omega) ?_
  refine lw_call (M' := mX11_tip) (As := [.int (xs (i + 1)), .int (xs (i + 2))]) (bb := 44) (st0 := [.int r1]) C dL_law_383 lk_L_51 vX11_tip rfl rfl hc2 hD2 (Nat.le_of_ble_eq_true rfl) (fun v2 S2 L2 q2 => ?_)
  obtain ⟨r2, hv2, q2⟩ := q2
  subst hv2
  obtain ⟨e1, hR2⟩ := h2 r2 S2 L2 q2
  exact lw_eq C dL_law_386 (by decide) e1 (kk S2 L2 hR2)
theorem lc_9 (C : LC p s m meth c b Ln xs cT D) {i : Nat} (hi : i + 4 ≤ Ln) (hR : RR S L) (kk : ∀ (S' : gx_S) (L' : gx_L), RR S' L' → Lw p l e s m below meth c b ad cT D 1026 (nI i) [] S' L') : Lw p l e s m below meth c b ad cT D 391 (nI i) [] S L := by
  obtain ⟨D1, P1, hD1, hc1, h1⟩ := pr_hour S L hR 
  refine lw_a1 C dL_law_391 ?_
  refine lw_call (M' := mX10_hour) (As := []) (bb := 0) (st0 := []) C dL_law_392 lk_L_52 vX10_hour rfl rfl hc1 hD1 (Nat.le_of_ble_eq_true rfl) (fun v1 S1 L1 q1 => ?_)
  obtain ⟨r1, hv1, q1⟩ := q1
  subst hv1
  obtain ⟨D2, P2, hD2, hc2, h2⟩ := h1 r1 S1 L1 q1
  refine lw_a2 C dL_law_395 ?_
  refine lw_call (M' := mX11_hour) (As := []) (bb := 44) (st0 := [.int r1]) C dL_law_396 lk_L_55 vX11_hour rfl rfl hc2 hD2 (Nat.le_of_ble_eq_true rfl) (fun v2 S2 L2 q2 => ?_)
  obtain ⟨r2, hv2, q2⟩ := q2
  subst hv2
  obtain ⟨e1, hR2⟩ := h2 r2 S2 L2 q2
  exact lw_eq C dL_law_399 (by decide) e1 (kk S2 L2 hR2)
theorem lc_10 (C : LC p s m meth c b Ln xs cT D) {i : Nat} (hi : i + 4 ≤ Ln) (hR : RR S L) (kk : ∀ (S' : gx_S) (L' : gx_L), RR S' L' → Lw p l e s m below meth c b ad cT D 1026 (nI i) [] S' L') : Lw p l e s m below meth c b ad cT D 404 (nI i) [] S L := by
  obtain ⟨D1, P1, hD1, hc1, h1⟩ := pr_undo S L hR 
  refine lw_a1 C dL_law_404 ?_
  refine lw_call (M' := mX10_undo) (As := []) (bb := 0) (st0 := []) C dL_law_405 lk_L_56 vX10_undo rfl rfl hc1 hD1 (Nat.le_of_ble_eq_true rfl) (fun v1 S1 L1 q1 => ?_)
  obtain ⟨r1, hv1, q1⟩ := q1
  subst hv1
  obtain ⟨D2, P2, hD2, hc2, h2⟩ := h1 r1 S1 L1 q1
  refine lw_a2 C dL_law_408 ?_
  refine lw_call (M' := mX11_undo) (As := []) (bb := 44) (st0 := [.int r1]) C dL_law_409 lk_L_59 vX11_undo rfl rfl hc2 hD2 (Nat.le_of_ble_eq_true rfl) (fun v2 S2 L2 q2 => ?_)
  obtain ⟨r2, hv2, q2⟩ := q2
  subst hv2
  obtain ⟨e1, hR2⟩ := h2 r2 S2 L2 q2
  exact lw_eq C dL_law_412 (by decide) e1 (kk S2 L2 hR2)
theorem lc_11 (C : LC p s m meth c b Ln xs cT D) {i : Nat} (hi : i + 4 ≤ Ln) (hR : RR S L) (kk : ∀ (S' : gx_S) (L' : gx_L), RR S' L' → Lw p l e s m below meth c b ad cT D 1026 (nI i) [] S' L') : Lw p l e s m below meth c b ad cT D 417 (nI i) [] S L := by
  obtain ⟨D1, P1, hD1, hc1, h1⟩ := pr_left S L hR ((xs (i + 1)))
  refine lw_a1 C dL_law_417 ?_
  refine lw_ld 1 C dL_law_418 dL_law_419 dL_law_420 dL_law_421 dL_law_422 (by decide) (by omega) ?_
  refine lw_call (M' := mX10_left) (As := [.int (xs (i + 1))]) (bb := 0) (st0 := []) C dL_law_423 lk_L_60 vX10_left rfl rfl hc1 hD1 (Nat.le_of_ble_eq_true rfl) (fun v1 S1 L1 q1 => ?_)
  obtain ⟨r1, hv1, q1⟩ := q1
  subst hv1
  obtain ⟨D2, P2, hD2, hc2, h2⟩ := h1 r1 S1 L1 q1
  refine lw_a2 C dL_law_426 ?_
  refine lw_ld 1 C dL_law_427 dL_law_428 dL_law_429 dL_law_430 dL_law_431 (by decide) (by omega) ?_
  refine lw_call (M' := mX11_left) (As := [.int (xs (i + 1))]) (bb := 44) (st0 := [.int r1]) C dL_law_432 lk_L_63 vX11_left rfl rfl hc2 hD2 (Nat.le_of_ble_eq_true rfl) (fun v2 S2 L2 q2 => ?_)
  obtain ⟨r2, hv2, q2⟩ := q2
  subst hv2
  obtain ⟨e1, hR2⟩ := h2 r2 S2 L2 q2
  exact lw_eq C dL_law_435 (by decide) e1 (kk S2 L2 hR2)
theorem lc_12 (C : LC p s m meth c b Ln xs cT D) {i : Nat} (hi : i + 4 ≤ Ln) (hR : RR S L) (kk : ∀ (S' : gx_S) (L' : gx_L), RR S' L' → Lw p l e s m below meth c b ad cT D 1026 (nI i) [] S' L') : Lw p l e s m below meth c b ad cT D 440 (nI i) [] S L := by
  obtain ⟨D1, P1, hD1, hc1, h1⟩ := pr_evening S L hR ((xs (i + 1)))
  refine lw_a1 C dL_law_440 ?_
  refine lw_ld 1 C dL_law_441 dL_law_442 dL_law_443 dL_law_444 dL_law_445 (by decide) (by omega) ?_
  refine lw_call (M' := mX10_evening) (As := [.int (xs (i + 1))]) (bb := 0) (st0 := []) C dL_law_446 lk_L_64 vX10_evening rfl rfl hc1 hD1 (Nat.le_of_ble_eq_true rfl) (fun v1 S1 L1 q1 => ?_)
  obtain ⟨r1, hv1, q1⟩ := q1
  subst hv1
  obtain ⟨D2, P2, hD2, hc2, h2⟩ := h1 r1 S1 L1 q1
  refine lw_a2 C dL_law_449 ?_
  refine lw_ld 1 C dL_law_450 dL_law_451 dL_law_452 dL_law_453 dL_law_454 (by decide) (by omega) ?_
  refine lw_call (M' := mX11_evening) (As := [.int (xs (i + 1))]) (bb := 44) (st0 := [.int r1]) C dL_law_455 lk_L_67 vX11_evening rfl rfl hc2 hD2 (Nat.le_of_ble_eq_true rfl) (fun v2 S2 L2 q2 => ?_)
  obtain ⟨r2, hv2, q2⟩ := q2
  subst hv2
  obtain ⟨e1, hR2⟩ := h2 r2 S2 L2 q2
  exact lw_eq C dL_law_458 (by decide) e1 (kk S2 L2 hR2)
theorem lc_13 (C : LC p s m meth c b Ln xs cT D) {i : Nat} (hi : i + 4 ≤ Ln) (hR : RR S L) (kk : ∀ (S' : gx_S) (L' : gx_L), RR S' L' → Lw p l e s m below meth c b ad cT D 1026 (nI i) [] S' L') : Lw p l e s m below meth c b ad cT D 463 (nI i) [] S L := by
  obtain ⟨D1, P1, hD1, hc1, h1⟩ := pr_pouring S L hR ((xs (i + 1))) ((if xs (i + 2) = 0 then 0 else 1))
  refine lw_a1 C dL_law_463 ?_
  refine lw_ld 1 C dL_law_464 dL_law_465 dL_law_466 dL_law_467 dL_law_468 (by decide) (by omega) ?_
  refine lw_bl 2 C dL_law_469 dL_law_470 dL_law_471 dL_law_472 dL_law_473 (by decide) (by omega) dL_law_474 dL_law_477 dL_law_478 dL_law_481 ?_
  refine lw_call (M' := mX10_pouring) (As := [.int (xs (i + 1)), .int (if xs (i + 2) = 0 then 0 else 1)]) (bb := 0) (st0 := []) C dL_law_482 lk_L_68 vX10_pouring rfl rfl hc1 hD1 (Nat.le_of_ble_eq_true rfl) (fun v1 S1 L1 q1 => ?_)
  obtain ⟨r1, hv1, q1⟩ := q1
  subst hv1
  obtain ⟨D2, P2, hD2, hc2, h2⟩ := h1 r1 S1 L1 q1
  refine lw_a2 C dL_law_485 ?_
  refine lw_ld 1 C dL_law_486 dL_law_487 dL_law_488 dL_law_489 dL_law_490 (by decide) (by omega) ?_
  refine lw_bl 2 C dL_law_491 dL_law_492 dL_law_493 dL_law_494 dL_law_495 (by decide) (by omega) dL_law_496 dL_law_499 dL_law_500 dL_law_503 ?_
  refine lw_call (M' := mX11_pouring) (As := [.int (xs (i + 1)), .int (if xs (i + 2) = 0 then 0 else 1)]) (bb := 44) (st0 := [.int r1]) C dL_law_504 lk_L_72 vX11_pouring rfl rfl hc2 hD2 (Nat.le_of_ble_eq_true rfl) (fun v2 S2 L2 q2 => ?_)
  obtain ⟨r2, hv2, q2⟩ := q2
  subst hv2
  obtain ⟨e1, hR2⟩ := h2 r2 S2 L2 q2
  exact lw_eq C dL_law_507 (by decide) e1 (kk S2 L2 hR2)
theorem lc_14 (C : LC p s m meth c b Ln xs cT D) {i : Nat} (hi : i + 4 ≤ Ln) (hR : RR S L) (kk : ∀ (S' : gx_S) (L' : gx_L), RR S' L' → Lw p l e s m below meth c b ad cT D 1026 (nI i) [] S' L') : Lw p l e s m below meth c b ad cT D 512 (nI i) [] S L := by
  obtain ⟨D1, P1, hD1, hc1, h1⟩ := pr_wake S L hR 
  refine lw_a1 C dL_law_512 ?_
  refine lw_call (M' := mX10_wake) (As := []) (bb := 0) (st0 := []) C dL_law_513 lk_L_73 vX10_wake rfl rfl hc1 hD1 (Nat.le_of_ble_eq_true rfl) (fun v1 S1 L1 q1 => ?_)
  obtain ⟨r1, hv1, q1⟩ := q1
  subst hv1
  obtain ⟨D2, P2, hD2, hc2, h2⟩ := h1 r1 S1 L1 q1
  refine lw_a2 C dL_law_516 ?_
  refine lw_call (M' := mX11_wake) (As := []) (bb := 44) (st0 := [.int r1]) C dL_law_517 lk_L_76 vX11_wake rfl rfl hc2 hD2 (Nat.le_of_ble_eq_true rfl) (fun v2 S2 L2 q2 => ?_)
  obtain ⟨r2, hv2, q2⟩ := q2
  subst hv2
  obtain ⟨e1, hR2⟩ := h2 r2 S2 L2 q2
  exact lw_eq C dL_law_520 (by decide) e1 (kk S2 L2 hR2)
theorem lc_15 (C : LC p s m meth c b Ln xs cT D) {i : Nat} (hi : i + 4 ≤ Ln) (hR : RR S L) (kk : ∀ (S' : gx_S) (L' : gx_L), RR S' L' → Lw p l e s m below meth c b ad cT D 1026 (nI i) [] S' L') : Lw p l e s m below meth c b ad cT D 525 (nI i) [] S L := by
  obtain ⟨D1, P1, hD1, hc1, h1⟩ := pr_order S L hR ((if xs (i + 1) = 0 then 0 else 1))
  refine lw_a1 C dL_law_525 ?_
  refine lw_bl 1 C dL_law_526 dL_law_527 dL_law_528 dL_law_529 dL_law_530 (by decide) (by omega) dL_law_531 dL_law_534 dL_law_535 dL_law_538 ?_
  refine lw_call (M' := mX10_order) (As := [.int (if xs (i + 1) = 0 then 0 else 1)]) (bb := 0) (st0 := []) C dL_law_539 lk_L_77 vX10_order rfl rfl hc1 hD1 (Nat.le_of_ble_eq_true rfl) (fun v1 S1 L1 q1 => ?_)
  obtain ⟨r1, hv1, q1⟩ := q1
  subst hv1
  obtain ⟨D2, P2, hD2, hc2, h2⟩ := h1 r1 S1 L1 q1
  refine lw_a2 C dL_law_542 ?_
  refine lw_bl 1 C dL_law_543 dL_law_544 dL_law_545 dL_law_546 dL_law_547 (by decide) (by omega) dL_law_548 dL_law_551 dL_law_552 dL_law_555 ?_
  refine lw_call (M' := mX11_order) (As := [.int (if xs (i + 1) = 0 then 0 else 1)]) (bb := 44) (st0 := [.int r1]) C dL_law_556 lk_L_81 vX11_order rfl rfl hc2 hD2 (Nat.le_of_ble_eq_true rfl) (fun v2 S2 L2 q2 => ?_)
  obtain ⟨r2, hv2, q2⟩ := q2
  subst hv2
  obtain ⟨e1, hR2⟩ := h2 r2 S2 L2 q2
  exact lw_eq C dL_law_559 (by decide) e1 (kk S2 L2 hR2)
theorem lc_16 (C : LC p s m meth c b Ln xs cT D) {i : Nat} (hi : i + 4 ≤ Ln) (hR : RR S L) (kk : ∀ (S' : gx_S) (L' : gx_L), RR S' L' → Lw p l e s m below meth c b ad cT D 1026 (nI i) [] S' L') : Lw p l e s m below meth c b ad cT D 564 (nI i) [] S L := by
  obtain ⟨D1, P1, hD1, hc1, h1⟩ := pr_hall S L hR ((xs (i + 1)))
  refine lw_a1 C dL_law_564 ?_
  refine lw_ld 1 C dL_law_565 dL_law_566 dL_law_567 dL_law_568 dL_law_569 (by decide) (by omega) ?_
  refine lw_call (M' := mX10_hall) (As := [.int (xs (i + 1))]) (bb := 0) (st0 := []) C dL_law_570 lk_L_82 vX10_hall rfl rfl hc1 hD1 (Nat.le_of_ble_eq_true rfl) (fun v1 S1 L1 q1 => ?_)
  obtain ⟨r1, hv1, q1⟩ := q1
  subst hv1
  obtain ⟨D2, P2, hD2, hc2, h2⟩ := h1 r1 S1 L1 q1
  refine lw_a2 C dL_law_573 ?_
  refine lw_ld 1 C dL_law_574 dL_law_575 dL_law_576 dL_law_577 dL_law_578 (by decide) (by omega) ?_
  refine lw_call (M' := mX11_hall) (As := [.int (xs (i + 1))]) (bb := 44) (st0 := [.int r1]) C dL_law_579 lk_L_85 vX11_hall rfl rfl hc2 hD2 (Nat.le_of_ble_eq_true rfl) (fun v2 S2 L2 q2 => ?_)
  obtain ⟨r2, hv2, q2⟩ := q2
  subst hv2
  obtain ⟨e1, hR2⟩ := h2 r2 S2 L2 q2
  exact lw_eq C dL_law_582 (by decide) e1 (kk S2 L2 hR2)
theorem lc_17 (C : LC p s m meth c b Ln xs cT D) {i : Nat} (hi : i + 4 ≤ Ln) (hR : RR S L) (kk : ∀ (S' : gx_S) (L' : gx_L), RR S' L' → Lw p l e s m below meth c b ad cT D 1026 (nI i) [] S' L') : Lw p l e s m below meth c b ad cT D 587 (nI i) [] S L := by
  obtain ⟨D1, P1, hD1, hc1, h1⟩ := pr_judge S L hR ((xs (i + 1))) ((lval (xs (i + 2)) (xs (i + 3))))
  refine lw_a1 C dL_law_587 ?_
  refine lw_ld 1 C dL_law_588 dL_law_589 dL_law_590 dL_law_591 dL_law_592 (by decide) (by omega) ?_
  refine lw_ll 2 3 C dL_law_593 dL_law_594 dL_law_595 dL_law_596 dL_law_597 (by decide) (by omega) dL_law_598 dL_law_599 dL_law_601 dL_law_602 dL_law_603 dL_law_604 dL_law_605 dL_law_606 (by decide) (by omega) dL_law_607 dL_law_608 dL_law_611 dL_law_612 ?_
  refine lw_call (M' := mX10_judge) (As := [.int (xs (i + 1)), .long (lval (xs (i + 2)) (xs (i + 3)))]) (bb := 0) (st0 := []) C dL_law_613 lk_L_88 vX10_judge rfl rfl hc1 hD1 (Nat.le_of_ble_eq_true rfl) (fun v1 S1 L1 q1 => ?_)
  obtain ⟨r1, hv1, q1⟩ := q1
  subst hv1
  obtain ⟨D2, P2, hD2, hc2, h2⟩ := h1 r1 S1 L1 q1
  refine lw_a2 C dL_law_616 ?_
  refine lw_ld 1 C dL_law_617 dL_law_618 dL_law_619 dL_law_620 dL_law_621 (by decide) (by omega) ?_
  refine lw_ll 2 3 C dL_law_622 dL_law_623 dL_law_624 dL_law_625 dL_law_626 (by decide) (by omega) dL_law_627 dL_law_628 dL_law_630 dL_law_631 dL_law_632 dL_law_633 dL_law_634 dL_law_635 (by decide) (by omega) dL_law_636 dL_law_637 dL_law_640 dL_law_641 ?_
  refine lw_call (M' := mX11_judge) (As := [.int (xs (i + 1)), .long (lval (xs (i + 2)) (xs (i + 3)))]) (bb := 44) (st0 := [.int r1]) C dL_law_642 lk_L_92 vX11_judge rfl rfl hc2 hD2 (Nat.le_of_ble_eq_true rfl) (fun v2 S2 L2 q2 => ?_)
  obtain ⟨r2, hv2, q2⟩ := q2
  subst hv2
  obtain ⟨e1, hR2⟩ := h2 r2 S2 L2 q2
  exact lw_eq C dL_law_645 (by decide) e1 (kk S2 L2 hR2)
theorem lc_18 (C : LC p s m meth c b Ln xs cT D) {i : Nat} (hi : i + 4 ≤ Ln) (hR : RR S L) (kk : ∀ (S' : gx_S) (L' : gx_L), RR S' L' → Lw p l e s m below meth c b ad cT D 1026 (nI i) [] S' L') : Lw p l e s m below meth c b ad cT D 650 (nI i) [] S L := by
  obtain ⟨D1, P1, hD1, hc1, h1⟩ := pr_see S L hR ((xs (i + 1))) ((xs (i + 2))) ((xs (i + 3)))
  refine lw_a1 C dL_law_650 ?_
  refine lw_ld 1 C dL_law_651 dL_law_652 dL_law_653 dL_law_654 dL_law_655 (by decide) (by omega) ?_
  refine lw_ld 2 C dL_law_656 dL_law_657 dL_law_658 dL_law_659 dL_law_660 (by decide) (by omega) ?_
  refine lw_ld 3 C dL_law_661 dL_law_662 dL_law_663 dL_law_664 dL_law_665 (by decide) (by omega) ?_
  refine lw_call (M' := mX10_see) (As := [.int (xs (i + 1)), .int (xs (i + 2)), .int (xs (i + 3))]) (bb := 0) (st0 := []) C dL_law_666 lk_L_93 vX10_see rfl rfl hc1 hD1 (Nat.le_of_ble_eq_true rfl) (fun v1 S1 L1 q1 => ?_)
  obtain ⟨r1, hv1, q1⟩ := q1
  subst hv1
  obtain ⟨D2, P2, hD2, hc2, h2⟩ := h1 r1 S1 L1 q1
  refine lw_a2 C dL_law_669 ?_
  refine lw_ld 1 C dL_law_670 dL_law_671 dL_law_672 dL_law_673 dL_law_674 (by decide) (by omega) ?_
  refine lw_ld 2 C dL_law_675 dL_law_676 dL_law_677 dL_law_678 dL_law_679 (by decide) (by omega) ?_
  refine lw_ld 3 C dL_law_680 dL_law_681 dL_law_682 dL_law_683 dL_law_684 (by decide) (by omega) ?_
  refine lw_call (M' := mX11_see) (As := [.int (xs (i + 1)), .int (xs (i + 2)), .int (xs (i + 3))]) (bb := 44) (st0 := [.int r1]) C dL_law_685 lk_L_97 vX11_see rfl rfl hc2 hD2 (Nat.le_of_ble_eq_true rfl) (fun v2 S2 L2 q2 => ?_)
  obtain ⟨r2, hv2, q2⟩ := q2
  subst hv2
  obtain ⟨e1, hR2⟩ := h2 r2 S2 L2 q2
  exact lw_eq C dL_law_688 (by decide) e1 (kk S2 L2 hR2)
theorem lc_19 (C : LC p s m meth c b Ln xs cT D) {i : Nat} (hi : i + 4 ≤ Ln) (hR : RR S L) (kk : ∀ (S' : gx_S) (L' : gx_L), RR S' L' → Lw p l e s m below meth c b ad cT D 1026 (nI i) [] S' L') : Lw p l e s m below meth c b ad cT D 693 (nI i) [] S L := by
  obtain ⟨D1, P1, hD1, hc1, h1⟩ := pr_unsee S L hR 
  refine lw_a1 C dL_law_693 ?_
  refine lw_call (M' := mX10_unsee) (As := []) (bb := 0) (st0 := []) C dL_law_694 lk_L_98 vX10_unsee rfl rfl hc1 hD1 (Nat.le_of_ble_eq_true rfl) (fun v1 S1 L1 q1 => ?_)
  obtain ⟨r1, hv1, q1⟩ := q1
  subst hv1
  obtain ⟨D2, P2, hD2, hc2, h2⟩ := h1 r1 S1 L1 q1
  refine lw_a2 C dL_law_697 ?_
  refine lw_call (M' := mX11_unsee) (As := []) (bb := 44) (st0 := [.int r1]) C dL_law_698 lk_L_101 vX11_unsee rfl rfl hc2 hD2 (Nat.le_of_ble_eq_true rfl) (fun v2 S2 L2 q2 => ?_)
  obtain ⟨r2, hv2, q2⟩ := q2
  subst hv2
  obtain ⟨e1, hR2⟩ := h2 r2 S2 L2 q2
  exact lw_eq C dL_law_701 (by decide) e1 (kk S2 L2 hR2)
theorem lc_20 (C : LC p s m meth c b Ln xs cT D) {i : Nat} (hi : i + 4 ≤ Ln) (hR : RR S L) (kk : ∀ (S' : gx_S) (L' : gx_L), RR S' L' → Lw p l e s m below meth c b ad cT D 1026 (nI i) [] S' L') : Lw p l e s m below meth c b ad cT D 706 (nI i) [] S L := by
  obtain ⟨D1, P1, hD1, hc1, h1⟩ := pr_thirsts S L hR ((xs (i + 1)))
  refine lw_a1 C dL_law_706 ?_
  refine lw_ld 1 C dL_law_707 dL_law_708 dL_law_709 dL_law_710 dL_law_711 (by decide) (by omega) ?_
  refine lw_call (M' := mX10_thirsts) (As := [.int (xs (i + 1))]) (bb := 0) (st0 := []) C dL_law_712 lk_L_102 vX10_thirsts rfl rfl hc1 hD1 (Nat.le_of_ble_eq_true rfl) (fun v1 S1 L1 q1 => ?_)
  obtain ⟨r1, hv1, q1⟩ := q1
  subst hv1
  obtain ⟨D2, P2, hD2, hc2, h2⟩ := h1 r1 S1 L1 q1
  refine lw_a2 C dL_law_715 ?_
  refine lw_ld 1 C dL_law_716 dL_law_717 dL_law_718 dL_law_719 dL_law_720 (by decide) (by omega) ?_
  refine lw_call (M' := mX11_thirsts) (As := [.int (xs (i + 1))]) (bb := 44) (st0 := [.int r1]) C dL_law_721 lk_L_105 vX11_thirsts rfl rfl hc2 hD2 (Nat.le_of_ble_eq_true rfl) (fun v2 S2 L2 q2 => ?_)
  obtain ⟨r2, hv2, q2⟩ := q2
  subst hv2
  obtain ⟨e1, hR2⟩ := h2 r2 S2 L2 q2
  exact lw_eq C dL_law_724 (by decide) e1 (kk S2 L2 hR2)
theorem lc_21 (C : LC p s m meth c b Ln xs cT D) {i : Nat} (hi : i + 4 ≤ Ln) (hR : RR S L) (kk : ∀ (S' : gx_S) (L' : gx_L), RR S' L' → Lw p l e s m below meth c b ad cT D 1026 (nI i) [] S' L') : Lw p l e s m below meth c b ad cT D 729 (nI i) [] S L := by
  obtain ⟨D1, P1, hD1, hc1, h1⟩ := pr_share S L hR ((xs (i + 1))) ((if xs (i + 2) = 0 then 0 else 1))
  refine lw_a1 C dL_law_729 ?_
  refine lw_ld 1 C dL_law_730 dL_law_731 dL_law_732 dL_law_733 dL_law_734 (by decide) (by omega) ?_
  refine lw_bl 2 C dL_law_735 dL_law_736 dL_law_737 dL_law_738 dL_law_739 (by decide) (by omega) dL_law_740 dL_law_743 dL_law_744 dL_law_747 ?_
  refine lw_call (M' := mX10_share) (As := [.int (xs (i + 1)), .int (if xs (i + 2) = 0 then 0 else 1)]) (bb := 0) (st0 := []) C dL_law_748 lk_L_106 vX10_share rfl rfl hc1 hD1 (Nat.le_of_ble_eq_true rfl) (fun v1 S1 L1 q1 => ?_)
  obtain ⟨r1, hv1, q1⟩ := q1
  subst hv1
  obtain ⟨D2, P2, hD2, hc2, h2⟩ := h1 r1 S1 L1 q1
  refine lw_a2 C dL_law_751 ?_
  refine lw_ld 1 C dL_law_752 dL_law_753 dL_law_754 dL_law_755 dL_law_756 (by decide) (by omega) ?_
  refine lw_bl 2 C dL_law_757 dL_law_758 dL_law_759 dL_law_760 dL_law_761 (by decide) (by omega) dL_law_762 dL_law_765 dL_law_766 dL_law_769 ?_
  refine lw_call (M' := mX11_share) (As := [.int (xs (i + 1)), .int (if xs (i + 2) = 0 then 0 else 1)]) (bb := 44) (st0 := [.int r1]) C dL_law_770 lk_L_109 vX11_share rfl rfl hc2 hD2 (Nat.le_of_ble_eq_true rfl) (fun v2 S2 L2 q2 => ?_)
  obtain ⟨r2, hv2, q2⟩ := q2
  subst hv2
  obtain ⟨e1, hR2⟩ := h2 r2 S2 L2 q2
  exact lw_eq C dL_law_773 (by decide) e1 (kk S2 L2 hR2)
theorem lc_22 (C : LC p s m meth c b Ln xs cT D) {i : Nat} (hi : i + 4 ≤ Ln) (hR : RR S L) (kk : ∀ (S' : gx_S) (L' : gx_L), RR S' L' → Lw p l e s m below meth c b ad cT D 1026 (nI i) [] S' L') : Lw p l e s m below meth c b ad cT D 778 (nI i) [] S L := by
  obtain ⟨D1, P1, hD1, hc1, h1⟩ := pr_rests S L hR ((xs (i + 1))) ((xs (i + 2))) ((xs (i + 3)))
  refine lw_a1 C dL_law_778 ?_
  refine lw_ld 1 C dL_law_779 dL_law_780 dL_law_781 dL_law_782 dL_law_783 (by decide) (by omega) ?_
  refine lw_ld 2 C dL_law_784 dL_law_785 dL_law_786 dL_law_787 dL_law_788 (by decide) (by omega) ?_
  refine lw_ld 3 C dL_law_789 dL_law_790 dL_law_791 dL_law_792 dL_law_793 (by decide) (by omega) ?_
  refine lw_call (M' := mX10_rests) (As := [.int (xs (i + 1)), .int (xs (i + 2)), .int (xs (i + 3))]) (bb := 0) (st0 := []) C dL_law_794 lk_L_110 vX10_rests rfl rfl hc1 hD1 (Nat.le_of_ble_eq_true rfl) (fun v1 S1 L1 q1 => ?_)
  obtain ⟨r1, hv1, q1⟩ := q1
  subst hv1
  obtain ⟨D2, P2, hD2, hc2, h2⟩ := h1 r1 S1 L1 q1
  refine lw_a2 C dL_law_797 ?_
  refine lw_ld 1 C dL_law_798 dL_law_799 dL_law_800 dL_law_801 dL_law_802 (by decide) (by omega) ?_
  refine lw_ld 2 C dL_law_803 dL_law_804 dL_law_805 dL_law_806 dL_law_807 (by decide) (by omega) ?_
  refine lw_ld 3 C dL_law_808 dL_law_809 dL_law_810 dL_law_811 dL_law_812 (by decide) (by omega) ?_
  refine lw_call (M' := mX11_rests) (As := [.int (xs (i + 1)), .int (xs (i + 2)), .int (xs (i + 3))]) (bb := 44) (st0 := [.int r1]) C dL_law_813 lk_L_113 vX11_rests rfl rfl hc2 hD2 (Nat.le_of_ble_eq_true rfl) (fun v2 S2 L2 q2 => ?_)
  obtain ⟨r2, hv2, q2⟩ := q2
  subst hv2
  obtain ⟨e1, hR2⟩ := h2 r2 S2 L2 q2
  exact lw_eq C dL_law_816 (by decide) e1 (kk S2 L2 hR2)
theorem lc_23 (C : LC p s m meth c b Ln xs cT D) {i : Nat} (hi : i + 4 ≤ Ln) (hR : RR S L) (kk : ∀ (S' : gx_S) (L' : gx_L), RR S' L' → Lw p l e s m below meth c b ad cT D 1026 (nI i) [] S' L') : Lw p l e s m below meth c b ad cT D 821 (nI i) [] S L := by
  obtain ⟨D1, P1, hD1, hc1, h1⟩ := pr_leak S L hR ((xs (i + 1))) ((xs (i + 2))) ((if xs (i + 3) = 0 then 0 else 1))
  refine lw_a1 C dL_law_821 ?_
  refine lw_ld 1 C dL_law_822 dL_law_823 dL_law_824 dL_law_825 dL_law_826 (by decide) (by omega) ?_
  refine lw_ld 2 C dL_law_827 dL_law_828 dL_law_829 dL_law_830 dL_law_831 (by decide) (by omega) ?_
  refine lw_bl 3 C dL_law_832 dL_law_833 dL_law_834 dL_law_835 dL_law_836 (by decide) (by omega) dL_law_837 dL_law_840 dL_law_841 dL_law_844 ?_
  refine lw_call (M' := mX10_leak) (As := [.int (xs (i + 1)), .int (xs (i + 2)), .int (if xs (i + 3) = 0 then 0 else 1)]) (bb := 0) (st0 := []) C dL_law_845 lk_L_114 vX10_leak rfl rfl hc1 hD1 (Nat.le_of_ble_eq_true rfl) (fun v1 S1 L1 q1 => ?_)
  obtain ⟨r1, hv1, q1⟩ := q1
  subst hv1
  obtain ⟨D2, P2, hD2, hc2, h2⟩ := h1 r1 S1 L1 q1
  refine lw_a2 C dL_law_848 ?_
  refine lw_ld 1 C dL_law_849 dL_law_850 dL_law_851 dL_law_852 dL_law_853 (by decide) (by omega) ?_
  refine lw_ld 2 C dL_law_854 dL_law_855 dL_law_856 dL_law_857 dL_law_858 (by decide) (by omega) ?_
  refine lw_bl 3 C dL_law_859 dL_law_860 dL_law_861 dL_law_862 dL_law_863 (by decide) (by omega) dL_law_864 dL_law_867 dL_law_868 dL_law_871 ?_
  refine lw_call (M' := mX11_leak) (As := [.int (xs (i + 1)), .int (xs (i + 2)), .int (if xs (i + 3) = 0 then 0 else 1)]) (bb := 44) (st0 := [.int r1]) C dL_law_872 lk_L_118 vX11_leak rfl rfl hc2 hD2 (Nat.le_of_ble_eq_true rfl) (fun v2 S2 L2 q2 => ?_)
  obtain ⟨r2, hv2, q2⟩ := q2
  subst hv2
  obtain ⟨e1, hR2⟩ := h2 r2 S2 L2 q2
  exact lw_eq C dL_law_875 (by decide) e1 (kk S2 L2 hR2)
theorem lc_24 (C : LC p s m meth c b Ln xs cT D) {i : Nat} (hi : i + 4 ≤ Ln) (hR : RR S L) (kk : ∀ (S' : gx_S) (L' : gx_L), RR S' L' → Lw p l e s m below meth c b ad cT D 1026 (nI i) [] S' L') : Lw p l e s m below meth c b ad cT D 880 (nI i) [] S L := by
  obtain ⟨D1, P1, hD1, hc1, h1⟩ := pr_seed S L hR ((lval (xs (i + 1)) (xs (i + 2))))
  refine lw_a1 C dL_law_880 ?_
  refine lw_ll 1 2 C dL_law_881 dL_law_882 dL_law_883 dL_law_884 dL_law_885 (by decide) (by omega) dL_law_886 dL_law_887 dL_law_889 dL_law_890 dL_law_891 dL_law_892 dL_law_893 dL_law_894 (by decide) (by omega) dL_law_895 dL_law_896 dL_law_899 dL_law_900 ?_
  refine lw_call (M' := mX10_seed) (As := [.long (lval (xs (i + 1)) (xs (i + 2)))]) (bb := 0) (st0 := []) C dL_law_901 lk_L_119 vX10_seed rfl rfl hc1 hD1 (Nat.le_of_ble_eq_true rfl) (fun v1 S1 L1 q1 => ?_)
  obtain ⟨r1, hv1, q1⟩ := q1
  subst hv1
  obtain ⟨D2, P2, hD2, hc2, h2⟩ := h1 r1 S1 L1 q1
  refine lw_a2 C dL_law_904 ?_
  refine lw_ll 1 2 C dL_law_905 dL_law_906 dL_law_907 dL_law_908 dL_law_909 (by decide) (by omega) dL_law_910 dL_law_911 dL_law_913 dL_law_914 dL_law_915 dL_law_916 dL_law_917 dL_law_918 (by decide) (by omega) dL_law_919 dL_law_920 dL_law_923 dL_law_924 ?_
  refine lw_call (M' := mX11_seed) (As := [.long (lval (xs (i + 1)) (xs (i + 2)))]) (bb := 44) (st0 := [.long r1]) C dL_law_925 lk_L_123 vX11_seed rfl rfl hc2 hD2 (Nat.le_of_ble_eq_true rfl) (fun v2 S2 L2 q2 => ?_)
  obtain ⟨r2, hv2, q2⟩ := q2
  subst hv2
  obtain ⟨e1, hR2⟩ := h2 r2 S2 L2 q2
  exact lw_eql C dL_law_928 dL_law_929 (by decide) e1 (kk S2 L2 hR2)
theorem lc_25 (C : LC p s m meth c b Ln xs cT D) {i : Nat} (hi : i + 4 ≤ Ln) (hR : RR S L) (kk : ∀ (S' : gx_S) (L' : gx_L), RR S' L' → Lw p l e s m below meth c b ad cT D 1026 (nI i) [] S' L') : Lw p l e s m below meth c b ad cT D 934 (nI i) [] S L := by
  obtain ⟨D1, P1, hD1, hc1, h1⟩ := pr_nights S L hR ((xs (i + 1)))
  refine lw_a1 C dL_law_934 ?_
  refine lw_ld 1 C dL_law_935 dL_law_936 dL_law_937 dL_law_938 dL_law_939 (by decide) (by omega) ?_
  refine lw_call (M' := mX10_nights) (As := [.int (xs (i + 1))]) (bb := 0) (st0 := []) C dL_law_940 lk_L_124 vX10_nights rfl rfl hc1 hD1 (Nat.le_of_ble_eq_true rfl) (fun v1 S1 L1 q1 => ?_)
  obtain ⟨r1, hv1, q1⟩ := q1
  subst hv1
  obtain ⟨D2, P2, hD2, hc2, h2⟩ := h1 r1 S1 L1 q1
  refine lw_a2 C dL_law_943 ?_
  refine lw_ld 1 C dL_law_944 dL_law_945 dL_law_946 dL_law_947 dL_law_948 (by decide) (by omega) ?_
  refine lw_call (M' := mX11_nights) (As := [.int (xs (i + 1))]) (bb := 44) (st0 := [.int r1]) C dL_law_949 lk_L_127 vX11_nights rfl rfl hc2 hD2 (Nat.le_of_ble_eq_true rfl) (fun v2 S2 L2 q2 => ?_)
  obtain ⟨r2, hv2, q2⟩ := q2
  subst hv2
  obtain ⟨e1, hR2⟩ := h2 r2 S2 L2 q2
  exact lw_eq C dL_law_952 (by decide) e1 (kk S2 L2 hR2)
theorem lc_26 (C : LC p s m meth c b Ln xs cT D) {i : Nat} (hi : i + 4 ≤ Ln) (hR : RR S L) (kk : ∀ (S' : gx_S) (L' : gx_L), RR S' L' → Lw p l e s m below meth c b ad cT D 1026 (nI i) [] S' L') : Lw p l e s m below meth c b ad cT D 957 (nI i) [] S L := by
  obtain ⟨D1, P1, hD1, hc1, h1⟩ := pr_keep S L hR ((xs (i + 1)))
  refine lw_a1 C dL_law_957 ?_
  refine lw_ld 1 C dL_law_958 dL_law_959 dL_law_960 dL_law_961 dL_law_962 (by decide) (by omega) ?_
  refine lw_call (M' := mX10_keep) (As := [.int (xs (i + 1))]) (bb := 0) (st0 := []) C dL_law_963 lk_L_128 vX10_keep rfl rfl hc1 hD1 (Nat.le_of_ble_eq_true rfl) (fun v1 S1 L1 q1 => ?_)
  obtain ⟨r1, hv1, q1⟩ := q1
  subst hv1
  obtain ⟨D2, P2, hD2, hc2, h2⟩ := h1 r1 S1 L1 q1
  refine lw_a2 C dL_law_966 ?_
  refine lw_ld 1 C dL_law_967 dL_law_968 dL_law_969 dL_law_970 dL_law_971 (by decide) (by omega) ?_
  refine lw_call (M' := mX11_keep) (As := [.int (xs (i + 1))]) (bb := 44) (st0 := [.int r1]) C dL_law_972 lk_L_131 vX11_keep rfl rfl hc2 hD2 (Nat.le_of_ble_eq_true rfl) (fun v2 S2 L2 q2 => ?_)
  obtain ⟨r2, hv2, q2⟩ := q2
  subst hv2
  obtain ⟨e1, hR2⟩ := h2 r2 S2 L2 q2
  exact lw_eq C dL_law_975 (by decide) e1 (kk S2 L2 hR2)
theorem lc_27 (C : LC p s m meth c b Ln xs cT D) {i : Nat} (hi : i + 4 ≤ Ln) (hR : RR S L) (kk : ∀ (S' : gx_S) (L' : gx_L), RR S' L' → Lw p l e s m below meth c b ad cT D 1026 (nI i) [] S' L') : Lw p l e s m below meth c b ad cT D 980 (nI i) [] S L := by
  obtain ⟨D1, P1, hD1, hc1, h1⟩ := pr_again S L hR ((xs (i + 1)))
  refine lw_a1 C dL_law_980 ?_
  refine lw_ld 1 C dL_law_981 dL_law_982 dL_law_983 dL_law_984 dL_law_985 (by decide) (by omega) ?_
  refine lw_call (M' := mX10_again) (As := [.int (xs (i + 1))]) (bb := 0) (st0 := []) C dL_law_986 lk_L_132 vX10_again rfl rfl hc1 hD1 (Nat.le_of_ble_eq_true rfl) (fun v1 S1 L1 q1 => ?_)
  obtain ⟨r1, hv1, q1⟩ := q1
  subst hv1
  obtain ⟨D2, P2, hD2, hc2, h2⟩ := h1 r1 S1 L1 q1
  refine lw_a2 C dL_law_989 ?_
  refine lw_ld 1 C dL_law_990 dL_law_991 dL_law_992 dL_law_993 dL_law_994 (by decide) (by omega) ?_
  refine lw_call (M' := mX11_again) (As := [.int (xs (i + 1))]) (bb := 44) (st0 := [.int r1]) C dL_law_995 lk_L_135 vX11_again rfl rfl hc2 hD2 (Nat.le_of_ble_eq_true rfl) (fun v2 S2 L2 q2 => ?_)
  obtain ⟨r2, hv2, q2⟩ := q2
  subst hv2
  obtain ⟨e1, hR2⟩ := h2 r2 S2 L2 q2
  exact lw_eq C dL_law_998 (by decide) e1 (kk S2 L2 hR2)
theorem lc_28 (C : LC p s m meth c b Ln xs cT D) {i : Nat} (hi : i + 4 ≤ Ln) (hR : RR S L) (kk : ∀ (S' : gx_S) (L' : gx_L), RR S' L' → Lw p l e s m below meth c b ad cT D 1026 (nI i) [] S' L') : Lw p l e s m below meth c b ad cT D 1003 (nI i) [] S L := by
  obtain ⟨D1, P1, hD1, hc1, h1⟩ := pr_count S L hR ((xs (i + 1)))
  refine lw_a1 C dL_law_1003 ?_
  refine lw_ld 1 C dL_law_1004 dL_law_1005 dL_law_1006 dL_law_1007 dL_law_1008 (by decide) (by omega) ?_
  refine lw_call (M' := mX10_count) (As := [.int (xs (i + 1))]) (bb := 0) (st0 := []) C dL_law_1009 lk_L_136 vX10_count rfl rfl hc1 hD1 (Nat.le_of_ble_eq_true rfl) (fun v1 S1 L1 q1 => ?_)
  obtain ⟨r1, hv1, q1⟩ := q1
  subst hv1
  obtain ⟨D2, P2, hD2, hc2, h2⟩ := h1 r1 S1 L1 q1
  refine lw_a2 C dL_law_1012 ?_
  refine lw_ld 1 C dL_law_1013 dL_law_1014 dL_law_1015 dL_law_1016 dL_law_1017 (by decide) (by omega) ?_
  refine lw_call (M' := mX11_count) (As := [.int (xs (i + 1))]) (bb := 44) (st0 := [.int r1]) C dL_law_1018 lk_L_139 vX11_count rfl rfl hc2 hD2 (Nat.le_of_ble_eq_true rfl) (fun v2 S2 L2 q2 => ?_)
  obtain ⟨r2, hv2, q2⟩ := q2
  subst hv2
  obtain ⟨e1, hR2⟩ := h2 r2 S2 L2 q2
  exact lw_eq C dL_law_1021 (by decide) e1 (kk S2 L2 hR2)
end LWS
