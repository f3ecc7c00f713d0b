section GXU
variable {M : gx_M} {d pc : Nat} {loc : List (Option Value)} {st : List Value} {S : gx_S} {L : gx_L} {Q : Option Value → gx_S → gx_L → Prop}
/-! ===== fields and arrays ===== -/
theorem gx_field {ad : Nat → Nat} {cT : Nat → ClassId} {o ci k t : Nat} (h : gx_tp o ci k = some t) : ∃ fs : List Value, (gx_w ad cT S L)[o]? = some (ad o, .inr (ci, fs)) ∧ fs[k]? = some (gx_fv ad (S o) (L o) k t) := by
  obtain ⟨tm, h1, h2⟩ := gx_tp_spec h
  refine ⟨tm.mapIdx (fun j t => gx_fv ad (S o) (L o) j t), gx_w_get h1, ?_⟩
  rw [List.getElem?_mapIdx, h2]
  rfl
theorem ev_get {o ci k t idx : Nat} {v : Value} (hd : decode M.2.1 pc = .ok (.getfield idx, 3)) (hk : gx_FL M.1.cls idx ci k) (ht : gx_tp o ci k = some t) (hv : ∀ ad : Nat → Nat, gx_fv ad (S o) (L o) k t = gx_v ad v) (kk : Ev M d (pc + 3) loc (v :: st) S L Q) : Ev M d pc loc (.ref o :: st) S L Q := by
  intro p l e R s m args below meth c ad cT D A C H locs ls hP hD hS hl'
  obtain ⟨Cn, T, N, hc, hkN, hin, hl⟩ := hk
  obtain ⟨fs, h1, h2⟩ := gx_field (S := S) (L := L) (ad := ad) (cT := cT) ht
  have k1 := kk p l e R s m args below meth c ad cT D A C H locs ls hP hD hS hl'
  rw [hv ad] at h2
  rcases hl with hl | ⟨host, hl⟩
  · exact va_get (T := T) C.1 C.2.1 C.2.2.2.2.2.1 hin C.2.2.2.2.1 C.2.2.2.2.2.2.2.1 hP o h1 hc k hkN (C.2.2.2.2.2.1 _ hl) (fun _ h9 => h9) h2 hd k1
  · exact va_getN (T := T) C.1 C.2.1 C.2.2.2.2.2.1 hin C.2.2.2.2.1 C.2.2.2.2.2.2.2.1 hP o h1 hc k hkN (C.2.2.2.2.2.2.2.2.2.2.2.2.use hl) (fun _ h9 => h9) h2 hd k1
theorem ev_geti {o ci k idx : Nat} (hd : decode M.2.1 pc = .ok (.getfield idx, 3)) (hk : gx_FL M.1.cls idx ci k) (ht : gx_tp o ci k = some 0) (kk : Ev M d (pc + 3) loc (.int (S o k) :: st) S L Q) : Ev M d pc loc (.ref o :: st) S L Q := ev_get hd hk ht (fun _ => rfl) kk
theorem ev_getl {o ci k idx : Nat} (hd : decode M.2.1 pc = .ok (.getfield idx, 3)) (hk : gx_FL M.1.cls idx ci k) (ht : gx_tp o ci k = some 1) (kk : Ev M d (pc + 3) loc (.long (L o) :: st) S L Q) : Ev M d pc loc (.ref o :: st) S L Q := ev_get hd hk ht (fun _ => rfl) kk
theorem ev_getr {o ci k idx r : Nat} (hd : decode M.2.1 pc = .ok (.getfield idx, 3)) (hk : gx_FL M.1.cls idx ci k) (ht : gx_tp o ci k = some (r + 2)) (kk : Ev M d (pc + 3) loc (.ref r :: st) S L Q) : Ev M d pc loc (.ref o :: st) S L Q := ev_get hd hk ht (fun _ => rfl) kk
theorem gx_fs_set {ad : Nat → Nat} {f f' : Nat → Int32} {lg lg' : Int64} {tm : List Nat} {k t : Nat} (h : tm[k]? = some t) {v : Value} (hv : v = gx_fv ad f' lg' k t) (ho : ∀ j t', j ≠ k → tm[j]? = some t' → gx_fv ad f' lg' j t' = gx_fv ad f lg j t') : (tm.mapIdx (fun j t => gx_fv ad f lg j t)).set k v = tm.mapIdx (fun j t => gx_fv ad f' lg' j t) := by
  apply List.ext_getElem?
  intro i
  rw [List.getElem?_set, List.getElem?_mapIdx, List.getElem?_mapIdx]
  have hk : k < tm.length := (List.getElem?_eq_some_iff.mp h).1
  by_cases hi : k = i
  · subst hi
    rw [if_pos rfl, if_pos (by rw [List.length_mapIdx]; exact hk), h, hv]
    rfl
  · rw [if_neg hi]
    cases hti : tm[i]? with
    | none => rfl
    | some t' => exact (congrArg some (ho i t' (Ne.symm hi) hti)).symm
def gx_u2 (S : gx_S) (o k : Nat) (x : Int32) : gx_S := gx_up S o (upd (S o) k x)
theorem ev_puti {o ci k idx : Nat} {x : Int32} (hd : decode M.2.1 pc = .ok (.putfield idx, 3)) (hk : gx_FP M.1.cls idx ci k .int) (ht : gx_tp o ci k = some 0) (kk : Ev M d (pc + 3) loc st (gx_u2 S o k x) L Q) : Ev M d pc loc (.int x :: .ref o :: st) S L Q := by
  intro p l e R s m args below meth c ad cT D A C H locs ls hP hD hS hl'
  obtain ⟨Cn, T, N, ty0, hc, hkN, hin, hl, hty, hnm, hfin, hpd⟩ := hk
  obtain ⟨tm, h1, h2⟩ := gx_tp_spec ht
  have g1 := gx_w_get (ad := ad) (cT := cT) (S := S) (L := L) h1
  have hset : (gx_w ad cT S L).set o (ad o, .inr (ci, (tm.mapIdx (fun j t => gx_fv ad (S o) (L o) j t)).set k (.int x))) = gx_w ad cT (gx_u2 S o k x) L := by
    refine gx_w_set h1 ?_ (fun i hi => gx_up_ne S _ hi) (fun _ _ => rfl)
    have h3 : gx_u2 S o k x o = upd (S o) k x := gx_up_at S o _
    rw [h3]
    refine congrArg Sum.inr (congrArg (Prod.mk ci) (gx_fs_set h2 ?_ (fun j t' hj _ => ?_)))
    · show Value.int x = .int (upd (S o) k x k)
      unfold upd
      rw [if_pos rfl]
    · match t' with
      | 0 =>
        show Value.int (upd (S o) k x j) = .int (S o j)
        unfold upd
        rw [if_neg hj]
      | 1 => rfl
      | r + 2 => rfl
  have hlen : k < (tm.mapIdx (fun j t => gx_fv ad (S o) (L o) j t)).length := by
    rw [List.length_mapIdx]
    exact (List.getElem?_eq_some_iff.mp h2).1
  have k1 : ∀ (H1 : Heap) (locs1 : List Loc), va_P D vwCl ((gx_w ad cT S L).set o (ad o, .inr (ci, (tm.mapIdx (fun j t => gx_fv ad (S o) (L o) j t)).set k (.int x)))) H1 → va_D A ((gx_w ad cT S L).set o (ad o, .inr (ci, (tm.mapIdx (fun j t => gx_fv ad (S o) (L o) j t)).set k (.int x)))) → va_S A s.heap H1 locs1 → W p l e R s m args below meth c H1 locs1 0 0 (MQ below (gx_Qc ad cT D A Q) args s 0 0 A) (F0 m (pc + 3) ls (st.map (gx_v ad))) := by
    rw [hset]
    exact fun H1 locs1 a b e9 => kk p l e R s m args below meth c ad cT D A C H1 locs1 ls a b e9 hl'
  rcases hl with hl | ⟨host, hl⟩
  · exact va_put (T := T) C.1 C.2.1 C.2.2.2.2.2.1 hin ty0 hty hnm C.2.2.2.2.1 C.2.2.2.2.2.2.2.1 hP hD hS o g1 hc k hkN (C.2.2.2.2.2.1 _ hl) (fun _ h9 => h9) hfin hpd rfl rfl hlen hd k1
  · exact va_putN (T := T) C.1 C.2.1 C.2.2.2.2.2.1 hin ty0 hty hnm C.2.2.2.2.1 C.2.2.2.2.2.2.2.1 hP hD hS o g1 hc k hkN (C.2.2.2.2.2.2.2.2.2.2.2.2.use hl) (fun _ h9 => h9) hfin hpd rfl rfl hlen hd k1
theorem ev_putl {o ci k idx : Nat} {x : Int64} (hone : ∀ j t', j ≠ k → (∃ tm : List Nat, sh_all[o]? = some (.inr (ci, tm)) ∧ tm[j]? = some t') → t' ≠ 1) (hd : decode M.2.1 pc = .ok (.putfield idx, 3)) (hk : gx_FP M.1.cls idx ci k .long) (ht : gx_tp o ci k = some 1) (kk : Ev M d (pc + 3) loc st S (gx_uL L o x) Q) : Ev M d pc loc (.long x :: .ref o :: st) S L Q := by
  intro p l e R s m args below meth c ad cT D A C H locs ls hP hD hS hl'
  obtain ⟨Cn, T, N, ty0, hc, hkN, hin, hl, hty, hnm, hfin, hpd⟩ := hk
  obtain ⟨tm, h1, h2⟩ := gx_tp_spec ht
  have g1 := gx_w_get (ad := ad) (cT := cT) (S := S) (L := L) h1
  have hset : (gx_w ad cT S L).set o (ad o, .inr (ci, (tm.mapIdx (fun j t => gx_fv ad (S o) (L o) j t)).set k (.long x))) = gx_w ad cT S (gx_uL L o x) := by
    refine gx_w_set h1 ?_ (fun _ _ => rfl) (fun i hi => gx_uL_ne L _ hi)
    rw [gx_uL_at]
    refine congrArg Sum.inr (congrArg (Prod.mk ci) (gx_fs_set h2 rfl (fun j t' hj htj => ?_)))
    have hne := hone j t' hj ⟨tm, h1, htj⟩
    match t', hne with
    | 0, _ => rfl
    | 1, hne => exact absurd rfl hne
    | r + 2, _ => rfl
  have hlen : k < (tm.mapIdx (fun j t => gx_fv ad (S o) (L o) j t)).length := by
    rw [List.length_mapIdx]
    exact (List.getElem?_eq_some_iff.mp h2).1
  have k1 : ∀ (H1 : Heap) (locs1 : List Loc), va_P D vwCl ((gx_w ad cT S L).set o (ad o, .inr (ci, (tm.mapIdx (fun j t => gx_fv ad (S o) (L o) j t)).set k (.long x)))) H1 → va_D A ((gx_w ad cT S L).set o (ad o, .inr (ci, (tm.mapIdx (fun j t => gx_fv ad (S o) (L o) j t)).set k (.long x)))) → va_S A s.heap H1 locs1 → W p l e R s m args below meth c H1 locs1 0 0 (MQ below (gx_Qc ad cT D A Q) args s 0 0 A) (F0 m (pc + 3) ls (st.map (gx_v ad))) := by
    rw [hset]
    exact fun H1 locs1 a b e9 => kk p l e R s m args below meth c ad cT D A C H1 locs1 ls a b e9 hl'
  rcases hl with hl | ⟨host, hl⟩
  · exact va_put (T := T) C.1 C.2.1 C.2.2.2.2.2.1 hin ty0 hty hnm C.2.2.2.2.1 C.2.2.2.2.2.2.2.1 hP hD hS o g1 hc k hkN (C.2.2.2.2.2.1 _ hl) (fun _ h9 => h9) hfin hpd rfl rfl hlen hd k1
  · exact va_putN (T := T) C.1 C.2.1 C.2.2.2.2.2.1 hin ty0 hty hnm C.2.2.2.2.1 C.2.2.2.2.2.2.2.1 hP hD hS o g1 hc k hkN (C.2.2.2.2.2.2.2.2.2.2.2.2.use hl) (fun _ h9 => h9) hfin hpd rfl rfl hlen hd k1
theorem ev_iald {o n : Nat} {i : Int32} (hd : decode M.2.1 pc = .ok (.iaload, 1)) (ha : gx_ar o = some (0, n)) (hin : vp_in i n) (kk : Ev M d (pc + 1) loc (.int (S o i.toNatClampNeg) :: st) S L Q) : Ev M d pc loc (.int i :: .ref o :: st) S L Q := by
  intro p l e R s m args below meth c ad cT D A C H locs ls hP hD hS hl'
  exact va_iald C.1 C.2.1 C.2.2.2.2.2.2.2.1 hP o 0 (gx_w_get (gx_ar_spec ha)) rfl hin hd (kk p l e R s m args below meth c ad cT D A C H locs ls hP hD hS hl')
theorem ev_zald {o n : Nat} {i : Int32} (hd : decode M.2.1 pc = .ok (.baload, 1)) (ha : gx_ar o = some (1, n)) (hin : vp_in i n) (kk : Ev M d (pc + 1) loc (.int (S o i.toNatClampNeg) :: st) S L Q) : Ev M d pc loc (.int i :: .ref o :: st) S L Q := by
  intro p l e R s m args below meth c ad cT D A C H locs ls hP hD hS hl'
  exact va_zald C.1 C.2.1 C.2.2.2.2.2.2.2.1 hP o 1 (gx_w_get (gx_ar_spec ha)) rfl hin hd (kk p l e R s m args below meth c ad cT D A C H locs ls hP hD hS hl')
theorem ev_iast {o n : Nat} {i x : Int32} (hd : decode M.2.1 pc = .ok (.iastore, 1)) (ha : gx_ar o = some (0, n)) (hin : vp_in i n) (kk : Ev M d (pc + 1) loc st (gx_u2 S o i.toNatClampNeg x) L Q) : Ev M d pc loc (.int x :: .int i :: .ref o :: st) S L Q := by
  intro p l e R s m args below meth c ad cT D A C H locs ls hP hD hS hl'
  have g0 := gx_ar_spec ha
  have hset : (gx_w ad cT S L).set o (ad o, .inl (cT 0, n, .inl (upd (S o) i.toNatClampNeg x))) = gx_w ad cT (gx_u2 S o i.toNatClampNeg x) L := by
    refine gx_w_set g0 ?_ (fun i hi => gx_up_ne S _ hi) (fun _ _ => rfl)
    have h3 : gx_u2 S o i.toNatClampNeg x o = upd (S o) i.toNatClampNeg x := gx_up_at S o _
    rw [h3]
    rfl
  refine va_iast C.1 C.2.1 C.2.2.2.2.2.2.2.1 hP hD hS o 0 (gx_w_get g0) rfl hin hd ?_
  rw [hset]
  exact fun H1 locs1 a b e9 => kk p l e R s m args below meth c ad cT D A C H1 locs1 ls a b e9 hl'
theorem ev_zast {o n : Nat} {i x : Int32} (hd : decode M.2.1 pc = .ok (.bastore, 1)) (ha : gx_ar o = some (1, n)) (hin : vp_in i n) (kk : Ev M d (pc + 1) loc st (gx_u2 S o i.toNatClampNeg (vp_nar .boolean x)) L Q) : Ev M d pc loc (.int x :: .int i :: .ref o :: st) S L Q := by
  intro p l e R s m args below meth c ad cT D A C H locs ls hP hD hS hl'
  have g0 := gx_ar_spec ha
  have hset : (gx_w ad cT S L).set o (ad o, .inl (cT 1, n, .inl (upd (S o) i.toNatClampNeg (vp_nar .boolean x)))) = gx_w ad cT (gx_u2 S o i.toNatClampNeg (vp_nar .boolean x)) L := by
    refine gx_w_set g0 ?_ (fun i hi => gx_up_ne S _ hi) (fun _ _ => rfl)
    have h3 : gx_u2 S o i.toNatClampNeg (vp_nar .boolean x) o = upd (S o) i.toNatClampNeg (vp_nar .boolean x) := gx_up_at S o _
    rw [h3]
    rfl
  refine va_zast C.1 C.2.1 C.2.2.2.2.2.2.2.1 hP hD hS o 1 (gx_w_get g0) rfl hin hd ?_
  rw [hset]
  exact fun H1 locs1 a b e9 => kk p l e R s m args below meth c ad cT D A C H1 locs1 ls a b e9 hl'
/-! ===== an array's index as a number ===== -/
theorem ev_iald' {o n j : Nat} (hd : decode M.2.1 pc = .ok (.iaload, 1)) (ha : gx_ar o = some (0, n)) (hj : j < n) (hn : n < 2 ^ 31) (kk : Ev M d (pc + 1) loc (.int (S o j) :: st) S L Q) : Ev M d pc loc (.int (nI j) :: .ref o :: st) S L Q := by
  refine ev_iald hd ha (vp_in_nI hj hn) ?_
  rw [nI_clamp (Nat.lt_trans hj hn)]
  exact kk
theorem ev_iast' {o n j : Nat} {x : Int32} (hd : decode M.2.1 pc = .ok (.iastore, 1)) (ha : gx_ar o = some (0, n)) (hj : j < n) (hn : n < 2 ^ 31) (kk : Ev M d (pc + 1) loc st (gx_u2 S o j x) L Q) : Ev M d pc loc (.int x :: .int (nI j) :: .ref o :: st) S L Q := by
  refine ev_iast hd ha (vp_in_nI hj hn) ?_
  rw [nI_clamp (Nat.lt_trans hj hn)]
  exact kk
end GXU
