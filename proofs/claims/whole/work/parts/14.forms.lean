section GXW
variable {M M' : gx_M} {d d' pc idx b ci : Nat} {loc : List (Option Value)} {st : List Value} {S S' : gx_S} {L L' : gx_L} {Q : Option Value → gx_S → gx_L → Prop} {a1 a2 a3 a4 a5 a6 : Value} {P : Int32 → gx_S → gx_L → Prop} {Pl : Int64 → gx_S → gx_L → Prop} {Pv : gx_S → gx_L → Prop} {r : Int32} {rl : Int64}
/-- contracts by kind of answer; Cf, Cg, Cw: with the answer and the memory behind it -/
def Ci (d : Nat) (M : gx_M) (av : List Value) (S : gx_S) (L : gx_L) (P : Int32 → gx_S → gx_L → Prop) : Prop := Ct d M av S L (fun v S' L' => ∃ r : Int32, v = some (.int r) ∧ P r S' L')
def Cl (d : Nat) (M : gx_M) (av : List Value) (S : gx_S) (L : gx_L) (P : Int64 → gx_S → gx_L → Prop) : Prop := Ct d M av S L (fun v S' L' => ∃ r : Int64, v = some (.long r) ∧ P r S' L')
def Cv (d : Nat) (M : gx_M) (av : List Value) (S : gx_S) (L : gx_L) (P : gx_S → gx_L → Prop) : Prop := Ct d M av S L (fun v S' L' => v = none ∧ P S' L')
def Cf (d : Nat) (M : gx_M) (av : List Value) (S : gx_S) (L : gx_L) (r : Int32) (S' : gx_S) (L' : gx_L) : Prop := Ci d M av S L (fun r1 S1 L1 => r1 = r ∧ S1 = S' ∧ L1 = L')
def Cg (d : Nat) (M : gx_M) (av : List Value) (S : gx_S) (L : gx_L) (r : Int64) (S' : gx_S) (L' : gx_L) : Prop := Cl d M av S L (fun r1 S1 L1 => r1 = r ∧ S1 = S' ∧ L1 = L')
def Cw (d : Nat) (M : gx_M) (av : List Value) (S : gx_S) (L : gx_L) (S' : gx_S) (L' : gx_L) : Prop := Cv d M av S L (fun S1 L1 => S1 = S' ∧ L1 = L')
def gx_cl (b : Nat) : Option Nat := match sh_all[b]? with
  | some (.inr q) => some q.1
  | _ => none
/-- the class of a method, by its number -/
def gx_mc (M : gx_M) (ci : Nat) : Prop := ∃ q : vw_C, vwCl[ci]? = some q ∧ q.1 = M.1.cls
theorem gx_cl_spec (h : gx_cl b = some ci) : ∃ tm : List Nat, sh_all[b]? = some (.inr (ci, tm)) := by
  unfold gx_cl at h
  split at h
  · rename_i q hq
    cases h
    exact ⟨q.2, hq⟩
  · cases h
theorem ev_callV' {n : Nat} {As : List Value} {st0 : List Value} {Q' : Option Value → gx_S → gx_L → Prop} (hd : decode M.2.1 pc = .ok (.invokevirtual idx, 3)) (hk : gx_Lk M.1.cls idx M'.1) (hv : gx_MV M' n ∧ gx_mc M' ci) (hn : As.length = n) (hb : gx_cl b = some ci) (hst : st0 = As.reverse ++ .ref b :: st) (hct : Ct d' M' (.ref b :: As) S L Q') (hdd : d' + 1 ≤ d) (hcat : (st.map fun v => v.category).sum ≤ 8)
    (kk : ∀ (v : Option Value) (S' : gx_S) (L' : gx_L), Q' v S' L' → Ev M d (pc + 3) loc (v.toList ++ st) S' L' Q) : Ev M d pc loc st0 S L Q := by
  obtain ⟨tm, h1⟩ := gx_cl_spec hb
  obtain ⟨q, h2, h3⟩ := hv.2
  exact ev_callV_g hd hk hv.1 hn h1 h2 h3 hst hct hdd hcat kk
theorem ev_V0i (hd : decode M.2.1 pc = .ok (.invokevirtual idx, 3)) (hk : gx_Lk M.1.cls idx M'.1) (hv : gx_MV M' 0 ∧ gx_mc M' ci) (hb : gx_cl b = some ci) (hct : Cf d' M' [.ref b] S L r S' L') (hdd : d' + 1 ≤ d) (hcat : (st.map fun v => v.category).sum ≤ 8) (kk : Ev M d (pc + 3) loc (.int r :: st) S' L' Q) : Ev M d pc loc (.ref b :: st) S L Q := by
  refine ev_callV' (As := []) hd hk hv rfl hb rfl hct hdd hcat (fun v S9 L9 h9 => ?_)
  obtain ⟨_, rfl, rfl, rfl, rfl⟩ := h9
  exact kk
theorem ev_V0l (hd : decode M.2.1 pc = .ok (.invokevirtual idx, 3)) (hk : gx_Lk M.1.cls idx M'.1) (hv : gx_MV M' 0 ∧ gx_mc M' ci) (hb : gx_cl b = some ci) (hct : Cg d' M' [.ref b] S L rl S' L') (hdd : d' + 1 ≤ d) (hcat : (st.map fun v => v.category).sum ≤ 8) (kk : Ev M d (pc + 3) loc (.long rl :: st) S' L' Q) : Ev M d pc loc (.ref b :: st) S L Q := by
  refine ev_callV' (As := []) hd hk hv rfl hb rfl hct hdd hcat (fun v S9 L9 h9 => ?_)
  obtain ⟨_, rfl, rfl, rfl, rfl⟩ := h9
  exact kk
theorem ev_V0v (hd : decode M.2.1 pc = .ok (.invokevirtual idx, 3)) (hk : gx_Lk M.1.cls idx M'.1) (hv : gx_MV M' 0 ∧ gx_mc M' ci) (hb : gx_cl b = some ci) (hct : Cw d' M' [.ref b] S L S' L') (hdd : d' + 1 ≤ d) (hcat : (st.map fun v => v.category).sum ≤ 8) (kk : Ev M d (pc + 3) loc (st) S' L' Q) : Ev M d pc loc (.ref b :: st) S L Q := by
  refine ev_callV' (As := []) hd hk hv rfl hb rfl hct hdd hcat (fun v S9 L9 h9 => ?_)
  obtain ⟨rfl, rfl, rfl⟩ := h9
  exact kk
theorem ev_V0iq (hd : decode M.2.1 pc = .ok (.invokevirtual idx, 3)) (hk : gx_Lk M.1.cls idx M'.1) (hv : gx_MV M' 0 ∧ gx_mc M' ci) (hb : gx_cl b = some ci) (hct : Ci d' M' [.ref b] S L P) (hdd : d' + 1 ≤ d) (hcat : (st.map fun v => v.category).sum ≤ 8) (kk : ∀ (r9 : Int32) (S9 : gx_S) (L9 : gx_L), P r9 S9 L9 → Ev M d (pc + 3) loc (.int r9 :: st) S9 L9 Q) : Ev M d pc loc (.ref b :: st) S L Q := by
  refine ev_callV' (As := []) hd hk hv rfl hb rfl hct hdd hcat (fun v S9 L9 h9 => ?_)
  obtain ⟨r9, rfl, h9⟩ := h9
  exact kk r9 S9 L9 h9
theorem ev_V0vq (hd : decode M.2.1 pc = .ok (.invokevirtual idx, 3)) (hk : gx_Lk M.1.cls idx M'.1) (hv : gx_MV M' 0 ∧ gx_mc M' ci) (hb : gx_cl b = some ci) (hct : Cv d' M' [.ref b] S L Pv) (hdd : d' + 1 ≤ d) (hcat : (st.map fun v => v.category).sum ≤ 8) (kk : ∀ (S9 : gx_S) (L9 : gx_L), Pv S9 L9 → Ev M d (pc + 3) loc st S9 L9 Q) : Ev M d pc loc (.ref b :: st) S L Q := by
  refine ev_callV' (As := []) hd hk hv rfl hb rfl hct hdd hcat (fun v S9 L9 h9 => ?_)
  obtain ⟨rfl, h9⟩ := h9
  exact kk S9 L9 h9
theorem ev_V1i (hd : decode M.2.1 pc = .ok (.invokevirtual idx, 3)) (hk : gx_Lk M.1.cls idx M'.1) (hv : gx_MV M' 1 ∧ gx_mc M' ci) (hb : gx_cl b = some ci) (hct : Cf d' M' [.ref b, a1] S L r S' L') (hdd : d' + 1 ≤ d) (hcat : (st.map fun v => v.category).sum ≤ 8) (kk : Ev M d (pc + 3) loc (.int r :: st) S' L' Q) : Ev M d pc loc (a1 :: .ref b :: st) S L Q := by
  refine ev_callV' (As := [a1]) hd hk hv rfl hb rfl hct hdd hcat (fun v S9 L9 h9 => ?_)
  obtain ⟨_, rfl, rfl, rfl, rfl⟩ := h9
  exact kk
theorem ev_V1l (hd : decode M.2.1 pc = .ok (.invokevirtual idx, 3)) (hk : gx_Lk M.1.cls idx M'.1) (hv : gx_MV M' 1 ∧ gx_mc M' ci) (hb : gx_cl b = some ci) (hct : Cg d' M' [.ref b, a1] S L rl S' L') (hdd : d' + 1 ≤ d) (hcat : (st.map fun v => v.category).sum ≤ 8) (kk : Ev M d (pc + 3) loc (.long rl :: st) S' L' Q) : Ev M d pc loc (a1 :: .ref b :: st) S L Q := by
  refine ev_callV' (As := [a1]) hd hk hv rfl hb rfl hct hdd hcat (fun v S9 L9 h9 => ?_)
  obtain ⟨_, rfl, rfl, rfl, rfl⟩ := h9
  exact kk
theorem ev_V1v (hd : decode M.2.1 pc = .ok (.invokevirtual idx, 3)) (hk : gx_Lk M.1.cls idx M'.1) (hv : gx_MV M' 1 ∧ gx_mc M' ci) (hb : gx_cl b = some ci) (hct : Cw d' M' [.ref b, a1] S L S' L') (hdd : d' + 1 ≤ d) (hcat : (st.map fun v => v.category).sum ≤ 8) (kk : Ev M d (pc + 3) loc (st) S' L' Q) : Ev M d pc loc (a1 :: .ref b :: st) S L Q := by
  refine ev_callV' (As := [a1]) hd hk hv rfl hb rfl hct hdd hcat (fun v S9 L9 h9 => ?_)
  obtain ⟨rfl, rfl, rfl⟩ := h9
  exact kk
theorem ev_V1iq (hd : decode M.2.1 pc = .ok (.invokevirtual idx, 3)) (hk : gx_Lk M.1.cls idx M'.1) (hv : gx_MV M' 1 ∧ gx_mc M' ci) (hb : gx_cl b = some ci) (hct : Ci d' M' [.ref b, a1] S L P) (hdd : d' + 1 ≤ d) (hcat : (st.map fun v => v.category).sum ≤ 8) (kk : ∀ (r9 : Int32) (S9 : gx_S) (L9 : gx_L), P r9 S9 L9 → Ev M d (pc + 3) loc (.int r9 :: st) S9 L9 Q) : Ev M d pc loc (a1 :: .ref b :: st) S L Q := by
  refine ev_callV' (As := [a1]) hd hk hv rfl hb rfl hct hdd hcat (fun v S9 L9 h9 => ?_)
  obtain ⟨r9, rfl, h9⟩ := h9
  exact kk r9 S9 L9 h9
theorem ev_V1vq (hd : decode M.2.1 pc = .ok (.invokevirtual idx, 3)) (hk : gx_Lk M.1.cls idx M'.1) (hv : gx_MV M' 1 ∧ gx_mc M' ci) (hb : gx_cl b = some ci) (hct : Cv d' M' [.ref b, a1] S L Pv) (hdd : d' + 1 ≤ d) (hcat : (st.map fun v => v.category).sum ≤ 8) (kk : ∀ (S9 : gx_S) (L9 : gx_L), Pv S9 L9 → Ev M d (pc + 3) loc st S9 L9 Q) : Ev M d pc loc (a1 :: .ref b :: st) S L Q := by
  refine ev_callV' (As := [a1]) hd hk hv rfl hb rfl hct hdd hcat (fun v S9 L9 h9 => ?_)
  obtain ⟨rfl, h9⟩ := h9
  exact kk S9 L9 h9
theorem ev_V2i (hd : decode M.2.1 pc = .ok (.invokevirtual idx, 3)) (hk : gx_Lk M.1.cls idx M'.1) (hv : gx_MV M' 2 ∧ gx_mc M' ci) (hb : gx_cl b = some ci) (hct : Cf d' M' [.ref b, a1, a2] S L r S' L') (hdd : d' + 1 ≤ d) (hcat : (st.map fun v => v.category).sum ≤ 8) (kk : Ev M d (pc + 3) loc (.int r :: st) S' L' Q) : Ev M d pc loc (a2 :: a1 :: .ref b :: st) S L Q := by
  refine ev_callV' (As := [a1, a2]) hd hk hv rfl hb rfl hct hdd hcat (fun v S9 L9 h9 => ?_)
  obtain ⟨_, rfl, rfl, rfl, rfl⟩ := h9
  exact kk
theorem ev_V2l (hd : decode M.2.1 pc = .ok (.invokevirtual idx, 3)) (hk : gx_Lk M.1.cls idx M'.1) (hv : gx_MV M' 2 ∧ gx_mc M' ci) (hb : gx_cl b = some ci) (hct : Cg d' M' [.ref b, a1, a2] S L rl S' L') (hdd : d' + 1 ≤ d) (hcat : (st.map fun v => v.category).sum ≤ 8) (kk : Ev M d (pc + 3) loc (.long rl :: st) S' L' Q) : Ev M d pc loc (a2 :: a1 :: .ref b :: st) S L Q := by
  refine ev_callV' (As := [a1, a2]) hd hk hv rfl hb rfl hct hdd hcat (fun v S9 L9 h9 => ?_)
  obtain ⟨_, rfl, rfl, rfl, rfl⟩ := h9
  exact kk
theorem ev_V2v (hd : decode M.2.1 pc = .ok (.invokevirtual idx, 3)) (hk : gx_Lk M.1.cls idx M'.1) (hv : gx_MV M' 2 ∧ gx_mc M' ci) (hb : gx_cl b = some ci) (hct : Cw d' M' [.ref b, a1, a2] S L S' L') (hdd : d' + 1 ≤ d) (hcat : (st.map fun v => v.category).sum ≤ 8) (kk : Ev M d (pc + 3) loc (st) S' L' Q) : Ev M d pc loc (a2 :: a1 :: .ref b :: st) S L Q := by
  refine ev_callV' (As := [a1, a2]) hd hk hv rfl hb rfl hct hdd hcat (fun v S9 L9 h9 => ?_)
  obtain ⟨rfl, rfl, rfl⟩ := h9
  exact kk
theorem ev_V2iq (hd : decode M.2.1 pc = .ok (.invokevirtual idx, 3)) (hk : gx_Lk M.1.cls idx M'.1) (hv : gx_MV M' 2 ∧ gx_mc M' ci) (hb : gx_cl b = some ci) (hct : Ci d' M' [.ref b, a1, a2] S L P) (hdd : d' + 1 ≤ d) (hcat : (st.map fun v => v.category).sum ≤ 8) (kk : ∀ (r9 : Int32) (S9 : gx_S) (L9 : gx_L), P r9 S9 L9 → Ev M d (pc + 3) loc (.int r9 :: st) S9 L9 Q) : Ev M d pc loc (a2 :: a1 :: .ref b :: st) S L Q := by
  refine ev_callV' (As := [a1, a2]) hd hk hv rfl hb rfl hct hdd hcat (fun v S9 L9 h9 => ?_)
  obtain ⟨r9, rfl, h9⟩ := h9
  exact kk r9 S9 L9 h9
theorem ev_V2vq (hd : decode M.2.1 pc = .ok (.invokevirtual idx, 3)) (hk : gx_Lk M.1.cls idx M'.1) (hv : gx_MV M' 2 ∧ gx_mc M' ci) (hb : gx_cl b = some ci) (hct : Cv d' M' [.ref b, a1, a2] S L Pv) (hdd : d' + 1 ≤ d) (hcat : (st.map fun v => v.category).sum ≤ 8) (kk : ∀ (S9 : gx_S) (L9 : gx_L), Pv S9 L9 → Ev M d (pc + 3) loc st S9 L9 Q) : Ev M d pc loc (a2 :: a1 :: .ref b :: st) S L Q := by
  refine ev_callV' (As := [a1, a2]) hd hk hv rfl hb rfl hct hdd hcat (fun v S9 L9 h9 => ?_)
  obtain ⟨rfl, h9⟩ := h9
  exact kk S9 L9 h9
theorem ev_V3i (hd : decode M.2.1 pc = .ok (.invokevirtual idx, 3)) (hk : gx_Lk M.1.cls idx M'.1) (hv : gx_MV M' 3 ∧ gx_mc M' ci) (hb : gx_cl b = some ci) (hct : Cf d' M' [.ref b, a1, a2, a3] S L r S' L') (hdd : d' + 1 ≤ d) (hcat : (st.map fun v => v.category).sum ≤ 8) (kk : Ev M d (pc + 3) loc (.int r :: st) S' L' Q) : Ev M d pc loc (a3 :: a2 :: a1 :: .ref b :: st) S L Q := by
  refine ev_callV' (As := [a1, a2, a3]) hd hk hv rfl hb rfl hct hdd hcat (fun v S9 L9 h9 => ?_)
  obtain ⟨_, rfl, rfl, rfl, rfl⟩ := h9
  exact kk
theorem ev_V3l (hd : decode M.2.1 pc = .ok (.invokevirtual idx, 3)) (hk : gx_Lk M.1.cls idx M'.1) (hv : gx_MV M' 3 ∧ gx_mc M' ci) (hb : gx_cl b = some ci) (hct : Cg d' M' [.ref b, a1, a2, a3] S L rl S' L') (hdd : d' + 1 ≤ d) (hcat : (st.map fun v => v.category).sum ≤ 8) (kk : Ev M d (pc + 3) loc (.long rl :: st) S' L' Q) : Ev M d pc loc (a3 :: a2 :: a1 :: .ref b :: st) S L Q := by
  refine ev_callV' (As := [a1, a2, a3]) hd hk hv rfl hb rfl hct hdd hcat (fun v S9 L9 h9 => ?_)
  obtain ⟨_, rfl, rfl, rfl, rfl⟩ := h9
  exact kk
theorem ev_V3v (hd : decode M.2.1 pc = .ok (.invokevirtual idx, 3)) (hk : gx_Lk M.1.cls idx M'.1) (hv : gx_MV M' 3 ∧ gx_mc M' ci) (hb : gx_cl b = some ci) (hct : Cw d' M' [.ref b, a1, a2, a3] S L S' L') (hdd : d' + 1 ≤ d) (hcat : (st.map fun v => v.category).sum ≤ 8) (kk : Ev M d (pc + 3) loc (st) S' L' Q) : Ev M d pc loc (a3 :: a2 :: a1 :: .ref b :: st) S L Q := by
  refine ev_callV' (As := [a1, a2, a3]) hd hk hv rfl hb rfl hct hdd hcat (fun v S9 L9 h9 => ?_)
  obtain ⟨rfl, rfl, rfl⟩ := h9
  exact kk
theorem ev_V3iq (hd : decode M.2.1 pc = .ok (.invokevirtual idx, 3)) (hk : gx_Lk M.1.cls idx M'.1) (hv : gx_MV M' 3 ∧ gx_mc M' ci) (hb : gx_cl b = some ci) (hct : Ci d' M' [.ref b, a1, a2, a3] S L P) (hdd : d' + 1 ≤ d) (hcat : (st.map fun v => v.category).sum ≤ 8) (kk : ∀ (r9 : Int32) (S9 : gx_S) (L9 : gx_L), P r9 S9 L9 → Ev M d (pc + 3) loc (.int r9 :: st) S9 L9 Q) : Ev M d pc loc (a3 :: a2 :: a1 :: .ref b :: st) S L Q := by
  refine ev_callV' (As := [a1, a2, a3]) hd hk hv rfl hb rfl hct hdd hcat (fun v S9 L9 h9 => ?_)
  obtain ⟨r9, rfl, h9⟩ := h9
  exact kk r9 S9 L9 h9
theorem ev_V3vq (hd : decode M.2.1 pc = .ok (.invokevirtual idx, 3)) (hk : gx_Lk M.1.cls idx M'.1) (hv : gx_MV M' 3 ∧ gx_mc M' ci) (hb : gx_cl b = some ci) (hct : Cv d' M' [.ref b, a1, a2, a3] S L Pv) (hdd : d' + 1 ≤ d) (hcat : (st.map fun v => v.category).sum ≤ 8) (kk : ∀ (S9 : gx_S) (L9 : gx_L), Pv S9 L9 → Ev M d (pc + 3) loc st S9 L9 Q) : Ev M d pc loc (a3 :: a2 :: a1 :: .ref b :: st) S L Q := by
  refine ev_callV' (As := [a1, a2, a3]) hd hk hv rfl hb rfl hct hdd hcat (fun v S9 L9 h9 => ?_)
  obtain ⟨rfl, h9⟩ := h9
  exact kk S9 L9 h9
theorem ev_V4i (hd : decode M.2.1 pc = .ok (.invokevirtual idx, 3)) (hk : gx_Lk M.1.cls idx M'.1) (hv : gx_MV M' 4 ∧ gx_mc M' ci) (hb : gx_cl b = some ci) (hct : Cf d' M' [.ref b, a1, a2, a3, a4] S L r S' L') (hdd : d' + 1 ≤ d) (hcat : (st.map fun v => v.category).sum ≤ 8) (kk : Ev M d (pc + 3) loc (.int r :: st) S' L' Q) : Ev M d pc loc (a4 :: a3 :: a2 :: a1 :: .ref b :: st) S L Q := by
  refine ev_callV' (As := [a1, a2, a3, a4]) hd hk hv rfl hb rfl hct hdd hcat (fun v S9 L9 h9 => ?_)
  obtain ⟨_, rfl, rfl, rfl, rfl⟩ := h9
  exact kk
theorem ev_V4l (hd : decode M.2.1 pc = .ok (.invokevirtual idx, 3)) (hk : gx_Lk M.1.cls idx M'.1) (hv : gx_MV M' 4 ∧ gx_mc M' ci) (hb : gx_cl b = some ci) (hct : Cg d' M' [.ref b, a1, a2, a3, a4] S L rl S' L') (hdd : d' + 1 ≤ d) (hcat : (st.map fun v => v.category).sum ≤ 8) (kk : Ev M d (pc + 3) loc (.long rl :: st) S' L' Q) : Ev M d pc loc (a4 :: a3 :: a2 :: a1 :: .ref b :: st) S L Q := by
  refine ev_callV' (As := [a1, a2, a3, a4]) hd hk hv rfl hb rfl hct hdd hcat (fun v S9 L9 h9 => ?_)
  obtain ⟨_, rfl, rfl, rfl, rfl⟩ := h9
  exact kk
theorem ev_V4v (hd : decode M.2.1 pc = .ok (.invokevirtual idx, 3)) (hk : gx_Lk M.1.cls idx M'.1) (hv : gx_MV M' 4 ∧ gx_mc M' ci) (hb : gx_cl b = some ci) (hct : Cw d' M' [.ref b, a1, a2, a3, a4] S L S' L') (hdd : d' + 1 ≤ d) (hcat : (st.map fun v => v.category).sum ≤ 8) (kk : Ev M d (pc + 3) loc (st) S' L' Q) : Ev M d pc loc (a4 :: a3 :: a2 :: a1 :: .ref b :: st) S L Q := by
  refine ev_callV' (As := [a1, a2, a3, a4]) hd hk hv rfl hb rfl hct hdd hcat (fun v S9 L9 h9 => ?_)
  obtain ⟨rfl, rfl, rfl⟩ := h9
  exact kk
theorem ev_V4iq (hd : decode M.2.1 pc = .ok (.invokevirtual idx, 3)) (hk : gx_Lk M.1.cls idx M'.1) (hv : gx_MV M' 4 ∧ gx_mc M' ci) (hb : gx_cl b = some ci) (hct : Ci d' M' [.ref b, a1, a2, a3, a4] S L P) (hdd : d' + 1 ≤ d) (hcat : (st.map fun v => v.category).sum ≤ 8) (kk : ∀ (r9 : Int32) (S9 : gx_S) (L9 : gx_L), P r9 S9 L9 → Ev M d (pc + 3) loc (.int r9 :: st) S9 L9 Q) : Ev M d pc loc (a4 :: a3 :: a2 :: a1 :: .ref b :: st) S L Q := by
  refine ev_callV' (As := [a1, a2, a3, a4]) hd hk hv rfl hb rfl hct hdd hcat (fun v S9 L9 h9 => ?_)
  obtain ⟨r9, rfl, h9⟩ := h9
  exact kk r9 S9 L9 h9
theorem ev_V4vq (hd : decode M.2.1 pc = .ok (.invokevirtual idx, 3)) (hk : gx_Lk M.1.cls idx M'.1) (hv : gx_MV M' 4 ∧ gx_mc M' ci) (hb : gx_cl b = some ci) (hct : Cv d' M' [.ref b, a1, a2, a3, a4] S L Pv) (hdd : d' + 1 ≤ d) (hcat : (st.map fun v => v.category).sum ≤ 8) (kk : ∀ (S9 : gx_S) (L9 : gx_L), Pv S9 L9 → Ev M d (pc + 3) loc st S9 L9 Q) : Ev M d pc loc (a4 :: a3 :: a2 :: a1 :: .ref b :: st) S L Q := by
  refine ev_callV' (As := [a1, a2, a3, a4]) hd hk hv rfl hb rfl hct hdd hcat (fun v S9 L9 h9 => ?_)
  obtain ⟨rfl, h9⟩ := h9
  exact kk S9 L9 h9
theorem ev_V5i (hd : decode M.2.1 pc = .ok (.invokevirtual idx, 3)) (hk : gx_Lk M.1.cls idx M'.1) (hv : gx_MV M' 5 ∧ gx_mc M' ci) (hb : gx_cl b = some ci) (hct : Cf d' M' [.ref b, a1, a2, a3, a4, a5] S L r S' L') (hdd : d' + 1 ≤ d) (hcat : (st.map fun v => v.category).sum ≤ 8) (kk : Ev M d (pc + 3) loc (.int r :: st) S' L' Q) : Ev M d pc loc (a5 :: a4 :: a3 :: a2 :: a1 :: .ref b :: st) S L Q := by
  refine ev_callV' (As := [a1, a2, a3, a4, a5]) hd hk hv rfl hb rfl hct hdd hcat (fun v S9 L9 h9 => ?_)
  obtain ⟨_, rfl, rfl, rfl, rfl⟩ := h9
  exact kk
theorem ev_V5l (hd : decode M.2.1 pc = .ok (.invokevirtual idx, 3)) (hk : gx_Lk M.1.cls idx M'.1) (hv : gx_MV M' 5 ∧ gx_mc M' ci) (hb : gx_cl b = some ci) (hct : Cg d' M' [.ref b, a1, a2, a3, a4, a5] S L rl S' L') (hdd : d' + 1 ≤ d) (hcat : (st.map fun v => v.category).sum ≤ 8) (kk : Ev M d (pc + 3) loc (.long rl :: st) S' L' Q) : Ev M d pc loc (a5 :: a4 :: a3 :: a2 :: a1 :: .ref b :: st) S L Q := by
  refine ev_callV' (As := [a1, a2, a3, a4, a5]) hd hk hv rfl hb rfl hct hdd hcat (fun v S9 L9 h9 => ?_)
  obtain ⟨_, rfl, rfl, rfl, rfl⟩ := h9
  exact kk
theorem ev_V5v (hd : decode M.2.1 pc = .ok (.invokevirtual idx, 3)) (hk : gx_Lk M.1.cls idx M'.1) (hv : gx_MV M' 5 ∧ gx_mc M' ci) (hb : gx_cl b = some ci) (hct : Cw d' M' [.ref b, a1, a2, a3, a4, a5] S L S' L') (hdd : d' + 1 ≤ d) (hcat : (st.map fun v => v.category).sum ≤ 8) (kk : Ev M d (pc + 3) loc (st) S' L' Q) : Ev M d pc loc (a5 :: a4 :: a3 :: a2 :: a1 :: .ref b :: st) S L Q := by
  refine ev_callV' (As := [a1, a2, a3, a4, a5]) hd hk hv rfl hb rfl hct hdd hcat (fun v S9 L9 h9 => ?_)
  obtain ⟨rfl, rfl, rfl⟩ := h9
  exact kk
theorem ev_V5iq (hd : decode M.2.1 pc = .ok (.invokevirtual idx, 3)) (hk : gx_Lk M.1.cls idx M'.1) (hv : gx_MV M' 5 ∧ gx_mc M' ci) (hb : gx_cl b = some ci) (hct : Ci d' M' [.ref b, a1, a2, a3, a4, a5] S L P) (hdd : d' + 1 ≤ d) (hcat : (st.map fun v => v.category).sum ≤ 8) (kk : ∀ (r9 : Int32) (S9 : gx_S) (L9 : gx_L), P r9 S9 L9 → Ev M d (pc + 3) loc (.int r9 :: st) S9 L9 Q) : Ev M d pc loc (a5 :: a4 :: a3 :: a2 :: a1 :: .ref b :: st) S L Q := by
  refine ev_callV' (As := [a1, a2, a3, a4, a5]) hd hk hv rfl hb rfl hct hdd hcat (fun v S9 L9 h9 => ?_)
  obtain ⟨r9, rfl, h9⟩ := h9
  exact kk r9 S9 L9 h9
theorem ev_V5vq (hd : decode M.2.1 pc = .ok (.invokevirtual idx, 3)) (hk : gx_Lk M.1.cls idx M'.1) (hv : gx_MV M' 5 ∧ gx_mc M' ci) (hb : gx_cl b = some ci) (hct : Cv d' M' [.ref b, a1, a2, a3, a4, a5] S L Pv) (hdd : d' + 1 ≤ d) (hcat : (st.map fun v => v.category).sum ≤ 8) (kk : ∀ (S9 : gx_S) (L9 : gx_L), Pv S9 L9 → Ev M d (pc + 3) loc st S9 L9 Q) : Ev M d pc loc (a5 :: a4 :: a3 :: a2 :: a1 :: .ref b :: st) S L Q := by
  refine ev_callV' (As := [a1, a2, a3, a4, a5]) hd hk hv rfl hb rfl hct hdd hcat (fun v S9 L9 h9 => ?_)
  obtain ⟨rfl, h9⟩ := h9
  exact kk S9 L9 h9
theorem ev_S1i (hd : decode M.2.1 pc = .ok (.invokestatic idx, 3)) (hk : gx_Lk M.1.cls idx M'.1) (hv : gx_MS M' 1) (hct : Cf d' M' [a1] S L r S' L') (hdd : d' + 1 ≤ d) (hcat : (st.map fun v => v.category).sum ≤ 8) (kk : Ev M d (pc + 3) loc (.int r :: st) S' L' Q) : Ev M d pc loc (a1 :: st) S L Q := by
  refine ev_callS_g (As := [a1]) hd hk hv rfl rfl hct hdd hcat (fun v S9 L9 h9 => ?_)
  obtain ⟨_, rfl, rfl, rfl, rfl⟩ := h9
  exact kk
theorem ev_S1l (hd : decode M.2.1 pc = .ok (.invokestatic idx, 3)) (hk : gx_Lk M.1.cls idx M'.1) (hv : gx_MS M' 1) (hct : Cg d' M' [a1] S L rl S' L') (hdd : d' + 1 ≤ d) (hcat : (st.map fun v => v.category).sum ≤ 8) (kk : Ev M d (pc + 3) loc (.long rl :: st) S' L' Q) : Ev M d pc loc (a1 :: st) S L Q := by
  refine ev_callS_g (As := [a1]) hd hk hv rfl rfl hct hdd hcat (fun v S9 L9 h9 => ?_)
  obtain ⟨_, rfl, rfl, rfl, rfl⟩ := h9
  exact kk
theorem ev_S2i (hd : decode M.2.1 pc = .ok (.invokestatic idx, 3)) (hk : gx_Lk M.1.cls idx M'.1) (hv : gx_MS M' 2) (hct : Cf d' M' [a1, a2] S L r S' L') (hdd : d' + 1 ≤ d) (hcat : (st.map fun v => v.category).sum ≤ 8) (kk : Ev M d (pc + 3) loc (.int r :: st) S' L' Q) : Ev M d pc loc (a2 :: a1 :: st) S L Q := by
  refine ev_callS_g (As := [a1, a2]) hd hk hv rfl rfl hct hdd hcat (fun v S9 L9 h9 => ?_)
  obtain ⟨_, rfl, rfl, rfl, rfl⟩ := h9
  exact kk
theorem ev_S2l (hd : decode M.2.1 pc = .ok (.invokestatic idx, 3)) (hk : gx_Lk M.1.cls idx M'.1) (hv : gx_MS M' 2) (hct : Cg d' M' [a1, a2] S L rl S' L') (hdd : d' + 1 ≤ d) (hcat : (st.map fun v => v.category).sum ≤ 8) (kk : Ev M d (pc + 3) loc (.long rl :: st) S' L' Q) : Ev M d pc loc (a2 :: a1 :: st) S L Q := by
  refine ev_callS_g (As := [a1, a2]) hd hk hv rfl rfl hct hdd hcat (fun v S9 L9 h9 => ?_)
  obtain ⟨_, rfl, rfl, rfl, rfl⟩ := h9
  exact kk
theorem ev_S3i (hd : decode M.2.1 pc = .ok (.invokestatic idx, 3)) (hk : gx_Lk M.1.cls idx M'.1) (hv : gx_MS M' 3) (hct : Cf d' M' [a1, a2, a3] S L r S' L') (hdd : d' + 1 ≤ d) (hcat : (st.map fun v => v.category).sum ≤ 8) (kk : Ev M d (pc + 3) loc (.int r :: st) S' L' Q) : Ev M d pc loc (a3 :: a2 :: a1 :: st) S L Q := by
  refine ev_callS_g (As := [a1, a2, a3]) hd hk hv rfl rfl hct hdd hcat (fun v S9 L9 h9 => ?_)
  obtain ⟨_, rfl, rfl, rfl, rfl⟩ := h9
  exact kk
theorem ev_S3l (hd : decode M.2.1 pc = .ok (.invokestatic idx, 3)) (hk : gx_Lk M.1.cls idx M'.1) (hv : gx_MS M' 3) (hct : Cg d' M' [a1, a2, a3] S L rl S' L') (hdd : d' + 1 ≤ d) (hcat : (st.map fun v => v.category).sum ≤ 8) (kk : Ev M d (pc + 3) loc (.long rl :: st) S' L' Q) : Ev M d pc loc (a3 :: a2 :: a1 :: st) S L Q := by
  refine ev_callS_g (As := [a1, a2, a3]) hd hk hv rfl rfl hct hdd hcat (fun v S9 L9 h9 => ?_)
  obtain ⟨_, rfl, rfl, rfl, rfl⟩ := h9
  exact kk
theorem gx_cat {st : List Value} (ad : Nat → Nat) (h : (st.map fun v => v.category).sum ≤ 8) : ((st.map (gx_v ad)).map fun v => v.category).sum ≤ 8 := by
  have : (st.map (gx_v ad)).map (fun v => v.category) = st.map (fun v => v.category) := by
    rw [List.map_map]
    exact List.map_congr_left (fun v _ => gx_v_cat ad v)
  rw [this]
  exact h
theorem gx_max_w : Cond.static Lib.Math.max.name ∈ gw_tbl ∧ Cond.initialized "java/lang/Math" ∈ gw_tbl ∧ Cond.code Lib.Math.max.name Lib.Math.max.code 2 (some .int) ∈ gw_tbl := ⟨gw_in 200 (by decide +kernel) (by decide +kernel), gw_in 55 (by decide +kernel) (by decide +kernel), gw_in 201 (by decide +kernel) (by decide +kernel)⟩
theorem ev_max {x y : Int32} (hd : decode M.2.1 pc = .ok (.invokestatic idx, 3)) (hk : Cond.methodLink M.1.cls idx Lib.Math.max.name ∈ gw_tbl) (hdd : 1 ≤ d) (hcat : (st.map fun v => v.category).sum ≤ 8) (kk : Ev M d (pc + 3) loc (.int (if x < y then y else x) :: st) S L Q) : Ev M d pc loc (.int y :: .int x :: st) S L Q := by
  intro p l e R s m args below meth c ad cT D A C H locs ls hP hD hS hl'
  obtain ⟨c1, c2, c3, c4, c5, c6, c7, c8, c9, c10, c11, c12, c13⟩ := C
  have hcat' : ((st.map (gx_v ad)).map fun v => v.category).sum ≤ 8 := gx_cat ad hcat
  exact va_mmax c1 c2 (c3.trans hl'.1.symm) c5 (c6 _ hk) (c6 _ gx_max_w.1) (c6 _ gx_max_w.2.1) (c6 _ gx_max_w.2.2) (Nat.le_trans hdd c10) (by omega) (Nat.zero_le _) (Nat.zero_le _) hd (kk p l e R s m args below meth c ad cT D A ⟨c1, c2, c3, c4, c5, c6, c7, c8, c9, c10, c11, c12, c13⟩ H locs ls hP hD hS hl')
theorem gx_min_w : Cond.static Lib.Math.min.name ∈ gw_tbl ∧ Cond.initialized "java/lang/Math" ∈ gw_tbl ∧ Cond.code Lib.Math.min.name Lib.Math.min.code 2 (some .int) ∈ gw_tbl := ⟨gw_in 505 (by decide +kernel) (by decide +kernel), gw_in 55 (by decide +kernel) (by decide +kernel), gw_in 506 (by decide +kernel) (by decide +kernel)⟩
theorem ev_min {x y : Int32} (hd : decode M.2.1 pc = .ok (.invokestatic idx, 3)) (hk : Cond.methodLink M.1.cls idx Lib.Math.min.name ∈ gw_tbl) (hdd : 1 ≤ d) (hcat : (st.map fun v => v.category).sum ≤ 8) (kk : Ev M d (pc + 3) loc (.int (if y < x then y else x) :: st) S L Q) : Ev M d pc loc (.int y :: .int x :: st) S L Q := by
  intro p l e R s m args below meth c ad cT D A C H locs ls hP hD hS hl'
  obtain ⟨c1, c2, c3, c4, c5, c6, c7, c8, c9, c10, c11, c12, c13⟩ := C
  have hcat' : ((st.map (gx_v ad)).map fun v => v.category).sum ≤ 8 := gx_cat ad hcat
  exact va_mmin c1 c2 (c3.trans hl'.1.symm) c5 (c6 _ hk) (c6 _ gx_min_w.1) (c6 _ gx_min_w.2.1) (c6 _ gx_min_w.2.2) (Nat.le_trans hdd c10) (by omega) (Nat.zero_le _) (Nat.zero_le _) hd (kk p l e R s m args below meth c ad cT D A ⟨c1, c2, c3, c4, c5, c6, c7, c8, c9, c10, c11, c12, c13⟩ H locs ls hP hD hS hl')
theorem gx_abs_w : Cond.static Lib.Math.abs.name ∈ gw_tbl ∧ Cond.initialized "java/lang/Math" ∈ gw_tbl ∧ Cond.code Lib.Math.abs.name Lib.Math.abs.code 1 (some .int) ∈ gw_tbl := ⟨gw_in 743 (by decide +kernel) (by decide +kernel), gw_in 55 (by decide +kernel) (by decide +kernel), gw_in 744 (by decide +kernel) (by decide +kernel)⟩
theorem ev_abs {x : Int32} (hd : decode M.2.1 pc = .ok (.invokestatic idx, 3)) (hk : Cond.methodLink M.1.cls idx Lib.Math.abs.name ∈ gw_tbl) (hdd : 1 ≤ d) (hcat : (st.map fun v => v.category).sum ≤ 8) (kk : Ev M d (pc + 3) loc (.int (if 0 ≤ x then x else 0 - x) :: st) S L Q) : Ev M d pc loc (.int x :: st) S L Q := by
  intro p l e R s m args below meth c ad cT D A C H locs ls hP hD hS hl'
  obtain ⟨c1, c2, c3, c4, c5, c6, c7, c8, c9, c10, c11, c12, c13⟩ := C
  have hcat' : ((st.map (gx_v ad)).map fun v => v.category).sum ≤ 8 := gx_cat ad hcat
  exact va_mabs c1 c2 (c3.trans hl'.1.symm) c5 (c6 _ hk) (c6 _ gx_abs_w.1) (c6 _ gx_abs_w.2.1) (c6 _ gx_abs_w.2.2) (Nat.le_trans hdd c10) (by omega) (Nat.zero_le _) (Nat.zero_le _) hd (kk p l e R s m args below meth c ad cT D A ⟨c1, c2, c3, c4, c5, c6, c7, c8, c9, c10, c11, c12, c13⟩ H locs ls hP hD hS hl')
theorem gx_maxl_w : Cond.static Lib.MathLoose.max_long.x ∈ gw_tbl ∧ Cond.initialized "java/lang/Math" ∈ gw_tbl ∧ Cond.code Lib.MathLoose.max_long.x Lib.MathLoose.max_long.code 4 (some .long) ∈ gw_tbl := ⟨gw_in 678 (by decide +kernel) (by decide +kernel), gw_in 55 (by decide +kernel) (by decide +kernel), gw_in 679 (by decide +kernel) (by decide +kernel)⟩
theorem ev_maxl {x y : Int64} (hd : decode M.2.1 pc = .ok (.invokestatic idx, 3)) (hk : Cond.methodLink M.1.cls idx Lib.MathLoose.max_long.x ∈ gw_tbl) (hdd : 1 ≤ d) (hcat : (st.map fun v => v.category).sum ≤ 8) (kk : Ev M d (pc + 3) loc (.long (if y < x then x else y) :: st) S L Q) : Ev M d pc loc (.long y :: .long x :: st) S L Q := by
  intro p l e R s m args below meth c ad cT D A C H locs ls hP hD hS hl'
  obtain ⟨c1, c2, c3, c4, c5, c6, c7, c8, c9, c10, c11, c12, c13⟩ := C
  have hcat' : ((st.map (gx_v ad)).map fun v => v.category).sum ≤ 8 := gx_cat ad hcat
  exact va_mmax_long c1 c2 (c3.trans hl'.1.symm) c5 (c6 _ hk) (c6 _ gx_maxl_w.1) (c6 _ gx_maxl_w.2.1) (c6 _ gx_maxl_w.2.2) (Nat.le_trans hdd c10) (by omega) (Nat.zero_le _) (Nat.zero_le _) hd (kk p l e R s m args below meth c ad cT D A ⟨c1, c2, c3, c4, c5, c6, c7, c8, c9, c10, c11, c12, c13⟩ H locs ls hP hD hS hl')
theorem gx_copy_w : Cond.native arraycopyName ∈ gw_tbl ∧ Cond.static arraycopyName ∈ gw_tbl ∧ Cond.initialized "java/lang/System" ∈ gw_tbl := ⟨gw_in 444 (by decide +kernel) (by decide +kernel), gw_in 443 (by decide +kernel) (by decide +kernel), gw_in 61 (by decide +kernel) (by decide +kernel)⟩
theorem ev_copy {src dst n0 n1 sp dp n : Nat} {xs xd xn : Int32} (hd : decode M.2.1 pc = .ok (.invokestatic idx, 3)) (hk : Cond.methodLink M.1.cls idx arraycopyName ∈ gw_tbl) (hdd : 1 ≤ d) (hcat : (st.map fun v => v.category).sum ≤ 8) (h0 : gx_ar src = some (0, n0)) (h1 : gx_ar dst = some (0, n1)) (e1 : xs = nI sp) (e2 : xd = nI dp) (e3 : xn = nI n) (b1 : sp + n ≤ n0) (b2 : dp + n ≤ n1) (b3 : n0 < 2 ^ 31) (b4 : n1 < 2 ^ 31) (kk : Ev M d (pc + 3) loc st (gx_up S dst (va_cpy (S src) (S dst) sp dp n)) L Q) : Ev M d pc loc (.int xn :: .int xd :: .ref dst :: .int xs :: .ref src :: st) S L Q := by
  intro p l e R s m args below meth c ad cT D A C H locs ls hP hD hS hl'
  obtain ⟨c1, c2, c3, c4, c5, c6, c7, c8, c9, c10, c11, c12, c13⟩ := C
  have hcat' : ((st.map (gx_v ad)).map fun v => v.category).sum ≤ 8 := gx_cat ad hcat
  subst e1 e2 e3
  have p1 : sp < 2 ^ 31 := by omega
  have p2 : dp < 2 ^ 31 := by omega
  have p3 : n < 2 ^ 31 := by omega
  have g1 := gx_ar_spec h1
  have hset : (gx_w ad cT S L).set dst (ad dst, .inl (cT 0, n1, .inl (va_cpy (S src) (S dst) sp dp n))) = gx_w ad cT (gx_up S dst (va_cpy (S src) (S dst) sp dp n)) L := by
    refine gx_w_set g1 ?_ (fun i hi => gx_up_ne S _ hi) (fun _ _ => rfl)
    rw [gx_up_at]
    rfl
  have hw9 : nativeFrameWords "java/lang/System" "arraycopy" 5 ≤ 40 := by decide +kernel
  have hloc : ((st.map (gx_v ad)).map fun v => v.category).sum + (nativeFrameWords "java/lang/System" "arraycopy" 5 + 11) ≤ R.locals := by omega
  refine va_copyi c1 c2 (c3.trans hl'.1.symm) c5 (c6 _ hk) (c6 _ gx_copy_w.1) (c6 _ gx_copy_w.2.1) (c6 _ gx_copy_w.2.2) c8 hP hD hS src dst 0 0 (gx_w_get (gx_ar_spec h0)) (gx_w_get g1) rfl rfl rfl (nI_pos p1) (nI_pos p2) (nI_pos p3) (by rw [nI_clamp p1, nI_clamp p3]; exact b1) (by rw [nI_clamp p2, nI_clamp p3]; exact b2) (fun _ _ => rfl) (Nat.le_trans hdd c10) hloc hd ?_
  rw [nI_clamp p1, nI_clamp p2, nI_clamp p3, hset]
  exact fun H1 locs1 a b e9 => kk p l e R s m args below meth c ad cT D A ⟨c1, c2, c3, c4, c5, c6, c7, c8, c9, c10, c11, c12, c13⟩ H1 locs1 ls a b e9 hl'
/-- the table of orders: its length, one of its places -/
theorem ev_ordlen {o2 : Nat} (hd : decode M.2.1 pc = .ok (.getstatic idx, 3)) (hd2 : decode M.2.1 (pc + 3) = .ok (.arraylength, 1)) (hk : Cond.fieldLink M.1.cls idx "GlassTax$Chances" "ORDERS_OF" "[I" ∈ gw_tbl) (kk : Ev M d (pc + 3 + 1) loc (.int 5 :: st) S L Q) : Ev M d pc loc st S L Q := by
  intro p l e R s m args below meth c ad cT D A C H locs ls hP hD hS hl'
  have k1 := kk p l e R s m args below meth c ad cT D A C H locs ls hP hD hS hl'
  obtain ⟨c1, c2, c3, c4, c5, c6, c7, c8, c9, c10, c11, c12, c13⟩ := C
  obtain ⟨t, z1, z2⟩ := c9
  refine va_gets c1 c2 z1 hS c5 (c6 _ hk) (fun _ h9 => h9) hd ?_
  exact va_tlen c1 c2 z2 hS (v := 5) (by decide) hd2 k1
theorem ev_ordat {x : Int32} {j pc2 : Nat} (hd : decode M.2.1 pc = .ok (.getstatic idx, 3)) (hd1 : decode M.2.1 (pc + 3) = .ok (.iload_n 0, 1)) (hd2 : decode M.2.1 (pc + 3 + 1) = .ok (.iaload, 1)) (hk : Cond.fieldLink M.1.cls idx "GlassTax$Chances" "ORDERS_OF" "[I" ∈ gw_tbl) (hl : loc[0]? = some (some (.int x))) (hx : x = nI j) (hj : j < 5) (kk : Ev M d (pc + 3 + 1 + 1) loc (.int (gx_ord j) :: st) S L Q) : Ev M d pc loc st S L Q := by
  intro p l e R s m args below meth c ad cT D A C H locs ls hP hD hS hl'
  have k1 := kk p l e R s m args below meth c ad cT D A C H locs ls hP hD hS hl'
  obtain ⟨c1, c2, c3, c4, c5, c6, c7, c8, c9, c10, c11, c12, c13⟩ := C
  obtain ⟨t, z1, z2⟩ := c9
  subst hx
  refine va_gets c1 c2 z1 hS c5 (c6 _ hk) (fun _ h9 => h9) hd ?_
  refine lv_iload_n c1 c2 hd1 rfl (hl'.2.2.2 _ _ hl) ?_
  exact va_ti c1 c2 z2 hS (vp_in_nI hj (by decide)) (v := .int (gx_ord j)) (by rw [nI_clamp (by omega)]) hd2 k1
end GXW
