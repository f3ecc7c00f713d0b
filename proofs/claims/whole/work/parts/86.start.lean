/-! ===== the memory at the beginning ===== -/
def S0 : gx_S := fun i => if i = 31 then (fun j => if j = 0 then 14 else 0) else if i = 33 then (fun j => if j = 0 then 2 else 0) else (fun _ => 0)
def L0 : gx_L := fun _ => 0
def ad0 (h0 h1 : Nat) (u v : Nat → Nat) (k : Nat) : Nat := if k = 0 then h0 else if k < 44 then u (k - 1) else if k = 44 then h1 else v (k - 45)
def gx_fr (ad : Nat → Nat) (f : Nat → Int32) (lg : Int64) : Nat → List Nat → List Value
  | _, [] => []
  | j, t :: ts => gx_fv ad f lg j t :: gx_fr ad f lg (j + 1) ts
theorem fr_eq (ad : Nat → Nat) (f : Nat → Int32) (lg : Int64) : ∀ (ts : List Nat) (j : Nat), ts.mapIdx (fun i t => gx_fv ad f lg (j + i) t) = gx_fr ad f lg j ts
  | [], _ => rfl
  | t :: ts, j => by
    rw [List.mapIdx_cons]
    show gx_fv ad f lg j t :: _ = gx_fv ad f lg j t :: gx_fr ad f lg (j + 1) ts
    rw [← fr_eq ad f lg ts (j + 1)]
    refine congrArg (List.cons _) (congrArg (fun g => ts.mapIdx g) ?_)
    funext i t'
    rw [show j + (i + 1) = j + 1 + i from by omega]
def gx_c2 (ad : Nat → Nat) (cT : Nat → ClassId) (sh : gx_Sh) (f : Nat → Int32) (lg : Int64) : va_E := match sh with
  | .inl q => .inl (cT q.1, q.2, .inl f)
  | .inr q => .inr (q.1, gx_fr ad f lg 0 q.2)
theorem c2_eq (ad : Nat → Nat) (cT : Nat → ClassId) (sh : gx_Sh) (f : Nat → Int32) (lg : Int64) : gx_ce ad cT sh f lg = gx_c2 ad cT sh f lg := by
  cases sh with
  | inl q => rfl
  | inr q =>
    show (Sum.inr (q.1, q.2.mapIdx (fun j t => gx_fv ad f lg j t)) : va_E) = .inr (q.1, gx_fr ad f lg 0 q.2)
    rw [← fr_eq ad f lg q.2 0]
    refine congrArg (fun z => (Sum.inr (q.1, z) : va_E)) (congrArg (fun g => q.2.mapIdx g) ?_)
    funext i t'
    rw [Nat.zero_add]
def gx_w2 (ad : Nat → Nat) (cT : Nat → ClassId) (S : gx_S) (L : gx_L) : Nat → List gx_Sh → va_W
  | _, [] => []
  | k, sh :: shs => (ad k, gx_c2 ad cT sh (S k) (L k)) :: gx_w2 ad cT S L (k + 1) shs
theorem w2_eq (ad : Nat → Nat) (cT : Nat → ClassId) (S : gx_S) (L : gx_L) : ∀ (shs : List gx_Sh) (k : Nat), shs.mapIdx (fun i sh => (ad (k + i), gx_ce ad cT sh (S (k + i)) (L (k + i)))) = gx_w2 ad cT S L k shs
  | [], _ => rfl
  | sh :: shs, k => by
    rw [List.mapIdx_cons]
    show (ad k, gx_ce ad cT sh (S k) (L k)) :: _ = (ad k, gx_c2 ad cT sh (S k) (L k)) :: gx_w2 ad cT S L (k + 1) shs
    rw [← w2_eq ad cT S L shs (k + 1), c2_eq]
    refine congrArg (List.cons _) (congrArg (fun g => shs.mapIdx g) ?_)
    funext i t'
    rw [show k + (i + 1) = k + 1 + i from by omega]
set_option maxRecDepth 100000 in
set_option maxHeartbeats 8000000 in
theorem w0_eq (cT : Nat → ClassId) (h0 h1 : Nat) (u v : Nat → Nat) : wX10 cT h0 u ++ wX11 cT h1 v = gx_w (ad0 h0 h1 u v) cT S0 L0 := by
  have e : gx_w (ad0 h0 h1 u v) cT S0 L0 = gx_w2 (ad0 h0 h1 u v) cT S0 L0 0 sh_all := by
    rw [← w2_eq]
    unfold gx_w
    refine congrArg (fun g => sh_all.mapIdx g) ?_
    funext i t'
    rw [Nat.zero_add]
  rw [e]
  rfl
theorem S0_z {i : Nat} (h1 : i ≠ 31) (h2 : i ≠ 33) : S0 i = z0 := by
  unfold S0
  rw [if_neg h1, if_neg h2]
  rfl
theorem tG_0 {t : Nat} (h : t = 18 ∨ t = 22 ∨ t = 26) : tG S0 t = (z0, z0, z0, 0) := by
  unfold tG
  rw [S0_z (by omega) (by omega), S0_z (i := t + 2) (by omega) (by omega), S0_z (i := t + 3) (by omega) (by omega), S0_z (i := t) (by omega) (by omega)]
  rfl
theorem hG_0 {t : Nat} (h : t = 4 ∨ t = 11) : hG S0 t = (0, 0, z0, z0, z0, z0, z0, z0) := by
  unfold hG
  rw [S0_z (i := t) (by omega) (by omega), S0_z (i := t + 1) (by omega) (by omega), S0_z (i := t + 2) (by omega) (by omega), S0_z (i := t + 3) (by omega) (by omega), S0_z (i := t + 4) (by omega) (by omega), S0_z (i := t + 5) (by omega) (by omega), S0_z (i := t + 6) (by omega) (by omega)]
  rfl
theorem zT_0 : zT (z0, z0, z0, 0) := ⟨fun _ _ => ⟨rfl, rfl⟩, fun _ _ => rfl⟩
theorem zH_0 : zH (0, 0, z0, z0, z0, z0, z0, z0) := ⟨fun _ _ => ⟨rfl, rfl, rfl⟩, fun _ _ => ⟨rfl, rfl, rfl⟩⟩
theorem okT_z : okT z0 (z0, z0, z0, 0) := ⟨fun _ _ => ⟨⟨0, 0, rfl, rfl, Nat.le_refl _, by decide⟩, ⟨0, rfl, by decide⟩⟩, fun _ _ => ⟨0, rfl, by decide⟩⟩
theorem mT_0 (lv : Nat) : mT z0 lv = (z0, z0, z0, 0) := by
  unfold mT
  refine Prod.ext (funext fun j => ?_) (Prod.ext (funext fun j => ?_) (Prod.ext (funext fun j => ?_) rfl))
  · exact ite_self _
  · exact ite_self _
  · exact ite_self _
theorem RR_0 : RR S0 L0 := by
  refine ⟨0, 0, 0, 0, 0, 0, ⟨rfl, rfl, by decide, fun i hi => absurd hi (Nat.not_lt_zero i), fun i hi => absurd hi (Nat.not_lt_zero i)⟩, ⟨rfl, rfl, ⟨rfl, by decide, rfl, by decide, fun g hg => absurd hg (Nat.not_lt_zero g), fun g hg => absurd hg (Nat.not_lt_zero g), fun g _ => ⟨rfl, rfl⟩, fun d g _ => bt_z g⟩, ?_, ?_, fun d => ⟨0, by decide, rfl⟩⟩, ⟨?_, ?_, fun d _ => rfl, ?_, ?_⟩, ⟨rfl, rfl, by decide, rfl, rfl, by decide, rfl, fun j _ => rfl, fun i hi => absurd hi (Nat.not_lt_zero i)⟩, ⟨rfl, fun j _ => rfl, fun p _ => Or.inl ⟨bt_z p, rfl⟩, ⟨0, by decide, rfl⟩⟩, ⟨rfl, rfl, by decide, fun i hi => absurd hi (Nat.not_lt_zero i)⟩, rfl⟩
  · rw [hG_0 (Or.inl rfl)]; exact zH_0
  · rw [hG_0 (Or.inr rfl)]; exact zH_0
  · rw [tG_0 (Or.inl rfl), S0_z (by decide) (by decide)]; exact mT_0 0
  · rw [tG_0 (Or.inl rfl), S0_z (by decide) (by decide)]; exact okT_z
  · rw [tG_0 (Or.inr (Or.inl rfl))]; exact zT_0
  · rw [tG_0 (Or.inr (Or.inr rfl))]; exact zT_0
/-! ===== the law's loop ===== -/
theorem len_out {a c : Nat} (ha : a ≤ 256) (hc : c ≤ 1000) (h : ¬ nI a - 4 < nI c) : c + 4 ≤ a := by
  by_cases h4 : 4 ≤ a
  · have e : nI a - 4 = nI (a - 4) := nI_sub (b := 4) h4
    rw [e] at h
    have h1 : ¬ a - 4 < c := fun h9 => h (nI_lt h9 (by omega))
    omega
  · refine absurd ?_ h
    have key : ∀ a : Fin 4, nI a - 4 < 0 := by decide +kernel
    exact Int32.lt_of_lt_of_le (key ⟨a, by omega⟩) (nI_pos' (by omega))
theorem and31 (x : Int32) : ∃ k, k < 32 ∧ x &&& 31 = nI k := by
  have h := x
  refine ⟨(x &&& 31).toNatClampNeg, ?_, ?_⟩
  · have h1 : (x &&& 31).toBitVec.toNat ≤ 31 := by
      rw [Int32.toBitVec_and, BitVec.toNat_and]
      exact Nat.and_le_right
    have h2 : (x &&& 31).toInt = ((x &&& 31).toBitVec.toNat : Int) := by
      rw [← Int32.toInt_toBitVec, BitVec.toInt_eq_toNat_of_lt (by omega)]
    have h3 : (x &&& 31).toNatClampNeg = (x &&& 31).toInt.toNat := rfl
    omega
  · have h1 : (x &&& 31).toBitVec.toNat ≤ 31 := by
      rw [Int32.toBitVec_and, BitVec.toNat_and]
      exact Nat.and_le_right
    have h2 : (x &&& 31).toInt = ((x &&& 31).toBitVec.toNat : Int) := by
      rw [← Int32.toInt_toBitVec, BitVec.toInt_eq_toNat_of_lt (by omega)]
    have h3 : (x &&& 31).toNatClampNeg = (x &&& 31).toInt.toNat := rfl
    refine Int32.toInt_inj.mp ?_
    rw [nI_toInt (by omega), h3]
    omega
section LWL
variable {p : Program} {l : Launch} {e : Env} {s : State} {m : MethodId} {below : List Frame} {meth : Method} {c : Code} {b Ln : Nat} {xs : Nat → Int32} {ad : Nat → Nat} {cT : Nat → ClassId} {D : va_G} {S : gx_S} {L : gx_L}
set_option maxRecDepth 10000 in
theorem lw_sw (C : LC p s m meth c b Ln xs cT D) {i : Nat} (hi : i + 4 ≤ Ln) (hR : RR S L) (kk : ∀ (S' : gx_S) (L' : gx_L), RR S' L' → Lw p l e s m below meth c b ad cT D 1026 (nI i) [] S' L') (x : Int32) : Lw p l e s m below meth c b ad cT D 32 (nI i) [.int (x &&& 31)] S L := by
  obtain ⟨k, hk, ek⟩ := and31 x
  rw [ek]
  intro H locs ls hP hD hS hl
  have kd := kk S L hR H locs ls hP hD hS hl
  have hx := C.1.1
  have hb := C.1.2.1
  by_cases h28 : k ≤ 28
  · match k, h28 with
    | 0, _ => exact lv_tableIn (tgt := 164) (off := 132) hx hb dL_law_32 (by decide) (by decide) (by decide) (by decide) (lc_0 C hi hR kk H locs ls hP hD hS hl)
    | 1, _ => exact lv_tableIn (tgt := 187) (off := 155) hx hb dL_law_32 (by decide) (by decide) (by decide) (by decide) (lc_1 C hi hR kk H locs ls hP hD hS hl)
    | 2, _ => exact lv_tableIn (tgt := 200) (off := 168) hx hb dL_law_32 (by decide) (by decide) (by decide) (by decide) (lc_2 C hi hR kk H locs ls hP hD hS hl)
    | 3, _ => exact lv_tableIn (tgt := 213) (off := 181) hx hb dL_law_32 (by decide) (by decide) (by decide) (by decide) (lc_3 C hi hR kk H locs ls hP hD hS hl)
    | 4, _ => exact lv_tableIn (tgt := 226) (off := 194) hx hb dL_law_32 (by decide) (by decide) (by decide) (by decide) (lc_4 C hi hR kk H locs ls hP hD hS hl)
    | 5, _ => exact lv_tableIn (tgt := 259) (off := 227) hx hb dL_law_32 (by decide) (by decide) (by decide) (by decide) (lc_5 C hi hR kk H locs ls hP hD hS hl)
    | 6, _ => exact lv_tableIn (tgt := 292) (off := 260) hx hb dL_law_32 (by decide) (by decide) (by decide) (by decide) (lc_6 C hi hR kk H locs ls hP hD hS hl)
    | 7, _ => exact lv_tableIn (tgt := 325) (off := 293) hx hb dL_law_32 (by decide) (by decide) (by decide) (by decide) (lc_7 C hi hR kk H locs ls hP hD hS hl)
    | 8, _ => exact lv_tableIn (tgt := 358) (off := 326) hx hb dL_law_32 (by decide) (by decide) (by decide) (by decide) (lc_8 C hi hR kk H locs ls hP hD hS hl)
    | 9, _ => exact lv_tableIn (tgt := 391) (off := 359) hx hb dL_law_32 (by decide) (by decide) (by decide) (by decide) (lc_9 C hi hR kk H locs ls hP hD hS hl)
    | 10, _ => exact lv_tableIn (tgt := 404) (off := 372) hx hb dL_law_32 (by decide) (by decide) (by decide) (by decide) (lc_10 C hi hR kk H locs ls hP hD hS hl)
    | 11, _ => exact lv_tableIn (tgt := 417) (off := 385) hx hb dL_law_32 (by decide) (by decide) (by decide) (by decide) (lc_11 C hi hR kk H locs ls hP hD hS hl)
    | 12, _ => exact lv_tableIn (tgt := 440) (off := 408) hx hb dL_law_32 (by decide) (by decide) (by decide) (by decide) (lc_12 C hi hR kk H locs ls hP hD hS hl)
    | 13, _ => exact lv_tableIn (tgt := 463) (off := 431) hx hb dL_law_32 (by decide) (by decide) (by decide) (by decide) (lc_13 C hi hR kk H locs ls hP hD hS hl)
    | 14, _ => exact lv_tableIn (tgt := 512) (off := 480) hx hb dL_law_32 (by decide) (by decide) (by decide) (by decide) (lc_14 C hi hR kk H locs ls hP hD hS hl)
    | 15, _ => exact lv_tableIn (tgt := 525) (off := 493) hx hb dL_law_32 (by decide) (by decide) (by decide) (by decide) (lc_15 C hi hR kk H locs ls hP hD hS hl)
    | 16, _ => exact lv_tableIn (tgt := 564) (off := 532) hx hb dL_law_32 (by decide) (by decide) (by decide) (by decide) (lc_16 C hi hR kk H locs ls hP hD hS hl)
    | 17, _ => exact lv_tableIn (tgt := 587) (off := 555) hx hb dL_law_32 (by decide) (by decide) (by decide) (by decide) (lc_17 C hi hR kk H locs ls hP hD hS hl)
    | 18, _ => exact lv_tableIn (tgt := 650) (off := 618) hx hb dL_law_32 (by decide) (by decide) (by decide) (by decide) (lc_18 C hi hR kk H locs ls hP hD hS hl)
    | 19, _ => exact lv_tableIn (tgt := 693) (off := 661) hx hb dL_law_32 (by decide) (by decide) (by decide) (by decide) (lc_19 C hi hR kk H locs ls hP hD hS hl)
    | 20, _ => exact lv_tableIn (tgt := 706) (off := 674) hx hb dL_law_32 (by decide) (by decide) (by decide) (by decide) (lc_20 C hi hR kk H locs ls hP hD hS hl)
    | 21, _ => exact lv_tableIn (tgt := 729) (off := 697) hx hb dL_law_32 (by decide) (by decide) (by decide) (by decide) (lc_21 C hi hR kk H locs ls hP hD hS hl)
    | 22, _ => exact lv_tableIn (tgt := 778) (off := 746) hx hb dL_law_32 (by decide) (by decide) (by decide) (by decide) (lc_22 C hi hR kk H locs ls hP hD hS hl)
    | 23, _ => exact lv_tableIn (tgt := 821) (off := 789) hx hb dL_law_32 (by decide) (by decide) (by decide) (by decide) (lc_23 C hi hR kk H locs ls hP hD hS hl)
    | 24, _ => exact lv_tableIn (tgt := 880) (off := 848) hx hb dL_law_32 (by decide) (by decide) (by decide) (by decide) (lc_24 C hi hR kk H locs ls hP hD hS hl)
    | 25, _ => exact lv_tableIn (tgt := 934) (off := 902) hx hb dL_law_32 (by decide) (by decide) (by decide) (by decide) (lc_25 C hi hR kk H locs ls hP hD hS hl)
    | 26, _ => exact lv_tableIn (tgt := 957) (off := 925) hx hb dL_law_32 (by decide) (by decide) (by decide) (by decide) (lc_26 C hi hR kk H locs ls hP hD hS hl)
    | 27, _ => exact lv_tableIn (tgt := 980) (off := 948) hx hb dL_law_32 (by decide) (by decide) (by decide) (by decide) (lc_27 C hi hR kk H locs ls hP hD hS hl)
    | 28, _ => exact lv_tableIn (tgt := 1003) (off := 971) hx hb dL_law_32 (by decide) (by decide) (by decide) (by decide) (lc_28 C hi hR kk H locs ls hP hD hS hl)
    | n + 29, h => exact absurd h (by omega)
  · refine lv_tableOut (tgt := 1026) hx hb dL_law_32 (Or.inr ?_) (by decide) kd
    rw [nI_toInt (by omega)]
    omega
theorem lw_loop (C : LC p s m meth c b Ln xs cT D) : ∀ (n j : Nat) (S : gx_S) (L : gx_L), Ln + 4 ≤ 4 * j + 4 * n → 4 * j ≤ Ln + 4 → RR S L → Lw p l e s m below meth c b ad cT D 18 (nI (4 * j)) [] S L := by
  intro n
  induction n with
  | zero =>
    intro j S L h1 h2 hR
    have hL6 := C.2.1
    refine lw_i3 C dL_law_18 ?_
    refine lw_a0 C dL_law_19 ?_
    refine lw_len C dL_law_20 ?_
    refine lw_ic (v := 4) C dL_law_21 (by decide) ?_
    refine lw_sub C dL_law_22 ?_
    intro H locs ls hP hD hS hl
    obtain ⟨hx, hb, hr, hml, hown, hts, hX, hbl, hlocks, hgv⟩ := C.1
    refine lv_icmp_gt (tgt := 1032) hx hb dL_law_23 (by decide) (fun c9 => ?_) (fun c9 => ?_)
    · refine lv_iconst (v := 1) hx hb dL_law_1032 (by decide) ?_
      refine va_forget (fun q hq => hS.2.2 q hq) ?_
      refine W.widen (k := 600000) (n := 7302250) (Nat.le_of_ble_eq_true rfl) (Nat.le_of_ble_eq_true rfl) ?_
      exact lw_ret hx hb hr hlocks dL_law_1033
    · have := len_out hL6 (by omega) c9
      omega
  | succ n ih =>
    intro j S L h1 h2 hR
    have hL6 := C.2.1
    refine lw_i3 C dL_law_18 ?_
    refine lw_a0 C dL_law_19 ?_
    refine lw_len C dL_law_20 ?_
    refine lw_ic (v := 4) C dL_law_21 (by decide) ?_
    refine lw_sub C dL_law_22 ?_
    have body : 4 * j + 4 ≤ Ln → Lw p l e s m below meth c b ad cT D 26 (nI (4 * j)) [] S L := by
      intro hi
      refine lw_a0 C dL_law_26 ?_
      refine lw_i3 C dL_law_27 ?_
      refine lw_sl C dL_law_28 (by omega) ?_
      refine lw_bi (v := 31) C dL_law_29 (by decide) ?_
      refine lw_and C dL_law_31 ?_
      refine lw_sw C hi hR (fun S' L' hR' => ?_) _
      have k9 := ih (j + 1) S' L' (by omega) (by omega) hR'
      intro H locs ls hP hD hS hl
      obtain ⟨hx, hb, hr, hml, hown, hts, hX, hbl, hlocks, hgv⟩ := C.1
      refine lv_iinc (v := nI (4 * (j + 1))) (lv' := [(3, .int (nI (4 * (j + 1)))), (0, .ref b), (1, .ref (ad 0)), (2, .ref (ad 44))]) hx hb dL_law_1026 hl (k := 3) rfl (nI_add (4 * j) 4) (by decide) rfl (fun ls1 hl1 => ?_)
      refine lv_goto (tgt := 18) hx hb dL_law_1029 (by decide) ?_
      exact k9 H locs ls1 hP hD hS (lv_sub hl1 [1, 2, 3, 0] rfl)
    intro H locs ls hP hD hS hl
    obtain ⟨hx, hb, hr, hml, hown, hts, hX, hbl, hlocks, hgv⟩ := C.1
    refine lv_icmp_gt (tgt := 1032) hx hb dL_law_23 (by decide) (fun c9 => ?_) (fun c9 => ?_)
    · refine lv_iconst (v := 1) hx hb dL_law_1032 (by decide) ?_
      refine va_forget (fun q hq => hS.2.2 q hq) ?_
      refine W.widen (k := 600000) (n := 7302250) (Nat.le_of_ble_eq_true rfl) (Nat.le_of_ble_eq_true rfl) ?_
      exact lw_ret hx hb hr hlocks dL_law_1033
    · exact body (len_out hL6 (by omega) c9) H locs ls hP hD hS hl
end LWL
set_option maxHeartbeats 4000000 in
set_option maxRecDepth 100000 in
theorem lw_Z0 {b : Nat} {s : State} (hts : ∀ w ∈ lw_tbl, w.before #[Value.ref b] s = true) (hgv : (Jvm.Cond.and given_1 narrow_1).before #[Value.ref b] s = true) : gx_Z (fun q : Nat => s.heap.size ≤ q) s s.heap := by
  have hs := flat_of_before _ hgv
  have harr : (Cond.arrayOf (.static "GlassTax$Chances" "ORDERS_OF" "[I") .int).before #[Value.ref b] s = true := hs _ (by decide +kernel)
  have hlen : (Cond.eq (.length (.static "GlassTax$Chances" "ORDERS_OF" "[I")) (.int 5)).before #[Value.ref b] s = true := hs _ (by decide +kernel)
  have he0 : (Cond.eq (.elem (.static "GlassTax$Chances" "ORDERS_OF" "[I") (.int 0)) (.int 1)).before #[Value.ref b] s = true := hs _ (by decide +kernel)
  have he1 : (Cond.eq (.elem (.static "GlassTax$Chances" "ORDERS_OF" "[I") (.int 1)) (.int 1)).before #[Value.ref b] s = true := hs _ (by decide +kernel)
  have he2 : (Cond.eq (.elem (.static "GlassTax$Chances" "ORDERS_OF" "[I") (.int 2)) (.int 2)).before #[Value.ref b] s = true := hs _ (by decide +kernel)
  have he3 : (Cond.eq (.elem (.static "GlassTax$Chances" "ORDERS_OF" "[I") (.int 3)) (.int 6)).before #[Value.ref b] s = true := hs _ (by decide +kernel)
  have he4 : (Cond.eq (.elem (.static "GlassTax$Chances" "ORDERS_OF" "[I") (.int 4)) (.int 24)).before #[Value.ref b] s = true := hs _ (by decide +kernel)
  obtain ⟨t, ht, hT⟩ := va_Tof (N := 5) (f := fun j => .int (gx_ord j)) (A := fun q : Nat => s.heap.size ≤ q) (by decide) harr (va_eqt hlen) (fun j hj => by
    match j, hj with
    | 0, _ => exact va_eqt he0
    | 1, _ => exact va_eqt he1
    | 2, _ => exact va_eqt he2
    | 3, _ => exact va_eqt he3
    | 4, _ => exact va_eqt he4
    | n + 5, h => exact absurd h (by omega)) (fun a ha => Nat.not_le.mpr ha)
  exact ⟨t, va_Zof (hts _ (List.mem_of_getElem? (i := 738) (by decide +kernel))) (hts _ (List.mem_of_getElem? (i := 58) (by decide +kernel))) ht (fun a ha => Nat.not_le.mpr ha), hT⟩
set_option maxHeartbeats 4000000 in
set_option maxRecDepth 100000 in
theorem whole_start {p : Program} {e : Env} {s : State} {m : MethodId} {below : List Frame} {meth : Method} {c : Code} (l : Launch) (hflags : l.flags = flags0) {b L : Nat} {xs : Nat → Int32} (hL : L ≤ 256) (C0 : lw_At p s m meth c b L xs) : W p l e room_1 s m #[Value.ref b] below meth c s.heap [] 0 0 (lw_Z below #[Value.ref b] s) (entryFrame m ([Value.ref b] : List Value).toArray 4) := by
  obtain ⟨hx, hb, hr, hml, hown, hts, hX, hbl, hlocks, hgv⟩ := id C0
  have hA : ∀ q : Nat, s.heap.size ≤ q → (fun q : Nat => s.heap.size ≤ q) q := fun _ h => h
  have hg : ∀ w ∈ gw_tbl, w.before #[Value.ref b] s = true := fun w hw => hts w (List.mem_filter.mp hw).1
  have hN : gx_N s := by
    intro w hw
    have h2 := (List.mem_filter.mp hw).2
    refine va_Nw.of ?_ (hts w (List.mem_filter.mp hw).1)
    cases w <;> first | rfl | cases h2
  obtain ⟨c0, iS0, hKn0⟩ := u_known (C := RX0) (T := TX0) (N := 3) (n := 3) hg inX0 (hg _ (gw_in 188 (by decide +kernel) (by decide +kernel)))
  obtain ⟨c1, iS1, hKn1⟩ := u_known (C := RX1) (T := TX1) (N := 3) (n := 3) hg inX1 (hg _ (gw_in 273 (by decide +kernel) (by decide +kernel)))
  obtain ⟨c2, iS2, hKn2⟩ := u_known (C := RX2) (T := TX2) (N := 8) (n := 8) hg inX2 (hg _ (gw_in 105 (by decide +kernel) (by decide +kernel)))
  obtain ⟨c3, iS3, hKn3⟩ := u_known (C := RX3) (T := TX3) (N := 2) (n := 2) hg inX3 (hg _ (gw_in 72 (by decide +kernel) (by decide +kernel)))
  obtain ⟨c4, iS4, hKn4⟩ := u_known (C := RX4) (T := TX4) (N := 6) (n := 6) hg inX4 (hg _ (gw_in 289 (by decide +kernel) (by decide +kernel)))
  obtain ⟨c5, iS5, hKn5⟩ := u_known (C := RX5) (T := TX5) (N := 3) (n := 3) hg inX5 (hg _ (gw_in 89 (by decide +kernel) (by decide +kernel)))
  obtain ⟨c6, iS6, hKn6⟩ := u_known (C := RX6) (T := TX6) (N := 7) (n := 7) hg inX6 (hg _ (gw_in 243 (by decide +kernel) (by decide +kernel)))
  obtain ⟨c7, iS7, hKn7⟩ := u_known (C := RX7) (T := TX7) (N := 4) (n := 4) hg inX7 (hg _ (gw_in 223 (by decide +kernel) (by decide +kernel)))
  obtain ⟨c8, iS8, hKn8⟩ := u_known (C := RX8) (T := TX8) (N := 2) (n := 2) hg inX8 (hg _ (gw_in 194 (by decide +kernel) (by decide +kernel)))
  obtain ⟨c9, iS9, hKn9⟩ := u_known (C := RX9) (T := TX9) (N := 5) (n := 5) hg inX9 (hg _ (gw_in 155 (by decide +kernel) (by decide +kernel)))
  obtain ⟨c10, iS10, hKn10⟩ := u_known (C := RX10) (T := TX10) (N := 15) (n := 15) hg inX10 (hg _ (gw_in 64 (by decide +kernel) (by decide +kernel)))
  obtain ⟨c11, iS11, hKn11⟩ := u_known (C := RX11) (T := TX11) (N := 26) (n := 26) hg inX11 (hg _ (gw_in 817 (by decide +kernel) (by decide +kernel)))
  obtain ⟨dC, dI, hKc⟩ : ∃ (dC : Nat → ClassId) (dI : Nat → Nat → Nat), ∀ (k : Nat) (q : vw_C), vwCl[k]? = some q → u_Kn s q.1 q.2.1 q.2.2 (dC k) (dI k) := by
    refine ⟨fun k => if k = 0 then c0 else if k = 1 then c1 else if k = 2 then c2 else if k = 3 then c3 else if k = 4 then c4 else if k = 5 then c5 else if k = 6 then c6 else if k = 7 then c7 else if k = 8 then c8 else if k = 9 then c9 else if k = 10 then c10 else c11, fun k => if k = 0 then iS0 else if k = 1 then iS1 else if k = 2 then iS2 else if k = 3 then iS3 else if k = 4 then iS4 else if k = 5 then iS5 else if k = 6 then iS6 else if k = 7 then iS7 else if k = 8 then iS8 else if k = 9 then iS9 else if k = 10 then iS10 else iS11, ?_⟩
    intro k q hq
    match k, hq with
    | 0, hq => cases hq; exact hKn0
    | 1, hq => cases hq; exact hKn1
    | 2, hq => cases hq; exact hKn2
    | 3, hq => cases hq; exact hKn3
    | 4, hq => cases hq; exact hKn4
    | 5, hq => cases hq; exact hKn5
    | 6, hq => cases hq; exact hKn6
    | 7, hq => cases hq; exact hKn7
    | 8, hq => cases hq; exact hKn8
    | 9, hq => cases hq; exact hKn9
    | 10, hq => cases hq; exact hKn10
    | 11, hq => cases hq; exact hKn11
    | k + 12, hq => simp [vwCl] at hq
  obtain ⟨cI, kI, mI, f1, f2, f3⟩ := Cond.arrayClass_spec (hg _ arr_w.1)
  obtain ⟨cB, kB, mB, g1, g2, g3⟩ := Cond.arrayClass_spec (hg _ arr_w.2)
  obtain ⟨cT, hT0, hT1⟩ : ∃ cT : Nat → ClassId, cT 0 = cI ∧ cT 1 = cB := ⟨fun k => if k = 0 then cI else cB, rfl, rfl⟩
  subst hT0 hT1
  have hK : va_K (dC, dI) vwCl (gx_T cT) s := by
    refine ⟨hKc, fun k q hk => ?_⟩
    match k, hk with
    | 0, hk =>
      cases hk
      exact ⟨fun n z => ⟨fun k h => (by cases h), kI, f2, mI, f3⟩, f1⟩
    | 1, hk =>
      cases hk
      exact ⟨fun n z => ⟨fun k h => (by cases h), kB, g2, mB, g3⟩, g1⟩
    | k + 2, hk => simp at hk
  have C : LC p s m meth c b L xs cT (dC, dI) := ⟨C0, hL, hK, lw_Z0 hts hgv, hN, hg⟩
  have hS : va_S (fun q : Nat => s.heap.size ≤ q) s.heap s.heap [] := va_S.rf
  have hP : va_P (dC, dI) vwCl [] s.heap := fun k q h => by simp at h
  have hD : va_D (fun q : Nat => s.heap.size ≤ q) [] := ⟨fun i j p q h => by simp at h, fun k q h => by simp at h⟩
  have hl := lv_entry ([.ref b]) (n := 4) (Nat.le_of_ble_eq_true rfl)
  rw [lg_entry_eq]
  generalize (lg_sl ([.ref b]) ++ List.replicate (4 - (lg_sl ([.ref b])).length) Slot.unset).toArray = ls at hl ⊢
  have hl : lv_has ls 4 [(0, .ref b)] := hl
  obtain ⟨C1, T1, ty1, w1, w2, w3, w4, w5, w6, w7⟩ := nw_L_7
  refine va_new hx hb hg w2 ty1 w3 hown (hg _ w4) (hg _ w5) (hg _ w6) hK hP hD hS hA w1 w7 (Nat.le_of_ble_eq_true rfl) (Nat.le_of_ble_eq_true rfl) dL_law_0 (fun h0 H hP hD hS => ?_)
  refine lv_dup hx hb dL_law_3 rfl ?_
  refine gc_run (M' := mX10_init) (As := []) (st := [.ref h0]) (ws := []) hx hb hml hown hg hK hN hA hP hD hS hl.1 dL_law_4 lk_L_9 mi_X10 rfl (kX10 cT (dC, dI) h0) (Nat.le_of_ble_eq_true rfl) (Nat.le_of_ble_eq_true rfl) (Nat.le_of_ble_eq_true rfl) (Nat.le_of_ble_eq_true rfl) (Nat.le_of_ble_eq_true rfl) (fun wa H locs hu hP hD hS => ?_)
  obtain ⟨u, hu⟩ := hu
  subst hu
  refine lv_astore_n (lv' := [(1, .ref h0), (0, .ref b)]) hx hb dL_law_7 rfl hl (by decide) rfl (fun ls hl => ?_)
  obtain ⟨C2, T2, ty2, x1, x2, x3, x4, x5, x6, x7⟩ := nw_L_10
  refine va_new hx hb hg x2 ty2 x3 hown (hg _ x4) (hg _ x5) (hg _ x6) hK hP hD hS hA x1 x7 (Nat.le_of_ble_eq_true rfl) (Nat.le_of_ble_eq_true rfl) dL_law_8 (fun h1 H hP hD hS => ?_)
  refine lv_dup hx hb dL_law_11 rfl ?_
  refine gc_run (M' := mX11_init) (As := []) (st := [.ref h1]) (ws := [] ++ wX10 cT h0 u) hx hb hml hown hg hK hN hA hP hD hS hl.1 dL_law_12 lk_L_12 mi_X11 rfl (kX11 cT (dC, dI) h1) (Nat.le_of_ble_eq_true rfl) (Nat.le_of_ble_eq_true rfl) (Nat.le_of_ble_eq_true rfl) (Nat.le_of_ble_eq_true rfl) (Nat.le_of_ble_eq_true rfl) (fun wa H locs hv hP hD hS => ?_)
  obtain ⟨v, hv⟩ := hv
  subst hv
  rw [List.nil_append, w0_eq] at hP hD
  refine lv_astore_n (lv' := [(2, .ref h1), (1, .ref h0), (0, .ref b)]) hx hb dL_law_15 rfl hl (by decide) rfl (fun ls hl => ?_)
  refine lv_iconst (v := 0) hx hb dL_law_16 (by decide) ?_
  refine lv_istore_n (lv' := [(3, .int 0), (2, .ref h1), (1, .ref h0), (0, .ref b)]) hx hb dL_law_17 rfl hl (by decide) rfl (fun ls hl => ?_)
  exact lw_loop C (L + 4) 0 S0 L0 (by omega) (by omega) RR_0 H locs ls hP hD hS (lv_sub hl [3, 2, 1, 0] rfl)
