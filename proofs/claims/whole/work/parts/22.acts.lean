theorem tG_o (S : gx_S) {u t : Nat} (T : Tb) (h : t + 3 < u ∨ u + 3 < t) : tG (tS S u T) t = tG S t := by
  unfold tG
  rw [tS_o S T (by omega), tS_o S T (by omega), tS_o S T (by omega), tS_o S T (by omega)]
/-- contents, ages beyond the glasses that may be, thirsts beyond the drinkers: nought -/
def zT (T : Tb) : Prop := (∀ j, 5 ≤ j → T.1 j = 0 ∧ T.2.1 j = 0) ∧ ∀ j, 4 ≤ j → T.2.2.1 j = 0
theorem cpy_all {f g : Nat → Int32} {n : Nat} (h : ∀ j, n ≤ j → f j = g j) : va_cpy f g 0 0 n = f := by
  funext k
  unfold va_cpy
  by_cases hk : k < n
  · rw [if_pos ⟨Nat.zero_le _, by omega⟩]
    congr 1
    omega
  · rw [if_neg (by omega)]
    exact (h k (by omega)).symm
theorem copy_mem (S : gx_S) {t u : Nat} (ht : tb t) (hu : tb u) (hne : t ≠ u) (hz : zT (tG S t)) (hy : zT (tG S u)) :
    gx_u2 (gx_up (gx_up (gx_up S (t + 1) (va_cpy (S (u + 1)) (S (t + 1)) 0 0 5)) (t + 2) (va_cpy (gx_up S (t + 1) (va_cpy (S (u + 1)) (S (t + 1)) 0 0 5) (u + 2)) (gx_up S (t + 1) (va_cpy (S (u + 1)) (S (t + 1)) 0 0 5) (t + 2)) 0 0 5)) (t + 3) (va_cpy (gx_up (gx_up S (t + 1) (va_cpy (S (u + 1)) (S (t + 1)) 0 0 5)) (t + 2) (va_cpy (gx_up S (t + 1) (va_cpy (S (u + 1)) (S (t + 1)) 0 0 5) (u + 2)) (gx_up S (t + 1) (va_cpy (S (u + 1)) (S (t + 1)) 0 0 5) (t + 2)) 0 0 5) (u + 3)) (gx_up (gx_up S (t + 1) (va_cpy (S (u + 1)) (S (t + 1)) 0 0 5)) (t + 2) (va_cpy (gx_up S (t + 1) (va_cpy (S (u + 1)) (S (t + 1)) 0 0 5) (u + 2)) (gx_up S (t + 1) (va_cpy (S (u + 1)) (S (t + 1)) 0 0 5) (t + 2)) 0 0 5) (t + 3)) 0 0 4)) t 4 (gx_up (gx_up (gx_up S (t + 1) (va_cpy (S (u + 1)) (S (t + 1)) 0 0 5)) (t + 2) (va_cpy (gx_up S (t + 1) (va_cpy (S (u + 1)) (S (t + 1)) 0 0 5) (u + 2)) (gx_up S (t + 1) (va_cpy (S (u + 1)) (S (t + 1)) 0 0 5) (t + 2)) 0 0 5)) (t + 3) (va_cpy (gx_up (gx_up S (t + 1) (va_cpy (S (u + 1)) (S (t + 1)) 0 0 5)) (t + 2) (va_cpy (gx_up S (t + 1) (va_cpy (S (u + 1)) (S (t + 1)) 0 0 5) (u + 2)) (gx_up S (t + 1) (va_cpy (S (u + 1)) (S (t + 1)) 0 0 5) (t + 2)) 0 0 5) (u + 3)) (gx_up (gx_up S (t + 1) (va_cpy (S (u + 1)) (S (t + 1)) 0 0 5)) (t + 2) (va_cpy (gx_up S (t + 1) (va_cpy (S (u + 1)) (S (t + 1)) 0 0 5) (u + 2)) (gx_up S (t + 1) (va_cpy (S (u + 1)) (S (t + 1)) 0 0 5) (t + 2)) 0 0 5) (t + 3)) 0 0 4) u 4) = tS S t (tG S u) := by
  have n1 : u + 2 ≠ t + 1 := by rcases ht with rfl | rfl | rfl <;> rcases hu with rfl | rfl | rfl <;> omega
  have n2 : u + 3 ≠ t + 1 := by rcases ht with rfl | rfl | rfl <;> rcases hu with rfl | rfl | rfl <;> omega
  have n3 : u + 3 ≠ t + 2 := by rcases ht with rfl | rfl | rfl <;> rcases hu with rfl | rfl | rfl <;> omega
  have n4 : u ≠ t + 1 ∧ u ≠ t + 2 ∧ u ≠ t + 3 := by rcases ht with rfl | rfl | rfl <;> rcases hu with rfl | rfl | rfl <;> omega
  have e1 : va_cpy (S (u + 1)) (S (t + 1)) 0 0 5 = S (u + 1) := cpy_all (fun j h => (hy.1 j h).1.trans (hz.1 j h).1.symm)
  have e2 : va_cpy (S (u + 2)) (S (t + 2)) 0 0 5 = S (u + 2) := cpy_all (fun j h => (hy.1 j h).2.trans (hz.1 j h).2.symm)
  have e3 : va_cpy (S (u + 3)) (S (t + 3)) 0 0 4 = S (u + 3) := cpy_all (fun j h => (hy.2 j h).trans (hz.2 j h).symm)
  simp only [e1, gx_up_ne _ _ n1, gx_up_ne _ _ n2, gx_up_ne _ _ n3, gx_up_ne _ _ (show t + 2 ≠ t + 1 by omega), gx_up_ne _ _ (show t + 3 ≠ t + 1 by omega), gx_up_ne _ _ (show t + 3 ≠ t + 2 by omega), e2, e3, gx_up_ne _ _ n4.1, gx_up_ne _ _ n4.2.1, gx_up_ne _ _ n4.2.2]
  funext i
  unfold gx_u2 gx_up tS tG
  by_cases h0 : i = t
  · subst h0
    simp
  · by_cases h1 : i = t + 1
    · subst h1; simp
    · by_cases h2 : i = t + 2
      · subst h2; simp
      · by_cases h3 : i = t + 3
        · subst h3; simp
        · simp [h0, h1, h2, h3]
set_option maxRecDepth 10000 in
theorem c_copyFrom (d : Nat) {t u : Nat} (ht : tb t) (hu : tb u) (hne : t ≠ u) (S : gx_S) (hz : zT (tG S t)) (hy : zT (tG S u)) (L : gx_L) : Cw (d + 1) mX9_copyFrom [.ref t, .ref u] S L (tS S t (tG S u)) L := by
  refine ct_intro (loc := [some (.ref t), some (.ref u)]) (by decide) (Nat.le_of_ble_eq_true rfl) rfl ?_
  refine ev_ald1 dX9_copyFrom_0 ?_
  refine ev_getr (r := u + 1) dX9_copyFrom_1 fl_X9_9 (tp9_1 hu) ?_
  refine ev_iconst (v := 0) dX9_copyFrom_4 (by decide) ?_
  refine ev_ald0 dX9_copyFrom_5 ?_
  refine ev_getr (r := t + 1) dX9_copyFrom_6 fl_X9_9 (tp9_1 ht) ?_
  refine ev_iconst (v := 0) dX9_copyFrom_9 (by decide) ?_
  refine ev_iconst (v := 5) dX9_copyFrom_10 (by decide) ?_
  refine ev_copy  dX9_copyFrom_11 lk_X9_25 (Nat.le_add_left 1 _) (Nat.le_of_ble_eq_true rfl) (ar9_1 hu) (ar9_1 ht) rfl rfl rfl (by decide) (by decide) (by decide) (by decide) ?_
  refine ev_ald1 dX9_copyFrom_14 ?_
  refine ev_getr (r := u + 2) dX9_copyFrom_15 fl_X9_15 (tp9_2 hu) ?_
  refine ev_iconst (v := 0) dX9_copyFrom_18 (by decide) ?_
  refine ev_ald0 dX9_copyFrom_19 ?_
  refine ev_getr (r := t + 2) dX9_copyFrom_20 fl_X9_15 (tp9_2 ht) ?_
  refine ev_iconst (v := 0) dX9_copyFrom_23 (by decide) ?_
  refine ev_iconst (v := 5) dX9_copyFrom_24 (by decide) ?_
  refine ev_copy  dX9_copyFrom_25 lk_X9_25 (Nat.le_add_left 1 _) (Nat.le_of_ble_eq_true rfl) (ar9_2 hu) (ar9_2 ht) rfl rfl rfl (by decide) (by decide) (by decide) (by decide) ?_
  refine ev_ald1 dX9_copyFrom_28 ?_
  refine ev_getr (r := u + 3) dX9_copyFrom_29 fl_X9_18 (tp9_3 hu) ?_
  refine ev_iconst (v := 0) dX9_copyFrom_32 (by decide) ?_
  refine ev_ald0 dX9_copyFrom_33 ?_
  refine ev_getr (r := t + 3) dX9_copyFrom_34 fl_X9_18 (tp9_3 ht) ?_
  refine ev_iconst (v := 0) dX9_copyFrom_37 (by decide) ?_
  refine ev_iconst (v := 4) dX9_copyFrom_38 (by decide) ?_
  refine ev_copy  dX9_copyFrom_39 lk_X9_25 (Nat.le_add_left 1 _) (Nat.le_of_ble_eq_true rfl) (ar9_3 hu) (ar9_3 ht) rfl rfl rfl (by decide) (by decide) (by decide) (by decide) ?_
  refine ev_ald0 dX9_copyFrom_42 ?_
  refine ev_ald1 dX9_copyFrom_43 ?_
  refine ev_geti dX9_copyFrom_44 fl_X9_31 (tp9_4 hu) ?_
  refine ev_puti dX9_copyFrom_47 fp_X9_31 (tp9_4 ht) ?_
  refine ev_vret dX9_copyFrom_50 ?_
  exact ⟨rfl, copy_mem S ht hu hne hz hy, rfl⟩
/-- the acts on a table: the answer, the table -/
def p_pour (ng : Int32) (ms : Nat → Int32) (T : Tb) (g n : Int32) : Int32 × Tb :=
  if isG ng g = true then
    if n < 1 then (-2, T) else if n ≤ 9 then
      (let w : Int32 := if ms g.toNatClampNeg - T.1 g.toNatClampNeg < n then ms g.toNatClampNeg - T.1 g.toNatClampNeg else n
       if 0 < w then (w, (upd T.1 g.toNatClampNeg (T.1 g.toNatClampNeg + w), upd T.2.1 g.toNatClampNeg 0, T.2.2)) else (-3, T)) else (-2, T)
  else (-1, T)
def p_drink (ng nd : Int32) (dk sb : Nat → Int32) (T : Tb) (d g : Int32) : Int32 × Tb :=
  if isG nd d = true then (if isG ng g = true then
    (if bt (sb d.toNatClampNeg) g.toNatClampNeg = true then (p_sw dk T d.toNatClampNeg g.toNatClampNeg, p_swT dk T d.toNatClampNeg g.toNatClampNeg) else (-3, T))
  else (-1, T)) else (-1, T)
def p_tip (ng : Int32) (ms : Nat → Int32) (T : Tb) (g o : Int32) : Int32 × Tb :=
  if isG ng g = true then (if isG ng o = true then
    if g = o then (-2, T) else
      (let w : Int32 := if ms o.toNatClampNeg - T.1 o.toNatClampNeg < T.1 g.toNatClampNeg then ms o.toNatClampNeg - T.1 o.toNatClampNeg else T.1 g.toNatClampNeg
       if 0 < w then (w, (upd (upd T.1 g.toNatClampNeg (T.1 g.toNatClampNeg - w)) o.toNatClampNeg (T.1 o.toNatClampNeg + w), upd T.2.1 o.toNatClampNeg (if T.2.1 g.toNatClampNeg < T.2.1 o.toNatClampNeg then T.2.1 o.toNatClampNeg else T.2.1 g.toNatClampNeg), T.2.2)) else (-3, T))
  else (-1, T)) else (-1, T)
theorem tS_self (S : gx_S) (t : Nat) : S = tS S t (tG S t) := (tS_tG S t).symm
theorem pour_mem (S : gx_S) {t j : Nat} (ht : tb t) (w : Int32) : gx_u2 (gx_u2 S (t + 1) j (S (t + 1) j + w)) (t + 2) j 0 = tS S t (upd (S (t + 1)) j (S (t + 1) j + w), upd (S (t + 2)) j 0, S (t + 3), S t 4) := by
  have h1 : gx_u2 S (t + 1) j (S (t + 1) j + w) = tS S t (upd (S (t + 1)) j (S (t + 1) j + w), S (t + 2), S (t + 3), S t 4) := by
    conv => lhs; rw [tS_self S t]
    rw [tS_u1, tS_1]
    rfl
  rw [h1, tS_u2]
set_option maxRecDepth 10000 in
theorem c_pourInto (d : Nat) {t : Nat} (ht : tb t) (S : gx_S) {ng : Nat} (hng : S 11 0 = nI ng) (h5 : ng ≤ 5) (g n : Int32) (L : gx_L) : Cf (d + 1) mX9_pourInto [.ref t, .int g, .int n] S L (p_pour (S 11 0) (S 12) (tG S t) g n).1 (tS S t (p_pour (S 11 0) (S 12) (tG S t) g n).2) L := by
  refine ct_intro (loc := [some (.ref t), some (.int g), some (.int n), none]) (by decide) (Nat.le_of_ble_eq_true rfl) rfl ?_
  refine ev_ald0 dX9_pourInto_0 ?_
  refine ev_getr (r := 11) dX9_pourInto_1 fl_X9_21 (tp9_0 ht) ?_
  refine ev_ild1 dX9_pourInto_4 ?_
  refine ev_V1i (M' := mX2_hasGlass) dX9_pourInto_5 lk_X9_70 vX2_hasGlass rfl (c_hasGlass d hh11 _ _ _) (Nat.le_refl _) (Nat.le_of_ble_eq_true rfl) ?_
  refine ev_if_ne 13 dX9_pourInto_8 (by decide) (fun c_8 => ?_) (fun c_8 => ?_)
  · have b_8 := gx_b_y.mp c_8
    obtain ⟨j, hj, rfl, ej⟩ := isG_of (by omega) (hng ▸ b_8)
    refine ev_ild2 dX9_pourInto_13 ?_
    refine ev_iconst (v := 1) dX9_pourInto_14 (by decide) ?_
    refine ev_icmp_lt 24 dX9_pourInto_15 (by decide) (fun c_15 => ?_) (fun c_15 => ?_)
    · refine ev_bipush (v := (-2)) dX9_pourInto_24 (by decide) ?_
      refine ev_iret dX9_pourInto_26 ?_
      exact ⟨_, rfl, by simp only [p_pour, tG, if_pos b_8, if_pos c_15, ej, ite_self], by simp only [p_pour, tG, tS_id, if_pos b_8, if_pos c_15, ej, ite_self], rfl⟩
    · refine ev_ild2 dX9_pourInto_18 ?_
      refine ev_bipush (v := 9) dX9_pourInto_19 (by decide) ?_
      refine ev_icmp_le 27 dX9_pourInto_21 (by decide) (fun c_21 => ?_) (fun c_21 => ?_)
      · refine ev_ild2 dX9_pourInto_27 ?_
        refine ev_ald0 dX9_pourInto_28 ?_
        refine ev_ild1 dX9_pourInto_29 ?_
        refine ev_V1i (M' := mX9_roomIn) dX9_pourInto_30 lk_X9_74 vX9_roomIn (cl9 ht) (c_roomIn d ht (by omega) S L) (Nat.le_refl _) (Nat.le_of_ble_eq_true rfl) ?_
        refine ev_min dX9_pourInto_33 lk_X9_77 (Nat.le_add_left 1 _) (Nat.le_of_ble_eq_true rfl) ?_
        refine ev_ist3 dX9_pourInto_36 ?_
        refine ev_ild3 dX9_pourInto_37 ?_
        refine ev_if_gt 44 dX9_pourInto_38 (by decide) (fun c_38 => ?_) (fun c_38 => ?_)
        · refine ev_ald0 dX9_pourInto_44 ?_
          refine ev_getr (r := t + 1) dX9_pourInto_45 fl_X9_9 (tp9_1 ht) ?_
          refine ev_ild1 dX9_pourInto_48 ?_
          refine ev_dup2 dX9_pourInto_49 ?_
          refine ev_iald' dX9_pourInto_50 (ar9_1 ht) (by omega) (by decide) ?_
          refine ev_ild3 dX9_pourInto_51 ?_
          refine ev_iadd dX9_pourInto_52 ?_
          refine ev_iast' dX9_pourInto_53 (ar9_1 ht) (by omega) (by decide) ?_
          refine ev_ald0 dX9_pourInto_54 ?_
          refine ev_getr (r := t + 2) dX9_pourInto_55 fl_X9_15 (tp9_2 ht) ?_
          refine ev_ild1 dX9_pourInto_58 ?_
          refine ev_iconst (v := 0) dX9_pourInto_59 (by decide) ?_
          refine ev_iast' dX9_pourInto_60 (ar9_2 ht) (by omega) (by decide) ?_
          refine ev_ild3 dX9_pourInto_61 ?_
          refine ev_iret dX9_pourInto_62 ?_
          exact ⟨_, rfl, by simp only [p_pour, tG, if_pos b_8, if_neg c_15, if_pos c_21, if_pos c_38, ej, ite_self], by rw [pour_mem S ht]; simp only [p_pour, tG, tS_id, if_pos b_8, if_neg c_15, if_pos c_21, if_pos c_38, ej, ite_self], rfl⟩
        · refine ev_bipush (v := (-3)) dX9_pourInto_41 (by decide) ?_
          refine ev_iret dX9_pourInto_43 ?_
          exact ⟨_, rfl, by simp only [p_pour, tG, if_pos b_8, if_neg c_15, if_pos c_21, if_neg c_38, ej, ite_self], by simp only [p_pour, tG, tS_id, if_pos b_8, if_neg c_15, if_pos c_21, if_neg c_38, ej, ite_self], rfl⟩
      · refine ev_bipush (v := (-2)) dX9_pourInto_24 (by decide) ?_
        refine ev_iret dX9_pourInto_26 ?_
        exact ⟨_, rfl, by simp only [p_pour, tG, if_pos b_8, if_neg c_15, if_neg c_21, ej, ite_self], by simp only [p_pour, tG, tS_id, if_pos b_8, if_neg c_15, if_neg c_21, ej, ite_self], rfl⟩
  · have b_8 := gx_b_n.mp c_8
    refine ev_iconst (v := (-1)) dX9_pourInto_11 (by decide) ?_
    refine ev_iret dX9_pourInto_12 ?_
    exact ⟨_, rfl, by simp only [p_pour, tG, if_neg b_8, ite_self], by simp only [p_pour, tG, tS_id, if_neg b_8, ite_self], rfl⟩
def p_sits (ng nd : Int32) (sb : Nat → Int32) (d g : Int32) : Bool := if isG nd d = true then (if isG ng g = true then bt (sb d.toNatClampNeg) g.toNatClampNeg else false) else false
set_option maxRecDepth 10000 in
theorem c_sits (d : Nat) {h : Nat} (he : hh h) (S : gx_S) {ng : Nat} (hng : S h 0 = nI ng) (h5 : ng ≤ 5) {nd : Nat} (hnd : S h 1 = nI nd) (h4 : nd ≤ 4) (i g : Int32) (L : gx_L) : Cf (d + 1) mX2_sits [.ref h, .int i, .int g] S L (gx_b (p_sits (S h 0) (S h 1) (S (h + 6)) i g)) S L := by
  refine ct_intro (loc := [some (.ref h), some (.int i), some (.int g)]) (by decide) (Nat.le_of_ble_eq_true rfl) rfl ?_
  refine ev_ald0 dX2_sits_0 ?_
  refine ev_ild1 dX2_sits_1 ?_
  refine ev_V1i (M' := mX2_hasDrinker) dX2_sits_2 lk_X2_43 vX2_hasDrinker (cl2 he) (c_hasDrinker d he _ _ _) (Nat.le_refl _) (Nat.le_of_ble_eq_true rfl) ?_
  refine ev_if_eq 33 dX2_sits_5 (by decide) (fun c_5 => ?_) (fun c_5 => ?_)
  · have b_5 := gx_b_n.mp c_5
    refine ev_iconst (v := 0) dX2_sits_33 (by decide) ?_
    refine ev_zret dX2_sits_34 ?_ ?_
    · rfl
    · exact ⟨_, rfl, by simp only [p_sits, if_neg b_5, ite_self] <;> rfl, rfl, rfl⟩
  · have b_5 := gx_b_y.mp c_5
    obtain ⟨j, hj, rfl, ej⟩ := isG_of (by omega) (hnd ▸ b_5)
    refine ev_ald0 dX2_sits_8 ?_
    refine ev_ild2 dX2_sits_9 ?_
    refine ev_V1i (M' := mX2_hasGlass) dX2_sits_10 lk_X2_47 vX2_hasGlass (cl2 he) (c_hasGlass d he _ _ _) (Nat.le_refl _) (Nat.le_of_ble_eq_true rfl) ?_
    refine ev_if_eq 33 dX2_sits_13 (by decide) (fun c_13 => ?_) (fun c_13 => ?_)
    · have b_13 := gx_b_n.mp c_13
      refine ev_iconst (v := 0) dX2_sits_33 (by decide) ?_
      refine ev_zret dX2_sits_34 ?_ ?_
      · rfl
      · exact ⟨_, rfl, by simp only [p_sits, if_pos b_5, if_neg b_13, ej, ite_self] <;> rfl, rfl, rfl⟩
    · have b_13 := gx_b_y.mp c_13
      obtain ⟨k, hk, rfl, ek⟩ := isG_of (by omega) (hng ▸ b_13)
      refine ev_ald0 dX2_sits_16 ?_
      refine ev_getr (r := h + 6) dX2_sits_17 fl_X2_27 (tp2_7 he) ?_
      refine ev_ild1 dX2_sits_20 ?_
      refine ev_iald' dX2_sits_21 (ar2_6 he) (by omega) (by decide) ?_
      refine ev_ild2 dX2_sits_22 ?_
      refine ev_S2i (M' := mX10_hasBit) dX2_sits_23 lk_X2_50 sX10_hasBit (c_hasBit d _ _ _ _) (Nat.le_refl _) (Nat.le_of_ble_eq_true rfl) ?_
      refine ev_if_eq 33 dX2_sits_26 (by decide) (fun c_26 => ?_) (fun c_26 => ?_)
      · have b_26 := gx_b_n.mp c_26
        refine ev_iconst (v := 0) dX2_sits_33 (by decide) ?_
        refine ev_zret dX2_sits_34 ?_ ?_
        · rfl
        · exact ⟨_, rfl, by simp only [p_sits, if_pos b_5, if_pos b_13, ej, ek, ite_self] <;> simp only [gx_b, if_neg b_26, Bool.not_eq_true] , rfl, rfl⟩
      · have b_26 := gx_b_y.mp c_26
        refine ev_iconst (v := 1) dX2_sits_29 (by decide) ?_
        refine ev_goto 34 dX2_sits_30 (by decide) ?_
        refine ev_zret dX2_sits_34 ?_ ?_
        · rfl
        · exact ⟨_, rfl, by simp only [p_sits, if_pos b_5, if_pos b_13, ej, ek, ite_self] <;> simp only [gx_b, if_pos b_26, Bool.not_eq_true] , rfl, rfl⟩
