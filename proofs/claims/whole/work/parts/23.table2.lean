theorem nI_div {a b : Nat} (ha : a < 2 ^ 31) (hb : b < 2 ^ 31) : nI a / nI b = nI (a / b) := by
  apply Int32.toInt_inj.mp
  have hab : a / b ≤ a := Nat.div_le_self a b
  have ht : (a : Int).tdiv (b : Int) = ((a / b : Nat) : Int) := (Int.ofNat_tdiv a b).symm
  rw [Int32.toInt_div, nI_toInt ha, nI_toInt hb, nI_toInt (by omega), ht]
  generalize a / b = q at hab
  exact Int.bmod_eq_of_le (by omega) (by omega)
theorem nI_mul (a b : Nat) : nI a * nI b = nI (a * b) := (Int32.ofNat_mul a b).symm
theorem nI_sub {a b : Nat} (h : b ≤ a) : nI a - nI b = nI (a - b) := by
  have h1 := nI_add (a - b) b
  rw [Nat.sub_add_cancel h] at h1
  rw [← h1, Int32.add_sub_cancel]
theorem nI_rem {a b : Nat} (ha : a < 2 ^ 31) (hb : b < 2 ^ 31) : nI a - nI a / nI b * nI b = nI (a % b) := by
  rw [nI_div ha hb, nI_mul, nI_sub (Nat.div_mul_le_self a b)]
  congr 1
  have := Nat.div_add_mod a b
  rw [Nat.mul_comm] at this
  omega
theorem bt_b (c : Bool) : (gx_b c = 0) = (c = false) := by cases c <;> simp [gx_b]
set_option maxRecDepth 10000 in
theorem c_drinkAt (d : Nat) {t : Nat} (ht : tb t) (S : gx_S) {ng : Nat} (hng : S 11 0 = nI ng) (h5 : ng ≤ 5) {nd : Nat} (hnd : S 11 1 = nI nd) (h4 : nd ≤ 4) (i g : Int32) (L : gx_L) : Cf (d + 2) mX9_drinkAt [.ref t, .int i, .int g] S L (p_drink (S 11 0) (S 11 1) (S 16) (S 17) (tG S t) i g).1 (tS S t (p_drink (S 11 0) (S 11 1) (S 16) (S 17) (tG S t) i g).2) L := by
  refine ct_intro (loc := [some (.ref t), some (.int i), some (.int g)]) (by decide) (Nat.le_of_ble_eq_true rfl) rfl ?_
  refine ev_ald0 dX9_drinkAt_0 ?_
  refine ev_getr (r := 11) dX9_drinkAt_1 fl_X9_21 (tp9_0 ht) ?_
  refine ev_ild1 dX9_drinkAt_4 ?_
  refine ev_V1i (M' := mX2_hasDrinker) dX9_drinkAt_5 lk_X9_80 vX2_hasDrinker rfl (c_hasDrinker (d + 1) hh11 _ _ _) (Nat.le_refl _) (Nat.le_of_ble_eq_true rfl) ?_
  refine ev_if_eq 22 dX9_drinkAt_8 (by decide) (fun c_8 => ?_) (fun c_8 => ?_)
  · have b_8 := gx_b_n.mp c_8
    refine ev_iconst (v := (-1)) dX9_drinkAt_22 (by decide) ?_
    refine ev_iret dX9_drinkAt_23 ?_
    exact ⟨_, rfl, by simp only [p_drink, if_neg b_8, ite_self], by simp only [p_drink, tS_tG, if_neg b_8, ite_self], rfl⟩
  · have b_8 := gx_b_y.mp c_8
    have b8 := b_8
    obtain ⟨j, hj, rfl, ej⟩ := isG_of (by omega) (hnd ▸ b_8)
    refine ev_ald0 dX9_drinkAt_11 ?_
    refine ev_getr (r := 11) dX9_drinkAt_12 fl_X9_21 (tp9_0 ht) ?_
    refine ev_ild2 dX9_drinkAt_15 ?_
    refine ev_V1i (M' := mX2_hasGlass) dX9_drinkAt_16 lk_X9_70 vX2_hasGlass rfl (c_hasGlass (d + 1) hh11 _ _ _) (Nat.le_refl _) (Nat.le_of_ble_eq_true rfl) ?_
    refine ev_if_ne 24 dX9_drinkAt_19 (by decide) (fun c_19 => ?_) (fun c_19 => ?_)
    · have b_19 := gx_b_y.mp c_19
      have b19 := b_19
      obtain ⟨k, hk, rfl, ek⟩ := isG_of (by omega) (hng ▸ b_19)
      refine ev_ald0 dX9_drinkAt_24 ?_
      refine ev_getr (r := 11) dX9_drinkAt_25 fl_X9_21 (tp9_0 ht) ?_
      refine ev_ild1 dX9_drinkAt_28 ?_
      refine ev_ild2 dX9_drinkAt_29 ?_
      refine ev_V2i (M' := mX2_sits) dX9_drinkAt_30 lk_X9_59 vX2_sits rfl (c_sits d hh11 S hng h5 hnd h4 _ _ L) (Nat.le_refl _) (Nat.le_of_ble_eq_true rfl) ?_
      refine ev_if_eq 45 dX9_drinkAt_33 (by decide) (fun c_33 => ?_) (fun c_33 => ?_)
      · have b_33 := gx_b_n.mp c_33
        simp only [p_sits, ej, ek, if_pos b_8, if_pos b_19] at b_33
        refine ev_bipush (v := (-3)) dX9_drinkAt_45 (by decide) ?_
        refine ev_iret dX9_drinkAt_47 ?_
        exact ⟨_, rfl, by simp only [p_drink, if_pos b_8, if_pos b_19, if_neg b_33, ej, ek, ite_self], by simp only [p_drink, tS_tG, if_pos b_8, if_pos b_19, if_neg b_33, ej, ek, ite_self], rfl⟩
      · have b_33 := gx_b_y.mp c_33
        simp only [p_sits, ej, ek, if_pos b_8, if_pos b_19] at b_33
        refine ev_ald0 dX9_drinkAt_36 ?_
        refine ev_ild1 dX9_drinkAt_37 ?_
        refine ev_ild2 dX9_drinkAt_38 ?_
        refine ev_V2i (M' := mX9_swallow) dX9_drinkAt_39 lk_X9_83 vX9_swallow (cl9 ht) (c_swallow (d) ht (by omega) (by omega) S L) (Nat.le_refl _) (Nat.le_of_ble_eq_true rfl) ?_
        refine ev_goto 47 dX9_drinkAt_42 (by decide) ?_
        refine ev_iret dX9_drinkAt_47 ?_
        exact ⟨_, rfl, by simp only [p_drink, if_pos b_8, if_pos b_19, if_pos b_33, ej, ek, ite_self], by simp only [p_drink, tS_tG, if_pos b_8, if_pos b_19, if_pos b_33, ej, ek, ite_self], rfl⟩
    · have b_19 := gx_b_n.mp c_19
      refine ev_iconst (v := (-1)) dX9_drinkAt_22 (by decide) ?_
      refine ev_iret dX9_drinkAt_23 ?_
      exact ⟨_, rfl, by simp only [p_drink, if_pos b_8, if_neg b_19, ej, ite_self], by simp only [p_drink, tS_tG, if_pos b_8, if_neg b_19, ej, ite_self], rfl⟩
theorem tip_mem (S : gx_S) {t j k : Nat} (ht : tb t) (hjk : ¬ nI j = nI k) (w : Int32) : gx_u2 (gx_u2 (gx_u2 S (t + 1) j (S (t + 1) j - w)) (t + 1) k (gx_u2 S (t + 1) j (S (t + 1) j - w) (t + 1) k + w)) (t + 2) k (if gx_u2 (gx_u2 S (t + 1) j (S (t + 1) j - w)) (t + 1) k (gx_u2 S (t + 1) j (S (t + 1) j - w) (t + 1) k + w) (t + 2) j < gx_u2 (gx_u2 S (t + 1) j (S (t + 1) j - w)) (t + 1) k (gx_u2 S (t + 1) j (S (t + 1) j - w) (t + 1) k + w) (t + 2) k then gx_u2 (gx_u2 S (t + 1) j (S (t + 1) j - w)) (t + 1) k (gx_u2 S (t + 1) j (S (t + 1) j - w) (t + 1) k + w) (t + 2) k else gx_u2 (gx_u2 S (t + 1) j (S (t + 1) j - w)) (t + 1) k (gx_u2 S (t + 1) j (S (t + 1) j - w) (t + 1) k + w) (t + 2) j) = tS S t (upd (upd (S (t + 1)) j (S (t + 1) j - w)) k (S (t + 1) k + w), upd (S (t + 2)) k (if S (t + 2) j < S (t + 2) k then S (t + 2) k else S (t + 2) j), S (t + 3), S t 4) := by
  have hne : k ≠ j := fun h => hjk (by rw [h])
  rw [u2_k S (t + 1) _ hne]
  have h1 : gx_u2 S (t + 1) j (S (t + 1) j - w) = tS S t (upd (S (t + 1)) j (S (t + 1) j - w), S (t + 2), S (t + 3), S t 4) := by
    conv => lhs; rw [tS_self S t]
    rw [tS_u1, tS_1]
    rfl
  rw [h1, tS_u1, tS_2, tS_u2]
set_option maxRecDepth 10000 in
theorem c_tipOver (d : Nat) {t : Nat} (ht : tb t) (S : gx_S) {ng : Nat} (hng : S 11 0 = nI ng) (h5 : ng ≤ 5) (g q : Int32) (L : gx_L) : Cf (d + 1) mX9_tipOver [.ref t, .int g, .int q] S L (p_tip (S 11 0) (S 12) (tG S t) g q).1 (tS S t (p_tip (S 11 0) (S 12) (tG S t) g q).2) L := by
  refine ct_intro (loc := [some (.ref t), some (.int g), some (.int q), none]) (by decide) (Nat.le_of_ble_eq_true rfl) rfl ?_
  refine ev_ald0 dX9_tipOver_0 ?_
  refine ev_getr (r := 11) dX9_tipOver_1 fl_X9_21 (tp9_0 ht) ?_
  refine ev_ild1 dX9_tipOver_4 ?_
  refine ev_V1i (M' := mX2_hasGlass) dX9_tipOver_5 lk_X9_70 vX2_hasGlass rfl (c_hasGlass d hh11 _ _ _) (Nat.le_refl _) (Nat.le_of_ble_eq_true rfl) ?_
  refine ev_if_eq 22 dX9_tipOver_8 (by decide) (fun c_8 => ?_) (fun c_8 => ?_)
  · have b_8 := gx_b_n.mp c_8
    refine ev_iconst (v := (-1)) dX9_tipOver_22 (by decide) ?_
    refine ev_iret dX9_tipOver_23 ?_
    exact ⟨_, rfl, by simp only [p_tip, tG, if_neg b_8, ite_self], by simp only [p_tip, tG, tS_id, if_neg b_8, ite_self], rfl⟩
  · have b_8 := gx_b_y.mp c_8
    obtain ⟨j, hj, rfl, ej⟩ := isG_of (by omega) (hng ▸ b_8)
    refine ev_ald0 dX9_tipOver_11 ?_
    refine ev_getr (r := 11) dX9_tipOver_12 fl_X9_21 (tp9_0 ht) ?_
    refine ev_ild2 dX9_tipOver_15 ?_
    refine ev_V1i (M' := mX2_hasGlass) dX9_tipOver_16 lk_X9_70 vX2_hasGlass rfl (c_hasGlass d hh11 _ _ _) (Nat.le_refl _) (Nat.le_of_ble_eq_true rfl) ?_
    refine ev_if_ne 24 dX9_tipOver_19 (by decide) (fun c_19 => ?_) (fun c_19 => ?_)
    · have b_19 := gx_b_y.mp c_19
      obtain ⟨k, hk, rfl, ek⟩ := isG_of (by omega) (hng ▸ b_19)
      refine ev_ild1 dX9_tipOver_24 ?_
      refine ev_ild2 dX9_tipOver_25 ?_
      refine ev_icmp_ne 32 dX9_tipOver_26 (by decide) (fun c_26 => ?_) (fun c_26 => ?_)
      · refine ev_ald0 dX9_tipOver_32 ?_
        refine ev_getr (r := t + 1) dX9_tipOver_33 fl_X9_9 (tp9_1 ht) ?_
        refine ev_ild1 dX9_tipOver_36 ?_
        refine ev_iald' dX9_tipOver_37 (ar9_1 ht) (by omega) (by decide) ?_
        refine ev_ald0 dX9_tipOver_38 ?_
        refine ev_ild2 dX9_tipOver_39 ?_
        refine ev_V1i (M' := mX9_roomIn) dX9_tipOver_40 lk_X9_74 vX9_roomIn (cl9 ht) (c_roomIn d ht (by omega) S L) (Nat.le_refl _) (Nat.le_of_ble_eq_true rfl) ?_
        refine ev_min dX9_tipOver_43 lk_X9_77 (Nat.le_add_left 1 _) (Nat.le_of_ble_eq_true rfl) ?_
        refine ev_ist3 dX9_tipOver_46 ?_
        refine ev_ild3 dX9_tipOver_47 ?_
        refine ev_if_gt 54 dX9_tipOver_48 (by decide) (fun c_48 => ?_) (fun c_48 => ?_)
        · refine ev_ald0 dX9_tipOver_54 ?_
          refine ev_getr (r := t + 1) dX9_tipOver_55 fl_X9_9 (tp9_1 ht) ?_
          refine ev_ild1 dX9_tipOver_58 ?_
          refine ev_dup2 dX9_tipOver_59 ?_
          refine ev_iald' dX9_tipOver_60 (ar9_1 ht) (by omega) (by decide) ?_
          refine ev_ild3 dX9_tipOver_61 ?_
          refine ev_isub dX9_tipOver_62 ?_
          refine ev_iast' dX9_tipOver_63 (ar9_1 ht) (by omega) (by decide) ?_
          refine ev_ald0 dX9_tipOver_64 ?_
          refine ev_getr (r := t + 1) dX9_tipOver_65 fl_X9_9 (tp9_1 ht) ?_
          refine ev_ild2 dX9_tipOver_68 ?_
          refine ev_dup2 dX9_tipOver_69 ?_
          refine ev_iald' dX9_tipOver_70 (ar9_1 ht) (by omega) (by decide) ?_
          refine ev_ild3 dX9_tipOver_71 ?_
          refine ev_iadd dX9_tipOver_72 ?_
          refine ev_iast' dX9_tipOver_73 (ar9_1 ht) (by omega) (by decide) ?_
          refine ev_ald0 dX9_tipOver_74 ?_
          refine ev_getr (r := t + 2) dX9_tipOver_75 fl_X9_15 (tp9_2 ht) ?_
          refine ev_ild2 dX9_tipOver_78 ?_
          refine ev_ald0 dX9_tipOver_79 ?_
          refine ev_getr (r := t + 2) dX9_tipOver_80 fl_X9_15 (tp9_2 ht) ?_
          refine ev_ild1 dX9_tipOver_83 ?_
          refine ev_iald' dX9_tipOver_84 (ar9_2 ht) (by omega) (by decide) ?_
          refine ev_ald0 dX9_tipOver_85 ?_
          refine ev_getr (r := t + 2) dX9_tipOver_86 fl_X9_15 (tp9_2 ht) ?_
          refine ev_ild2 dX9_tipOver_89 ?_
          refine ev_iald' dX9_tipOver_90 (ar9_2 ht) (by omega) (by decide) ?_
          refine ev_max dX9_tipOver_91 lk_X9_46 (Nat.le_add_left 1 _) (Nat.le_of_ble_eq_true rfl) ?_
          refine ev_iast' dX9_tipOver_94 (ar9_2 ht) (by omega) (by decide) ?_
          refine ev_ild3 dX9_tipOver_95 ?_
          refine ev_iret dX9_tipOver_96 ?_
          exact ⟨_, rfl, by simp only [p_tip, tG, if_pos b_8, if_pos b_19, if_neg c_26, if_pos c_48, ej, ek, ite_self], by rw [tip_mem S ht c_26]; simp only [p_tip, tG, tS_id, if_pos b_8, if_pos b_19, if_neg c_26, if_pos c_48, ej, ek, ite_self], rfl⟩
        · refine ev_bipush (v := (-3)) dX9_tipOver_51 (by decide) ?_
          refine ev_iret dX9_tipOver_53 ?_
          exact ⟨_, rfl, by simp only [p_tip, tG, if_pos b_8, if_pos b_19, if_neg c_26, if_neg c_48, ej, ek, ite_self], by simp only [p_tip, tG, tS_id, if_pos b_8, if_pos b_19, if_neg c_26, if_neg c_48, ej, ek, ite_self], rfl⟩
      · refine ev_bipush (v := (-2)) dX9_tipOver_29 (by decide) ?_
        refine ev_iret dX9_tipOver_31 ?_
        exact ⟨_, rfl, by simp only [p_tip, tG, if_pos b_8, if_pos b_19, if_pos c_26, ej, ek, ite_self], by simp only [p_tip, tG, tS_id, if_pos b_8, if_pos b_19, if_pos c_26, ej, ek, ite_self], rfl⟩
    · have b_19 := gx_b_n.mp c_19
      refine ev_iconst (v := (-1)) dX9_tipOver_22 (by decide) ?_
      refine ev_iret dX9_tipOver_23 ?_
      exact ⟨_, rfl, by simp only [p_tip, tG, if_pos b_8, if_neg b_19, ej, ite_self], by simp only [p_tip, tG, tS_id, if_pos b_8, if_neg b_19, ej, ite_self], rfl⟩
def p_age (a : Int32) : Int32 := if a + 1 < 9 then a + 1 else 9
def p_ageT (gk : Nat → Int32) (T : Tb) (g : Nat) : Tb := if gk g = 1 then (upd T.1 g (T.1 g - 1), upd T.2.1 g (p_age (T.2.1 g)), T.2.2) else if gk g = 2 then (if p_age (T.2.1 g) = 1 then (upd T.1 g (T.1 g - T.1 g / 4), upd T.2.1 g (p_age (T.2.1 g)), T.2.2) else (T.1, upd T.2.1 g (p_age (T.2.1 g)), T.2.2)) else (T.1, upd T.2.1 g (p_age (T.2.1 g)), T.2.2)
theorem age_rd (S : gx_S) (t g : Nat) (x : Int32) : tS S t (S (t + 1), upd (S (t + 2)) g x, S (t + 3), S t 4) (t + 2) g = x := by
  rw [tS_2]
  exact upd_at _ _ _
theorem age_m (S : gx_S) {t g : Nat} (x : Int32) : gx_u2 S (t + 2) g x = tS S t (S (t + 1), upd (S (t + 2)) g x, S (t + 3), S t 4) := by
  conv => lhs; rw [tS_self S t]
  rw [tS_u2]
  rfl
set_option maxRecDepth 10000 in
theorem c_ageByHour (d : Nat) {t g : Nat} (ht : tb t) (hg : g < 5) (S : gx_S) (L : gx_L) : Cw (d + 1) mX9_ageByHour [.ref t, .int (nI g)] S L (tS S t (p_ageT (S 14) (tG S t) g)) L := by
  refine ct_intro (loc := [some (.ref t), some (.int (nI g))]) (by decide) (Nat.le_of_ble_eq_true rfl) rfl ?_
  have n14 := (p_aroundN_S (S := S) (dr := 0) ht (S (t + 1), upd (S (t + 2)) g (p_age (S (t + 2) g)), S (t + 3), S t 4)).2.2.2.1
  refine ev_ald0 dX9_ageByHour_0 ?_
  refine ev_getr (r := t + 2) dX9_ageByHour_1 fl_X9_15 (tp9_2 ht) ?_
  refine ev_ild1 dX9_ageByHour_4 ?_
  refine ev_bipush (v := 9) dX9_ageByHour_5 (by decide) ?_
  refine ev_ald0 dX9_ageByHour_7 ?_
  refine ev_getr (r := t + 2) dX9_ageByHour_8 fl_X9_15 (tp9_2 ht) ?_
  refine ev_ild1 dX9_ageByHour_11 ?_
  refine ev_iald' dX9_ageByHour_12 (ar9_2 ht) (by omega) (by decide) ?_
  refine ev_iconst (v := 1) dX9_ageByHour_13 (by decide) ?_
  refine ev_iadd dX9_ageByHour_14 ?_
  refine ev_min dX9_ageByHour_15 lk_X9_77 (Nat.le_add_left 1 _) (Nat.le_of_ble_eq_true rfl) ?_
  refine ev_iast' dX9_ageByHour_18 (ar9_2 ht) (by omega) (by decide) ?_
  refine ev_mem (age_m S (p_age (S (t + 2) g))) ?_
  refine ev_ald0 dX9_ageByHour_19 ?_
  refine ev_getr (r := 11) dX9_ageByHour_20 fl_X9_21 (tp9_0 ht) ?_
  refine ev_getr (r := 14) dX9_ageByHour_23 fl_X9_43 rfl ?_
  refine ev_ild1 dX9_ageByHour_26 ?_
  refine ev_iald' dX9_ageByHour_27 rfl (by omega) (by decide) ?_
  rw [n14]
  refine ev_iconst (v := 1) dX9_ageByHour_28 (by decide) ?_
  refine ev_icmp_ne 45 dX9_ageByHour_29 (by decide) (fun c_29 => ?_) (fun c_29 => ?_)
  · refine ev_ald0 dX9_ageByHour_45 ?_
    refine ev_getr (r := 11) dX9_ageByHour_46 fl_X9_21 (tp9_0 ht) ?_
    refine ev_getr (r := 14) dX9_ageByHour_49 fl_X9_43 rfl ?_
    refine ev_ild1 dX9_ageByHour_52 ?_
    refine ev_iald' dX9_ageByHour_53 rfl (by omega) (by decide) ?_
    rw [n14]
    refine ev_iconst (v := 2) dX9_ageByHour_54 (by decide) ?_
    refine ev_icmp_ne 85 dX9_ageByHour_55 (by decide) (fun c_55 => ?_) (fun c_55 => ?_)
    · refine ev_vret dX9_ageByHour_85 ?_
      exact ⟨rfl, by unfold p_ageT; rw [if_neg c_29, if_neg c_55]; rfl, rfl⟩
    · refine ev_ald0 dX9_ageByHour_58 ?_
      refine ev_getr (r := t + 2) dX9_ageByHour_59 fl_X9_15 (tp9_2 ht) ?_
      refine ev_ild1 dX9_ageByHour_62 ?_
      refine ev_iald' dX9_ageByHour_63 (ar9_2 ht) (by omega) (by decide) ?_
      rw [age_rd]
      refine ev_iconst (v := 1) dX9_ageByHour_64 (by decide) ?_
      refine ev_icmp_ne 85 dX9_ageByHour_65 (by decide) (fun c_65 => ?_) (fun c_65 => ?_)
      · refine ev_vret dX9_ageByHour_85 ?_
        exact ⟨rfl, by unfold p_ageT; rw [if_neg c_29, if_pos c_55, if_neg (show ¬ p_age ((tG S t).2.1 g) = 1 from c_65)]; rfl, rfl⟩
      · refine ev_ald0 dX9_ageByHour_68 ?_
        refine ev_getr (r := t + 1) dX9_ageByHour_69 fl_X9_9 (tp9_1 ht) ?_
        refine ev_ild1 dX9_ageByHour_72 ?_
        refine ev_dup2 dX9_ageByHour_73 ?_
        refine ev_iald' dX9_ageByHour_74 (ar9_1 ht) (by omega) (by decide) ?_
        rw [tS_1]
        refine ev_ald0 dX9_ageByHour_75 ?_
        refine ev_getr (r := t + 1) dX9_ageByHour_76 fl_X9_9 (tp9_1 ht) ?_
        refine ev_ild1 dX9_ageByHour_79 ?_
        refine ev_iald' dX9_ageByHour_80 (ar9_1 ht) (by omega) (by decide) ?_
        rw [tS_1]
        refine ev_iconst (v := 4) dX9_ageByHour_81 (by decide) ?_
        refine ev_idiv dX9_ageByHour_82 (by decide) ?_
        refine ev_isub dX9_ageByHour_83 ?_
        refine ev_iast' dX9_ageByHour_84 (ar9_1 ht) (by omega) (by decide) ?_
        rw [tS_u1]
        refine ev_vret dX9_ageByHour_85 ?_
        exact ⟨rfl, by unfold p_ageT; rw [if_neg c_29, if_pos c_55, if_pos (show p_age ((tG S t).2.1 g) = 1 from c_65)]; rfl, rfl⟩
  · refine ev_ald0 dX9_ageByHour_32 ?_
    refine ev_getr (r := t + 1) dX9_ageByHour_33 fl_X9_9 (tp9_1 ht) ?_
    refine ev_ild1 dX9_ageByHour_36 ?_
    refine ev_dup2 dX9_ageByHour_37 ?_
    refine ev_iald' dX9_ageByHour_38 (ar9_1 ht) (by omega) (by decide) ?_
    rw [tS_1]
    refine ev_iconst (v := 1) dX9_ageByHour_39 (by decide) ?_
    refine ev_isub dX9_ageByHour_40 ?_
    refine ev_iast' dX9_ageByHour_41 (ar9_1 ht) (by omega) (by decide) ?_
    rw [tS_u1]
    refine ev_goto 85 dX9_ageByHour_42 (by decide) ?_
    refine ev_vret dX9_ageByHour_85 ?_
    exact ⟨rfl, by unfold p_ageT; rw [if_pos c_29]; rfl, rfl⟩
def p_hourN (gk : Nat → Int32) (T : Tb) : Nat → Tb
  | 0 => T
  | n + 1 => if (p_hourN gk T n).1 n ≤ 0 then p_hourN gk T n else p_ageT gk (p_hourN gk T n) n
def p_hourT (gk : Nat → Int32) (T : Tb) : Tb := ((p_hourN gk T 5).1, (p_hourN gk T 5).2.1, (p_hourN gk T 5).2.2.1, (p_hourN gk T 5).2.2.2 + 1)
theorem c_ageByHourT (d : Nat) {t g : Nat} (ht : tb t) (hg : g < 5) (S : gx_S) (T : Tb) (L : gx_L) : Cw (d + 1) mX9_ageByHour [.ref t, .int (nI g)] (tS S t T) L (tS S t (p_ageT (S 14) T g)) L := by
  have h := c_ageByHour d ht hg (tS S t T) L
  rw [tG_tS, tS_tS, (p_aroundN_S (dr := 0) ht T).2.2.2.1] at h
  exact h
theorem c_taxesT (d : Nat) {t : Nat} (ht : tb t) (S : gx_S) (T : Tb) (L : gx_L) : Cf (d + 2) mX9_taxes [.ref t] (tS S t T) L (p_taxes (S 14) (S 12) T) (tS S t T) L := by
  have h := c_taxes d ht (tS S t T) L
  rw [tG_tS, (p_aroundN_S (dr := 0) ht T).2.2.2.1, (p_aroundN_S (dr := 0) ht T).2.2.1] at h
  exact h
set_option maxRecDepth 10000 in
theorem l_hour (d : Nat) {t : Nat} (ht : tb t) (S : gx_S) (L : gx_L) {Q : Option Value → gx_S → gx_L → Prop}  (kk : Ev mX9_passHour (d + 3) 27 [some (.ref t), some (.int (nI (5)))] [] (tS S t (p_hourN (S 14) (tG S t) (5))) L Q) : ∀ (nn i : Nat), i + nn = 5 → Ev mX9_passHour (d + 3) 2 [some (.ref t), some (.int (nI (i)))] [] (tS S t (p_hourN (S 14) (tG S t) (i))) L Q := by
  intro nn
  induction nn with
  | zero =>
    intro i hi
    obtain rfl : i = 5 := hi
    refine ev_ild1 dX9_passHour_2 ?_
    refine ev_iconst (v := 5) dX9_passHour_3 (by decide) ?_
    refine ev_icmp_ge_t 27 dX9_passHour_4 (by decide) (by decide) ?_
    exact kk
  | succ nn ih =>
    intro i hi
    refine ev_ild1 dX9_passHour_2 ?_
    refine ev_iconst (v := 5) dX9_passHour_3 (by decide) ?_
    refine ev_icmp_ge_f 27 dX9_passHour_4 (by decide) (nI_ge (b := 5) (by omega) (by decide)) ?_
    refine ev_ald0 dX9_passHour_7 ?_
    refine ev_getr (r := t + 1) dX9_passHour_8 fl_X9_9 (tp9_1 ht) ?_
    refine ev_ild1 dX9_passHour_11 ?_
    refine ev_iald' dX9_passHour_12 (ar9_1 ht) (by omega) (by decide) ?_
    rw [tS_1]
    refine ev_if_le 21 dX9_passHour_13 (by decide) (fun c_13 => ?_) (fun c_13 => ?_)
    · refine ev_inc1 dX9_passHour_21 (nI_inc _) ?_
      refine ev_goto 2 dX9_passHour_24 (by decide) ?_
      have e := ih (i + 1) (by omega)
      simp only [p_hourN, if_pos c_13, ite_self] at e
      exact e
    · refine ev_ald0 dX9_passHour_16 ?_
      refine ev_ild1 dX9_passHour_17 ?_
      refine ev_V1v (M' := mX9_ageByHour) dX9_passHour_18 lk_X9_86 vX9_ageByHour (cl9 ht) (c_ageByHourT (d + 1) ht (by omega) S _ L) (Nat.le_refl _) (Nat.le_of_ble_eq_true rfl) ?_
      refine ev_inc1 dX9_passHour_21 (nI_inc _) ?_
      refine ev_goto 2 dX9_passHour_24 (by decide) ?_
      have e := ih (i + 1) (by omega)
      simp only [p_hourN, if_neg c_13, ite_self] at e
      exact e
set_option maxRecDepth 10000 in
theorem c_passHour (d : Nat) {t : Nat} (ht : tb t) (S : gx_S) (L : gx_L) : Cf (d + 3) mX9_passHour [.ref t] S L (p_taxes (S 14) (S 12) (p_hourT (S 14) (tG S t))) (tS S t (p_hourT (S 14) (tG S t))) L := by
  refine ct_intro (loc := [some (.ref t), none]) (by decide) (Nat.le_of_ble_eq_true rfl) rfl ?_
  refine ev_iconst (v := 0) dX9_passHour_0 (by decide) ?_
  refine ev_ist1 dX9_passHour_1 ?_
  refine ev_mem (tS_tG S t).symm ?_
  refine l_hour d ht S L ?_ 5 0 rfl
  refine ev_ald0 dX9_passHour_27 ?_
  refine ev_dupr dX9_passHour_28 ?_
  refine ev_geti dX9_passHour_29 fl_X9_31 (tp9_4 ht) ?_
  rw [tS_4]
  refine ev_iconst (v := 1) dX9_passHour_32 (by decide) ?_
  refine ev_iadd dX9_passHour_33 ?_
  refine ev_puti dX9_passHour_34 fp_X9_31 (tp9_4 ht) ?_
  rw [tS_u4]
  refine ev_ald0 dX9_passHour_37 ?_
  refine ev_V0i (M' := mX9_taxes) dX9_passHour_38 lk_X9_90 vX9_taxes (cl9 ht) (c_taxesT d ht S _ L) (Nat.le_refl _) (Nat.le_of_ble_eq_true rfl) ?_
  refine ev_iret dX9_passHour_41 ?_
  exact ⟨_, rfl, rfl, rfl, rfl⟩
def allB (p : Nat → Bool) : Nat → Bool
  | 0 => true
  | n + 1 => allB p n && p n
theorem allB_t {p : Nat → Bool} : ∀ {n : Nat}, (∀ i, i < n → p i = true) → allB p n = true
  | 0, _ => rfl
  | n + 1, h => by
    unfold allB
    rw [allB_t (fun i hi => h i (by omega)), h n (by omega)]
    rfl
theorem allB_f {p : Nat → Bool} {i : Nat} (hp : p i = false) : ∀ {n : Nat}, i < n → allB p n = false
  | 0, h => absurd h (by omega)
  | n + 1, h => by
    unfold allB
    rcases Nat.lt_or_ge i n with h1 | h1
    · rw [allB_f hp h1]
      rfl
    · have : i = n := by omega
      subst this
      rw [hp, Bool.and_false]
def p_quN (dk th : Nat → Int32) (i : Nat) : Bool := if th i ≤ 0 then true else if dk i = 3 then true else false
set_option maxRecDepth 10000 in
theorem l_quench (d : Nat) {t : Nat} (ht : tb t) (S : gx_S) (L : gx_L) {Q : Option Value → gx_S → gx_L → Prop} (kf : ∀ i, i < 4 → p_quN (S 16) (S (t + 3)) i = false → Q (some (.int 0)) S L) (kk : Ev mX9_isQuenched (d) 37 [some (.ref t), some (.int (nI (4)))] [] (S) L Q) : ∀ (nn i : Nat), i + nn = 4 → Ev mX9_isQuenched (d) 2 [some (.ref t), some (.int (nI (i)))] [] (S) L Q := by
  intro nn
  induction nn with
  | zero =>
    intro i hi
    obtain rfl : i = 4 := hi
    refine ev_ild1 dX9_isQuenched_2 ?_
    refine ev_iconst (v := 4) dX9_isQuenched_3 (by decide) ?_
    refine ev_icmp_ge_t 37 dX9_isQuenched_4 (by decide) (by decide) ?_
    exact kk
  | succ nn ih =>
    intro i hi
    refine ev_ild1 dX9_isQuenched_2 ?_
    refine ev_iconst (v := 4) dX9_isQuenched_3 (by decide) ?_
    refine ev_icmp_ge_f 37 dX9_isQuenched_4 (by decide) (nI_ge (b := 4) (by omega) (by decide)) ?_
    refine ev_ald0 dX9_isQuenched_7 ?_
    refine ev_getr (r := t + 3) dX9_isQuenched_8 fl_X9_18 (tp9_3 ht) ?_
    refine ev_ild1 dX9_isQuenched_11 ?_
    refine ev_iald' dX9_isQuenched_12 (ar9_3 ht) (by omega) (by decide) ?_
    refine ev_if_le 31 dX9_isQuenched_13 (by decide) (fun c_13 => ?_) (fun c_13 => ?_)
    · refine ev_inc1 dX9_isQuenched_31 (nI_inc _) ?_
      refine ev_goto 2 dX9_isQuenched_34 (by decide) ?_
      exact ih (i + 1) (by omega)
    · refine ev_ald0 dX9_isQuenched_16 ?_
      refine ev_getr (r := 11) dX9_isQuenched_17 fl_X9_21 (tp9_0 ht) ?_
      refine ev_getr (r := 16) dX9_isQuenched_20 fl_X9_63 rfl ?_
      refine ev_ild1 dX9_isQuenched_23 ?_
      refine ev_iald' dX9_isQuenched_24 rfl (by omega) (by decide) ?_
      refine ev_iconst (v := 3) dX9_isQuenched_25 (by decide) ?_
      refine ev_icmp_eq 31 dX9_isQuenched_26 (by decide) (fun c_26 => ?_) (fun c_26 => ?_)
      · refine ev_inc1 dX9_isQuenched_31 (nI_inc _) ?_
        refine ev_goto 2 dX9_isQuenched_34 (by decide) ?_
        exact ih (i + 1) (by omega)
      · refine ev_iconst (v := 0) dX9_isQuenched_29 (by decide) ?_
        refine ev_zret dX9_isQuenched_30 ?_ ?_
        · rfl
        · exact kf i (by omega) (by simp only [p_quN, if_neg c_13, if_neg c_26, ite_self])
set_option maxRecDepth 10000 in
theorem c_isQuenched (d : Nat) {t : Nat} (ht : tb t) (S : gx_S) (L : gx_L) : Cf d mX9_isQuenched [.ref t] S L (gx_b (allB (p_quN (S 16) (S (t + 3))) 4)) S L := by
  refine ct_intro (loc := [some (.ref t), none]) (by decide) (Nat.le_of_ble_eq_true rfl) rfl ?_
  refine ev_iconst (v := 0) dX9_isQuenched_0 (by decide) ?_
  refine ev_ist1 dX9_isQuenched_1 ?_
  have loop : ∀ (n i : Nat), i + n = 4 → (∀ k, k < i → p_quN (S 16) (S (t + 3)) k = true) → Ev mX9_isQuenched d 2 [some (.ref t), some (.int (nI i))] [] S L (fun v S' L' => ∃ r : Int32, v = some (.int r) ∧ r = gx_b (allB (p_quN (S 16) (S (t + 3))) 4) ∧ S' = S ∧ L' = L) := by
    intro n
    induction n with
    | zero =>
      intro i hi hall
      obtain rfl : i = 4 := hi
      refine ev_ild1 dX9_isQuenched_2 ?_
      refine ev_iconst (v := 4) dX9_isQuenched_3 (by decide) ?_
      refine ev_icmp_ge_t 37 dX9_isQuenched_4 (by decide) (by decide) ?_
      refine ev_iconst (v := 1) dX9_isQuenched_37 (by decide) ?_
      refine ev_zret dX9_isQuenched_38 ?_ ?_
      · rfl
      · exact ⟨_, rfl, by rw [allB_t hall]; rfl, rfl, rfl⟩
    | succ n ih =>
      intro i hi hall
      refine ev_ild1 dX9_isQuenched_2 ?_
      refine ev_iconst (v := 4) dX9_isQuenched_3 (by decide) ?_
      refine ev_icmp_ge_f 37 dX9_isQuenched_4 (by decide) (nI_ge (b := 4) (by omega) (by decide)) ?_
      refine ev_ald0 dX9_isQuenched_7 ?_
      refine ev_getr (r := t + 3) dX9_isQuenched_8 fl_X9_18 (tp9_3 ht) ?_
      refine ev_ild1 dX9_isQuenched_11 ?_
      refine ev_iald' dX9_isQuenched_12 (ar9_3 ht) (by omega) (by decide) ?_
      refine ev_if_le 31 dX9_isQuenched_13 (by decide) (fun c_13 => ?_) (fun c_13 => ?_)
      · refine ev_inc1 dX9_isQuenched_31 (nI_inc _) ?_
        refine ev_goto 2 dX9_isQuenched_34 (by decide) ?_
        exact ih (i + 1) (by omega) (fun k hk => by
          rcases Nat.lt_or_ge k i with h9 | h9
          · exact hall k h9
          · obtain rfl : k = i := by omega
            simp only [p_quN, if_pos c_13, ite_self])
      · refine ev_ald0 dX9_isQuenched_16 ?_
        refine ev_getr (r := 11) dX9_isQuenched_17 fl_X9_21 (tp9_0 ht) ?_
        refine ev_getr (r := 16) dX9_isQuenched_20 fl_X9_63 rfl ?_
        refine ev_ild1 dX9_isQuenched_23 ?_
        refine ev_iald' dX9_isQuenched_24 rfl (by omega) (by decide) ?_
        refine ev_iconst (v := 3) dX9_isQuenched_25 (by decide) ?_
        refine ev_icmp_eq 31 dX9_isQuenched_26 (by decide) (fun c_26 => ?_) (fun c_26 => ?_)
        · refine ev_inc1 dX9_isQuenched_31 (nI_inc _) ?_
          refine ev_goto 2 dX9_isQuenched_34 (by decide) ?_
          exact ih (i + 1) (by omega) (fun k hk => by
            rcases Nat.lt_or_ge k i with h9 | h9
            · exact hall k h9
            · obtain rfl : k = i := by omega
              simp only [p_quN, if_neg c_13, if_pos c_26, ite_self])
        · refine ev_iconst (v := 0) dX9_isQuenched_29 (by decide) ?_
          refine ev_zret dX9_isQuenched_30 ?_ ?_
          · rfl
          · exact ⟨_, rfl, by rw [allB_f (i := i) (by simp only [p_quN, if_neg c_13, if_neg c_26, ite_self]) (by omega)]; rfl, rfl, rfl⟩
  exact loop 4 0 rfl (fun k hk => absurd hk (by omega))
def p_fillN (ms : Nat → Int32) (bits : Int32) (T : Tb) : Nat → Tb
  | 0 => T
  | n + 1 => (upd (p_fillN ms bits T n).1 n (if bt bits n = true then ms n else 0), upd (p_fillN ms bits T n).2.1 n 0, (p_fillN ms bits T n).2.2)
set_option maxRecDepth 10000 in
theorem l_fill (d : Nat) {t : Nat} (ht : tb t) (bits : Int32) (S : gx_S) (L : gx_L) {Q : Option Value → gx_S → gx_L → Prop}  (kk : Ev mX9_fillOnly (d + 1) 47 [some (.ref t), some (.int bits), some (.int (nI (5)))] [] (tS S t (p_fillN (S 12) bits (tG S t) (5))) L Q) : ∀ (nn i : Nat), i + nn = 5 → Ev mX9_fillOnly (d + 1) 2 [some (.ref t), some (.int bits), some (.int (nI (i)))] [] (tS S t (p_fillN (S 12) bits (tG S t) (i))) L Q := by
  intro nn
  induction nn with
  | zero =>
    intro i hi
    obtain rfl : i = 5 := hi
    refine ev_ild2 dX9_fillOnly_2 ?_
    refine ev_iconst (v := 5) dX9_fillOnly_3 (by decide) ?_
    refine ev_icmp_ge_t 47 dX9_fillOnly_4 (by decide) (by decide) ?_
    exact kk
  | succ nn ih =>
    intro i hi
    refine ev_ild2 dX9_fillOnly_2 ?_
    refine ev_iconst (v := 5) dX9_fillOnly_3 (by decide) ?_
    refine ev_icmp_ge_f 47 dX9_fillOnly_4 (by decide) (nI_ge (b := 5) (by omega) (by decide)) ?_
    refine ev_ald0 dX9_fillOnly_7 ?_
    refine ev_getr (r := t + 1) dX9_fillOnly_8 fl_X9_9 (tp9_1 ht) ?_
    refine ev_ild2 dX9_fillOnly_11 ?_
    refine ev_ild1 dX9_fillOnly_12 ?_
    refine ev_ild2 dX9_fillOnly_13 ?_
    refine ev_S2i (M' := mX10_hasBit) dX9_fillOnly_14 lk_X9_106 sX10_hasBit (c_hasBit d _ _ _ _) (Nat.le_refl _) (Nat.le_of_ble_eq_true rfl) ?_
    refine ev_if_eq 32 dX9_fillOnly_17 (by decide) (fun c_17 => ?_) (fun c_17 => ?_)
    · have b_17 := gx_b_n.mp c_17
      refine ev_iconst (v := 0) dX9_fillOnly_32 (by decide) ?_
      refine ev_iast' dX9_fillOnly_33 (ar9_1 ht) (by omega) (by decide) ?_
      rw [tS_u1]
      refine ev_ald0 dX9_fillOnly_34 ?_
      refine ev_getr (r := t + 2) dX9_fillOnly_35 fl_X9_15 (tp9_2 ht) ?_
      refine ev_ild2 dX9_fillOnly_38 ?_
      refine ev_iconst (v := 0) dX9_fillOnly_39 (by decide) ?_
      refine ev_iast' dX9_fillOnly_40 (ar9_2 ht) (by omega) (by decide) ?_
      rw [tS_u2]
      refine ev_inc2 dX9_fillOnly_41 (nI_inc _) ?_
      refine ev_goto 2 dX9_fillOnly_44 (by decide) ?_
      have e := ih (i + 1) (by omega)
      simp only [p_fillN, if_neg b_17, ite_self] at e
      exact e
    · have b_17 := gx_b_y.mp c_17
      refine ev_ald0 dX9_fillOnly_20 ?_
      refine ev_getr (r := 11) dX9_fillOnly_21 fl_X9_21 (tp9_0 ht) ?_
      refine ev_getr (r := 12) dX9_fillOnly_24 fl_X9_52 rfl ?_
      refine ev_ild2 dX9_fillOnly_27 ?_
      refine ev_iald' dX9_fillOnly_28 rfl (by omega) (by decide) ?_
      rw [(p_aroundN_S (dr := 0) ht _).2.2.1]
      refine ev_goto 33 dX9_fillOnly_29 (by decide) ?_
      refine ev_iast' dX9_fillOnly_33 (ar9_1 ht) (by omega) (by decide) ?_
      rw [tS_u1]
      refine ev_ald0 dX9_fillOnly_34 ?_
      refine ev_getr (r := t + 2) dX9_fillOnly_35 fl_X9_15 (tp9_2 ht) ?_
      refine ev_ild2 dX9_fillOnly_38 ?_
      refine ev_iconst (v := 0) dX9_fillOnly_39 (by decide) ?_
      refine ev_iast' dX9_fillOnly_40 (ar9_2 ht) (by omega) (by decide) ?_
      rw [tS_u2]
      refine ev_inc2 dX9_fillOnly_41 (nI_inc _) ?_
      refine ev_goto 2 dX9_fillOnly_44 (by decide) ?_
      have e := ih (i + 1) (by omega)
      simp only [p_fillN, if_pos b_17, ite_self] at e
      exact e
set_option maxRecDepth 10000 in
theorem c_fillOnly (d : Nat) {t : Nat} (ht : tb t) (bits : Int32) (S : gx_S) (L : gx_L) : Cw (d + 1) mX9_fillOnly [.ref t, .int bits] S L (tS S t (p_fillN (S 12) bits (tG S t) 5)) L := by
  refine ct_intro (loc := [some (.ref t), some (.int bits), none]) (by decide) (Nat.le_of_ble_eq_true rfl) rfl ?_
  refine ev_iconst (v := 0) dX9_fillOnly_0 (by decide) ?_
  refine ev_ist2 dX9_fillOnly_1 ?_
  refine ev_mem (tS_tG S t).symm ?_
  refine l_fill d ht bits S L ?_ 5 0 rfl
  refine ev_vret dX9_fillOnly_47 ?_
  exact ⟨rfl, rfl, rfl⟩
def p_openN (po : Nat → Int32) (T : Tb) : Nat → Tb
  | 0 => T
  | n + 1 => (upd (p_openN po T n).1 n (po n), upd (p_openN po T n).2.1 n 0, (p_openN po T n).2.2)
def p_openM (tf : Nat → Int32) (T : Tb) : Nat → Tb
  | 0 => T
  | n + 1 => ((p_openM tf T n).1, (p_openM tf T n).2.1, upd (p_openM tf T n).2.2.1 n (tf n), (p_openM tf T n).2.2.2)
set_option maxRecDepth 10000 in
theorem l_open1 (d : Nat) {t : Nat} (ht : tb t) (S : gx_S) (L : gx_L) {Q : Option Value → gx_S → gx_L → Prop}  (kk : Ev mX9_openAnew (d) 35 [some (.ref t), some (.int (nI (5)))] [] (tS S t (p_openN (S 13) (tG S t) (5))) L Q) : ∀ (nn i : Nat), i + nn = 5 → Ev mX9_openAnew (d) 2 [some (.ref t), some (.int (nI (i)))] [] (tS S t (p_openN (S 13) (tG S t) (i))) L Q := by
  intro nn
  induction nn with
  | zero =>
    intro i hi
    obtain rfl : i = 5 := hi
    refine ev_ild1 dX9_openAnew_2 ?_
    refine ev_iconst (v := 5) dX9_openAnew_3 (by decide) ?_
    refine ev_icmp_ge_t 35 dX9_openAnew_4 (by decide) (by decide) ?_
    exact kk
  | succ nn ih =>
    intro i hi
    refine ev_ild1 dX9_openAnew_2 ?_
    refine ev_iconst (v := 5) dX9_openAnew_3 (by decide) ?_
    refine ev_icmp_ge_f 35 dX9_openAnew_4 (by decide) (nI_ge (b := 5) (by omega) (by decide)) ?_
    refine ev_ald0 dX9_openAnew_7 ?_
    refine ev_getr (r := t + 1) dX9_openAnew_8 fl_X9_9 (tp9_1 ht) ?_
    refine ev_ild1 dX9_openAnew_11 ?_
    refine ev_ald0 dX9_openAnew_12 ?_
    refine ev_getr (r := 11) dX9_openAnew_13 fl_X9_21 (tp9_0 ht) ?_
    refine ev_getr (r := 13) dX9_openAnew_16 fl_X9_35 rfl ?_
    refine ev_ild1 dX9_openAnew_19 ?_
    refine ev_iald' dX9_openAnew_20 rfl (by omega) (by decide) ?_
    rw [tS_o S _ (show 13 < t ∨ t + 3 < 13 by have := tb_ge ht; omega)]
    refine ev_iast' dX9_openAnew_21 (ar9_1 ht) (by omega) (by decide) ?_
    rw [tS_u1]
    refine ev_ald0 dX9_openAnew_22 ?_
    refine ev_getr (r := t + 2) dX9_openAnew_23 fl_X9_15 (tp9_2 ht) ?_
    refine ev_ild1 dX9_openAnew_26 ?_
    refine ev_iconst (v := 0) dX9_openAnew_27 (by decide) ?_
    refine ev_iast' dX9_openAnew_28 (ar9_2 ht) (by omega) (by decide) ?_
    rw [tS_u2]
    refine ev_inc1 dX9_openAnew_29 (nI_inc _) ?_
    refine ev_goto 2 dX9_openAnew_32 (by decide) ?_
    exact ih (i + 1) (by omega)
set_option maxRecDepth 10000 in
theorem l_open2 (d : Nat) {t : Nat} (ht : tb t) (S : gx_S) (T : Tb) (L : gx_L) {Q : Option Value → gx_S → gx_L → Prop}  (kk : Ev mX9_openAnew (d) 63 [some (.ref t), some (.int (nI (4)))] [] (tS S t (p_openM (S 15) T (4))) L Q) : ∀ (nn i : Nat), i + nn = 4 → Ev mX9_openAnew (d) 37 [some (.ref t), some (.int (nI (i)))] [] (tS S t (p_openM (S 15) T (i))) L Q := by
  intro nn
  induction nn with
  | zero =>
    intro i hi
    obtain rfl : i = 4 := hi
    refine ev_ild1 dX9_openAnew_37 ?_
    refine ev_iconst (v := 4) dX9_openAnew_38 (by decide) ?_
    refine ev_icmp_ge_t 63 dX9_openAnew_39 (by decide) (by decide) ?_
    exact kk
  | succ nn ih =>
    intro i hi
    refine ev_ild1 dX9_openAnew_37 ?_
    refine ev_iconst (v := 4) dX9_openAnew_38 (by decide) ?_
    refine ev_icmp_ge_f 63 dX9_openAnew_39 (by decide) (nI_ge (b := 4) (by omega) (by decide)) ?_
    refine ev_ald0 dX9_openAnew_42 ?_
    refine ev_getr (r := t + 3) dX9_openAnew_43 fl_X9_18 (tp9_3 ht) ?_
    refine ev_ild1 dX9_openAnew_46 ?_
    refine ev_ald0 dX9_openAnew_47 ?_
    refine ev_getr (r := 11) dX9_openAnew_48 fl_X9_21 (tp9_0 ht) ?_
    refine ev_getr (r := 15) dX9_openAnew_51 fl_X9_40 rfl ?_
    refine ev_ild1 dX9_openAnew_54 ?_
    refine ev_iald' dX9_openAnew_55 rfl (by omega) (by decide) ?_
    rw [tS_o S _ (show 15 < t ∨ t + 3 < 15 by have := tb_ge ht; omega)]
    refine ev_iast' dX9_openAnew_56 (ar9_3 ht) (by omega) (by decide) ?_
    rw [tS_u3]
    refine ev_inc1 dX9_openAnew_57 (nI_inc _) ?_
    refine ev_goto 37 dX9_openAnew_60 (by decide) ?_
    exact ih (i + 1) (by omega)
set_option maxRecDepth 10000 in
theorem c_openAnew (d : Nat) {t : Nat} (ht : tb t) (S : gx_S) (L : gx_L) : Cw d mX9_openAnew [.ref t] S L (tS S t ((p_openM (S 15) (p_openN (S 13) (tG S t) 5) 4).1, (p_openM (S 15) (p_openN (S 13) (tG S t) 5) 4).2.1, (p_openM (S 15) (p_openN (S 13) (tG S t) 5) 4).2.2.1, 0)) L := by
  refine ct_intro (loc := [some (.ref t), none]) (by decide) (Nat.le_of_ble_eq_true rfl) rfl ?_
  refine ev_iconst (v := 0) dX9_openAnew_0 (by decide) ?_
  refine ev_ist1 dX9_openAnew_1 ?_
  refine ev_mem (tS_tG S t).symm ?_
  refine l_open1 d ht S L ?_ 5 0 rfl
  refine ev_iconst (v := 0) dX9_openAnew_35 (by decide) ?_
  refine ev_ist1 dX9_openAnew_36 ?_
  refine l_open2 d ht S _ L ?_ 4 0 rfl
  refine ev_ald0 dX9_openAnew_63 ?_
  refine ev_iconst (v := 0) dX9_openAnew_64 (by decide) ?_
  refine ev_puti dX9_openAnew_65 fp_X9_31 (tp9_4 ht) ?_
  rw [tS_u4]
  refine ev_vret dX9_openAnew_68 ?_
  exact ⟨rfl, rfl, rfl⟩
