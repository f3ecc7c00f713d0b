def p_told (ng nd : Int32) (ms gk dk sb : Nat → Int32) (T : Tb) (k : Nat) : Int32 × Tb :=
  if k / 100 = 0 then p_pour ng ms T (nI (k / 10 % 10)) (nI (k % 10)) else if k / 100 = 1 then p_drink ng nd dk sb T (nI (k / 10 % 10)) (nI (k % 10)) else if k / 100 = 2 then p_tip ng ms T (nI (k / 10 % 10)) (nI (k % 10)) else if k / 100 = 3 then (if k / 10 % 10 = 0 then (if k % 10 = 0 then (p_taxes gk ms (p_hourT gk T), p_hourT gk T) else (-2, T)) else (-2, T)) else (-2, T)
set_option maxRecDepth 10000 in
theorem c_told (d : Nat) {t : Nat} (ht : tb t) (S : gx_S) {ng : Nat} (hng : S 11 0 = nI ng) (h5 : ng ≤ 5) {nd : Nat} (hnd : S 11 1 = nI nd) (h4 : nd ≤ 4) {k : Nat} (hk : k < 1000) (L : gx_L) : Cf (d + 4) mX9_told [.ref t, .int (nI k)] S L (p_told (S 11 0) (S 11 1) (S 12) (S 14) (S 16) (S 17) (tG S t) k).1 (tS S t (p_told (S 11 0) (S 11 1) (S 12) (S 14) (S 16) (S 17) (tG S t) k).2) L := by
  refine ct_intro (loc := [some (.ref t), some (.int (nI k)), none, none]) (by decide) (Nat.le_of_ble_eq_true rfl) rfl ?_
  have k0 : nI (k / 10 % 10) = 0 → k / 10 % 10 = 0 := fun h => (nI_eq (by omega) (by decide)).mp h
  have k1 : nI (k % 10) = 0 → k % 10 = 0 := fun h => (nI_eq (by omega) (by decide)).mp h
  refine ev_ild1 dX9_told_0 ?_
  refine ev_bipush (v := 10) dX9_told_1 (by decide) ?_
  refine ev_idiv dX9_told_3 (by decide) ?_
  rw [show nI k / 10 = nI (k / 10) from nI_div (b := 10) (by omega) (by decide)]
  refine ev_bipush (v := 10) dX9_told_4 (by decide) ?_
  refine ev_irem dX9_told_6 (by decide) ?_
  rw [show nI (k / 10) - nI (k / 10) / 10 * 10 = nI (k / 10 % 10) from nI_rem (b := 10) (by omega) (by decide)]
  refine ev_ist2 dX9_told_7 ?_
  refine ev_ild1 dX9_told_8 ?_
  refine ev_bipush (v := 10) dX9_told_9 (by decide) ?_
  refine ev_irem dX9_told_11 (by decide) ?_
  rw [show nI k - nI k / 10 * 10 = nI (k % 10) from nI_rem (b := 10) (by omega) (by decide)]
  refine ev_ist3 dX9_told_12 ?_
  refine ev_ild1 dX9_told_13 ?_
  refine ev_bipush (v := 100) dX9_told_14 (by decide) ?_
  refine ev_idiv dX9_told_16 (by decide) ?_
  rw [show nI k / 100 = nI (k / 100) from nI_div (b := 100) (by omega) (by decide)]
  rcases (show k / 100 = 0 ∨ k / 100 = 1 ∨ k / 100 = 2 ∨ k / 100 = 3 ∨ 4 ≤ k / 100 by omega) with hq17 | hq17 | hq17 | hq17 | hq17
  · rw [hq17]
    refine ev_tsw_in (off := 31) 48 dX9_told_17 (by decide) (by decide) (by decide +kernel) (by decide) ?_
    refine ev_ald0 dX9_told_48 ?_
    refine ev_ild2 dX9_told_49 ?_
    refine ev_ild3 dX9_told_50 ?_
    refine ev_V2i (M' := mX9_pourInto) dX9_told_51 lk_X9_94 vX9_pourInto (cl9 ht) (c_pourInto (d + 2) ht S hng h5 _ _ L) (Nat.le_refl _) (Nat.le_of_ble_eq_true rfl) ?_
    refine ev_iret dX9_told_54 ?_
    have e9 : p_told (S 11 0) (S 11 1) (S 12) (S 14) (S 16) (S 17) (tG S t) k = _ := if_pos hq17
    exact ⟨_, rfl, (congrArg Prod.fst e9).symm, by rw [e9], rfl⟩
  · rw [hq17]
    refine ev_tsw_in (off := 38) 55 dX9_told_17 (by decide) (by decide) (by decide +kernel) (by decide) ?_
    refine ev_ald0 dX9_told_55 ?_
    refine ev_ild2 dX9_told_56 ?_
    refine ev_ild3 dX9_told_57 ?_
    refine ev_V2i (M' := mX9_drinkAt) dX9_told_58 lk_X9_97 vX9_drinkAt (cl9 ht) (c_drinkAt (d + 1) ht S hng h5 hnd h4 _ _ L) (Nat.le_refl _) (Nat.le_of_ble_eq_true rfl) ?_
    refine ev_iret dX9_told_61 ?_
    have e9 : p_told (S 11 0) (S 11 1) (S 12) (S 14) (S 16) (S 17) (tG S t) k = _ := (if_neg (by omega)).trans (if_pos hq17)
    exact ⟨_, rfl, (congrArg Prod.fst e9).symm, by rw [e9], rfl⟩
  · rw [hq17]
    refine ev_tsw_in (off := 45) 62 dX9_told_17 (by decide) (by decide) (by decide +kernel) (by decide) ?_
    refine ev_ald0 dX9_told_62 ?_
    refine ev_ild2 dX9_told_63 ?_
    refine ev_ild3 dX9_told_64 ?_
    refine ev_V2i (M' := mX9_tipOver) dX9_told_65 lk_X9_100 vX9_tipOver (cl9 ht) (c_tipOver (d + 2) ht S hng h5 _ _ L) (Nat.le_refl _) (Nat.le_of_ble_eq_true rfl) ?_
    refine ev_iret dX9_told_68 ?_
    have e9 : p_told (S 11 0) (S 11 1) (S 12) (S 14) (S 16) (S 17) (tG S t) k = _ := (if_neg (by omega)).trans ((if_neg (by omega)).trans (if_pos hq17))
    exact ⟨_, rfl, (congrArg Prod.fst e9).symm, by rw [e9], rfl⟩
  · rw [hq17]
    refine ev_tsw_in (off := 52) 69 dX9_told_17 (by decide) (by decide) (by decide +kernel) (by decide) ?_
    refine ev_ild2 dX9_told_69 ?_
    refine ev_if_ne 84 dX9_told_70 (by decide) (fun c_70 => ?_) (fun c_70 => ?_)
    · refine ev_bipush (v := (-2)) dX9_told_84 (by decide) ?_
      refine ev_iret dX9_told_86 ?_
      have e9 : p_told (S 11 0) (S 11 1) (S 12) (S 14) (S 16) (S 17) (tG S t) k = _ := (if_neg (by omega)).trans ((if_neg (by omega)).trans ((if_neg (by omega)).trans ((if_pos hq17).trans (if_neg (fun h9 => c_70 (by rw [h9]; rfl))))))
      exact ⟨_, rfl, (congrArg Prod.fst e9).symm, by rw [e9]; exact (tS_tG S t).symm, rfl⟩
    · refine ev_ild3 dX9_told_73 ?_
      refine ev_if_ne 84 dX9_told_74 (by decide) (fun c_74 => ?_) (fun c_74 => ?_)
      · refine ev_bipush (v := (-2)) dX9_told_84 (by decide) ?_
        refine ev_iret dX9_told_86 ?_
        have e9 : p_told (S 11 0) (S 11 1) (S 12) (S 14) (S 16) (S 17) (tG S t) k = _ := (if_neg (by omega)).trans ((if_neg (by omega)).trans ((if_neg (by omega)).trans ((if_pos hq17).trans ((if_pos (k0 c_70)).trans (if_neg (fun h9 => c_74 (by rw [h9]; rfl)))))))
        exact ⟨_, rfl, (congrArg Prod.fst e9).symm, by rw [e9]; exact (tS_tG S t).symm, rfl⟩
      · refine ev_ald0 dX9_told_77 ?_
        refine ev_V0i (M' := mX9_passHour) dX9_told_78 lk_X9_103 vX9_passHour (cl9 ht) (c_passHour d ht S L) (Nat.le_refl _) (Nat.le_of_ble_eq_true rfl) ?_
        refine ev_goto 86 dX9_told_81 (by decide) ?_
        refine ev_iret dX9_told_86 ?_
        have e9 : p_told (S 11 0) (S 11 1) (S 12) (S 14) (S 16) (S 17) (tG S t) k = _ := (if_neg (by omega)).trans ((if_neg (by omega)).trans ((if_neg (by omega)).trans ((if_pos hq17).trans ((if_pos (k0 c_70)).trans (if_pos (k1 c_74))))))
        exact ⟨_, rfl, (congrArg Prod.fst e9).symm, by rw [e9], rfl⟩
  · refine ev_tsw_out 87 dX9_told_17 (Or.inr (by rw [nI_toInt (by omega)]; omega)) (by decide) ?_
    refine ev_bipush (v := (-2)) dX9_told_87 (by decide) ?_
    refine ev_iret dX9_told_89 ?_
    have e9 : p_told (S 11 0) (S 11 1) (S 12) (S 14) (S 16) (S 17) (tG S t) k = _ := (if_neg (by omega)).trans ((if_neg (by omega)).trans ((if_neg (by omega)).trans (if_neg (by omega))))
    exact ⟨_, rfl, (congrArg Prod.fst e9).symm, by rw [e9]; exact (tS_tG S t).symm, rfl⟩
def p_chance (ng nd : Int32) (gk dk sb : Nat → Int32) (T : Tb) (k : Nat) : Tb := if k < 20 then (p_drink ng nd dk sb T (nI (k / 5)) (nI (k % 5))).2 else p_hourT gk T
set_option maxRecDepth 10000 in
theorem c_passChance (d : Nat) {t : Nat} (ht : tb t) (S : gx_S) {ng : Nat} (hng : S 11 0 = nI ng) (h5 : ng ≤ 5) {nd : Nat} (hnd : S 11 1 = nI nd) (h4 : nd ≤ 4) {k : Nat} (hk : k < 24) (L : gx_L) : Cw (d + 4) mX9_passChance [.ref t, .int (nI k)] S L (tS S t (p_chance (S 11 0) (S 11 1) (S 14) (S 16) (S 17) (tG S t) k)) L := by
  refine ct_intro (loc := [some (.ref t), some (.int (nI k))]) (by decide) (Nat.le_of_ble_eq_true rfl) rfl ?_
  refine ev_ild1 dX9_passChance_0 ?_
  refine ev_bipush (v := 20) dX9_passChance_1 (by decide) ?_
  refine ev_icmp_lt 14 dX9_passChance_3 (by decide) (fun c_3 => ?_) (fun c_3 => ?_)
  · refine ev_ald0 dX9_passChance_14 ?_
    refine ev_ild1 dX9_passChance_15 ?_
    refine ev_iconst (v := 5) dX9_passChance_16 (by decide) ?_
    refine ev_idiv dX9_passChance_17 (by decide) ?_
    rw [show nI k / 5 = nI (k / 5) from nI_div (b := 5) (by omega) (by decide)]
    refine ev_ild1 dX9_passChance_18 ?_
    refine ev_iconst (v := 5) dX9_passChance_19 (by decide) ?_
    refine ev_irem dX9_passChance_20 (by decide) ?_
    rw [show nI k - nI k / 5 * 5 = nI (k % 5) from nI_rem (b := 5) (by omega) (by decide)]
    refine ev_V2i (M' := mX9_drinkAt) dX9_passChance_21 lk_X9_97 vX9_drinkAt (cl9 ht) (c_drinkAt (d + 1) ht S hng h5 hnd h4 _ _ L) (Nat.le_refl _) (Nat.le_of_ble_eq_true rfl) ?_
    refine ev_popi dX9_passChance_24 ?_
    refine ev_vret dX9_passChance_25 ?_
    exact ⟨rfl, congrArg (tS S t) (Eq.symm (if_pos ((nI_ltI (b := 20) (by omega) (by decide)).mp c_3))), rfl⟩
  · refine ev_ald0 dX9_passChance_6 ?_
    refine ev_V0i (M' := mX9_passHour) dX9_passChance_7 lk_X9_103 vX9_passHour (cl9 ht) (c_passHour d ht S L) (Nat.le_refl _) (Nat.le_of_ble_eq_true rfl) ?_
    refine ev_popi dX9_passChance_10 ?_
    refine ev_goto 25 dX9_passChance_11 (by decide) ?_
    refine ev_vret dX9_passChance_25 ?_
    exact ⟨rfl, congrArg (tS S t) (Eq.symm (if_neg (fun h9 => c_3 (nI_lt (b := 20) h9 (by decide))))), rfl⟩
theorem sits_bt {ng nd dr i : Nat} (sb : Nat → Int32) (h5 : ng ≤ 5) (h4 : nd ≤ 4) (hd : dr < nd) (hi : i < 2 ^ 31) (hz : ng ≤ i → bt (sb dr) i = false) : p_sits (nI ng) (nI nd) sb (nI dr) (nI i) = bt (sb dr) i := by
  unfold p_sits
  rw [if_pos (isG_in (by omega) hd), nI_clamp (by omega : dr < 2 ^ 31), nI_clamp hi]
  rcases Nat.lt_or_ge i ng with h | h
  · rw [if_pos (isG_in (by omega) h)]
  · rw [isG_out hi h, hz h]
    rfl
def p_firstN (dk sb : Nat → Int32) (T : Tb) (d : Nat) : Nat → Int32
  | 0 => 0
  | n + 1 => if bt (sb d) (4 - n) = true then p_gulp (dk d) (T.2.2.1 d) (T.1 (4 - n)) else p_firstN dk sb T d n
theorem c_sitsB (d : Nat) (S : gx_S) {ng : Nat} (hng : S 11 0 = nI ng) (h5 : ng ≤ 5) {nd : Nat} (hnd : S 11 1 = nI nd) (h4 : nd ≤ 4) {dr i : Nat} (hd : dr < nd) (hi : i < 2 ^ 31) (hz : ng ≤ i → bt (S 17 dr) i = false) (L : gx_L) : Cf (d + 1) mX2_sits [.ref 11, .int (nI dr), .int (nI i)] S L (gx_b (bt (S 17 dr) i)) S L := by
  have h := c_sits d hh11 S hng h5 hnd h4 (nI dr) (nI i) L
  rw [hng, hnd, sits_bt (S (11 + 6)) h5 h4 hd hi hz] at h
  exact h
set_option maxRecDepth 10000 in
theorem c_firstGulp (d : Nat) {t dr : Nat} (ht : tb t) (S : gx_S) {ng : Nat} (hng : S 11 0 = nI ng) (h5 : ng ≤ 5) {nd : Nat} (hnd : S 11 1 = nI nd) (h4 : nd ≤ 4) (hd : dr < nd) (hz : ∀ i, ng ≤ i → bt (S 17 dr) i = false) (L : gx_L) : Cf (d + 2) mX9_firstGulp [.ref t, .int (nI dr)] S L (p_firstN (S 16) (S 17) (tG S t) dr 5) S L := by
  refine ct_intro (loc := [some (.ref t), some (.int (nI dr)), none]) (by decide) (Nat.le_of_ble_eq_true rfl) rfl ?_
  refine ev_iconst (v := 0) dX9_firstGulp_0 (by decide) ?_
  refine ev_ist2 dX9_firstGulp_1 ?_
  have loop : ∀ (n i : Nat), i + n = 5 → p_firstN (S 16) (S 17) (tG S t) dr n = p_firstN (S 16) (S 17) (tG S t) dr 5 → Ev mX9_firstGulp (d + 2) 2 [some (.ref t), some (.int (nI dr)), some (.int (nI i))] [] S L (fun v S' L' => ∃ r : Int32, v = some (.int r) ∧ r = p_firstN (S 16) (S 17) (tG S t) dr 5 ∧ S' = S ∧ L' = L) := by
    intro n
    induction n with
    | zero =>
      intro i hi hy
      obtain rfl : i = 5 := hi
      refine ev_ild2 dX9_firstGulp_2 ?_
      refine ev_iconst (v := 5) dX9_firstGulp_3 (by decide) ?_
      refine ev_icmp_ge_t 50 dX9_firstGulp_4 (by decide) (by decide) ?_
      refine ev_iconst (v := 0) dX9_firstGulp_50 (by decide) ?_
      refine ev_iret dX9_firstGulp_51 ?_
      exact ⟨_, rfl, hy, rfl, rfl⟩
    | succ n ih =>
      intro i hi hy
      have e4 : 4 - n = i := by omega
      refine ev_ild2 dX9_firstGulp_2 ?_
      refine ev_iconst (v := 5) dX9_firstGulp_3 (by decide) ?_
      refine ev_icmp_ge_f 50 dX9_firstGulp_4 (by decide) (nI_ge (b := 5) (by omega) (by decide)) ?_
      refine ev_ald0 dX9_firstGulp_7 ?_
      refine ev_getr (r := 11) dX9_firstGulp_8 fl_X9_21 (tp9_0 ht) ?_
      refine ev_ild1 dX9_firstGulp_11 ?_
      refine ev_ild2 dX9_firstGulp_12 ?_
      refine ev_V2i (M' := mX2_sits) dX9_firstGulp_13 lk_X9_59 vX2_sits rfl (c_sitsB d S hng h5 hnd h4 hd (by omega) (hz i) L) (Nat.le_refl _) (Nat.le_of_ble_eq_true rfl) ?_
      refine ev_if_eq 44 dX9_firstGulp_16 (by decide) (fun c_16 => ?_) (fun c_16 => ?_)
      · have b_16 := gx_b_n.mp c_16
        refine ev_inc2 dX9_firstGulp_44 (nI_inc _) ?_
        refine ev_goto 2 dX9_firstGulp_47 (by decide) ?_
        exact ih (i + 1) (by omega) (by rw [← hy]; exact (if_neg (e4 ▸ b_16)).symm)
      · have b_16 := gx_b_y.mp c_16
        refine ev_ald0 dX9_firstGulp_19 ?_
        refine ev_getr (r := 11) dX9_firstGulp_20 fl_X9_21 (tp9_0 ht) ?_
        refine ev_getr (r := 16) dX9_firstGulp_23 fl_X9_63 rfl ?_
        refine ev_ild1 dX9_firstGulp_26 ?_
        refine ev_iald' dX9_firstGulp_27 rfl (by omega) (by decide) ?_
        refine ev_ald0 dX9_firstGulp_28 ?_
        refine ev_getr (r := t + 3) dX9_firstGulp_29 fl_X9_18 (tp9_3 ht) ?_
        refine ev_ild1 dX9_firstGulp_32 ?_
        refine ev_iald' dX9_firstGulp_33 (ar9_3 ht) (by omega) (by decide) ?_
        refine ev_ald0 dX9_firstGulp_34 ?_
        refine ev_getr (r := t + 1) dX9_firstGulp_35 fl_X9_9 (tp9_1 ht) ?_
        refine ev_ild2 dX9_firstGulp_38 ?_
        refine ev_iald' dX9_firstGulp_39 (ar9_1 ht) (by omega) (by decide) ?_
        refine ev_S3i (M' := mX10_gulp) dX9_firstGulp_40 lk_X9_66 sX10_gulp (c_gulp (d + 1) _ _ _ _ _) (Nat.le_refl _) (Nat.le_of_ble_eq_true rfl) ?_
        refine ev_iret dX9_firstGulp_43 ?_
        exact ⟨_, rfl, by rw [← hy]; exact ((if_pos (e4 ▸ b_16)).trans (by rw [e4]; rfl)).symm, rfl, rfl⟩
  exact loop 5 0 rfl rfl
