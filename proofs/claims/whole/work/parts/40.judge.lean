theorem openN_spec (po : Nat → Int32) (T : Tb) : ∀ n j, (p_openN po T n).1 j = (if j < n then po j else T.1 j) ∧ (p_openN po T n).2.1 j = (if j < n then 0 else T.2.1 j) ∧ (p_openN po T n).2.2 = T.2.2
  | 0, j => ⟨(if_neg (by omega)).symm, (if_neg (by omega)).symm, rfl⟩
  | n + 1, j => by
    obtain ⟨h1, h2, h3⟩ := openN_spec po T n j
    refine ⟨?_, ?_, h3⟩
    · show upd (p_openN po T n).1 n (po n) j = _
      unfold upd
      by_cases h : j = n
      · subst h; rw [if_pos rfl, if_pos (by omega)]
      · rw [if_neg h, h1]
        by_cases h4 : j < n
        · rw [if_pos h4, if_pos (by omega)]
        · rw [if_neg h4, if_neg (by omega)]
    · show upd (p_openN po T n).2.1 n 0 j = _
      unfold upd
      by_cases h : j = n
      · subst h; rw [if_pos rfl, if_pos (by omega)]
      · rw [if_neg h, h2]
        by_cases h4 : j < n
        · rw [if_pos h4, if_pos (by omega)]
        · rw [if_neg h4, if_neg (by omega)]
theorem openM_spec (tf : Nat → Int32) (T : Tb) : ∀ n j, (p_openM tf T n).1 = T.1 ∧ (p_openM tf T n).2.1 = T.2.1 ∧ (p_openM tf T n).2.2.1 j = (if j < n then tf j else T.2.2.1 j)
  | 0, j => ⟨rfl, rfl, (if_neg (by omega)).symm⟩
  | n + 1, j => by
    obtain ⟨h1, h2, h3⟩ := openM_spec tf T n j
    refine ⟨h1, h2, ?_⟩
    show upd (p_openM tf T n).2.2.1 n (tf n) j = _
    unfold upd
    by_cases h : j = n
    · subst h; rw [if_pos rfl, if_pos (by omega)]
    · rw [if_neg h, h3]
      by_cases h4 : j < n
      · rw [if_pos h4, if_pos (by omega)]
      · rw [if_neg h4, if_neg (by omega)]
theorem open_eq {po tf : Nat → Int32} {T : Tb} (hz : zT T) (hp : ∀ j, 5 ≤ j → po j = 0) (ht : ∀ j, 4 ≤ j → tf j = 0) : ((p_openM tf (p_openN po T 5) 4).1, (p_openM tf (p_openN po T 5) 4).2.1, (p_openM tf (p_openN po T 5) 4).2.2.1, (0 : Int32)) = ((po, z0, tf, 0) : Tb) := by
  have e1 : (p_openM tf (p_openN po T 5) 4).1 = po := by
    rw [(openM_spec tf _ 4 0).1]
    funext j
    rw [(openN_spec po T 5 j).1]
    split
    · rfl
    · rw [(hz.1 j (by omega)).1, hp j (by omega)]
  have e2 : (p_openM tf (p_openN po T 5) 4).2.1 = z0 := by
    rw [(openM_spec tf _ 4 0).2.1]
    funext j
    rw [(openN_spec po T 5 j).2.1]
    split
    · rfl
    · rw [(hz.1 j (by omega)).2]; rfl
  have e3 : (p_openM tf (p_openN po T 5) 4).2.2.1 = tf := by
    funext j
    rw [(openM_spec tf _ 4 j).2.2, (openN_spec po T 5 j).2.2]
    split
    · rfl
    · rw [hz.2 j (by omega), ht j (by omega)]
  rw [e1, e2, e3]
/-- the memory behind a new inn -/
def M_inn (S : gx_S) (a b c : Int32) (H : Hd) : gx_S := gx_u2 (gx_u2 (tS (hS (mM S a b c H) 11 H) 18 (H.2.2.2.1, z0, H.2.2.2.2.2.1, 0)) 30 2 0) 0 9 0
theorem mM_h11 (S : gx_S) (a b c : Int32) (H : Hd) : hG (mM S a b c H) 11 = hG S 11 := by
  unfold hG
  simp only [mM_o S a b c H (show 11 < 3 ∨ 10 < 11 by decide), mM_o S a b c H (show 11 + 1 < 3 ∨ 10 < 11 + 1 by decide), mM_o S a b c H (show 11 + 2 < 3 ∨ 10 < 11 + 2 by decide), mM_o S a b c H (show 11 + 3 < 3 ∨ 10 < 11 + 3 by decide), mM_o S a b c H (show 11 + 4 < 3 ∨ 10 < 11 + 4 by decide), mM_o S a b c H (show 11 + 5 < 3 ∨ 10 < 11 + 5 by decide), mM_o S a b c H (show 11 + 6 < 3 ∨ 10 < 11 + 6 by decide)]
theorem k_inn1 (d : Nat) (S : gx_S) (a b c : Int32) (H : Hd) (z11 : zH (hG S 11)) (hH : zH H) (L : gx_L) : Cw (d + 1) mX2_copyFrom [.ref 11, .ref 4] (mM S a b c H) L (hS (mM S a b c H) 11 H) L := by
  have h := c_copyHouse d (mM S a b c H) (by rw [mM_h11]; exact z11) (by rw [mM_hG]; exact hH) L
  rw [mM_hG] at h
  exact h
theorem k_inn2 (d : Nat) (S : gx_S) (a b c : Int32) (H : Hd) (hH : zH H) (z18 : zT (tG S 18)) (L : gx_L) : Cw d mX9_openAnew [.ref 18] (hS (mM S a b c H) 11 H) L (tS (hS (mM S a b c H) 11 H) 18 (H.2.2.2.1, z0, H.2.2.2.2.2.1, 0)) L := by
  have h := c_openAnew d tb18 (hS (mM S a b c H) 11 H) L
  have e : ∀ i, 17 < i → hS (mM S a b c H) 11 H i = S i := fun i hi => by rw [hS_o _ H (by omega), mM_o S a b c H (by omega)]
  have e18 : tG (hS (mM S a b c H) 11 H) 18 = tG S 18 := by
    unfold tG
    rw [e 18 (by decide), e (18 + 1) (by decide), e (18 + 2) (by decide), e (18 + 3) (by decide)]
  have e13 : hS (mM S a b c H) 11 H 13 = H.2.2.2.1 := hS_2 _ 11 H
  have e15 : hS (mM S a b c H) 11 H 15 = H.2.2.2.2.2.1 := hS_4 _ 11 H
  rw [e18, e13, e15, open_eq z18 (fun j hj => (hH.1 j hj).2.1) (fun j hj => (hH.2 j hj).1)] at h
  exact h
set_option maxRecDepth 10000 in
theorem x_inn (d : Nat) (S : gx_S) {len : Nat} (hlen : S 1 1 = nI len) (h60 : len ≤ 60) (z4 : zH (hG S 4)) (z11 : zH (hG S 11)) (z18 : zT (tG S 18)) (L : gx_L) : Ci (d + 6) mX10_inn [.ref 0] S L (fun r S' L' => L' = L ∧ (if (p_read (S 2) len).1 = -9 then r = 10 * (p_read (S 2) len).2.1 + (p_read (S 2) len).2.2.1 ∧ zH (p_read (S 2) len).2 ∧ ∃ a b c : Int32, S' = M_inn S a b c (p_read (S 2) len).2 else r = -3 ∧ ∃ (a b c : Int32) (H' : Hd), zH H' ∧ S' = mM S a b c H')) := by
  refine ct_intro (loc := [some (.ref 0)]) (by decide) (Nat.le_of_ble_eq_true rfl) rfl ?_
  refine ev_ald0 dX10_inn_0 ?_
  refine ev_getr (r := 3) dX10_inn_1 fl_X10_19 rfl ?_
  refine ev_ald0 dX10_inn_4 ?_
  refine ev_getr (r := 1) dX10_inn_5 fl_X10_12 rfl ?_
  refine ev_ald0 dX10_inn_8 ?_
  refine ev_getr (r := 4) dX10_inn_9 fl_X10_26 rfl ?_
  refine ev_V2iq (M' := mX5_read) dX10_inn_12 lk_X10_104 vX5_read rfl (c_readq d S hlen h60 z4 L) (Nat.le_refl _) (Nat.le_of_ble_eq_true rfl) (fun r9 S9 L9 h9 => ?_)
  obtain ⟨h1, ⟨a, b, c, H9, h2, h3, h4⟩, h5⟩ := h9
  subst h2
  have h5s := h5.symm
  subst h5s
  refine ev_bipush (v := (-9)) dX10_inn_15 (by decide) ?_
  refine ev_icmp_eq 23 dX10_inn_17 (by decide) (fun c_17 => ?_) (fun c_17 => ?_)
  · obtain rfl := h4 c_17
    refine ev_ald0 dX10_inn_23 ?_
    refine ev_getr (r := 11) dX10_inn_24 fl_X10_30 rfl ?_
    refine ev_ald0 dX10_inn_27 ?_
    refine ev_getr (r := 4) dX10_inn_28 fl_X10_26 rfl ?_
    refine ev_V1v (M' := mX2_copyFrom) dX10_inn_31 lk_X10_108 vX2_copyFrom rfl (k_inn1 (d + 4) S a b c _ z11 h3 L) (Nat.le_refl _) (Nat.le_of_ble_eq_true rfl) ?_
    refine ev_ald0 dX10_inn_34 ?_
    refine ev_getr (r := 18) dX10_inn_35 fl_X10_38 rfl ?_
    refine ev_V0v (M' := mX9_openAnew) dX10_inn_38 lk_X10_111 vX9_openAnew rfl (k_inn2 (d + 5) S a b c _ h3 z18 L) (Nat.le_refl _) (Nat.le_of_ble_eq_true rfl) ?_
    refine ev_ald0 dX10_inn_41 ?_
    refine ev_getr (r := 30) dX10_inn_42 fl_X10_51 rfl ?_
    refine ev_V0v (M' := mX0_forgetAll) dX10_inn_45 lk_X10_114 vX0_forgetAll rfl (c_forgetAll (d + 5) _ L) (Nat.le_refl _) (Nat.le_of_ble_eq_true rfl) ?_
    refine ev_ald0 dX10_inn_48 ?_
    refine ev_iconst (v := 0) dX10_inn_49 (by decide) ?_
    refine ev_puti dX10_inn_50 fp_X10_117 rfl ?_
    refine ev_bipush (v := 10) dX10_inn_53 (by decide) ?_
    refine ev_ald0 dX10_inn_55 ?_
    refine ev_getr (r := 11) dX10_inn_56 fl_X10_30 rfl ?_
    refine ev_geti dX10_inn_59 fl_X10_120 rfl ?_
    rw [u2_o _ _ _ (by decide), u2_o _ _ _ (by decide), tS_o _ _ (by decide), hS_g]
    refine ev_imul dX10_inn_62 ?_
    refine ev_ald0 dX10_inn_63 ?_
    refine ev_getr (r := 11) dX10_inn_64 fl_X10_30 rfl ?_
    refine ev_geti dX10_inn_67 fl_X10_123 rfl ?_
    rw [u2_o _ _ _ (by decide), u2_o _ _ _ (by decide), tS_o _ _ (by decide), hS_d]
    refine ev_iadd dX10_inn_70 ?_
    refine ev_iret dX10_inn_71 ?_
    exact ⟨_, rfl, rfl, by rw [if_pos (h1.symm.trans c_17)]; exact ⟨rfl, h3, a, b, c, rfl⟩⟩
  · refine ev_bipush (v := (-3)) dX10_inn_20 (by decide) ?_
    refine ev_iret dX10_inn_22 ?_
    exact ⟨_, rfl, rfl, by rw [if_neg (fun h9 => c_17 (h1.trans h9))]; exact ⟨rfl, a, b, c, H9, h3, rfl⟩⟩
def p_jd (told : Tb → Nat → Int32 × Tb) (r n : Nat) : Nat → Tb → Int32
  | 0, _ => -9
  | m + 1, T => if (told T (r / 1000 ^ m % 1000)).1 < 0 then nI (n - (m + 1)) else p_jd told r n m (told T (r / 1000 ^ m % 1000)).2
theorem p1000 : ∀ n, n ≤ 4 → 1000 ^ n ≤ 1000000000000 := by decide +kernel
theorem lmaxB {a : Nat} (h : 1 ≤ a) (ha : a < 2 ^ 63) : (if lN a < (1 : Int64) then (1 : Int64) else lN a) = lN a := by
  rw [if_neg]
  intro h9
  have : lN a < lN 1 := h9
  rw [lN_ltB ha (by decide)] at this
  omega
set_option maxRecDepth 10000 in
theorem l_unit (d : Nat) (S : gx_S) (row : Int64) {k : Nat} (hk : k ≤ 4) (L : gx_L) {Q : Option Value → gx_S → gx_L → Prop}  (kk : Ev mX10_judge (d) 39 [some (.ref 0), some (.int (nI k)), some (.long row), none, some (.long (lN (1000 ^ (k)))), none, some (.int (nI (k)))] [] (S) L Q) : ∀ (nn i : Nat), i + nn = k → Ev mX10_judge (d) 19 [some (.ref 0), some (.int (nI k)), some (.long row), none, some (.long (lN (1000 ^ (i)))), none, some (.int (nI (i)))] [] (S) L Q := by
  intro nn
  induction nn with
  | zero =>
    intro i hi
    obtain rfl : i = k := hi
    refine ev_ild6 dX10_judge_19 ?_
    refine ev_ild1 dX10_judge_21 ?_
    refine ev_icmp_ge_t 39 dX10_judge_22 (by decide) (nI_le (Nat.le_refl _) (by omega)) ?_
    exact kk
  | succ nn ih =>
    intro i hi
    refine ev_ild6 dX10_judge_19 ?_
    refine ev_ild1 dX10_judge_21 ?_
    refine ev_icmp_ge_f 39 dX10_judge_22 (by decide) (nI_ge (by omega) (by omega)) ?_
    refine ev_lld4 dX10_judge_25 ?_
    refine ev_ldc2 dX10_judge_27 kc_X10_221 ?_
    refine ev_lmul dX10_judge_30 ?_
    rw [show lN (1000 ^ i) * 1000 = lN (1000 ^ (i + 1)) from by rw [show (1000 : Int64) = lN 1000 from rfl, lN_mul, Nat.pow_succ]]
    refine ev_lst4 dX10_judge_31 ?_
    refine ev_inc6 dX10_judge_33 (nI_inc _) ?_
    refine ev_goto 19 dX10_judge_36 (by decide) ?_
    exact ih (i + 1) (by omega)
theorem c_toldT (d : Nat) (S : gx_S) {ng : Nat} (hng : S 11 0 = nI ng) (h5 : ng ≤ 5) {nd : Nat} (hnd : S 11 1 = nI nd) (h4 : nd ≤ 4) (T : Tb) {k : Nat} (hk : k < 1000) (L : gx_L) : Cf (d + 4) mX9_told [.ref 26, .int (nI k)] (tS S 26 T) L (p_told (S 11 0) (S 11 1) (S 12) (S 14) (S 16) (S 17) T k).1 (tS S 26 (p_told (S 11 0) (S 11 1) (S 12) (S 14) (S 16) (S 17) T k).2) L := by
  have h := c_told d tb26 (tS S 26 T) (by rw [(tr_o S T).1]; exact hng) h5 (by rw [(tr_o S T).1]; exact hnd) h4 hk L
  rw [(cpT S T).2, tS_tS, (tr_o S T).1, (tr_o S T).2.1, (tr_o S T).2.2.1, (tr_o S T).2.2.2.1, (tr_o S T).2.2.2.2] at h
  exact h
theorem zT_pour {ng : Nat} {ms : Nat → Int32} {T : Tb} (h : zT T) (h5 : ng ≤ 5) (g n : Int32) : zT (p_pour (nI ng) ms T g n).2 := by
  unfold p_pour
  split
  · rename_i hb
    obtain ⟨j, hj, rfl, ej⟩ := isG_of (by omega) hb
    rw [ej]
    split
    · exact h
    · split
      · dsimp only
        split
        · split
          · exact ⟨fun i hi => ⟨(upd_ne _ _ (by omega)).trans (h.1 i hi).1, (upd_ne _ _ (by omega)).trans (h.1 i hi).2⟩, h.2⟩
          · exact h
        · split
          · exact ⟨fun i hi => ⟨(upd_ne _ _ (by omega)).trans (h.1 i hi).1, (upd_ne _ _ (by omega)).trans (h.1 i hi).2⟩, h.2⟩
          · exact h
      · exact h
  · exact h
theorem zT_drink {ng nd : Nat} {dk sb : Nat → Int32} {T : Tb} (h : zT T) (h5 : ng ≤ 5) (h4 : nd ≤ 4) (g n : Int32) : zT (p_drink (nI ng) (nI nd) dk sb T g n).2 := by
  unfold p_drink
  split
  · rename_i hb
    obtain ⟨j, hj, rfl, ej⟩ := isG_of (by omega) hb
    split
    · rename_i hc
      obtain ⟨k, hk, rfl, ek⟩ := isG_of (by omega) hc
      rw [ej, ek]
      split
      · exact zT_sw h (by omega) (by omega)
      · exact h
    · exact h
  · exact h
theorem zT_tip {ng : Nat} {ms : Nat → Int32} {T : Tb} (h : zT T) (h5 : ng ≤ 5) (g n : Int32) : zT (p_tip (nI ng) ms T g n).2 := by
  unfold p_tip
  split
  · rename_i hb
    obtain ⟨j, hj, rfl, ej⟩ := isG_of (by omega) hb
    split
    · rename_i hc
      obtain ⟨k, hk, rfl, ek⟩ := isG_of (by omega) hc
      rw [ej, ek]
      split
      · exact h
      · have key : ∀ (w x : Int32), zT (upd (upd T.1 j (T.1 j - w)) k (T.1 k + w), upd T.2.1 k x, T.2.2) := fun w x => ⟨fun i hi => ⟨(upd_ne _ _ (by omega)).trans ((upd_ne _ _ (by omega)).trans (h.1 i hi).1), (upd_ne _ _ (by omega)).trans (h.1 i hi).2⟩, h.2⟩
        dsimp only
        split
        · split
          · exact key _ _
          · exact h
        · split
          · exact key _ _
          · exact h
    · exact h
  · exact h
theorem zT_told {ng nd : Nat} {ms gk dk sb : Nat → Int32} {T : Tb} (h : zT T) (h5 : ng ≤ 5) (h4 : nd ≤ 4) (k : Nat) : zT (p_told (nI ng) (nI nd) ms gk dk sb T k).2 := by
  unfold p_told
  split
  · exact zT_pour h h5 _ _
  · split
    · exact zT_drink h h5 h4 _ _
    · split
      · exact zT_tip h h5 _ _
      · split
        · split
          · split
            · exact zT_hour h
            · exact h
          · exact h
        · exact h
set_option maxRecDepth 10000 in
theorem l_judge (d : Nat) (S : gx_S) {ng : Nat} (hng : S 11 0 = nI ng) (h5 : ng ≤ 5) {nd : Nat} (hnd : S 11 1 = nI nd) (h4 : nd ≤ 4) {k r : Nat} (hk : k ≤ 4) (hr : r < 1000 ^ k) (L : gx_L) : ∀ (m : Nat) (T : Tb), zT T → m ≤ k → p_jd (p_told (S 11 0) (S 11 1) (S 12) (S 14) (S 16) (S 17)) r k m T = p_jd (p_told (S 11 0) (S 11 1) (S 12) (S 14) (S 16) (S 17)) r k k (tG S 18) → Ev mX10_judge (d + 5) 69 [some (.ref 0), some (.int (nI k)), some (.long (lN r)), none, some (.long (lN (1000 ^ m))), none, some (.int (nI (k - m)))] [] (tS S 26 T) L (fun v S' L' => ∃ r9 : Int32, v = some (.int r9) ∧ r9 = p_jd (p_told (S 11 0) (S 11 1) (S 12) (S 14) (S 16) (S 17)) r k k (tG S 18) ∧ (∃ T1, zT T1 ∧ S' = tS S 26 T1) ∧ L' = L) := by
  have hp := p1000 k hk
  intro m
  induction m with
  | zero =>
    intro T hT hm hy
    refine ev_ild6 dX10_judge_69 ?_
    refine ev_ild1 dX10_judge_71 ?_
    refine ev_icmp_ge_t 115 dX10_judge_72 (by decide) (by rw [Nat.sub_zero]; exact nI_le (Nat.le_refl _) (by omega)) ?_
    refine ev_bipush (v := (-9)) dX10_judge_115 (by decide) ?_
    refine ev_iret dX10_judge_117 ?_
    exact ⟨_, rfl, hy, ⟨T, hT, rfl⟩, rfl⟩
  | succ m ih =>
    intro T hT hm hy
    have hm0 : 1 ≤ 1000 ^ m := Nat.pow_pos (by decide)
    have hm1 := p1000 (m + 1) (by omega)
    have hm2 := p1000 m (by omega)
    have hq : r / 1000 ^ m ≤ r := Nat.div_le_self _ _
    have hT1 : zT (p_told (S 11 0) (S 11 1) (S 12) (S 14) (S 16) (S 17) T (r / 1000 ^ m % 1000)).2 := by rw [hng, hnd]; exact zT_told hT h5 h4 _
    refine ev_ild6 dX10_judge_69 ?_
    refine ev_ild1 dX10_judge_71 ?_
    refine ev_icmp_ge_f 115 dX10_judge_72 (by decide) (nI_ge (by omega) (by omega)) ?_
    refine ev_lconst (v := 1) dX10_judge_75 (by decide) ?_
    refine ev_lld4 dX10_judge_76 ?_
    refine ev_ldc2 dX10_judge_78 kc_X10_221 ?_
    refine ev_ldiv dX10_judge_81 (by decide) ?_
    rw [show lN (1000 ^ (m + 1)) / 1000 = lN (1000 ^ m) from by rw [show (1000 : Int64) = lN 1000 from rfl, lN_div (by omega) (by decide), Nat.pow_succ, Nat.mul_div_cancel _ (by decide)]]
    refine ev_maxl dX10_judge_82 lk_X10_223 (Nat.le_add_left 1 _) (Nat.le_of_ble_eq_true rfl) ?_
    rw [lmaxB hm0 (by omega)]
    refine ev_lst4 dX10_judge_85 ?_
    refine ev_ald0 dX10_judge_87 ?_
    refine ev_getr (r := 26) dX10_judge_88 fl_X10_45 rfl ?_
    refine ev_lld2 dX10_judge_91 ?_
    refine ev_lld4 dX10_judge_92 ?_
    refine ev_ldiv dX10_judge_94 (lN_ne0 hm0 (by omega)) ?_
    rw [lN_div (by omega) (by omega)]
    refine ev_ldc2 dX10_judge_95 kc_X10_221 ?_
    refine ev_lrem dX10_judge_98 (by decide) ?_
    rw [show lN (r / 1000 ^ m) - lN (r / 1000 ^ m) / 1000 * 1000 = lN (r / 1000 ^ m % 1000) from lN_rem (b := 1000) (by omega) (by decide)]
    refine ev_l2i dX10_judge_99 ?_
    rw [lN_i]
    refine ev_V1i (M' := mX9_told) dX10_judge_100 lk_X10_229 vX9_told rfl (c_toldT d S hng h5 hnd h4 T (Nat.mod_lt _ (by decide)) L) (Nat.le_refl _) (Nat.le_of_ble_eq_true rfl) ?_
    refine ev_if_ge 109 dX10_judge_103 (by decide) (fun c_103 => ?_) (fun c_103 => ?_)
    · refine ev_inc6 dX10_judge_109 (nI_inc _) ?_
      refine ev_goto 69 dX10_judge_112 (by decide) ?_
      rw [show k - (m + 1) + 1 = k - m by omega]
      exact ih _ hT1 (by omega) (by rw [← hy]; exact (if_neg (Int32.not_lt.mpr c_103)).symm)
    · refine ev_ild6 dX10_judge_106 ?_
      refine ev_iret dX10_judge_108 ?_
      exact ⟨_, rfl, by rw [← hy]; exact (if_pos (Int32.not_le.mp c_103)).symm, ⟨_, hT1, rfl⟩, rfl⟩
set_option maxRecDepth 10000 in
theorem x_judge0 (d : Nat) (S : gx_S) {x : Int32} (hb : x < 1 ∨ 4 < x) (row : Int64) (L : gx_L) : Cf d mX10_judge [.ref 0, .int x, .long row] S L (-2) S L := by
  refine ct_intro (loc := [some (.ref 0), some (.int x), some (.long row), none, none, none, none]) (by decide) (Nat.le_of_ble_eq_true rfl) rfl ?_
  refine ev_ild1 dX10_judge_0 ?_
  refine ev_iconst (v := 1) dX10_judge_1 (by decide) ?_
  refine ev_icmp_lt 10 dX10_judge_2 (by decide) (fun c_2 => ?_) (fun c_2 => ?_)
  · refine ev_bipush (v := (-2)) dX10_judge_10 (by decide) ?_
    refine ev_iret dX10_judge_12 ?_
    exact ⟨_, rfl, rfl, rfl, rfl⟩
  · refine ev_ild1 dX10_judge_5 ?_
    refine ev_iconst (v := 4) dX10_judge_6 (by decide) ?_
    refine ev_icmp_le 13 dX10_judge_7 (by decide) (fun c_7 => ?_) (fun c_7 => ?_)
    · exact absurd hb (fun h9 => h9.elim c_2 (fun h9 => absurd c_7 (Int32.not_le.mpr h9)))
    · refine ev_bipush (v := (-2)) dX10_judge_10 (by decide) ?_
      refine ev_iret dX10_judge_12 ?_
      exact ⟨_, rfl, rfl, rfl, rfl⟩
set_option maxRecDepth 10000 in
theorem x_judge1 (d : Nat) (S : gx_S) {k : Nat} (hk1 : 1 ≤ k) (hk : k ≤ 4) {row : Int64} (hb : row < 0 ∨ lN (1000 ^ k) ≤ row) (L : gx_L) : Cf d mX10_judge [.ref 0, .int (nI k), .long row] S L (-2) S L := by
  refine ct_intro (loc := [some (.ref 0), some (.int (nI k)), some (.long row), none, none, none, none]) (by decide) (Nat.le_of_ble_eq_true rfl) rfl ?_
  refine ev_ild1 dX10_judge_0 ?_
  refine ev_iconst (v := 1) dX10_judge_1 (by decide) ?_
  refine ev_icmp_lt_f 10 dX10_judge_2 (by decide) (nI_nlt (b := 1) hk1 (by omega)) ?_
  refine ev_ild1 dX10_judge_5 ?_
  refine ev_iconst (v := 4) dX10_judge_6 (by decide) ?_
  refine ev_icmp_le_t 13 dX10_judge_7 (by decide) (nI_le (b := 4) hk (by decide)) ?_
  refine ev_lconst (v := 1) dX10_judge_13 (by decide) ?_
  refine ev_lst4 dX10_judge_14 ?_
  refine ev_iconst (v := 0) dX10_judge_16 (by decide) ?_
  refine ev_ist6 dX10_judge_17 ?_
  refine l_unit _ S row hk L ?_ k 0 (Nat.zero_add _)
  refine ev_lld2 dX10_judge_39 ?_
  refine ev_lconst (v := 0) dX10_judge_40 (by decide) ?_
  refine ev_lcmp dX10_judge_41 ?_
  refine ev_if_lt 52 dX10_judge_42 (by decide) (fun c_42 => ?_) (fun c_42 => ?_)
  · refine ev_bipush (v := (-2)) dX10_judge_52 (by decide) ?_
    refine ev_iret dX10_judge_54 ?_
    exact ⟨_, rfl, rfl, rfl, rfl⟩
  · refine ev_lld2 dX10_judge_45 ?_
    refine ev_lld4 dX10_judge_46 ?_
    refine ev_lcmp dX10_judge_48 ?_
    refine ev_if_lt 55 dX10_judge_49 (by decide) (fun c_49 => ?_) (fun c_49 => ?_)
    · exact absurd hb (fun h9 => h9.elim (fun h8 => c_42 ((lg_cmp_lt row 0).mpr h8)) (fun h9 => absurd ((lg_cmp_lt row _).mp c_49) (Int64.not_lt.mpr h9)))
    · refine ev_bipush (v := (-2)) dX10_judge_52 (by decide) ?_
      refine ev_iret dX10_judge_54 ?_
      exact ⟨_, rfl, rfl, rfl, rfl⟩
set_option maxRecDepth 10000 in
theorem x_judge (d : Nat) (S : gx_S) {ng : Nat} (hng : S 11 0 = nI ng) (h5 : ng ≤ 5) {nd : Nat} (hnd : S 11 1 = nI nd) (h4 : nd ≤ 4) {k r : Nat} (hk1 : 1 ≤ k) (hk : k ≤ 4) (hr : r < 1000 ^ k) (z18 : zT (tG S 18)) (z22 : zT (tG S 22)) (z26 : zT (tG S 26)) (L : gx_L) : Ci (d + 5) mX10_judge [.ref 0, .int (nI k), .long (lN r)] S L (fun r9 S1 L1 => r9 = p_jd (p_told (S 11 0) (S 11 1) (S 12) (S 14) (S 16) (S 17)) r k k (tG S 18) ∧ (∃ T1, zT T1 ∧ S1 = tS S 26 T1) ∧ L1 = L) := by
  refine ct_intro (loc := [some (.ref 0), some (.int (nI k)), some (.long (lN r)), none, none, none, none]) (by decide) (Nat.le_of_ble_eq_true rfl) rfl ?_
  have hp := p1000 k hk
  refine ev_ild1 dX10_judge_0 ?_
  refine ev_iconst (v := 1) dX10_judge_1 (by decide) ?_
  refine ev_icmp_lt_f 10 dX10_judge_2 (by decide) (nI_nlt (b := 1) hk1 (by omega)) ?_
  refine ev_ild1 dX10_judge_5 ?_
  refine ev_iconst (v := 4) dX10_judge_6 (by decide) ?_
  refine ev_icmp_le_t 13 dX10_judge_7 (by decide) (nI_le (b := 4) hk (by decide)) ?_
  refine ev_lconst (v := 1) dX10_judge_13 (by decide) ?_
  refine ev_lst4 dX10_judge_14 ?_
  refine ev_iconst (v := 0) dX10_judge_16 (by decide) ?_
  refine ev_ist6 dX10_judge_17 ?_
  refine l_unit _ S (lN r) hk L ?_ k 0 (Nat.zero_add _)
  refine ev_lld2 dX10_judge_39 ?_
  refine ev_lconst (v := 0) dX10_judge_40 (by decide) ?_
  refine ev_lcmp dX10_judge_41 ?_
  refine ev_if_lt_f 52 dX10_judge_42 (by decide) (fun h9 => absurd ((lN_ltB (b := 0) (by omega) (by decide)).mp ((lg_cmp_lt _ _).mp h9)) (by omega)) ?_
  refine ev_lld2 dX10_judge_45 ?_
  refine ev_lld4 dX10_judge_46 ?_
  refine ev_lcmp dX10_judge_48 ?_
  refine ev_if_lt_t 55 dX10_judge_49 (by decide) ((lg_cmp_lt _ _).mpr ((lN_ltB (by omega) (by omega)).mpr hr)) ?_
  refine ev_ald0 dX10_judge_55 ?_
  refine ev_getr (r := 26) dX10_judge_56 fl_X10_45 rfl ?_
  refine ev_ald0 dX10_judge_59 ?_
  refine ev_getr (r := 18) dX10_judge_60 fl_X10_38 rfl ?_
  refine ev_V1v (M' := mX9_copyFrom) dX10_judge_63 lk_X10_164 vX9_copyFrom rfl (k_copy (d + 3) S z18 z22 z26 L) (Nat.le_refl _) (Nat.le_of_ble_eq_true rfl) ?_
  refine ev_iconst (v := 0) dX10_judge_66 (by decide) ?_
  refine ev_ist6 dX10_judge_67 ?_
  have l9 := l_judge d S hng h5 hnd h4 hk hr L k (tG S 18) z18 (Nat.le_refl k) rfl
  rw [Nat.sub_self] at l9
  exact l9
