theorem s_room (d : Nat) (S : gx_S) {ng nd : Nat} {ms gk dk sb : Nat → Int32} (hm : mH S ng nd ms gk dk sb) {T : Tb} (h0 : mT (S 49) 0 = T) {g : Nat} (hg : g < ng) (L : gx_L) : Cf d mX11_roomIn [.ref 44, .int 0, .int (nI g)] S L (ms g - T.1 g) S L := by
  have h := m_roomIn d S hm (lv := 0) (by decide) hg T L
  rw [← s0_T h0] at h
  exact h
theorem s_can (d : Nat) (S : gx_S) {ng nd : Nat} {ms gk dk sb : Nat → Int32} (hm : mH S ng nd ms gk dk sb) {T : Tb} (h0 : mT (S 49) 0 = T) (g q : Int32) (L : gx_L) : Cf (d + 2) mX11_canTip [.ref 44, .int 0, .int g, .int q] S L (gx_b (q_can ng ms T g q)) S L := by
  have h := m_canTip d S hm (lv := 0) (by decide) T g q L
  rw [← s0_T h0] at h
  exact h
theorem k_pourOn (d : Nat) (S : gx_S) {ng nd : Nat} {ms gk dk sb : Nat → Int32} (hm : mH S ng nd ms gk dk sb) {T : Tb} (h0 : mT (S 49) 0 = T) (nx sz : Nat) {g : Nat} (hg : g < ng) (n : Int32) (L : gx_L) : Cf (d + 1) mX11_pourOn [.ref 44, .int 0, .int (nI g), .int n] (M_keep S nx sz) L (q_w ms T g n) (nS (M_keep S nx sz) 0 (q_pourT ms T g n)) L := by
  have h := m_pourOn d (M_keep S nx sz) (mH_keep hm nx sz) (lv := 0) (by decide) hg T n L
  rw [← mk_T h0 nx sz] at h
  exact h
theorem k_tipOn (d : Nat) (S : gx_S) {ng nd : Nat} {ms gk dk sb : Nat → Int32} (hm : mH S ng nd ms gk dk sb) {T : Tb} (h0 : mT (S 49) 0 = T) (nx sz : Nat) {g q : Nat} (hg : g < ng) (hq : q < ng) (hne : q ≠ g) (L : gx_L) : Cf (d + 1) mX11_tipOn [.ref 44, .int 0, .int (nI g), .int (nI q)] (M_keep S nx sz) L (q_tw ms T g q) (nS (M_keep S nx sz) 0 (q_tipT ms T g q)) L := by
  have h := m_tipOn d (M_keep S nx sz) (mH_keep hm nx sz) (lv := 0) (by decide) hg hq hne T L
  rw [← mk_T h0 nx sz] at h
  exact h
theorem k_drinkOn (d : Nat) (S : gx_S) {ng nd : Nat} {ms gk dk sb : Nat → Int32} (hm : mH S ng nd ms gk dk sb) {T : Tb} (h0 : mT (S 49) 0 = T) (nx sz : Nat) {dr g : Nat} (hd : dr < nd) (hg : g < 5) (hc : 0 ≤ T.1 g) (L : gx_L) : Cf (d + 1) mX11_drinkOn [.ref 44, .int 0, .int (nI dr), .int (nI g)] (M_keep S nx sz) L (p_sw dk T dr g) (nS (M_keep S nx sz) 0 (p_swT dk T dr g)) L := by
  have h49 := hm.2.2.2.1
  have h := m_drinkH d (lv := 0) (by decide) (show dr < 4 by omega) hg (M_keep S nx sz) T (((mH_keep hm nx sz).2.2.2.2.2.1 dr hd).1) hc L
  rw [← mk_T h0 nx sz] at h
  exact h
theorem k_passOn (d : Nat) (S : gx_S) {ng nd : Nat} {ms gk dk sb : Nat → Int32} (hm : mH S ng nd ms gk dk sb) {T : Tb} (h0 : mT (S 49) 0 = T) (hT : okT ms T) (nx sz : Nat) (L : gx_L) : Cw d mX11_passOn [.ref 44, .int 0] (M_keep S nx sz) L (nS (M_keep S nx sz) 0 (p_hourT gk T)) L := by
  have h := m_passOn d (M_keep S nx sz) (mH_keep hm nx sz) (lv := 0) (by decide) T hT L
  rw [← mk_T h0 nx sz] at h
  exact h
theorem in09 (n : Int32) : inL n.toInt64 0 9 = decide (¬ n < 0 ∧ ¬ 9 < n) := inL_32 n 0 9
theorem in01 (n : Int32) : inL n.toInt64 0 1 = decide (¬ n < 0 ∧ ¬ 1 < n) := inL_32 n 0 1
theorem tip_q {ng : Nat} (h5 : ng ≤ 5) {ms : Nat → Int32} {T : Tb} (hT : okT ms T) {j k : Nat} (hj : j < ng) (hk : k < ng) (hne : ¬ nI j = nI k) : (¬ q_can ng ms T (nI j) (nI k) = true → p_tip (nI ng) ms T (nI j) (nI k) = (-3, T)) ∧ (q_can ng ms T (nI j) (nI k) = true → p_tip (nI ng) ms T (nI j) (nI k) = (q_tw ms T j k, q_tipT ms T j k) ∧ ¬ q_tw ms T j k < 0) := by
  have ej : (nI j).toNatClampNeg = j := nI_clamp (by omega)
  have ek : (nI k).toNatClampNeg = k := nI_clamp (by omega)
  have eu : p_tip (nI ng) ms T (nI j) (nI k) = (if 0 < q_tw ms T j k then (q_tw ms T j k, q_tipT ms T j k) else (-3, T)) := by
    unfold p_tip
    rw [if_pos (isG_in (by omega) hj), if_pos (isG_in (by omega) hk), if_neg hne, ej, ek]
    rfl
  have ec : q_can ng ms T (nI j) (nI k) = (if T.1 j ≤ 0 then false else if ms k - T.1 k ≤ 0 then false else true) := by
    unfold q_can
    rw [if_pos (isG_in (by omega) hj), if_pos (isG_in (by omega) hk), if_neg hne, ej, ek]
  rw [eu, ec]
  by_cases h1 : T.1 j ≤ 0
  · rw [if_pos h1]
    have hw : ¬ 0 < q_tw ms T j k := by
      unfold q_tw
      by_cases h : ms k - T.1 k < T.1 j
      · rw [if_pos h]
        exact Int32.not_lt.mpr (Int32.le_trans (Int32.le_of_lt h) h1)
      · rw [if_neg h]
        exact Int32.not_lt.mpr h1
    exact ⟨fun _ => if_neg hw, fun h => absurd h (by decide)⟩
  · rw [if_neg h1]
    by_cases h2 : ms k - T.1 k ≤ 0
    · rw [if_pos h2]
      have hw : ¬ 0 < q_tw ms T j k := by
        unfold q_tw
        rw [if_pos (Int32.lt_of_le_of_lt h2 (Int32.not_le.mp h1))]
        exact Int32.not_lt.mpr h2
      exact ⟨fun _ => if_neg hw, fun h => absurd h (by decide)⟩
    · rw [if_neg h2]
      have hw : 0 < q_tw ms T j k := by
        unfold q_tw
        by_cases h : ms k - T.1 k < T.1 j
        · rw [if_pos h]; exact Int32.not_le.mp h2
        · rw [if_neg h]; exact Int32.not_le.mp h1
      exact ⟨fun h => absurd rfl h, fun _ => ⟨if_pos hw, Int32.not_lt.mpr (Int32.le_of_lt hw)⟩⟩
set_option maxRecDepth 10000 in
theorem m_pour (d : Nat) (S : gx_S) {ng nd : Nat} {ms gk dk sb : Nat → Int32} (hm : mH S ng nd ms gk dk sb) {nx sz : Nat} (hx : S 44 17 = nI nx) (h14 : nx < 14) (hs : S 44 16 = nI sz) (hs4 : sz ≤ 14) {T : Tb} (h0 : mT (S 49) 0 = T) (hT : okT ms T) (g n : Int32) (L : gx_L) : Cf (d + 2) mX11_pour [.ref 44, .int g, .int n] S L (p_pour (nI ng) ms T g n).1 (M_mact S nx sz (p_pour (nI ng) ms T g n)) L := by
  refine ct_intro (loc := [some (.ref 44), some (.int g), some (.int n)]) (by decide) (Nat.le_of_ble_eq_true rfl) rfl ?_
  have h59 := hm.2.1
  refine ev_ald0 dX11_pour_0 ?_
  refine ev_ild1 dX11_pour_1 ?_
  refine ev_V1i (M' := mX11_isGlass) dX11_pour_2 lk_X11_126 vX11_isGlass rfl (m_isGlass d S hm.1 hm.2.1 _ L) (Nat.le_refl _) (Nat.le_of_ble_eq_true rfl) ?_
  refine ev_if_ne 10 dX11_pour_5 (by decide) (fun c_5 => ?_) (fun c_5 => ?_)
  · have b_5 := gx_b_y.mp c_5
    obtain ⟨j, hj, rfl, ej⟩ := isG_of (by omega) b_5
    refine ev_ild2 dX11_pour_10 ?_
    refine ev_i2l dX11_pour_11 ?_
    refine ev_lconst (v := 1) dX11_pour_12 (by decide) ?_
    refine ev_ldc2 dX11_pour_13 kc_X11_75 ?_
    refine ev_S3i (M' := mX11_in) dX11_pour_16 lk_X11_62 sX11_in (m_in (d + 1) _ _ _ _ _) (Nat.le_refl _) (Nat.le_of_ble_eq_true rfl) ?_
    refine ev_if_ne 25 dX11_pour_19 (by decide) (fun c_19 => ?_) (fun c_19 => ?_)
    · have b_19 := gx_b_y.mp c_19
      have hn := of_decide_eq_true ((in19 n).symm.trans b_19)
      refine ev_ald0 dX11_pour_25 ?_
      refine ev_iconst (v := 0) dX11_pour_26 (by decide) ?_
      refine ev_ild1 dX11_pour_27 ?_
      refine ev_V2i (M' := mX11_roomIn) dX11_pour_28 lk_X11_142 vX11_roomIn rfl (s_room (d + 1) S hm h0 hj L) (Nat.le_refl _) (Nat.le_of_ble_eq_true rfl) ?_
      refine ev_if_ne 37 dX11_pour_31 (by decide) (fun c_31 => ?_) (fun c_31 => ?_)
      · refine ev_ald0 dX11_pour_37 ?_
        refine ev_V0v (M' := mX11_keepAct) dX11_pour_38 lk_X11_145 vX11_keepAct rfl (m_keepAct (d + 1) S hx h14 hs hs4 L) (Nat.le_refl _) (Nat.le_of_ble_eq_true rfl) ?_
        refine ev_ald0 dX11_pour_41 ?_
        refine ev_iconst (v := 0) dX11_pour_42 (by decide) ?_
        refine ev_ild1 dX11_pour_43 ?_
        refine ev_ild2 dX11_pour_44 ?_
        refine ev_V3i (M' := mX11_pourOn) dX11_pour_45 lk_X11_148 vX11_pourOn rfl (k_pourOn d S hm h0 nx sz hj n L) (Nat.le_refl _) (Nat.le_of_ble_eq_true rfl) ?_
        refine ev_iret dX11_pour_48 ?_
        obtain ⟨e9, e8⟩ := (pour_q hm.2.1 hT hj hn.1 (Int32.not_lt.mp hn.2)).2 c_31
        exact ⟨_, rfl, by rw [e9], by rw [e9]; exact (if_neg e8).symm, rfl⟩
      · refine ev_bipush (v := (-3)) dX11_pour_34 (by decide) ?_
        refine ev_iret dX11_pour_36 ?_
        have e9 := (pour_q hm.2.1 hT hj hn.1 (Int32.not_lt.mp hn.2)).1 c_31
        exact ⟨_, rfl, by rw [e9], by rw [e9]; rfl, rfl⟩
    · have b_19 := gx_b_n.mp c_19
      refine ev_bipush (v := (-2)) dX11_pour_22 (by decide) ?_
      refine ev_iret dX11_pour_24 ?_
      have e9 : p_pour (nI ng) ms T (nI j) n = (-2, T) := (if_pos b_5).trans (by
        by_cases h1 : n < 1
        · rw [if_pos h1]
        · rw [if_neg h1, if_neg (fun h2 => b_19 (by rw [in19]; exact decide_eq_true ⟨h1, Int32.not_lt.mpr h2⟩))])
      exact ⟨_, rfl, by rw [e9], by rw [e9]; rfl, rfl⟩
  · have b_5 := gx_b_n.mp c_5
    refine ev_iconst (v := (-1)) dX11_pour_8 (by decide) ?_
    refine ev_iret dX11_pour_9 ?_
    have e9 : p_pour (nI ng) ms T g n = (-1, T) := if_neg b_5
    exact ⟨_, rfl, by rw [e9], by rw [e9]; rfl, rfl⟩
theorem sw_nn {ms dk : Nat → Int32} {T : Tb} {d g : Nat} (h : okT ms T) (hd : d < 4) (hg : g < 5) : ¬ p_sw dk T d g < 0 := by
  obtain ⟨⟨a, m, ha, hm, ham, hm9⟩, -⟩ := h.1 g hg
  obtain ⟨t, ht, ht9⟩ := h.2 d hd
  obtain ⟨v, hv, hva, hvt⟩ := gulp_n (dk d) ht9 (show a ≤ 9 by omega)
  have hsw : p_sw dk T d g = nI v := by unfold p_sw; rw [ht, ha]; exact hv
  rw [hsw]
  exact nI_pos (by omega)
set_option maxRecDepth 10000 in
theorem m_drink (d : Nat) (S : gx_S) {ng nd : Nat} {ms gk dk sb : Nat → Int32} (hm : mH S ng nd ms gk dk sb) {nx sz : Nat} (hx : S 44 17 = nI nx) (h14 : nx < 14) (hs : S 44 16 = nI sz) (hs4 : sz ≤ 14) {T : Tb} (h0 : mT (S 49) 0 = T) (hT : okT ms T) (x g : Int32) (L : gx_L) : Cf (d + 2) mX11_drink [.ref 44, .int x, .int g] S L (p_drink (nI ng) (nI nd) dk sb T x g).1 (M_mact S nx sz (p_drink (nI ng) (nI nd) dk sb T x g)) L := by
  refine ct_intro (loc := [some (.ref 44), some (.int x), some (.int g)]) (by decide) (Nat.le_of_ble_eq_true rfl) rfl ?_
  have h59 := hm.2.1
  have h49 := hm.2.2.2.1
  refine ev_ald0 dX11_drink_0 ?_
  refine ev_ild1 dX11_drink_1 ?_
  refine ev_V1i (M' := mX11_isDrinker) dX11_drink_2 lk_X11_133 vX11_isDrinker rfl (m_isDrinker d S hm.2.2.1 (by have := hm.2.2.2.1; omega) _ L) (Nat.le_refl _) (Nat.le_of_ble_eq_true rfl) ?_
  refine ev_if_eq 16 dX11_drink_5 (by decide) (fun c_5 => ?_) (fun c_5 => ?_)
  · have b_5 := gx_b_n.mp c_5
    refine ev_iconst (v := (-1)) dX11_drink_16 (by decide) ?_
    refine ev_iret dX11_drink_17 ?_
    have e9 : p_drink (nI ng) (nI nd) dk sb T x g = (-1, T) := if_neg b_5
    exact ⟨_, rfl, by rw [e9], by rw [e9]; rfl, rfl⟩
  · have b_5 := gx_b_y.mp c_5
    obtain ⟨i, hi, rfl, ei⟩ := isG_of (by omega) b_5
    refine ev_ald0 dX11_drink_8 ?_
    refine ev_ild2 dX11_drink_9 ?_
    refine ev_V1i (M' := mX11_isGlass) dX11_drink_10 lk_X11_126 vX11_isGlass rfl (m_isGlass d S hm.1 hm.2.1 _ L) (Nat.le_refl _) (Nat.le_of_ble_eq_true rfl) ?_
    refine ev_if_ne 18 dX11_drink_13 (by decide) (fun c_13 => ?_) (fun c_13 => ?_)
    · have b_13 := gx_b_y.mp c_13
      obtain ⟨j, hj, rfl, ej⟩ := isG_of (by omega) b_13
      refine ev_ald0 dX11_drink_18 ?_
      refine ev_getr (r := 48) dX11_drink_19 fl_X11_19 rfl ?_
      refine ev_ild1 dX11_drink_22 ?_
      refine ev_iald' dX11_drink_23 rfl (by omega) (by decide) ?_
      rw [(hm.2.2.2.2.2.1 i hi).2]
      refine ev_ild2 dX11_drink_24 ?_
      refine ev_S2i (M' := mX11_has) dX11_drink_25 lk_X11_77 sX11_has (m_has (d + 1) _ _ _ _) (Nat.le_refl _) (Nat.le_of_ble_eq_true rfl) ?_
      refine ev_if_ne 34 dX11_drink_28 (by decide) (fun c_28 => ?_) (fun c_28 => ?_)
      · have b_28 := gx_b_y.mp c_28
        refine ev_ald0 dX11_drink_34 ?_
        refine ev_V0v (M' := mX11_keepAct) dX11_drink_35 lk_X11_145 vX11_keepAct rfl (m_keepAct (d + 1) S hx h14 hs hs4 L) (Nat.le_refl _) (Nat.le_of_ble_eq_true rfl) ?_
        refine ev_ald0 dX11_drink_38 ?_
        refine ev_iconst (v := 0) dX11_drink_39 (by decide) ?_
        refine ev_ild1 dX11_drink_40 ?_
        refine ev_ild2 dX11_drink_41 ?_
        refine ev_V3i (M' := mX11_drinkOn) dX11_drink_42 lk_X11_115 vX11_drinkOn rfl (k_drinkOn d S hm h0 nx sz hi (by omega) (okT_c hT (by omega)) L) (Nat.le_refl _) (Nat.le_of_ble_eq_true rfl) ?_
        refine ev_iret dX11_drink_45 ?_
        have e9 : p_drink (nI ng) (nI nd) dk sb T (nI i) (nI j) = (p_sw dk T i j, p_swT dk T i j) := (if_pos b_5).trans ((if_pos b_13).trans ((if_pos (by rw [ei, ej]; exact b_28)).trans (by rw [ei, ej])))
        exact ⟨_, rfl, by rw [e9], by rw [e9]; exact (if_neg (sw_nn hT (by omega) (by omega))).symm, rfl⟩
      · have b_28 := gx_b_n.mp c_28
        refine ev_bipush (v := (-3)) dX11_drink_31 (by decide) ?_
        refine ev_iret dX11_drink_33 ?_
        have e9 : p_drink (nI ng) (nI nd) dk sb T (nI i) (nI j) = (-3, T) := (if_pos b_5).trans ((if_pos b_13).trans (if_neg (by rw [ei, ej]; exact b_28)))
        exact ⟨_, rfl, by rw [e9], by rw [e9]; rfl, rfl⟩
    · have b_13 := gx_b_n.mp c_13
      refine ev_iconst (v := (-1)) dX11_drink_16 (by decide) ?_
      refine ev_iret dX11_drink_17 ?_
      have e9 : p_drink (nI ng) (nI nd) dk sb T (nI i) g = (-1, T) := (if_pos b_5).trans (if_neg b_13)
      exact ⟨_, rfl, by rw [e9], by rw [e9]; rfl, rfl⟩
set_option maxRecDepth 10000 in
theorem m_tip (d : Nat) (S : gx_S) {ng nd : Nat} {ms gk dk sb : Nat → Int32} (hm : mH S ng nd ms gk dk sb) {nx sz : Nat} (hx : S 44 17 = nI nx) (h14 : nx < 14) (hs : S 44 16 = nI sz) (hs4 : sz ≤ 14) {T : Tb} (h0 : mT (S 49) 0 = T) (hT : okT ms T) (g q : Int32) (L : gx_L) : Cf (d + 3) mX11_tip [.ref 44, .int g, .int q] S L (p_tip (nI ng) ms T g q).1 (M_mact S nx sz (p_tip (nI ng) ms T g q)) L := by
  refine ct_intro (loc := [some (.ref 44), some (.int g), some (.int q)]) (by decide) (Nat.le_of_ble_eq_true rfl) rfl ?_
  have h59 := hm.2.1
  refine ev_ald0 dX11_tip_0 ?_
  refine ev_ild1 dX11_tip_1 ?_
  refine ev_V1i (M' := mX11_isGlass) dX11_tip_2 lk_X11_126 vX11_isGlass rfl (m_isGlass (d + 1) S hm.1 hm.2.1 _ L) (Nat.le_refl _) (Nat.le_of_ble_eq_true rfl) ?_
  refine ev_if_eq 16 dX11_tip_5 (by decide) (fun c_5 => ?_) (fun c_5 => ?_)
  · have b_5 := gx_b_n.mp c_5
    refine ev_iconst (v := (-1)) dX11_tip_16 (by decide) ?_
    refine ev_iret dX11_tip_17 ?_
    have e9 : p_tip (nI ng) ms T g q = (-1, T) := if_neg b_5
    exact ⟨_, rfl, by rw [e9], by rw [e9]; rfl, rfl⟩
  · have b_5 := gx_b_y.mp c_5
    obtain ⟨i, hi, rfl, ei⟩ := isG_of (by omega) b_5
    refine ev_ald0 dX11_tip_8 ?_
    refine ev_ild2 dX11_tip_9 ?_
    refine ev_V1i (M' := mX11_isGlass) dX11_tip_10 lk_X11_126 vX11_isGlass rfl (m_isGlass (d + 1) S hm.1 hm.2.1 _ L) (Nat.le_refl _) (Nat.le_of_ble_eq_true rfl) ?_
    refine ev_if_ne 18 dX11_tip_13 (by decide) (fun c_13 => ?_) (fun c_13 => ?_)
    · have b_13 := gx_b_y.mp c_13
      obtain ⟨j, hj, rfl, ej⟩ := isG_of (by omega) b_13
      refine ev_ild1 dX11_tip_18 ?_
      refine ev_ild2 dX11_tip_19 ?_
      refine ev_icmp_ne 26 dX11_tip_20 (by decide) (fun c_20 => ?_) (fun c_20 => ?_)
      · refine ev_ald0 dX11_tip_26 ?_
        refine ev_iconst (v := 0) dX11_tip_27 (by decide) ?_
        refine ev_ild1 dX11_tip_28 ?_
        refine ev_ild2 dX11_tip_29 ?_
        refine ev_V3i (M' := mX11_canTip) dX11_tip_30 lk_X11_151 vX11_canTip rfl (s_can d S hm h0 _ _ L) (Nat.le_refl _) (Nat.le_of_ble_eq_true rfl) ?_
        refine ev_if_ne 39 dX11_tip_33 (by decide) (fun c_33 => ?_) (fun c_33 => ?_)
        · have b_33 := gx_b_y.mp c_33
          refine ev_ald0 dX11_tip_39 ?_
          refine ev_V0v (M' := mX11_keepAct) dX11_tip_40 lk_X11_145 vX11_keepAct rfl (m_keepAct (d + 2) S hx h14 hs hs4 L) (Nat.le_refl _) (Nat.le_of_ble_eq_true rfl) ?_
          refine ev_ald0 dX11_tip_43 ?_
          refine ev_iconst (v := 0) dX11_tip_44 (by decide) ?_
          refine ev_ild1 dX11_tip_45 ?_
          refine ev_ild2 dX11_tip_46 ?_
          refine ev_V3i (M' := mX11_tipOn) dX11_tip_47 lk_X11_155 vX11_tipOn rfl (k_tipOn (d + 1) S hm h0 nx sz hi hj (fun h9 => c_20 (by rw [h9])) L) (Nat.le_refl _) (Nat.le_of_ble_eq_true rfl) ?_
          refine ev_iret dX11_tip_50 ?_
          obtain ⟨e9, e8⟩ := (tip_q hm.2.1 hT hi hj c_20).2 b_33
          exact ⟨_, rfl, by rw [e9], by rw [e9]; exact (if_neg e8).symm, rfl⟩
        · have b_33 := gx_b_n.mp c_33
          refine ev_bipush (v := (-3)) dX11_tip_36 (by decide) ?_
          refine ev_iret dX11_tip_38 ?_
          have e9 := (tip_q hm.2.1 hT hi hj c_20).1 b_33
          exact ⟨_, rfl, by rw [e9], by rw [e9]; rfl, rfl⟩
      · refine ev_bipush (v := (-2)) dX11_tip_23 (by decide) ?_
        refine ev_iret dX11_tip_25 ?_
        have e9 : p_tip (nI ng) ms T (nI i) (nI j) = (-2, T) := (if_pos b_5).trans ((if_pos b_13).trans (if_pos c_20))
        exact ⟨_, rfl, by rw [e9], by rw [e9]; rfl, rfl⟩
    · have b_13 := gx_b_n.mp c_13
      refine ev_iconst (v := (-1)) dX11_tip_16 (by decide) ?_
      refine ev_iret dX11_tip_17 ?_
      have e9 : p_tip (nI ng) ms T (nI i) q = (-1, T) := (if_pos b_5).trans (if_neg b_13)
      exact ⟨_, rfl, by rw [e9], by rw [e9]; rfl, rfl⟩
set_option maxRecDepth 10000 in
theorem m_hour (d : Nat) (S : gx_S) {ng nd : Nat} {ms gk dk sb : Nat → Int32} (hm : mH S ng nd ms gk dk sb) {nx sz : Nat} (hx : S 44 17 = nI nx) (h14 : nx < 14) (hs : S 44 16 = nI sz) (hs4 : sz ≤ 14) {T : Tb} (h0 : mT (S 49) 0 = T) (hT : okT ms T) (L : gx_L) : Cf (d + 2) mX11_hour [.ref 44] S L (p_taxes gk ms (p_hourT gk T)) (nS (M_keep S nx sz) 0 (p_hourT gk T)) L := by
  refine ct_intro (loc := [some (.ref 44)]) (by decide) (Nat.le_of_ble_eq_true rfl) rfl ?_
  refine ev_ald0 dX11_hour_0 ?_
  refine ev_V0v (M' := mX11_keepAct) dX11_hour_1 lk_X11_145 vX11_keepAct rfl (m_keepAct (d + 1) S hx h14 hs hs4 L) (Nat.le_refl _) (Nat.le_of_ble_eq_true rfl) ?_
  refine ev_ald0 dX11_hour_4 ?_
  refine ev_iconst (v := 0) dX11_hour_5 (by decide) ?_
  refine ev_V1v (M' := mX11_passOn) dX11_hour_6 lk_X11_158 vX11_passOn rfl (k_passOn (d + 1) S hm h0 hT nx sz L) (Nat.le_refl _) (Nat.le_of_ble_eq_true rfl) ?_
  refine ev_ald0 dX11_hour_9 ?_
  refine ev_iconst (v := 0) dX11_hour_10 (by decide) ?_
  refine ev_V1i (M' := mX11_taxes) dX11_hour_11 lk_X11_161 vX11_taxes rfl (m_taxes d (M_keep S nx sz) (mH_keep hm nx sz) (lv := 0) (by decide) _ (okT_hour hT) L) (Nat.le_refl _) (Nat.le_of_ble_eq_true rfl) ?_
  refine ev_iret dX11_hour_14 ?_
  exact ⟨_, rfl, rfl, rfl, rfl⟩
