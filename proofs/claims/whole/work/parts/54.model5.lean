def q_can (ng : Nat) (ms : Nat → Int32) (T : Tb) (g q : Int32) : Bool := if isG (nI ng) g = true then (if isG (nI ng) q = true then (if g = q then false else if T.1 g.toNatClampNeg ≤ 0 then false else if ms q.toNatClampNeg - T.1 q.toNatClampNeg ≤ 0 then false else true) else false) else false
set_option maxRecDepth 10000 in
theorem m_canTip (d : Nat) (S : gx_S) {ng nd : Nat} {ms gk dk sb : Nat → Int32} (hm : mH S ng nd ms gk dk sb) {lv : Nat} (hl : lv ≤ 1) (T : Tb) (g q : Int32) (L : gx_L) : Cf (d + 2) mX11_canTip [.ref 44, .int (nI lv), .int g, .int q] (nS S lv T) L (gx_b (q_can ng ms T g q)) (nS S lv T) L := by
  refine ct_intro (loc := [some (.ref 44), some (.int (nI lv)), some (.int g), some (.int q)]) (by decide) (Nat.le_of_ble_eq_true rfl) rfl ?_
  have h59 := hm.2.1
  refine ev_ald0 dX11_canTip_0 ?_
  refine ev_ild2 dX11_canTip_1 ?_
  refine ev_V1i (M' := mX11_isGlass) dX11_canTip_2 lk_X11_126 vX11_isGlass rfl (m_isGlass d _ (by first | exact hm.1 | (rw [nS_o S lv T (by decide)]; exact hm.1)) hm.2.1 _ L) (Nat.le_refl _) (Nat.le_of_ble_eq_true rfl) ?_
  refine ev_if_eq 48 dX11_canTip_5 (by decide) (fun c_5 => ?_) (fun c_5 => ?_)
  · have b_5 := gx_b_n.mp c_5
    refine ev_iconst (v := 0) dX11_canTip_48 (by decide) ?_
    refine ev_zret dX11_canTip_49 ?_ ?_
    · rfl
    · have e9 : q_can ng ms T g q = _ := if_neg b_5
      exact ⟨_, rfl, by rw [e9]; rfl, rfl, rfl⟩
  · have b_5 := gx_b_y.mp c_5
    obtain ⟨j, hj, rfl, ej⟩ := isG_of (by omega) b_5
    refine ev_ald0 dX11_canTip_8 ?_
    refine ev_ild3 dX11_canTip_9 ?_
    refine ev_V1i (M' := mX11_isGlass) dX11_canTip_10 lk_X11_126 vX11_isGlass rfl (m_isGlass d _ (by first | exact hm.1 | (rw [nS_o S lv T (by decide)]; exact hm.1)) hm.2.1 _ L) (Nat.le_refl _) (Nat.le_of_ble_eq_true rfl) ?_
    refine ev_if_eq 48 dX11_canTip_13 (by decide) (fun c_13 => ?_) (fun c_13 => ?_)
    · have b_13 := gx_b_n.mp c_13
      refine ev_iconst (v := 0) dX11_canTip_48 (by decide) ?_
      refine ev_zret dX11_canTip_49 ?_ ?_
      · rfl
      · have e9 : q_can ng ms T (nI j) q = _ := (if_pos b_5).trans (if_neg b_13)
        exact ⟨_, rfl, by rw [e9]; rfl, rfl, rfl⟩
    · have b_13 := gx_b_y.mp c_13
      obtain ⟨k, hk, rfl, ek⟩ := isG_of (by omega) b_13
      refine ev_ild2 dX11_canTip_16 ?_
      refine ev_ild3 dX11_canTip_17 ?_
      refine ev_icmp_eq 48 dX11_canTip_18 (by decide) (fun c_18 => ?_) (fun c_18 => ?_)
      · refine ev_iconst (v := 0) dX11_canTip_48 (by decide) ?_
        refine ev_zret dX11_canTip_49 ?_ ?_
        · rfl
        · have e9 : q_can ng ms T (nI j) (nI k) = _ := (if_pos b_5).trans ((if_pos b_13).trans (if_pos c_18))
          exact ⟨_, rfl, by rw [e9]; rfl, rfl, rfl⟩
      · refine ev_ald0 dX11_canTip_21 ?_
        refine ev_getr (r := 49) dX11_canTip_22 fl_X11_22 rfl ?_
        refine ev_bipush (v := 15) dX11_canTip_25 (by decide) ?_
        refine ev_ild1 dX11_canTip_27 ?_
        refine ev_imul dX11_canTip_28 ?_
        rw [m15]
        refine ev_ild2 dX11_canTip_29 ?_
        refine ev_iadd dX11_canTip_30 ?_
        refine ev_iald2 (j := 15 * lv + j) dX11_canTip_31 rfl (ix2 _ _) (by omega) (by first | decide | omega) ?_
        rw [nS_c S lv T (by omega)]
        refine ev_if_le 48 dX11_canTip_32 (by decide) (fun c_32 => ?_) (fun c_32 => ?_)
        · refine ev_iconst (v := 0) dX11_canTip_48 (by decide) ?_
          refine ev_zret dX11_canTip_49 ?_ ?_
          · rfl
          · have e9 : q_can ng ms T (nI j) (nI k) = _ := (if_pos b_5).trans ((if_pos b_13).trans ((if_neg c_18).trans (if_pos (by rw [ej]; exact c_32))))
            exact ⟨_, rfl, by rw [e9]; rfl, rfl, rfl⟩
        · refine ev_ald0 dX11_canTip_35 ?_
          refine ev_ild1 dX11_canTip_36 ?_
          refine ev_ild3 dX11_canTip_37 ?_
          refine ev_V2i (M' := mX11_roomIn) dX11_canTip_38 lk_X11_142 vX11_roomIn rfl (m_roomIn (d + 1) S hm hl hk T L) (Nat.le_refl _) (Nat.le_of_ble_eq_true rfl) ?_
          refine ev_if_le 48 dX11_canTip_41 (by decide) (fun c_41 => ?_) (fun c_41 => ?_)
          · refine ev_iconst (v := 0) dX11_canTip_48 (by decide) ?_
            refine ev_zret dX11_canTip_49 ?_ ?_
            · rfl
            · have e9 : q_can ng ms T (nI j) (nI k) = _ := (if_pos b_5).trans ((if_pos b_13).trans ((if_neg c_18).trans ((if_neg (by rw [ej]; exact c_32)).trans (if_pos (by rw [ek]; exact c_41)))))
              exact ⟨_, rfl, by rw [e9]; rfl, rfl, rfl⟩
          · refine ev_iconst (v := 1) dX11_canTip_44 (by decide) ?_
            refine ev_goto 49 dX11_canTip_45 (by decide) ?_
            refine ev_zret dX11_canTip_49 ?_ ?_
            · rfl
            · have e9 : q_can ng ms T (nI j) (nI k) = _ := (if_pos b_5).trans ((if_pos b_13).trans ((if_neg c_18).trans ((if_neg (by rw [ej]; exact c_32)).trans (if_neg (by rw [ek]; exact c_41)))))
              exact ⟨_, rfl, by rw [e9]; rfl, rfl, rfl⟩
def q_tw (ms : Nat → Int32) (T : Tb) (g q : Nat) : Int32 := if ms q - T.1 q < T.1 g then ms q - T.1 q else T.1 g
def q_tipT (ms : Nat → Int32) (T : Tb) (g q : Nat) : Tb := (upd (upd T.1 g (T.1 g - q_tw ms T g q)) q (T.1 q + q_tw ms T g q), upd T.2.1 q (if T.2.1 g < T.2.1 q then T.2.1 q else T.2.1 g), T.2.2)
theorem tp_rd (T : Tb) {g q : Nat} (x : Int32) (r : (Nat → Int32) × (Nat → Int32) × Int32) (h : q ≠ g) : ((upd T.1 g x, r) : Tb).1 q = T.1 q := upd_ne _ _ h
set_option maxRecDepth 10000 in
theorem m_tipOn (d : Nat) (S : gx_S) {ng nd : Nat} {ms gk dk sb : Nat → Int32} (hm : mH S ng nd ms gk dk sb) {lv g q : Nat} (hl : lv ≤ 1) (hg : g < ng) (hq : q < ng) (hne : q ≠ g) (T : Tb) (L : gx_L) : Cf (d + 1) mX11_tipOn [.ref 44, .int (nI lv), .int (nI g), .int (nI q)] (nS S lv T) L (q_tw ms T g q) (nS S lv (q_tipT ms T g q)) L := by
  refine ct_intro (loc := [some (.ref 44), some (.int (nI lv)), some (.int (nI g)), some (.int (nI q)), none, none, none]) (by decide) (Nat.le_of_ble_eq_true rfl) rfl ?_
  have h59 := hm.2.1
  have e9 : (if ms q - T.1 q ≤ T.1 g then ms q - T.1 q else T.1 g) = q_tw ms T g q := mn_eq _ _
  have k42 : Ev mX11_tipOn (d + 1) 42 [some (.ref 44), some (.int (nI lv)), some (.int (nI g)), some (.int (nI q)), some (.int (nI (15 * lv))), none, none] [.int (q_tw ms T g q)] (nS S lv T) L (fun v S' L' => ∃ r : Int32, v = some (.int r) ∧ r = q_tw ms T g q ∧ S' = nS S lv (q_tipT ms T g q) ∧ L' = L) := by
    refine ev_ist5 dX11_tipOn_42 ?_
    refine ev_ald0 dX11_tipOn_44 ?_
    refine ev_getr (r := 49) dX11_tipOn_45 fl_X11_22 rfl ?_
    refine ev_ild4 dX11_tipOn_48 ?_
    refine ev_ild2 dX11_tipOn_50 ?_
    refine ev_iadd dX11_tipOn_51 ?_
    refine ev_dup2 dX11_tipOn_52 ?_
    refine ev_iald2 (j := 15 * lv + g) dX11_tipOn_53 rfl (ix2 _ _) (by omega) (by first | decide | omega) ?_
    rw [nS_c S lv T (by omega)]
    refine ev_ild5 dX11_tipOn_54 ?_
    refine ev_isub dX11_tipOn_56 ?_
    refine ev_iast2 (j := 15 * lv + g) dX11_tipOn_57 rfl (ix2 _ _) (by omega) (by first | decide | omega) ?_
    rw [nS_uc S lv T (by omega)]
    refine ev_ald0 dX11_tipOn_58 ?_
    refine ev_getr (r := 49) dX11_tipOn_59 fl_X11_22 rfl ?_
    refine ev_ild4 dX11_tipOn_62 ?_
    refine ev_ild3 dX11_tipOn_64 ?_
    refine ev_iadd dX11_tipOn_65 ?_
    refine ev_dup2 dX11_tipOn_66 ?_
    refine ev_iald2 (j := 15 * lv + q) dX11_tipOn_67 rfl (ix2 _ _) (by omega) (by first | decide | omega) ?_
    rw [nS_c S lv _ (by omega), tp_rd T _ _ hne]
    refine ev_ild5 dX11_tipOn_68 ?_
    refine ev_iadd dX11_tipOn_70 ?_
    refine ev_iast2 (j := 15 * lv + q) dX11_tipOn_71 rfl (ix2 _ _) (by omega) (by first | decide | omega) ?_
    rw [nS_uc S lv _ (by omega)]
    refine ev_ald0 dX11_tipOn_72 ?_
    refine ev_getr (r := 49) dX11_tipOn_73 fl_X11_22 rfl ?_
    refine ev_ild4 dX11_tipOn_76 ?_
    refine ev_iconst (v := 5) dX11_tipOn_78 (by decide) ?_
    refine ev_iadd dX11_tipOn_79 ?_
    refine ev_ild2 dX11_tipOn_80 ?_
    refine ev_iadd dX11_tipOn_81 ?_
    refine ev_iald2 (j := 15 * lv + 5 + g) dX11_tipOn_82 rfl (ix3 _ 5 _) (by omega) (by first | decide | omega) ?_
    rw [nS_a S lv _ (by omega)]
    refine ev_ist6 dX11_tipOn_83 ?_
    refine ev_ald0 dX11_tipOn_85 ?_
    refine ev_getr (r := 49) dX11_tipOn_86 fl_X11_22 rfl ?_
    refine ev_ild4 dX11_tipOn_89 ?_
    refine ev_iconst (v := 5) dX11_tipOn_91 (by decide) ?_
    refine ev_iadd dX11_tipOn_92 ?_
    refine ev_ild3 dX11_tipOn_93 ?_
    refine ev_iadd dX11_tipOn_94 ?_
    refine ev_ild6 dX11_tipOn_95 ?_
    refine ev_ald0 dX11_tipOn_97 ?_
    refine ev_getr (r := 49) dX11_tipOn_98 fl_X11_22 rfl ?_
    refine ev_ild4 dX11_tipOn_101 ?_
    refine ev_iconst (v := 5) dX11_tipOn_103 (by decide) ?_
    refine ev_iadd dX11_tipOn_104 ?_
    refine ev_ild3 dX11_tipOn_105 ?_
    refine ev_iadd dX11_tipOn_106 ?_
    refine ev_iald2 (j := 15 * lv + 5 + q) dX11_tipOn_107 rfl (ix3 _ 5 _) (by omega) (by first | decide | omega) ?_
    rw [nS_a S lv _ (by omega)]
    refine ev_icmp_le 116 dX11_tipOn_108 (by decide) (fun c_108 => ?_) (fun c_108 => ?_)
    · refine ev_ald0 dX11_tipOn_116 ?_
      refine ev_getr (r := 49) dX11_tipOn_117 fl_X11_22 rfl ?_
      refine ev_ild4 dX11_tipOn_120 ?_
      refine ev_iconst (v := 5) dX11_tipOn_122 (by decide) ?_
      refine ev_iadd dX11_tipOn_123 ?_
      refine ev_ild3 dX11_tipOn_124 ?_
      refine ev_iadd dX11_tipOn_125 ?_
      refine ev_iald2 (j := 15 * lv + 5 + q) dX11_tipOn_126 rfl (ix3 _ 5 _) (by omega) (by first | decide | omega) ?_
      rw [nS_a S lv _ (by omega)]
      refine ev_iast2 (j := 15 * lv + 5 + q) dX11_tipOn_127 rfl (ix3 _ 5 _) (by omega) (by first | decide | omega) ?_
      rw [nS_ua S lv _ (by omega)]
      refine ev_ild5 dX11_tipOn_128 ?_
      refine ev_iret dX11_tipOn_130 ?_
      have e8 := mx_eq (T.2.1 g) (T.2.1 q)
      rw [if_pos c_108] at e8
      exact ⟨_, rfl, rfl, by unfold q_tipT; rw [← e8], rfl⟩
    · refine ev_ild6 dX11_tipOn_111 ?_
      refine ev_goto 127 dX11_tipOn_113 (by decide) ?_
      refine ev_iast2 (j := 15 * lv + 5 + q) dX11_tipOn_127 rfl (ix3 _ 5 _) (by omega) (by first | decide | omega) ?_
      rw [nS_ua S lv _ (by omega)]
      refine ev_ild5 dX11_tipOn_128 ?_
      refine ev_iret dX11_tipOn_130 ?_
      have e8 := mx_eq (T.2.1 g) (T.2.1 q)
      rw [if_neg c_108] at e8
      exact ⟨_, rfl, rfl, by unfold q_tipT; rw [← e8], rfl⟩
  refine ev_bipush (v := 15) dX11_tipOn_0 (by decide) ?_
  refine ev_ild1 dX11_tipOn_2 ?_
  refine ev_imul dX11_tipOn_3 ?_
  rw [m15]
  refine ev_ist4 dX11_tipOn_4 ?_
  refine ev_ald0 dX11_tipOn_6 ?_
  refine ev_getr (r := 49) dX11_tipOn_7 fl_X11_22 rfl ?_
  refine ev_ild4 dX11_tipOn_10 ?_
  refine ev_ild2 dX11_tipOn_12 ?_
  refine ev_iadd dX11_tipOn_13 ?_
  refine ev_iald2 (j := 15 * lv + g) dX11_tipOn_14 rfl (ix2 _ _) (by omega) (by first | decide | omega) ?_
  rw [nS_c S lv T (by omega)]
  refine ev_ald0 dX11_tipOn_15 ?_
  refine ev_ild1 dX11_tipOn_16 ?_
  refine ev_ild3 dX11_tipOn_17 ?_
  refine ev_V2i (M' := mX11_roomIn) dX11_tipOn_18 lk_X11_142 vX11_roomIn rfl (m_roomIn d S hm hl hq T L) (Nat.le_refl _) (Nat.le_of_ble_eq_true rfl) ?_
  refine ev_icmp_ge 36 dX11_tipOn_21 (by decide) (fun c_21 => ?_) (fun c_21 => ?_)
  · refine ev_ald0 dX11_tipOn_36 ?_
    refine ev_ild1 dX11_tipOn_37 ?_
    refine ev_ild3 dX11_tipOn_38 ?_
    refine ev_V2i (M' := mX11_roomIn) dX11_tipOn_39 lk_X11_142 vX11_roomIn rfl (m_roomIn d S hm hl hq T L) (Nat.le_refl _) (Nat.le_of_ble_eq_true rfl) ?_
    rw [if_pos c_21] at e9
    refine ev_stk (st' := [.int (q_tw ms T g q)]) (by rw [e9]) ?_
    exact k42
  · refine ev_ald0 dX11_tipOn_24 ?_
    refine ev_getr (r := 49) dX11_tipOn_25 fl_X11_22 rfl ?_
    refine ev_ild4 dX11_tipOn_28 ?_
    refine ev_ild2 dX11_tipOn_30 ?_
    refine ev_iadd dX11_tipOn_31 ?_
    refine ev_iald2 (j := 15 * lv + g) dX11_tipOn_32 rfl (ix2 _ _) (by omega) (by first | decide | omega) ?_
    rw [nS_c S lv T (by omega)]
    refine ev_goto 42 dX11_tipOn_33 (by decide) ?_
    rw [if_neg c_21] at e9
    refine ev_stk (st' := [.int (q_tw ms T g q)]) (by rw [e9]) ?_
    exact k42
def M_mact (S : gx_S) (nx sz : Nat) (q : Int32 × Tb) : gx_S := if q.1 < 0 then S else nS (M_keep S nx sz) 0 q.2
theorem mk_o (S : gx_S) (nx sz : Nat) {i : Nat} (h4 : i ≠ 44) (h5 : i ≠ 54) : M_keep S nx sz i = S i := by
  unfold M_keep
  rw [u2_o _ _ _ h4, u2_o _ _ _ h4, gx_up_ne S _ h5]
theorem mk_44 (S : gx_S) (nx sz : Nat) {j : Nat} (h6 : j ≠ 16) (h7 : j ≠ 17) : M_keep S nx sz 44 j = S 44 j := by
  unfold M_keep
  rw [u2_k _ _ _ h6, u2_k _ _ _ h7, gx_up_ne S _ (by decide)]
theorem mH_keep {S : gx_S} {ng nd : Nat} {ms gk dk sb : Nat → Int32} (h : mH S ng nd ms gk dk sb) (nx sz : Nat) : mH (M_keep S nx sz) ng nd ms gk dk sb := by
  unfold mH
  rw [mk_44 S nx sz (show 0 ≠ 16 by decide) (by decide), mk_44 S nx sz (show 1 ≠ 16 by decide) (by decide), mk_o S nx sz (show 45 ≠ 44 by decide) (by decide), mk_o S nx sz (show 46 ≠ 44 by decide) (by decide), mk_o S nx sz (show 47 ≠ 44 by decide) (by decide), mk_o S nx sz (show 48 ≠ 44 by decide) (by decide)]
  exact h
theorem mk_T {S : gx_S} {T : Tb} (h : mT (S 49) 0 = T) (nx sz : Nat) : M_keep S nx sz = nS (M_keep S nx sz) 0 T := by
  have e : mT (M_keep S nx sz 49) 0 = T := by rw [mk_o S nx sz (by decide) (by decide)]; exact h
  rw [← e, nS_mT]
theorem s0_T {S : gx_S} {T : Tb} (h : mT (S 49) 0 = T) : S = nS S 0 T := by rw [← h, nS_mT]
theorem pour_q {ng : Nat} (h5 : ng ≤ 5) {ms : Nat → Int32} {T : Tb} (hT : okT ms T) {j : Nat} (hj : j < ng) {n : Int32} (h1 : ¬ n < 1) (h9 : n ≤ 9) : (ms j - T.1 j = 0 → p_pour (nI ng) ms T (nI j) n = (-3, T)) ∧ (¬ ms j - T.1 j = 0 → p_pour (nI ng) ms T (nI j) n = (q_w ms T j n, q_pourT ms T j n) ∧ ¬ q_w ms T j n < 0) := by
  obtain ⟨⟨a, m, ha, hm, ham, hm9⟩, -⟩ := hT.1 j (by omega)
  obtain ⟨k, hk, rfl⟩ := nI_of2 (x := n) (M := 9) (n := 9) rfl (fun h => h1 (Int32.lt_trans h (by decide))) h9
  have hk1 : 1 ≤ k := by
    rcases Nat.eq_zero_or_pos k with e | e
    · subst e; exact absurd (by decide) h1
    · exact e
  have er : ms j - T.1 j = nI (m - a) := by rw [hm, ha, nI_sub ham]
  have ej : (nI j).toNatClampNeg = j := nI_clamp (by omega)
  have hw : q_w ms T j (nI k) = nI (min (m - a) k) := by
    unfold q_w
    rw [er]
    by_cases h : m - a < k
    · rw [if_pos (nI_lt h (by omega)), Nat.min_eq_left (by omega)]
    · rw [if_neg (nI_nlt (by omega) (by omega)), Nat.min_eq_right (by omega)]
  have eu : p_pour (nI ng) ms T (nI j) (nI k) = (if 0 < q_w ms T j (nI k) then (q_w ms T j (nI k), q_pourT ms T j (nI k)) else (-3, T)) := by
    unfold p_pour
    rw [if_pos (isG_in (by omega) hj), if_neg h1, if_pos h9, ej]
    rfl
  rw [eu, hw]
  refine ⟨fun h => ?_, fun h => ?_⟩
  · have : m - a = 0 := (nI_eq (by omega) (by decide)).mp (er.symm.trans h)
    rw [this, Nat.zero_min]
    rfl
  · have : 0 < m - a := by
      rcases Nat.eq_zero_or_pos (m - a) with e | e
      · exact absurd (by rw [er, e]; rfl) h
      · exact e
    have hp : 0 < min (m - a) k := by omega
    refine ⟨?_, nI_pos (by omega)⟩
    rw [if_pos (show (0 : Int32) < nI (min (m - a) k) from nI_lt (a := 0) hp (by omega))]
theorem in19 (n : Int32) : inL n.toInt64 1 9 = decide (¬ n < 1 ∧ ¬ 9 < n) := inL_32 n 1 9
