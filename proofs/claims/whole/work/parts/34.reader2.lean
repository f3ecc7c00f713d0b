def hAG (H : Hd) (ng : Nat) (m e k : Int32) : Hd := (nI (ng + 1), H.2.1, upd H.2.2.1 ng m, upd H.2.2.2.1 ng e, upd H.2.2.2.2.1 ng k, H.2.2.2.2.2)
def hAD (H : Hd) (nd : Nat) (t k : Int32) : Hd := (H.1, nI (nd + 1), H.2.2.1, H.2.2.2.1, H.2.2.2.2.1, upd H.2.2.2.2.2.1 nd t, upd H.2.2.2.2.2.2.1 nd k, H.2.2.2.2.2.2.2)
set_option maxRecDepth 10000 in
theorem c_ends4 (d : Nat) (S : gx_S) (b c : Int32) (H : Hd) {ng nd : Nat} (hg : H.1 = nI ng) (hd : H.2.1 = nI nd) (h5 : ng ≤ 5) (h4 : nd ≤ 4) (x : Int32) (L : gx_L) (hlt : ng < 5) : Cf (d + 2) mX5_endsPart [.ref 3, .int x, .ref 4] (mM S 4 b c H) L (gx_b (decide (x ≤ 3))) (mM S 1 b c (if x ≤ 3 then hAG H ng b c x else H)) L := by
  refine ct_intro (loc := [some (.ref 3), some (.int x), some (.ref 4), none]) (by decide) (Nat.le_of_ble_eq_true rfl) rfl ?_
  refine ev_ald0 dX5_endsPart_0 ?_
  refine ev_geti dX5_endsPart_1 fl_X5_16 rfl ?_
  rw [mM_0]
  refine ev_ist3 dX5_endsPart_4 ?_
  refine ev_ald0 dX5_endsPart_5 ?_
  refine ev_iconst (v := 1) dX5_endsPart_6 (by decide) ?_
  refine ev_puti dX5_endsPart_7 fp_X5_16 rfl ?_
  rw [mM_u0]
  refine ev_ild3 dX5_endsPart_10 ?_
  refine ev_bipush (v := 8) dX5_endsPart_11 (by decide) ?_
  refine ev_icmp_ne_t 23 dX5_endsPart_13 (by decide) (by decide) ?_
  refine ev_ild1 dX5_endsPart_23 ?_
  refine ev_iconst (v := 3) dX5_endsPart_24 (by decide) ?_
  refine ev_icmp_le 30 dX5_endsPart_25 (by decide) (fun c_25 => ?_) (fun c_25 => ?_)
  · refine ev_ild3 dX5_endsPart_30 ?_
    refine ev_iconst (v := 4) dX5_endsPart_31 (by decide) ?_
    refine ev_icmp_ne_f 51 dX5_endsPart_32 (by decide) rfl ?_
    refine ev_ald2 dX5_endsPart_35 ?_
    refine ev_ald0 dX5_endsPart_36 ?_
    refine ev_geti dX5_endsPart_37 fl_X5_49 rfl ?_
    rw [mM_1]
    refine ev_ald0 dX5_endsPart_40 ?_
    refine ev_geti dX5_endsPart_41 fl_X5_52 rfl ?_
    rw [mM_2]
    refine ev_ild1 dX5_endsPart_44 ?_
    refine ev_V3v (M' := mX2_addGlass) dX5_endsPart_45 lk_X5_65 vX2_addGlass rfl (k_addG (d + 1) S _ _ _ H L hg hlt _ _ _) (Nat.le_refl _) (Nat.le_of_ble_eq_true rfl) ?_
    refine ev_goto 60 dX5_endsPart_48 (by decide) ?_
    refine ev_iconst (v := 1) dX5_endsPart_60 (by decide) ?_
    refine ev_zret dX5_endsPart_61 ?_ ?_
    · rfl
    · exact ⟨_, rfl, by rw [decide_eq_true c_25]; rfl, by rw [if_pos c_25]; rfl, rfl⟩
  · refine ev_iconst (v := 0) dX5_endsPart_28 (by decide) ?_
    refine ev_zret dX5_endsPart_29 ?_ ?_
    · rfl
    · exact ⟨_, rfl, by rw [decide_eq_false c_25]; rfl, by rw [if_neg c_25], rfl⟩
set_option maxRecDepth 10000 in
theorem c_ends6 (d : Nat) (S : gx_S) (b c : Int32) (H : Hd) {ng nd : Nat} (hg : H.1 = nI ng) (hd : H.2.1 = nI nd) (h5 : ng ≤ 5) (h4 : nd ≤ 4) (x : Int32) (L : gx_L) (hlt : nd < 4) : Cf (d + 2) mX5_endsPart [.ref 3, .int x, .ref 4] (mM S 6 b c H) L (gx_b (decide (x ≤ 3))) (mM S 1 b c (if x ≤ 3 then hAD H nd b x else H)) L := by
  refine ct_intro (loc := [some (.ref 3), some (.int x), some (.ref 4), none]) (by decide) (Nat.le_of_ble_eq_true rfl) rfl ?_
  refine ev_ald0 dX5_endsPart_0 ?_
  refine ev_geti dX5_endsPart_1 fl_X5_16 rfl ?_
  rw [mM_0]
  refine ev_ist3 dX5_endsPart_4 ?_
  refine ev_ald0 dX5_endsPart_5 ?_
  refine ev_iconst (v := 1) dX5_endsPart_6 (by decide) ?_
  refine ev_puti dX5_endsPart_7 fp_X5_16 rfl ?_
  rw [mM_u0]
  refine ev_ild3 dX5_endsPart_10 ?_
  refine ev_bipush (v := 8) dX5_endsPart_11 (by decide) ?_
  refine ev_icmp_ne_t 23 dX5_endsPart_13 (by decide) (by decide) ?_
  refine ev_ild1 dX5_endsPart_23 ?_
  refine ev_iconst (v := 3) dX5_endsPart_24 (by decide) ?_
  refine ev_icmp_le 30 dX5_endsPart_25 (by decide) (fun c_25 => ?_) (fun c_25 => ?_)
  · refine ev_ild3 dX5_endsPart_30 ?_
    refine ev_iconst (v := 4) dX5_endsPart_31 (by decide) ?_
    refine ev_icmp_ne_t 51 dX5_endsPart_32 (by decide) (by decide) ?_
    refine ev_ald2 dX5_endsPart_51 ?_
    refine ev_ald0 dX5_endsPart_52 ?_
    refine ev_geti dX5_endsPart_53 fl_X5_49 rfl ?_
    rw [mM_1]
    refine ev_ild1 dX5_endsPart_56 ?_
    refine ev_V2v (M' := mX2_addDrinker) dX5_endsPart_57 lk_X5_69 vX2_addDrinker rfl (k_addD (d + 1) S _ _ _ H L hd hlt _ _) (Nat.le_refl _) (Nat.le_of_ble_eq_true rfl) ?_
    refine ev_iconst (v := 1) dX5_endsPart_60 (by decide) ?_
    refine ev_zret dX5_endsPart_61 ?_ ?_
    · rfl
    · exact ⟨_, rfl, by rw [decide_eq_true c_25]; rfl, by rw [if_pos c_25]; rfl, rfl⟩
  · refine ev_iconst (v := 0) dX5_endsPart_28 (by decide) ?_
    refine ev_zret dX5_endsPart_29 ?_ ?_
    · rfl
    · exact ⟨_, rfl, by rw [decide_eq_false c_25]; rfl, by rw [if_neg c_25], rfl⟩
set_option maxRecDepth 10000 in
theorem c_ends8 (d : Nat) (S : gx_S) (b c : Int32) (H : Hd) {ng nd : Nat} (hg : H.1 = nI ng) (hd : H.2.1 = nI nd) (h5 : ng ≤ 5) (h4 : nd ≤ 4) (x : Int32) (L : gx_L) : Cf (d + 2) mX5_endsPart [.ref 3, .int x, .ref 4] (mM S 8 b c H) L (gx_b (p_seat H b x).1) (mM S 1 b c (p_seat H b x).2) L := by
  refine ct_intro (loc := [some (.ref 3), some (.int x), some (.ref 4), none]) (by decide) (Nat.le_of_ble_eq_true rfl) rfl ?_
  refine ev_ald0 dX5_endsPart_0 ?_
  refine ev_geti dX5_endsPart_1 fl_X5_16 rfl ?_
  rw [mM_0]
  refine ev_ist3 dX5_endsPart_4 ?_
  refine ev_ald0 dX5_endsPart_5 ?_
  refine ev_iconst (v := 1) dX5_endsPart_6 (by decide) ?_
  refine ev_puti dX5_endsPart_7 fp_X5_16 rfl ?_
  rw [mM_u0]
  refine ev_ild3 dX5_endsPart_10 ?_
  refine ev_bipush (v := 8) dX5_endsPart_11 (by decide) ?_
  refine ev_icmp_ne_f 23 dX5_endsPart_13 (by decide) rfl ?_
  refine ev_ald0 dX5_endsPart_16 ?_
  refine ev_ild1 dX5_endsPart_17 ?_
  refine ev_ald2 dX5_endsPart_18 ?_
  refine ev_V2i (M' := mX5_takesSeat) dX5_endsPart_19 lk_X5_62 vX5_takesSeat rfl (c_takesSeat d S _ _ _ H hg hd h5 h4 _ L) (Nat.le_refl _) (Nat.le_of_ble_eq_true rfl) ?_
  refine ev_zret dX5_endsPart_22 ?_ ?_
  · exact gx_b_nar _
  · exact ⟨_, rfl, rfl, rfl, rfl⟩
set_option maxRecDepth 10000 in
theorem c_fig2 (d : Nat) (S : gx_S) (b c : Int32) (H : Hd) {ng nd : Nat} (hg : H.1 = nI ng) (hd : H.2.1 = nI nd) (h5 : ng ≤ 5) (h4 : nd ≤ 4) (x : Int32) (L : gx_L) : Cf (d + 3) mX5_takesFigure [.ref 3, .int x, .ref 4] (mM S 2 b c H) L (gx_b (decide (¬ x < 1))) (mM S 3 x c H) L := by
  refine ct_intro (loc := [some (.ref 3), some (.int x), some (.ref 4)]) (by decide) (Nat.le_of_ble_eq_true rfl) rfl ?_
  refine ev_ald0 dX5_takesFigure_0 ?_
  refine ev_geti dX5_takesFigure_1 fl_X5_16 rfl ?_
  rw [mM_0]
  refine ev_tsw_in (off := 40) 44 dX5_takesFigure_4 (by decide) (by decide) (by decide +kernel) (by decide) ?_
  refine ev_ald0 dX5_takesFigure_44 ?_
  refine ev_ild1 dX5_takesFigure_45 ?_
  refine ev_puti dX5_takesFigure_46 fp_X5_49 rfl ?_
  rw [mM_u1]
  refine ev_ald0 dX5_takesFigure_49 ?_
  refine ev_iconst (v := 3) dX5_takesFigure_50 (by decide) ?_
  refine ev_puti dX5_takesFigure_51 fp_X5_16 rfl ?_
  rw [mM_u0]
  refine ev_ild1 dX5_takesFigure_54 ?_
  refine ev_iconst (v := 1) dX5_takesFigure_55 (by decide) ?_
  refine ev_icmp_lt 63 dX5_takesFigure_56 (by decide) (fun c_56 => ?_) (fun c_56 => ?_)
  · refine ev_iconst (v := 0) dX5_takesFigure_63 (by decide) ?_
    refine ev_zret dX5_takesFigure_64 ?_ ?_
    · first | rfl | exact gx_b_nar _
    · exact ⟨_, rfl, by rw [decide_eq_false (fun h9 => h9 c_56)]; rfl, rfl, rfl⟩
  · refine ev_iconst (v := 1) dX5_takesFigure_59 (by decide) ?_
    refine ev_goto 64 dX5_takesFigure_60 (by decide) ?_
    refine ev_zret dX5_takesFigure_64 ?_ ?_
    · first | rfl | exact gx_b_nar _
    · exact ⟨_, rfl, by rw [decide_eq_true c_56]; rfl, rfl, rfl⟩
set_option maxRecDepth 10000 in
theorem c_fig3 (d : Nat) (S : gx_S) (b c : Int32) (H : Hd) {ng nd : Nat} (hg : H.1 = nI ng) (hd : H.2.1 = nI nd) (h5 : ng ≤ 5) (h4 : nd ≤ 4) (x : Int32) (L : gx_L) : Cf (d + 3) mX5_takesFigure [.ref 3, .int x, .ref 4] (mM S 3 b c H) L (gx_b (decide (¬ b < x))) (mM S 4 b x H) L := by
  refine ct_intro (loc := [some (.ref 3), some (.int x), some (.ref 4)]) (by decide) (Nat.le_of_ble_eq_true rfl) rfl ?_
  refine ev_ald0 dX5_takesFigure_0 ?_
  refine ev_geti dX5_takesFigure_1 fl_X5_16 rfl ?_
  rw [mM_0]
  refine ev_tsw_in (off := 61) 65 dX5_takesFigure_4 (by decide) (by decide) (by decide +kernel) (by decide) ?_
  refine ev_ald0 dX5_takesFigure_65 ?_
  refine ev_ild1 dX5_takesFigure_66 ?_
  refine ev_puti dX5_takesFigure_67 fp_X5_52 rfl ?_
  rw [mM_u2]
  refine ev_ald0 dX5_takesFigure_70 ?_
  refine ev_iconst (v := 4) dX5_takesFigure_71 (by decide) ?_
  refine ev_puti dX5_takesFigure_72 fp_X5_16 rfl ?_
  rw [mM_u0]
  refine ev_ild1 dX5_takesFigure_75 ?_
  refine ev_ald0 dX5_takesFigure_76 ?_
  refine ev_geti dX5_takesFigure_77 fl_X5_49 rfl ?_
  rw [mM_1]
  refine ev_icmp_gt 87 dX5_takesFigure_80 (by decide) (fun c_80 => ?_) (fun c_80 => ?_)
  · refine ev_iconst (v := 0) dX5_takesFigure_87 (by decide) ?_
    refine ev_zret dX5_takesFigure_88 ?_ ?_
    · first | rfl | exact gx_b_nar _
    · exact ⟨_, rfl, by rw [decide_eq_false (fun h9 => h9 c_80)]; rfl, rfl, rfl⟩
  · refine ev_iconst (v := 1) dX5_takesFigure_83 (by decide) ?_
    refine ev_goto 88 dX5_takesFigure_84 (by decide) ?_
    refine ev_zret dX5_takesFigure_88 ?_ ?_
    · first | rfl | exact gx_b_nar _
    · exact ⟨_, rfl, by rw [decide_eq_true c_80]; rfl, rfl, rfl⟩
set_option maxRecDepth 10000 in
theorem c_fig4 (d : Nat) (S : gx_S) (b c : Int32) (H : Hd) {ng nd : Nat} (hg : H.1 = nI ng) (hd : H.2.1 = nI nd) (h5 : ng ≤ 5) (h4 : nd ≤ 4) (x : Int32) (L : gx_L) (hlt : ng < 5) : Cf (d + 3) mX5_takesFigure [.ref 3, .int x, .ref 4] (mM S 4 b c H) L (gx_b (decide (x ≤ 3))) (mM S 1 b c (if x ≤ 3 then hAG H ng b c x else H)) L := by
  refine ct_intro (loc := [some (.ref 3), some (.int x), some (.ref 4)]) (by decide) (Nat.le_of_ble_eq_true rfl) rfl ?_
  refine ev_ald0 dX5_takesFigure_0 ?_
  refine ev_geti dX5_takesFigure_1 fl_X5_16 rfl ?_
  rw [mM_0]
  refine ev_tsw_in (off := 115) 119 dX5_takesFigure_4 (by decide) (by decide) (by decide +kernel) (by decide) ?_
  refine ev_ald0 dX5_takesFigure_119 ?_
  refine ev_ild1 dX5_takesFigure_120 ?_
  refine ev_ald2 dX5_takesFigure_121 ?_
  refine ev_V2i (M' := mX5_endsPart) dX5_takesFigure_122 lk_X5_59 vX5_endsPart rfl (c_ends4 d S _ _ H hg hd h5 h4 _ L hlt) (Nat.le_refl _) (Nat.le_of_ble_eq_true rfl) ?_
  refine ev_zret dX5_takesFigure_125 ?_ ?_
  · first | rfl | exact gx_b_nar _
  · exact ⟨_, rfl, rfl, rfl, rfl⟩
set_option maxRecDepth 10000 in
theorem c_fig5 (d : Nat) (S : gx_S) (b c : Int32) (H : Hd) {ng nd : Nat} (hg : H.1 = nI ng) (hd : H.2.1 = nI nd) (h5 : ng ≤ 5) (h4 : nd ≤ 4) (x : Int32) (L : gx_L) : Cf (d + 3) mX5_takesFigure [.ref 3, .int x, .ref 4] (mM S 5 b c H) L (1) (mM S 6 x c H) L := by
  refine ct_intro (loc := [some (.ref 3), some (.int x), some (.ref 4)]) (by decide) (Nat.le_of_ble_eq_true rfl) rfl ?_
  refine ev_ald0 dX5_takesFigure_0 ?_
  refine ev_geti dX5_takesFigure_1 fl_X5_16 rfl ?_
  rw [mM_0]
  refine ev_tsw_in (off := 85) 89 dX5_takesFigure_4 (by decide) (by decide) (by decide +kernel) (by decide) ?_
  refine ev_ald0 dX5_takesFigure_89 ?_
  refine ev_ild1 dX5_takesFigure_90 ?_
  refine ev_puti dX5_takesFigure_91 fp_X5_49 rfl ?_
  rw [mM_u1]
  refine ev_ald0 dX5_takesFigure_94 ?_
  refine ev_bipush (v := 6) dX5_takesFigure_95 (by decide) ?_
  refine ev_puti dX5_takesFigure_97 fp_X5_16 rfl ?_
  rw [mM_u0]
  refine ev_iconst (v := 1) dX5_takesFigure_100 (by decide) ?_
  refine ev_zret dX5_takesFigure_101 ?_ ?_
  · first | rfl | exact gx_b_nar _
  · exact ⟨_, rfl, rfl, rfl, rfl⟩
set_option maxRecDepth 10000 in
theorem c_fig6 (d : Nat) (S : gx_S) (b c : Int32) (H : Hd) {ng nd : Nat} (hg : H.1 = nI ng) (hd : H.2.1 = nI nd) (h5 : ng ≤ 5) (h4 : nd ≤ 4) (x : Int32) (L : gx_L) (hlt : nd < 4) : Cf (d + 3) mX5_takesFigure [.ref 3, .int x, .ref 4] (mM S 6 b c H) L (gx_b (decide (x ≤ 3))) (mM S 1 b c (if x ≤ 3 then hAD H nd b x else H)) L := by
  refine ct_intro (loc := [some (.ref 3), some (.int x), some (.ref 4)]) (by decide) (Nat.le_of_ble_eq_true rfl) rfl ?_
  refine ev_ald0 dX5_takesFigure_0 ?_
  refine ev_geti dX5_takesFigure_1 fl_X5_16 rfl ?_
  rw [mM_0]
  refine ev_tsw_in (off := 115) 119 dX5_takesFigure_4 (by decide) (by decide) (by decide +kernel) (by decide) ?_
  refine ev_ald0 dX5_takesFigure_119 ?_
  refine ev_ild1 dX5_takesFigure_120 ?_
  refine ev_ald2 dX5_takesFigure_121 ?_
  refine ev_V2i (M' := mX5_endsPart) dX5_takesFigure_122 lk_X5_59 vX5_endsPart rfl (c_ends6 d S _ _ H hg hd h5 h4 _ L hlt) (Nat.le_refl _) (Nat.le_of_ble_eq_true rfl) ?_
  refine ev_zret dX5_takesFigure_125 ?_ ?_
  · first | rfl | exact gx_b_nar _
  · exact ⟨_, rfl, rfl, rfl, rfl⟩
set_option maxRecDepth 10000 in
theorem c_fig7 (d : Nat) (S : gx_S) (b c : Int32) (H : Hd) {ng nd : Nat} (hg : H.1 = nI ng) (hd : H.2.1 = nI nd) (h5 : ng ≤ 5) (h4 : nd ≤ 4) (x : Int32) (L : gx_L) : Cf (d + 3) mX5_takesFigure [.ref 3, .int x, .ref 4] (mM S 7 b c H) L (gx_b (p_can H.1 H.2.1 H.2.2.2.2.2.2.2 x)) (mM S 8 x c H) L := by
  refine ct_intro (loc := [some (.ref 3), some (.int x), some (.ref 4)]) (by decide) (Nat.le_of_ble_eq_true rfl) rfl ?_
  refine ev_ald0 dX5_takesFigure_0 ?_
  refine ev_geti dX5_takesFigure_1 fl_X5_16 rfl ?_
  rw [mM_0]
  refine ev_tsw_in (off := 98) 102 dX5_takesFigure_4 (by decide) (by decide) (by decide +kernel) (by decide) ?_
  refine ev_ald0 dX5_takesFigure_102 ?_
  refine ev_ild1 dX5_takesFigure_103 ?_
  refine ev_puti dX5_takesFigure_104 fp_X5_49 rfl ?_
  rw [mM_u1]
  refine ev_ald0 dX5_takesFigure_107 ?_
  refine ev_bipush (v := 8) dX5_takesFigure_108 (by decide) ?_
  refine ev_puti dX5_takesFigure_110 fp_X5_16 rfl ?_
  rw [mM_u0]
  refine ev_ald2 dX5_takesFigure_113 ?_
  refine ev_ild1 dX5_takesFigure_114 ?_
  refine ev_V1i (M' := mX2_canSit) dX5_takesFigure_115 lk_X5_55 vX2_canSit rfl (k_canSit (d + 1) S _ _ _ H L hd h4 _) (Nat.le_refl _) (Nat.le_of_ble_eq_true rfl) ?_
  refine ev_zret dX5_takesFigure_118 ?_ ?_
  · first | rfl | exact gx_b_nar _
  · exact ⟨_, rfl, rfl, rfl, rfl⟩
set_option maxRecDepth 10000 in
theorem c_fig8 (d : Nat) (S : gx_S) (b c : Int32) (H : Hd) {ng nd : Nat} (hg : H.1 = nI ng) (hd : H.2.1 = nI nd) (h5 : ng ≤ 5) (h4 : nd ≤ 4) (x : Int32) (L : gx_L) : Cf (d + 3) mX5_takesFigure [.ref 3, .int x, .ref 4] (mM S 8 b c H) L (gx_b (p_seat H b x).1) (mM S 1 b c (p_seat H b x).2) L := by
  refine ct_intro (loc := [some (.ref 3), some (.int x), some (.ref 4)]) (by decide) (Nat.le_of_ble_eq_true rfl) rfl ?_
  refine ev_ald0 dX5_takesFigure_0 ?_
  refine ev_geti dX5_takesFigure_1 fl_X5_16 rfl ?_
  rw [mM_0]
  refine ev_tsw_out 119 dX5_takesFigure_4 (by decide) (by decide) ?_
  refine ev_ald0 dX5_takesFigure_119 ?_
  refine ev_ild1 dX5_takesFigure_120 ?_
  refine ev_ald2 dX5_takesFigure_121 ?_
  refine ev_V2i (M' := mX5_endsPart) dX5_takesFigure_122 lk_X5_59 vX5_endsPart rfl (c_ends8 d S _ _ H hg hd h5 h4 _ L) (Nat.le_refl _) (Nat.le_of_ble_eq_true rfl) ?_
  refine ev_zret dX5_takesFigure_125 ?_ ?_
  · first | rfl | exact gx_b_nar _
  · exact ⟨_, rfl, rfl, rfl, rfl⟩
set_option maxRecDepth 10000 in
theorem c_tk2 (d : Nat) (S : gx_S) (b c : Int32) (H : Hd) {ng nd : Nat} (hg : H.1 = nI ng) (hd : H.2.1 = nI nd) (h5 : ng ≤ 5) (h4 : nd ≤ 4) (x : Int32) (hx1 : ¬ x < 48) (hx2 : ¬ 57 < x) (L : gx_L) : Cf (d + 4) mX5_takes [.ref 3, .int x, .ref 4] (mM S 2 b c H) L (gx_b (decide (¬ (x - 48) < 1))) (mM S 3 (x - 48) c H) L := by
  refine ct_intro (loc := [some (.ref 3), some (.int x), some (.ref 4)]) (by decide) (Nat.le_of_ble_eq_true rfl) rfl ?_
  refine ev_ald0 dX5_takes_0 ?_
  refine ev_geti dX5_takes_1 fl_X5_16 rfl ?_
  rw [mM_0]
  refine ev_if_ne_t 24 dX5_takes_4 (by decide) (by decide) ?_
  refine ev_ald0 dX5_takes_24 ?_
  refine ev_geti dX5_takes_25 fl_X5_16 rfl ?_
  rw [mM_0]
  refine ev_iconst (v := 1) dX5_takes_28 (by decide) ?_
  refine ev_icmp_ne_t 39 dX5_takes_29 (by decide) (by decide) ?_
  refine ev_ild1 dX5_takes_39 ?_
  refine ev_bipush (v := 48) dX5_takes_40 (by decide) ?_
  refine ev_icmp_lt_f 67 dX5_takes_42 (by decide) hx1 ?_
  refine ev_ild1 dX5_takes_45 ?_
  refine ev_bipush (v := 57) dX5_takes_46 (by decide) ?_
  refine ev_icmp_gt_f 67 dX5_takes_48 (by decide) hx2 ?_
  refine ev_ald0 dX5_takes_51 ?_
  refine ev_ild1 dX5_takes_52 ?_
  refine ev_bipush (v := 48) dX5_takes_53 (by decide) ?_
  refine ev_isub dX5_takes_55 ?_
  refine ev_ald2 dX5_takes_56 ?_
  refine ev_V2i (M' := mX5_takesFigure) dX5_takes_57 lk_X5_36 vX5_takesFigure rfl (c_fig2 d S _ _ H hg hd h5 h4 _ L) (Nat.le_refl _) (Nat.le_of_ble_eq_true rfl) ?_
  refine ev_if_eq 67 dX5_takes_60 (by decide) (fun c_60 => ?_) (fun c_60 => ?_)
  · have b_60 := gx_b_n.mp c_60
    refine ev_iconst (v := 0) dX5_takes_67 (by decide) ?_
    refine ev_zret dX5_takes_68 ?_ ?_
    · rfl
    · exact ⟨_, rfl, by rw [gx_b_n.mp c_60 |> Bool.eq_false_iff.mpr]; rfl, rfl, rfl⟩
  · have b_60 := gx_b_y.mp c_60
    refine ev_iconst (v := 1) dX5_takes_63 (by decide) ?_
    refine ev_goto 68 dX5_takes_64 (by decide) ?_
    refine ev_zret dX5_takes_68 ?_ ?_
    · rfl
    · exact ⟨_, rfl, by rw [gx_b_y.mp c_60]; rfl, rfl, rfl⟩
set_option maxRecDepth 10000 in
theorem c_tn2 (d : Nat) (S : gx_S) (b c : Int32) (H : Hd) {ng nd : Nat} (hg : H.1 = nI ng) (hd : H.2.1 = nI nd) (h5 : ng ≤ 5) (h4 : nd ≤ 4) (x : Int32) (hx : x < 48 ∨ 57 < x) (L : gx_L) : Cf (d + 4) mX5_takes [.ref 3, .int x, .ref 4] (mM S 2 b c H) L 0 (mM S 2 b c H) L := by
  refine ct_intro (loc := [some (.ref 3), some (.int x), some (.ref 4)]) (by decide) (Nat.le_of_ble_eq_true rfl) rfl ?_
  refine ev_ald0 dX5_takes_0 ?_
  refine ev_geti dX5_takes_1 fl_X5_16 rfl ?_
  rw [mM_0]
  refine ev_if_ne_t 24 dX5_takes_4 (by decide) (by decide) ?_
  refine ev_ald0 dX5_takes_24 ?_
  refine ev_geti dX5_takes_25 fl_X5_16 rfl ?_
  rw [mM_0]
  refine ev_iconst (v := 1) dX5_takes_28 (by decide) ?_
  refine ev_icmp_ne_t 39 dX5_takes_29 (by decide) (by decide) ?_
  refine ev_ild1 dX5_takes_39 ?_
  refine ev_bipush (v := 48) dX5_takes_40 (by decide) ?_
  refine ev_icmp_lt 67 dX5_takes_42 (by decide) (fun c_42 => ?_) (fun c_42 => ?_)
  · refine ev_iconst (v := 0) dX5_takes_67 (by decide) ?_
    refine ev_zret dX5_takes_68 ?_ ?_
    · rfl
    · exact ⟨_, rfl, rfl, rfl, rfl⟩
  · refine ev_ild1 dX5_takes_45 ?_
    refine ev_bipush (v := 57) dX5_takes_46 (by decide) ?_
    refine ev_icmp_gt 67 dX5_takes_48 (by decide) (fun c_48 => ?_) (fun c_48 => ?_)
    · refine ev_iconst (v := 0) dX5_takes_67 (by decide) ?_
      refine ev_zret dX5_takes_68 ?_ ?_
      · rfl
      · exact ⟨_, rfl, rfl, rfl, rfl⟩
    · exact absurd hx (fun h9 => h9.elim c_42 c_48)
set_option maxRecDepth 10000 in
theorem c_tk3 (d : Nat) (S : gx_S) (b c : Int32) (H : Hd) {ng nd : Nat} (hg : H.1 = nI ng) (hd : H.2.1 = nI nd) (h5 : ng ≤ 5) (h4 : nd ≤ 4) (x : Int32) (hx1 : ¬ x < 48) (hx2 : ¬ 57 < x) (L : gx_L) : Cf (d + 4) mX5_takes [.ref 3, .int x, .ref 4] (mM S 3 b c H) L (gx_b (decide (¬ b < (x - 48)))) (mM S 4 b (x - 48) H) L := by
  refine ct_intro (loc := [some (.ref 3), some (.int x), some (.ref 4)]) (by decide) (Nat.le_of_ble_eq_true rfl) rfl ?_
  refine ev_ald0 dX5_takes_0 ?_
  refine ev_geti dX5_takes_1 fl_X5_16 rfl ?_
  rw [mM_0]
  refine ev_if_ne_t 24 dX5_takes_4 (by decide) (by decide) ?_
  refine ev_ald0 dX5_takes_24 ?_
  refine ev_geti dX5_takes_25 fl_X5_16 rfl ?_
  rw [mM_0]
  refine ev_iconst (v := 1) dX5_takes_28 (by decide) ?_
  refine ev_icmp_ne_t 39 dX5_takes_29 (by decide) (by decide) ?_
  refine ev_ild1 dX5_takes_39 ?_
  refine ev_bipush (v := 48) dX5_takes_40 (by decide) ?_
  refine ev_icmp_lt_f 67 dX5_takes_42 (by decide) hx1 ?_
  refine ev_ild1 dX5_takes_45 ?_
  refine ev_bipush (v := 57) dX5_takes_46 (by decide) ?_
  refine ev_icmp_gt_f 67 dX5_takes_48 (by decide) hx2 ?_
  refine ev_ald0 dX5_takes_51 ?_
  refine ev_ild1 dX5_takes_52 ?_
  refine ev_bipush (v := 48) dX5_takes_53 (by decide) ?_
  refine ev_isub dX5_takes_55 ?_
  refine ev_ald2 dX5_takes_56 ?_
  refine ev_V2i (M' := mX5_takesFigure) dX5_takes_57 lk_X5_36 vX5_takesFigure rfl (c_fig3 d S _ _ H hg hd h5 h4 _ L) (Nat.le_refl _) (Nat.le_of_ble_eq_true rfl) ?_
  refine ev_if_eq 67 dX5_takes_60 (by decide) (fun c_60 => ?_) (fun c_60 => ?_)
  · have b_60 := gx_b_n.mp c_60
    refine ev_iconst (v := 0) dX5_takes_67 (by decide) ?_
    refine ev_zret dX5_takes_68 ?_ ?_
    · rfl
    · exact ⟨_, rfl, by rw [gx_b_n.mp c_60 |> Bool.eq_false_iff.mpr]; rfl, rfl, rfl⟩
  · have b_60 := gx_b_y.mp c_60
    refine ev_iconst (v := 1) dX5_takes_63 (by decide) ?_
    refine ev_goto 68 dX5_takes_64 (by decide) ?_
    refine ev_zret dX5_takes_68 ?_ ?_
    · rfl
    · exact ⟨_, rfl, by rw [gx_b_y.mp c_60]; rfl, rfl, rfl⟩
set_option maxRecDepth 10000 in
theorem c_tn3 (d : Nat) (S : gx_S) (b c : Int32) (H : Hd) {ng nd : Nat} (hg : H.1 = nI ng) (hd : H.2.1 = nI nd) (h5 : ng ≤ 5) (h4 : nd ≤ 4) (x : Int32) (hx : x < 48 ∨ 57 < x) (L : gx_L) : Cf (d + 4) mX5_takes [.ref 3, .int x, .ref 4] (mM S 3 b c H) L 0 (mM S 3 b c H) L := by
  refine ct_intro (loc := [some (.ref 3), some (.int x), some (.ref 4)]) (by decide) (Nat.le_of_ble_eq_true rfl) rfl ?_
  refine ev_ald0 dX5_takes_0 ?_
  refine ev_geti dX5_takes_1 fl_X5_16 rfl ?_
  rw [mM_0]
  refine ev_if_ne_t 24 dX5_takes_4 (by decide) (by decide) ?_
  refine ev_ald0 dX5_takes_24 ?_
  refine ev_geti dX5_takes_25 fl_X5_16 rfl ?_
  rw [mM_0]
  refine ev_iconst (v := 1) dX5_takes_28 (by decide) ?_
  refine ev_icmp_ne_t 39 dX5_takes_29 (by decide) (by decide) ?_
  refine ev_ild1 dX5_takes_39 ?_
  refine ev_bipush (v := 48) dX5_takes_40 (by decide) ?_
  refine ev_icmp_lt 67 dX5_takes_42 (by decide) (fun c_42 => ?_) (fun c_42 => ?_)
  · refine ev_iconst (v := 0) dX5_takes_67 (by decide) ?_
    refine ev_zret dX5_takes_68 ?_ ?_
    · rfl
    · exact ⟨_, rfl, rfl, rfl, rfl⟩
  · refine ev_ild1 dX5_takes_45 ?_
    refine ev_bipush (v := 57) dX5_takes_46 (by decide) ?_
    refine ev_icmp_gt 67 dX5_takes_48 (by decide) (fun c_48 => ?_) (fun c_48 => ?_)
    · refine ev_iconst (v := 0) dX5_takes_67 (by decide) ?_
      refine ev_zret dX5_takes_68 ?_ ?_
      · rfl
      · exact ⟨_, rfl, rfl, rfl, rfl⟩
    · exact absurd hx (fun h9 => h9.elim c_42 c_48)
set_option maxRecDepth 10000 in
theorem c_tk4 (d : Nat) (S : gx_S) (b c : Int32) (H : Hd) {ng nd : Nat} (hg : H.1 = nI ng) (hd : H.2.1 = nI nd) (h5 : ng ≤ 5) (h4 : nd ≤ 4) (x : Int32) (hx1 : ¬ x < 48) (hx2 : ¬ 57 < x) (L : gx_L) (hlt : ng < 5) : Cf (d + 4) mX5_takes [.ref 3, .int x, .ref 4] (mM S 4 b c H) L (gx_b (decide ((x - 48) ≤ 3))) (mM S 1 b c (if (x - 48) ≤ 3 then hAG H ng b c (x - 48) else H)) L := by
  refine ct_intro (loc := [some (.ref 3), some (.int x), some (.ref 4)]) (by decide) (Nat.le_of_ble_eq_true rfl) rfl ?_
  refine ev_ald0 dX5_takes_0 ?_
  refine ev_geti dX5_takes_1 fl_X5_16 rfl ?_
  rw [mM_0]
  refine ev_if_ne_t 24 dX5_takes_4 (by decide) (by decide) ?_
  refine ev_ald0 dX5_takes_24 ?_
  refine ev_geti dX5_takes_25 fl_X5_16 rfl ?_
  rw [mM_0]
  refine ev_iconst (v := 1) dX5_takes_28 (by decide) ?_
  refine ev_icmp_ne_t 39 dX5_takes_29 (by decide) (by decide) ?_
  refine ev_ild1 dX5_takes_39 ?_
  refine ev_bipush (v := 48) dX5_takes_40 (by decide) ?_
  refine ev_icmp_lt_f 67 dX5_takes_42 (by decide) hx1 ?_
  refine ev_ild1 dX5_takes_45 ?_
  refine ev_bipush (v := 57) dX5_takes_46 (by decide) ?_
  refine ev_icmp_gt_f 67 dX5_takes_48 (by decide) hx2 ?_
  refine ev_ald0 dX5_takes_51 ?_
  refine ev_ild1 dX5_takes_52 ?_
  refine ev_bipush (v := 48) dX5_takes_53 (by decide) ?_
  refine ev_isub dX5_takes_55 ?_
  refine ev_ald2 dX5_takes_56 ?_
  refine ev_V2i (M' := mX5_takesFigure) dX5_takes_57 lk_X5_36 vX5_takesFigure rfl (c_fig4 d S _ _ H hg hd h5 h4 _ L hlt) (Nat.le_refl _) (Nat.le_of_ble_eq_true rfl) ?_
  refine ev_if_eq 67 dX5_takes_60 (by decide) (fun c_60 => ?_) (fun c_60 => ?_)
  · have b_60 := gx_b_n.mp c_60
    refine ev_iconst (v := 0) dX5_takes_67 (by decide) ?_
    refine ev_zret dX5_takes_68 ?_ ?_
    · rfl
    · exact ⟨_, rfl, by rw [gx_b_n.mp c_60 |> Bool.eq_false_iff.mpr]; rfl, rfl, rfl⟩
  · have b_60 := gx_b_y.mp c_60
    refine ev_iconst (v := 1) dX5_takes_63 (by decide) ?_
    refine ev_goto 68 dX5_takes_64 (by decide) ?_
    refine ev_zret dX5_takes_68 ?_ ?_
    · rfl
    · exact ⟨_, rfl, by rw [gx_b_y.mp c_60]; rfl, rfl, rfl⟩
set_option maxRecDepth 10000 in
theorem c_tn4 (d : Nat) (S : gx_S) (b c : Int32) (H : Hd) {ng nd : Nat} (hg : H.1 = nI ng) (hd : H.2.1 = nI nd) (h5 : ng ≤ 5) (h4 : nd ≤ 4) (x : Int32) (hx : x < 48 ∨ 57 < x) (L : gx_L) : Cf (d + 4) mX5_takes [.ref 3, .int x, .ref 4] (mM S 4 b c H) L 0 (mM S 4 b c H) L := by
  refine ct_intro (loc := [some (.ref 3), some (.int x), some (.ref 4)]) (by decide) (Nat.le_of_ble_eq_true rfl) rfl ?_
  refine ev_ald0 dX5_takes_0 ?_
  refine ev_geti dX5_takes_1 fl_X5_16 rfl ?_
  rw [mM_0]
  refine ev_if_ne_t 24 dX5_takes_4 (by decide) (by decide) ?_
  refine ev_ald0 dX5_takes_24 ?_
  refine ev_geti dX5_takes_25 fl_X5_16 rfl ?_
  rw [mM_0]
  refine ev_iconst (v := 1) dX5_takes_28 (by decide) ?_
  refine ev_icmp_ne_t 39 dX5_takes_29 (by decide) (by decide) ?_
  refine ev_ild1 dX5_takes_39 ?_
  refine ev_bipush (v := 48) dX5_takes_40 (by decide) ?_
  refine ev_icmp_lt 67 dX5_takes_42 (by decide) (fun c_42 => ?_) (fun c_42 => ?_)
  · refine ev_iconst (v := 0) dX5_takes_67 (by decide) ?_
    refine ev_zret dX5_takes_68 ?_ ?_
    · rfl
    · exact ⟨_, rfl, rfl, rfl, rfl⟩
  · refine ev_ild1 dX5_takes_45 ?_
    refine ev_bipush (v := 57) dX5_takes_46 (by decide) ?_
    refine ev_icmp_gt 67 dX5_takes_48 (by decide) (fun c_48 => ?_) (fun c_48 => ?_)
    · refine ev_iconst (v := 0) dX5_takes_67 (by decide) ?_
      refine ev_zret dX5_takes_68 ?_ ?_
      · rfl
      · exact ⟨_, rfl, rfl, rfl, rfl⟩
    · exact absurd hx (fun h9 => h9.elim c_42 c_48)
set_option maxRecDepth 10000 in
theorem c_tk5 (d : Nat) (S : gx_S) (b c : Int32) (H : Hd) {ng nd : Nat} (hg : H.1 = nI ng) (hd : H.2.1 = nI nd) (h5 : ng ≤ 5) (h4 : nd ≤ 4) (x : Int32) (hx1 : ¬ x < 48) (hx2 : ¬ 57 < x) (L : gx_L) : Cf (d + 4) mX5_takes [.ref 3, .int x, .ref 4] (mM S 5 b c H) L (1) (mM S 6 (x - 48) c H) L := by
  refine ct_intro (loc := [some (.ref 3), some (.int x), some (.ref 4)]) (by decide) (Nat.le_of_ble_eq_true rfl) rfl ?_
  refine ev_ald0 dX5_takes_0 ?_
  refine ev_geti dX5_takes_1 fl_X5_16 rfl ?_
  rw [mM_0]
  refine ev_if_ne_t 24 dX5_takes_4 (by decide) (by decide) ?_
  refine ev_ald0 dX5_takes_24 ?_
  refine ev_geti dX5_takes_25 fl_X5_16 rfl ?_
  rw [mM_0]
  refine ev_iconst (v := 1) dX5_takes_28 (by decide) ?_
  refine ev_icmp_ne_t 39 dX5_takes_29 (by decide) (by decide) ?_
  refine ev_ild1 dX5_takes_39 ?_
  refine ev_bipush (v := 48) dX5_takes_40 (by decide) ?_
  refine ev_icmp_lt_f 67 dX5_takes_42 (by decide) hx1 ?_
  refine ev_ild1 dX5_takes_45 ?_
  refine ev_bipush (v := 57) dX5_takes_46 (by decide) ?_
  refine ev_icmp_gt_f 67 dX5_takes_48 (by decide) hx2 ?_
  refine ev_ald0 dX5_takes_51 ?_
  refine ev_ild1 dX5_takes_52 ?_
  refine ev_bipush (v := 48) dX5_takes_53 (by decide) ?_
  refine ev_isub dX5_takes_55 ?_
  refine ev_ald2 dX5_takes_56 ?_
  refine ev_V2i (M' := mX5_takesFigure) dX5_takes_57 lk_X5_36 vX5_takesFigure rfl (c_fig5 d S _ _ H hg hd h5 h4 _ L) (Nat.le_refl _) (Nat.le_of_ble_eq_true rfl) ?_
  refine ev_if_eq_f 67 dX5_takes_60 (by decide) (by decide) ?_
  refine ev_iconst (v := 1) dX5_takes_63 (by decide) ?_
  refine ev_goto 68 dX5_takes_64 (by decide) ?_
  refine ev_zret dX5_takes_68 ?_ ?_
  · rfl
  · exact ⟨_, rfl, rfl, rfl, rfl⟩
set_option maxRecDepth 10000 in
theorem c_tn5 (d : Nat) (S : gx_S) (b c : Int32) (H : Hd) {ng nd : Nat} (hg : H.1 = nI ng) (hd : H.2.1 = nI nd) (h5 : ng ≤ 5) (h4 : nd ≤ 4) (x : Int32) (hx : x < 48 ∨ 57 < x) (L : gx_L) : Cf (d + 4) mX5_takes [.ref 3, .int x, .ref 4] (mM S 5 b c H) L 0 (mM S 5 b c H) L := by
  refine ct_intro (loc := [some (.ref 3), some (.int x), some (.ref 4)]) (by decide) (Nat.le_of_ble_eq_true rfl) rfl ?_
  refine ev_ald0 dX5_takes_0 ?_
  refine ev_geti dX5_takes_1 fl_X5_16 rfl ?_
  rw [mM_0]
  refine ev_if_ne_t 24 dX5_takes_4 (by decide) (by decide) ?_
  refine ev_ald0 dX5_takes_24 ?_
  refine ev_geti dX5_takes_25 fl_X5_16 rfl ?_
  rw [mM_0]
  refine ev_iconst (v := 1) dX5_takes_28 (by decide) ?_
  refine ev_icmp_ne_t 39 dX5_takes_29 (by decide) (by decide) ?_
  refine ev_ild1 dX5_takes_39 ?_
  refine ev_bipush (v := 48) dX5_takes_40 (by decide) ?_
  refine ev_icmp_lt 67 dX5_takes_42 (by decide) (fun c_42 => ?_) (fun c_42 => ?_)
  · refine ev_iconst (v := 0) dX5_takes_67 (by decide) ?_
    refine ev_zret dX5_takes_68 ?_ ?_
    · rfl
    · exact ⟨_, rfl, rfl, rfl, rfl⟩
  · refine ev_ild1 dX5_takes_45 ?_
    refine ev_bipush (v := 57) dX5_takes_46 (by decide) ?_
    refine ev_icmp_gt 67 dX5_takes_48 (by decide) (fun c_48 => ?_) (fun c_48 => ?_)
    · refine ev_iconst (v := 0) dX5_takes_67 (by decide) ?_
      refine ev_zret dX5_takes_68 ?_ ?_
      · rfl
      · exact ⟨_, rfl, rfl, rfl, rfl⟩
    · exact absurd hx (fun h9 => h9.elim c_42 c_48)
set_option maxRecDepth 10000 in
theorem c_tk6 (d : Nat) (S : gx_S) (b c : Int32) (H : Hd) {ng nd : Nat} (hg : H.1 = nI ng) (hd : H.2.1 = nI nd) (h5 : ng ≤ 5) (h4 : nd ≤ 4) (x : Int32) (hx1 : ¬ x < 48) (hx2 : ¬ 57 < x) (L : gx_L) (hlt : nd < 4) : Cf (d + 4) mX5_takes [.ref 3, .int x, .ref 4] (mM S 6 b c H) L (gx_b (decide ((x - 48) ≤ 3))) (mM S 1 b c (if (x - 48) ≤ 3 then hAD H nd b (x - 48) else H)) L := by
  refine ct_intro (loc := [some (.ref 3), some (.int x), some (.ref 4)]) (by decide) (Nat.le_of_ble_eq_true rfl) rfl ?_
  refine ev_ald0 dX5_takes_0 ?_
  refine ev_geti dX5_takes_1 fl_X5_16 rfl ?_
  rw [mM_0]
  refine ev_if_ne_t 24 dX5_takes_4 (by decide) (by decide) ?_
  refine ev_ald0 dX5_takes_24 ?_
  refine ev_geti dX5_takes_25 fl_X5_16 rfl ?_
  rw [mM_0]
  refine ev_iconst (v := 1) dX5_takes_28 (by decide) ?_
  refine ev_icmp_ne_t 39 dX5_takes_29 (by decide) (by decide) ?_
  refine ev_ild1 dX5_takes_39 ?_
  refine ev_bipush (v := 48) dX5_takes_40 (by decide) ?_
  refine ev_icmp_lt_f 67 dX5_takes_42 (by decide) hx1 ?_
  refine ev_ild1 dX5_takes_45 ?_
  refine ev_bipush (v := 57) dX5_takes_46 (by decide) ?_
  refine ev_icmp_gt_f 67 dX5_takes_48 (by decide) hx2 ?_
  refine ev_ald0 dX5_takes_51 ?_
  refine ev_ild1 dX5_takes_52 ?_
  refine ev_bipush (v := 48) dX5_takes_53 (by decide) ?_
  refine ev_isub dX5_takes_55 ?_
  refine ev_ald2 dX5_takes_56 ?_
  refine ev_V2i (M' := mX5_takesFigure) dX5_takes_57 lk_X5_36 vX5_takesFigure rfl (c_fig6 d S _ _ H hg hd h5 h4 _ L hlt) (Nat.le_refl _) (Nat.le_of_ble_eq_true rfl) ?_
  refine ev_if_eq 67 dX5_takes_60 (by decide) (fun c_60 => ?_) (fun c_60 => ?_)
  · have b_60 := gx_b_n.mp c_60
    refine ev_iconst (v := 0) dX5_takes_67 (by decide) ?_
    refine ev_zret dX5_takes_68 ?_ ?_
    · rfl
    · exact ⟨_, rfl, by rw [gx_b_n.mp c_60 |> Bool.eq_false_iff.mpr]; rfl, rfl, rfl⟩
  · have b_60 := gx_b_y.mp c_60
    refine ev_iconst (v := 1) dX5_takes_63 (by decide) ?_
    refine ev_goto 68 dX5_takes_64 (by decide) ?_
    refine ev_zret dX5_takes_68 ?_ ?_
    · rfl
    · exact ⟨_, rfl, by rw [gx_b_y.mp c_60]; rfl, rfl, rfl⟩
set_option maxRecDepth 10000 in
theorem c_tn6 (d : Nat) (S : gx_S) (b c : Int32) (H : Hd) {ng nd : Nat} (hg : H.1 = nI ng) (hd : H.2.1 = nI nd) (h5 : ng ≤ 5) (h4 : nd ≤ 4) (x : Int32) (hx : x < 48 ∨ 57 < x) (L : gx_L) : Cf (d + 4) mX5_takes [.ref 3, .int x, .ref 4] (mM S 6 b c H) L 0 (mM S 6 b c H) L := by
  refine ct_intro (loc := [some (.ref 3), some (.int x), some (.ref 4)]) (by decide) (Nat.le_of_ble_eq_true rfl) rfl ?_
  refine ev_ald0 dX5_takes_0 ?_
  refine ev_geti dX5_takes_1 fl_X5_16 rfl ?_
  rw [mM_0]
  refine ev_if_ne_t 24 dX5_takes_4 (by decide) (by decide) ?_
  refine ev_ald0 dX5_takes_24 ?_
  refine ev_geti dX5_takes_25 fl_X5_16 rfl ?_
  rw [mM_0]
  refine ev_iconst (v := 1) dX5_takes_28 (by decide) ?_
  refine ev_icmp_ne_t 39 dX5_takes_29 (by decide) (by decide) ?_
  refine ev_ild1 dX5_takes_39 ?_
  refine ev_bipush (v := 48) dX5_takes_40 (by decide) ?_
  refine ev_icmp_lt 67 dX5_takes_42 (by decide) (fun c_42 => ?_) (fun c_42 => ?_)
  · refine ev_iconst (v := 0) dX5_takes_67 (by decide) ?_
    refine ev_zret dX5_takes_68 ?_ ?_
    · rfl
    · exact ⟨_, rfl, rfl, rfl, rfl⟩
  · refine ev_ild1 dX5_takes_45 ?_
    refine ev_bipush (v := 57) dX5_takes_46 (by decide) ?_
    refine ev_icmp_gt 67 dX5_takes_48 (by decide) (fun c_48 => ?_) (fun c_48 => ?_)
    · refine ev_iconst (v := 0) dX5_takes_67 (by decide) ?_
      refine ev_zret dX5_takes_68 ?_ ?_
      · rfl
      · exact ⟨_, rfl, rfl, rfl, rfl⟩
    · exact absurd hx (fun h9 => h9.elim c_42 c_48)
set_option maxRecDepth 10000 in
theorem c_tk7 (d : Nat) (S : gx_S) (b c : Int32) (H : Hd) {ng nd : Nat} (hg : H.1 = nI ng) (hd : H.2.1 = nI nd) (h5 : ng ≤ 5) (h4 : nd ≤ 4) (x : Int32) (hx1 : ¬ x < 48) (hx2 : ¬ 57 < x) (L : gx_L) : Cf (d + 4) mX5_takes [.ref 3, .int x, .ref 4] (mM S 7 b c H) L (gx_b (p_can H.1 H.2.1 H.2.2.2.2.2.2.2 (x - 48))) (mM S 8 (x - 48) c H) L := by
  refine ct_intro (loc := [some (.ref 3), some (.int x), some (.ref 4)]) (by decide) (Nat.le_of_ble_eq_true rfl) rfl ?_
  refine ev_ald0 dX5_takes_0 ?_
  refine ev_geti dX5_takes_1 fl_X5_16 rfl ?_
  rw [mM_0]
  refine ev_if_ne_t 24 dX5_takes_4 (by decide) (by decide) ?_
  refine ev_ald0 dX5_takes_24 ?_
  refine ev_geti dX5_takes_25 fl_X5_16 rfl ?_
  rw [mM_0]
  refine ev_iconst (v := 1) dX5_takes_28 (by decide) ?_
  refine ev_icmp_ne_t 39 dX5_takes_29 (by decide) (by decide) ?_
  refine ev_ild1 dX5_takes_39 ?_
  refine ev_bipush (v := 48) dX5_takes_40 (by decide) ?_
  refine ev_icmp_lt_f 67 dX5_takes_42 (by decide) hx1 ?_
  refine ev_ild1 dX5_takes_45 ?_
  refine ev_bipush (v := 57) dX5_takes_46 (by decide) ?_
  refine ev_icmp_gt_f 67 dX5_takes_48 (by decide) hx2 ?_
  refine ev_ald0 dX5_takes_51 ?_
  refine ev_ild1 dX5_takes_52 ?_
  refine ev_bipush (v := 48) dX5_takes_53 (by decide) ?_
  refine ev_isub dX5_takes_55 ?_
  refine ev_ald2 dX5_takes_56 ?_
  refine ev_V2i (M' := mX5_takesFigure) dX5_takes_57 lk_X5_36 vX5_takesFigure rfl (c_fig7 d S _ _ H hg hd h5 h4 _ L) (Nat.le_refl _) (Nat.le_of_ble_eq_true rfl) ?_
  refine ev_if_eq 67 dX5_takes_60 (by decide) (fun c_60 => ?_) (fun c_60 => ?_)
  · have b_60 := gx_b_n.mp c_60
    refine ev_iconst (v := 0) dX5_takes_67 (by decide) ?_
    refine ev_zret dX5_takes_68 ?_ ?_
    · rfl
    · exact ⟨_, rfl, by rw [gx_b_n.mp c_60 |> Bool.eq_false_iff.mpr]; rfl, rfl, rfl⟩
  · have b_60 := gx_b_y.mp c_60
    refine ev_iconst (v := 1) dX5_takes_63 (by decide) ?_
    refine ev_goto 68 dX5_takes_64 (by decide) ?_
    refine ev_zret dX5_takes_68 ?_ ?_
    · rfl
    · exact ⟨_, rfl, by rw [gx_b_y.mp c_60]; rfl, rfl, rfl⟩
set_option maxRecDepth 10000 in
theorem c_tn7 (d : Nat) (S : gx_S) (b c : Int32) (H : Hd) {ng nd : Nat} (hg : H.1 = nI ng) (hd : H.2.1 = nI nd) (h5 : ng ≤ 5) (h4 : nd ≤ 4) (x : Int32) (hx : x < 48 ∨ 57 < x) (L : gx_L) : Cf (d + 4) mX5_takes [.ref 3, .int x, .ref 4] (mM S 7 b c H) L 0 (mM S 7 b c H) L := by
  refine ct_intro (loc := [some (.ref 3), some (.int x), some (.ref 4)]) (by decide) (Nat.le_of_ble_eq_true rfl) rfl ?_
  refine ev_ald0 dX5_takes_0 ?_
  refine ev_geti dX5_takes_1 fl_X5_16 rfl ?_
  rw [mM_0]
  refine ev_if_ne_t 24 dX5_takes_4 (by decide) (by decide) ?_
  refine ev_ald0 dX5_takes_24 ?_
  refine ev_geti dX5_takes_25 fl_X5_16 rfl ?_
  rw [mM_0]
  refine ev_iconst (v := 1) dX5_takes_28 (by decide) ?_
  refine ev_icmp_ne_t 39 dX5_takes_29 (by decide) (by decide) ?_
  refine ev_ild1 dX5_takes_39 ?_
  refine ev_bipush (v := 48) dX5_takes_40 (by decide) ?_
  refine ev_icmp_lt 67 dX5_takes_42 (by decide) (fun c_42 => ?_) (fun c_42 => ?_)
  · refine ev_iconst (v := 0) dX5_takes_67 (by decide) ?_
    refine ev_zret dX5_takes_68 ?_ ?_
    · rfl
    · exact ⟨_, rfl, rfl, rfl, rfl⟩
  · refine ev_ild1 dX5_takes_45 ?_
    refine ev_bipush (v := 57) dX5_takes_46 (by decide) ?_
    refine ev_icmp_gt 67 dX5_takes_48 (by decide) (fun c_48 => ?_) (fun c_48 => ?_)
    · refine ev_iconst (v := 0) dX5_takes_67 (by decide) ?_
      refine ev_zret dX5_takes_68 ?_ ?_
      · rfl
      · exact ⟨_, rfl, rfl, rfl, rfl⟩
    · exact absurd hx (fun h9 => h9.elim c_42 c_48)
set_option maxRecDepth 10000 in
theorem c_tk8 (d : Nat) (S : gx_S) (b c : Int32) (H : Hd) {ng nd : Nat} (hg : H.1 = nI ng) (hd : H.2.1 = nI nd) (h5 : ng ≤ 5) (h4 : nd ≤ 4) (x : Int32) (hx1 : ¬ x < 48) (hx2 : ¬ 57 < x) (L : gx_L) : Cf (d + 4) mX5_takes [.ref 3, .int x, .ref 4] (mM S 8 b c H) L (gx_b (p_seat H b (x - 48)).1) (mM S 1 b c (p_seat H b (x - 48)).2) L := by
  refine ct_intro (loc := [some (.ref 3), some (.int x), some (.ref 4)]) (by decide) (Nat.le_of_ble_eq_true rfl) rfl ?_
  refine ev_ald0 dX5_takes_0 ?_
  refine ev_geti dX5_takes_1 fl_X5_16 rfl ?_
  rw [mM_0]
  refine ev_if_ne_t 24 dX5_takes_4 (by decide) (by decide) ?_
  refine ev_ald0 dX5_takes_24 ?_
  refine ev_geti dX5_takes_25 fl_X5_16 rfl ?_
  rw [mM_0]
  refine ev_iconst (v := 1) dX5_takes_28 (by decide) ?_
  refine ev_icmp_ne_t 39 dX5_takes_29 (by decide) (by decide) ?_
  refine ev_ild1 dX5_takes_39 ?_
  refine ev_bipush (v := 48) dX5_takes_40 (by decide) ?_
  refine ev_icmp_lt_f 67 dX5_takes_42 (by decide) hx1 ?_
  refine ev_ild1 dX5_takes_45 ?_
  refine ev_bipush (v := 57) dX5_takes_46 (by decide) ?_
  refine ev_icmp_gt_f 67 dX5_takes_48 (by decide) hx2 ?_
  refine ev_ald0 dX5_takes_51 ?_
  refine ev_ild1 dX5_takes_52 ?_
  refine ev_bipush (v := 48) dX5_takes_53 (by decide) ?_
  refine ev_isub dX5_takes_55 ?_
  refine ev_ald2 dX5_takes_56 ?_
  refine ev_V2i (M' := mX5_takesFigure) dX5_takes_57 lk_X5_36 vX5_takesFigure rfl (c_fig8 d S _ _ H hg hd h5 h4 _ L) (Nat.le_refl _) (Nat.le_of_ble_eq_true rfl) ?_
  refine ev_if_eq 67 dX5_takes_60 (by decide) (fun c_60 => ?_) (fun c_60 => ?_)
  · have b_60 := gx_b_n.mp c_60
    refine ev_iconst (v := 0) dX5_takes_67 (by decide) ?_
    refine ev_zret dX5_takes_68 ?_ ?_
    · rfl
    · exact ⟨_, rfl, by rw [gx_b_n.mp c_60 |> Bool.eq_false_iff.mpr]; rfl, rfl, rfl⟩
  · have b_60 := gx_b_y.mp c_60
    refine ev_iconst (v := 1) dX5_takes_63 (by decide) ?_
    refine ev_goto 68 dX5_takes_64 (by decide) ?_
    refine ev_zret dX5_takes_68 ?_ ?_
    · rfl
    · exact ⟨_, rfl, by rw [gx_b_y.mp c_60]; rfl, rfl, rfl⟩
set_option maxRecDepth 10000 in
theorem c_tn8 (d : Nat) (S : gx_S) (b c : Int32) (H : Hd) {ng nd : Nat} (hg : H.1 = nI ng) (hd : H.2.1 = nI nd) (h5 : ng ≤ 5) (h4 : nd ≤ 4) (x : Int32) (hx : x < 48 ∨ 57 < x) (L : gx_L) : Cf (d + 4) mX5_takes [.ref 3, .int x, .ref 4] (mM S 8 b c H) L 0 (mM S 8 b c H) L := by
  refine ct_intro (loc := [some (.ref 3), some (.int x), some (.ref 4)]) (by decide) (Nat.le_of_ble_eq_true rfl) rfl ?_
  refine ev_ald0 dX5_takes_0 ?_
  refine ev_geti dX5_takes_1 fl_X5_16 rfl ?_
  rw [mM_0]
  refine ev_if_ne_t 24 dX5_takes_4 (by decide) (by decide) ?_
  refine ev_ald0 dX5_takes_24 ?_
  refine ev_geti dX5_takes_25 fl_X5_16 rfl ?_
  rw [mM_0]
  refine ev_iconst (v := 1) dX5_takes_28 (by decide) ?_
  refine ev_icmp_ne_t 39 dX5_takes_29 (by decide) (by decide) ?_
  refine ev_ild1 dX5_takes_39 ?_
  refine ev_bipush (v := 48) dX5_takes_40 (by decide) ?_
  refine ev_icmp_lt 67 dX5_takes_42 (by decide) (fun c_42 => ?_) (fun c_42 => ?_)
  · refine ev_iconst (v := 0) dX5_takes_67 (by decide) ?_
    refine ev_zret dX5_takes_68 ?_ ?_
    · rfl
    · exact ⟨_, rfl, rfl, rfl, rfl⟩
  · refine ev_ild1 dX5_takes_45 ?_
    refine ev_bipush (v := 57) dX5_takes_46 (by decide) ?_
    refine ev_icmp_gt 67 dX5_takes_48 (by decide) (fun c_48 => ?_) (fun c_48 => ?_)
    · refine ev_iconst (v := 0) dX5_takes_67 (by decide) ?_
      refine ev_zret dX5_takes_68 ?_ ?_
      · rfl
      · exact ⟨_, rfl, rfl, rfl, rfl⟩
    · exact absurd hx (fun h9 => h9.elim c_42 c_48)
set_option maxRecDepth 10000 in
theorem c_tk0 (d : Nat) (S : gx_S) (b c : Int32) (H : Hd) {ng nd : Nat} (hg : H.1 = nI ng) (hd : H.2.1 = nI nd) (h5 : ng ≤ 5) (h4 : nd ≤ 4) (x : Int32) (L : gx_L) : Cf (d + 4) mX5_takes [.ref 3, .int x, .ref 4] (mM S 0 b c H) L (gx_b (decide (x = 71))) (mM S 1 b c H) L := by
  refine ct_intro (loc := [some (.ref 3), some (.int x), some (.ref 4)]) (by decide) (Nat.le_of_ble_eq_true rfl) rfl ?_
  refine ev_ald0 dX5_takes_0 ?_
  refine ev_geti dX5_takes_1 fl_X5_16 rfl ?_
  rw [mM_0]
  refine ev_if_ne_f 24 dX5_takes_4 (by decide) rfl ?_
  refine ev_ald0 dX5_takes_7 ?_
  refine ev_iconst (v := 1) dX5_takes_8 (by decide) ?_
  refine ev_puti dX5_takes_9 fp_X5_16 rfl ?_
  rw [mM_u0]
  refine ev_ild1 dX5_takes_12 ?_
  refine ev_bipush (v := 71) dX5_takes_13 (by decide) ?_
  refine ev_icmp_ne 22 dX5_takes_15 (by decide) (fun c_15 => ?_) (fun c_15 => ?_)
  · refine ev_iconst (v := 0) dX5_takes_22 (by decide) ?_
    refine ev_zret dX5_takes_23 ?_ ?_
    · rfl
    · exact ⟨_, rfl, by rw [decide_eq_false c_15]; rfl, rfl, rfl⟩
  · refine ev_iconst (v := 1) dX5_takes_18 (by decide) ?_
    refine ev_goto 23 dX5_takes_19 (by decide) ?_
    refine ev_zret dX5_takes_23 ?_ ?_
    · rfl
    · exact ⟨_, rfl, by rw [decide_eq_true c_15]; rfl, rfl, rfl⟩
