theorem one_eq {dk : Nat → Int32} {T : Tb} {a g h : Nat} : (p_sw dk T a g - (if nI g = nI h then 1 else 0) = p_sw dk T a g - (if nI g = nI h then 1 else 0)) := rfl
theorem oneHas_t {dk : Nat → Int32} {T : Tb} {a g h : Nat} (e : g = h) : p_oneHas dk T a g h = p_sw dk T a g - 1 := if_pos e
theorem oneHas_f {dk : Nat → Int32} {T : Tb} {a g h : Nat} (e : ¬ g = h) : p_oneHas dk T a g h = p_sw dk T a g - 0 := (if_neg e).trans (Int32.sub_zero _).symm
theorem othHas_t {dk : Nat → Int32} {T : Tb} {a b g h : Nat} (hab : b ≠ a) (e : g = h) : p_otherHas dk T a b g h = p_sw dk (p_swT dk T a g) b h - 1 := by
  subst e
  refine (if_pos rfl).trans ?_
  unfold p_sw
  rw [show (p_swT dk T a g).2.2.1 b = T.2.2.1 b from upd_ne _ _ hab, show (p_swT dk T a g).1 g = T.1 g - p_sw dk T a g from upd_at _ _ _]
  rfl
theorem othHas_f {dk : Nat → Int32} {T : Tb} {a b g h : Nat} (hab : b ≠ a) (e : ¬ g = h) : p_otherHas dk T a b g h = p_sw dk (p_swT dk T a g) b h - 0 := by
  refine (if_neg e).trans ?_
  rw [Int32.sub_zero]
  unfold p_sw
  rw [show (p_swT dk T a g).2.2.1 b = T.2.2.1 b from upd_ne _ _ hab, show (p_swT dk T a g).1 h = T.1 h from upd_ne _ _ (fun h9 => e h9.symm)]
set_option maxRecDepth 10000 in
theorem m_gain1 (d : Nat) (S : gx_S) {ng nd : Nat} {ms gk dk sb : Nat → Int32} (hm : mH S ng nd ms gk dk sb) {T : Tb} (h0 : mT (S 49) 0 = T) (hT : okT ms T) (T0 : Tb) {a b g h : Nat} (ha : a < nd) (hb : b < nd) (hab : b ≠ a) (hg : g < ng) (hh : h < ng) (L : gx_L) : Cf (d + 2) mX11_gain [.ref 44, .int (nI a), .int (nI b), .int (nI g), .int (nI h), .int 1] (nS S 1 T0) L (p_oneHas dk T a g h) (nS S 1 (p_swT dk (p_swT dk T a g) b h)) L := by
  refine ct_intro (loc := [some (.ref 44), some (.int (nI a)), some (.int (nI b)), some (.int (nI g)), some (.int (nI h)), some (.int 1), none, none]) (by decide) (Nat.le_of_ble_eq_true rfl) rfl ?_
  have h59 := hm.2.1
  have h49 := hm.2.2.2.1
  refine ev_ald0 dX11_gain_0 ?_
  refine ev_V0v (M' := mX11_layTrial) dX11_gain_1 lk_X11_164 vX11_layTrial rfl (m_lay1 (d + 1) S T0 h0 L) (Nat.le_refl _) (Nat.le_of_ble_eq_true rfl) ?_
  refine ev_ald0 dX11_gain_4 ?_
  refine ev_iconst (v := 1) dX11_gain_5 (by decide) ?_
  refine ev_ild1 dX11_gain_6 ?_
  refine ev_ild3 dX11_gain_7 ?_
  refine ev_V3i (M' := mX11_drinkOn) dX11_gain_8 lk_X11_115 vX11_drinkOn rfl (m_drinkH d (lv := 1) (by decide) (by omega) (by omega) S _ (hm.2.2.2.2.2.1 a ha).1 (okT_c hT (by omega)) L) (Nat.le_refl _) (Nat.le_of_ble_eq_true rfl) ?_
  refine ev_ist6 dX11_gain_11 ?_
  refine ev_ald0 dX11_gain_13 ?_
  refine ev_iconst (v := 1) dX11_gain_14 (by decide) ?_
  refine ev_ild2 dX11_gain_15 ?_
  refine ev_ild4 dX11_gain_16 ?_
  refine ev_V3i (M' := mX11_drinkOn) dX11_gain_18 lk_X11_115 vX11_drinkOn rfl (m_drinkH d (lv := 1) (by decide) (by omega) (by omega) S _ (hm.2.2.2.2.2.1 b hb).1 (okT_c (okT_sw hT (by omega) (by omega)) (by omega)) L) (Nat.le_refl _) (Nat.le_of_ble_eq_true rfl) ?_
  refine ev_ist7 dX11_gain_21 ?_
  refine ev_ild5 dX11_gain_23 ?_
  refine ev_if_eq_f 33 dX11_gain_25 (by decide) (by decide) ?_
  refine ev_ild6 dX11_gain_28 ?_
  refine ev_goto 35 dX11_gain_30 (by decide) ?_
  refine ev_ild3 dX11_gain_35 ?_
  refine ev_ild4 dX11_gain_36 ?_
  refine ev_icmp_ne 45 dX11_gain_38 (by decide) (fun c_38 => ?_) (fun c_38 => ?_)
  · refine ev_iconst (v := 0) dX11_gain_45 (by decide) ?_
    refine ev_isub dX11_gain_46 ?_
    refine ev_iret dX11_gain_47 ?_
    exact ⟨_, rfl, (oneHas_f (fun h9 => c_38 (congrArg nI h9))).symm, rfl, rfl⟩
  · refine ev_iconst (v := 1) dX11_gain_41 (by decide) ?_
    refine ev_goto 46 dX11_gain_42 (by decide) ?_
    refine ev_isub dX11_gain_46 ?_
    refine ev_iret dX11_gain_47 ?_
    exact ⟨_, rfl, (oneHas_t ((nI_eq (by omega) (by omega)).mp c_38)).symm, rfl, rfl⟩
set_option maxRecDepth 10000 in
theorem m_gain0 (d : Nat) (S : gx_S) {ng nd : Nat} {ms gk dk sb : Nat → Int32} (hm : mH S ng nd ms gk dk sb) {T : Tb} (h0 : mT (S 49) 0 = T) (hT : okT ms T) (T0 : Tb) {a b g h : Nat} (ha : a < nd) (hb : b < nd) (hab : b ≠ a) (hg : g < ng) (hh : h < ng) (L : gx_L) : Cf (d + 2) mX11_gain [.ref 44, .int (nI a), .int (nI b), .int (nI g), .int (nI h), .int 0] (nS S 1 T0) L (p_otherHas dk T a b g h) (nS S 1 (p_swT dk (p_swT dk T a g) b h)) L := by
  refine ct_intro (loc := [some (.ref 44), some (.int (nI a)), some (.int (nI b)), some (.int (nI g)), some (.int (nI h)), some (.int 0), none, none]) (by decide) (Nat.le_of_ble_eq_true rfl) rfl ?_
  have h59 := hm.2.1
  have h49 := hm.2.2.2.1
  refine ev_ald0 dX11_gain_0 ?_
  refine ev_V0v (M' := mX11_layTrial) dX11_gain_1 lk_X11_164 vX11_layTrial rfl (m_lay1 (d + 1) S T0 h0 L) (Nat.le_refl _) (Nat.le_of_ble_eq_true rfl) ?_
  refine ev_ald0 dX11_gain_4 ?_
  refine ev_iconst (v := 1) dX11_gain_5 (by decide) ?_
  refine ev_ild1 dX11_gain_6 ?_
  refine ev_ild3 dX11_gain_7 ?_
  refine ev_V3i (M' := mX11_drinkOn) dX11_gain_8 lk_X11_115 vX11_drinkOn rfl (m_drinkH d (lv := 1) (by decide) (by omega) (by omega) S _ (hm.2.2.2.2.2.1 a ha).1 (okT_c hT (by omega)) L) (Nat.le_refl _) (Nat.le_of_ble_eq_true rfl) ?_
  refine ev_ist6 dX11_gain_11 ?_
  refine ev_ald0 dX11_gain_13 ?_
  refine ev_iconst (v := 1) dX11_gain_14 (by decide) ?_
  refine ev_ild2 dX11_gain_15 ?_
  refine ev_ild4 dX11_gain_16 ?_
  refine ev_V3i (M' := mX11_drinkOn) dX11_gain_18 lk_X11_115 vX11_drinkOn rfl (m_drinkH d (lv := 1) (by decide) (by omega) (by omega) S _ (hm.2.2.2.2.2.1 b hb).1 (okT_c (okT_sw hT (by omega) (by omega)) (by omega)) L) (Nat.le_refl _) (Nat.le_of_ble_eq_true rfl) ?_
  refine ev_ist7 dX11_gain_21 ?_
  refine ev_ild5 dX11_gain_23 ?_
  refine ev_if_eq_t 33 dX11_gain_25 (by decide) (by decide) ?_
  refine ev_ild7 dX11_gain_33 ?_
  refine ev_ild3 dX11_gain_35 ?_
  refine ev_ild4 dX11_gain_36 ?_
  refine ev_icmp_ne 45 dX11_gain_38 (by decide) (fun c_38 => ?_) (fun c_38 => ?_)
  · refine ev_iconst (v := 0) dX11_gain_45 (by decide) ?_
    refine ev_isub dX11_gain_46 ?_
    refine ev_iret dX11_gain_47 ?_
    exact ⟨_, rfl, (othHas_f hab (fun h9 => c_38 (congrArg nI h9))).symm, rfl, rfl⟩
  · refine ev_iconst (v := 1) dX11_gain_41 (by decide) ?_
    refine ev_goto 46 dX11_gain_42 (by decide) ?_
    refine ev_isub dX11_gain_46 ?_
    refine ev_iret dX11_gain_47 ?_
    exact ⟨_, rfl, (othHas_t hab ((nI_eq (by omega) (by omega)).mp c_38)).symm, rfl, rfl⟩
set_option maxRecDepth 10000 in
theorem ml_rest (d : Nat) (S : gx_S) {ng nd : Nat} {ms gk dk sb : Nat → Int32} (hm : mH S ng nd ms gk dk sb) {T : Tb} (h0 : mT (S 49) 0 = T) (hT : okT ms T) {a b g h : Nat} (ha : a < nd) (hb : b < nd) (hab : b ≠ a) (hg : g < ng) (hh : h < ng) (L : gx_L) {Q : Option Value → gx_S → gx_L → Prop} (kk : ∀ (T0 : Tb), Ev mX11_isRest (d + 3) 120 [some (.ref 44), some (.int (nI a)), some (.int (nI b)), some (.int (nI g)), some (.int (nI h)), some (.int (gx_b (allB (p_rest1 dk sb T a b g h) (ng)))), some (.int (nI (ng)))] [] (nS S 1 T0) L Q) : ∀ (nn i : Nat) (T0 : Tb), i + nn = ng → Ev mX11_isRest (d + 3) 6 [some (.ref 44), some (.int (nI a)), some (.int (nI b)), some (.int (nI g)), some (.int (nI h)), some (.int (gx_b (allB (p_rest1 dk sb T a b g h) (i)))), some (.int (nI (i)))] [] (nS S 1 T0) L Q := by
  intro nn
  induction nn with
  | zero =>
    intro i T0 hi
    obtain rfl : i = ng := hi
    have h59 := hm.2.1
    have h49 := hm.2.2.2.1
    refine ev_ild6 dX11_isRest_6 ?_
    refine ev_ald0 dX11_isRest_8 ?_
    refine ev_geti dX11_isRest_9 fl_X11_56 rfl ?_
    refine ev_icmp_ge_t 120 dX11_isRest_12 (by decide) (by rw [nS_o S 1 _ (by decide), hm.1]; exact nI_le (Nat.le_refl _) (by omega)) ?_
    exact kk T0
  | succ nn ih =>
    intro i T0 hi
    have h59 := hm.2.1
    have h49 := hm.2.2.2.1
    have hda := hm.2.2.2.2.2.1 a ha
    have hdb := hm.2.2.2.2.2.1 b hb
    have hi2 : i < ng := by omega
    refine ev_ild6 dX11_isRest_6 ?_
    refine ev_ald0 dX11_isRest_8 ?_
    refine ev_geti dX11_isRest_9 fl_X11_56 rfl ?_
    refine ev_icmp_ge_f 120 dX11_isRest_12 (by decide) (by rw [nS_o S 1 _ (by decide), hm.1]; exact nI_ge (by omega) (by omega)) ?_
    refine ev_ild5 dX11_isRest_15 ?_
    refine ev_if_eq 62 dX11_isRest_17 (by decide) (fun c_17 => ?_) (fun c_17 => ?_)
    · have b_17 := gx_b_n.mp c_17
      refine ev_iconst (v := 0) dX11_isRest_62 (by decide) ?_
      refine ev_ist5 dX11_isRest_63 ?_
      refine ev_ild5 dX11_isRest_65 ?_
      refine ev_if_eq_t 111 dX11_isRest_67 (by decide) (by decide) ?_
      refine ev_iconst (v := 0) dX11_isRest_111 (by decide) ?_
      refine ev_ist5 dX11_isRest_112 ?_
      refine ev_inc6 dX11_isRest_114 (nI_inc _) ?_
      refine ev_goto 6 dX11_isRest_117 (by decide) ?_
      have e9 : allB (p_rest1 dk sb T a b g h) (i + 1) = false := by rw [allB_s, Bool.eq_false_iff.mpr b_17]; rfl
      have e := fun T9 => ih (i + 1) T9 (by omega)
      rw [e9] at e
      exact e _
    · have b_17 := gx_b_y.mp c_17
      refine ev_ald0 dX11_isRest_20 ?_
      refine ev_getr (r := 48) dX11_isRest_21 fl_X11_19 rfl ?_
      refine ev_ild1 dX11_isRest_24 ?_
      refine ev_iald' dX11_isRest_25 rfl (by omega) (by decide) ?_
      rw [nS_o S 1 _ (by decide), hda.2]
      refine ev_ild6 dX11_isRest_26 ?_
      refine ev_S2i (M' := mX11_has) dX11_isRest_28 lk_X11_77 sX11_has (m_has (d + 2) _ _ _ _) (Nat.le_refl _) (Nat.le_of_ble_eq_true rfl) ?_
      refine ev_if_eq 58 dX11_isRest_31 (by decide) (fun c_31 => ?_) (fun c_31 => ?_)
      · have b_31 := gx_b_n.mp c_31
        refine ev_iconst (v := 1) dX11_isRest_58 (by decide) ?_
        refine ev_goto 63 dX11_isRest_59 (by decide) ?_
        refine ev_ist5 dX11_isRest_63 ?_
        refine ev_ild5 dX11_isRest_65 ?_
        refine ev_if_eq_f 111 dX11_isRest_67 (by decide) (by decide) ?_
        refine ev_ald0 dX11_isRest_70 ?_
        refine ev_getr (r := 48) dX11_isRest_71 fl_X11_19 rfl ?_
        refine ev_ild2 dX11_isRest_74 ?_
        refine ev_iald' dX11_isRest_75 rfl (by omega) (by decide) ?_
        rw [nS_o S 1 _ (by decide), hdb.2]
        refine ev_ild6 dX11_isRest_76 ?_
        refine ev_S2i (M' := mX11_has) dX11_isRest_78 lk_X11_77 sX11_has (m_has (d + 2) _ _ _ _) (Nat.le_refl _) (Nat.le_of_ble_eq_true rfl) ?_
        refine ev_if_eq 107 dX11_isRest_81 (by decide) (fun c_81 => ?_) (fun c_81 => ?_)
        · have b_81 := gx_b_n.mp c_81
          refine ev_iconst (v := 1) dX11_isRest_107 (by decide) ?_
          refine ev_goto 112 dX11_isRest_108 (by decide) ?_
          refine ev_ist5 dX11_isRest_112 ?_
          refine ev_inc6 dX11_isRest_114 (nI_inc _) ?_
          refine ev_goto 6 dX11_isRest_117 (by decide) ?_
          have e8 : (p_rest1 dk sb T a b g h) i = true := (if_neg b_31).trans (if_neg b_81)
          have e9 : allB (p_rest1 dk sb T a b g h) (i + 1) = true := by rw [allB_s, b_17, e8]; rfl
          have e := fun T9 => ih (i + 1) T9 (by omega)
          rw [e9] at e
          exact e _
        · have b_81 := gx_b_y.mp c_81
          refine ev_ald0 dX11_isRest_84 ?_
          refine ev_ild1 dX11_isRest_85 ?_
          refine ev_ild2 dX11_isRest_86 ?_
          refine ev_ild3 dX11_isRest_87 ?_
          refine ev_ild6 dX11_isRest_88 ?_
          refine ev_iconst (v := 0) dX11_isRest_90 (by decide) ?_
          refine ev_V5i (M' := mX11_gain) dX11_isRest_91 lk_X11_212 vX11_gain rfl (m_gain0 d S hm h0 hT _ ha hb hab hg hi2 L) (Nat.le_refl _) (Nat.le_of_ble_eq_true rfl) ?_
          refine ev_ald0 dX11_isRest_94 ?_
          refine ev_ild1 dX11_isRest_95 ?_
          refine ev_ild2 dX11_isRest_96 ?_
          refine ev_ild3 dX11_isRest_97 ?_
          refine ev_ild4 dX11_isRest_98 ?_
          refine ev_iconst (v := 0) dX11_isRest_100 (by decide) ?_
          refine ev_V5i (M' := mX11_gain) dX11_isRest_101 lk_X11_212 vX11_gain rfl (m_gain0 d S hm h0 hT _ ha hb hab hg hh L) (Nat.le_refl _) (Nat.le_of_ble_eq_true rfl) ?_
          refine ev_icmp_gt 111 dX11_isRest_104 (by decide) (fun c_104 => ?_) (fun c_104 => ?_)
          · refine ev_iconst (v := 0) dX11_isRest_111 (by decide) ?_
            refine ev_ist5 dX11_isRest_112 ?_
            refine ev_inc6 dX11_isRest_114 (nI_inc _) ?_
            refine ev_goto 6 dX11_isRest_117 (by decide) ?_
            have e8 : (p_rest1 dk sb T a b g h) i = false := (if_neg b_31).trans ((if_pos b_81).trans (if_neg (Int32.not_le.mpr c_104)))
            have e9 : allB (p_rest1 dk sb T a b g h) (i + 1) = false := by rw [allB_s, b_17, e8]; rfl
            have e := fun T9 => ih (i + 1) T9 (by omega)
            rw [e9] at e
            exact e _
          · refine ev_iconst (v := 1) dX11_isRest_107 (by decide) ?_
            refine ev_goto 112 dX11_isRest_108 (by decide) ?_
            refine ev_ist5 dX11_isRest_112 ?_
            refine ev_inc6 dX11_isRest_114 (nI_inc _) ?_
            refine ev_goto 6 dX11_isRest_117 (by decide) ?_
            have e8 : (p_rest1 dk sb T a b g h) i = true := (if_neg b_31).trans ((if_pos b_81).trans (if_pos (Int32.not_lt.mp c_104)))
            have e9 : allB (p_rest1 dk sb T a b g h) (i + 1) = true := by rw [allB_s, b_17, e8]; rfl
            have e := fun T9 => ih (i + 1) T9 (by omega)
            rw [e9] at e
            exact e _
      · have b_31 := gx_b_y.mp c_31
        refine ev_ald0 dX11_isRest_34 ?_
        refine ev_ild1 dX11_isRest_35 ?_
        refine ev_ild2 dX11_isRest_36 ?_
        refine ev_ild6 dX11_isRest_37 ?_
        refine ev_ild4 dX11_isRest_39 ?_
        refine ev_iconst (v := 1) dX11_isRest_41 (by decide) ?_
        refine ev_V5i (M' := mX11_gain) dX11_isRest_42 lk_X11_212 vX11_gain rfl (m_gain1 d S hm h0 hT _ ha hb hab hi2 hh L) (Nat.le_refl _) (Nat.le_of_ble_eq_true rfl) ?_
        refine ev_ald0 dX11_isRest_45 ?_
        refine ev_ild1 dX11_isRest_46 ?_
        refine ev_ild2 dX11_isRest_47 ?_
        refine ev_ild3 dX11_isRest_48 ?_
        refine ev_ild4 dX11_isRest_49 ?_
        refine ev_iconst (v := 1) dX11_isRest_51 (by decide) ?_
        refine ev_V5i (M' := mX11_gain) dX11_isRest_52 lk_X11_212 vX11_gain rfl (m_gain1 d S hm h0 hT _ ha hb hab hg hh L) (Nat.le_refl _) (Nat.le_of_ble_eq_true rfl) ?_
        refine ev_icmp_gt 62 dX11_isRest_55 (by decide) (fun c_55 => ?_) (fun c_55 => ?_)
        · refine ev_iconst (v := 0) dX11_isRest_62 (by decide) ?_
          refine ev_ist5 dX11_isRest_63 ?_
          refine ev_ild5 dX11_isRest_65 ?_
          refine ev_if_eq_t 111 dX11_isRest_67 (by decide) (by decide) ?_
          refine ev_iconst (v := 0) dX11_isRest_111 (by decide) ?_
          refine ev_ist5 dX11_isRest_112 ?_
          refine ev_inc6 dX11_isRest_114 (nI_inc _) ?_
          refine ev_goto 6 dX11_isRest_117 (by decide) ?_
          have e8 : (p_rest1 dk sb T a b g h) i = false := (if_pos b_31).trans (if_neg (Int32.not_le.mpr c_55))
          have e9 : allB (p_rest1 dk sb T a b g h) (i + 1) = false := by rw [allB_s, b_17, e8]; rfl
          have e := fun T9 => ih (i + 1) T9 (by omega)
          rw [e9] at e
          exact e _
        · refine ev_iconst (v := 1) dX11_isRest_58 (by decide) ?_
          refine ev_goto 63 dX11_isRest_59 (by decide) ?_
          refine ev_ist5 dX11_isRest_63 ?_
          refine ev_ild5 dX11_isRest_65 ?_
          refine ev_if_eq_f 111 dX11_isRest_67 (by decide) (by decide) ?_
          refine ev_ald0 dX11_isRest_70 ?_
          refine ev_getr (r := 48) dX11_isRest_71 fl_X11_19 rfl ?_
          refine ev_ild2 dX11_isRest_74 ?_
          refine ev_iald' dX11_isRest_75 rfl (by omega) (by decide) ?_
          rw [nS_o S 1 _ (by decide), hdb.2]
          refine ev_ild6 dX11_isRest_76 ?_
          refine ev_S2i (M' := mX11_has) dX11_isRest_78 lk_X11_77 sX11_has (m_has (d + 2) _ _ _ _) (Nat.le_refl _) (Nat.le_of_ble_eq_true rfl) ?_
          refine ev_if_eq 107 dX11_isRest_81 (by decide) (fun c_81 => ?_) (fun c_81 => ?_)
          · have b_81 := gx_b_n.mp c_81
            refine ev_iconst (v := 1) dX11_isRest_107 (by decide) ?_
            refine ev_goto 112 dX11_isRest_108 (by decide) ?_
            refine ev_ist5 dX11_isRest_112 ?_
            refine ev_inc6 dX11_isRest_114 (nI_inc _) ?_
            refine ev_goto 6 dX11_isRest_117 (by decide) ?_
            have e8 : (p_rest1 dk sb T a b g h) i = true := (if_pos b_31).trans ((if_pos (Int32.not_lt.mp c_55)).trans (if_neg b_81))
            have e9 : allB (p_rest1 dk sb T a b g h) (i + 1) = true := by rw [allB_s, b_17, e8]; rfl
            have e := fun T9 => ih (i + 1) T9 (by omega)
            rw [e9] at e
            exact e _
          · have b_81 := gx_b_y.mp c_81
            refine ev_ald0 dX11_isRest_84 ?_
            refine ev_ild1 dX11_isRest_85 ?_
            refine ev_ild2 dX11_isRest_86 ?_
            refine ev_ild3 dX11_isRest_87 ?_
            refine ev_ild6 dX11_isRest_88 ?_
            refine ev_iconst (v := 0) dX11_isRest_90 (by decide) ?_
            refine ev_V5i (M' := mX11_gain) dX11_isRest_91 lk_X11_212 vX11_gain rfl (m_gain0 d S hm h0 hT _ ha hb hab hg hi2 L) (Nat.le_refl _) (Nat.le_of_ble_eq_true rfl) ?_
            refine ev_ald0 dX11_isRest_94 ?_
            refine ev_ild1 dX11_isRest_95 ?_
            refine ev_ild2 dX11_isRest_96 ?_
            refine ev_ild3 dX11_isRest_97 ?_
            refine ev_ild4 dX11_isRest_98 ?_
            refine ev_iconst (v := 0) dX11_isRest_100 (by decide) ?_
            refine ev_V5i (M' := mX11_gain) dX11_isRest_101 lk_X11_212 vX11_gain rfl (m_gain0 d S hm h0 hT _ ha hb hab hg hh L) (Nat.le_refl _) (Nat.le_of_ble_eq_true rfl) ?_
            refine ev_icmp_gt 111 dX11_isRest_104 (by decide) (fun c_104 => ?_) (fun c_104 => ?_)
            · refine ev_iconst (v := 0) dX11_isRest_111 (by decide) ?_
              refine ev_ist5 dX11_isRest_112 ?_
              refine ev_inc6 dX11_isRest_114 (nI_inc _) ?_
              refine ev_goto 6 dX11_isRest_117 (by decide) ?_
              have e8 : (p_rest1 dk sb T a b g h) i = false := (if_pos b_31).trans ((if_pos (Int32.not_lt.mp c_55)).trans ((if_pos b_81).trans (if_neg (Int32.not_le.mpr c_104))))
              have e9 : allB (p_rest1 dk sb T a b g h) (i + 1) = false := by rw [allB_s, b_17, e8]; rfl
              have e := fun T9 => ih (i + 1) T9 (by omega)
              rw [e9] at e
              exact e _
            · refine ev_iconst (v := 1) dX11_isRest_107 (by decide) ?_
              refine ev_goto 112 dX11_isRest_108 (by decide) ?_
              refine ev_ist5 dX11_isRest_112 ?_
              refine ev_inc6 dX11_isRest_114 (nI_inc _) ?_
              refine ev_goto 6 dX11_isRest_117 (by decide) ?_
              have e8 : (p_rest1 dk sb T a b g h) i = true := (if_pos b_31).trans ((if_pos (Int32.not_lt.mp c_55)).trans ((if_pos b_81).trans (if_pos (Int32.not_lt.mp c_104))))
              have e9 : allB (p_rest1 dk sb T a b g h) (i + 1) = true := by rw [allB_s, b_17, e8]; rfl
              have e := fun T9 => ih (i + 1) T9 (by omega)
              rw [e9] at e
              exact e _
theorem rest_ng {dk sb : Nat → Int32} {T : Tb} {a b g h ng : Nat} (hz : ∀ d k, ng ≤ k → bt (sb d) k = false) : ∀ k, allB (p_rest1 dk sb T a b g h) (ng + k) = allB (p_rest1 dk sb T a b g h) ng
  | 0 => rfl
  | k + 1 => by
    have e : p_rest1 dk sb T a b g h (ng + k) = true := (if_neg (by rw [hz a _ (by omega)]; decide)).trans (if_neg (by rw [hz b _ (by omega)]; decide))
    show (allB (p_rest1 dk sb T a b g h) (ng + k) && p_rest1 dk sb T a b g h (ng + k)) = _
    rw [e, Bool.and_true]
    exact rest_ng hz k
set_option maxRecDepth 10000 in
theorem m_isRest (d : Nat) (S : gx_S) {ng nd : Nat} {ms gk dk sb : Nat → Int32} (hm : mH S ng nd ms gk dk sb) {T : Tb} (h0 : mT (S 49) 0 = T) (hT : okT ms T) (T0 : Tb) {a b g h : Nat} (ha : a < nd) (hb : b < nd) (hab : b ≠ a) (hg : g < ng) (hh : h < ng) (L : gx_L) : Ci (d + 3) mX11_isRest [.ref 44, .int (nI a), .int (nI b), .int (nI g), .int (nI h)] (nS S 1 T0) L (fun r S1 L1 => r = gx_b (allB (p_rest1 dk sb T a b g h) 5) ∧ (∃ T1, S1 = nS S 1 T1) ∧ L1 = L) := by
  refine ct_intro (loc := [some (.ref 44), some (.int (nI a)), some (.int (nI b)), some (.int (nI g)), some (.int (nI h)), none, none]) (by decide) (Nat.le_of_ble_eq_true rfl) rfl ?_
  refine ev_iconst (v := 1) dX11_isRest_0 (by decide) ?_
  refine ev_ist5 dX11_isRest_1 ?_
  refine ev_iconst (v := 0) dX11_isRest_3 (by decide) ?_
  refine ev_ist6 dX11_isRest_4 ?_
  refine ml_rest d S hm h0 hT ha hb hab hg hh L ?_ ng 0 T0 (Nat.zero_add _)
  intro T1
  have h59 := hm.2.1
  have e9 := rest_ng (dk := dk) (sb := sb) (T := T) (a := a) (b := b) (g := g) (h := h) (ng := ng) (fun d9 k hk => hm.2.2.2.2.2.2.2 d9 k (Or.inl hk)) (5 - ng)
  rw [show ng + (5 - ng) = 5 by omega] at e9
  rw [← e9]
  refine ev_ild5 dX11_isRest_120 ?_
  refine ev_zret dX11_isRest_122 (gx_b_nar _) ?_
  exact ⟨_, rfl, rfl, ⟨_, rfl⟩, rfl⟩
def q_st (dk sb : Nat → Int32) (T : Tb) (a b g h : Nat) (q : Int32 × Int32) : Int32 × Int32 := if bt (sb a) g = true then (if bt (sb b) h = true then (if allB (p_rest1 dk sb T a b g h) 5 = true then (q.1 + 1, if q.1 = 0 then 10 * nI g + nI h else q.2) else q) else q) else q
def q_rs (dk sb : Nat → Int32) (T : Tb) (a b ng : Nat) : Nat → Int32 × Int32
  | 0 => (0, -9)
  | k + 1 => q_st dk sb T a b (k / ng) (k % ng) (q_rs dk sb T a b ng k)
theorem rsH_s (dk sb : Nat → Int32) (T : Tb) (a b g : Nat) (q : Int32 × Int32) (n : Nat) : p_rsH dk sb T a b g q (n + 1) = q_st dk sb T a b g n (p_rsH dk sb T a b g q n) := rfl
theorem q_rs_row {dk sb : Nat → Int32} {T : Tb} {a b ng g : Nat} : ∀ h, h ≤ ng → q_rs dk sb T a b ng (g * ng + h) = p_rsH dk sb T a b g (q_rs dk sb T a b ng (g * ng)) h
  | 0, _ => rfl
  | h + 1, hh => by
    rw [rsH_s, ← q_rs_row h (by omega)]
    show q_st dk sb T a b ((g * ng + h) / ng) ((g * ng + h) % ng) _ = _
    have h0 : 0 < ng := by omega
    rw [show (g * ng + h) / ng = g by rw [Nat.mul_comm, Nat.mul_add_div h0, Nat.div_eq_of_lt (by omega), Nat.add_zero], show (g * ng + h) % ng = h by rw [Nat.mul_comm, Nat.mul_add_mod, Nat.mod_eq_of_lt (by omega)]]
    rfl
theorem rsH_ng {dk sb : Nat → Int32} {T : Tb} {a b g ng : Nat} {q : Int32 × Int32} (hz : ∀ d k, ng ≤ k → bt (sb d) k = false) : ∀ k, p_rsH dk sb T a b g q (ng + k) = p_rsH dk sb T a b g q ng
  | 0 => rfl
  | k + 1 => by
    show p_rsH dk sb T a b g q (ng + k + 1) = _
    rw [rsH_s]
    unfold q_st
    rw [show bt (sb b) (ng + k) = false from hz b _ (by omega), if_neg (show ¬ false = true by decide), ite_self]
    exact rsH_ng hz k
theorem rsH_no {dk sb : Nat → Int32} {T : Tb} {a b g : Nat} {q : Int32 × Int32} (hz : bt (sb a) g = false) : ∀ n, p_rsH dk sb T a b g q n = q
  | 0 => rfl
  | n + 1 => by
    rw [rsH_s]
    unfold q_st
    rw [hz, if_neg (by decide)]
    exact rsH_no hz n
theorem rs_all {dk sb : Nat → Int32} {T : Tb} {a b ng : Nat} (h5 : ng ≤ 5) (hz : ∀ d k, ng ≤ k → bt (sb d) k = false) : q_rs dk sb T a b ng (ng * ng) = p_rsG dk sb T a b 5 := by
  have h1 : ∀ n, n ≤ ng → q_rs dk sb T a b ng (n * ng) = p_rsG dk sb T a b n := by
    intro n
    induction n with
    | zero => intro _; rw [Nat.zero_mul]; rfl
    | succ n ih =>
      intro hn
      have e := q_rs_row (dk := dk) (sb := sb) (T := T) (a := a) (b := b) (g := n) ng (Nat.le_refl ng)
      rw [Nat.succ_mul, e, ih (by omega)]
      have e2 := rsH_ng (dk := dk) (sb := sb) (T := T) (a := a) (b := b) (g := n) (q := p_rsG dk sb T a b n) hz (5 - ng)
      rw [show ng + (5 - ng) = 5 by omega] at e2
      rw [← e2]
      rfl
  have h2 : ∀ k, p_rsG dk sb T a b (ng + k) = p_rsG dk sb T a b ng := by
    intro k
    induction k with
    | zero => rfl
    | succ k ih =>
      show p_rsH dk sb T a b (ng + k) (p_rsG dk sb T a b (ng + k)) 5 = _
      rw [rsH_no (hz a _ (by omega))]
      exact ih
  have e := h2 (5 - ng)
  rw [show ng + (5 - ng) = 5 by omega] at e
  rw [h1 ng (Nat.le_refl ng), e]
set_option maxRecDepth 10000 in
theorem ml_rests (d : Nat) (S : gx_S) {ng nd : Nat} {ms gk dk sb : Nat → Int32} (hm : mH S ng nd ms gk dk sb) {T : Tb} (h0 : mT (S 49) 0 = T) (hT : okT ms T) {a b : Nat} (ha : a < nd) (hb : b < nd) (hab : b ≠ a) (w : Int32) (L : gx_L) {Q : Option Value → gx_S → gx_L → Prop} (kk : ∀ (T0 : Tb) (z7 z8 : Option Value), Ev mX11_rests (d + 4) 169 [some (.ref 44), some (.int (nI a)), some (.int (nI b)), some (.int w), some (.int (q_rs dk sb T a b ng (ng * ng)).1), some (.int (q_rs dk sb T a b ng (ng * ng)).2), some (.int (nI (ng * ng))), z7, z8] [] (nS S 1 T0) L Q) : ∀ (nn i : Nat) (T0 : Tb) (z7 z8 : Option Value), i + nn = ng * ng → Ev mX11_rests (d + 4) 67 [some (.ref 44), some (.int (nI a)), some (.int (nI b)), some (.int w), some (.int (q_rs dk sb T a b ng (i)).1), some (.int (q_rs dk sb T a b ng (i)).2), some (.int (nI (i))), z7, z8] [] (nS S 1 T0) L Q := by
  intro nn
  induction nn with
  | zero =>
    intro i T0 z7 z8 hi
    obtain rfl : i = ng * ng := hi
    have h59 := hm.2.1
    have h25 : ng * ng ≤ 5 * 5 := Nat.mul_le_mul h59 h59
    refine ev_ild6 dX11_rests_67 ?_
    refine ev_ald0 dX11_rests_69 ?_
    refine ev_geti dX11_rests_70 fl_X11_56 rfl ?_
    refine ev_ald0 dX11_rests_73 ?_
    refine ev_geti dX11_rests_74 fl_X11_56 rfl ?_
    refine ev_imul dX11_rests_77 ?_
    refine ev_icmp_ge_t 169 dX11_rests_78 (by decide) (by rw [nS_o S 1 _ (by decide), hm.1, nI_mul]; exact nI_le (Nat.le_refl _) (by omega)) ?_
    exact kk T0 z7 z8
  | succ nn ih =>
    intro i T0 z7 z8 hi
    have h59 := hm.2.1
    have h49 := hm.2.2.2.1
    have h25 : ng * ng ≤ 5 * 5 := Nat.mul_le_mul h59 h59
    have hda := hm.2.2.2.2.2.1 a ha
    have hdb := hm.2.2.2.2.2.1 b hb
    have hp : 0 < ng := by
      rcases Nat.eq_zero_or_pos ng with h | h
      · subst h; omega
      · exact h
    have hd1 : i / ng < ng := Nat.div_lt_of_lt_mul (by omega)
    have hd2 : i % ng < ng := Nat.mod_lt _ hp
    refine ev_ild6 dX11_rests_67 ?_
    refine ev_ald0 dX11_rests_69 ?_
    refine ev_geti dX11_rests_70 fl_X11_56 rfl ?_
    refine ev_ald0 dX11_rests_73 ?_
    refine ev_geti dX11_rests_74 fl_X11_56 rfl ?_
    refine ev_imul dX11_rests_77 ?_
    refine ev_icmp_ge_f 169 dX11_rests_78 (by decide) (by rw [nS_o S 1 _ (by decide), hm.1, nI_mul]; exact nI_ge (by omega) (by omega)) ?_
    refine ev_ild6 dX11_rests_81 ?_
    refine ev_ald0 dX11_rests_83 ?_
    refine ev_geti dX11_rests_84 fl_X11_56 rfl ?_
    rw [nS_o S 1 _ (by decide), hm.1]
    refine ev_idiv dX11_rests_87 (nI_ne0' hp (by omega)) ?_
    rw [nI_div (by omega) (by omega)]
    refine ev_ist7 dX11_rests_88 ?_
    refine ev_ild6 dX11_rests_90 ?_
    refine ev_ald0 dX11_rests_92 ?_
    refine ev_geti dX11_rests_93 fl_X11_56 rfl ?_
    rw [nS_o S 1 _ (by decide), hm.1]
    refine ev_irem dX11_rests_96 (nI_ne0' hp (by omega)) ?_
    rw [nI_rem (by omega) (by omega)]
    refine ev_ist8 dX11_rests_97 ?_
    refine ev_ald0 dX11_rests_99 ?_
    refine ev_getr (r := 48) dX11_rests_100 fl_X11_19 rfl ?_
    refine ev_ild1 dX11_rests_103 ?_
    refine ev_iald' dX11_rests_104 rfl (by omega) (by decide) ?_
    rw [nS_o S 1 _ (by decide), hda.2]
    refine ev_ild7 dX11_rests_105 ?_
    refine ev_S2i (M' := mX11_has) dX11_rests_107 lk_X11_77 sX11_has (m_has (d + 3) _ _ _ _) (Nat.le_refl _) (Nat.le_of_ble_eq_true rfl) ?_
    refine ev_if_eq 163 dX11_rests_110 (by decide) (fun c_110 => ?_) (fun c_110 => ?_)
    · have b_110 := gx_b_n.mp c_110
      refine ev_inc6 dX11_rests_163 (nI_inc _) ?_
      refine ev_goto 67 dX11_rests_166 (by decide) ?_
      have e8 : (q_rs dk sb T a b ng (i + 1)) = (q_rs dk sb T a b ng (i)) := if_neg b_110
      have e := fun T9 z7 z8 => ih (i + 1) T9 z7 z8 (by omega)
      rw [e8] at e
      exact e _ _ _
    · have b_110 := gx_b_y.mp c_110
      refine ev_ald0 dX11_rests_113 ?_
      refine ev_getr (r := 48) dX11_rests_114 fl_X11_19 rfl ?_
      refine ev_ild2 dX11_rests_117 ?_
      refine ev_iald' dX11_rests_118 rfl (by omega) (by decide) ?_
      rw [nS_o S 1 _ (by decide), hdb.2]
      refine ev_ild8 dX11_rests_119 ?_
      refine ev_S2i (M' := mX11_has) dX11_rests_121 lk_X11_77 sX11_has (m_has (d + 3) _ _ _ _) (Nat.le_refl _) (Nat.le_of_ble_eq_true rfl) ?_
      refine ev_if_eq 163 dX11_rests_124 (by decide) (fun c_124 => ?_) (fun c_124 => ?_)
      · have b_124 := gx_b_n.mp c_124
        refine ev_inc6 dX11_rests_163 (nI_inc _) ?_
        refine ev_goto 67 dX11_rests_166 (by decide) ?_
        have e8 : (q_rs dk sb T a b ng (i + 1)) = (q_rs dk sb T a b ng (i)) := (if_pos b_110).trans (if_neg b_124)
        have e := fun T9 z7 z8 => ih (i + 1) T9 z7 z8 (by omega)
        rw [e8] at e
        exact e _ _ _
      · have b_124 := gx_b_y.mp c_124
        refine ev_ald0 dX11_rests_127 ?_
        refine ev_ild1 dX11_rests_128 ?_
        refine ev_ild2 dX11_rests_129 ?_
        refine ev_ild7 dX11_rests_130 ?_
        refine ev_ild8 dX11_rests_132 ?_
        refine ev_V4iq (M' := mX11_isRest) dX11_rests_134 lk_X11_216 vX11_isRest rfl (m_isRest d S hm h0 hT T0 ha hb hab hd1 hd2 L) (Nat.le_refl _) (Nat.le_of_ble_eq_true rfl) (fun r9 S9 L9 h9 => ?_)
        obtain ⟨rfl, ⟨T1, rfl⟩, rfl⟩ := h9
        refine ev_if_eq 163 dX11_rests_137 (by decide) (fun c_137 => ?_) (fun c_137 => ?_)
        · have b_137 := gx_b_n.mp c_137
          refine ev_inc6 dX11_rests_163 (nI_inc _) ?_
          refine ev_goto 67 dX11_rests_166 (by decide) ?_
          have e8 : (q_rs dk sb T a b ng (i + 1)) = (q_rs dk sb T a b ng (i)) := (if_pos b_110).trans ((if_pos b_124).trans (if_neg b_137))
          have e := fun T9 z7 z8 => ih (i + 1) T9 z7 z8 (by omega)
          rw [e8] at e
          exact e _ _ _
        · have b_137 := gx_b_y.mp c_137
          refine ev_ild4 dX11_rests_140 ?_
          refine ev_if_ne 156 dX11_rests_142 (by decide) (fun c_142 => ?_) (fun c_142 => ?_)
          · refine ev_ild5 dX11_rests_156 ?_
            refine ev_ist5 dX11_rests_158 ?_
            refine ev_inc4 dX11_rests_160 rfl ?_
            refine ev_inc6 dX11_rests_163 (nI_inc _) ?_
            refine ev_goto 67 dX11_rests_166 (by decide) ?_
            have e8 : (q_rs dk sb T a b ng (i + 1)) = ((q_rs dk sb T a b ng (i)).1 + 1, if (q_rs dk sb T a b ng (i)).1 = 0 then 10 * nI (i / ng) + nI (i % ng) else (q_rs dk sb T a b ng (i)).2) := (if_pos b_110).trans ((if_pos b_124).trans (if_pos b_137))
            have e := fun T9 z7 z8 => ih (i + 1) T9 z7 z8 (by omega)
            rw [e8, if_neg c_142] at e
            exact e _ _ _
          · refine ev_bipush (v := 10) dX11_rests_145 (by decide) ?_
            refine ev_ild7 dX11_rests_147 ?_
            refine ev_imul dX11_rests_149 ?_
            refine ev_ild8 dX11_rests_150 ?_
            refine ev_iadd dX11_rests_152 ?_
            refine ev_goto 158 dX11_rests_153 (by decide) ?_
            refine ev_ist5 dX11_rests_158 ?_
            refine ev_inc4 dX11_rests_160 rfl ?_
            refine ev_inc6 dX11_rests_163 (nI_inc _) ?_
            refine ev_goto 67 dX11_rests_166 (by decide) ?_
            have e8 : (q_rs dk sb T a b ng (i + 1)) = ((q_rs dk sb T a b ng (i)).1 + 1, if (q_rs dk sb T a b ng (i)).1 = 0 then 10 * nI (i / ng) + nI (i % ng) else (q_rs dk sb T a b ng (i)).2) := (if_pos b_110).trans ((if_pos b_124).trans (if_pos b_137))
            have e := fun T9 z7 z8 => ih (i + 1) T9 z7 z8 (by omega)
            rw [e8, if_pos c_142] at e
            exact e _ _ _
set_option maxRecDepth 10000 in
theorem m_rests (d : Nat) (S : gx_S) {ng nd : Nat} {ms gk dk sb : Nat → Int32} (hm : mH S ng nd ms gk dk sb) {T : Tb} (h0 : mT (S 49) 0 = T) (hT : okT ms T) {a b : Nat} (ha : a < nd) (hb : b < nd) (hab : b ≠ a) {w : Int32} (hw : ¬ w < 0 ∧ ¬ 1 < w) (s0 : ¬ sb a = 0) (s1 : ¬ sb b = 0) (L : gx_L) : Ci (d + 4) mX11_rests [.ref 44, .int (nI a), .int (nI b), .int w] S L (fun r S1 L1 => r = (if w = 0 then (p_rsG dk sb T a b 5).1 else (p_rsG dk sb T a b 5).2) ∧ (∃ T1, S1 = nS S 1 T1) ∧ L1 = L) := by
  refine ct_intro (loc := [some (.ref 44), some (.int (nI a)), some (.int (nI b)), some (.int w), none, none, none, none, none]) (by decide) (Nat.le_of_ble_eq_true rfl) rfl ?_
  have h49 := hm.2.2.2.1
  have hda := hm.2.2.2.2.2.1 a ha
  have hdb := hm.2.2.2.2.2.1 b hb
  refine ev_ald0 dX11_rests_0 ?_
  refine ev_ild1 dX11_rests_1 ?_
  refine ev_V1i (M' := mX11_isDrinker) dX11_rests_2 lk_X11_133 vX11_isDrinker rfl (m_isDrinker (d + 2) S hm.2.2.1 (by have := hm.2.2.2.1; omega) _ L) (Nat.le_refl _) (Nat.le_of_ble_eq_true rfl) ?_
  refine ev_if_eq_f 16 dX11_rests_5 (by decide) (gb_t (isG_in (by omega) ha)) ?_
  refine ev_ald0 dX11_rests_8 ?_
  refine ev_ild2 dX11_rests_9 ?_
  refine ev_V1i (M' := mX11_isDrinker) dX11_rests_10 lk_X11_133 vX11_isDrinker rfl (m_isDrinker (d + 2) S hm.2.2.1 (by have := hm.2.2.2.1; omega) _ L) (Nat.le_refl _) (Nat.le_of_ble_eq_true rfl) ?_
  refine ev_if_ne_t 18 dX11_rests_13 (by decide) (gb_t (isG_in (by omega) hb)) ?_
  refine ev_ild1 dX11_rests_18 ?_
  refine ev_ild2 dX11_rests_19 ?_
  refine ev_icmp_eq_f 33 dX11_rests_20 (by decide) (fun h9 => hab ((nI_eq (by omega) (by omega)).mp h9).symm) ?_
  refine ev_ild3 dX11_rests_23 ?_
  refine ev_i2l dX11_rests_24 ?_
  refine ev_lconst (v := 0) dX11_rests_25 (by decide) ?_
  refine ev_lconst (v := 1) dX11_rests_26 (by decide) ?_
  refine ev_S3i (M' := mX11_in) dX11_rests_27 lk_X11_62 sX11_in (m_in (d + 3) _ _ _ _ _) (Nat.le_refl _) (Nat.le_of_ble_eq_true rfl) ?_
  refine ev_if_ne_t 36 dX11_rests_30 (by decide) (gb_t ((in01 w).trans (decide_eq_true hw))) ?_
  refine ev_ald0 dX11_rests_36 ?_
  refine ev_getr (r := 48) dX11_rests_37 fl_X11_19 rfl ?_
  refine ev_ild1 dX11_rests_40 ?_
  refine ev_iald' dX11_rests_41 rfl (by omega) (by decide) ?_
  rw [hda.2]
  refine ev_if_eq_f 54 dX11_rests_42 (by decide) s0 ?_
  refine ev_ald0 dX11_rests_45 ?_
  refine ev_getr (r := 48) dX11_rests_46 fl_X11_19 rfl ?_
  refine ev_ild2 dX11_rests_49 ?_
  refine ev_iald' dX11_rests_50 rfl (by omega) (by decide) ?_
  rw [hdb.2]
  refine ev_if_ne_t 57 dX11_rests_51 (by decide) s1 ?_
  refine ev_iconst (v := 0) dX11_rests_57 (by decide) ?_
  refine ev_ist4 dX11_rests_58 ?_
  refine ev_bipush (v := (-9)) dX11_rests_60 (by decide) ?_
  refine ev_ist5 dX11_rests_62 ?_
  refine ev_iconst (v := 0) dX11_rests_64 (by decide) ?_
  refine ev_ist6 dX11_rests_65 ?_
  have l9 := ml_rests d S hm h0 hT ha hb hab w L (Q := fun v S1 L1 => ∃ r : Int32, v = some (.int r) ∧ r = (if w = 0 then (p_rsG dk sb T a b 5).1 else (p_rsG dk sb T a b 5).2) ∧ (∃ T1, S1 = nS S 1 T1) ∧ L1 = L) ?_ (ng * ng) 0 (mT (S 49) 1) none none (Nat.zero_add _)
  · rw [nS_mT] at l9
    exact l9
  · intro T1 z7 z8
    refine ev_ild3 dX11_rests_169 ?_
    refine ev_if_ne 178 dX11_rests_170 (by decide) (fun c_170 => ?_) (fun c_170 => ?_)
    · refine ev_ild5 dX11_rests_178 ?_
      refine ev_iret dX11_rests_180 ?_
      exact ⟨_, rfl, by rw [← rs_all hm.2.1 (fun d9 k hk => hm.2.2.2.2.2.2.2 d9 k (Or.inl hk))]; exact (if_neg c_170).symm, ⟨_, rfl⟩, rfl⟩
    · refine ev_ild4 dX11_rests_173 ?_
      refine ev_goto 180 dX11_rests_175 (by decide) ?_
      refine ev_iret dX11_rests_180 ?_
      exact ⟨_, rfl, by rw [← rs_all hm.2.1 (fun d9 k hk => hm.2.2.2.2.2.2.2 d9 k (Or.inl hk))]; exact (if_pos c_170).symm, ⟨_, rfl⟩, rfl⟩
set_option maxRecDepth 10000 in
theorem m_rests0 (d : Nat) (S : gx_S) {ng nd : Nat} {ms gk dk sb : Nat → Int32} (hm : mH S ng nd ms gk dk sb) {x y w : Int32} (hb : isG (nI nd) x = false ∨ isG (nI nd) y = false) (L : gx_L) : Cf (d + 2) mX11_rests [.ref 44, .int x, .int y, .int w] S L (-1) S L := by
  refine ct_intro (loc := [some (.ref 44), some (.int x), some (.int y), some (.int w), none, none, none, none, none]) (by decide) (Nat.le_of_ble_eq_true rfl) rfl ?_
  refine ev_ald0 dX11_rests_0 ?_
  refine ev_ild1 dX11_rests_1 ?_
  refine ev_V1i (M' := mX11_isDrinker) dX11_rests_2 lk_X11_133 vX11_isDrinker rfl (m_isDrinker d S hm.2.2.1 (by have := hm.2.2.2.1; omega) _ L) (Nat.le_refl _) (Nat.le_of_ble_eq_true rfl) ?_
  refine ev_if_eq 16 dX11_rests_5 (by decide) (fun c_5 => ?_) (fun c_5 => ?_)
  · have b_5 := gx_b_n.mp c_5
    refine ev_iconst (v := (-1)) dX11_rests_16 (by decide) ?_
    refine ev_iret dX11_rests_17 ?_
    exact ⟨_, rfl, rfl, rfl, rfl⟩
  · have b_5 := gx_b_y.mp c_5
    refine ev_ald0 dX11_rests_8 ?_
    refine ev_ild2 dX11_rests_9 ?_
    refine ev_V1i (M' := mX11_isDrinker) dX11_rests_10 lk_X11_133 vX11_isDrinker rfl (m_isDrinker d S hm.2.2.1 (by have := hm.2.2.2.1; omega) _ L) (Nat.le_refl _) (Nat.le_of_ble_eq_true rfl) ?_
    refine ev_if_ne 18 dX11_rests_13 (by decide) (fun c_13 => ?_) (fun c_13 => ?_)
    · have b_13 := gx_b_y.mp c_13
      exact absurd hb (fun h9 => h9.elim (fun h9 => by rw [h9] at b_5; cases b_5) (fun h9 => by rw [h9] at b_13; cases b_13))
    · have b_13 := gx_b_n.mp c_13
      refine ev_iconst (v := (-1)) dX11_rests_16 (by decide) ?_
      refine ev_iret dX11_rests_17 ?_
      exact ⟨_, rfl, rfl, rfl, rfl⟩
set_option maxRecDepth 10000 in
theorem m_rests1 (d : Nat) (S : gx_S) {ng nd : Nat} {ms gk dk sb : Nat → Int32} (hm : mH S ng nd ms gk dk sb) {x y w : Int32} (hx : isG (nI nd) x = true) (hy : isG (nI nd) y = true) (hb : x = y ∨ w < 0 ∨ 1 < w) (L : gx_L) : Cf (d + 2) mX11_rests [.ref 44, .int x, .int y, .int w] S L (-2) S L := by
  refine ct_intro (loc := [some (.ref 44), some (.int x), some (.int y), some (.int w), none, none, none, none, none]) (by decide) (Nat.le_of_ble_eq_true rfl) rfl ?_
  refine ev_ald0 dX11_rests_0 ?_
  refine ev_ild1 dX11_rests_1 ?_
  refine ev_V1i (M' := mX11_isDrinker) dX11_rests_2 lk_X11_133 vX11_isDrinker rfl (m_isDrinker d S hm.2.2.1 (by have := hm.2.2.2.1; omega) _ L) (Nat.le_refl _) (Nat.le_of_ble_eq_true rfl) ?_
  refine ev_if_eq_f 16 dX11_rests_5 (by decide) (gb_t hx) ?_
  refine ev_ald0 dX11_rests_8 ?_
  refine ev_ild2 dX11_rests_9 ?_
  refine ev_V1i (M' := mX11_isDrinker) dX11_rests_10 lk_X11_133 vX11_isDrinker rfl (m_isDrinker d S hm.2.2.1 (by have := hm.2.2.2.1; omega) _ L) (Nat.le_refl _) (Nat.le_of_ble_eq_true rfl) ?_
  refine ev_if_ne_t 18 dX11_rests_13 (by decide) (gb_t hy) ?_
  refine ev_ild1 dX11_rests_18 ?_
  refine ev_ild2 dX11_rests_19 ?_
  refine ev_icmp_eq 33 dX11_rests_20 (by decide) (fun c_20 => ?_) (fun c_20 => ?_)
  · refine ev_bipush (v := (-2)) dX11_rests_33 (by decide) ?_
    refine ev_iret dX11_rests_35 ?_
    exact ⟨_, rfl, rfl, rfl, rfl⟩
  · refine ev_ild3 dX11_rests_23 ?_
    refine ev_i2l dX11_rests_24 ?_
    refine ev_lconst (v := 0) dX11_rests_25 (by decide) ?_
    refine ev_lconst (v := 1) dX11_rests_26 (by decide) ?_
    refine ev_S3i (M' := mX11_in) dX11_rests_27 lk_X11_62 sX11_in (m_in (d + 1) _ _ _ _ _) (Nat.le_refl _) (Nat.le_of_ble_eq_true rfl) ?_
    refine ev_if_ne 36 dX11_rests_30 (by decide) (fun c_30 => ?_) (fun c_30 => ?_)
    · have b_30 := gx_b_y.mp c_30
      have h1 := of_decide_eq_true ((in01 w).symm.trans b_30)
      exact absurd hb (fun h9 => h9.elim c_20 (fun h9 => h9.elim h1.1 h1.2))
    · have b_30 := gx_b_n.mp c_30
      refine ev_bipush (v := (-2)) dX11_rests_33 (by decide) ?_
      refine ev_iret dX11_rests_35 ?_
      exact ⟨_, rfl, rfl, rfl, rfl⟩
set_option maxRecDepth 10000 in
theorem m_rests2 (d : Nat) (S : gx_S) {ng nd : Nat} {ms gk dk sb : Nat → Int32} (hm : mH S ng nd ms gk dk sb) {a b : Nat} (ha : a < nd) (hb : b < nd) (hab : b ≠ a) {w : Int32} (hw : ¬ w < 0 ∧ ¬ 1 < w) (hs : sb a = 0 ∨ sb b = 0) (L : gx_L) : Cf (d + 2) mX11_rests [.ref 44, .int (nI a), .int (nI b), .int w] S L (-9) S L := by
  refine ct_intro (loc := [some (.ref 44), some (.int (nI a)), some (.int (nI b)), some (.int w), none, none, none, none, none]) (by decide) (Nat.le_of_ble_eq_true rfl) rfl ?_
  have h49 := hm.2.2.2.1
  have hda := hm.2.2.2.2.2.1 a ha
  have hdb := hm.2.2.2.2.2.1 b hb
  refine ev_ald0 dX11_rests_0 ?_
  refine ev_ild1 dX11_rests_1 ?_
  refine ev_V1i (M' := mX11_isDrinker) dX11_rests_2 lk_X11_133 vX11_isDrinker rfl (m_isDrinker d S hm.2.2.1 (by have := hm.2.2.2.1; omega) _ L) (Nat.le_refl _) (Nat.le_of_ble_eq_true rfl) ?_
  refine ev_if_eq_f 16 dX11_rests_5 (by decide) (gb_t (isG_in (by omega) ha)) ?_
  refine ev_ald0 dX11_rests_8 ?_
  refine ev_ild2 dX11_rests_9 ?_
  refine ev_V1i (M' := mX11_isDrinker) dX11_rests_10 lk_X11_133 vX11_isDrinker rfl (m_isDrinker d S hm.2.2.1 (by have := hm.2.2.2.1; omega) _ L) (Nat.le_refl _) (Nat.le_of_ble_eq_true rfl) ?_
  refine ev_if_ne_t 18 dX11_rests_13 (by decide) (gb_t (isG_in (by omega) hb)) ?_
  refine ev_ild1 dX11_rests_18 ?_
  refine ev_ild2 dX11_rests_19 ?_
  refine ev_icmp_eq_f 33 dX11_rests_20 (by decide) (fun h9 => hab ((nI_eq (by omega) (by omega)).mp h9).symm) ?_
  refine ev_ild3 dX11_rests_23 ?_
  refine ev_i2l dX11_rests_24 ?_
  refine ev_lconst (v := 0) dX11_rests_25 (by decide) ?_
  refine ev_lconst (v := 1) dX11_rests_26 (by decide) ?_
  refine ev_S3i (M' := mX11_in) dX11_rests_27 lk_X11_62 sX11_in (m_in (d + 1) _ _ _ _ _) (Nat.le_refl _) (Nat.le_of_ble_eq_true rfl) ?_
  refine ev_if_ne_t 36 dX11_rests_30 (by decide) (gb_t ((in01 w).trans (decide_eq_true hw))) ?_
  refine ev_ald0 dX11_rests_36 ?_
  refine ev_getr (r := 48) dX11_rests_37 fl_X11_19 rfl ?_
  refine ev_ild1 dX11_rests_40 ?_
  refine ev_iald' dX11_rests_41 rfl (by omega) (by decide) ?_
  rw [hda.2]
  refine ev_if_eq 54 dX11_rests_42 (by decide) (fun c_42 => ?_) (fun c_42 => ?_)
  · refine ev_bipush (v := (-9)) dX11_rests_54 (by decide) ?_
    refine ev_iret dX11_rests_56 ?_
    exact ⟨_, rfl, rfl, rfl, rfl⟩
  · refine ev_ald0 dX11_rests_45 ?_
    refine ev_getr (r := 48) dX11_rests_46 fl_X11_19 rfl ?_
    refine ev_ild2 dX11_rests_49 ?_
    refine ev_iald' dX11_rests_50 rfl (by omega) (by decide) ?_
    rw [hdb.2]
    refine ev_if_ne 57 dX11_rests_51 (by decide) (fun c_51 => ?_) (fun c_51 => ?_)
    · exact absurd hs (fun h9 => h9.elim c_42 c_51)
    · refine ev_bipush (v := (-9)) dX11_rests_54 (by decide) ?_
      refine ev_iret dX11_rests_56 ?_
      exact ⟨_, rfl, rfl, rfl, rfl⟩
