theorem okT_drink {ms dk sb : Nat → Int32} {T : Tb} {ng nd : Nat} (h5 : ng ≤ 5) (h4 : nd ≤ 4) (h : okT ms T) (x g : Int32) : okT ms (p_drink (nI ng) (nI nd) dk sb T x g).2 := by
  unfold p_drink
  split
  · rename_i hx
    split
    · rename_i hg
      split
      · obtain ⟨i, hi, rfl, ei⟩ := isG_of (by omega) hx
        obtain ⟨j, hj, rfl, ej⟩ := isG_of (by omega) hg
        rw [ei, ej]
        exact okT_sw h (by omega) (by omega)
      · exact h
    · exact h
  · exact h
theorem zD_drink {dk sb : Nat → Int32} {T : Tb} {ng nd : Nat} (h4 : nd ≤ 4) (h : zD nd T) (x g : Int32) : zD nd (p_drink (nI ng) (nI nd) dk sb T x g).2 := by
  unfold p_drink
  split
  · rename_i hx
    split
    · split
      · obtain ⟨i, hi, rfl, ei⟩ := isG_of (by omega) hx
        rw [ei]
        exact zD_sw h hi
      · exact h
    · exact h
  · exact h
theorem okT_chance {ms gk dk sb : Nat → Int32} {T : Tb} {ng nd : Nat} (h5 : ng ≤ 5) (h4 : nd ≤ 4) (h : okT ms T) (k : Nat) : okT ms (p_chance (nI ng) (nI nd) gk dk sb T k) := by
  unfold p_chance
  split
  · exact okT_drink h5 h4 h _ _
  · exact okT_hour h
theorem okT_nT {ms gk dk sb : Nat → Int32} {T : Tb} {ng nd : Nat} (h5 : ng ≤ 5) (h4 : nd ≤ 4) (h : okT ms T) (s : Int64) : ∀ n, okT ms (p_nT (nI ng) (nI nd) gk dk sb T s n)
  | 0 => h
  | n + 1 => okT_chance h5 h4 (okT_nT h5 h4 h s n) _
set_option maxRecDepth 10000 in
theorem ml_nights (d : Nat) (S : gx_S) {ng nd : Nat} {ms gk dk sb : Nat → Int32} (hm : mH S ng nd ms gk dk sb) (T : Tb) (hT : okT ms T) {k : Nat} (hk : k ≤ 30) (L : gx_L) {Q : Option Value → gx_S → gx_L → Prop} (kk : ∀ (z : Option Value), Ev mX11_nights (d + 3) 142 [some (.ref 44), some (.int (nI k)), some (.int (p_nS (nI ng) (nI nd) ms gk dk sb T (L 44) (k))), some (.int (nI (k))), z] [] (nS S 1 (p_nT (nI ng) (nI nd) gk dk sb T (L 44) (k))) (gx_uL L 44 (p_sd (L 44) (k))) Q) : ∀ (nn i : Nat) (z : Option Value), i + nn = k → Ev mX11_nights (d + 3) 23 [some (.ref 44), some (.int (nI k)), some (.int (p_nS (nI ng) (nI nd) ms gk dk sb T (L 44) (i))), some (.int (nI (i))), z] [] (nS S 1 (p_nT (nI ng) (nI nd) gk dk sb T (L 44) (i))) (gx_uL L 44 (p_sd (L 44) (i))) Q := by
  intro nn
  induction nn with
  | zero =>
    intro i z hi
    obtain rfl : i = k := hi
    refine ev_ild3 dX11_nights_23 ?_
    refine ev_ild1 dX11_nights_24 ?_
    refine ev_icmp_ge_t 142 dX11_nights_25 (by decide) (nI_le (Nat.le_refl _) (by omega)) ?_
    exact kk z
  | succ nn ih =>
    intro i z hi
    have h59 := hm.2.1
    have h49 := hm.2.2.2.1
    have k128 : ∀ v9 : Int32, Ev mX11_nights (d + 3) 128 [some (.ref 44), some (.int (nI k)), some (.int (p_nS (nI ng) (nI nd) ms gk dk sb T (L 44) (i))), some (.int (nI i)), some (.int v9)] [] (nS S 1 (p_nT (nI ng) (nI nd) gk dk sb T (L 44) (i + 1))) (gx_uL L 44 (p_sd (L 44) (i + 1))) Q := by
      intro v9
      refine ev_ild2 dX11_nights_128 ?_
      refine ev_ald0 dX11_nights_129 ?_
      refine ev_iconst (v := 1) dX11_nights_130 (by decide) ?_
      refine ev_V1i (M' := mX11_taxes) dX11_nights_131 lk_X11_161 vX11_taxes rfl (m_taxes (d + 1) S hm (lv := 1) (by decide) _ (okT_nT h59 h49 hT _ (i + 1)) _) (Nat.le_refl _) (Nat.le_of_ble_eq_true rfl) ?_
      refine ev_iadd dX11_nights_134 ?_
      refine ev_ist2 dX11_nights_135 ?_
      refine ev_inc3 dX11_nights_136 (nI_inc _) ?_
      refine ev_goto 23 dX11_nights_139 (by decide) ?_
      exact ih (i + 1) _ (by omega)
    obtain ⟨v, hv⟩ : ∃ v, v = lot (p_sd (L 44) (i + 1)) := ⟨_, rfl⟩
    have hv4 : v < 24 := hv ▸ lot_lt _
    have eT : (p_nT (nI ng) (nI nd) gk dk sb T (L 44) (i + 1)) = p_chance (nI ng) (nI nd) gk dk sb (p_nT (nI ng) (nI nd) gk dk sb T (L 44) (i)) v := by rw [hv]; rfl
    rw [eT] at k128
    refine ev_ild3 dX11_nights_23 ?_
    refine ev_ild1 dX11_nights_24 ?_
    refine ev_icmp_ge_f 142 dX11_nights_25 (by decide) (nI_ge (by omega) (by omega)) ?_
    refine ev_ald0 dX11_nights_28 ?_
    refine ev_ald0 dX11_nights_29 ?_
    refine ev_getl dX11_nights_30 fl_X11_224 rfl ?_
    rw [gx_uL_at]
    refine ev_ldc2 dX11_nights_33 kc_X11_230 ?_
    refine ev_lmul dX11_nights_36 ?_
    refine ev_ldc2 dX11_nights_37 kc_X11_232 ?_
    refine ev_ladd dX11_nights_40 ?_
    refine ev_putl hone44 dX11_nights_41 fp_X11_224 rfl ?_
    rw [uL_uL]
    refine ev_ald0 dX11_nights_44 ?_
    refine ev_getl dX11_nights_45 fl_X11_224 rfl ?_
    rw [gx_uL_at]
    refine ev_bipush (v := 33) dX11_nights_48 (by decide) ?_
    refine ev_lushr dX11_nights_50 ?_
    refine ev_ldc2 dX11_nights_51 kc_X11_234 ?_
    refine ev_lrem dX11_nights_54 (by decide) ?_
    refine ev_l2i dX11_nights_55 ?_
    refine ev_stk (st' := [.int (lotI (p_sd (L 44) (i + 1)))]) rfl ?_
    rw [lot_eq, ← hv]
    refine ev_ist4 dX11_nights_56 ?_
    refine ev_ild4 dX11_nights_58 ?_
    refine ev_bipush (v := 19) dX11_nights_60 (by decide) ?_
    refine ev_icmp_le 73 dX11_nights_62 (by decide) (fun c_62 => ?_) (fun c_62 => ?_)
    · have hv20 : v < 20 := by
        rcases Nat.lt_or_ge v 20 with h | h
        · exact h
        · exact absurd c_62 (Int32.not_le.mpr (nI_lt (a := 19) (by omega) (by omega)))
      have ei : (nI (v / 5)).toNatClampNeg = v / 5 := nI_clamp (by omega)
      have ej : (nI (v % 5)).toNatClampNeg = v % 5 := nI_clamp (by omega)
      refine ev_ald0 dX11_nights_73 ?_
      refine ev_ild4 dX11_nights_74 ?_
      refine ev_iconst (v := 5) dX11_nights_76 (by decide) ?_
      refine ev_idiv dX11_nights_77 (by decide) ?_
      rw [show nI v / 5 = nI (v / 5) from nI_div (b := 5) (by omega) (by decide)]
      refine ev_V1i (M' := mX11_isDrinker) dX11_nights_78 lk_X11_133 vX11_isDrinker rfl (m_isDrinker (d + 1) _ (mH_nS hm 1 _).2.2.1 (by omega) _ _) (Nat.le_refl _) (Nat.le_of_ble_eq_true rfl) ?_
      refine ev_if_eq 128 dX11_nights_81 (by decide) (fun c_81 => ?_) (fun c_81 => ?_)
      · have b_81 := gx_b_n.mp c_81
        have e9 : p_drink (nI ng) (nI nd) dk sb (p_nT (nI ng) (nI nd) gk dk sb T (L 44) (i)) (nI (v / 5)) (nI (v % 5)) = _ := if_neg b_81
        rw [show p_chance (nI ng) (nI nd) gk dk sb (p_nT (nI ng) (nI nd) gk dk sb T (L 44) (i)) v = _ from if_pos hv20, e9] at k128
        exact k128 _
      · have b_81 := gx_b_y.mp c_81
        have hvd : v / 5 < nd := by
          obtain ⟨i9, hi9, e91, -⟩ := isG_of (by omega) b_81
          have := (nI_eq (by omega) (by omega)).mp e91
          omega
        refine ev_ald0 dX11_nights_84 ?_
        refine ev_ild4 dX11_nights_85 ?_
        refine ev_iconst (v := 5) dX11_nights_87 (by decide) ?_
        refine ev_irem dX11_nights_88 (by decide) ?_
        rw [show nI v - nI v / 5 * 5 = nI (v % 5) from nI_rem (b := 5) (by omega) (by decide)]
        refine ev_V1i (M' := mX11_isGlass) dX11_nights_89 lk_X11_126 vX11_isGlass rfl (m_isGlass (d + 1) _ (mH_nS hm 1 _).1 h59 _ _) (Nat.le_refl _) (Nat.le_of_ble_eq_true rfl) ?_
        refine ev_if_eq 128 dX11_nights_92 (by decide) (fun c_92 => ?_) (fun c_92 => ?_)
        · have b_92 := gx_b_n.mp c_92
          have e9 : p_drink (nI ng) (nI nd) dk sb (p_nT (nI ng) (nI nd) gk dk sb T (L 44) (i)) (nI (v / 5)) (nI (v % 5)) = _ := (if_pos b_81).trans (if_neg b_92)
          rw [show p_chance (nI ng) (nI nd) gk dk sb (p_nT (nI ng) (nI nd) gk dk sb T (L 44) (i)) v = _ from if_pos hv20, e9] at k128
          exact k128 _
        · have b_92 := gx_b_y.mp c_92
          have hvg : v % 5 < ng := by
            obtain ⟨i9, hi9, e91, -⟩ := isG_of (by omega) b_92
            have := (nI_eq (by omega) (by omega)).mp e91
            omega
          refine ev_ald0 dX11_nights_95 ?_
          refine ev_getr (r := 48) dX11_nights_96 fl_X11_19 rfl ?_
          refine ev_ild4 dX11_nights_99 ?_
          refine ev_iconst (v := 5) dX11_nights_101 (by decide) ?_
          refine ev_idiv dX11_nights_102 (by decide) ?_
          rw [show nI v / 5 = nI (v / 5) from nI_div (b := 5) (by omega) (by decide)]
          refine ev_iald' dX11_nights_103 rfl (by omega) (by decide) ?_
          rw [nS_o S 1 _ (by decide), (hm.2.2.2.2.2.1 _ hvd).2]
          refine ev_ild4 dX11_nights_104 ?_
          refine ev_iconst (v := 5) dX11_nights_106 (by decide) ?_
          refine ev_irem dX11_nights_107 (by decide) ?_
          rw [show nI v - nI v / 5 * 5 = nI (v % 5) from nI_rem (b := 5) (by omega) (by decide)]
          refine ev_S2i (M' := mX11_has) dX11_nights_108 lk_X11_77 sX11_has (m_has (d + 2) _ _ _ _) (Nat.le_refl _) (Nat.le_of_ble_eq_true rfl) ?_
          refine ev_if_eq 128 dX11_nights_111 (by decide) (fun c_111 => ?_) (fun c_111 => ?_)
          · have b_111 := gx_b_n.mp c_111
            have e9 : p_drink (nI ng) (nI nd) dk sb (p_nT (nI ng) (nI nd) gk dk sb T (L 44) (i)) (nI (v / 5)) (nI (v % 5)) = _ := (if_pos b_81).trans ((if_pos b_92).trans (if_neg (by rw [ei, ej]; exact b_111)))
            rw [show p_chance (nI ng) (nI nd) gk dk sb (p_nT (nI ng) (nI nd) gk dk sb T (L 44) (i)) v = _ from if_pos hv20, e9] at k128
            exact k128 _
          · have b_111 := gx_b_y.mp c_111
            refine ev_ald0 dX11_nights_114 ?_
            refine ev_iconst (v := 1) dX11_nights_115 (by decide) ?_
            refine ev_ild4 dX11_nights_116 ?_
            refine ev_iconst (v := 5) dX11_nights_118 (by decide) ?_
            refine ev_idiv dX11_nights_119 (by decide) ?_
            rw [show nI v / 5 = nI (v / 5) from nI_div (b := 5) (by omega) (by decide)]
            refine ev_ild4 dX11_nights_120 ?_
            refine ev_iconst (v := 5) dX11_nights_122 (by decide) ?_
            refine ev_irem dX11_nights_123 (by decide) ?_
            rw [show nI v - nI v / 5 * 5 = nI (v % 5) from nI_rem (b := 5) (by omega) (by decide)]
            refine ev_V3i (M' := mX11_drinkOn) dX11_nights_124 lk_X11_115 vX11_drinkOn rfl (m_drinkH (d + 1) (lv := 1) (by decide) (by omega) (by omega) S _ (hm.2.2.2.2.2.1 _ hvd).1 (okT_c (okT_nT h59 h49 hT _ i) (by omega)) _) (Nat.le_refl _) (Nat.le_of_ble_eq_true rfl) ?_
            refine ev_popi dX11_nights_127 ?_
            have e9 : p_drink (nI ng) (nI nd) dk sb (p_nT (nI ng) (nI nd) gk dk sb T (L 44) (i)) (nI (v / 5)) (nI (v % 5)) = _ := (if_pos b_81).trans ((if_pos b_92).trans (if_pos (by rw [ei, ej]; exact b_111)))
            rw [show p_chance (nI ng) (nI nd) gk dk sb (p_nT (nI ng) (nI nd) gk dk sb T (L 44) (i)) v = _ from if_pos hv20, e9, ei, ej] at k128
            exact k128 _
    · refine ev_ald0 dX11_nights_65 ?_
      refine ev_iconst (v := 1) dX11_nights_66 (by decide) ?_
      refine ev_V1v (M' := mX11_passOn) dX11_nights_67 lk_X11_158 vX11_passOn rfl (m_passOn (d + 2) S hm (lv := 1) (by decide) _ (okT_nT h59 h49 hT _ i) _) (Nat.le_refl _) (Nat.le_of_ble_eq_true rfl) ?_
      refine ev_goto 128 dX11_nights_70 (by decide) ?_
      rw [show p_chance (nI ng) (nI nd) gk dk sb (p_nT (nI ng) (nI nd) gk dk sb T (L 44) (i)) v = p_hourT gk (p_nT (nI ng) (nI nd) gk dk sb T (L 44) (i)) from if_neg (fun h9 => c_62 (nI_le (b := 19) (by omega) (by decide)))] at k128
      exact k128 _
set_option maxRecDepth 10000 in
theorem m_nights0 (d : Nat) (S : gx_S) {x : Int32} (hb : x < 1 ∨ 30 < x) (L : gx_L) : Cf (d + 1) mX11_nights [.ref 44, .int x] S L (-2) S L := by
  refine ct_intro (loc := [some (.ref 44), some (.int x), none, none, none]) (by decide) (Nat.le_of_ble_eq_true rfl) rfl ?_
  refine ev_ild1 dX11_nights_0 ?_
  refine ev_i2l dX11_nights_1 ?_
  refine ev_lconst (v := 1) dX11_nights_2 (by decide) ?_
  refine ev_ldc2 dX11_nights_3 kc_X11_228 ?_
  refine ev_S3i (M' := mX11_in) dX11_nights_6 lk_X11_62 sX11_in (m_in d _ _ _ _ _) (Nat.le_refl _) (Nat.le_of_ble_eq_true rfl) ?_
  refine ev_if_ne 15 dX11_nights_9 (by decide) (fun c_9 => ?_) (fun c_9 => ?_)
  · have b_9 := gx_b_y.mp c_9
    exact absurd hb (fun h9 => h9.elim (of_decide_eq_true ((in30 x).symm.trans b_9)).1 (of_decide_eq_true ((in30 x).symm.trans b_9)).2)
  · have b_9 := gx_b_n.mp c_9
    refine ev_bipush (v := (-2)) dX11_nights_12 (by decide) ?_
    refine ev_iret dX11_nights_14 ?_
    exact ⟨_, rfl, rfl, rfl, rfl⟩
set_option maxRecDepth 10000 in
theorem m_nights (d : Nat) (S : gx_S) {ng nd : Nat} {ms gk dk sb : Nat → Int32} (hm : mH S ng nd ms gk dk sb) {T : Tb} (h0 : mT (S 49) 0 = T) (hT : okT ms T) {k : Nat} (hk1 : 1 ≤ k) (hk : k ≤ 30) (L : gx_L) : Cf (d + 3) mX11_nights [.ref 44, .int (nI k)] S L (p_nS (nI ng) (nI nd) ms gk dk sb T (L 44) (k)) (nS S 1 (p_nT (nI ng) (nI nd) gk dk sb T (L 44) (k))) (gx_uL L 44 (p_sd (L 44) k)) := by
  refine ct_intro (loc := [some (.ref 44), some (.int (nI k)), none, none, none]) (by decide) (Nat.le_of_ble_eq_true rfl) rfl ?_
  refine ev_ild1 dX11_nights_0 ?_
  refine ev_i2l dX11_nights_1 ?_
  refine ev_lconst (v := 1) dX11_nights_2 (by decide) ?_
  refine ev_ldc2 dX11_nights_3 kc_X11_228 ?_
  refine ev_S3i (M' := mX11_in) dX11_nights_6 lk_X11_62 sX11_in (m_in (d + 2) _ _ _ _ _) (Nat.le_refl _) (Nat.le_of_ble_eq_true rfl) ?_
  refine ev_if_ne_t 15 dX11_nights_9 (by decide) (gb_t ((in30 _).trans (decide_eq_true ⟨nI_nlt (b := 1) hk1 (by omega), Int32.not_lt.mpr (nI_le (b := 30) hk (by decide))⟩))) ?_
  refine ev_ald0 dX11_nights_15 ?_
  refine ev_V0v (M' := mX11_layTrial) dX11_nights_16 lk_X11_164 vX11_layTrial rfl (m_layTrial (d + 2) S L) (Nat.le_refl _) (Nat.le_of_ble_eq_true rfl) ?_
  rw [h0]
  refine ev_iconst (v := 0) dX11_nights_19 (by decide) ?_
  refine ev_ist2 dX11_nights_20 ?_
  refine ev_iconst (v := 0) dX11_nights_21 (by decide) ?_
  refine ev_ist3 dX11_nights_22 ?_
  have l9 := ml_nights d S hm T hT hk L (Q := fun v S1 L1 => ∃ r : Int32, v = some (.int r) ∧ r = (p_nS (nI ng) (nI nd) ms gk dk sb T (L 44) (k)) ∧ S1 = nS S 1 (p_nT (nI ng) (nI nd) gk dk sb T (L 44) (k)) ∧ L1 = gx_uL L 44 (p_sd (L 44) k)) ?_ k 0 none (Nat.zero_add _)
  · rw [show gx_uL L 44 (p_sd (L 44) 0) = L from uL_self L 44] at l9
    exact l9
  · intro z
    refine ev_ild2 dX11_nights_142 ?_
    refine ev_iret dX11_nights_143 ?_
    exact ⟨_, rfl, rfl, rfl, rfl⟩
