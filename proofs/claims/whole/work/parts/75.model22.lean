/-! ===== the reference: orders in which to drink ===== -/
theorem isG_d0 : ∀ (nd : Fin 5) (c : Fin 10), isG (nI nd) (nI c - 1) = decide (1 ≤ (c : Nat) ∧ (c : Nat) ≤ nd) := by decide +kernel
theorem isG_d {nd c : Nat} (h4 : nd ≤ 4) (hc : c < 10) : isG (nI nd) (nI c - 1) = decide (1 ≤ c ∧ c ≤ nd) := isG_d0 ⟨nd, by omega⟩ ⟨c, hc⟩
theorem zD_around {nd : Nat} {dk sb : Nat → Int32} {T : Tb} {d : Nat} (h : zD nd T) (hd : d < nd) : zD nd (p_around dk sb T d) := zD_aroundN h hd 5
theorem tO_z (dk sb : Nat → Int32) (nd : Nat) (come : Int32) (T : Tb) (k : Nat) : tO dk sb nd 0 come T k = some (p_thirst T).toNatClampNeg := rfl
theorem tO_y {dk sb : Nat → Int32} {nd m k : Nat} {come : Int32} {T : Tb} (h : 1 ≤ k / 10 ^ m % 10 ∧ k / 10 ^ m % 10 ≤ nd ∧ bt come (k / 10 ^ m % 10 - 1) = false) : tO dk sb nd (m + 1) come T k = tO dk sb nd m (come ||| (1 : Int32) <<< (nI (k / 10 ^ m % 10 - 1) &&& 31)) (p_around dk sb T (k / 10 ^ m % 10 - 1)) k := if_pos h
theorem tO_n {dk sb : Nat → Int32} {nd m k : Nat} {come : Int32} {T : Tb} (h : ¬ (1 ≤ k / 10 ^ m % 10 ∧ k / 10 ^ m % 10 ≤ nd ∧ bt come (k / 10 ^ m % 10 - 1) = false)) : tO dk sb nd (m + 1) come T k = none := if_neg h
set_option maxRecDepth 10000 in
theorem ml_tby (d : Nat) (S : gx_S) {ng nd : Nat} {ms gk dk sb : Nat → Int32} (hm : mH S ng nd ms gk dk sb) {k : Nat} (hk : k < 10000) (L : gx_L) : ∀ (m : Nat) (come : Int32) (T : Tb) (z : Option Value), m ≤ nd → okT ms T → zD nd T → Ev mX11_thirstBy (d + 3) 13 [some (.ref 44), some (.int (nI k)), some (.int come), some (.int (nI m - 1)), z] [] (nS S 1 T) L (fun v S1 L1 => ∃ r : Int32, v = some (.int r) ∧ r = oI (tO dk sb nd m come T k) ∧ (∃ T1, S1 = nS S 1 T1) ∧ L1 = L) := by
  intro m
  induction m with
  | zero =>
    intro come T z hmn hT hz
    refine ev_ild3 dX11_thirstBy_13 ?_
    refine ev_if_lt_t 71 dX11_thirstBy_14 (by decide) (by decide) ?_
    refine ev_ald0 dX11_thirstBy_71 ?_
    refine ev_iconst (v := 1) dX11_thirstBy_72 (by decide) ?_
    refine ev_iconst (v := 1) dX11_thirstBy_73 (by decide) ?_
    refine ev_V2i (M' := mX11_thirst) dX11_thirstBy_74 lk_X11_170 vX11_thirst rfl (m_thirst1 (d + 2) S hm (lv := 1) (by decide) _ hz L) (Nat.le_refl _) (Nat.le_of_ble_eq_true rfl) ?_
    refine ev_iret dX11_thirstBy_77 ?_
    exact ⟨_, rfl, by rw [tO_z]; exact (th_b hT).1, ⟨_, rfl⟩, rfl⟩
  | succ m ih =>
    intro come T z hmn hT hz
    have h49 := hm.2.2.2.1
    have hp5 := p105 (show m ≤ 5 by omega)
    have hdk : k / 10 ^ m ≤ k := Nat.div_le_self _ _
    have hc10 : k / 10 ^ m % 10 < 10 := Nat.mod_lt _ (by decide)
    rw [nI_pred]
    by_cases hc : 1 ≤ k / 10 ^ m % 10 ∧ k / 10 ^ m % 10 ≤ nd
    · have hc1 : nI (k / 10 ^ m % 10) - 1 = nI (k / 10 ^ m % 10 - 1) := nI_sub (b := 1) hc.1
      refine ev_ild3 dX11_thirstBy_13 ?_
      refine ev_if_lt_f 71 dX11_thirstBy_14 (by decide) (nI_pos (by omega)) ?_
      refine ev_ild1 dX11_thirstBy_17 ?_
      refine ev_ild3 dX11_thirstBy_18 ?_
      refine ev_S1i (M' := mX11_tenTo) dX11_thirstBy_19 lk_X11_174 sX11_tenTo (m_ten (d + 2) (by omega) _ L) (Nat.le_refl _) (Nat.le_of_ble_eq_true rfl) ?_
      refine ev_idiv dX11_thirstBy_22 (nI_ne0' (p10 m) (by omega)) ?_
      rw [nI_div (by omega) (by omega)]
      refine ev_bipush (v := 10) dX11_thirstBy_23 (by decide) ?_
      refine ev_irem dX11_thirstBy_25 (by decide) ?_
      rw [rem10 (by omega)]
      refine ev_iconst (v := 1) dX11_thirstBy_26 (by decide) ?_
      refine ev_isub dX11_thirstBy_27 ?_
      rw [hc1]
      refine ev_ist4 dX11_thirstBy_28 ?_
      refine ev_ald0 dX11_thirstBy_30 ?_
      refine ev_ild4 dX11_thirstBy_31 ?_
      refine ev_V1i (M' := mX11_isDrinker) dX11_thirstBy_33 lk_X11_133 vX11_isDrinker rfl (m_isDrinker (d + 1) _ (by rw [nS_o S 1 _ (by decide)]; exact hm.2.2.1) (by omega) _ L) (Nat.le_refl _) (Nat.le_of_ble_eq_true rfl) ?_
      refine ev_if_eq_f 48 dX11_thirstBy_36 (by decide) (gb_t (isG_in (by omega) (by omega))) ?_
      refine ev_ild2 dX11_thirstBy_39 ?_
      refine ev_ild4 dX11_thirstBy_40 ?_
      refine ev_S2i (M' := mX11_has) dX11_thirstBy_42 lk_X11_77 sX11_has (m_has (d + 2) _ _ _ _) (Nat.le_refl _) (Nat.le_of_ble_eq_true rfl) ?_
      refine ev_if_eq 51 dX11_thirstBy_45 (by decide) (fun c_45 => ?_) (fun c_45 => ?_)
      · have b_45 := gx_b_n.mp c_45
        refine ev_ild2 dX11_thirstBy_51 ?_
        refine ev_iconst (v := 1) dX11_thirstBy_52 (by decide) ?_
        refine ev_ild4 dX11_thirstBy_53 ?_
        refine ev_ishl dX11_thirstBy_55 ?_
        refine ev_ior dX11_thirstBy_56 ?_
        refine ev_ist2 dX11_thirstBy_57 ?_
        refine ev_ald0 dX11_thirstBy_58 ?_
        refine ev_iconst (v := 1) dX11_thirstBy_59 (by decide) ?_
        refine ev_ild4 dX11_thirstBy_60 ?_
        refine ev_V2v (M' := mX11_sitOn) dX11_thirstBy_62 lk_X11_118 vX11_sitOn rfl (m_sitOn d S hm (lv := 1) (by decide) (by omega) _ hT L) (Nat.le_refl _) (Nat.le_of_ble_eq_true rfl) ?_
        refine ev_inc3 dX11_thirstBy_65 (nI_dec _) ?_
        refine ev_goto 13 dX11_thirstBy_68 (by decide) ?_
        have e := ih (come ||| (1 : Int32) <<< (nI (k / 10 ^ m % 10 - 1) &&& 31)) (p_around dk sb T (k / 10 ^ m % 10 - 1)) (some (.int (nI (k / 10 ^ m % 10 - 1)))) (by omega) (okT_around hT (by omega)) (zD_around hz (by omega))
        rw [tO_y ⟨hc.1, hc.2, Bool.eq_false_iff.mpr b_45⟩]
        exact e
      · have b_45 := gx_b_y.mp c_45
        refine ev_bipush (v := (-9)) dX11_thirstBy_48 (by decide) ?_
        refine ev_iret dX11_thirstBy_50 ?_
        exact ⟨_, rfl, by rw [tO_n (fun h9 => by have h8 := h9.2.2; rw [b_45] at h8; cases h8)]; rfl, ⟨_, rfl⟩, rfl⟩
    · refine ev_ild3 dX11_thirstBy_13 ?_
      refine ev_if_lt_f 71 dX11_thirstBy_14 (by decide) (nI_pos (by omega)) ?_
      refine ev_ild1 dX11_thirstBy_17 ?_
      refine ev_ild3 dX11_thirstBy_18 ?_
      refine ev_S1i (M' := mX11_tenTo) dX11_thirstBy_19 lk_X11_174 sX11_tenTo (m_ten (d + 2) (by omega) _ L) (Nat.le_refl _) (Nat.le_of_ble_eq_true rfl) ?_
      refine ev_idiv dX11_thirstBy_22 (nI_ne0' (p10 m) (by omega)) ?_
      rw [nI_div (by omega) (by omega)]
      refine ev_bipush (v := 10) dX11_thirstBy_23 (by decide) ?_
      refine ev_irem dX11_thirstBy_25 (by decide) ?_
      rw [rem10 (by omega)]
      refine ev_iconst (v := 1) dX11_thirstBy_26 (by decide) ?_
      refine ev_isub dX11_thirstBy_27 ?_
      refine ev_ist4 dX11_thirstBy_28 ?_
      refine ev_ald0 dX11_thirstBy_30 ?_
      refine ev_ild4 dX11_thirstBy_31 ?_
      refine ev_V1i (M' := mX11_isDrinker) dX11_thirstBy_33 lk_X11_133 vX11_isDrinker rfl (m_isDrinker (d + 1) _ (by rw [nS_o S 1 _ (by decide)]; exact hm.2.2.1) (by omega) _ L) (Nat.le_refl _) (Nat.le_of_ble_eq_true rfl) ?_
      refine ev_if_eq_t 48 dX11_thirstBy_36 (by decide) (gb_f (by rw [isG_d (by omega) hc10]; exact decide_eq_false hc)) ?_
      refine ev_bipush (v := (-9)) dX11_thirstBy_48 (by decide) ?_
      refine ev_iret dX11_thirstBy_50 ?_
      exact ⟨_, rfl, by rw [tO_n (fun h9 => hc ⟨h9.1, h9.2.1⟩)]; rfl, ⟨_, rfl⟩, rfl⟩
set_option maxRecDepth 10000 in
theorem m_thirstBy (d : Nat) (S : gx_S) {ng nd : Nat} {ms gk dk sb : Nat → Int32} (hm : mH S ng nd ms gk dk sb) {T : Tb} (h0 : mT (S 49) 0 = T) (hT : okT ms T) (hz : zD nd T) (T0 : Tb) {k : Nat} (hk : k < 10000) (L : gx_L) : Ci (d + 3) mX11_thirstBy [.ref 44, .int (nI k)] (nS S 1 T0) L (fun r S1 L1 => r = oI (tO dk sb nd nd 0 T k) ∧ (∃ T1, S1 = nS S 1 T1) ∧ L1 = L) := by
  refine ct_intro (loc := [some (.ref 44), some (.int (nI k)), none, none, none]) (by decide) (Nat.le_of_ble_eq_true rfl) rfl ?_
  refine ev_ald0 dX11_thirstBy_0 ?_
  refine ev_V0v (M' := mX11_layTrial) dX11_thirstBy_1 lk_X11_164 vX11_layTrial rfl (m_lay1 (d + 2) S T0 h0 L) (Nat.le_refl _) (Nat.le_of_ble_eq_true rfl) ?_
  refine ev_iconst (v := 0) dX11_thirstBy_4 (by decide) ?_
  refine ev_ist2 dX11_thirstBy_5 ?_
  refine ev_ald0 dX11_thirstBy_6 ?_
  refine ev_geti dX11_thirstBy_7 fl_X11_105 rfl ?_
  rw [nS_o S 1 _ (by decide), hm.2.2.1]
  refine ev_iconst (v := 1) dX11_thirstBy_10 (by decide) ?_
  refine ev_isub dX11_thirstBy_11 ?_
  refine ev_ist3 dX11_thirstBy_12 ?_
  exact ml_tby d S hm hk L nd 0 T none (Nat.le_refl _) hT hz
set_option maxRecDepth 10000 in
theorem ml_or (d : Nat) (S : gx_S) {ng nd : Nat} {ms gk dk sb : Nat → Int32} (hm : mH S ng nd ms gk dk sb) {T : Tb} (h0 : mT (S 49) 0 = T) (hT : okT ms T) (hz : zD nd T) (w : Int32) (L : gx_L) : ∀ (nn i : Nat) (T0 : Tb) (z5 z6 : Option Value), i + nn = 10 ^ nd → Ev mX11_order (d + 4) 9 [some (.ref 44), some (.int w), some (.int (leI (fo (vaO dk sb nd T) 0 none (i)))), some (.int (fdI (fo (vaO dk sb nd T) 0 none (i)))), some (.int (nI i)), z5, z6] [] (nS S 1 T0) L (fun v S1 L1 => ∃ r : Int32, v = some (.int r) ∧ (fun r S1 L1 => r = (if w = 0 then leI (fo (vaO dk sb nd T) 0 none (10 ^ nd)) else fdI (fo (vaO dk sb nd T) 0 none (10 ^ nd))) ∧ (∃ T1, S1 = nS S 1 T1) ∧ L1 = L) r S1 L1) := by
  intro nn
  induction nn with
  | zero =>
    intro i T0 z5 z6 hi
    obtain rfl : i = 10 ^ nd := hi
    have h49 := hm.2.2.2.1
    have h10 : 10 ^ nd ≤ 10000 := Nat.pow_le_pow_right (n := 10) (j := 4) (by decide) h49
    refine ev_ild4 dX11_order_9 ?_
    refine ev_ald0 dX11_order_11 ?_
    refine ev_geti dX11_order_12 fl_X11_105 rfl ?_
    rw [nS_o S 1 _ (by decide), hm.2.2.1]
    refine ev_S1i (M' := mX11_tenTo) dX11_order_15 lk_X11_174 sX11_tenTo (m_ten (d + 3) (by omega) _ L) (Nat.le_refl _) (Nat.le_of_ble_eq_true rfl) ?_
    refine ev_icmp_ge_t 85 dX11_order_18 (by decide) (nI_le (Nat.le_refl _) (by omega)) ?_
    refine ev_ild1 dX11_order_85 ?_
    refine ev_if_eq 93 dX11_order_86 (by decide) (fun c_86 => ?_) (fun c_86 => ?_)
    · refine ev_ild2 dX11_order_93 ?_
      refine ev_iret dX11_order_94 ?_
      exact ⟨_, rfl, (if_pos c_86).symm, ⟨T0, rfl⟩, rfl⟩
    · refine ev_ild3 dX11_order_89 ?_
      refine ev_goto 94 dX11_order_90 (by decide) ?_
      refine ev_iret dX11_order_94 ?_
      exact ⟨_, rfl, (if_neg c_86).symm, ⟨T0, rfl⟩, rfl⟩
  | succ nn ih =>
    intro i T0 z5 z6 hi
    have h49 := hm.2.2.2.1
    have h10 : 10 ^ nd ≤ 10000 := Nat.pow_le_pow_right (n := 10) (j := 4) (by decide) h49
    refine ev_ild4 dX11_order_9 ?_
    refine ev_ald0 dX11_order_11 ?_
    refine ev_geti dX11_order_12 fl_X11_105 rfl ?_
    rw [nS_o S 1 _ (by decide), hm.2.2.1]
    refine ev_S1i (M' := mX11_tenTo) dX11_order_15 lk_X11_174 sX11_tenTo (m_ten (d + 3) (by omega) _ L) (Nat.le_refl _) (Nat.le_of_ble_eq_true rfl) ?_
    refine ev_icmp_ge_f 85 dX11_order_18 (by decide) (nI_ge (by omega) (by omega)) ?_
    refine ev_ald0 dX11_order_21 ?_
    refine ev_ild4 dX11_order_22 ?_
    refine ev_V1iq (M' := mX11_thirstBy) dX11_order_24 lk_X11_186 vX11_thirstBy rfl (m_thirstBy d S hm h0 hT hz T0 (by omega) L) (Nat.le_refl _) (Nat.le_of_ble_eq_true rfl) (fun v9 S9 L9 h9 => ?_)
    obtain ⟨hr9, ⟨T9, hS9⟩, hL9⟩ := h9
    have hL2 := hL9.symm
    subst hL2
    subst hS9
    have hvv : ((vaO dk sb nd T) i = none ∧ v9 = -9) ∨ ∃ w0, (vaO dk sb nd T) i = some w0 ∧ v9 = nI w0 ∧ w0 < 100 := by
      have e1 : (vaO dk sb nd T) i = tO dk sb nd nd 0 T i := if_pos (Nat.div_eq_of_lt (by omega))
      rw [← e1] at hr9
      cases e2 : (vaO dk sb nd T) i with
      | none => rw [e2] at hr9; exact Or.inl ⟨rfl, hr9⟩
      | some w0 => rw [e2] at hr9; exact Or.inr ⟨w0, rfl, hr9, (vaO_w h49 hT i w0 e2).1⟩
    refine ev_ist5 dX11_order_27 ?_
    refine ml_ok (d + 4) _ L (va := vaO dk sb nd T) (okq_fo okq_n (vaO_w h49 hT) _) w 0 _ _ hvv (fun z9 => ?_)
    refine ev_inc4 dX11_order_79 (nI_inc _) ?_
    refine ev_goto 9 dX11_order_82 (by decide) ?_
    have e := ih (i + 1) T9 (some (.int v9)) z9 (by omega)
    have e8 : fo (vaO dk sb nd T) 0 none (i + 1) = kv (vaO dk sb nd T) (fo (vaO dk sb nd T) 0 none i) i := by
      show kv (vaO dk sb nd T) (fo (vaO dk sb nd T) 0 none i) (0 + i) = _
      rw [Nat.zero_add]
    rw [e8] at e
    exact e
set_option maxRecDepth 10000 in
theorem m_order (d : Nat) (S : gx_S) {ng nd : Nat} {ms gk dk sb : Nat → Int32} (hm : mH S ng nd ms gk dk sb) {T : Tb} (h0 : mT (S 49) 0 = T) (hT : okT ms T) (hz : zD nd T) (w : Int32) (L : gx_L) : Ci (d + 4) mX11_order [.ref 44, .int w] S L (fun r S1 L1 => r = (if w = 0 then leI (fo (vaO dk sb nd T) 0 none (10 ^ nd)) else fdI (fo (vaO dk sb nd T) 0 none (10 ^ nd))) ∧ (∃ T1, S1 = nS S 1 T1) ∧ L1 = L) := by
  refine ct_intro (loc := [some (.ref 44), some (.int w), none, none, none, none, none]) (by decide) (Nat.le_of_ble_eq_true rfl) rfl ?_
  refine ev_bipush (v := (-9)) dX11_order_0 (by decide) ?_
  refine ev_ist2 dX11_order_2 ?_
  refine ev_bipush (v := (-9)) dX11_order_3 (by decide) ?_
  refine ev_ist3 dX11_order_5 ?_
  refine ev_iconst (v := 0) dX11_order_6 (by decide) ?_
  refine ev_ist4 dX11_order_7 ?_
  have l9 := ml_or d S hm h0 hT hz w L (10 ^ nd) 0 (mT (S 49) 1) none none (Nat.zero_add _)
  rw [nS_mT] at l9
  exact l9
