/-! ===== bounds of taxes ===== -/
theorem tax_cl (k m c a : Int32) : p_tax k m c a = p_tax (if k = 3 then 3 else 0) m c (if a < 3 then 0 else 3) := by
  unfold p_tax
  by_cases h1 : a < 3
  · simp only [if_pos h1, show (0 : Int32) < 3 from by decide, if_true]
    by_cases h2 : k = 3
    · simp only [if_pos h2, if_true]
    · simp only [if_neg h2, show ¬ (0 : Int32) = 3 from by decide, if_false]
  · simp only [if_neg h1, show ¬ (3 : Int32) < 3 from by decide, if_false]
    by_cases h2 : k = 3
    · simp only [if_pos h2, if_true]
    · simp only [if_neg h2, show ¬ (0 : Int32) = 3 from by decide, if_false]
theorem tax_b00 : ∀ m c : Fin 10, ∃ v : Fin 12, p_tax 0 (nI m) (nI c) 0 = nI v := by decide +kernel
theorem tax_b03 : ∀ m c : Fin 10, ∃ v : Fin 12, p_tax 0 (nI m) (nI c) 3 = nI v := by decide +kernel
theorem tax_b30 : ∀ m c : Fin 10, ∃ v : Fin 12, p_tax 3 (nI m) (nI c) 0 = nI v := by decide +kernel
theorem tax_b33 : ∀ m c : Fin 10, ∃ v : Fin 12, p_tax 3 (nI m) (nI c) 3 = nI v := by decide +kernel
theorem tax_b (k a : Int32) {m c : Nat} (hm : m ≤ 9) (hc : c ≤ 9) : ∃ v, v ≤ 11 ∧ p_tax k (nI m) (nI c) a = nI v := by
  rw [tax_cl]
  have conv : ∀ {x y : Int32}, (∃ v : Fin 12, p_tax x (nI ((⟨m, by omega⟩ : Fin 10) : Nat)) (nI ((⟨c, by omega⟩ : Fin 10) : Nat)) y = nI v) → ∃ v, v ≤ 11 ∧ p_tax x (nI m) (nI c) y = nI v := by
    rintro x y ⟨v, h⟩
    exact ⟨v.val, by have := v.2; omega, h⟩
  by_cases h1 : k = 3
  · rw [if_pos h1]
    by_cases h2 : a < 3
    · rw [if_pos h2]; exact conv (tax_b30 _ _)
    · rw [if_neg h2]; exact conv (tax_b33 _ _)
  · rw [if_neg h1]
    by_cases h2 : a < 3
    · rw [if_pos h2]; exact conv (tax_b00 _ _)
    · rw [if_neg h2]; exact conv (tax_b03 _ _)
theorem taxesN_b {ms : Nat → Int32} (gk : Nat → Int32) {T : Tb} (h : okT ms T) : ∀ n, n ≤ 5 → ∃ v, v ≤ 11 * n ∧ p_taxesN gk ms T.1 T.2.1 n = nI v
  | 0, _ => ⟨0, Nat.le_refl _, rfl⟩
  | n + 1, hn => by
    obtain ⟨v, h1, h2⟩ := taxesN_b gk h n (by omega)
    obtain ⟨⟨a, m, h3, h4, h5, h6⟩, -⟩ := h.1 n (by omega)
    obtain ⟨u, h7, h8⟩ := tax_b (gk n) (T.2.1 n) h6 (show a ≤ 9 by omega)
    refine ⟨v + u, by omega, ?_⟩
    show p_taxesN gk ms T.1 T.2.1 n + p_tax (gk n) (ms n) (T.1 n) (T.2.1 n) = _
    rw [h2, h3, h4, h8, nI_add]
theorem taxes_b {ms : Nat → Int32} (gk : Nat → Int32) {T : Tb} (h : okT ms T) : ∃ v, v ≤ 55 ∧ p_taxes gk ms T = nI v := taxesN_b gk h 5 (Nat.le_refl 5)
theorem room_0 {ms : Nat → Int32} {T : Tb} (h : okT ms T) {g : Nat} (hg : g < 5) (hr : ms g - T.1 g ≤ 0) : ms g - T.1 g = 0 := by
  obtain ⟨⟨a, m, h1, h2, h3, h4⟩, -⟩ := h.1 g hg
  rw [h1, h2, nI_sub h3] at hr ⊢
  rcases Nat.eq_zero_or_pos (m - a) with h5 | h5
  · rw [h5]; rfl
  · exact absurd hr (nI_ge (b := m - a) (a := 0) h5 (by omega))
def p_tr (ng nd : Int32) (ms gk dk sb : Nat → Int32) (T : Tb) (x a b : Nat) : Int32 × Tb :=
  if x = 0 then p_pour ng ms T (nI a) (nI b) else if x = 1 then p_drink ng nd dk sb T (nI a) (nI b) else if x = 2 then p_tip ng ms T (nI a) (nI b) else if x = 3 then (if a = 0 then (if b = 0 then (p_taxes gk ms (p_hourT gk T), p_hourT gk T) else (-2, T)) else (-2, T)) else (-2, T)
theorem told_tr (ng nd : Int32) (ms gk dk sb : Nat → Int32) (T : Tb) (k : Nat) : p_told ng nd ms gk dk sb T k = p_tr ng nd ms gk dk sb T (k / 100) (k / 10 % 10) (k % 10) := rfl
def q_J (S : gx_S) (L : gx_L) (q : Int32 × Tb) (r : Int32) (S1 : gx_S) (L1 : gx_L) : Prop := ∃ T1, S1 = nS S 1 T1 ∧ L1 = L ∧ ((r = 0 ∧ q.1 < 0) ∨ (r = 1 ∧ ¬ q.1 < 0 ∧ T1 = q.2))
theorem J_no {S : gx_S} {L : gx_L} {q : Int32 × Tb} {x : Int32} {T T1 : Tb} (e : q = (x, T)) (h : x < 0) : q_J S L q 0 (nS S 1 T1) L := ⟨T1, rfl, rfl, Or.inl ⟨rfl, by rw [e]; exact h⟩⟩
theorem J_ok {S : gx_S} {L : gx_L} {q : Int32 × Tb} {x : Int32} {T1 : Tb} (e : q = (x, T1)) (h : ¬ x < 0) : q_J S L q 1 (nS S 1 T1) L := ⟨T1, rfl, rfl, Or.inr ⟨rfl, by rw [e]; exact h, by rw [e]⟩⟩
theorem can_of {ng : Nat} {ms : Nat → Int32} {T : Tb} {g q : Int32} (h : q_can ng ms T g q = true) : isG (nI ng) g = true ∧ isG (nI ng) q = true ∧ ¬ g = q := by
  unfold q_can at h
  split at h
  · rename_i h1
    split at h
    · rename_i h2
      split at h
      · cases h
      · rename_i h3
        exact ⟨h1, h2, h3⟩
    · cases h
  · cases h
theorem can_no {ng : Nat} (h5 : ng ≤ 5) {ms : Nat → Int32} {T : Tb} (hT : okT ms T) {g q : Int32} (h : ¬ q_can ng ms T g q = true) : ∃ x : Int32, p_tip (nI ng) ms T g q = (x, T) ∧ x < 0 := by
  by_cases h1 : isG (nI ng) g = true
  · by_cases h2 : isG (nI ng) q = true
    · by_cases h3 : g = q
      · exact ⟨-2, (if_pos h1).trans ((if_pos h2).trans (if_pos h3)), by decide⟩
      · obtain ⟨i, hi, rfl, ei⟩ := isG_of (by omega) h1
        obtain ⟨j, hj, rfl, ej⟩ := isG_of (by omega) h2
        exact ⟨-3, (tip_q h5 hT hi hj h3).1 h, by decide⟩
    · exact ⟨-1, (if_pos h1).trans (if_neg h2), by decide⟩
  · exact ⟨-1, if_neg h1, by decide⟩
theorem isG_lt {n j : Nat} (hn : n < 2 ^ 31) (hj : j < 2 ^ 31) (h : isG (nI n) (nI j) = true) : j < n := by
  obtain ⟨i9, hi9, e91, -⟩ := isG_of hn h
  have := (nI_eq hj (by omega)).mp e91
  omega
set_option maxRecDepth 10000 in
theorem m_try0 (d : Nat) (S : gx_S) {ng nd : Nat} {ms gk dk sb : Nat → Int32} (hm : mH S ng nd ms gk dk sb) (T : Tb) (hT : okT ms T) {a b : Nat} (ha : a < 10) (hb : b < 10) (L : gx_L) : Ci (d + 3) mX11_tryThing [.ref 44, .int 0, .int (nI a), .int (nI b)] (nS S 1 T) L (q_J S L (p_pour (nI ng) ms T (nI a) (nI b))) := by
  refine ct_intro (loc := [some (.ref 44), some (.int 0), some (.int (nI a)), some (.int (nI b)), none, none, none]) (by decide) (Nat.le_of_ble_eq_true rfl) rfl ?_
  have h59 := hm.2.1
  have h49 := hm.2.2.2.1
  refine ev_ild1 dX11_tryThing_0 ?_
  refine ev_tsw_in (off := 31) 32 dX11_tryThing_1 (by decide) (by decide) (by decide +kernel) (by decide) ?_
  refine ev_ald0 dX11_tryThing_32 ?_
  refine ev_ild2 dX11_tryThing_33 ?_
  refine ev_V1i (M' := mX11_isGlass) dX11_tryThing_34 lk_X11_126 vX11_isGlass rfl (m_isGlass (d + 1) _ (mH_nS hm 1 _).1 h59 _ _) (Nat.le_refl _) (Nat.le_of_ble_eq_true rfl) ?_
  refine ev_if_eq 57 dX11_tryThing_37 (by decide) (fun c_37 => ?_) (fun c_37 => ?_)
  · have b_37 := gx_b_n.mp c_37
    refine ev_iconst (v := 0) dX11_tryThing_57 (by decide) ?_
    refine ev_ist4 dX11_tryThing_58 ?_
    refine ev_ild4 dX11_tryThing_60 ?_
    refine ev_if_eq_t 73 dX11_tryThing_62 (by decide) (by decide) ?_
    refine ev_ild4 dX11_tryThing_73 ?_
    refine ev_zret dX11_tryThing_75 ?_ ?_
    · first | rfl | exact gx_b_nar _
    · exact ⟨_, rfl, J_no (if_neg b_37) (by decide)⟩
  · have b_37 := gx_b_y.mp c_37
    have hag : a < ng := isG_lt (by omega) (by omega) b_37
    refine ev_ild3 dX11_tryThing_40 ?_
    refine ev_if_le 57 dX11_tryThing_41 (by decide) (fun c_41 => ?_) (fun c_41 => ?_)
    · refine ev_iconst (v := 0) dX11_tryThing_57 (by decide) ?_
      refine ev_ist4 dX11_tryThing_58 ?_
      refine ev_ild4 dX11_tryThing_60 ?_
      refine ev_if_eq_t 73 dX11_tryThing_62 (by decide) (by decide) ?_
      refine ev_ild4 dX11_tryThing_73 ?_
      refine ev_zret dX11_tryThing_75 ?_ ?_
      · first | rfl | exact gx_b_nar _
      · exact ⟨_, rfl, J_no ((if_pos b_37).trans (if_pos (Int32.lt_of_le_of_lt c_41 (by decide)))) (by decide)⟩
    · have hb1 : 1 ≤ b := by
        rcases Nat.eq_zero_or_pos b with h | h
        · subst h; exact absurd (Int32.le_refl 0) c_41
        · exact h
      refine ev_ald0 dX11_tryThing_44 ?_
      refine ev_iconst (v := 1) dX11_tryThing_45 (by decide) ?_
      refine ev_ild2 dX11_tryThing_46 ?_
      refine ev_V2i (M' := mX11_roomIn) dX11_tryThing_47 lk_X11_142 vX11_roomIn rfl (m_roomIn (d + 2) S hm (lv := 1) (by decide) hag T L) (Nat.le_refl _) (Nat.le_of_ble_eq_true rfl) ?_
      refine ev_if_le 57 dX11_tryThing_50 (by decide) (fun c_50 => ?_) (fun c_50 => ?_)
      · refine ev_iconst (v := 0) dX11_tryThing_57 (by decide) ?_
        refine ev_ist4 dX11_tryThing_58 ?_
        refine ev_ild4 dX11_tryThing_60 ?_
        refine ev_if_eq_t 73 dX11_tryThing_62 (by decide) (by decide) ?_
        refine ev_ild4 dX11_tryThing_73 ?_
        refine ev_zret dX11_tryThing_75 ?_ ?_
        · first | rfl | exact gx_b_nar _
        · exact ⟨_, rfl, J_no ((pour_q h59 hT hag (n := nI b) (nI_nlt (b := 1) hb1 (by omega)) (nI_le (b := 9) (by omega) (by decide))).1 (room_0 hT (by omega) c_50)) (by decide)⟩
      · refine ev_iconst (v := 1) dX11_tryThing_53 (by decide) ?_
        refine ev_goto 58 dX11_tryThing_54 (by decide) ?_
        refine ev_ist4 dX11_tryThing_58 ?_
        refine ev_ild4 dX11_tryThing_60 ?_
        refine ev_if_eq_f 73 dX11_tryThing_62 (by decide) (by decide) ?_
        refine ev_ald0 dX11_tryThing_65 ?_
        refine ev_iconst (v := 1) dX11_tryThing_66 (by decide) ?_
        refine ev_ild2 dX11_tryThing_67 ?_
        refine ev_ild3 dX11_tryThing_68 ?_
        refine ev_V3i (M' := mX11_pourOn) dX11_tryThing_69 lk_X11_148 vX11_pourOn rfl (m_pourOn (d + 1) S hm (lv := 1) (by decide) hag T _ L) (Nat.le_refl _) (Nat.le_of_ble_eq_true rfl) ?_
        refine ev_popi dX11_tryThing_72 ?_
        refine ev_ild4 dX11_tryThing_73 ?_
        refine ev_zret dX11_tryThing_75 ?_ ?_
        · first | rfl | exact gx_b_nar _
        · obtain ⟨e9, e8⟩ := (pour_q h59 hT hag (n := nI b) (nI_nlt (b := 1) hb1 (by omega)) (nI_le (b := 9) (by omega) (by decide))).2 (fun h9 => c_50 (by rw [h9]; decide))
          exact ⟨_, rfl, J_ok e9 e8⟩
set_option maxRecDepth 10000 in
theorem m_try1 (d : Nat) (S : gx_S) {ng nd : Nat} {ms gk dk sb : Nat → Int32} (hm : mH S ng nd ms gk dk sb) (T : Tb) (hT : okT ms T) {a b : Nat} (ha : a < 10) (hb : b < 10) (L : gx_L) : Ci (d + 3) mX11_tryThing [.ref 44, .int 1, .int (nI a), .int (nI b)] (nS S 1 T) L (q_J S L (p_drink (nI ng) (nI nd) dk sb T (nI a) (nI b))) := by
  refine ct_intro (loc := [some (.ref 44), some (.int 1), some (.int (nI a)), some (.int (nI b)), none, none, none]) (by decide) (Nat.le_of_ble_eq_true rfl) rfl ?_
  have h59 := hm.2.1
  have h49 := hm.2.2.2.1
  refine ev_ild1 dX11_tryThing_0 ?_
  refine ev_tsw_in (off := 75) 76 dX11_tryThing_1 (by decide) (by decide) (by decide +kernel) (by decide) ?_
  refine ev_ald0 dX11_tryThing_76 ?_
  refine ev_ild2 dX11_tryThing_77 ?_
  refine ev_V1i (M' := mX11_isDrinker) dX11_tryThing_78 lk_X11_133 vX11_isDrinker rfl (m_isDrinker (d + 1) _ (mH_nS hm 1 _).2.2.1 (by omega) _ _) (Nat.le_refl _) (Nat.le_of_ble_eq_true rfl) ?_
  refine ev_if_eq 109 dX11_tryThing_81 (by decide) (fun c_81 => ?_) (fun c_81 => ?_)
  · have b_81 := gx_b_n.mp c_81
    refine ev_iconst (v := 0) dX11_tryThing_109 (by decide) ?_
    refine ev_ist5 dX11_tryThing_110 ?_
    refine ev_ild5 dX11_tryThing_112 ?_
    refine ev_if_eq_t 125 dX11_tryThing_114 (by decide) (by decide) ?_
    refine ev_ild5 dX11_tryThing_125 ?_
    refine ev_zret dX11_tryThing_127 ?_ ?_
    · first | rfl | exact gx_b_nar _
    · exact ⟨_, rfl, J_no (if_neg b_81) (by decide)⟩
  · have b_81 := gx_b_y.mp c_81
    have had : a < nd := isG_lt (by omega) (by omega) b_81
    refine ev_ald0 dX11_tryThing_84 ?_
    refine ev_ild3 dX11_tryThing_85 ?_
    refine ev_V1i (M' := mX11_isGlass) dX11_tryThing_86 lk_X11_126 vX11_isGlass rfl (m_isGlass (d + 1) _ (mH_nS hm 1 _).1 h59 _ _) (Nat.le_refl _) (Nat.le_of_ble_eq_true rfl) ?_
    refine ev_if_eq 109 dX11_tryThing_89 (by decide) (fun c_89 => ?_) (fun c_89 => ?_)
    · have b_89 := gx_b_n.mp c_89
      refine ev_iconst (v := 0) dX11_tryThing_109 (by decide) ?_
      refine ev_ist5 dX11_tryThing_110 ?_
      refine ev_ild5 dX11_tryThing_112 ?_
      refine ev_if_eq_t 125 dX11_tryThing_114 (by decide) (by decide) ?_
      refine ev_ild5 dX11_tryThing_125 ?_
      refine ev_zret dX11_tryThing_127 ?_ ?_
      · first | rfl | exact gx_b_nar _
      · exact ⟨_, rfl, J_no ((if_pos b_81).trans (if_neg b_89)) (by decide)⟩
    · have b_89 := gx_b_y.mp c_89
      have hbg : b < ng := isG_lt (by omega) (by omega) b_89
      refine ev_ald0 dX11_tryThing_92 ?_
      refine ev_getr (r := 48) dX11_tryThing_93 fl_X11_19 rfl ?_
      refine ev_ild2 dX11_tryThing_96 ?_
      refine ev_iald' dX11_tryThing_97 rfl (by omega) (by decide) ?_
      rw [nS_o S 1 _ (by decide), (hm.2.2.2.2.2.1 _ had).2]
      refine ev_ild3 dX11_tryThing_98 ?_
      refine ev_S2i (M' := mX11_has) dX11_tryThing_99 lk_X11_77 sX11_has (m_has (d + 2) _ _ _ _) (Nat.le_refl _) (Nat.le_of_ble_eq_true rfl) ?_
      refine ev_if_eq 109 dX11_tryThing_102 (by decide) (fun c_102 => ?_) (fun c_102 => ?_)
      · have b_102 := gx_b_n.mp c_102
        refine ev_iconst (v := 0) dX11_tryThing_109 (by decide) ?_
        refine ev_ist5 dX11_tryThing_110 ?_
        refine ev_ild5 dX11_tryThing_112 ?_
        refine ev_if_eq_t 125 dX11_tryThing_114 (by decide) (by decide) ?_
        refine ev_ild5 dX11_tryThing_125 ?_
        refine ev_zret dX11_tryThing_127 ?_ ?_
        · first | rfl | exact gx_b_nar _
        · exact ⟨_, rfl, J_no ((if_pos b_81).trans ((if_pos b_89).trans (if_neg (by rw [nI_clamp (by omega), nI_clamp (by omega)]; exact b_102)))) (by decide)⟩
      · have b_102 := gx_b_y.mp c_102
        refine ev_iconst (v := 1) dX11_tryThing_105 (by decide) ?_
        refine ev_goto 110 dX11_tryThing_106 (by decide) ?_
        refine ev_ist5 dX11_tryThing_110 ?_
        refine ev_ild5 dX11_tryThing_112 ?_
        refine ev_if_eq_f 125 dX11_tryThing_114 (by decide) (by decide) ?_
        refine ev_ald0 dX11_tryThing_117 ?_
        refine ev_iconst (v := 1) dX11_tryThing_118 (by decide) ?_
        refine ev_ild2 dX11_tryThing_119 ?_
        refine ev_ild3 dX11_tryThing_120 ?_
        refine ev_V3i (M' := mX11_drinkOn) dX11_tryThing_121 lk_X11_115 vX11_drinkOn rfl (m_drinkH (d + 1) (lv := 1) (by decide) (by omega) (by omega) S _ (hm.2.2.2.2.2.1 _ had).1 (okT_c hT (by omega)) _) (Nat.le_refl _) (Nat.le_of_ble_eq_true rfl) ?_
        refine ev_popi dX11_tryThing_124 ?_
        refine ev_ild5 dX11_tryThing_125 ?_
        refine ev_zret dX11_tryThing_127 ?_ ?_
        · first | rfl | exact gx_b_nar _
        · have e9 : p_drink (nI ng) (nI nd) dk sb T (nI a) (nI b) = (p_sw dk T a b, p_swT dk T a b) := ((if_pos b_81).trans ((if_pos b_89).trans (if_pos (by rw [nI_clamp (by omega), nI_clamp (by omega)]; exact b_102)))).trans (by rw [nI_clamp (by omega), nI_clamp (by omega)])
          exact ⟨_, rfl, J_ok e9 (sw_nn hT (by omega) (by omega))⟩
set_option maxRecDepth 10000 in
theorem m_try2 (d : Nat) (S : gx_S) {ng nd : Nat} {ms gk dk sb : Nat → Int32} (hm : mH S ng nd ms gk dk sb) (T : Tb) (hT : okT ms T) {a b : Nat} (ha : a < 10) (hb : b < 10) (L : gx_L) : Ci (d + 3) mX11_tryThing [.ref 44, .int 2, .int (nI a), .int (nI b)] (nS S 1 T) L (q_J S L (p_tip (nI ng) ms T (nI a) (nI b))) := by
  refine ct_intro (loc := [some (.ref 44), some (.int 2), some (.int (nI a)), some (.int (nI b)), none, none, none]) (by decide) (Nat.le_of_ble_eq_true rfl) rfl ?_
  have h59 := hm.2.1
  have h49 := hm.2.2.2.1
  refine ev_ild1 dX11_tryThing_0 ?_
  refine ev_tsw_in (off := 127) 128 dX11_tryThing_1 (by decide) (by decide) (by decide +kernel) (by decide) ?_
  refine ev_ald0 dX11_tryThing_128 ?_
  refine ev_iconst (v := 1) dX11_tryThing_129 (by decide) ?_
  refine ev_ild2 dX11_tryThing_130 ?_
  refine ev_ild3 dX11_tryThing_131 ?_
  refine ev_V3i (M' := mX11_canTip) dX11_tryThing_132 lk_X11_151 vX11_canTip rfl (m_canTip d S hm (lv := 1) (by decide) T _ _ L) (Nat.le_refl _) (Nat.le_of_ble_eq_true rfl) ?_
  refine ev_ist6 dX11_tryThing_135 ?_
  refine ev_ild6 dX11_tryThing_137 ?_
  refine ev_if_eq 150 dX11_tryThing_139 (by decide) (fun c_139 => ?_) (fun c_139 => ?_)
  · have b_139 := gx_b_n.mp c_139
    refine ev_ild6 dX11_tryThing_150 ?_
    refine ev_zret dX11_tryThing_152 ?_ ?_
    · first | rfl | exact gx_b_nar _
    · obtain ⟨x9, e9, e8⟩ := can_no h59 hT b_139
      rw [Bool.eq_false_iff.mpr b_139]
      exact ⟨_, rfl, J_no e9 e8⟩
  · have b_139 := gx_b_y.mp c_139
    have hcc := can_of b_139
    have hag : a < ng := isG_lt (by omega) (by omega) hcc.1
    have hbg : b < ng := isG_lt (by omega) (by omega) hcc.2.1
    refine ev_ald0 dX11_tryThing_142 ?_
    refine ev_iconst (v := 1) dX11_tryThing_143 (by decide) ?_
    refine ev_ild2 dX11_tryThing_144 ?_
    refine ev_ild3 dX11_tryThing_145 ?_
    refine ev_V3i (M' := mX11_tipOn) dX11_tryThing_146 lk_X11_155 vX11_tipOn rfl (m_tipOn (d + 1) S hm (lv := 1) (by decide) hag hbg (fun h9 => hcc.2.2 (by rw [h9])) T L) (Nat.le_refl _) (Nat.le_of_ble_eq_true rfl) ?_
    refine ev_popi dX11_tryThing_149 ?_
    refine ev_ild6 dX11_tryThing_150 ?_
    refine ev_zret dX11_tryThing_152 ?_ ?_
    · first | rfl | exact gx_b_nar _
    · obtain ⟨e9, e8⟩ := (tip_q h59 hT hag hbg hcc.2.2).2 b_139
      rw [b_139]
      exact ⟨_, rfl, J_ok e9 e8⟩
set_option maxRecDepth 10000 in
theorem m_try3 (d : Nat) (S : gx_S) {ng nd : Nat} {ms gk dk sb : Nat → Int32} (hm : mH S ng nd ms gk dk sb) (T : Tb) (hT : okT ms T) {a b : Nat} (ha : a < 10) (hb : b < 10) (L : gx_L) : Ci (d + 3) mX11_tryThing [.ref 44, .int 3, .int (nI a), .int (nI b)] (nS S 1 T) L (q_J S L ((if a = 0 then (if b = 0 then (p_taxes gk ms (p_hourT gk T), p_hourT gk T) else (-2, T)) else (-2, T)))) := by
  refine ct_intro (loc := [some (.ref 44), some (.int 3), some (.int (nI a)), some (.int (nI b)), none, none, none]) (by decide) (Nat.le_of_ble_eq_true rfl) rfl ?_
  have h59 := hm.2.1
  have h49 := hm.2.2.2.1
  refine ev_ild1 dX11_tryThing_0 ?_
  refine ev_tsw_in (off := 152) 153 dX11_tryThing_1 (by decide) (by decide) (by decide +kernel) (by decide) ?_
  refine ev_ald0 dX11_tryThing_153 ?_
  refine ev_iconst (v := 1) dX11_tryThing_154 (by decide) ?_
  refine ev_V1v (M' := mX11_passOn) dX11_tryThing_155 lk_X11_158 vX11_passOn rfl (m_passOn (d + 2) S hm (lv := 1) (by decide) T hT L) (Nat.le_refl _) (Nat.le_of_ble_eq_true rfl) ?_
  refine ev_ild2 dX11_tryThing_158 ?_
  refine ev_if_ne 170 dX11_tryThing_159 (by decide) (fun c_159 => ?_) (fun c_159 => ?_)
  · refine ev_iconst (v := 0) dX11_tryThing_170 (by decide) ?_
    refine ev_zret dX11_tryThing_171 ?_ ?_
    · first | rfl | exact gx_b_nar _
    · exact ⟨_, rfl, J_no (if_neg (fun h9 => c_159 (by rw [h9]; rfl))) (by decide)⟩
  · refine ev_ild3 dX11_tryThing_162 ?_
    refine ev_if_ne 170 dX11_tryThing_163 (by decide) (fun c_163 => ?_) (fun c_163 => ?_)
    · refine ev_iconst (v := 0) dX11_tryThing_170 (by decide) ?_
      refine ev_zret dX11_tryThing_171 ?_ ?_
      · first | rfl | exact gx_b_nar _
      · exact ⟨_, rfl, J_no ((if_pos ((nI_eq (by omega) (by decide)).mp c_159)).trans (if_neg (fun h9 => c_163 (by rw [h9]; rfl)))) (by decide)⟩
    · refine ev_iconst (v := 1) dX11_tryThing_166 (by decide) ?_
      refine ev_goto 171 dX11_tryThing_167 (by decide) ?_
      refine ev_zret dX11_tryThing_171 ?_ ?_
      · first | rfl | exact gx_b_nar _
      · obtain ⟨v9, hv9, e9⟩ := taxes_b gk (okT_hour (gk := gk) hT)
        exact ⟨_, rfl, J_ok ((if_pos ((nI_eq (by omega) (by decide)).mp c_159)).trans (if_pos ((nI_eq (by omega) (by decide)).mp c_163))) (by rw [e9]; exact nI_pos (by omega))⟩
set_option maxRecDepth 10000 in
theorem m_tryD (d : Nat) (S : gx_S) {ng nd : Nat} {ms gk dk sb : Nat → Int32} (hm : mH S ng nd ms gk dk sb) (T : Tb) (hT : okT ms T) {a b : Nat} (ha : a < 10) (hb : b < 10) {x : Nat} (hx : 4 ≤ x) (hx9 : x < 10) (L : gx_L) : Ci (d + 3) mX11_tryThing [.ref 44, .int (nI x), .int (nI a), .int (nI b)] (nS S 1 T) L (q_J S L (((-2, T) : Int32 × Tb))) := by
  refine ct_intro (loc := [some (.ref 44), some (.int (nI x)), some (.int (nI a)), some (.int (nI b)), none, none, none]) (by decide) (Nat.le_of_ble_eq_true rfl) rfl ?_
  have h59 := hm.2.1
  have h49 := hm.2.2.2.1
  refine ev_ild1 dX11_tryThing_0 ?_
  refine ev_tsw_out 172 dX11_tryThing_1 (Or.inr (by rw [nI_toInt (by omega)]; omega)) (by decide) ?_
  refine ev_iconst (v := 0) dX11_tryThing_172 (by decide) ?_
  refine ev_zret dX11_tryThing_173 ?_ ?_
  · first | rfl | exact gx_b_nar _
  · exact ⟨_, rfl, J_no rfl (by decide)⟩
theorem m_try (d : Nat) (S : gx_S) {ng nd : Nat} {ms gk dk sb : Nat → Int32} (hm : mH S ng nd ms gk dk sb) (T : Tb) (hT : okT ms T) {a b : Nat} (ha : a < 10) (hb : b < 10) {x : Nat} (hx : x < 10) (L : gx_L) : Ci (d + 3) mX11_tryThing [.ref 44, .int (nI x), .int (nI a), .int (nI b)] (nS S 1 T) L (q_J S L (p_tr (nI ng) (nI nd) ms gk dk sb T x a b)) := by
  rcases (show x = 0 ∨ x = 1 ∨ x = 2 ∨ x = 3 ∨ 4 ≤ x by omega) with h | h | h | h | h
  · subst h
    exact m_try0 d S hm T hT ha hb L
  · subst h
    exact m_try1 d S hm T hT ha hb L
  · subst h
    exact m_try2 d S hm T hT ha hb L
  · subst h
    exact m_try3 d S hm T hT ha hb L
  · have e : p_tr (nI ng) (nI nd) ms gk dk sb T x a b = (-2, T) := (if_neg (by omega)).trans ((if_neg (by omega)).trans ((if_neg (by omega)).trans (if_neg (by omega))))
    rw [e]
    exact m_tryD d S hm T hT ha hb h hx L
