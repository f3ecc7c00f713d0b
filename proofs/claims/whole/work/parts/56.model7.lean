theorem r_c {S : gx_S} {T : Tb} (h : mT (S 49) 0 = T) {g : Nat} (hg : g < 5) : S 49 g = T.1 g := by
  rw [← h]
  show _ = if g < 5 then S 49 (15 * 0 + g) else 0
  rw [if_pos hg, Nat.mul_zero, Nat.zero_add]
theorem r_a {S : gx_S} {T : Tb} (h : mT (S 49) 0 = T) {g : Nat} (hg : g < 5) : S 49 (5 + g) = T.2.1 g := by
  rw [← h]
  show _ = if g < 5 then S 49 (15 * 0 + 5 + g) else 0
  rw [if_pos hg, Nat.mul_zero, Nat.zero_add]
theorem r_t {S : gx_S} {T : Tb} (h : mT (S 49) 0 = T) {g : Nat} (hg : g < 4) : S 49 (10 + g) = T.2.2.1 g := by
  rw [← h]
  show _ = if g < 4 then S 49 (15 * 0 + 10 + g) else 0
  rw [if_pos hg, Nat.mul_zero, Nat.zero_add]
theorem r_h {S : gx_S} {T : Tb} (h : mT (S 49) 0 = T) : S 49 14 = T.2.2.2 := by
  rw [← h]
  rfl
theorem s_taxes (d : Nat) (S : gx_S) {ng nd : Nat} {ms gk dk sb : Nat → Int32} (hm : mH S ng nd ms gk dk sb) {T : Tb} (h0 : mT (S 49) 0 = T) (hT : okT ms T) (L : gx_L) : Cf (d + 1) mX11_taxes [.ref 44, .int 0] S L (p_taxes gk ms T) S L := by
  have h := m_taxes d S hm (lv := 0) (by decide) T hT L
  rw [← s0_T h0] at h
  exact h
theorem s_taxOn (d : Nat) (S : gx_S) {ng nd : Nat} {ms gk dk sb : Nat → Int32} (hm : mH S ng nd ms gk dk sb) {T : Tb} (h0 : mT (S 49) 0 = T) (hT : okT ms T) {g : Nat} (hg : g < ng) (L : gx_L) : Cf d mX11_taxOn [.ref 44, .int 0, .int (nI g)] S L (p_tax (gk g) (ms g) (T.1 g) (T.2.1 g)) S L := by
  have h59 := hm.2.1
  have h := m_taxOn d S hm (lv := 0) (by decide) hg T (okT_c hT (by omega)) L
  rw [← s0_T h0] at h
  exact h
theorem s_thirst (d : Nat) (S : gx_S) {ng nd : Nat} {ms gk dk sb : Nat → Int32} (hm : mH S ng nd ms gk dk sb) {T : Tb} (h0 : mT (S 49) 0 = T) (hz : ∀ d, nd ≤ d → T.2.2.1 d = 0) (L : gx_L) : Cf d mX11_thirst [.ref 44, .int 0, .int 1] S L (p_thirst T) S L := by
  have h := m_thirst1 d S hm (lv := 0) (by decide) T hz L
  rw [← s0_T h0] at h
  exact h
set_option maxRecDepth 10000 in
theorem ml_sitters (d : Nat) (S : gx_S) {ng nd : Nat} {ms gk dk sb : Nat → Int32} (hm : mH S ng nd ms gk dk sb) {j : Nat} (hj : j < ng) (L : gx_L) {Q : Option Value → gx_S → gx_L → Prop}  (kk : Ev mX11_sittersAt (d + 1) 41 [some (.ref 44), some (.int (nI j)), some (.int (p_sitN (nI ng) (nI nd) sb (nI j) (nd))), some (.int (nI (nd)))] [] (S) L Q) : ∀ (nn i : Nat), i + nn = nd → Ev mX11_sittersAt (d + 1) 4 [some (.ref 44), some (.int (nI j)), some (.int (p_sitN (nI ng) (nI nd) sb (nI j) (i))), some (.int (nI (i)))] [] (S) L Q := by
  intro nn
  induction nn with
  | zero =>
    intro i hi
    obtain rfl : i = nd := hi
    refine ev_ild3 dX11_sittersAt_4 ?_
    refine ev_ald0 dX11_sittersAt_5 ?_
    refine ev_geti dX11_sittersAt_6 fl_X11_105 rfl ?_
    refine ev_icmp_ge_t 41 dX11_sittersAt_9 (by decide) (by rw [hm.2.2.1]; exact nI_le (Nat.le_refl _) (by have := hm.2.2.2.1; omega)) ?_
    exact kk
  | succ nn ih =>
    intro i hi
    have h49 := hm.2.2.2.1
    have h59 := hm.2.1
    have hdd := hm.2.2.2.2.2.1 i (by omega)
    have hsi : p_sits (nI ng) (nI nd) sb (nI i) (nI j) = bt (sb i) j := sits_bt sb h59 h49 (by omega) (by omega) (fun h9 => absurd h9 (by omega))
    refine ev_ild3 dX11_sittersAt_4 ?_
    refine ev_ald0 dX11_sittersAt_5 ?_
    refine ev_geti dX11_sittersAt_6 fl_X11_105 rfl ?_
    refine ev_icmp_ge_f 41 dX11_sittersAt_9 (by decide) (by rw [hm.2.2.1]; exact nI_ge (by omega) (by have := hm.2.2.2.1; omega)) ?_
    refine ev_ild2 dX11_sittersAt_12 ?_
    refine ev_ald0 dX11_sittersAt_13 ?_
    refine ev_getr (r := 48) dX11_sittersAt_14 fl_X11_19 rfl ?_
    refine ev_ild3 dX11_sittersAt_17 ?_
    refine ev_iald' dX11_sittersAt_18 rfl (by omega) (by decide) ?_
    rw [hdd.2]
    refine ev_ild1 dX11_sittersAt_19 ?_
    refine ev_S2i (M' := mX11_has) dX11_sittersAt_20 lk_X11_77 sX11_has (m_has d _ _ _ _) (Nat.le_refl _) (Nat.le_of_ble_eq_true rfl) ?_
    refine ev_if_eq 32 dX11_sittersAt_23 (by decide) (fun c_23 => ?_) (fun c_23 => ?_)
    · have b_23 := gx_b_n.mp c_23
      refine ev_iconst (v := 0) dX11_sittersAt_32 (by decide) ?_
      refine ev_ior dX11_sittersAt_33 ?_
      refine ev_ist2 dX11_sittersAt_34 ?_
      refine ev_inc3 dX11_sittersAt_35 (nI_inc _) ?_
      refine ev_goto 4 dX11_sittersAt_38 (by decide) ?_
      have e := ih (i + 1) (by omega)
      simp only [p_sitN, hsi, if_neg b_23, ite_self] at e
      rw [Int32.or_zero]
      exact e
    · have b_23 := gx_b_y.mp c_23
      refine ev_iconst (v := 1) dX11_sittersAt_26 (by decide) ?_
      refine ev_ild3 dX11_sittersAt_27 ?_
      refine ev_ishl dX11_sittersAt_28 ?_
      refine ev_goto 33 dX11_sittersAt_29 (by decide) ?_
      refine ev_ior dX11_sittersAt_33 ?_
      refine ev_ist2 dX11_sittersAt_34 ?_
      refine ev_inc3 dX11_sittersAt_35 (nI_inc _) ?_
      refine ev_goto 4 dX11_sittersAt_38 (by decide) ?_
      have e := ih (i + 1) (by omega)
      simp only [p_sitN, hsi, if_pos b_23, ite_self] at e
      exact e
set_option maxRecDepth 10000 in
theorem m_sittersAt (d : Nat) (S : gx_S) {ng nd : Nat} {ms gk dk sb : Nat → Int32} (hm : mH S ng nd ms gk dk sb) {j : Nat} (hj : j < ng) (L : gx_L) : Cf (d + 1) mX11_sittersAt [.ref 44, .int (nI j)] S L (p_sitN (nI ng) (nI nd) sb (nI j) nd) S L := by
  refine ct_intro (loc := [some (.ref 44), some (.int (nI j)), none, none]) (by decide) (Nat.le_of_ble_eq_true rfl) rfl ?_
  refine ev_iconst (v := 0) dX11_sittersAt_0 (by decide) ?_
  refine ev_ist2 dX11_sittersAt_1 ?_
  refine ev_iconst (v := 0) dX11_sittersAt_2 (by decide) ?_
  refine ev_ist3 dX11_sittersAt_3 ?_
  refine ml_sitters d S hm hj L ?_ nd 0 (Nat.zero_add _)
  refine ev_ild2 dX11_sittersAt_41 ?_
  refine ev_iret dX11_sittersAt_42 ?_
  exact ⟨_, rfl, rfl, rfl, rfl⟩
set_option maxRecDepth 10000 in
theorem m_glass (d : Nat) (S : gx_S) {ng nd : Nat} {ms gk dk sb : Nat → Int32} (hm : mH S ng nd ms gk dk sb) {T : Tb} (h0 : mT (S 49) 0 = T) (hT : okT ms T) (g w : Int32) (L : gx_L) : Cf (d + 2) mX11_glass [.ref 44, .int g, .int w] S L (A_glass ng nd ms gk sb T g w) S L := by
  refine ct_intro (loc := [some (.ref 44), some (.int g), some (.int w)]) (by decide) (Nat.le_of_ble_eq_true rfl) rfl ?_
  have h59 := hm.2.1
  refine ev_ald0 dX11_glass_0 ?_
  refine ev_ild1 dX11_glass_1 ?_
  refine ev_V1i (M' := mX11_isGlass) dX11_glass_2 lk_X11_126 vX11_isGlass rfl (m_isGlass d S hm.1 hm.2.1 _ L) (Nat.le_refl _) (Nat.le_of_ble_eq_true rfl) ?_
  refine ev_if_ne 10 dX11_glass_5 (by decide) (fun c_5 => ?_) (fun c_5 => ?_)
  · have b_5 := gx_b_y.mp c_5
    obtain ⟨j, hj, rfl, ej⟩ := isG_of (by omega) b_5
    have hgg := hm.2.2.2.2.1 j hj
    refine ev_ild2 dX11_glass_10 ?_
    rcases Decidable.em (w = 0) with hw0 | hw0
    · subst hw0
      refine ev_tsw_in (off := 37) 48 dX11_glass_11 (by decide) (by decide) (by decide +kernel) (by decide) ?_
      refine ev_ald0 dX11_glass_48 ?_
      refine ev_getr (r := 45) dX11_glass_49 fl_X11_7 rfl ?_
      refine ev_ild1 dX11_glass_52 ?_
      refine ev_iald' dX11_glass_53 rfl (by omega) (by decide) ?_
      rw [hgg.1]
      refine ev_iret dX11_glass_54 ?_
      exact ⟨_, rfl, by unfold A_glass; rw [if_pos (b_5), if_pos rfl, ej] <;> rfl, rfl, rfl⟩
    · skip
      rcases Decidable.em (w = 1) with hw1 | hw1
      · subst hw1
        refine ev_tsw_in (off := 44) 55 dX11_glass_11 (by decide) (by decide) (by decide +kernel) (by decide) ?_
        refine ev_ald0 dX11_glass_55 ?_
        refine ev_getr (r := 49) dX11_glass_56 fl_X11_22 rfl ?_
        refine ev_ild1 dX11_glass_59 ?_
        refine ev_iald' dX11_glass_60 rfl (by omega) (by decide) ?_
        rw [r_c h0 (by omega)]
        refine ev_iret dX11_glass_61 ?_
        exact ⟨_, rfl, by unfold A_glass; rw [if_pos (b_5), if_neg (by decide), if_pos rfl, ej] <;> rfl, rfl, rfl⟩
      · skip
        rcases Decidable.em (w = 2) with hw2 | hw2
        · subst hw2
          refine ev_tsw_in (off := 51) 62 dX11_glass_11 (by decide) (by decide) (by decide +kernel) (by decide) ?_
          refine ev_ald0 dX11_glass_62 ?_
          refine ev_getr (r := 46) dX11_glass_63 fl_X11_13 rfl ?_
          refine ev_ild1 dX11_glass_66 ?_
          refine ev_iald' dX11_glass_67 rfl (by omega) (by decide) ?_
          rw [hgg.2]
          refine ev_iret dX11_glass_68 ?_
          exact ⟨_, rfl, by unfold A_glass; rw [if_pos (b_5), if_neg (by decide), if_neg (by decide), if_pos rfl, ej] <;> rfl, rfl, rfl⟩
        · skip
          rcases Decidable.em (w = 3) with hw3 | hw3
          · subst hw3
            refine ev_tsw_in (off := 58) 69 dX11_glass_11 (by decide) (by decide) (by decide +kernel) (by decide) ?_
            refine ev_ald0 dX11_glass_69 ?_
            refine ev_getr (r := 49) dX11_glass_70 fl_X11_22 rfl ?_
            refine ev_iconst (v := 5) dX11_glass_73 (by decide) ?_
            refine ev_ild1 dX11_glass_74 ?_
            refine ev_iadd dX11_glass_75 ?_
            refine ev_iald2 (j := 5 + j) dX11_glass_76 rfl (ix2 5 _) (by omega) (by first | decide | omega) ?_
            rw [r_a h0 (by omega)]
            refine ev_iret dX11_glass_77 ?_
            exact ⟨_, rfl, by unfold A_glass; rw [if_pos (b_5), if_neg (by decide), if_neg (by decide), if_neg (by decide), if_pos rfl, ej] <;> rfl, rfl, rfl⟩
          · skip
            rcases Decidable.em (w = 4) with hw4 | hw4
            · subst hw4
              refine ev_tsw_in (off := 67) 78 dX11_glass_11 (by decide) (by decide) (by decide +kernel) (by decide) ?_
              refine ev_ald0 dX11_glass_78 ?_
              refine ev_iconst (v := 0) dX11_glass_79 (by decide) ?_
              refine ev_ild1 dX11_glass_80 ?_
              refine ev_V2i (M' := mX11_taxOn) dX11_glass_81 lk_X11_122 vX11_taxOn rfl (s_taxOn (d + 1) S hm h0 hT hj L) (Nat.le_refl _) (Nat.le_of_ble_eq_true rfl) ?_
              refine ev_iret dX11_glass_84 ?_
              exact ⟨_, rfl, by unfold A_glass; rw [if_pos (b_5), if_neg (by decide), if_neg (by decide), if_neg (by decide), if_neg (by decide), if_pos rfl, ej] <;> rfl, rfl, rfl⟩
            · skip
              rcases Decidable.em (w = 5) with hw5 | hw5
              · subst hw5
                refine ev_tsw_in (off := 74) 85 dX11_glass_11 (by decide) (by decide) (by decide +kernel) (by decide) ?_
                refine ev_ald0 dX11_glass_85 ?_
                refine ev_ild1 dX11_glass_86 ?_
                refine ev_V1i (M' := mX11_sittersAt) dX11_glass_87 lk_X11_130 vX11_sittersAt rfl (m_sittersAt d S hm hj L) (Nat.le_refl _) (Nat.le_of_ble_eq_true rfl) ?_
                refine ev_iret dX11_glass_90 ?_
                exact ⟨_, rfl, by unfold A_glass; rw [if_pos (b_5), if_neg (by decide), if_neg (by decide), if_neg (by decide), if_neg (by decide), if_neg (by decide), if_pos rfl] <;> rfl, rfl, rfl⟩
              · skip
                refine ev_tsw_out 91 dX11_glass_11 (sw_out6 hw0 hw1 hw2 hw3 hw4 hw5) (by decide) ?_
                refine ev_bipush (v := (-2)) dX11_glass_91 (by decide) ?_
                refine ev_iret dX11_glass_93 ?_
                exact ⟨_, rfl, by unfold A_glass; rw [if_pos (b_5), if_neg hw0, if_neg hw1, if_neg hw2, if_neg hw3, if_neg hw4, if_neg hw5], rfl, rfl⟩
  · have b_5 := gx_b_n.mp c_5
    refine ev_iconst (v := (-1)) dX11_glass_8 (by decide) ?_
    refine ev_iret dX11_glass_9 ?_
    exact ⟨_, rfl, (if_neg (b_5)).symm, rfl, rfl⟩
def foN (b : Int32) : Nat → Int32
  | 0 => -9
  | n + 1 => if bt b (4 - n) = true then nI (4 - n) else foN b n
theorem fo_q : ∀ s : Fin 32, (s : Nat) ≠ 0 → ∃ k : Fin 5, foN (nI s) 5 = nI k ∧ bt (nI s) k = true ∧ ∀ i : Fin 5, i < k → bt (nI s) i = false := by decide +kernel
theorem first_at {dk sb : Nat → Int32} {T : Tb} {d k : Nat} (hk : k < 5) (h1 : bt (sb d) k = true) (h2 : ∀ i, i < k → bt (sb d) i = false) : p_firstN dk sb T d 5 = p_gulp (dk d) (T.2.2.1 d) (T.1 k) := by
  have step : ∀ n, n + 1 ≤ 5 → k ≤ 4 - n → True := fun _ _ _ => trivial
  rcases (show k = 0 ∨ k = 1 ∨ k = 2 ∨ k = 3 ∨ k = 4 by omega) with rfl | rfl | rfl | rfl | rfl
  · simp only [p_firstN, h1, if_true]
  · simp only [p_firstN, h1, h2 0 (by decide), if_true, Bool.false_eq_true, if_false]
  · simp only [p_firstN, h1, h2 0 (by decide), h2 1 (by decide), if_true, Bool.false_eq_true, if_false]
  · simp only [p_firstN, h1, h2 0 (by decide), h2 1 (by decide), h2 2 (by decide), if_true, Bool.false_eq_true, if_false]
  · simp only [p_firstN, h1, h2 0 (by decide), h2 1 (by decide), h2 2 (by decide), h2 3 (by decide), if_true, Bool.false_eq_true, if_false]
theorem first_no {dk sb : Nat → Int32} {T : Tb} {d : Nat} (h : ∀ i, i < 5 → bt (sb d) i = false) : ∀ n, n ≤ 5 → p_firstN dk sb T d n = 0
  | 0, _ => rfl
  | n + 1, hn => by
    show (if bt (sb d) (4 - n) = true then _ else _) = _
    rw [h (4 - n) (by omega), if_neg (by decide)]
    exact first_no h n (by omega)
theorem bt_0 : ∀ i, i < 5 → bt 0 i = false := by decide +kernel
set_option maxRecDepth 10000 in
theorem m_firstOf (d : Nat) (b : Int32) (S : gx_S) (L : gx_L) : Cf (d + 1) mX11_firstOf [.int b] S L (foN b 5) S L := by
  refine ct_intro (loc := [some (.int b), none]) (by decide) (Nat.le_of_ble_eq_true rfl) rfl ?_
  refine ev_iconst (v := 0) dX11_firstOf_0 (by decide) ?_
  refine ev_ist1 dX11_firstOf_1 ?_
  have loop : ∀ (n i : Nat), i + n = 5 → foN b n = foN b 5 → Ev mX11_firstOf (d + 1) 2 [some (.int b), some (.int (nI i))] [] S L (fun v S' L' => ∃ r : Int32, v = some (.int r) ∧ r = foN b 5 ∧ S' = S ∧ L' = L) := by
    intro n
    induction n with
    | zero =>
      intro i hi hy
      obtain rfl : i = 5 := hi
      refine ev_ild1 dX11_firstOf_2 ?_
      refine ev_iconst (v := 5) dX11_firstOf_3 (by decide) ?_
      refine ev_icmp_ge_t 23 dX11_firstOf_4 (by decide) (by decide) ?_
      refine ev_bipush (v := (-9)) dX11_firstOf_23 (by decide) ?_
      refine ev_iret dX11_firstOf_25 ?_
      exact ⟨_, rfl, hy, rfl, rfl⟩
    | succ n ih =>
      intro i hi hy
      have e4 : 4 - n = i := by omega
      refine ev_ild1 dX11_firstOf_2 ?_
      refine ev_iconst (v := 5) dX11_firstOf_3 (by decide) ?_
      refine ev_icmp_ge_f 23 dX11_firstOf_4 (by decide) (nI_ge (b := 5) (by omega) (by decide)) ?_
      refine ev_ild0 dX11_firstOf_7 ?_
      refine ev_ild1 dX11_firstOf_8 ?_
      refine ev_S2i (M' := mX11_has) dX11_firstOf_9 lk_X11_77 sX11_has (m_has d _ _ _ _) (Nat.le_refl _) (Nat.le_of_ble_eq_true rfl) ?_
      refine ev_if_eq 17 dX11_firstOf_12 (by decide) (fun c_12 => ?_) (fun c_12 => ?_)
      · have b_12 := gx_b_n.mp c_12
        refine ev_inc1 dX11_firstOf_17 (nI_inc _) ?_
        refine ev_goto 2 dX11_firstOf_20 (by decide) ?_
        exact ih (i + 1) (by omega) (by rw [← hy]; exact (if_neg (e4 ▸ b_12)).symm)
      · have b_12 := gx_b_y.mp c_12
        refine ev_ild1 dX11_firstOf_15 ?_
        refine ev_iret dX11_firstOf_16 ?_
        exact ⟨_, rfl, by rw [← hy]; exact ((if_pos (e4 ▸ b_12)).trans (by rw [e4])).symm, rfl, rfl⟩
  exact loop 5 0 rfl rfl
set_option maxRecDepth 10000 in
theorem m_drinker (d : Nat) (S : gx_S) {ng nd : Nat} {ms gk dk sb : Nat → Int32} (hm : mH S ng nd ms gk dk sb) {T : Tb} (h0 : mT (S 49) 0 = T) (hT : okT ms T) (hsb : ∀ d, d < nd → ∃ s, s < 32 ∧ sb d = nI s) (g w : Int32) (L : gx_L) : Cf (d + 2) mX11_drinker [.ref 44, .int g, .int w] S L (A_drinker nd dk sb T g w) S L := by
  refine ct_intro (loc := [some (.ref 44), some (.int g), some (.int w)]) (by decide) (Nat.le_of_ble_eq_true rfl) rfl ?_
  have h49 := hm.2.2.2.1
  refine ev_ald0 dX11_drinker_0 ?_
  refine ev_ild1 dX11_drinker_1 ?_
  refine ev_V1i (M' := mX11_isDrinker) dX11_drinker_2 lk_X11_133 vX11_isDrinker rfl (m_isDrinker d S hm.2.2.1 (by have := hm.2.2.2.1; omega) _ L) (Nat.le_refl _) (Nat.le_of_ble_eq_true rfl) ?_
  refine ev_if_ne 10 dX11_drinker_5 (by decide) (fun c_5 => ?_) (fun c_5 => ?_)
  · have b_5 := gx_b_y.mp c_5
    obtain ⟨j, hj, rfl, ej⟩ := isG_of (by omega) b_5
    have hdd := hm.2.2.2.2.2.1 j hj
    refine ev_ild2 dX11_drinker_10 ?_
    rcases Decidable.em (w = 0) with hw0 | hw0
    · subst hw0
      refine ev_tsw_in (off := 29) 40 dX11_drinker_11 (by decide) (by decide) (by decide +kernel) (by decide) ?_
      refine ev_ald0 dX11_drinker_40 ?_
      refine ev_getr (r := 49) dX11_drinker_41 fl_X11_22 rfl ?_
      refine ev_bipush (v := 10) dX11_drinker_44 (by decide) ?_
      refine ev_ild1 dX11_drinker_46 ?_
      refine ev_iadd dX11_drinker_47 ?_
      refine ev_iald2 (j := 10 + j) dX11_drinker_48 rfl (ix2 10 _) (by omega) (by first | decide | omega) ?_
      rw [r_t h0 (by omega)]
      refine ev_iret dX11_drinker_49 ?_
      exact ⟨_, rfl, by unfold A_drinker; rw [if_pos (b_5), if_pos rfl, ej] <;> rfl, rfl, rfl⟩
    · skip
      rcases Decidable.em (w = 1) with hw1 | hw1
      · subst hw1
        refine ev_tsw_in (off := 39) 50 dX11_drinker_11 (by decide) (by decide) (by decide +kernel) (by decide) ?_
        refine ev_ald0 dX11_drinker_50 ?_
        refine ev_getr (r := 47) dX11_drinker_51 fl_X11_16 rfl ?_
        refine ev_ild1 dX11_drinker_54 ?_
        refine ev_iald' dX11_drinker_55 rfl (by omega) (by decide) ?_
        rw [hdd.1]
        refine ev_iret dX11_drinker_56 ?_
        exact ⟨_, rfl, by unfold A_drinker; rw [if_pos (b_5), if_neg (by decide), if_pos rfl, ej] <;> rfl, rfl, rfl⟩
      · skip
        rcases Decidable.em (w = 2) with hw2 | hw2
        · subst hw2
          refine ev_tsw_in (off := 46) 57 dX11_drinker_11 (by decide) (by decide) (by decide +kernel) (by decide) ?_
          refine ev_ald0 dX11_drinker_57 ?_
          refine ev_getr (r := 48) dX11_drinker_58 fl_X11_19 rfl ?_
          refine ev_ild1 dX11_drinker_61 ?_
          refine ev_iald' dX11_drinker_62 rfl (by omega) (by decide) ?_
          rw [hdd.2]
          refine ev_iret dX11_drinker_63 ?_
          exact ⟨_, rfl, by unfold A_drinker; rw [if_pos (b_5), if_neg (by decide), if_neg (by decide), if_pos rfl, ej] <;> rfl, rfl, rfl⟩
        · skip
          rcases Decidable.em (w = 3) with hw3 | hw3
          · subst hw3
            refine ev_tsw_in (off := 53) 64 dX11_drinker_11 (by decide) (by decide) (by decide +kernel) (by decide) ?_
            refine ev_ald0 dX11_drinker_64 ?_
            refine ev_getr (r := 48) dX11_drinker_65 fl_X11_19 rfl ?_
            refine ev_ild1 dX11_drinker_68 ?_
            refine ev_iald' dX11_drinker_69 rfl (by omega) (by decide) ?_
            rw [hdd.2]
            refine ev_if_ne 77 dX11_drinker_70 (by decide) (fun c_70 => ?_) (fun c_70 => ?_)
            · obtain ⟨sv, hs1, hs2⟩ := hsb j hj
              obtain ⟨k, hk1, hk2, hk3⟩ := fo_q ⟨sv, hs1⟩ (fun h9 => c_70 (by rw [hs2, show sv = 0 from h9]; rfl))
              rw [show nI ((⟨sv, hs1⟩ : Fin 32) : Nat) = sb j from hs2.symm] at hk1 hk2
              have hk3 : ∀ i : Fin 5, i < k → bt (sb j) i = false := by rw [hs2]; exact hk3
              refine ev_ald0 dX11_drinker_77 ?_
              refine ev_getr (r := 49) dX11_drinker_78 fl_X11_22 rfl ?_
              refine ev_bipush (v := 10) dX11_drinker_81 (by decide) ?_
              refine ev_ild1 dX11_drinker_83 ?_
              refine ev_iadd dX11_drinker_84 ?_
              refine ev_iald2 (j := 10 + j) dX11_drinker_85 rfl (ix2 10 _) (by omega) (by first | decide | omega) ?_
              rw [r_t h0 (by omega)]
              refine ev_ald0 dX11_drinker_86 ?_
              refine ev_getr (r := 49) dX11_drinker_87 fl_X11_22 rfl ?_
              refine ev_ald0 dX11_drinker_90 ?_
              refine ev_getr (r := 48) dX11_drinker_91 fl_X11_19 rfl ?_
              refine ev_ild1 dX11_drinker_94 ?_
              refine ev_iald' dX11_drinker_95 rfl (by omega) (by decide) ?_
              rw [hdd.2]
              refine ev_S1i (M' := mX11_firstOf) dX11_drinker_96 lk_X11_136 sX11_firstOf (m_firstOf d _ _ _) (Nat.le_refl _) (Nat.le_of_ble_eq_true rfl) ?_
              rw [hk1]
              refine ev_iald' dX11_drinker_99 rfl (by have := k.2; omega) (by decide) ?_
              rw [r_c h0 k.2]
              refine ev_ald0 dX11_drinker_100 ?_
              refine ev_getr (r := 47) dX11_drinker_101 fl_X11_16 rfl ?_
              refine ev_ild1 dX11_drinker_104 ?_
              refine ev_iald' dX11_drinker_105 rfl (by omega) (by decide) ?_
              rw [hdd.1]
              refine ev_S3i (M' := mX11_drinks) dX11_drinker_106 lk_X11_111 sX11_drinks (m_drinks (d + 1) _ _ _ (okT_c hT k.2) _ _) (Nat.le_refl _) (Nat.le_of_ble_eq_true rfl) ?_
              refine ev_iret dX11_drinker_109 ?_
              have e9 : A_drinker nd dk sb T (nI j) 3 = p_firstN dk sb T j 5 := by unfold A_drinker; rw [if_pos b_5, if_neg (by decide), if_neg (by decide), if_neg (by decide), if_pos rfl, ej]
              exact ⟨_, rfl, by rw [e9, first_at k.2 hk2 (fun i hi => hk3 ⟨i, by omega⟩ hi)], rfl, rfl⟩
            · refine ev_iconst (v := 0) dX11_drinker_73 (by decide) ?_
              refine ev_goto 109 dX11_drinker_74 (by decide) ?_
              refine ev_iret dX11_drinker_109 ?_
              have e9 : A_drinker nd dk sb T (nI j) 3 = p_firstN dk sb T j 5 := by unfold A_drinker; rw [if_pos b_5, if_neg (by decide), if_neg (by decide), if_neg (by decide), if_pos rfl, ej]
              exact ⟨_, rfl, by rw [e9, first_no (fun i hi => by rw [c_70]; exact bt_0 i hi) 5 (Nat.le_refl 5)], rfl, rfl⟩
          · skip
            refine ev_tsw_out 110 dX11_drinker_11 (sw_out4 hw0 hw1 hw2 hw3) (by decide) ?_
            refine ev_bipush (v := (-2)) dX11_drinker_110 (by decide) ?_
            refine ev_iret dX11_drinker_112 ?_
            exact ⟨_, rfl, by unfold A_drinker; rw [if_pos (b_5), if_neg hw0, if_neg hw1, if_neg hw2, if_neg hw3], rfl, rfl⟩
  · have b_5 := gx_b_n.mp c_5
    refine ev_iconst (v := (-1)) dX11_drinker_8 (by decide) ?_
    refine ev_iret dX11_drinker_9 ?_
    exact ⟨_, rfl, (if_neg (b_5)).symm, rfl, rfl⟩
