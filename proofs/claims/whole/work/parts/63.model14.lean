theorem in14 (n : Int32) : inL n.toInt64 1 4 = decide (¬ n < 1 ∧ ¬ 4 < n) := inL_32 n 1 4
theorem lN_sub1 {a : Nat} (h : 1 ≤ a) : lN a - 1 = lN (a - 1) := by
  have h1 : lN (a - 1) + lN 1 = lN (a - 1 + 1) := (Int64.ofNat_add _ _).symm
  rw [Nat.sub_add_cancel h] at h1
  rw [← h1]
  exact Int64.add_sub_cancel _ _
theorem okT_pour {ms : Nat → Int32} {T : Tb} {ng : Nat} (h5 : ng ≤ 5) (h : okT ms T) (g n : Int32) : okT ms (p_pour (nI ng) ms T g n).2 := by
  unfold p_pour
  split
  · rename_i hb
    obtain ⟨j, hj, rfl, ej⟩ := isG_of (by omega) hb
    rw [ej]
    split
    · exact h
    · rename_i h1
      split
      · rename_i h2
        obtain ⟨⟨a, m, ha, hm, ham, hm9⟩, b, hbb, hb9⟩ := h.1 j (by omega)
        have hn : ∃ k, k ≤ 9 ∧ n = nI k := by
          obtain ⟨k, hk, e, -⟩ := isG_of (n := 10) (by decide) (g := n) (decide_eq_true ⟨fun h9 => h1 (Int32.lt_of_lt_of_le h9 (by decide)), Int32.not_le.mpr (Int32.lt_of_le_of_lt h2 (by decide))⟩)
          exact ⟨k, by omega, e⟩
        obtain ⟨k, hk, rfl⟩ := hn
        have key : ∀ w : Nat, w ≤ m - a → okT ms (upd T.1 j (T.1 j + nI w), upd T.2.1 j 0, T.2.2) := by
          intro w hw
          refine ⟨fun i hi => ?_, h.2⟩
          by_cases e : i = j
          · subst e
            exact ⟨⟨a + w, m, by show upd T.1 i (T.1 i + nI w) i = _; rw [upd_at, ha, nI_add], hm, by omega, hm9⟩, 0, upd_at _ _ _, by omega⟩
          · obtain ⟨⟨a', m', h3, h4⟩, q, h5', h6⟩ := h.1 i hi
            exact ⟨⟨a', m', (upd_ne _ _ e).trans h3, h4⟩, q, (upd_ne _ _ e).trans h5', h6⟩
        dsimp only
        rw [show ms j - T.1 j = nI (m - a) by rw [hm, ha, nI_sub ham]]
        split
        · split
          · exact key _ (Nat.le_refl _)
          · exact h
        · rename_i h3
          split
          · refine key k ?_
            rcases Nat.lt_or_ge (m - a) k with h4 | h4
            · exact absurd (nI_lt h4 (by omega)) h3
            · exact h4
          · exact h
      · exact h
  · exact h
theorem okT_tip {ms : Nat → Int32} {T : Tb} {ng : Nat} (h5 : ng ≤ 5) (h : okT ms T) (g q : Int32) : okT ms (p_tip (nI ng) ms T g q).2 := by
  unfold p_tip
  split
  · rename_i hb
    obtain ⟨j, hj, rfl, ej⟩ := isG_of (by omega) hb
    split
    · rename_i hc
      obtain ⟨k, hk, rfl, ek⟩ := isG_of (by omega) hc
      rw [ej, ek]
      split
      · exact h
      · rename_i hne
        have hne' : k ≠ j := fun h9 => hne (by rw [h9])
        obtain ⟨⟨a, m, ha, hm, ham, hm9⟩, b, hbb, hb9⟩ := h.1 j (by omega)
        obtain ⟨⟨c, m2, hc1, hm2, hcm, hm29⟩, b2, hbb2, hb29⟩ := h.1 k (by omega)
        have key : ∀ w : Nat, w ≤ a → w ≤ m2 - c → ∀ x y, x = nI y → y ≤ 9 → okT ms (upd (upd T.1 j (T.1 j - nI w)) k (T.1 k + nI w), upd T.2.1 k x, T.2.2) := by
          intro w hw hw2 x y hx hy
          refine ⟨fun i hi => ?_, h.2⟩
          by_cases e : i = k
          · subst e
            exact ⟨⟨c + w, m2, by show upd _ i (T.1 i + nI w) i = _; rw [upd_at, hc1, nI_add], hm2, by omega, hm29⟩, y, (upd_at _ _ _).trans hx, hy⟩
          · by_cases e2 : i = j
            · subst e2
              exact ⟨⟨a - w, m, by show upd (upd T.1 i (T.1 i - nI w)) k _ i = _; rw [upd_ne _ _ e, upd_at, ha, nI_sub hw], hm, by omega, hm9⟩, b, (upd_ne _ _ e).trans hbb, hb9⟩
            · obtain ⟨⟨a', m', h3, h4⟩, q', h5', h6⟩ := h.1 i hi
              exact ⟨⟨a', m', ((upd_ne _ _ e).trans (upd_ne _ _ e2)).trans h3, h4⟩, q', (upd_ne _ _ e).trans h5', h6⟩
        have hage : ∃ y, (if T.2.1 j < T.2.1 k then T.2.1 k else T.2.1 j) = nI y ∧ y ≤ 9 := by
          split
          · exact ⟨b2, hbb2, hb29⟩
          · exact ⟨b, hbb, hb9⟩
        obtain ⟨y, hy1, hy2⟩ := hage
        dsimp only
        rw [show ms k - T.1 k = nI (m2 - c) by rw [hm2, hc1, nI_sub hcm], show (if nI (m2 - c) < T.1 j then nI (m2 - c) else T.1 j) = nI (if m2 - c < a then m2 - c else a) by
          rw [ha]
          by_cases h9 : m2 - c < a
          · rw [if_pos h9, if_pos (nI_lt h9 (by omega))]
          · rw [if_neg h9, if_neg (Int32.not_lt.mpr (nI_le (by omega) (by omega)))]]
        have hw : (if m2 - c < a then m2 - c else a) ≤ a ∧ (if m2 - c < a then m2 - c else a) ≤ m2 - c := by
          split <;> omega
        generalize (if m2 - c < a then m2 - c else a) = w at hw ⊢
        split
        · exact key _ hw.1 hw.2 _ y hy1 hy2
        · exact h
    · exact h
  · exact h
theorem okT_told {ms gk dk sb : Nat → Int32} {T : Tb} {ng nd : Nat} (h5 : ng ≤ 5) (h4 : nd ≤ 4) (h : okT ms T) (k : Nat) : okT ms (p_told (nI ng) (nI nd) ms gk dk sb T k).2 := by
  unfold p_told
  split
  · exact okT_pour h5 h _ _
  · split
    · exact okT_drink h5 h4 h _ _
    · split
      · exact okT_tip h5 h _ _
      · split
        · split
          · split
            · exact okT_hour h
            · exact h
          · exact h
        · exact h
theorem zD_pour {ms : Nat → Int32} {T : Tb} {ng nd : Nat} (h : zD nd T) (g n : Int32) : zD nd (p_pour (nI ng) ms T g n).2 := by
  have e : (p_pour (nI ng) ms T g n).2.2.2 = T.2.2 := by
    unfold p_pour
    dsimp only
    split
    · split
      · rfl
      · split
        · split <;> split <;> rfl
        · rfl
    · rfl
  intro d hd
  rw [e]
  exact h d hd
theorem zD_tip {ms : Nat → Int32} {T : Tb} {ng nd : Nat} (h : zD nd T) (g n : Int32) : zD nd (p_tip (nI ng) ms T g n).2 := by
  have e : (p_tip (nI ng) ms T g n).2.2.2 = T.2.2 := by
    unfold p_tip
    dsimp only
    split
    · split
      · split
        · rfl
        · split <;> split <;> rfl
      · rfl
    · rfl
  intro d hd
  rw [e]
  exact h d hd
set_option maxRecDepth 10000 in
theorem ml_th (d : Nat) (S : gx_S) {k : Nat} (hk : k ≤ 4) (L : gx_L) {Q : Option Value → gx_S → gx_L → Prop}  (kk : Ev mX11_thousandTo (d) 21 [some (.int (nI k)), some (.long (lN (1000 ^ (k)))), none, some (.int (nI (k)))] [] (S) L Q) : ∀ (nn i : Nat), i + nn = k → Ev mX11_thousandTo (d) 4 [some (.int (nI k)), some (.long (lN (1000 ^ (i)))), none, some (.int (nI (i)))] [] (S) L Q := by
  intro nn
  induction nn with
  | zero =>
    intro i hi
    obtain rfl : i = k := hi
    refine ev_ild3 dX11_thousandTo_4 ?_
    refine ev_ild0 dX11_thousandTo_5 ?_
    refine ev_icmp_ge_t 21 dX11_thousandTo_6 (by decide) (nI_le (Nat.le_refl _) (by omega)) ?_
    exact kk
  | succ nn ih =>
    intro i hi
    refine ev_ild3 dX11_thousandTo_4 ?_
    refine ev_ild0 dX11_thousandTo_5 ?_
    refine ev_icmp_ge_f 21 dX11_thousandTo_6 (by decide) (nI_ge (by omega) (by omega)) ?_
    refine ev_lld1 dX11_thousandTo_9 ?_
    refine ev_ldc2 dX11_thousandTo_10 kc_X11_189 ?_
    refine ev_lmul dX11_thousandTo_13 ?_
    rw [show lN (1000 ^ i) * 1000 = lN (1000 ^ (i + 1)) from by rw [show (1000 : Int64) = lN 1000 from rfl, lN_mul, Nat.pow_succ]]
    refine ev_lst1 dX11_thousandTo_14 ?_
    refine ev_inc3 dX11_thousandTo_15 (nI_inc _) ?_
    refine ev_goto 4 dX11_thousandTo_18 (by decide) ?_
    exact ih (i + 1) (by omega)
set_option maxRecDepth 10000 in
theorem m_th (d : Nat) (S : gx_S) {k : Nat} (hk : k ≤ 4) (L : gx_L) : Cg d mX11_thousandTo [.int (nI k)] S L (lN (1000 ^ k)) S L := by
  refine ct_intro (loc := [some (.int (nI k)), none, none, none]) (by decide) (Nat.le_of_ble_eq_true rfl) rfl ?_
  refine ev_lconst (v := 1) dX11_thousandTo_0 (by decide) ?_
  refine ev_lst1 dX11_thousandTo_1 ?_
  refine ev_iconst (v := 0) dX11_thousandTo_2 (by decide) ?_
  refine ev_ist3 dX11_thousandTo_3 ?_
  refine ml_th d S hk L ?_ k 0 (Nat.zero_add _)
  refine ev_lld1 dX11_thousandTo_21 ?_
  refine ev_lret dX11_thousandTo_22 ?_
  exact ⟨_, rfl, rfl, rfl, rfl⟩
set_option maxRecDepth 10000 in
theorem m_judge0 (d : Nat) (S : gx_S) {x : Int32} (hb : x < 1 ∨ 4 < x) (row : Int64) (L : gx_L) : Cf (d + 1) mX11_judge [.ref 44, .int x, .long row] S L (-2) S L := by
  refine ct_intro (loc := [some (.ref 44), some (.int x), some (.long row), none, none, none]) (by decide) (Nat.le_of_ble_eq_true rfl) rfl ?_
  refine ev_ild1 dX11_judge_0 ?_
  refine ev_i2l dX11_judge_1 ?_
  refine ev_lconst (v := 1) dX11_judge_2 (by decide) ?_
  refine ev_ldc2 dX11_judge_3 kc_X11_191 ?_
  refine ev_S3i (M' := mX11_in) dX11_judge_6 lk_X11_62 sX11_in (m_in d _ _ _ _ _) (Nat.le_refl _) (Nat.le_of_ble_eq_true rfl) ?_
  refine ev_if_eq 26 dX11_judge_9 (by decide) (fun c_9 => ?_) (fun c_9 => ?_)
  · have b_9 := gx_b_n.mp c_9
    refine ev_bipush (v := (-2)) dX11_judge_26 (by decide) ?_
    refine ev_iret dX11_judge_28 ?_
    exact ⟨_, rfl, rfl, rfl, rfl⟩
  · have b_9 := gx_b_y.mp c_9
    exact absurd hb (fun h9 => h9.elim (of_decide_eq_true ((in14 x).symm.trans b_9)).1 (of_decide_eq_true ((in14 x).symm.trans b_9)).2)
set_option maxRecDepth 10000 in
theorem m_judge1 (d : Nat) (S : gx_S) {k : Nat} (hk1 : 1 ≤ k) (hk : k ≤ 4) {row : Int64} (hb : row < 0 ∨ lN (1000 ^ k) ≤ row) (L : gx_L) : Cf (d + 1) mX11_judge [.ref 44, .int (nI k), .long row] S L (-2) S L := by
  refine ct_intro (loc := [some (.ref 44), some (.int (nI k)), some (.long row), none, none, none]) (by decide) (Nat.le_of_ble_eq_true rfl) rfl ?_
  have hp := p1000 k hk
  have hm0 : 1 ≤ 1000 ^ k := Nat.pow_pos (by decide)
  refine ev_ild1 dX11_judge_0 ?_
  refine ev_i2l dX11_judge_1 ?_
  refine ev_lconst (v := 1) dX11_judge_2 (by decide) ?_
  refine ev_ldc2 dX11_judge_3 kc_X11_191 ?_
  refine ev_S3i (M' := mX11_in) dX11_judge_6 lk_X11_62 sX11_in (m_in d _ _ _ _ _) (Nat.le_refl _) (Nat.le_of_ble_eq_true rfl) ?_
  refine ev_if_eq_f 26 dX11_judge_9 (by decide) (gb_t ((in14 _).trans (decide_eq_true ⟨nI_nlt (b := 1) hk1 (by omega), Int32.not_lt.mpr (nI_le (b := 4) hk (by decide))⟩))) ?_
  refine ev_lld2 dX11_judge_12 ?_
  refine ev_lconst (v := 0) dX11_judge_13 (by decide) ?_
  refine ev_ild1 dX11_judge_14 ?_
  refine ev_S1l (M' := mX11_thousandTo) dX11_judge_15 lk_X11_193 sX11_thousandTo (m_th d S hk L) (Nat.le_refl _) (Nat.le_of_ble_eq_true rfl) ?_
  refine ev_lconst (v := 1) dX11_judge_18 (by decide) ?_
  refine ev_lsub dX11_judge_19 ?_
  rw [lN_sub1 hm0]
  refine ev_S3i (M' := mX11_in) dX11_judge_20 lk_X11_62 sX11_in (m_in d _ _ _ _ _) (Nat.le_refl _) (Nat.le_of_ble_eq_true rfl) ?_
  refine ev_if_ne 29 dX11_judge_23 (by decide) (fun c_23 => ?_) (fun c_23 => ?_)
  · have b_23 := gx_b_y.mp c_23
    have h1 := of_decide_eq_true b_23
    exact absurd hb (fun h9 => h9.elim h1.1 (fun h9 => h1.2 (Int64.lt_of_lt_of_le ((lN_ltB (by omega) (by omega)).mpr (by omega)) h9)))
  · have b_23 := gx_b_n.mp c_23
    refine ev_bipush (v := (-2)) dX11_judge_26 (by decide) ?_
    refine ev_iret dX11_judge_28 ?_
    exact ⟨_, rfl, rfl, rfl, rfl⟩
set_option maxRecDepth 10000 in
theorem ml_judge (d : Nat) (S : gx_S) {ng nd : Nat} {ms gk dk sb : Nat → Int32} (hm : mH S ng nd ms gk dk sb) {T : Tb} (h0 : mT (S 49) 0 = T) {k r : Nat} (hk : k ≤ 4) (hr : r < 1000 ^ k) (L : gx_L) : ∀ (m : Nat) (T0 : Tb) (z : Option Value), okT ms T0 → m ≤ k → p_jd (p_told (nI ng) (nI nd) ms gk dk sb) r k m T0 = p_jd (p_told (nI ng) (nI nd) ms gk dk sb) r k k T → Ev mX11_judge (d + 4) 36 [some (.ref 44), some (.int (nI k)), some (.long (lN r)), none, some (.int (nI (k - m))), z] [] (nS S 1 T0) L (fun v S' L' => ∃ r9 : Int32, v = some (.int r9) ∧ r9 = p_jd (p_told (nI ng) (nI nd) ms gk dk sb) r k k T ∧ (∃ T1, S' = nS S 1 T1) ∧ L' = L) := by
  have hp := p1000 k hk
  intro m
  induction m with
  | zero =>
    intro T0 z hT0 hm9 hy
    refine ev_ild4 dX11_judge_36 ?_
    refine ev_ild1 dX11_judge_38 ?_
    refine ev_icmp_ge_t 94 dX11_judge_39 (by decide) (by rw [Nat.sub_zero]; exact nI_le (Nat.le_refl _) (by omega)) ?_
    refine ev_bipush (v := (-9)) dX11_judge_94 (by decide) ?_
    refine ev_iret dX11_judge_96 ?_
    exact ⟨_, rfl, hy, ⟨_, rfl⟩, rfl⟩
  | succ m ih =>
    intro T0 z hT0 hm9 hy
    have hm0 : 1 ≤ 1000 ^ m := Nat.pow_pos (by decide)
    have hm1 := p1000 (m + 1) (by omega)
    have hm2 := p1000 m (by omega)
    have hq : r / 1000 ^ m ≤ r := Nat.div_le_self _ _
    obtain ⟨v, hv⟩ : ∃ v, v = r / 1000 ^ m % 1000 := ⟨_, rfl⟩
    have hv9 : v < 1000 := hv ▸ Nat.mod_lt _ (by decide)
    refine ev_ild4 dX11_judge_36 ?_
    refine ev_ild1 dX11_judge_38 ?_
    refine ev_icmp_ge_f 94 dX11_judge_39 (by decide) (nI_ge (by omega) (by omega)) ?_
    refine ev_lld2 dX11_judge_42 ?_
    refine ev_ild1 dX11_judge_43 ?_
    refine ev_iconst (v := 1) dX11_judge_44 (by decide) ?_
    refine ev_isub dX11_judge_45 ?_
    refine ev_ild4 dX11_judge_46 ?_
    refine ev_isub dX11_judge_48 ?_
    rw [show nI k - 1 - nI (k - (m + 1)) = nI m from by rw [sub3 (show k - (m + 1) < k by omega)]; congr 1; omega]
    refine ev_S1l (M' := mX11_thousandTo) dX11_judge_49 lk_X11_193 sX11_thousandTo (m_th (d + 3) _ (k := m) (by omega) _) (Nat.le_refl _) (Nat.le_of_ble_eq_true rfl) ?_
    refine ev_ldiv dX11_judge_52 (lN_ne0 hm0 (by omega)) ?_
    rw [lN_div (by omega) (by omega)]
    refine ev_ldc2 dX11_judge_53 kc_X11_189 ?_
    refine ev_lrem dX11_judge_56 (by decide) ?_
    rw [show lN (r / 1000 ^ m) - lN (r / 1000 ^ m) / 1000 * 1000 = lN (r / 1000 ^ m % 1000) from lN_rem (b := 1000) (by omega) (by decide)]
    refine ev_l2i dX11_judge_57 ?_
    rw [lN_i, ← hv]
    refine ev_ist5 dX11_judge_58 ?_
    refine ev_ald0 dX11_judge_60 ?_
    refine ev_ild5 dX11_judge_61 ?_
    refine ev_bipush (v := 100) dX11_judge_63 (by decide) ?_
    refine ev_idiv dX11_judge_65 (by decide) ?_
    rw [show nI v / 100 = nI (v / 100) from nI_div (b := 100) (by omega) (by decide)]
    refine ev_ild5 dX11_judge_66 ?_
    refine ev_bipush (v := 10) dX11_judge_68 (by decide) ?_
    refine ev_idiv dX11_judge_70 (by decide) ?_
    rw [show nI v / 10 = nI (v / 10) from nI_div (b := 10) (by omega) (by decide)]
    refine ev_bipush (v := 10) dX11_judge_71 (by decide) ?_
    refine ev_irem dX11_judge_73 (by decide) ?_
    rw [show nI (v / 10) - nI (v / 10) / 10 * 10 = nI (v / 10 % 10) from nI_rem (b := 10) (by omega) (by decide)]
    refine ev_ild5 dX11_judge_74 ?_
    refine ev_bipush (v := 10) dX11_judge_76 (by decide) ?_
    refine ev_irem dX11_judge_78 (by decide) ?_
    rw [show nI v - nI v / 10 * 10 = nI (v % 10) from nI_rem (b := 10) (by omega) (by decide)]
    refine ev_V3iq (M' := mX11_tryThing) dX11_judge_79 lk_X11_197 vX11_tryThing rfl (m_try d S hm T0 hT0 (Nat.mod_lt _ (by decide)) (Nat.mod_lt _ (by decide)) (x := v / 100) (by omega) L) (Nat.le_refl _) (Nat.le_of_ble_eq_true rfl) (fun r9 S9 L9 h9 => ?_)
    obtain ⟨T1, rfl, hL9, hj⟩ := h9
    rw [hL9]
    rw [← told_tr] at hj
    rcases hj with ⟨h1, h2⟩ | ⟨h1, h2, h3⟩
    · rw [h1]
      refine ev_if_ne_f 88 dX11_judge_82 (by decide) rfl ?_
      refine ev_ild4 dX11_judge_85 ?_
      refine ev_iret dX11_judge_87 ?_
      exact ⟨_, rfl, by rw [← hy]; rw [hv] at h2; exact (if_pos h2).symm, ⟨_, rfl⟩, rfl⟩
    · rw [h1, h3]
      refine ev_if_ne_t 88 dX11_judge_82 (by decide) (by decide) ?_
      refine ev_inc4 dX11_judge_88 (nI_inc _) ?_
      refine ev_goto 36 dX11_judge_91 (by decide) ?_
      rw [show k - (m + 1) + 1 = k - m by omega]
      exact ih _ _ (okT_told hm.2.1 hm.2.2.2.1 hT0 v) (by omega) (by rw [← hy]; rw [hv] at h2 ⊢; exact (if_neg h2).symm)
set_option maxRecDepth 10000 in
theorem m_judge (d : Nat) (S : gx_S) {ng nd : Nat} {ms gk dk sb : Nat → Int32} (hm : mH S ng nd ms gk dk sb) {T : Tb} (h0 : mT (S 49) 0 = T) (hT : okT ms T) {k r : Nat} (hk1 : 1 ≤ k) (hk : k ≤ 4) (hr : r < 1000 ^ k) (L : gx_L) : Ci (d + 4) mX11_judge [.ref 44, .int (nI k), .long (lN r)] S L (fun r9 S1 L1 => r9 = p_jd (p_told (nI ng) (nI nd) ms gk dk sb) r k k T ∧ (∃ T1, S1 = nS S 1 T1) ∧ L1 = L) := by
  refine ct_intro (loc := [some (.ref 44), some (.int (nI k)), some (.long (lN r)), none, none, none]) (by decide) (Nat.le_of_ble_eq_true rfl) rfl ?_
  have hp := p1000 k hk
  have hm0 : 1 ≤ 1000 ^ k := Nat.pow_pos (by decide)
  refine ev_ild1 dX11_judge_0 ?_
  refine ev_i2l dX11_judge_1 ?_
  refine ev_lconst (v := 1) dX11_judge_2 (by decide) ?_
  refine ev_ldc2 dX11_judge_3 kc_X11_191 ?_
  refine ev_S3i (M' := mX11_in) dX11_judge_6 lk_X11_62 sX11_in (m_in (d + 3) _ _ _ _ _) (Nat.le_refl _) (Nat.le_of_ble_eq_true rfl) ?_
  refine ev_if_eq_f 26 dX11_judge_9 (by decide) (gb_t ((in14 _).trans (decide_eq_true ⟨nI_nlt (b := 1) hk1 (by omega), Int32.not_lt.mpr (nI_le (b := 4) hk (by decide))⟩))) ?_
  refine ev_lld2 dX11_judge_12 ?_
  refine ev_lconst (v := 0) dX11_judge_13 (by decide) ?_
  refine ev_ild1 dX11_judge_14 ?_
  refine ev_S1l (M' := mX11_thousandTo) dX11_judge_15 lk_X11_193 sX11_thousandTo (m_th (d + 3) S hk L) (Nat.le_refl _) (Nat.le_of_ble_eq_true rfl) ?_
  refine ev_lconst (v := 1) dX11_judge_18 (by decide) ?_
  refine ev_lsub dX11_judge_19 ?_
  rw [lN_sub1 hm0]
  refine ev_S3i (M' := mX11_in) dX11_judge_20 lk_X11_62 sX11_in (m_in (d + 3) _ _ _ _ _) (Nat.le_refl _) (Nat.le_of_ble_eq_true rfl) ?_
  refine ev_if_ne_t 29 dX11_judge_23 (by decide) (gb_t (decide_eq_true ⟨fun h9 => absurd ((lN_ltB (b := 0) (by omega) (by decide)).mp h9) (by omega), fun h9 => absurd ((lN_ltB (by omega) (by omega)).mp h9) (by omega)⟩)) ?_
  refine ev_ald0 dX11_judge_29 ?_
  refine ev_V0v (M' := mX11_layTrial) dX11_judge_30 lk_X11_164 vX11_layTrial rfl (m_layTrial (d + 3) S L) (Nat.le_refl _) (Nat.le_of_ble_eq_true rfl) ?_
  rw [h0]
  refine ev_iconst (v := 0) dX11_judge_33 (by decide) ?_
  refine ev_ist4 dX11_judge_34 ?_
  have l9 := ml_judge d S hm h0 hk hr L k T none hT (Nat.le_refl k) rfl
  rw [Nat.sub_self] at l9
  exact l9
