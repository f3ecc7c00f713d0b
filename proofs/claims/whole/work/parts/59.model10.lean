def q_on (b : Int32) : Nat → Int32
  | 0 => 0
  | n + 1 => q_on b n + ((b >>> (nI n &&& 31)) &&& 1)
theorem on_all : ∀ k, k < 32 → q_on (nI k) 5 = nI (pcn k) := by decide +kernel
theorem nI_ne0' {v : Nat} (h : 0 < v) (hv : v < 2 ^ 31) : ¬ nI v = 0 := fun h9 => by
  have := (nI_eq hv (by decide : 0 < 2 ^ 31)).mp h9
  omega
theorem fac_s : ∀ i, 2 ≤ i → i ≤ 4 → ordN (i - 1) * i = ordN i := by
  intro i h1 h2
  rcases (show i = 2 ∨ i = 3 ∨ i = 4 by omega) with rfl | rfl | rfl <;> rfl
theorem mT_nS1 (S : gx_S) (T0 : Tb) : mT (nS S 1 T0 49) 0 = mT (S 49) 0 := by
  have e : ∀ j, j < 15 → nS S 1 T0 49 j = S 49 j := by
    intro j hj
    unfold nS
    rw [gx_up_at]
    unfold layF
    rw [if_neg (by omega)]
  unfold mT
  rw [e (15 * 0 + 14) (by decide)]
  refine congr (congrArg Prod.mk (funext fun j => ?_)) (congr (congrArg Prod.mk (funext fun j => ?_)) (congr (congrArg Prod.mk (funext fun j => ?_)) rfl))
  · split
    · rw [e _ (by omega)]
    · rfl
  · split
    · rw [e _ (by omega)]
    · rfl
  · split
    · rw [e _ (by omega)]
    · rfl
theorem m_lay1 (d : Nat) (S : gx_S) (T0 : Tb) {T : Tb} (h0 : mT (S 49) 0 = T) (L : gx_L) : Cw d mX11_layTrial [.ref 44] (nS S 1 T0) L (nS S 1 T) L := by
  have h := m_layTrial d (nS S 1 T0) L
  rw [mT_nS1, h0, nS_nS] at h
  exact h
set_option maxRecDepth 10000 in
theorem ml_ones (d : Nat) (b : Int32) (S : gx_S) (L : gx_L) {Q : Option Value → gx_S → gx_L → Prop}  (kk : Ev mX11_ones (d) 23 [some (.int b), some (.int (q_on b (5))), some (.int (nI (5)))] [] (S) L Q) : ∀ (nn i : Nat), i + nn = 5 → Ev mX11_ones (d) 4 [some (.int b), some (.int (q_on b (i))), some (.int (nI (i)))] [] (S) L Q := by
  intro nn
  induction nn with
  | zero =>
    intro i hi
    obtain rfl : i = 5 := hi
    refine ev_ild2 dX11_ones_4 ?_
    refine ev_iconst (v := 5) dX11_ones_5 (by decide) ?_
    refine ev_icmp_ge_t 23 dX11_ones_6 (by decide) (by decide) ?_
    exact kk
  | succ nn ih =>
    intro i hi
    refine ev_ild2 dX11_ones_4 ?_
    refine ev_iconst (v := 5) dX11_ones_5 (by decide) ?_
    refine ev_icmp_ge_f 23 dX11_ones_6 (by decide) (nI_ge (b := 5) (by omega) (by decide)) ?_
    refine ev_ild1 dX11_ones_9 ?_
    refine ev_ild0 dX11_ones_10 ?_
    refine ev_ild2 dX11_ones_11 ?_
    refine ev_ishr dX11_ones_12 ?_
    refine ev_iconst (v := 1) dX11_ones_13 (by decide) ?_
    refine ev_iand dX11_ones_14 ?_
    refine ev_iadd dX11_ones_15 ?_
    refine ev_ist1 dX11_ones_16 ?_
    refine ev_inc2 dX11_ones_17 (nI_inc _) ?_
    refine ev_goto 4 dX11_ones_20 (by decide) ?_
    exact ih (i + 1) (by omega)
set_option maxRecDepth 10000 in
theorem m_ones (d : Nat) {k : Nat} (hk : k < 32) (S : gx_S) (L : gx_L) : Cf d mX11_ones [.int (nI k)] S L (nI (pcn k)) S L := by
  refine ct_intro (loc := [some (.int (nI k)), none, none]) (by decide) (Nat.le_of_ble_eq_true rfl) rfl ?_
  refine ev_iconst (v := 0) dX11_ones_0 (by decide) ?_
  refine ev_ist1 dX11_ones_1 ?_
  refine ev_iconst (v := 0) dX11_ones_2 (by decide) ?_
  refine ev_ist2 dX11_ones_3 ?_
  refine ml_ones d (nI k) S L ?_ 5 0 rfl
  refine ev_ild1 dX11_ones_23 ?_
  refine ev_iret dX11_ones_24 ?_
  exact ⟨_, rfl, on_all k hk, rfl, rfl⟩
set_option maxRecDepth 10000 in
theorem m_factorial (d : Nat) {n : Nat} (hn : n < 5) (S : gx_S) (L : gx_L) : Cf d mX11_factorial [.int (nI n)] S L (gx_ord n) S L := by
  refine ct_intro (loc := [some (.int (nI n)), none, none]) (by decide) (Nat.le_of_ble_eq_true rfl) rfl ?_
  refine ev_iconst (v := 1) dX11_factorial_0 (by decide) ?_
  refine ev_ist1 dX11_factorial_1 ?_
  refine ev_iconst (v := 2) dX11_factorial_2 (by decide) ?_
  refine ev_ist2 dX11_factorial_3 ?_
  rcases Nat.lt_or_ge n 2 with h | h
  · skip
    refine ev_ild2 dX11_factorial_4 ?_
    refine ev_ild0 dX11_factorial_5 ?_
    refine ev_icmp_gt_t 19 dX11_factorial_6 (by decide) (nI_lt (b := 2) (by omega) (by decide)) ?_
    refine ev_ild1 dX11_factorial_19 ?_
    refine ev_iret dX11_factorial_20 ?_
    exact ⟨_, rfl, by rw [ord_N n (by omega)]; rcases (show n = 0 ∨ n = 1 by omega) with rfl | rfl <;> rfl, rfl, rfl⟩
  · have loop : ∀ (nn i : Nat), i + nn = n + 1 → 2 ≤ i → Ev mX11_factorial d 4 [some (.int (nI n)), some (.int (nI (ordN (i - 1)))), some (.int (nI i))] [] S L (fun v S' L' => ∃ r : Int32, v = some (.int r) ∧ r = gx_ord n ∧ S' = S ∧ L' = L) := by
      intro nn
      induction nn with
      | zero =>
        intro i hi h2
        obtain rfl : i = n + 1 := hi
        refine ev_ild2 dX11_factorial_4 ?_
        refine ev_ild0 dX11_factorial_5 ?_
        refine ev_icmp_gt_t 19 dX11_factorial_6 (by decide) (nI_lt (by omega) (by omega)) ?_
        refine ev_ild1 dX11_factorial_19 ?_
        refine ev_iret dX11_factorial_20 ?_
        exact ⟨_, rfl, by rw [ord_N n (by omega), show n + 1 - 1 = n by omega], rfl, rfl⟩
      | succ nn ih =>
        intro i hi h2
        refine ev_ild2 dX11_factorial_4 ?_
        refine ev_ild0 dX11_factorial_5 ?_
        refine ev_icmp_gt_f 19 dX11_factorial_6 (by decide) (Int32.not_lt.mpr (nI_le (by omega) (by omega))) ?_
        refine ev_ild1 dX11_factorial_9 ?_
        refine ev_ild2 dX11_factorial_10 ?_
        refine ev_imul dX11_factorial_11 ?_
        rw [nI_mul, fac_s i h2 (by omega), show ordN i = ordN (i + 1 - 1) by rw [show i + 1 - 1 = i by omega]]
        refine ev_ist1 dX11_factorial_12 ?_
        refine ev_inc2 dX11_factorial_13 (nI_inc _) ?_
        refine ev_goto 4 dX11_factorial_16 (by decide) ?_
        exact ih (i + 1) (by omega) (by omega)
    exact loop (n - 1) 2 (by omega) (Nat.le_refl 2)
set_option maxRecDepth 10000 in
theorem m_common (d : Nat) {a : Int32} {x y : Nat} (hx : (if 0 ≤ a then a else 0 - a) = nI x) (hx1 : x < 2 ^ 31) (hy1 : y < 2 ^ 31) (S : gx_S) (L : gx_L) : Cf d mX11_common [.int a, .int (nI y)] S L (nI (Nat.gcd x y)) S L := by
  refine ct_intro (loc := [some (.int a), some (.int (nI y)), none, none, none]) (by decide) (Nat.le_of_ble_eq_true rfl) rfl ?_
  obtain ⟨G, hG⟩ : ∃ G, Nat.gcd x y = G := ⟨_, rfl⟩
  rw [hG]
  have loop : ∀ (v u : Nat) (z : Option Value), u < 2 ^ 31 → v < 2 ^ 31 → Nat.gcd u v = Nat.gcd x y → Ev mX11_common d 13 [some (.int a), some (.int (nI y)), some (.int (nI u)), some (.int (nI v)), z] [] S L (fun v S' L' => ∃ r : Int32, v = some (.int r) ∧ r = nI G ∧ S' = S ∧ L' = L) := by
    intro v
    induction v using Nat.strongRecOn with
    | ind v ih =>
      intro u z hu hv hg
      rcases Nat.eq_zero_or_pos v with h0 | h0
      · subst h0
        rw [Nat.gcd_zero_right, hG] at hg
        subst hg
        refine ev_ild3 dX11_common_13 ?_
        refine ev_if_eq_t 30 dX11_common_14 (by decide) rfl ?_
        refine ev_ild2 dX11_common_30 ?_
        refine ev_iret dX11_common_31 ?_
        exact ⟨_, rfl, rfl, rfl, rfl⟩
      · have hv0 : ¬ nI v = 0 := nI_ne0' h0 hv
        refine ev_ild3 dX11_common_13 ?_
        refine ev_if_eq_f 30 dX11_common_14 (by decide) hv0 ?_
        refine ev_ild2 dX11_common_17 ?_
        refine ev_ild3 dX11_common_18 ?_
        refine ev_irem dX11_common_19 hv0 ?_
        rw [nI_rem hu hv]
        refine ev_ist4 dX11_common_20 ?_
        refine ev_ild3 dX11_common_22 ?_
        refine ev_ist2 dX11_common_23 ?_
        refine ev_ild4 dX11_common_24 ?_
        refine ev_ist3 dX11_common_26 ?_
        refine ev_goto 13 dX11_common_27 (by decide) ?_
        exact ih (u % v) (Nat.mod_lt _ h0) v _ hv (Nat.lt_trans (Nat.mod_lt _ h0) hv) (by rw [Nat.gcd_comm, ← Nat.gcd_rec]; rw [Nat.gcd_comm]; exact hg)
  refine ev_ild0 dX11_common_0 ?_
  refine ev_if_ge 9 dX11_common_1 (by decide) (fun c_1 => ?_) (fun c_1 => ?_)
  · refine ev_ild0 dX11_common_9 ?_
    have e9 : a = nI x := by rw [← hx, if_pos c_1]
    refine ev_stk (st' := [.int (nI x)]) (by rw [e9]) ?_
    refine ev_ist2 dX11_common_10 ?_
    refine ev_ild1 dX11_common_11 ?_
    refine ev_ist3 dX11_common_12 ?_
    exact loop y x _ hx1 hy1 rfl
  · refine ev_ild0 dX11_common_4 ?_
    refine ev_ineg dX11_common_5 ?_
    refine ev_goto 10 dX11_common_6 (by decide) ?_
    have e9 : -a = nI x := by rw [← hx, if_neg c_1, Int32.zero_sub]
    refine ev_stk (st' := [.int (nI x)]) (by rw [e9]) ?_
    refine ev_ist2 dX11_common_10 ?_
    refine ev_ild1 dX11_common_11 ?_
    refine ev_ist3 dX11_common_12 ?_
    exact loop y x _ hx1 hy1 rfl
set_option maxRecDepth 10000 in
theorem m_taxesOf (d : Nat) (S : gx_S) {ng nd : Nat} {ms gk dk sb : Nat → Int32} (hm : mH S ng nd ms gk dk sb) {T : Tb} (h0 : mT (S 49) 0 = T) (hT : okT ms T) (T0 : Tb) (so : Int32) (L : gx_L) : Cf (d + 4) mX11_taxesOf [.ref 44, .int so] (nS S 1 T0) L (p_taxes gk ms (p_ev dk sb so T)) (nS S 1 (p_ev dk sb so T)) L := by
  refine ct_intro (loc := [some (.ref 44), some (.int so)]) (by decide) (Nat.le_of_ble_eq_true rfl) rfl ?_
  refine ev_ald0 dX11_taxesOf_0 ?_
  refine ev_V0v (M' := mX11_layTrial) dX11_taxesOf_1 lk_X11_164 vX11_layTrial rfl (m_lay1 (d + 3) S T0 h0 L) (Nat.le_refl _) (Nat.le_of_ble_eq_true rfl) ?_
  refine ev_ald0 dX11_taxesOf_4 ?_
  refine ev_iconst (v := 1) dX11_taxesOf_5 (by decide) ?_
  refine ev_ild1 dX11_taxesOf_6 ?_
  refine ev_V2v (M' := mX11_eveningOn) dX11_taxesOf_7 lk_X11_167 vX11_eveningOn rfl (m_eveningOn d S hm (lv := 1) (by decide) so T hT L) (Nat.le_refl _) (Nat.le_of_ble_eq_true rfl) ?_
  refine ev_ald0 dX11_taxesOf_10 ?_
  refine ev_iconst (v := 1) dX11_taxesOf_11 (by decide) ?_
  refine ev_V1i (M' := mX11_taxes) dX11_taxesOf_12 lk_X11_161 vX11_taxes rfl (m_taxes (d + 2) S hm (lv := 1) (by decide) _ (okT_ev hT) L) (Nat.le_refl _) (Nat.le_of_ble_eq_true rfl) ?_
  refine ev_iret dX11_taxesOf_15 ?_
  exact ⟨_, rfl, rfl, rfl, rfl⟩
theorem sub3 {a p : Nat} (h : p < a) : nI a - 1 - nI p = nI (a - p - 1) := by
  show nI a - nI 1 - nI p = _
  rw [nI_sub (by omega), nI_sub (by omega)]
  congr 1
  omega
set_option maxRecDepth 10000 in
theorem ml_share (d : Nat) (S : gx_S) {ng nd : Nat} {ms gk dk sb : Nat → Int32} (hm : mH S ng nd ms gk dk sb) {T : Tb} (h0 : mT (S 49) 0 = T) (hT : okT ms T) {dr : Nat} (hdr : dr < nd) (w : Int32) (L : gx_L) {Q : Option Value → gx_S → gx_L → Prop} (kk : ∀ (T0 : Tb) (z : Option Value), Ev mX11_share (d + 5) 90 [some (.ref 44), some (.int (nI dr)), some (.int w), some (.int (p_shareN (fun so => p_taxes gk ms (p_ev dk sb so T)) nd dr (2 ^ nd))), some (.int (nI (2 ^ nd))), z] [] (nS S 1 T0) L Q) : ∀ (nn i : Nat) (T0 : Tb) (z : Option Value), i + nn = 2 ^ nd → Ev mX11_share (d + 5) 15 [some (.ref 44), some (.int (nI dr)), some (.int w), some (.int (p_shareN (fun so => p_taxes gk ms (p_ev dk sb so T)) nd dr (i))), some (.int (nI (i))), z] [] (nS S 1 T0) L Q := by
  intro nn
  induction nn with
  | zero =>
    intro i T0 z hi
    obtain rfl : i = 2 ^ nd := hi
    have h49 := hm.2.2.2.1
    have h16 := p2_5 nd (by omega)
    refine ev_ild4 dX11_share_15 ?_
    refine ev_iconst (v := 1) dX11_share_17 (by decide) ?_
    refine ev_ald0 dX11_share_18 ?_
    refine ev_geti dX11_share_19 fl_X11_105 rfl ?_
    refine ev_ishl dX11_share_22 ?_
    refine ev_icmp_ge_t 90 dX11_share_23 (by decide) (by rw [nS_o S 1 _ (by decide), hm.2.2.1, shl1 nd (by omega)]; exact nI_le (Nat.le_refl _) (by omega)) ?_
    exact kk T0 z
  | succ nn ih =>
    intro i T0 z hi
    have h49 := hm.2.2.2.1
    have h16 := p2_5 nd (by omega)
    refine ev_ild4 dX11_share_15 ?_
    refine ev_iconst (v := 1) dX11_share_17 (by decide) ?_
    refine ev_ald0 dX11_share_18 ?_
    refine ev_geti dX11_share_19 fl_X11_105 rfl ?_
    refine ev_ishl dX11_share_22 ?_
    refine ev_icmp_ge_f 90 dX11_share_23 (by decide) (by rw [nS_o S 1 _ (by decide), hm.2.2.1, shl1 nd (by omega)]; exact nI_ge (by omega) (by omega)) ?_
    refine ev_ild4 dX11_share_26 ?_
    refine ev_ild1 dX11_share_28 ?_
    refine ev_S2i (M' := mX11_has) dX11_share_29 lk_X11_77 sX11_has (m_has (d + 4) _ _ _ _) (Nat.le_refl _) (Nat.le_of_ble_eq_true rfl) ?_
    refine ev_if_ne 84 dX11_share_32 (by decide) (fun c_32 => ?_) (fun c_32 => ?_)
    · have b_32 := gx_b_y.mp c_32
      refine ev_inc4 dX11_share_84 (nI_inc _) ?_
      refine ev_goto 15 dX11_share_87 (by decide) ?_
      have e := ih (i + 1) T0 z (by omega)
      simp only [p_shareN, if_pos b_32, ite_self] at e
      exact e
    · have b_32 := gx_b_n.mp c_32
      have hpc : pcn i < nd := pcn_lt nd h49 i (by have := Nat.pow_le_pow_right (show 0 < 2 by decide) h49; omega) dr (by omega) (by omega) hdr (Bool.eq_false_iff.mpr b_32)
      refine ev_ild4 dX11_share_35 ?_
      refine ev_S1i (M' := mX11_ones) dX11_share_37 lk_X11_183 sX11_ones (m_ones (d + 4) (by omega) _ _) (Nat.le_refl _) (Nat.le_of_ble_eq_true rfl) ?_
      refine ev_S1i (M' := mX11_factorial) dX11_share_40 lk_X11_203 sX11_factorial (m_factorial (d + 4) (by omega) _ _) (Nat.le_refl _) (Nat.le_of_ble_eq_true rfl) ?_
      refine ev_ald0 dX11_share_43 ?_
      refine ev_geti dX11_share_44 fl_X11_105 rfl ?_
      rw [nS_o S 1 _ (by decide), hm.2.2.1]
      refine ev_iconst (v := 1) dX11_share_47 (by decide) ?_
      refine ev_isub dX11_share_48 ?_
      refine ev_ild4 dX11_share_49 ?_
      refine ev_S1i (M' := mX11_ones) dX11_share_51 lk_X11_183 sX11_ones (m_ones (d + 4) (by omega) _ _) (Nat.le_refl _) (Nat.le_of_ble_eq_true rfl) ?_
      refine ev_isub dX11_share_54 ?_
      rw [sub3 hpc]
      refine ev_S1i (M' := mX11_factorial) dX11_share_55 lk_X11_203 sX11_factorial (m_factorial (d + 4) (n := nd - pcn i - 1) (by omega) _ _) (Nat.le_refl _) (Nat.le_of_ble_eq_true rfl) ?_
      refine ev_imul dX11_share_58 ?_
      refine ev_ist5 dX11_share_59 ?_
      refine ev_ild3 dX11_share_61 ?_
      refine ev_ild5 dX11_share_62 ?_
      refine ev_ald0 dX11_share_64 ?_
      refine ev_ild4 dX11_share_65 ?_
      refine ev_iconst (v := 1) dX11_share_67 (by decide) ?_
      refine ev_ild1 dX11_share_68 ?_
      refine ev_ishl dX11_share_69 ?_
      refine ev_ior dX11_share_70 ?_
      refine ev_V1i (M' := mX11_taxesOf) dX11_share_71 lk_X11_206 vX11_taxesOf rfl (m_taxesOf d S hm h0 hT T0 _ L) (Nat.le_refl _) (Nat.le_of_ble_eq_true rfl) ?_
      refine ev_ald0 dX11_share_74 ?_
      refine ev_ild4 dX11_share_75 ?_
      refine ev_V1i (M' := mX11_taxesOf) dX11_share_77 lk_X11_206 vX11_taxesOf rfl (m_taxesOf d S hm h0 hT _ _ L) (Nat.le_refl _) (Nat.le_of_ble_eq_true rfl) ?_
      refine ev_isub dX11_share_80 ?_
      refine ev_imul dX11_share_81 ?_
      rw [Int32.mul_comm (gx_ord (pcn i) * gx_ord (nd - pcn i - 1))]
      refine ev_iadd dX11_share_82 ?_
      refine ev_ist3 dX11_share_83 ?_
      refine ev_inc4 dX11_share_84 (nI_inc _) ?_
      refine ev_goto 15 dX11_share_87 (by decide) ?_
      have e := fun z9 => ih (i + 1) (p_ev dk sb (nI i) T) z9 (by omega)
      simp only [p_shareN, if_neg b_32, ite_self] at e
      exact e _
set_option maxRecDepth 10000 in
theorem m_share0 (d : Nat) (S : gx_S) {ng nd : Nat} {ms gk dk sb : Nat → Int32} (hm : mH S ng nd ms gk dk sb) {x w : Int32} (hb : isG (nI nd) x = false) (L : gx_L) : Cf (d + 2) mX11_share [.ref 44, .int x, .int w] S L (-1) S L := by
  refine ct_intro (loc := [some (.ref 44), some (.int x), some (.int w), none, none, none]) (by decide) (Nat.le_of_ble_eq_true rfl) rfl ?_
  refine ev_ald0 dX11_share_0 ?_
  refine ev_ild1 dX11_share_1 ?_
  refine ev_V1i (M' := mX11_isDrinker) dX11_share_2 lk_X11_133 vX11_isDrinker rfl (m_isDrinker d S hm.2.2.1 (by have := hm.2.2.2.1; omega) _ L) (Nat.le_refl _) (Nat.le_of_ble_eq_true rfl) ?_
  refine ev_if_ne_f 10 dX11_share_5 (by decide) (gb_f hb) ?_
  refine ev_iconst (v := (-1)) dX11_share_8 (by decide) ?_
  refine ev_iret dX11_share_9 ?_
  exact ⟨_, rfl, rfl, rfl, rfl⟩
set_option maxRecDepth 10000 in
theorem m_share (d : Nat) (S : gx_S) {ng nd : Nat} {ms gk dk sb : Nat → Int32} (hm : mH S ng nd ms gk dk sb) {T : Tb} (h0 : mT (S 49) 0 = T) (hT : okT ms T) {dr : Nat} (hdr : dr < nd) (w : Int32) {x : Nat} (hx : (if 0 ≤ p_shareN (fun so => p_taxes gk ms (p_ev dk sb so T)) nd dr (2 ^ nd) then p_shareN (fun so => p_taxes gk ms (p_ev dk sb so T)) nd dr (2 ^ nd) else 0 - p_shareN (fun so => p_taxes gk ms (p_ev dk sb so T)) nd dr (2 ^ nd)) = nI x) (hx1 : x < 2 ^ 31) (L : gx_L) : Ci (d + 5) mX11_share [.ref 44, .int (nI dr), .int w] S L (fun r S1 L1 => r = p_frac (p_shareN (fun so => p_taxes gk ms (p_ev dk sb so T)) nd dr (2 ^ nd)) x (ordN nd) w ∧ (∃ T1, S1 = nS S 1 T1) ∧ L1 = L) := by
  refine ct_intro (loc := [some (.ref 44), some (.int (nI dr)), some (.int w), none, none, none]) (by decide) (Nat.le_of_ble_eq_true rfl) rfl ?_
  have h49 := hm.2.2.2.1
  have ho := ordN_pos nd (by omega)
  have hgp : 0 < Nat.gcd x (ordN nd) := Nat.gcd_pos_of_pos_right x ho.1
  have hgl : Nat.gcd x (ordN nd) ≤ ordN nd := Nat.gcd_le_right x ho.1
  refine ev_ald0 dX11_share_0 ?_
  refine ev_ild1 dX11_share_1 ?_
  refine ev_V1i (M' := mX11_isDrinker) dX11_share_2 lk_X11_133 vX11_isDrinker rfl (m_isDrinker (d + 3) S hm.2.2.1 (by have := hm.2.2.2.1; omega) _ L) (Nat.le_refl _) (Nat.le_of_ble_eq_true rfl) ?_
  refine ev_if_ne_t 10 dX11_share_5 (by decide) (gb_t (isG_in (by omega) hdr)) ?_
  refine ev_iconst (v := 0) dX11_share_10 (by decide) ?_
  refine ev_ist3 dX11_share_11 ?_
  refine ev_iconst (v := 0) dX11_share_12 (by decide) ?_
  refine ev_ist4 dX11_share_13 ?_
  have l9 := ml_share d S hm h0 hT hdr w L (Q := fun v S1 L1 => ∃ r : Int32, v = some (.int r) ∧ r = p_frac (p_shareN (fun so => p_taxes gk ms (p_ev dk sb so T)) nd dr (2 ^ nd)) x (ordN nd) w ∧ (∃ T1, S1 = nS S 1 T1) ∧ L1 = L) ?_ (2 ^ nd) 0 (mT (S 49) 1) none (Nat.zero_add _)
  · rw [nS_mT] at l9
    exact l9
  · intro T1 z1
    refine ev_ild3 dX11_share_90 ?_
    refine ev_ald0 dX11_share_91 ?_
    refine ev_geti dX11_share_92 fl_X11_105 rfl ?_
    rw [nS_o S 1 _ (by decide), hm.2.2.1]
    refine ev_S1i (M' := mX11_factorial) dX11_share_95 lk_X11_203 sX11_factorial (m_factorial (d + 4) (n := nd) (by omega) _ _) (Nat.le_refl _) (Nat.le_of_ble_eq_true rfl) ?_
    rw [ord_N nd (by omega)]
    refine ev_S2i (M' := mX11_common) dX11_share_98 lk_X11_209 sX11_common (m_common (d + 4) hx hx1 (by omega) _ _) (Nat.le_refl _) (Nat.le_of_ble_eq_true rfl) ?_
    refine ev_ist4 dX11_share_101 ?_
    refine ev_ild2 dX11_share_103 ?_
    refine ev_if_eq 114 dX11_share_104 (by decide) (fun c_104 => ?_) (fun c_104 => ?_)
    · refine ev_ald0 dX11_share_114 ?_
      refine ev_geti dX11_share_115 fl_X11_105 rfl ?_
      rw [nS_o S 1 _ (by decide), hm.2.2.1]
      refine ev_S1i (M' := mX11_factorial) dX11_share_118 lk_X11_203 sX11_factorial (m_factorial (d + 4) (n := nd) (by omega) _ _) (Nat.le_refl _) (Nat.le_of_ble_eq_true rfl) ?_
      rw [ord_N nd (by omega)]
      refine ev_ild4 dX11_share_121 ?_
      refine ev_idiv dX11_share_123 (nI_ne0' hgp (by omega)) ?_
      refine ev_iret dX11_share_124 ?_
      exact ⟨_, rfl, (if_pos c_104).symm, ⟨_, rfl⟩, rfl⟩
    · refine ev_ild3 dX11_share_107 ?_
      refine ev_ild4 dX11_share_108 ?_
      refine ev_idiv dX11_share_110 (nI_ne0' hgp (by omega)) ?_
      refine ev_goto 124 dX11_share_111 (by decide) ?_
      refine ev_iret dX11_share_124 ?_
      exact ⟨_, rfl, (if_neg c_104).symm, ⟨_, rfl⟩, rfl⟩
