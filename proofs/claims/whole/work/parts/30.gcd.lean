/-! ===== Euclid ===== -/
theorem euc_step {u v : Nat} (hv : 0 < v) (h : v ≤ u) {k : Nat} (hp : u * v < 2 ^ (k + 1)) : u % v = 0 ∨ (u % v ≤ v ∧ v * (u % v) < 2 ^ k) := by
  right
  have h1 : u % v < v := Nat.mod_lt u hv
  refine ⟨by omega, ?_⟩
  have h2 : 2 * (u % v) ≤ u := by
    have h3 := Nat.div_add_mod u v
    have h4 : 1 ≤ u / v := Nat.div_pos h hv
    have h5 : v * 1 ≤ v * (u / v) := Nat.mul_le_mul_left v h4
    omega
  have h6 : v * (2 * (u % v)) ≤ v * u := Nat.mul_le_mul_left v h2
  have h7 : v * (2 * (u % v)) = 2 * (v * (u % v)) := by rw [← Nat.mul_assoc, Nat.mul_comm v 2, Nat.mul_assoc]
  rw [Nat.pow_succ] at hp
  rw [Nat.mul_comm v u] at h6
  omega
theorem euc_pos {u v s : Nat} (hv : 0 < v) (h : v ≤ u) (hp : u * v < 2 ^ (63 - s)) (hs : s ≤ 64) : s < 63 := by
  rcases Nat.lt_or_ge s 63 with h1 | h1
  · exact h1
  · have h2 : 63 - s = 0 := by omega
    rw [h2] at hp
    have : 0 < u * v := Nat.mul_pos (by omega) hv
    omega
theorem euc_max {u : Nat} (h : 0 < u) (hu : u < 2 ^ 31) : (if (1 : Int32) < nI u then nI u else 1) = nI u := by
  show (if nI 1 < nI u then nI u else nI 1) = nI u
  by_cases h1 : 1 < u
  · rw [if_pos (nI_lt h1 hu)]
  · have : u = 1 := by omega
    subst this
    exact ite_self _
set_option maxRecDepth 10000 in
theorem l_gcd (d : Nat) (S : gx_S) (L : gx_L) (a b : Int32) (G : Nat) (hG : 0 < G) : ∀ (n s u v : Nat) (e : Option Value), s + n = 64 → (v = 0 ∨ (v ≤ u ∧ u * v < 2 ^ (63 - s))) → u < 2 ^ 31 → v < 2 ^ 31 → Nat.gcd u v = G → gx_nl [some (.int a), some (.int b), some (.int (nI u)), some (.int (nI v)), some (.int (nI s)), e] 5 = true → Ev mX10_commonDivisor (d + 1) 7 [some (.int a), some (.int b), some (.int (nI u)), some (.int (nI v)), some (.int (nI s)), e] [] S L (fun v S' L' => ∃ r : Int32, v = some (.int r) ∧ r = nI G ∧ S' = S ∧ L' = L) := by
  intro n
  induction n with
  | zero =>
    intro s u v e hs hi hu hv hg hnl
    have hv0 : v = 0 := by
      rcases hi with h | ⟨h1, h2⟩
      · exact h
      · rcases Nat.eq_zero_or_pos v with h | h
        · exact h
        · exact absurd (euc_pos h h1 h2 (by omega)) (by omega)
    subst hv0
    rw [Nat.gcd_zero_right] at hg
    subst hg
    obtain rfl : s = 64 := hs
    refine ev_ild4 dX10_commonDivisor_7 ?_
    refine ev_bipush (v := 64) dX10_commonDivisor_9 (by decide) ?_
    refine ev_icmp_ge_t 34 dX10_commonDivisor_11 (by decide) (by decide) ?_
    refine ev_iconst (v := 1) dX10_commonDivisor_34 (by decide) ?_
    refine ev_ild2 dX10_commonDivisor_35 ?_
    refine ev_max dX10_commonDivisor_36 lk_X10_288 (Nat.le_add_left 1 _) (Nat.le_of_ble_eq_true rfl) ?_
    refine ev_iret dX10_commonDivisor_39 ?_
    exact ⟨_, rfl, euc_max (by omega) hu, rfl, rfl⟩
  | succ n ih =>
    intro s u v e hs hi hu hv hg hnl
    rcases Nat.eq_zero_or_pos v with h0 | h0
    · subst h0
      rw [Nat.gcd_zero_right] at hg
      subst hg
      refine ev_ild4 dX10_commonDivisor_7 ?_
      refine ev_bipush (v := 64) dX10_commonDivisor_9 (by decide) ?_
      refine ev_icmp_ge_f 34 dX10_commonDivisor_11 (by decide) (nI_ge (b := 64) (by omega) (by decide)) ?_
      refine ev_ild3 dX10_commonDivisor_14 ?_
      refine ev_if_eq_t 34 dX10_commonDivisor_15 (by decide) rfl ?_
      refine ev_iconst (v := 1) dX10_commonDivisor_34 (by decide) ?_
      refine ev_ild2 dX10_commonDivisor_35 ?_
      refine ev_max dX10_commonDivisor_36 lk_X10_288 (Nat.le_add_left 1 _) (Nat.le_of_ble_eq_true rfl) ?_
      refine ev_iret dX10_commonDivisor_39 ?_
      exact ⟨_, rfl, euc_max (by omega) hu, rfl, rfl⟩
    · have hv0 : ¬ nI v = 0 := nI_ne0 h0 hv
      have hmod : u % v < v := Nat.mod_lt u h0
      refine ev_ild4 dX10_commonDivisor_7 ?_
      refine ev_bipush (v := 64) dX10_commonDivisor_9 (by decide) ?_
      refine ev_icmp_ge_f 34 dX10_commonDivisor_11 (by decide) (nI_ge (b := 64) (by omega) (by decide)) ?_
      refine ev_ild3 dX10_commonDivisor_14 ?_
      refine ev_if_eq_f 34 dX10_commonDivisor_15 (by decide) hv0 ?_
      refine ev_ild2 dX10_commonDivisor_18 ?_
      refine ev_ild3 dX10_commonDivisor_19 ?_
      refine ev_irem dX10_commonDivisor_20 hv0 ?_
      rw [nI_rem hu hv]
      refine ev_ist5 dX10_commonDivisor_21 ?_
      refine ev_ild3 dX10_commonDivisor_23 ?_
      refine ev_ist2 dX10_commonDivisor_24 ?_
      refine ev_ild5 dX10_commonDivisor_25 ?_
      refine ev_ist3 dX10_commonDivisor_27 ?_
      refine ev_inc4 dX10_commonDivisor_28 (nI_inc _) ?_
      refine ev_goto 7 dX10_commonDivisor_31 (by decide) ?_
      refine ih (s + 1) v (u % v) _ (by omega) ?_ hv (by omega) (by rw [← hg, Nat.gcd_comm u v, Nat.gcd_rec v u, Nat.gcd_comm]) rfl
      rcases hi with h | ⟨h1, h2⟩
      · omega
      · have hs63 := euc_pos h0 h1 h2 (by omega)
        exact euc_step h0 h1 (k := 63 - (s + 1)) (by rw [show 63 - (s + 1) + 1 = 63 - s by omega]; exact h2)
set_option maxRecDepth 10000 in
theorem c_gcd (d : Nat) (S : gx_S) (L : gx_L) {u v : Nat} (hu : u < 2 ^ 31) (hv : v < 2 ^ 31) (h0 : 0 < v) : Cf (d + 1) mX10_commonDivisor [.int (nI u), .int (nI v)] S L (nI (Nat.gcd u v)) S L := by
  refine ct_intro (loc := [some (.int (nI u)), some (.int (nI v)), none, none, none, none]) (by decide) (Nat.le_of_ble_eq_true rfl) rfl ?_
  have hG : 0 < Nat.gcd u v := Nat.gcd_pos_of_pos_right u h0
  refine ev_ild0 dX10_commonDivisor_0 ?_
  refine ev_ist2 dX10_commonDivisor_1 ?_
  refine ev_ild1 dX10_commonDivisor_2 ?_
  refine ev_ist3 dX10_commonDivisor_3 ?_
  refine ev_iconst (v := 0) dX10_commonDivisor_4 (by decide) ?_
  refine ev_ist4 dX10_commonDivisor_5 ?_
  have huv : u * v < 2 ^ 62 := by
    have h1 : u * v ≤ (2 ^ 31 - 1) * (2 ^ 31 - 1) := Nat.mul_le_mul (by omega) (by omega)
    exact Nat.lt_of_le_of_lt h1 (by decide)
  rcases Nat.lt_or_ge u v with h1 | h1
  · have hv0 : ¬ nI v = 0 := nI_ne0 h0 hv
    refine ev_loc (loc' := [some (.int (nI u)), some (.int (nI v)), some (.int (nI u)), some (.int (nI v)), some (.int (nI 0)), none]) rfl ?_
    have hmod : u % v = u := Nat.mod_eq_of_lt h1
    refine ev_ild4 dX10_commonDivisor_7 ?_
    refine ev_bipush (v := 64) dX10_commonDivisor_9 (by decide) ?_
    refine ev_icmp_ge_f 34 dX10_commonDivisor_11 (by decide) (by decide) ?_
    refine ev_ild3 dX10_commonDivisor_14 ?_
    refine ev_if_eq_f 34 dX10_commonDivisor_15 (by decide) hv0 ?_
    refine ev_ild2 dX10_commonDivisor_18 ?_
    refine ev_ild3 dX10_commonDivisor_19 ?_
    refine ev_irem dX10_commonDivisor_20 hv0 ?_
    rw [nI_rem hu hv]
    refine ev_ist5 dX10_commonDivisor_21 ?_
    refine ev_ild3 dX10_commonDivisor_23 ?_
    refine ev_ist2 dX10_commonDivisor_24 ?_
    refine ev_ild5 dX10_commonDivisor_25 ?_
    refine ev_ist3 dX10_commonDivisor_27 ?_
    refine ev_inc4 dX10_commonDivisor_28 (nI_inc _) ?_
    refine ev_goto 7 dX10_commonDivisor_31 (by decide) ?_
    rw [hmod]
    exact l_gcd d S L _ _ _ hG 63 1 v u _ rfl (Or.inr ⟨by omega, by rw [Nat.mul_comm]; exact huv⟩) hv hu (Nat.gcd_comm v u) rfl
  · exact l_gcd d S L _ _ _ hG 64 0 u v _ rfl (Or.inr ⟨h1, by omega⟩) hu hv rfl rfl
def p_frac (u : Int32) (x y : Nat) (w : Int32) : Int32 := if w = 0 then nI y / nI (Nat.gcd x y) else u / nI (Nat.gcd x y)
set_option maxRecDepth 10000 in
theorem c_frac (d : Nat) (S : gx_S) (L : gx_L) {u : Int32} {x y : Nat} (hx : (if 0 ≤ u then u else 0 - u) = nI x) (hx1 : x < 2 ^ 31) (hy1 : y < 2 ^ 31) (h0 : 0 < y) (w : Int32) : Cf (d + 2) mX10_fractionSide [.int u, .int (nI y), .int w] S L (p_frac u x y w) S L := by
  refine ct_intro (loc := [some (.int u), some (.int (nI y)), some (.int w), none]) (by decide) (Nat.le_of_ble_eq_true rfl) rfl ?_
  have hgp : 0 < Nat.gcd x y := Nat.gcd_pos_of_pos_right x h0
  have hgl : Nat.gcd x y ≤ y := Nat.gcd_le_right x h0
  refine ev_ild0 dX10_fractionSide_0 ?_
  refine ev_abs dX10_fractionSide_1 lk_X10_282 (Nat.le_add_left 1 _) (Nat.le_of_ble_eq_true rfl) ?_
  rw [hx]
  refine ev_ild1 dX10_fractionSide_4 ?_
  refine ev_S2i (M' := mX10_commonDivisor) dX10_fractionSide_5 lk_X10_285 sX10_commonDivisor (c_gcd d S L hx1 hy1 h0) (Nat.le_refl _) (Nat.le_of_ble_eq_true rfl) ?_
  refine ev_ist3 dX10_fractionSide_8 ?_
  refine ev_ild2 dX10_fractionSide_9 ?_
  refine ev_if_eq 17 dX10_fractionSide_10 (by decide) (fun c_10 => ?_) (fun c_10 => ?_)
  · refine ev_ild1 dX10_fractionSide_17 ?_
    refine ev_ild3 dX10_fractionSide_18 ?_
    refine ev_idiv dX10_fractionSide_19 (nI_ne0 hgp (by omega)) ?_
    refine ev_iret dX10_fractionSide_20 ?_
    exact ⟨_, rfl, (if_pos c_10).symm, rfl, rfl⟩
  · refine ev_ild0 dX10_fractionSide_13 ?_
    refine ev_goto 18 dX10_fractionSide_14 (by decide) ?_
    refine ev_ild3 dX10_fractionSide_18 ?_
    refine ev_idiv dX10_fractionSide_19 (nI_ne0 hgp (by omega)) ?_
    refine ev_iret dX10_fractionSide_20 ?_
    exact ⟨_, rfl, (if_neg c_10).symm, rfl, rfl⟩
set_option maxRecDepth 10000 in
theorem c_orders (d : Nat) (S : gx_S) (L : gx_L) {j : Nat} (hj : j < 5) : Cf d mX1_orders [.int (nI j)] S L (gx_ord j) S L := by
  refine ct_intro (loc := [some (.int (nI j))]) (by decide) (Nat.le_of_ble_eq_true rfl) rfl ?_
  refine ev_ild0 dX1_orders_0 ?_
  refine ev_if_lt_f 20 dX1_orders_1 (by decide) (nI_pos (by omega)) ?_
  refine ev_ild0 dX1_orders_4 ?_
  refine ev_ordlen (o2 := 0) dX1_orders_5 dX1_orders_8 fs_X1_51 ?_
  refine ev_icmp_ge_f 20 dX1_orders_9 (by decide) (nI_ge (b := 5) (by omega) (by decide)) ?_
  refine ev_ordat (pc2 := 0) dX1_orders_12 dX1_orders_15 dX1_orders_16 fs_X1_51 rfl rfl hj ?_
  refine ev_goto 21 dX1_orders_17 (by decide) ?_
  refine ev_iret dX1_orders_21 ?_
  exact ⟨_, rfl, rfl, rfl, rfl⟩
set_option maxRecDepth 10000 in
theorem c_ordersWith (d : Nat) (S : gx_S) {nd : Nat} (hnd : S 11 1 = nI nd) (h4 : nd ≤ 4) {j : Nat} (hj : j < nd) (L : gx_L) : Cf (d + 1) mX1_ordersWith [.ref 42, .int (nI j)] S L (gx_ord j * gx_ord (nd - j - 1)) S L := by
  refine ct_intro (loc := [some (.ref 42), some (.int (nI j))]) (by decide) (Nat.le_of_ble_eq_true rfl) rfl ?_
  refine ev_ild1 dX1_ordersWith_0 ?_
  refine ev_S1i (M' := mX1_orders) dX1_ordersWith_1 lk_X1_44 sX1_orders (c_orders d S L (by omega)) (Nat.le_refl _) (Nat.le_of_ble_eq_true rfl) ?_
  refine ev_ald0 dX1_ordersWith_4 ?_
  refine ev_getr (r := 11) dX1_ordersWith_5 fl_X1_9 rfl ?_
  refine ev_geti dX1_ordersWith_8 fl_X1_22 rfl ?_
  rw [hnd]
  refine ev_ild1 dX1_ordersWith_11 ?_
  refine ev_isub dX1_ordersWith_12 ?_
  rw [nI_sub (by omega)]
  refine ev_iconst (v := 1) dX1_ordersWith_13 (by decide) ?_
  refine ev_isub dX1_ordersWith_14 ?_
  rw [show nI (nd - j) - 1 = nI (nd - j - 1) from nI_sub (b := 1) (by omega)]
  refine ev_S1i (M' := mX1_orders) dX1_ordersWith_15 lk_X1_44 sX1_orders (c_orders d S L (by omega)) (Nat.le_refl _) (Nat.le_of_ble_eq_true rfl) ?_
  refine ev_imul dX1_ordersWith_18 ?_
  refine ev_iret dX1_ordersWith_19 ?_
  exact ⟨_, rfl, rfl, rfl, rfl⟩
