/-! ===== acts ===== -/
theorem pour_ref {ng : Int32} {ms : Nat → Int32} {T : Tb} {g n : Int32} (h : (p_pour ng ms T g n).1 < 0) : (p_pour ng ms T g n).2 = T := by
  unfold p_pour at h ⊢
  by_cases c1 : isG ng g = true
  · rw [if_pos c1] at h ⊢
    by_cases c2 : n < 1
    · rw [if_pos c2]
    · rw [if_neg c2] at h ⊢
      by_cases c3 : n ≤ 9
      · rw [if_pos c3] at h ⊢
        dsimp only at h ⊢
        by_cases c4 : 0 < (if ms g.toNatClampNeg - T.1 g.toNatClampNeg < n then ms g.toNatClampNeg - T.1 g.toNatClampNeg else n)
        · rw [if_pos c4] at h
          exact absurd c4 (Int32.not_lt.mpr (Int32.le_of_lt h))
        · rw [if_neg c4]
      · rw [if_neg c3]
  · rw [if_neg c1]
theorem tip_ref {ng : Int32} {ms : Nat → Int32} {T : Tb} {g o : Int32} (h : (p_tip ng ms T g o).1 < 0) : (p_tip ng ms T g o).2 = T := by
  unfold p_tip at h ⊢
  by_cases c1 : isG ng g = true
  · rw [if_pos c1] at h ⊢
    by_cases c2 : isG ng o = true
    · rw [if_pos c2] at h ⊢
      by_cases c3 : g = o
      · rw [if_pos c3]
      · rw [if_neg c3] at h ⊢
        dsimp only at h ⊢
        by_cases c4 : 0 < (if ms o.toNatClampNeg - T.1 o.toNatClampNeg < T.1 g.toNatClampNeg then ms o.toNatClampNeg - T.1 o.toNatClampNeg else T.1 g.toNatClampNeg)
        · rw [if_pos c4] at h
          exact absurd c4 (Int32.not_lt.mpr (Int32.le_of_lt h))
        · rw [if_neg c4]
    · rw [if_neg c2]
  · rw [if_neg c1]
theorem drink_ref {ng nd : Nat} (h5 : ng ≤ 5) (h4 : nd ≤ 4) {ms dk sb : Nat → Int32} {T : Tb} (hT : okT ms T) {x g : Int32} (h : (p_drink (nI ng) (nI nd) dk sb T x g).1 < 0) : (p_drink (nI ng) (nI nd) dk sb T x g).2 = T := by
  unfold p_drink at h ⊢
  by_cases c1 : isG (nI nd) x = true
  · rw [if_pos c1] at h ⊢
    by_cases c2 : isG (nI ng) g = true
    · rw [if_pos c2] at h ⊢
      by_cases c3 : bt (sb x.toNatClampNeg) g.toNatClampNeg = true
      · rw [if_pos c3] at h
        obtain ⟨a, ha, -, ea⟩ := isG_of (by omega) c1
        obtain ⟨b, hb, -, eb⟩ := isG_of (by omega) c2
        refine absurd h (sw_nn hT ?_ ?_)
        · obtain ⟨a', ha', e', ea'⟩ := isG_of (by omega) c1
          rw [e', ea']
          omega
        · obtain ⟨b', hb', e', eb'⟩ := isG_of (by omega) c2
          rw [e', eb']
          omega
      · rw [if_neg c3]
    · rw [if_neg c2]
  · rw [if_neg c1]
theorem act_c {S : gx_S} {nx sz : Nat} (q : Int32 × Tb) {i : Nat} (h : i < 18 ∨ (25 < i ∧ i ≠ 30 ∧ i ≠ 32)) : M_act S nx sz q i = S i := by
  unfold M_act
  split
  · rw [tS_o _ _ (by omega), tS_o _ _ (by omega)]
  · rw [u2_o _ _ _ (by omega), u2_o _ _ _ (by omega), gx_up_ne _ _ (by omega), tS_o _ _ (by omega), tS_o _ _ (by omega)]
theorem RR_act {S : gx_S} {L : gx_L} {len ng nd nx sz sn : Nat} (h1 : R1 S len) (h2 : R2 S ng nd) (h3 : R3 S nd) (h4 : R4 S nd nx sz) (h5 : R5 S nd) (h6 : R6 S sn) (h7 : L 0 = L 44) (q : Int32 × Tb) (t0 : q.1 < 0 → q.2 = tG S 18) (t1 : okT (S 12) q.2) (t2 : zD nd q.2) (t3 : zT q.2) : RR (M_mact (M_act S nx sz q) nx sz q) L := by
  have z0 := z18_of h3
  by_cases hq : q.1 < 0
  · have e : M_mact (M_act S nx sz q) nx sz q = tS (tS S 22 (tG S 18)) 18 (tG S 18) := by
      unfold M_mact
      rw [if_pos hq]
      unfold M_act
      rw [if_pos hq, t0 hq]
    rw [e]
    have a : ∀ i, (fun i => decide (18 ≤ i) && decide (i ≤ 25)) i = false → tS (tS S 22 (tG S 18)) 18 (tG S 18) i = S i := by
      intro i hi
      simp only [Bool.and_eq_false_iff, decide_eq_false_iff_not] at hi
      rw [tS_o _ _ (by omega), tS_o _ _ (by omega)]
    have e44 := a 44 (by decide)
    refine ⟨len, ng, nd, nx, sz, sn, R1_c _ a h1 (by decide) (by rw [e44]), R2_c _ a h2 (by decide) (by rw [e44]) (by rw [e44]), R3_tr h3 (a 12 (by decide)) (tG_tS _ 18 _) (by rw [a 49 (by decide)]) ?_ ?_, R4_c _ a h4 (by decide) (by rw [e44]) (by rw [e44]), R5_c _ a h5 (by decide), R6_c _ a h6 (by decide) (by rw [e44]), h7⟩
    · rw [act_22]; exact z0
    · rw [tG_e (a 26 (by decide)) (a (26 + 1) (by decide)) (a (26 + 2) (by decide)) (a (26 + 3) (by decide))]; exact h3.2.2.2.2
  · have e : M_act S nx sz q = gx_u2 (gx_u2 (gx_up (tS (tS S 22 (tG S 18)) 18 q.2) 32 (layF (S 32) nx (tG S 18))) 30 1 (nI (p_nx nx))) 30 2 (nI (p_sz sz)) := by
      unfold M_act
      rw [if_neg hq]
    have e2 : M_mact (M_act S nx sz q) nx sz q = nS (M_keep (M_act S nx sz q) nx sz) 0 q.2 := by
      unfold M_mact
      rw [if_neg hq]
    have c := fun i h => act_c (S := S) (nx := nx) (sz := sz) q (i := i) h
    rw [e2]
    generalize hS1 : M_act S nx sz q = S1 at e c
    have f30a : S1 30 1 = nI (p_nx nx) := by rw [e, u2_k _ _ _ (by decide), u2_at]
    have f30b : S1 30 2 = nI (p_sz sz) := by rw [e, u2_at]
    have f32 : S1 32 = layF (S 32) nx (tG S 18) := by rw [e, u2_o _ _ _ (by decide), u2_o _ _ _ (by decide), gx_up_at]
    have f18 : tG S1 18 = q.2 := by
      rw [tG_e (S := tS (tS S 22 (tG S 18)) 18 q.2) (by rw [e, u2_o _ _ _ (by decide), u2_o _ _ _ (by decide), gx_up_ne _ _ (by decide)]) (by rw [e, u2_o _ _ _ (by decide), u2_o _ _ _ (by decide), gx_up_ne _ _ (by decide)]) (by rw [e, u2_o _ _ _ (by decide), u2_o _ _ _ (by decide), gx_up_ne _ _ (by decide)]) (by rw [e, u2_o _ _ _ (by decide), u2_o _ _ _ (by decide), gx_up_ne _ _ (by decide)]), tG_tS]
    have f22 : tG S1 22 = tG S 18 := by
      rw [tG_e (S := tS (tS S 22 (tG S 18)) 18 q.2) (by rw [e, u2_o _ _ _ (by decide), u2_o _ _ _ (by decide), gx_up_ne _ _ (by decide)]) (by rw [e, u2_o _ _ _ (by decide), u2_o _ _ _ (by decide), gx_up_ne _ _ (by decide)]) (by rw [e, u2_o _ _ _ (by decide), u2_o _ _ _ (by decide), gx_up_ne _ _ (by decide)]) (by rw [e, u2_o _ _ _ (by decide), u2_o _ _ _ (by decide), gx_up_ne _ _ (by decide)]), act_22]
    have e54 : nS (M_keep S1 nx sz) 0 q.2 54 = layF (S 54) nx (tG S 18) := by
      rw [nS_o _ _ _ (by decide)]
      unfold M_keep
      rw [u2_o _ _ _ (by decide), u2_o _ _ _ (by decide), gx_up_at, c 54 (by decide), c 49 (by decide), h3.1]
    have b : ∀ i, i ≠ 44 → i ≠ 49 → i ≠ 54 → nS (M_keep S1 nx sz) 0 q.2 i = S1 i := fun i i1 i2 i3 => by rw [nS_o _ _ _ i2, mk_o _ _ _ i1 i3]
    have a : ∀ i, (fun i => ((decide (18 ≤ i) && decide (i ≤ 25)) || (i == 30 || i == 32)) || (i == 44 || (i == 49 || i == 54))) i = false → nS (M_keep S1 nx sz) 0 q.2 i = S i := by
      intro i hi
      simp only [Bool.or_eq_false_iff, beq_eq_false_iff_ne, Bool.and_eq_false_iff, decide_eq_false_iff_not] at hi
      rw [b i hi.2.1 hi.2.2.1 hi.2.2.2, c i (by omega)]
    have a44 : ∀ j, j ≠ 16 → j ≠ 17 → nS (M_keep S1 nx sz) 0 q.2 44 j = S 44 j := fun j j1 j2 => by rw [nS_o _ _ _ (by decide), mk_44 _ _ _ j1 j2, c 44 (by decide)]
    have e18 : tG (nS (M_keep S1 nx sz) 0 q.2) 18 = q.2 := by rw [tG_e (b 18 (by decide) (by decide) (by decide)) (b (18 + 1) (by decide) (by decide) (by decide)) (b (18 + 2) (by decide) (by decide) (by decide)) (b (18 + 3) (by decide) (by decide) (by decide)), f18]
    have hn := h4.2.2.1
    have hs := h4.2.2.2.2.2.1
    refine ⟨len, ng, nd, p_nx nx, p_sz sz, sn, R1_c _ a h1 (by decide) (a44 13 (by decide) (by decide)), R2_c _ a h2 (by decide) (a44 0 (by decide) (by decide)) (a44 1 (by decide) (by decide)), ⟨?_, ?_, ?_, ?_, ?_⟩, ⟨?_, ?_, ?_, ?_, ?_, ?_, ?_, ?_, fun i hi => ?_⟩, R5_c _ a h5 (by decide), R6_c _ a h6 (by decide) (a44 19 (by decide) (by decide)), h7⟩
    · rw [e18]; exact mT_nS _ 0 t3
    · rw [e18, a 12 (by decide)]; exact t1
    · rw [e18]; exact t2
    · rw [tG_e (b 22 (by decide) (by decide) (by decide)) (b (22 + 1) (by decide) (by decide) (by decide)) (b (22 + 2) (by decide) (by decide) (by decide)) (b (22 + 3) (by decide) (by decide) (by decide)), f22]; exact z0
    · rw [tG_e (a 26 (by decide)) (a (26 + 1) (by decide)) (a (26 + 2) (by decide)) (a (26 + 3) (by decide))]; exact h3.2.2.2.2
    · rw [b 30 (by decide) (by decide) (by decide)]; exact f30a
    · rw [nS_o _ _ _ (by decide)]
      unfold M_keep
      rw [u2_k _ _ _ (by decide), u2_at]
    · unfold p_nx; omega
    · rw [b 30 (by decide) (by decide) (by decide)]; exact f30b
    · rw [nS_o _ _ _ (by decide)]
      unfold M_keep
      rw [u2_at]
    · unfold p_sz; split <;> omega
    · rw [a 31 (by decide)]; exact h4.2.2.2.2.2.2.1
    · rw [b 32 (by decide) (by decide) (by decide), f32, e54]
      exact lay_c _ h4.2.2.2.2.2.2.2.1
    · rw [a 12 (by decide), e54]
      have hi14 : i < 14 ∧ i ≤ sz := by unfold p_sz at hi; split at hi <;> omega
      by_cases e0 : i = 0
      · rw [show (p_nx nx + 13 - i) % 14 = nx from by unfold p_nx; omega, mT_lay _ _ z0]
        exact ⟨h3.2.1, h3.2.2.1⟩
      · rw [show (p_nx nx + 13 - i) % 14 = (nx + 13 - (i - 1)) % 14 from by unfold p_nx; omega, mT_ne _ _ (by omega)]
        exact h4.2.2.2.2.2.2.2.2 (i - 1) (by omega)
theorem act_m {S : gx_S} {nx sz : Nat} (q : Int32 × Tb) : ∀ i, 44 ≤ i → M_act S nx sz q i = S i := fun i hi => act_c q (by omega)
theorem pr_pour (S : gx_S) (L : gx_L) (h : RR S L) (g n : Int32) : Pr mX10_pour mX11_pour [.int g, .int n] S L := by
  obtain ⟨len, ng, nd, nx, sz, sn, h1, h2, h3, h4, h5, h6, h7⟩ := id h
  have h59 := h2.2.2.1.2.1
  have h49 := h2.2.2.1.2.2.2.1
  have k1 := x_pour 0 S h2.1 h59 h2.2.1 h49 h4.1 h4.2.2.1 h4.2.2.2.1 h4.2.2.2.2.2.1 h4.2.2.2.2.2.2.1 (z18_of h3) h3.2.2.2.1 h3.2.2.2.2 g n L
  rw [h2.1] at k1
  have am := act_m (S := S) (nx := nx) (sz := sz) (p_pour (nI ng) (S 12) (tG S 18) g n)
  have k2 := m_pour 0 _ (mH_cc h2.2.2.1 am) (nx := nx) (sz := sz) (by rw [am 44 (by decide)]; exact h4.2.1) h4.2.2.1 (by rw [am 44 (by decide)]; exact h4.2.2.2.2.1) h4.2.2.2.2.2.1 (T := tG S 18) (by rw [am 49 (by decide)]; exact h3.1) h3.2.1 g n L
  exact Pr_f k1 k2 rfl (RR_act h1 h2 h3 h4 h5 h6 h7 _ pour_ref (okT_pour h59 h3.2.1 g n) (zD_pour h3.2.2.1 g n) (zT_pour (z18_of h3) h59 g n))
theorem pr_drink (S : gx_S) (L : gx_L) (h : RR S L) (g n : Int32) : Pr mX10_drink mX11_drink [.int g, .int n] S L := by
  obtain ⟨len, ng, nd, nx, sz, sn, h1, h2, h3, h4, h5, h6, h7⟩ := id h
  have h59 := h2.2.2.1.2.1
  have h49 := h2.2.2.1.2.2.2.1
  have k1 := x_drink 0 S h2.1 h59 h2.2.1 h49 h4.1 h4.2.2.1 h4.2.2.2.1 h4.2.2.2.2.2.1 h4.2.2.2.2.2.2.1 (z18_of h3) h3.2.2.2.1 h3.2.2.2.2 g n L
  rw [h2.1, h2.2.1] at k1
  have am := act_m (S := S) (nx := nx) (sz := sz) (p_drink (nI ng) (nI nd) (S 16) (S 17) (tG S 18) g n)
  have k2 := m_drink 0 _ (mH_cc h2.2.2.1 am) (nx := nx) (sz := sz) (by rw [am 44 (by decide)]; exact h4.2.1) h4.2.2.1 (by rw [am 44 (by decide)]; exact h4.2.2.2.2.1) h4.2.2.2.2.2.1 (T := tG S 18) (by rw [am 49 (by decide)]; exact h3.1) h3.2.1 g n L
  exact Pr_f k1 k2 rfl (RR_act h1 h2 h3 h4 h5 h6 h7 _ (drink_ref h59 h49 h3.2.1) (okT_drink h59 h49 h3.2.1 g n) (zD_drink h49 h3.2.2.1 g n) (zT_drink (z18_of h3) h59 h49 g n))
theorem pr_tip (S : gx_S) (L : gx_L) (h : RR S L) (g n : Int32) : Pr mX10_tip mX11_tip [.int g, .int n] S L := by
  obtain ⟨len, ng, nd, nx, sz, sn, h1, h2, h3, h4, h5, h6, h7⟩ := id h
  have h59 := h2.2.2.1.2.1
  have h49 := h2.2.2.1.2.2.2.1
  have k1 := x_tip 0 S h2.1 h59 h2.2.1 h49 h4.1 h4.2.2.1 h4.2.2.2.1 h4.2.2.2.2.2.1 h4.2.2.2.2.2.2.1 (z18_of h3) h3.2.2.2.1 h3.2.2.2.2 g n L
  rw [h2.1] at k1
  have am := act_m (S := S) (nx := nx) (sz := sz) (p_tip (nI ng) (S 12) (tG S 18) g n)
  have k2 := m_tip 0 _ (mH_cc h2.2.2.1 am) (nx := nx) (sz := sz) (by rw [am 44 (by decide)]; exact h4.2.1) h4.2.2.1 (by rw [am 44 (by decide)]; exact h4.2.2.2.2.1) h4.2.2.2.2.2.1 (T := tG S 18) (by rw [am 49 (by decide)]; exact h3.1) h3.2.1 g n L
  exact Pr_f k1 k2 rfl (RR_act h1 h2 h3 h4 h5 h6 h7 _ tip_ref (okT_tip h59 h3.2.1 g n) (zD_tip h3.2.2.1 g n) (zT_tip (z18_of h3) h59 g n))
theorem pr_hour (S : gx_S) (L : gx_L) (h : RR S L) : Pr mX10_hour mX11_hour [] S L := by
  obtain ⟨len, ng, nd, nx, sz, sn, h1, h2, h3, h4, h5, h6, h7⟩ := id h
  have h59 := h2.2.2.1.2.1
  have h49 := h2.2.2.1.2.2.2.1
  have k1 := x_hour 0 S h2.1 h59 h2.2.1 h49 h4.1 h4.2.2.1 h4.2.2.2.1 h4.2.2.2.2.2.1 h4.2.2.2.2.2.2.1 (z18_of h3) h3.2.2.2.1 h3.2.2.2.2 L
  have am := act_m (S := S) (nx := nx) (sz := sz) (p_taxes (S 14) (S 12) (p_hourT (S 14) (tG S 18)), p_hourT (S 14) (tG S 18))
  have k2 := m_hour 0 _ (mH_cc h2.2.2.1 am) (nx := nx) (sz := sz) (by rw [am 44 (by decide)]; exact h4.2.1) h4.2.2.1 (by rw [am 44 (by decide)]; exact h4.2.2.2.2.1) h4.2.2.2.2.2.1 (T := tG S 18) (by rw [am 49 (by decide)]; exact h3.1) h3.2.1 L
  have hnn : ¬ p_taxes (S 14) (S 12) (p_hourT (S 14) (tG S 18)) < 0 := by
    obtain ⟨v, hv, ev⟩ := taxes_b (S 14) (okT_hour (gk := S 14) h3.2.1)
    rw [ev]
    exact nI_pos (by omega)
  refine Pr_f k1 k2 rfl ?_
  have hR := RR_act h1 h2 h3 h4 h5 h6 h7 (p_taxes (S 14) (S 12) (p_hourT (S 14) (tG S 18)), p_hourT (S 14) (tG S 18)) (fun h9 => absurd h9 hnn) (okT_hour h3.2.1) (zD_hour h3.2.2.1) (zT_hour (z18_of h3))
  have e : M_mact (M_act S nx sz (p_taxes (S 14) (S 12) (p_hourT (S 14) (tG S 18)), p_hourT (S 14) (tG S 18))) nx sz (p_taxes (S 14) (S 12) (p_hourT (S 14) (tG S 18)), p_hourT (S 14) (tG S 18)) = nS (M_keep (M_act S nx sz (p_taxes (S 14) (S 12) (p_hourT (S 14) (tG S 18)), p_hourT (S 14) (tG S 18))) nx sz) 0 (p_hourT (S 14) (tG S 18)) := by
    unfold M_mact
    exact if_neg hnn
  rw [e] at hR
  exact hR
theorem pr_undo (S : gx_S) (L : gx_L) (h : RR S L) : Pr mX10_undo mX11_undo [] S L := by
  obtain ⟨len, ng, nd, nx, sz, sn, h1, h2, h3, h4, h5, h6, h7⟩ := id h
  match sz, h4 with
  | 0, h4 => exact Pr_f (x_undo0 0 S h4.2.2.2.1 L) (m_undo0 0 S h4.2.2.2.2.1 L) rfl h
  | sz + 1, h4 =>
    have hn := h4.2.2.1
    have hs := h4.2.2.2.2.2.1
    have k1 := x_undo 0 S h4.1 hn h4.2.2.2.1 hs h4.2.2.2.2.2.2.1 L
    have eT : ftT (S 32) ((nx + 13) % 14) (tG S 18) = mT (S 54) ((nx + 13) % 14) := ft_mT (z18_of h3) (fun j hj => h4.2.2.2.2.2.2.2.1 _ (by omega))
    have hv := h4.2.2.2.2.2.2.2.2 0 (by omega)
    rw [show nx + 13 - 0 = nx + 13 from rfl] at hv
    have zT' := mT_z (S 54) ((nx + 13) % 14)
    rw [eT] at k1
    have c : ∀ i, (i < 18 ∨ 21 < i) → i ≠ 30 → tS (gx_u2 (gx_u2 S 30 2 (nI sz)) 30 1 (nI ((nx + 13) % 14))) 18 (mT (S 54) ((nx + 13) % 14)) i = S i := fun i i1 i2 => by rw [tS_o _ _ (by omega), u2_o _ _ _ i2, u2_o _ _ _ i2]
    have k2 := m_undo 0 (tS (gx_u2 (gx_u2 S 30 2 (nI sz)) 30 1 (nI ((nx + 13) % 14))) 18 (mT (S 54) ((nx + 13) % 14))) (nx := nx) (sz := sz) (by rw [c 44 (by decide) (by decide)]; exact h4.2.1) hn (by rw [c 44 (by decide) (by decide)]; exact h4.2.2.2.2.1) hs L
    rw [c 54 (by decide) (by decide)] at k2
    refine Pr_f k1 k2 rfl ?_
    generalize hT' : mT (S 54) ((nx + 13) % 14) = T' at hv zT' c
    have g30 : ∀ j, tS (gx_u2 (gx_u2 S 30 2 (nI sz)) 30 1 (nI ((nx + 13) % 14))) 18 T' 30 j = gx_u2 (gx_u2 S 30 2 (nI sz)) 30 1 (nI ((nx + 13) % 14)) 30 j := fun j => by rw [tS_o _ _ (by decide)]
    have g18 : tG (tS (gx_u2 (gx_u2 S 30 2 (nI sz)) 30 1 (nI ((nx + 13) % 14))) 18 T') 18 = T' := tG_tS _ 18 _
    generalize hS1 : tS (gx_u2 (gx_u2 S 30 2 (nI sz)) 30 1 (nI ((nx + 13) % 14))) 18 T' = S1 at c g30 g18
    have b : ∀ i, i ≠ 44 → i ≠ 49 → nS (gx_u2 (gx_u2 S1 44 16 (nI sz)) 44 17 (nI ((nx + 13) % 14))) 0 T' i = S1 i := fun i i1 i2 => by rw [nS_o _ _ _ i2, u2_o _ _ _ i1, u2_o _ _ _ i1]
    have a : ∀ i, (fun i => (decide (18 ≤ i) && decide (i ≤ 21)) || (i == 30 || (i == 44 || i == 49))) i = false → nS (gx_u2 (gx_u2 S1 44 16 (nI sz)) 44 17 (nI ((nx + 13) % 14))) 0 T' i = S i := by
      intro i hi
      simp only [Bool.or_eq_false_iff, beq_eq_false_iff_ne, Bool.and_eq_false_iff, decide_eq_false_iff_not] at hi
      rw [b i hi.2.2.1 hi.2.2.2, c i (by omega) hi.2.1]
    have a44 : ∀ j, j ≠ 16 → j ≠ 17 → nS (gx_u2 (gx_u2 S1 44 16 (nI sz)) 44 17 (nI ((nx + 13) % 14))) 0 T' 44 j = S 44 j := fun j j1 j2 => by rw [nS_o _ _ _ (by decide), u2_k _ _ _ j2, u2_k _ _ _ j1, c 44 (by decide) (by decide)]
    have e18 : tG (nS (gx_u2 (gx_u2 S1 44 16 (nI sz)) 44 17 (nI ((nx + 13) % 14))) 0 T') 18 = T' := by rw [tG_e (b 18 (by decide) (by decide)) (b (18 + 1) (by decide) (by decide)) (b (18 + 2) (by decide) (by decide)) (b (18 + 3) (by decide) (by decide)), g18]
    refine ⟨len, ng, nd, (nx + 13) % 14, sz, sn, R1_c _ a h1 (by decide) (a44 13 (by decide) (by decide)), R2_c _ a h2 (by decide) (a44 0 (by decide) (by decide)) (a44 1 (by decide) (by decide)), ⟨?_, ?_, ?_, ?_, ?_⟩, ⟨?_, ?_, by omega, ?_, ?_, by omega, ?_, ?_, fun i hi => ?_⟩, R5_c _ a h5 (by decide), R6_c _ a h6 (by decide) (a44 19 (by decide) (by decide)), h7⟩
    · rw [e18]; exact mT_nS _ 0 zT'
    · rw [e18, a 12 (by decide)]; exact hv.1
    · rw [e18]; exact hv.2
    · rw [tG_e (a 22 (by decide)) (a (22 + 1) (by decide)) (a (22 + 2) (by decide)) (a (22 + 3) (by decide))]; exact h3.2.2.2.1
    · rw [tG_e (a 26 (by decide)) (a (26 + 1) (by decide)) (a (26 + 2) (by decide)) (a (26 + 3) (by decide))]; exact h3.2.2.2.2
    · rw [b 30 (by decide) (by decide), g30, u2_at]
    · rw [nS_o _ _ _ (by decide), u2_at]
    · rw [b 30 (by decide) (by decide), g30, u2_k _ _ _ (by decide), u2_at]
    · rw [nS_o _ _ _ (by decide), u2_k _ _ _ (by decide), u2_at]
    · rw [a 31 (by decide)]; exact h4.2.2.2.2.2.2.1
    · rw [a 32 (by decide), a 54 (by decide)]; exact h4.2.2.2.2.2.2.2.1
    · rw [a 12 (by decide), a 54 (by decide), show ((nx + 13) % 14 + 13 - i) % 14 = (nx + 13 - (i + 1)) % 14 from by omega]
      exact h4.2.2.2.2.2.2.2.2 (i + 1) (by omega)
