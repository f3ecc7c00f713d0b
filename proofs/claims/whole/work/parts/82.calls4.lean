/-! ===== the text read by both ===== -/
theorem pz_c {f f' : Nat → Int32} {len : Nat} (h : ∀ i, i < len → f i = f' i) : ∀ n p ng nd H, pz f len n p ng nd H = pz f' len n p ng nd H
  | 0, p, ng, nd, H => rfl
  | n + 1, p, ng, nd, H => by
    have ih := pz_c h n
    by_cases c0 : len ≤ p
    · simp only [pz, if_pos c0]
    · have e0 : f p = f' p := h p (by omega)
      have hk : ∀ q, okd f len q = okd f' len q := by
        intro q
        by_cases cq : q < len
        · unfold okd
          rw [h q cq]
        · unfold okd
          rw [decide_eq_false (fun h9 => cq h9.1), decide_eq_false (fun h9 => cq h9.1)]
      have hd : ∀ q, okd f' len q = true → dv f q = dv f' q := by
        intro q hq
        have h1 := (okd_spec hq).1
        unfold dv
        rw [h q h1]
      simp only [pz, ih, e0, hk]
      by_cases k1 : okd f' len (p + 1) = true
      · rw [hd _ k1]
        by_cases k2 : okd f' len (p + 2) = true
        · rw [hd _ k2]
          by_cases k3 : okd f' len (p + 3) = true
          · rw [hd _ k3]
          · simp only [k3, Bool.false_eq_true, false_and, if_false]
        · simp only [k2, Bool.false_eq_true, false_and, if_false]
      · simp only [k1, Bool.false_eq_true, false_and, if_false]
theorem read_c {f f' : Nat → Int32} {len : Nat} (h : ∀ i, i < len → f i = f' i) : p_read f len = p_read f' len := by
  unfold p_read
  by_cases c : len = 0
  · rw [if_pos c, if_pos c]
  · rw [if_neg c, if_neg c, h 0 (by omega), pz_c h]
theorem mM_4 (S : gx_S) (a b c : Int32) (H : Hd) : hG (mM S a b c H) 4 = H := mM_hG S a b c H
theorem pr_fault (S : gx_S) (L : gx_L) (h : RR S L) : Pr mX10_fault mX11_fault [] S L := by
  obtain ⟨len, ng, nd, nx, sz, sn, h1, h2, h3, h4, h5, h6, h7⟩ := id h
  refine ⟨6, _, by decide, x_fault 0 S h1.1 h1.2.2.1 h2.2.2.2.1 L, fun r S1 L1 h9 => ?_⟩
  obtain ⟨hr, ⟨a, b, c, H', hS1, hzH⟩, hL1⟩ := h9
  have hL2 := hL1.symm
  subst hL2
  have o1 : ∀ i, (i < 3 ∨ 10 < i) → S1 i = S i := fun i hi => by rw [hS1]; exact mM_o S a b c H' hi
  have g4 : hG S1 4 = H' := by rw [hS1]; exact mM_4 S a b c H'
  have k2 := m_fault 0 S1 (len := len) (by rw [o1 44 (by decide)]; exact h1.2.1) h1.2.2.1 (by rw [o1 53 (by decide)]; exact h1.2.2.2.2) L
  rw [o1 53 (by decide)] at k2
  refine ⟨4, _, by decide, k2, fun r' S2 L2 h8 => ?_⟩
  obtain ⟨hr', ⟨p, fa, g, d, G, D, Z, hS2, -⟩, hL2⟩ := h8
  have hL3 := hL2.symm
  subst hL3
  refine ⟨?_, ?_⟩
  · rw [hr', hr, read_c h1.2.2.2.1]
  · have o2 : ∀ i, (i < 3 ∨ 10 < i) → i ≠ 44 → i ≠ 50 → i ≠ 51 → i ≠ 52 → S2 i = S i := fun i i1 i2 i3 i4 i5 => by rw [hS2, rM_o _ _ _ _ _ _ _ _ ⟨i2, i3, i4, i5⟩, o1 i i1]
    have o44 : ∀ j, j ≠ 14 ∧ j ≠ 15 ∧ j ≠ 10 ∧ j ≠ 11 → S2 44 j = S 44 j := fun j hj => by rw [hS2, rM_k _ _ _ _ _ _ _ _ hj, o1 44 (by decide)]
    have ca : ∀ i, (fun i => (decide (3 ≤ i) && decide (i ≤ 10)) || (i == 44 || (i == 50 || (i == 51 || i == 52)))) i = false → S2 i = S i := by
      intro i hi
      simp only [Bool.or_eq_false_iff, beq_eq_false_iff_ne, Bool.and_eq_false_iff, decide_eq_false_iff_not] at hi
      exact o2 i (by omega) hi.2.1 hi.2.2.1 hi.2.2.2.1 hi.2.2.2.2
    have e4 : hG S2 4 = hG S1 4 := hG_e (fun i i1 i2 => by rw [hS2, rM_o _ _ _ _ _ _ _ _ (by omega)])
    refine ⟨len, ng, nd, nx, sz, sn, R1_c _ ca h1 (by decide) (o44 13 (by decide)), R2_tr h2 (fun i i1 i2 => o2 i (by omega) (by omega) (by omega) (by omega) (by omega)) ?_ (o44 0 (by decide)) (o44 1 (by decide)) (fun i i1 i2 => o2 i (by omega) (by omega) (by omega) (by omega) (by omega)), R3_c _ ca h3 (by decide), R4_c _ ca h4 (by decide) (o44 16 (by decide)) (o44 17 (by decide)), R5_c _ ca h5 (by decide), R6_c _ ca h6 (by decide) (o44 19 (by decide)), h7⟩
    rw [e4, g4]
    exact hzH
/-! ===== the inn ===== -/
theorem bt_hi0 : ∀ (ng : Fin 6) (s : Fin 32) (g : Fin 32), (s : Nat) < 2 ^ (ng : Nat) → (ng : Nat) ≤ g → bt (nI s) g = false := by decide +kernel
theorem bt_hi {ng s g : Nat} (h5 : ng ≤ 5) (hs : s < 2 ^ ng) (hg : ng ≤ g) : bt (nI s) g = false := by
  by_cases c : g < 32
  · have h32 := p2_5 ng h5
    exact bt_hi0 ⟨ng, by omega⟩ ⟨s, by omega⟩ ⟨g, c⟩ hs hg
  · unfold bt
    exact decide_eq_false (fun h9 => c h9.1)
theorem bt_z (g : Nat) : bt 0 g = false := by
  have h := bt_hi (ng := 0) (s := 0) (g := g) (by decide) (by decide) (Nat.zero_le g)
  exact h
theorem inn_o (S : gx_S) (a b c : Int32) (H : Hd) {i : Nat} (h : i ≠ 0 ∧ i ≠ 30 ∧ (i < 3 ∨ 21 < i)) : M_inn S a b c H i = S i := by
  unfold M_inn
  rw [u2_o _ _ _ h.1, u2_o _ _ _ h.2.1, tS_o _ _ (by omega), hS_o _ _ (by omega), mM_o _ _ _ _ _ (by omega)]
theorem minn_o (B : gx_S) (ng nd : Nat) {i : Nat} (h : i < 44 ∨ (49 < i ∧ i ≠ 58)) : M_minn B ng nd i = B i := by
  unfold M_minn
  rw [u2_o _ _ _ (by omega), u2_o _ _ _ (by omega), u2_o _ _ _ (by omega), iM_o _ _ _ _ _ _ (by omega)]
theorem minn_44 (B : gx_S) (ng nd : Nat) {j : Nat} (h : j ≠ 16) : M_minn B ng nd 44 j = B 44 j := by
  unfold M_minn
  rw [u2_o _ _ _ (by decide), u2_o _ _ _ (by decide), u2_k _ _ _ h, iM_o _ _ _ _ _ _ (by decide)]
theorem pr_inn (S : gx_S) (L : gx_L) (h : RR S L) : Pr mX10_inn mX11_inn [] S L := by
  obtain ⟨len, ng, nd, nx, sz, sn, h1, h2, h3, h4, h5, h6, h7⟩ := id h
  refine ⟨6, _, by decide, x_inn 0 S h1.1 h1.2.2.1 h2.2.2.2.1 h2.2.2.2.2.1 (z18_of h3) L, fun r S1 L1 h9 => ?_⟩
  obtain ⟨hL1, h9⟩ := h9
  have hL2 := hL1.symm
  subst hL2
  have eR : p_read (S 2) len = p_read (S 53) len := read_c h1.2.2.2.1
  rw [eR] at h9
  by_cases hc : (p_read (S 53) len).1 = -9
  · rw [if_pos hc] at h9
    obtain ⟨hr, hzH, a, b, c, hS1⟩ := h9
    have o1 : ∀ i, i ≠ 0 ∧ i ≠ 30 ∧ (i < 3 ∨ 21 < i) → S1 i = S i := fun i hi => by rw [hS1]; exact inn_o S a b c _ hi
    have k2 := m_inn 0 S1 (len := len) (by rw [o1 44 (by decide)]; exact h1.2.1) h1.2.2.1 (by rw [o1 53 (by decide)]; exact h1.2.2.2.2) L
    rw [o1 53 (by decide)] at k2
    generalize p_read (S 53) len = R at hc hr hzH hS1 k2
    obtain ⟨R1', H⟩ := R
    refine ⟨4, _, by decide, k2, fun r' S2 L2 h8 => ?_⟩
    obtain ⟨hL3, h8⟩ := h8
    have hL4 := hL3.symm
    subst hL4
    rcases h8 with ⟨-, hne, -⟩ | ⟨-, p, fa, g, d, G, D, Z, ng', nd', rfl, rfl, hH, hr', hS2⟩
    · exact absurd hc hne
    obtain ⟨q1, q2, q3, q4, q5, q6, q7, q8, q9, q10⟩ := hH
    have hrr : r' = r := by rw [hr', hr]; show _ = 10 * H.1 + H.2.1; rw [q1, q2]
    refine ⟨hrr, ?_⟩
    -- the class's cells
    have hS1' : S1 = M_inn S a b c H := hS1
    have g11 : hG S1 11 = H := by
      rw [hS1']
      unfold M_inn
      rw [hG_e (S := hS (mM S a b c H) 11 H) (fun i i1 i2 => by rw [u2_o _ _ _ (by omega), u2_o _ _ _ (by omega), tS_o _ _ (by omega)]), hG_hS]
    have g4 : hG S1 4 = H := by
      rw [hS1']
      unfold M_inn
      rw [hG_e (S := mM S a b c H) (fun i i1 i2 => by rw [u2_o _ _ _ (by omega), u2_o _ _ _ (by omega), tS_o _ _ (by omega), hS_o _ _ (by omega)]), mM_hG]
    have g18 : tG S1 18 = (H.2.2.2.1, z0, H.2.2.2.2.2.1, 0) := by
      rw [hS1']
      unfold M_inn
      rw [tG_e (S := tS (hS (mM S a b c H) 11 H) 18 (H.2.2.2.1, z0, H.2.2.2.2.2.1, 0)) (by rw [u2_o _ _ _ (by decide), u2_o _ _ _ (by decide)]) (by rw [u2_o _ _ _ (by decide), u2_o _ _ _ (by decide)]) (by rw [u2_o _ _ _ (by decide), u2_o _ _ _ (by decide)]) (by rw [u2_o _ _ _ (by decide), u2_o _ _ _ (by decide)]), tG_tS]
    have g30 : S1 30 1 = S 30 1 ∧ S1 30 2 = 0 := by
      rw [hS1']
      unfold M_inn
      rw [u2_o _ _ _ (by decide)]
      refine ⟨?_, u2_at _ _ _ _⟩
      rw [u2_k _ _ _ (by decide), tS_o _ _ (by decide), hS_o _ _ (by decide), mM_o _ _ _ _ _ (by decide)]
    have g0 : S1 0 9 = 0 := by
      rw [hS1']
      unfold M_inn
      exact u2_at _ _ _ _
    have c110 : S1 11 0 = H.1 := congrArg (fun H : Hd => H.1) g11
    have c111 : S1 11 1 = H.2.1 := congrArg (fun H : Hd => H.2.1) g11
    have c12 : S1 12 = H.2.2.1 := congrArg (fun H : Hd => H.2.2.1) g11
    have c14 : S1 14 = H.2.2.2.2.1 := congrArg (fun H : Hd => H.2.2.2.2.1) g11
    have c16 : S1 16 = H.2.2.2.2.2.2.1 := congrArg (fun H : Hd => H.2.2.2.2.2.2.1) g11
    have c17 : S1 17 = H.2.2.2.2.2.2.2 := congrArg (fun H : Hd => H.2.2.2.2.2.2.2) g11
    -- the reference's cells
    generalize hB : q_B (rM S1 p fa (nI ng') (nI nd') G D Z) ng' nd' = B at hS2
    have b44 : ∀ j, j ≠ 0 ∧ j ≠ 1 ∧ j ≠ 14 ∧ j ≠ 15 ∧ j ≠ 10 ∧ j ≠ 11 → B 44 j = S1 44 j := fun j hj => by
      rw [← hB]
      unfold q_B
      rw [u2_k _ _ _ hj.2.1, u2_k _ _ _ hj.1, rM_k _ _ _ _ _ _ _ _ hj.2.2]
    have bo : ∀ i, i ≠ 44 ∧ i ≠ 50 ∧ i ≠ 51 ∧ i ≠ 52 → B i = S1 i := fun i hi => by
      rw [← hB]
      unfold q_B
      rw [u2_o _ _ _ hi.1, u2_o _ _ _ hi.1, rM_o _ _ _ _ _ _ _ _ hi]
    have b50 : B 50 = G := by
      rw [← hB]
      unfold q_B
      rw [u2_o _ _ _ (by decide), u2_o _ _ _ (by decide)]
      rfl
    have b51 : B 51 = D := by
      rw [← hB]
      unfold q_B
      rw [u2_o _ _ _ (by decide), u2_o _ _ _ (by decide)]
      rfl
    have b52 : B 52 = Z := by
      rw [← hB]
      unfold q_B
      rw [u2_o _ _ _ (by decide), u2_o _ _ _ (by decide)]
      rfl
    have b0 : B 44 0 = nI ng' := by rw [← hB]; exact q_B0 _ _ _
    have b1 : B 44 1 = nI nd' := by rw [← hB]; exact q_B1 _ _ _
    have o2 : ∀ i, i < 44 ∨ (52 < i ∧ i ≠ 58) → S2 i = S1 i := fun i hi => by rw [hS2, minn_o _ _ _ (by omega), bo i (by omega)]
    have o44 : ∀ j, j ≠ 16 ∧ j ≠ 0 ∧ j ≠ 1 ∧ j ≠ 14 ∧ j ≠ 15 ∧ j ≠ 10 ∧ j ≠ 11 → S2 44 j = S 44 j := fun j hj => by rw [hS2, minn_44 _ _ _ hj.1, b44 j hj.2, o1 44 (by decide)]
    have e440 : S2 44 0 = nI ng' := by rw [hS2, minn_44 _ _ _ (by decide)]; exact b0
    have e441 : S2 44 1 = nI nd' := by rw [hS2, minn_44 _ _ _ (by decide)]; exact b1
    have e4416 : S2 44 16 = 0 := by
      rw [hS2]
      unfold M_minn
      rw [u2_o _ _ _ (by decide), u2_o _ _ _ (by decide), u2_at]
    have e58 : ∀ k, k < 2 → S2 58 k = 0 := by
      intro k hk
      rw [hS2]
      unfold M_minn
      by_cases ek : k = 1
      · subst ek; exact u2_at _ _ _ _
      · rw [u2_k _ _ _ ek]
        obtain rfl : k = 0 := by omega
        exact u2_at _ _ _ _
    have m45 : S2 45 = wr (B 45) 0 (fun g => B 50 (3 * g)) ng' := by
      rw [hS2]
      unfold M_minn
      rw [u2_o _ _ _ (by decide), u2_o _ _ _ (by decide), u2_o _ _ _ (by decide)]
      rfl
    have m46 : S2 46 = wr (B 46) 0 (fun g => B 50 (3 * g + 2)) ng' := by
      rw [hS2]
      unfold M_minn
      rw [u2_o _ _ _ (by decide), u2_o _ _ _ (by decide), u2_o _ _ _ (by decide)]
      rfl
    have m47 : S2 47 = wr (B 47) 0 (fun g => B 51 (2 * g + 1)) nd' := by
      rw [hS2]
      unfold M_minn
      rw [u2_o _ _ _ (by decide), u2_o _ _ _ (by decide), u2_o _ _ _ (by decide)]
      rfl
    have m48 : S2 48 = wr (B 48) 0 (B 52) nd' := by
      rw [hS2]
      unfold M_minn
      rw [u2_o _ _ _ (by decide), u2_o _ _ _ (by decide), u2_o _ _ _ (by decide)]
      rfl
    have m49 : S2 49 = wr (wr (cl4 (B 49) 15) 0 (fun g => B 50 (3 * g + 1)) ng') 10 (fun g => B 51 (2 * g)) nd' := by
      rw [hS2]
      unfold M_minn
      rw [u2_o _ _ _ (by decide), u2_o _ _ _ (by decide), u2_o _ _ _ (by decide)]
      rfl
    have w0 : ∀ (f h : Nat → Int32) (n j : Nat), j < n → wr f 0 h n j = h j := fun f h n j hj => by
      unfold wr
      rw [if_pos ⟨Nat.zero_le j, by omega⟩, Nat.sub_zero]
    have r49 : ∀ j, j < 15 → S2 49 j = if j < 5 then H.2.2.2.1 j else if j < 10 then 0 else if j < 14 then H.2.2.2.2.2.1 (j - 10) else 0 := by
      intro j hj
      rw [m49]
      unfold wr cl4
      by_cases c5 : j < 5
      · rw [if_pos c5, if_neg (by omega)]
        by_cases cn : j < ng'
        · rw [if_pos ⟨Nat.zero_le j, by omega⟩, Nat.sub_zero, b50]
          exact (q5 j cn).1.2.1
        · rw [if_neg (by omega), if_pos hj]
          exact (q9 j (by omega)).2.1.symm
      · rw [if_neg c5]
        by_cases c10 : j < 10
        · rw [if_pos c10, if_neg (by omega), if_neg (by omega), if_pos hj]
        · rw [if_neg c10]
          by_cases c14' : j < 14
          · rw [if_pos c14']
            by_cases cn : j - 10 < nd'
            · rw [if_pos (by omega), b51]
              exact (q6 (j - 10) cn).1.1
            · rw [if_neg (by omega), if_neg (by omega), if_pos hj]
              exact (q10 (j - 10) (by omega)).1.symm
          · rw [if_neg c14', if_neg (by omega), if_neg (by omega), if_pos hj]
    have zP : ∀ j, 5 ≤ j → H.2.2.2.1 j = 0 := fun j hj => (hzH.1 j hj).2.1
    have zQ : ∀ j, 4 ≤ j → H.2.2.2.2.2.1 j = 0 := fun j hj => (hzH.2 j hj).1
    have eT : mT (S2 49) 0 = (H.2.2.2.1, z0, H.2.2.2.2.2.1, 0) := by
      unfold mT
      refine Prod.ext (funext fun j => ?_) (Prod.ext (funext fun j => ?_) (Prod.ext (funext fun j => ?_) ?_))
      · show (if j < 5 then S2 49 (15 * 0 + j) else 0) = H.2.2.2.1 j
        by_cases cj : j < 5
        · rw [if_pos cj, Nat.mul_zero, Nat.zero_add, r49 j (by omega), if_pos cj]
        · rw [if_neg cj]; exact (zP j (by omega)).symm
      · show (if j < 5 then S2 49 (15 * 0 + 5 + j) else 0) = 0
        by_cases cj : j < 5
        · rw [if_pos cj, Nat.mul_zero, Nat.zero_add, r49 (5 + j) (by omega), if_neg (by omega), if_pos (by omega)]
        · rw [if_neg cj]
      · show (if j < 4 then S2 49 (15 * 0 + 10 + j) else 0) = H.2.2.2.2.2.1 j
        by_cases cj : j < 4
        · rw [if_pos cj, Nat.mul_zero, Nat.zero_add, r49 (10 + j) (by omega), if_neg (by omega), if_neg (by omega), if_pos (by omega), Nat.add_sub_cancel_left]
        · rw [if_neg cj]; exact (zQ j (by omega)).symm
      · show S2 49 (15 * 0 + 14) = 0
        rw [Nat.mul_zero, Nat.zero_add, r49 14 (by decide)]
        rfl
    have e18 : tG S2 18 = (H.2.2.2.1, z0, H.2.2.2.2.2.1, 0) := by
      rw [tG_e (o2 18 (by decide)) (o2 (18 + 1) (by decide)) (o2 (18 + 2) (by decide)) (o2 (18 + 3) (by decide)), g18]
    have hok : okT H.2.2.1 (H.2.2.2.1, z0, H.2.2.2.2.2.1, 0) := by
      refine ⟨fun g hg => ⟨?_, ⟨0, rfl, by decide⟩⟩, fun d hd => ?_⟩
      · by_cases cg : g < ng'
        · exact (q5 g cg).2
        · exact ⟨0, 0, (q9 g (by omega)).2.1, (q9 g (by omega)).1, Nat.le_refl _, by decide⟩
      · by_cases cd : d < nd'
        · exact (q6 d cd).2
        · exact ⟨0, (q10 d (by omega)).1, by decide⟩
    have hsb : ∀ d g, (ng' ≤ g ∨ nd' ≤ d) → bt (H.2.2.2.2.2.2.2 d) g = false := by
      intro d g hdg
      rcases hdg with hg | hd
      · obtain ⟨s, hs, es⟩ := q8 d
        rw [es]
        exact bt_hi q3 hs hg
      · rw [(q10 d hd).2.2]
        exact bt_z g
    have u1 : R1 S2 len := R1_tr h1 (by rw [o2 1 (by decide), o1 1 (by decide)]) (by rw [o2 2 (by decide), o1 2 (by decide)]) (o44 13 (by decide)) (by rw [o2 53 (by decide), o1 53 (by decide)])
    have u2 : R2 S2 ng' nd' := by
      unfold R2
      rw [o2 11 (by decide), o2 12 (by decide), o2 14 (by decide), o2 16 (by decide), o2 17 (by decide), c110, c111, c12, c14, c16, c17, q1, q2]
      refine ⟨rfl, rfl, ⟨e440, q3, e441, q4, fun g hg => ⟨?_, ?_⟩, fun d hd => ⟨?_, ?_⟩, fun g hg => ⟨(q9 g hg).1, (q9 g hg).2.2⟩, hsb⟩, ?_, ?_, fun d => ?_⟩
      · rw [m45, w0 _ _ _ _ hg, b50]; exact (q5 g hg).1.1
      · rw [m46, w0 _ _ _ _ hg, b50]; exact (q5 g hg).1.2.2
      · rw [m47, w0 _ _ _ _ hd, b51]; exact (q6 d hd).1.2
      · rw [m48, w0 _ _ _ _ hd, b52]; exact q7 d (by omega)
      · rw [hG_e (fun i i1 i2 => o2 i (by omega)), g4]; exact hzH
      · rw [hG_e (fun i i1 i2 => o2 i (by omega)), g11]; exact hzH
      · obtain ⟨s, hs, es⟩ := q8 d
        have h32 := p2_5 ng' q3
        exact ⟨s, by omega, es⟩
    have u3 : R3 S2 nd' := by
      unfold R3
      rw [eT, e18, o2 12 (by decide), c12, tG_e (o2 22 (by decide)) (o2 (22 + 1) (by decide)) (o2 (22 + 2) (by decide)) (o2 (22 + 3) (by decide)), tG_e (o1 22 (by decide)) (o1 (22 + 1) (by decide)) (o1 (22 + 2) (by decide)) (o1 (22 + 3) (by decide)), tG_e (o2 26 (by decide)) (o2 (26 + 1) (by decide)) (o2 (26 + 2) (by decide)) (o2 (26 + 3) (by decide)), tG_e (o1 26 (by decide)) (o1 (26 + 1) (by decide)) (o1 (26 + 2) (by decide)) (o1 (26 + 3) (by decide))]
      exact ⟨rfl, hok, fun d hd => (q10 d hd).1, h3.2.2.2.1, h3.2.2.2.2⟩
    have u4 : R4 S2 nd' nx 0 := by
      unfold R4
      rw [o2 30 (by decide), g30.1, g30.2, o44 17 (by decide), e4416, o2 31 (by decide), o1 31 (by decide), o2 32 (by decide), o1 32 (by decide), o2 54 (by decide), o1 54 (by decide)]
      exact ⟨h4.1, h4.2.1, h4.2.2.1, rfl, rfl, by decide, h4.2.2.2.2.2.2.1, h4.2.2.2.2.2.2.2.1, fun i hi => absurd hi (Nat.not_lt_zero i)⟩
    have u5 : R5 S2 nd' := by
      unfold R5
      rw [o2 33 (by decide), o1 33 (by decide), o2 34 (by decide), o1 34 (by decide), o2 59 (by decide), o1 59 (by decide), o2 0 (by decide), g0]
      exact ⟨h5.1, h5.2.1, fun p hp => Or.inl ⟨bt_z p, e58 p hp⟩, ⟨0, by decide, rfl⟩⟩
    have u6 : R6 S2 sn := R6_tr h6 (by rw [o2 35 (by decide), o1 35 (by decide)]) (by rw [o2 36 (by decide), o1 36 (by decide)]) (by rw [o2 37 (by decide), o1 37 (by decide)]) (by rw [o2 38 (by decide), o1 38 (by decide)]) (o44 19 (by decide)) (by rw [o2 55 (by decide), o1 55 (by decide)]) (by rw [o2 56 (by decide), o1 56 (by decide)]) (by rw [o2 57 (by decide), o1 57 (by decide)])
    exact ⟨len, ng', nd', nx, 0, sn, u1, u2, u3, u4, u5, u6, h7⟩
  · rw [if_neg hc] at h9
    obtain ⟨hr, a, b, c, H', hzH, hS1⟩ := h9
    have o1 : ∀ i, (i < 3 ∨ 10 < i) → S1 i = S i := fun i hi => by rw [hS1]; exact mM_o S a b c H' hi
    have g4 : hG S1 4 = H' := by rw [hS1]; exact mM_4 S a b c H'
    have k2 := m_inn 0 S1 (len := len) (by rw [o1 44 (by decide)]; exact h1.2.1) h1.2.2.1 (by rw [o1 53 (by decide)]; exact h1.2.2.2.2) L
    rw [o1 53 (by decide)] at k2
    refine ⟨4, _, by decide, k2, fun r' S2 L2 h8 => ?_⟩
    obtain ⟨hL3, h8⟩ := h8
    have hL4 := hL3.symm
    subst hL4
    rcases h8 with ⟨hr', -, p, fa, g, d, G, D, Z, hS2⟩ | ⟨hy, -⟩
    · refine ⟨by rw [hr', hr], ?_⟩
      have o2 : ∀ i, (i < 3 ∨ 10 < i) → i ≠ 44 → i ≠ 50 → i ≠ 51 → i ≠ 52 → S2 i = S i := fun i i1 i2 i3 i4 i5 => by rw [hS2, rM_o _ _ _ _ _ _ _ _ ⟨i2, i3, i4, i5⟩, o1 i i1]
      have o44 : ∀ j, j ≠ 14 ∧ j ≠ 15 ∧ j ≠ 10 ∧ j ≠ 11 → S2 44 j = S 44 j := fun j hj => by rw [hS2, rM_k _ _ _ _ _ _ _ _ hj, o1 44 (by decide)]
      have ca : ∀ i, (fun i => (decide (3 ≤ i) && decide (i ≤ 10)) || (i == 44 || (i == 50 || (i == 51 || i == 52)))) i = false → S2 i = S i := by
        intro i hi
        simp only [Bool.or_eq_false_iff, beq_eq_false_iff_ne, Bool.and_eq_false_iff, decide_eq_false_iff_not] at hi
        exact o2 i (by omega) hi.2.1 hi.2.2.1 hi.2.2.2.1 hi.2.2.2.2
      have e4 : hG S2 4 = hG S1 4 := hG_e (fun i i1 i2 => by rw [hS2, rM_o _ _ _ _ _ _ _ _ (by omega)])
      refine ⟨len, ng, nd, nx, sz, sn, R1_c _ ca h1 (by decide) (o44 13 (by decide)), R2_tr h2 (fun i i1 i2 => o2 i (by omega) (by omega) (by omega) (by omega) (by omega)) ?_ (o44 0 (by decide)) (o44 1 (by decide)) (fun i i1 i2 => o2 i (by omega) (by omega) (by omega) (by omega) (by omega)), R3_c _ ca h3 (by decide), R4_c _ ca h4 (by decide) (o44 16 (by decide)) (o44 17 (by decide)), R5_c _ ca h5 (by decide), R6_c _ ca h6 (by decide) (o44 19 (by decide)), h7⟩
      rw [e4, g4]
      exact hzH
    · exact absurd hy hc
