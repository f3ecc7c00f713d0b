/-! ===== the relation kept where few cells change ===== -/
theorem all_n {ch : Nat → Bool} {l : List Nat} (d : l.all (fun i => !ch i) = true) {i : Nat} (hi : i ∈ l) : ch i = false := by
  have h := List.all_eq_true.mp d i hi
  cases e : ch i
  · rfl
  · rw [e] at h; cases h
theorem R1_c {S S' : gx_S} {len : Nat} (ch : Nat → Bool) (a : ∀ i, ch i = false → S' i = S i) (h : R1 S len) (d : [1, 2, 53].all (fun i => !ch i) = true) (e : S' 44 13 = S 44 13) : R1 S' len :=
  R1_tr h (a 1 (all_n d (by decide))) (a 2 (all_n d (by decide))) e (a 53 (all_n d (by decide)))
theorem R2_c {S S' : gx_S} {ng nd : Nat} (ch : Nat → Bool) (a : ∀ i, ch i = false → S' i = S i) (h : R2 S ng nd) (d : [4, 5, 6, 7, 8, 9, 10, 11, 12, 13, 14, 15, 16, 17, 45, 46, 47, 48].all (fun i => !ch i) = true) (e : S' 44 0 = S 44 0) (e1 : S' 44 1 = S 44 1) : R2 S' ng nd := by
  have m : ∀ i, (4 ≤ i ∧ i ≤ 17) ∨ (45 ≤ i ∧ i ≤ 48) → S' i = S i := by
    intro i hi
    refine a i (all_n d ?_)
    simp only [List.mem_cons, List.not_mem_nil, or_false]
    omega
  refine R2_tr h (fun i i1 i2 => m i (Or.inl ⟨by omega, i2⟩)) ?_ e e1 (fun i i1 i2 => m i (Or.inr ⟨i1, i2⟩))
  rw [hG_e (fun i i1 i2 => m i (Or.inl ⟨i1, by omega⟩))]
  exact h.2.2.2.1
theorem R3_c {S S' : gx_S} {nd : Nat} (ch : Nat → Bool) (a : ∀ i, ch i = false → S' i = S i) (h : R3 S nd) (d : [12, 18, 19, 20, 21, 22, 23, 24, 25, 26, 27, 28, 29, 49].all (fun i => !ch i) = true) : R3 S' nd := by
  have m : ∀ i, (18 ≤ i ∧ i ≤ 29) → S' i = S i := by
    intro i hi
    refine a i (all_n d ?_)
    simp only [List.mem_cons, List.not_mem_nil, or_false]
    omega
  refine R3_tr h (a 12 (all_n d (by decide))) (tG_e (m 18 (by decide)) (m (18 + 1) (by decide)) (m (18 + 2) (by decide)) (m (18 + 3) (by decide))) (by rw [a 49 (all_n d (by decide))]) ?_ ?_
  · rw [tG_e (m 22 (by decide)) (m (22 + 1) (by decide)) (m (22 + 2) (by decide)) (m (22 + 3) (by decide))]
    exact h.2.2.2.1
  · rw [tG_e (m 26 (by decide)) (m (26 + 1) (by decide)) (m (26 + 2) (by decide)) (m (26 + 3) (by decide))]
    exact h.2.2.2.2
theorem R4_c {S S' : gx_S} {nd nx sz : Nat} (ch : Nat → Bool) (a : ∀ i, ch i = false → S' i = S i) (h : R4 S nd nx sz) (d : [12, 30, 31, 32, 54].all (fun i => !ch i) = true) (e : S' 44 16 = S 44 16) (e1 : S' 44 17 = S 44 17) : R4 S' nd nx sz :=
  R4_tr h (a 12 (all_n d (by decide))) (a 30 (all_n d (by decide))) (a 31 (all_n d (by decide))) (a 32 (all_n d (by decide))) e e1 (a 54 (all_n d (by decide)))
theorem R5_c {S S' : gx_S} {nd : Nat} (ch : Nat → Bool) (a : ∀ i, ch i = false → S' i = S i) (h : R5 S nd) (d : [0, 12, 33, 34, 58, 59].all (fun i => !ch i) = true) : R5 S' nd :=
  R5_tr h (a 12 (all_n d (by decide))) (a 33 (all_n d (by decide))) (a 34 (all_n d (by decide))) (by rw [a 0 (all_n d (by decide))]) (a 58 (all_n d (by decide))) (a 59 (all_n d (by decide)))
theorem R6_c {S S' : gx_S} {sn : Nat} (ch : Nat → Bool) (a : ∀ i, ch i = false → S' i = S i) (h : R6 S sn) (d : [35, 36, 37, 38, 55, 56, 57].all (fun i => !ch i) = true) (e : S' 44 19 = S 44 19) : R6 S' sn :=
  R6_tr h (a 35 (all_n d (by decide))) (a 36 (all_n d (by decide))) (a 37 (all_n d (by decide))) (a 38 (all_n d (by decide))) e (a 55 (all_n d (by decide))) (a 56 (all_n d (by decide))) (a 57 (all_n d (by decide)))
theorem pr_wipe (S : gx_S) (L : gx_L) (h : RR S L) : Pr mX10_wipe mX11_wipe [] S L := by
  obtain ⟨len, ng, nd, nx, sz, sn, h1, h2, h3, h4, h5, h6, h7⟩ := id h
  refine Pr_f (x_wipe 0 S h1.1 h1.2.2.1 L) (m_wipe 0 (gx_u2 S 1 1 0) (len := len) (by rw [u2_o _ _ _ (by decide)]; exact h1.2.1) L) rfl ?_
  have a : ∀ i, (fun i => i == 1 || i == 44) i = false → gx_u2 (gx_u2 S 1 1 0) 44 13 0 i = S i := by
    intro i hi
    simp only [Bool.or_eq_false_iff, beq_eq_false_iff_ne] at hi
    rw [u2_o _ _ _ hi.2, u2_o _ _ _ hi.1]
  have a44 : ∀ j, j ≠ 13 → gx_u2 (gx_u2 S 1 1 0) 44 13 0 44 j = S 44 j := fun j hj => by rw [u2_k _ _ _ hj, u2_o _ _ _ (by decide)]
  refine ⟨0, ng, nd, nx, sz, sn, ⟨?_, u2_at _ _ _ _, by omega, fun i hi => absurd hi (Nat.not_lt_zero i), fun i hi => absurd hi (Nat.not_lt_zero i)⟩, R2_c _ a h2 (by decide) (a44 0 (by decide)) (a44 1 (by decide)), R3_c _ a h3 (by decide), R4_c _ a h4 (by decide) (a44 16 (by decide)) (a44 17 (by decide)), R5_c _ a h5 (by decide), R6_c _ a h6 (by decide) (a44 19 (by decide)), h7⟩
  rw [u2_o _ _ _ (by decide), u2_at]
  rfl
/-! ===== what is looked at ===== -/
theorem pr_glass (S : gx_S) (L : gx_L) (h : RR S L) (g w : Int32) : Pr mX10_glass mX11_glass [.int g, .int w] S L := by
  obtain ⟨len, ng, nd, nx, sz, sn, h1, h2, h3, h4, h5, h6, h7⟩ := id h
  exact Pr_f (x_glass 0 S h2.1 h2.2.2.1.2.1 h2.2.1 h2.2.2.1.2.2.2.1 g w L) (m_glass 0 S h2.2.2.1 h3.1 h3.2.1 g w L) rfl h
theorem R2_hz {S : gx_S} {ng nd : Nat} (h : R2 S ng nd) : ∀ j i, ng ≤ i → bt (S 17 j) i = false := fun j i hi => h.2.2.1.2.2.2.2.2.2.2 j i (Or.inl hi)
theorem pr_drinker (S : gx_S) (L : gx_L) (h : RR S L) (g w : Int32) : Pr mX10_drinker mX11_drinker [.int g, .int w] S L := by
  obtain ⟨len, ng, nd, nx, sz, sn, h1, h2, h3, h4, h5, h6, h7⟩ := id h
  exact Pr_f (x_drinker 0 S h2.1 h2.2.2.1.2.1 h2.2.1 h2.2.2.1.2.2.2.1 (R2_hz h2) g w L) (m_drinker 0 S h2.2.2.1 h3.1 h3.2.1 (fun d _ => h2.2.2.2.2.2 d) g w L) rfl h
theorem pr_count (S : gx_S) (L : gx_L) (h : RR S L) (w : Int32) : Pr mX10_count mX11_count [.int w] S L := by
  obtain ⟨len, ng, nd, nx, sz, sn, h1, h2, h3, h4, h5, h6, h7⟩ := id h
  refine Pr_f (x_count 0 S w L) (m_count 0 S h2.2.2.1 h3.1 h3.2.1 h3.2.2.1 w L) ?_ h
  rw [r_h h3.1, h1.1, h1.2.1, h2.1, h2.2.1, h2.2.2.1.1, h2.2.2.1.2.2.1, h4.2.2.2.1, h4.2.2.2.2.1, h6.1, h6.2.1]
  rfl
theorem z18_of {S : gx_S} {nd : Nat} (h : R3 S nd) : zT (tG S 18) := by
  rw [← h.1]
  exact mT_z _ _
/-! ===== evenings that are tried ===== -/
section TRY
variable {S : gx_S} {L : gx_L} {ng nd : Nat}
theorem t_m (h : R2 S ng nd) (T : Tb) : mH (tS S 26 T) ng nd (S 12) (S 14) (S 16) (S 17) := mH_cc h.2.2.1 (fun i hi => tS_o S T (by omega))
theorem t_0 (h : R3 S nd) (T : Tb) : mT (tS S 26 T 49) 0 = tG S 18 := by rw [tS_o S T (by decide)]; exact h.1
end TRY
theorem pr_left (S : gx_S) (L : gx_L) (h : RR S L) (g : Int32) : Pr mX10_left mX11_left [.int g] S L := by
  obtain ⟨len, ng, nd, nx, sz, sn, h1, h2, h3, h4, h5, h6, h7⟩ := id h
  have h59 := h2.2.2.1.2.1
  cases hb : isG (nI ng) g with
  | false => exact Pr_f (x_left0 0 S (by rw [h2.1]; exact hb) L) (m_left0 0 S h2.2.2.1 hb L) rfl h
  | true =>
    obtain ⟨j, hj, rfl, -⟩ := isG_of (by omega) hb
    have z := zT_ev (dk := S 16) (sb := S 17) (so := 15) (z18_of h3)
    exact Pr_f (x_left 0 S h2.1 h59 hj (z18_of h3) h3.2.2.2.1 h3.2.2.2.2 L) (m_left 0 _ (t_m h2 _) (t_0 h3 _) h3.2.1 hj L) rfl (RR_n (RR_t h z) _)
theorem pr_evening (S : gx_S) (L : gx_L) (h : RR S L) (w : Int32) : Pr mX10_evening mX11_evening [.int w] S L := by
  obtain ⟨len, ng, nd, nx, sz, sn, h1, h2, h3, h4, h5, h6, h7⟩ := id h
  have z := zT_ev (dk := S 16) (sb := S 17) (so := 15) (z18_of h3)
  have k1 := x_evening 0 S (z18_of h3) h3.2.2.2.1 h3.2.2.2.2 w L
  by_cases hb : w < 0 ∨ 1 < w
  · have e1 : A_evening (S 16) (S 17) (S 14) (S 12) (tG S 18) w = -2 := by
      unfold A_evening
      by_cases c : w < 0
      · rw [if_pos c]
      · rw [if_neg c, if_neg (Int32.not_le.mpr (hb.resolve_left c))]
    have e2 : M_evening S w = S := by
      unfold M_evening
      by_cases c : w < 0
      · rw [if_pos c]
      · rw [if_neg c, if_neg (Int32.not_le.mpr (hb.resolve_left c))]
    rw [e1, e2] at k1
    exact Pr_f k1 (m_evening0 0 S hb L) rfl h
  · have hb2 := oob hb
    have e1 : A_evening (S 16) (S 17) (S 14) (S 12) (tG S 18) w = (if w = 0 then p_taxes (S 14) (S 12) (p_ev (S 16) (S 17) 15 (tG S 18)) else p_thirst (p_ev (S 16) (S 17) 15 (tG S 18))) := by
      unfold A_evening
      rw [if_neg hb2.1, if_pos (Int32.not_lt.mp hb2.2)]
    have e2 : M_evening S w = tS S 26 (p_ev (S 16) (S 17) 15 (tG S 18)) := by
      unfold M_evening
      rw [if_neg hb2.1, if_pos (Int32.not_lt.mp hb2.2), ite_self]
    rw [e1, e2] at k1
    exact Pr_f k1 (m_evening 0 _ (t_m h2 _) (t_0 h3 _) h3.2.1 h3.2.2.1 hb2 L) rfl (RR_n (RR_t h z) _)
theorem pr_hall (S : gx_S) (L : gx_L) (h : RR S L) (n : Int32) : Pr mX10_hall mX11_hall [.int n] S L := by
  obtain ⟨len, ng, nd, nx, sz, sn, h1, h2, h3, h4, h5, h6, h7⟩ := id h
  by_cases hb : n < 0 ∨ 9 < n
  · exact Pr_f (x_hall0 0 S hb L) (m_hall0 0 S hb L) rfl h
  · have hb2 := oob hb
    obtain ⟨k, hk, rfl⟩ := nI_of2 (M := 9) (n := 9) (by decide) hb2.1 (Int32.not_lt.mp hb2.2)
    exact Pr_f (x_hall 0 S hk (z18_of h3) h3.2.2.2.1 h3.2.2.2.2 L) (m_hall 0 _ (t_m h2 _) (t_0 h3 _) h3.2.1 hk L) rfl (RR_n (RR_t h (zT_hall (z18_of h3) k)) _)
theorem pr_wake (S : gx_S) (L : gx_L) (h : RR S L) : Pr mX10_wake mX11_wake [] S L := by
  obtain ⟨len, ng, nd, nx, sz, sn, h1, h2, h3, h4, h5, h6, h7⟩ := id h
  refine ⟨6, _, by decide, x_wake 0 S h2.1 h2.2.2.1.2.1 (z18_of h3) h3.2.2.2.1 h3.2.2.2.2 L, fun r S1 L1 h9 => ?_⟩
  obtain ⟨hr, ⟨T1, hz1, hS1⟩, hL1⟩ := h9
  subst hS1 hL1
  refine ⟨4, _, by decide, m_wake 0 _ (t_m h2 T1) (t_0 h3 T1) h3.2.1 h3.2.2.1 _, fun r' S2 L2 h8 => ?_⟩
  obtain ⟨hr', ⟨T2, hS2⟩, hL2⟩ := h8
  subst hS2 hL2
  exact ⟨hr'.trans hr.symm, RR_n (RR_t h hz1) T2⟩
theorem pr_pouring (S : gx_S) (L : gx_L) (h : RR S L) (n w : Int32) : Pr mX10_pouring mX11_pouring [.int n, .int w] S L := by
  obtain ⟨len, ng, nd, nx, sz, sn, h1, h2, h3, h4, h5, h6, h7⟩ := id h
  have h59 := h2.2.2.1.2.1
  by_cases hb : n < 0 ∨ 9 < n
  · exact Pr_f (x_pouring0 0 S hb L) (m_pouring0 0 S hb L) rfl h
  · have hb2 := oob hb
    obtain ⟨k, hk, rfl⟩ := nI_of2 (M := 9) (n := 9) (by decide) hb2.1 (Int32.not_lt.mp hb2.2)
    refine ⟨ng + 6, _, by omega, x_pouring S h2.1 h59 h3.2.1 (z18_of h3) h3.2.2.2.2 hk w L, fun r S1 L1 h9 => ?_⟩
    obtain ⟨hr, ⟨T1, P, U, a, b, hz1, hS1⟩, hL1⟩ := h9
    subst hS1 hL1
    refine ⟨5, _, by decide, m_pouring 0 _ (mH_cc h2.2.2.1 (fun i hi => sM_o S T1 P U a b (by omega))) (T := tG S 18) (by rw [sM_o S T1 P U a b (by decide)]; exact h3.1) h3.2.1 hk w _, fun r' S2 L2 h8 => ?_⟩
    obtain ⟨hr', ⟨T2, hS2⟩, hL2⟩ := h8
    subst hS2 hL2
    exact ⟨hr'.trans hr.symm, RR_n (RR_s h hz1 P U a b) T2⟩
theorem pr_order (S : gx_S) (L : gx_L) (h : RR S L) (w : Int32) : Pr mX10_order mX11_order [.int w] S L := by
  obtain ⟨len, ng, nd, nx, sz, sn, h1, h2, h3, h4, h5, h6, h7⟩ := id h
  have h49 := h2.2.2.1.2.2.2.1
  refine ⟨nd + 5, _, by omega, x_order S h2.2.1 h49 h3.2.1 (z18_of h3) h3.2.2.2.2 w L, fun r S1 L1 h9 => ?_⟩
  obtain ⟨hr, ⟨T1, P, U, a, b, hz1, hS1⟩, hL1⟩ := h9
  subst hS1 hL1
  refine ⟨4, _, by decide, m_order 0 _ (mH_cc h2.2.2.1 (fun i hi => sM_o S T1 P U a b (by omega))) (T := tG S 18) (by rw [sM_o S T1 P U a b (by decide)]; exact h3.1) h3.2.1 h3.2.2.1 w _, fun r' S2 L2 h8 => ?_⟩
  obtain ⟨hr', ⟨T2, hS2⟩, hL2⟩ := h8
  subst hS2 hL2
  exact ⟨hr'.trans hr.symm, RR_n (RR_s h hz1 P U a b) T2⟩
theorem pr_judge (S : gx_S) (L : gx_L) (h : RR S L) (n : Int32) (row : Int64) : Pr mX10_judge mX11_judge [.int n, .long row] S L := by
  obtain ⟨len, ng, nd, nx, sz, sn, h1, h2, h3, h4, h5, h6, h7⟩ := id h
  have h59 := h2.2.2.1.2.1
  have h49 := h2.2.2.1.2.2.2.1
  by_cases hb : n < 1 ∨ 4 < n
  · exact Pr_f (x_judge0 0 S hb row L) (m_judge0 0 S hb row L) rfl h
  · have hb2 := oob hb
    obtain ⟨k, hk, rfl⟩ := nI_of2 (M := 4) (n := 4) (by decide) (show ¬ n < 0 from fun h9 => hb2.1 (Int32.lt_trans h9 (by decide))) (Int32.not_lt.mp hb2.2)
    have hk1 : 1 ≤ k := Nat.pos_of_ne_zero (fun h9 => hb2.1 (by rw [h9]; decide))
    by_cases hr0 : row < 0 ∨ lN (1000 ^ k) ≤ row
    · exact Pr_f (x_judge1 0 S hk1 hk hr0 L) (m_judge1 0 S hk1 hk hr0 L) rfl h
    · obtain ⟨r, hr1, rfl⟩ := lN_of (fun h9 => hr0 (Or.inl h9))
      have hp := p1000 k hk
      have hr : r < 1000 ^ k := Nat.lt_of_not_le (fun h9 => hr0 (Or.inr ((lN_leB (by omega) hr1).mpr h9)))
      refine ⟨5, _, by decide, x_judge 0 S h2.1 h59 h2.2.1 h49 hk1 hk hr (z18_of h3) h3.2.2.2.1 h3.2.2.2.2 L, fun r9 S1 L1 h9 => ?_⟩
      obtain ⟨hr9, ⟨T1, hz1, hS1⟩, hL1⟩ := h9
      subst hS1 hL1
      refine ⟨4, _, by decide, m_judge 0 _ (t_m h2 T1) (t_0 h3 T1) h3.2.1 hk1 hk hr _, fun r' S2 L2 h8 => ?_⟩
      obtain ⟨hr', ⟨T2, hS2⟩, hL2⟩ := h8
      subst hS2 hL2
      refine ⟨?_, RR_n (RR_t h hz1) T2⟩
      rw [hr', hr9, h2.1, h2.2.1]
theorem pr_share (S : gx_S) (L : gx_L) (h : RR S L) (x w : Int32) : Pr mX10_share mX11_share [.int x, .int w] S L := by
  obtain ⟨len, ng, nd, nx, sz, sn, h1, h2, h3, h4, h5, h6, h7⟩ := id h
  have h49 := h2.2.2.1.2.2.2.1
  cases hb : isG (nI nd) x with
  | false => exact Pr_f (x_share0 0 S (by rw [h2.2.1]; exact hb) L) (m_share0 0 S h2.2.2.1 hb L) rfl h
  | true =>
    obtain ⟨j, hj, rfl, -⟩ := isG_of (by omega) hb
    obtain ⟨y, hy1, hy⟩ := share_x (tx := fun so => p_taxes (S 14) (S 12) (p_ev (S 16) (S 17) so (tG S 18))) (fun so => taxes_b (S 14) (okT_ev h3.2.1)) h49 j
    refine ⟨6, _, by decide, x_share 0 S h2.2.1 h49 (z18_of h3) h3.2.2.2.1 h3.2.2.2.2 hj w hy hy1 L, fun r S1 L1 h9 => ?_⟩
    obtain ⟨hr, ⟨T1, hz1, hS1⟩, hL1⟩ := h9
    subst hS1 hL1
    refine ⟨5, _, by decide, m_share 0 _ (t_m h2 T1) (t_0 h3 T1) h3.2.1 hj w hy hy1 _, fun r' S2 L2 h8 => ?_⟩
    obtain ⟨hr', ⟨T2, hS2⟩, hL2⟩ := h8
    subst hS2 hL2
    exact ⟨hr'.trans hr.symm, RR_n (RR_t h hz1) T2⟩
theorem pr_leak (S : gx_S) (L : gx_L) (h : RR S L) (m x w : Int32) : Pr mX10_leak mX11_leak [.int m, .int x, .int w] S L := by
  obtain ⟨len, ng, nd, nx, sz, sn, h1, h2, h3, h4, h5, h6, h7⟩ := id h
  have h59 := h2.2.2.1.2.1
  by_cases hb : m < 0 ∨ 60 < m ∨ x < 0 ∨ 10 < x
  · exact Pr_f (x_leak0 0 S hb L) (m_leak0 0 S hb L) rfl h
  · have m0 : ¬ m < 0 := fun h9 => hb (Or.inl h9)
    have m1 : ¬ 60 < m := fun h9 => hb (Or.inr (Or.inl h9))
    have x0 : ¬ x < 0 := fun h9 => hb (Or.inr (Or.inr (Or.inl h9)))
    have x1 : x ≤ 10 := Int32.not_lt.mp (fun h9 => hb (Or.inr (Or.inr (Or.inr h9))))
    obtain ⟨X, hX, rfl⟩ := nI_of2 (M := 10) (n := 10) (by decide) x0 x1
    have hz0 : ∀ g, ng ≤ g → (tG S 18).1 g ≤ 0 := by
      intro g hg
      by_cases c : g < 5
      · rw [okT_0 h3.2.1 c (h2.2.2.1.2.2.2.2.2.2.1 g hg).1]
        decide
      · rw [((z18_of h3).1 g (by omega)).1]
        decide
    obtain ⟨C, A, E, c1, c2, c3, c4, c5, c6, c7, c8, c9, c10, c11⟩ := leak_eq (gk := S 14) (ms := S 12) (dk := S 16) (sb := S 17) (T := tG S 18) h59 hz0 m hX w
    have k1 := x_leak 0 S (z18_of h3) h3.2.2.2.1 h3.2.2.2.2 w m0 m1 x0 x1 (u := C) (v := A) (by rw [show S 19 = (tG S 18).1 from rfl, c1]; exact ab_n c7) c7 c2 c8 c9 L
    refine ⟨6, _, by decide, k1, fun r S1 L1 h9 => ?_⟩
    obtain ⟨hr, ⟨T1, hz1, hS1⟩, hL1⟩ := h9
    subst hS1 hL1
    have k2 := m_leak 0 _ (t_m h2 T1) (t_0 h3 T1) h3.2.1 w m0 m1 x0 x1 (u := C * E) (v := A * E) (by rw [c3]; exact ab_n c5) c5 c4 c6 (Nat.mul_pos c9 c10) L1
    refine ⟨4, _, by decide, k2, fun r' S2 L2 h8 => ?_⟩
    obtain ⟨hr', ⟨T2, hS2⟩, hL2⟩ := h8
    subst hS2 hL2
    refine ⟨?_, RR_n (RR_t h hz1) T2⟩
    rw [show S 19 = (tG S 18).1 from rfl, c1] at hr
    rw [hr', hr, c3, c11]
theorem pr_rests (S : gx_S) (L : gx_L) (h : RR S L) (x y w : Int32) : Pr mX10_rests mX11_rests [.int x, .int y, .int w] S L := by
  obtain ⟨len, ng, nd, nx, sz, sn, h1, h2, h3, h4, h5, h6, h7⟩ := id h
  have h59 := h2.2.2.1.2.1
  have h49 := h2.2.2.1.2.2.2.1
  refine ⟨4, _, by decide, x_rests 0 S h2.1 h59 h2.2.1 h49 (R2_hz h2) x y w L, fun r S1 L1 h9 => ?_⟩
  obtain ⟨hr, ⟨f, hS1⟩, hL1⟩ := h9
  subst hS1 hL1
  have hm1 : mH (gx_up S 43 f) ng nd (S 12) (S 14) (S 16) (S 17) := mH_cc h2.2.2.1 (fun i hi => gx_up_ne S f (by omega))
  have h01 : mT (gx_up S 43 f 49) 0 = tG S 18 := by rw [gx_up_ne S f (by decide)]; exact h3.1
  have fin : ∀ {D' : Nat} {v : Int32}, D' ≤ 20 → Cf D' mX11_rests [.ref 44, .int x, .int y, .int w] (gx_up S 43 f) L1 v (gx_up S 43 f) L1 → v = A_rests nd (S 16) (S 17) (tG S 18) x y w → ∃ (D' : Nat) (P' : Int32 → gx_S → gx_L → Prop), D' ≤ 20 ∧ Ci D' mX11_rests [.ref 44, .int x, .int y, .int w] (gx_up S 43 f) L1 P' ∧ ∀ r' S2 L2, P' r' S2 L2 → r' = r ∧ RR S2 L2 := by
    intro D' v hD hc hv
    refine ⟨D', _, hD, hc, fun r' S2 L2 h8 => ?_⟩
    obtain ⟨e4, e5, e6⟩ := h8
    subst e5 e6
    exact ⟨by rw [e4, hv, hr], RR_43 h f⟩
  cases hx : isG (nI nd) x with
  | false => exact fin (by decide) (m_rests0 0 _ hm1 (Or.inl hx) L1) (by unfold A_rests; rw [hx, if_neg (by decide)])
  | true =>
    cases hy : isG (nI nd) y with
    | false => exact fin (by decide) (m_rests0 0 _ hm1 (Or.inr hy) L1) (by unfold A_rests; rw [hx, if_pos rfl, hy, if_neg (by decide)])
    | true =>
      have eA : A_rests nd (S 16) (S 17) (tG S 18) x y w = (if x = y then -2 else if w < 0 then -2 else if w ≤ 1 then (if (p_rsG (S 16) (S 17) (tG S 18) x.toNatClampNeg y.toNatClampNeg 5).1 = 0 then -9 else if w = 0 then (p_rsG (S 16) (S 17) (tG S 18) x.toNatClampNeg y.toNatClampNeg 5).1 else (p_rsG (S 16) (S 17) (tG S 18) x.toNatClampNeg y.toNatClampNeg 5).2) else -2) := by
        unfold A_rests
        rw [hx, if_pos rfl, hy, if_pos rfl]
      by_cases hb : x = y ∨ w < 0 ∨ 1 < w
      · refine fin (by decide) (m_rests1 0 _ hm1 hx hy hb L1) ?_
        rw [eA]
        by_cases c1 : x = y
        · rw [if_pos c1]
        · rw [if_neg c1]
          by_cases c2 : w < 0
          · rw [if_pos c2]
          · rw [if_neg c2, if_neg (Int32.not_le.mpr ((hb.resolve_left c1).resolve_left c2))]
      · have hxy : ¬ x = y := fun h9 => hb (Or.inl h9)
        have hw := oob (fun h9 => hb (Or.inr h9))
        obtain ⟨a, ha, rfl, ea⟩ := isG_of (by omega) hx
        obtain ⟨b, hb', rfl, eb⟩ := isG_of (by omega) hy
        have hab : b ≠ a := fun h9 => hxy (by rw [h9])
        rw [if_neg hxy, if_neg hw.1, if_pos (Int32.not_lt.mp hw.2), ea, eb] at eA
        by_cases hs : S 17 a = 0 ∨ S 17 b = 0
        · refine fin (by decide) (m_rests2 0 _ hm1 ha hb' hab hw hs L1) ?_
          rw [eA, if_pos (rests_no hs)]
        · have s0 : ¬ S 17 a = 0 := fun h9 => hs (Or.inl h9)
          have s1 : ¬ S 17 b = 0 := fun h9 => hs (Or.inr h9)
          refine ⟨4, _, by decide, m_rests 0 _ hm1 h01 h3.2.1 ha hb' hab hw s0 s1 L1, fun r' S2 L2 h8 => ?_⟩
          obtain ⟨hr', ⟨T2, hS2⟩, hL2⟩ := h8
          subst hS2 hL2
          refine ⟨?_, RR_n (RR_43 h f) T2⟩
          rw [hr', hr, eA, if_neg (rests_ex h3.2.1 (by omega) (by omega) (h2.2.2.2.2.2 a) (h2.2.2.2.2.2 b) s0 s1)]
