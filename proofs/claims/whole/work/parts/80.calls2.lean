/-! ===== seen ===== -/
theorem allB_c {p q : Nat → Bool} : ∀ n, (∀ i, i < n → p i = q i) → allB p n = allB q n
  | 0, _ => rfl
  | n + 1, h => by rw [allB_s, allB_s, allB_c n (fun i hi => h i (by omega)), h n (by omega)]
theorem ths_c {o w s o' w' s' : Nat → Int32} {n : Nat} (h : ∀ i, i < n → o i = o' i ∧ w i = w' i ∧ s i = s' i) (dr k : Int32) : ∀ m, p_thsN o w s dr k n m = p_thsN o' w' s' dr k n m
  | 0 => rfl
  | m + 1 => by
    have e : allB (p_fit o w s dr k (nI m)) n = allB (p_fit o' w' s' dr k (nI m)) n := allB_c n (fun i hi => by
      obtain ⟨e1, e2, e3⟩ := h i hi
      unfold p_fit
      rw [e1, e2, e3])
    show (if allB (p_fit o w s dr k (nI m)) n = true then p_thsN o w s dr k n m ||| (1 : Int32) <<< (nI m &&& 31) else p_thsN o w s dr k n m) = (if allB (p_fit o' w' s' dr k (nI m)) n = true then p_thsN o' w' s' dr k n m ||| (1 : Int32) <<< (nI m &&& 31) else p_thsN o' w' s' dr k n m)
    rw [e, ths_c h dr k m]
theorem pr_thirsts (S : gx_S) (L : gx_L) (h : RR S L) (x : Int32) : Pr mX10_thirsts mX11_thirsts [.int x] S L := by
  obtain ⟨len, ng, nd, nx, sz, sn, h1, h2, h3, h4, h5, h6, h7⟩ := id h
  have h49 := h2.2.2.1.2.2.2.1
  have k1 := x_thirsts 0 S h2.2.1 h49 h6.1 h6.2.2.1 x L
  cases hb : isG (nI nd) x with
  | false =>
    have e : A_thirsts nd sn (S 16) (S 36) (S 37) (S 38) x = -1 := by unfold A_thirsts; rw [hb, if_neg (by decide)]
    rw [e] at k1
    exact Pr_f k1 (m_ths0 0 S h2.2.2.1 hb L) rfl h
  | true =>
    obtain ⟨j, hj, rfl, ej⟩ := isG_of (by omega) hb
    have e : A_thirsts nd sn (S 16) (S 36) (S 37) (S 38) (nI j) = p_thsN (S 55) (S 56) (S 57) (nI j) (S 16 j) sn 10 := by
      unfold A_thirsts
      rw [hb, if_pos rfl, ej]
      exact ths_c (fun i hi => ⟨(h6.2.2.2 i hi).1, (h6.2.2.2 i hi).2.1, (h6.2.2.2 i hi).2.2.1⟩) _ _ 10
    rw [e] at k1
    exact Pr_f k1 (m_ths 0 S h2.2.2.1 hj h6.2.1 h6.2.2.1 (fun i hi => (h6.2.2.2 i hi).2.2.2) L) rfl h
theorem pr_unsee (S : gx_S) (L : gx_L) (h : RR S L) : Pr mX10_unsee mX11_unsee [] S L := by
  obtain ⟨len, ng, nd, nx, sz, sn, h1, h2, h3, h4, h5, h6, h7⟩ := id h
  refine Pr_f (x_unsee 0 S h6.1 L) (m_unsee 0 (gx_u2 S 35 3 0) (n := sn) (by rw [u2_o _ _ _ (by decide)]; exact h6.2.1) L) rfl ?_
  have a : ∀ i, (fun i => i == 35 || i == 44) i = false → gx_u2 (gx_u2 S 35 3 0) 44 19 0 i = S i := by
    intro i hi
    simp only [Bool.or_eq_false_iff, beq_eq_false_iff_ne] at hi
    rw [u2_o _ _ _ hi.2, u2_o _ _ _ hi.1]
  have a44 : ∀ j, j ≠ 19 → gx_u2 (gx_u2 S 35 3 0) 44 19 0 44 j = S 44 j := fun j hj => by rw [u2_k _ _ _ hj, u2_o _ _ _ (by decide)]
  refine ⟨len, ng, nd, nx, sz, 0, R1_c _ a h1 (by decide) (a44 13 (by decide)), R2_c _ a h2 (by decide) (a44 0 (by decide)) (a44 1 (by decide)), R3_c _ a h3 (by decide), R4_c _ a h4 (by decide) (a44 16 (by decide)) (a44 17 (by decide)), R5_c _ a h5 (by decide), ⟨?_, u2_at _ _ _ _, by omega, fun i hi => absurd hi (Nat.not_lt_zero i)⟩, h7⟩
  rw [u2_o _ _ _ (by decide), u2_at]
  rfl
theorem pr_see (S : gx_S) (L : gx_L) (h : RR S L) (x y z : Int32) : Pr mX10_see mX11_see [.int x, .int y, .int z] S L := by
  obtain ⟨len, ng, nd, nx, sz, sn, h1, h2, h3, h4, h5, h6, h7⟩ := id h
  have h49 := h2.2.2.1.2.2.2.1
  have hnm := h2.2.2.1.2.2.1
  have k1 := x_see 0 S h2.2.1 h49 h6.1 h6.2.2.1 x y z L
  cases hx : isG (nI nd) x with
  | false =>
    have e : A_see nd sn x y z = -1 := by unfold A_see; rw [hx, if_neg (by decide)]
    have e2 : M_see S nd sn x y z = S := by unfold M_see; rw [hx, if_neg (by decide)]
    rw [e, e2] at k1
    exact Pr_f k1 (m_see0 0 S hnm h49 hx L) rfl h
  | true =>
    by_cases hb : y < 0 ∨ 9 < y ∨ z < 0 ∨ y < z
    · have e : A_see nd sn x y z = -2 ∧ M_see S nd sn x y z = S := by
        unfold A_see M_see
        rw [hx, if_pos rfl, if_pos rfl]
        by_cases c1 : y < 0
        · rw [if_pos c1, if_pos c1]; exact ⟨rfl, rfl⟩
        · rw [if_neg c1, if_neg c1]
          by_cases c2 : 9 < y
          · rw [if_pos c2, if_pos c2]; exact ⟨rfl, rfl⟩
          · rw [if_neg c2, if_neg c2]
            by_cases c3 : z < 0
            · rw [if_pos c3, if_pos c3]; exact ⟨rfl, rfl⟩
            · have c4 : ¬ z ≤ y := Int32.not_le.mpr (((hb.resolve_left c1).resolve_left c2).resolve_left c3)
              rw [if_neg c3, if_neg c3, if_neg c4, if_neg c4]; exact ⟨rfl, rfl⟩
      rw [e.1, e.2] at k1
      exact Pr_f k1 (m_see1 0 S hnm h49 hx hb L) rfl h
    · have c1 : ¬ y < 0 := fun h9 => hb (Or.inl h9)
      have c2 : ¬ 9 < y := fun h9 => hb (Or.inr (Or.inl h9))
      have c3 : ¬ z < 0 := fun h9 => hb (Or.inr (Or.inr (Or.inl h9)))
      have c4 : ¬ y < z := fun h9 => hb (Or.inr (Or.inr (Or.inr h9)))
      have e : A_see nd sn x y z = (if sn < 6 then nI (sn + 1) else -4) := by
        unfold A_see
        rw [hx, if_pos rfl, if_neg c1, if_neg c2, if_neg c3, if_pos (Int32.not_lt.mp c4)]
      have e2 : M_see S nd sn x y z = (if sn < 6 then gx_u2 (gx_u2 (gx_u2 (gx_u2 S 36 sn x) 37 sn y) 38 sn z) 35 3 (nI (sn + 1)) else S) := by
        unfold M_see
        rw [hx, if_pos rfl, if_neg c1, if_neg c2, if_neg c3, if_pos (Int32.not_lt.mp c4)]
      rw [e, e2] at k1
      by_cases h69 : sn < 6
      · rw [if_pos h69, if_pos h69] at k1
        have a1 : ∀ i, i ≠ 35 → i ≠ 36 → i ≠ 37 → i ≠ 38 → gx_u2 (gx_u2 (gx_u2 (gx_u2 S 36 sn x) 37 sn y) 38 sn z) 35 3 (nI (sn + 1)) i = S i := fun i i1 i2 i3 i4 => by rw [u2_o _ _ _ i1, u2_o _ _ _ i4, u2_o _ _ _ i3, u2_o _ _ _ i2]
        have e44 := a1 44 (by decide) (by decide) (by decide) (by decide)
        have k2 := m_see 0 (gx_u2 (gx_u2 (gx_u2 (gx_u2 S 36 sn x) 37 sn y) 38 sn z) 35 3 (nI (sn + 1))) (nd := nd) (by rw [e44]; exact hnm) h49 hx ⟨c1, c2, c3, c4⟩ (n := sn) (by rw [e44]; exact h6.2.1) h69 L
        refine Pr_f k1 k2 rfl ?_
        have a : ∀ i, (fun i => (i == 35 || (i == 36 || (i == 37 || i == 38))) || (i == 44 || (i == 55 || (i == 56 || i == 57)))) i = false → gx_u2 (gx_u2 (gx_u2 (gx_u2 (gx_u2 (gx_u2 (gx_u2 (gx_u2 S 36 sn x) 37 sn y) 38 sn z) 35 3 (nI (sn + 1))) 55 sn x) 56 sn y) 57 sn z) 44 19 (nI (sn + 1)) i = S i := by
          intro i hi
          simp only [Bool.or_eq_false_iff, beq_eq_false_iff_ne] at hi
          rw [u2_o _ _ _ hi.2.1, u2_o _ _ _ hi.2.2.2.2, u2_o _ _ _ hi.2.2.2.1, u2_o _ _ _ hi.2.2.1, a1 i hi.1.1 hi.1.2.1 hi.1.2.2.1 hi.1.2.2.2]
        have a44 : ∀ j, j ≠ 19 → gx_u2 (gx_u2 (gx_u2 (gx_u2 (gx_u2 (gx_u2 (gx_u2 (gx_u2 S 36 sn x) 37 sn y) 38 sn z) 35 3 (nI (sn + 1))) 55 sn x) 56 sn y) 57 sn z) 44 19 (nI (sn + 1)) 44 j = S 44 j := fun j hj => by rw [u2_k _ _ _ hj, u2_o _ _ _ (by decide), u2_o _ _ _ (by decide), u2_o _ _ _ (by decide), e44]
        refine ⟨len, ng, nd, nx, sz, sn + 1, R1_c _ a h1 (by decide) (a44 13 (by decide)), R2_c _ a h2 (by decide) (a44 0 (by decide)) (a44 1 (by decide)), R3_c _ a h3 (by decide), R4_c _ a h4 (by decide) (a44 16 (by decide)) (a44 17 (by decide)), R5_c _ a h5 (by decide), ⟨?_, u2_at _ _ _ _, by omega, fun i hi => ?_⟩, h7⟩
        · rw [u2_o _ _ _ (by decide), u2_o _ _ _ (by decide), u2_o _ _ _ (by decide), u2_o _ _ _ (by decide), u2_at]
        · have e36 : ∀ k, gx_u2 (gx_u2 (gx_u2 (gx_u2 (gx_u2 (gx_u2 (gx_u2 (gx_u2 S 36 sn x) 37 sn y) 38 sn z) 35 3 (nI (sn + 1))) 55 sn x) 56 sn y) 57 sn z) 44 19 (nI (sn + 1)) 36 k = gx_u2 S 36 sn x 36 k := fun k => by rw [u2_o _ _ _ (by decide), u2_o _ _ _ (by decide), u2_o _ _ _ (by decide), u2_o _ _ _ (by decide), u2_o _ _ _ (by decide), u2_o _ _ _ (by decide), u2_o _ _ _ (by decide)]
          have e37 : ∀ k, gx_u2 (gx_u2 (gx_u2 (gx_u2 (gx_u2 (gx_u2 (gx_u2 (gx_u2 S 36 sn x) 37 sn y) 38 sn z) 35 3 (nI (sn + 1))) 55 sn x) 56 sn y) 57 sn z) 44 19 (nI (sn + 1)) 37 k = gx_u2 (gx_u2 S 36 sn x) 37 sn y 37 k := fun k => by rw [u2_o _ _ _ (by decide), u2_o _ _ _ (by decide), u2_o _ _ _ (by decide), u2_o _ _ _ (by decide), u2_o _ _ _ (by decide), u2_o _ _ _ (by decide)]
          have e38 : ∀ k, gx_u2 (gx_u2 (gx_u2 (gx_u2 (gx_u2 (gx_u2 (gx_u2 (gx_u2 S 36 sn x) 37 sn y) 38 sn z) 35 3 (nI (sn + 1))) 55 sn x) 56 sn y) 57 sn z) 44 19 (nI (sn + 1)) 38 k = gx_u2 (gx_u2 (gx_u2 S 36 sn x) 37 sn y) 38 sn z 38 k := fun k => by rw [u2_o _ _ _ (by decide), u2_o _ _ _ (by decide), u2_o _ _ _ (by decide), u2_o _ _ _ (by decide), u2_o _ _ _ (by decide)]
          have e55 : ∀ k, gx_u2 (gx_u2 (gx_u2 (gx_u2 (gx_u2 (gx_u2 (gx_u2 (gx_u2 S 36 sn x) 37 sn y) 38 sn z) 35 3 (nI (sn + 1))) 55 sn x) 56 sn y) 57 sn z) 44 19 (nI (sn + 1)) 55 k = gx_u2 (gx_u2 (gx_u2 (gx_u2 (gx_u2 S 36 sn x) 37 sn y) 38 sn z) 35 3 (nI (sn + 1))) 55 sn x 55 k := fun k => by rw [u2_o _ _ _ (by decide), u2_o _ _ _ (by decide), u2_o _ _ _ (by decide)]
          have e56 : ∀ k, gx_u2 (gx_u2 (gx_u2 (gx_u2 (gx_u2 (gx_u2 (gx_u2 (gx_u2 S 36 sn x) 37 sn y) 38 sn z) 35 3 (nI (sn + 1))) 55 sn x) 56 sn y) 57 sn z) 44 19 (nI (sn + 1)) 56 k = gx_u2 (gx_u2 (gx_u2 (gx_u2 (gx_u2 (gx_u2 S 36 sn x) 37 sn y) 38 sn z) 35 3 (nI (sn + 1))) 55 sn x) 56 sn y 56 k := fun k => by rw [u2_o _ _ _ (by decide), u2_o _ _ _ (by decide)]
          have e57 : ∀ k, gx_u2 (gx_u2 (gx_u2 (gx_u2 (gx_u2 (gx_u2 (gx_u2 (gx_u2 S 36 sn x) 37 sn y) 38 sn z) 35 3 (nI (sn + 1))) 55 sn x) 56 sn y) 57 sn z) 44 19 (nI (sn + 1)) 57 k = gx_u2 (gx_u2 (gx_u2 (gx_u2 (gx_u2 (gx_u2 (gx_u2 S 36 sn x) 37 sn y) 38 sn z) 35 3 (nI (sn + 1))) 55 sn x) 56 sn y) 57 sn z 57 k := fun k => by rw [u2_o _ _ _ (by decide)]
          rw [e36, e37, e38, e55, e56, e57]
          by_cases ei : i = sn
          · subst ei
            rw [u2_at, u2_at, u2_at, u2_at, u2_at, u2_at]
            exact ⟨rfl, rfl, rfl, Int32.not_lt.mp c1⟩
          · rw [u2_k _ _ _ ei, u2_k _ _ _ ei, u2_k _ _ _ ei, u2_k _ _ _ ei, u2_k _ _ _ ei, u2_k _ _ _ ei, u2_o _ _ _ (show 37 ≠ 36 by decide), u2_o _ _ _ (show 38 ≠ 37 by decide), u2_o _ _ _ (show 38 ≠ 36 by decide), u2_o _ _ _ (show 56 ≠ 55 by decide), u2_o _ _ _ (show 57 ≠ 56 by decide), u2_o _ _ _ (show 57 ≠ 55 by decide), a1 55 (by decide) (by decide) (by decide) (by decide), a1 56 (by decide) (by decide) (by decide) (by decide), a1 57 (by decide) (by decide) (by decide) (by decide)]
            exact h6.2.2.2 i (by omega)
      · rw [if_neg h69, if_neg h69] at k1
        have e6 : sn = 6 := by have := h6.2.2.1; omega
        exact Pr_f k1 (m_see2 0 S hnm h49 hx ⟨c1, c2, c3, c4⟩ (by rw [h6.2.1, e6]) L) rfl h
/-! ===== the seed, nights ===== -/
theorem RR_L {S : gx_S} {L L' : gx_L} (h : RR S L) (e : L' 0 = L' 44) : RR S L' := by
  obtain ⟨len, ng, nd, nx, sz, sn, h1, h2, h3, h4, h5, h6, h7⟩ := h
  exact ⟨len, ng, nd, nx, sz, sn, h1, h2, h3, h4, h5, h6, e⟩
def PrL (M M' : gx_M) (av : List Value) (S : gx_S) (L : gx_L) : Prop := ∃ (D : Nat) (P : Int64 → gx_S → gx_L → Prop), D ≤ 20 ∧ Cl D M (.ref 0 :: av) S L P ∧ ∀ r S1 L1, P r S1 L1 → ∃ (D' : Nat) (P' : Int64 → gx_S → gx_L → Prop), D' ≤ 20 ∧ Cl D' M' (.ref 44 :: av) S1 L1 P' ∧ ∀ r' S2 L2, P' r' S2 L2 → r' = r ∧ RR S2 L2
theorem pr_seed (S : gx_S) (L : gx_L) (h : RR S L) (v : Int64) : PrL mX10_seed mX11_seed [.long v] S L := by
  obtain ⟨len, ng, nd, nx, sz, sn, h1, h2, h3, h4, h5, h6, h7⟩ := id h
  refine ⟨0, _, by decide, x_seed 0 S v L, fun r S1 L1 h9 => ?_⟩
  obtain ⟨e1, e2, e3⟩ := h9
  subst e1 e2 e3
  refine ⟨0, _, by decide, m_seed 0 S1 v (gx_uL L 0 v), fun r' S2 L2 h8 => ?_⟩
  obtain ⟨e4, e5, e6⟩ := h8
  subst e5 e6
  refine ⟨?_, RR_L h ?_⟩
  · rw [e4, gx_uL_ne L v (by decide), h7]
  · rw [gx_uL_at, gx_uL_ne _ v (by decide), gx_uL_at]
theorem zT_chance {ng nd : Nat} {gk dk sb : Nat → Int32} {T : Tb} (h : zT T) (h5 : ng ≤ 5) (h4 : nd ≤ 4) (k : Nat) : zT (p_chance (nI ng) (nI nd) gk dk sb T k) := by
  unfold p_chance
  split
  · exact zT_drink h h5 h4 _ _
  · exact zT_hour h
theorem zT_nT {ng nd : Nat} {gk dk sb : Nat → Int32} {T : Tb} (h : zT T) (h5 : ng ≤ 5) (h4 : nd ≤ 4) (s : Int64) : ∀ n, zT (p_nT (nI ng) (nI nd) gk dk sb T s n)
  | 0 => h
  | n + 1 => zT_chance (zT_nT h h5 h4 s n) h5 h4 _
theorem pr_nights (S : gx_S) (L : gx_L) (h : RR S L) (m : Int32) : Pr mX10_nights mX11_nights [.int m] S L := by
  obtain ⟨len, ng, nd, nx, sz, sn, h1, h2, h3, h4, h5, h6, h7⟩ := id h
  have h59 := h2.2.2.1.2.1
  have h49 := h2.2.2.1.2.2.2.1
  by_cases hb : m < 1 ∨ 30 < m
  · exact Pr_f (x_nights0 0 S hb L) (m_nights0 0 S hb L) rfl h
  · have hb2 := oob hb
    obtain ⟨k, hk, rfl⟩ := nI_of2 (M := 30) (n := 30) (by decide) (show ¬ m < 0 from fun h9 => hb2.1 (Int32.lt_trans h9 (by decide))) (Int32.not_lt.mp hb2.2)
    have hk1 : 1 ≤ k := Nat.pos_of_ne_zero (fun h9 => hb2.1 (by rw [h9]; decide))
    have k1 := x_nights 0 S h2.1 h59 h2.2.1 h49 hk1 hk (z18_of h3) h3.2.2.2.1 h3.2.2.2.2 L
    rw [h2.1, h2.2.1] at k1
    have k2 := m_nights 0 _ (t_m h2 (p_nT (nI ng) (nI nd) (S 14) (S 16) (S 17) (tG S 18) (L 0) k)) (t_0 h3 _) h3.2.1 hk1 hk (gx_uL L 0 (p_sd (L 0) k))
    rw [gx_uL_ne L _ (show 44 ≠ 0 by decide), ← h7] at k2
    refine Pr_f k1 k2 rfl (RR_L (RR_n (RR_t h (zT_nT (z18_of h3) h59 h49 (L 0) k)) _) ?_)
    rw [gx_uL_at, gx_uL_ne _ _ (by decide), gx_uL_at]
/-! ===== tables laid and fetched ===== -/
theorem ft_mT {f f' : Nat → Int32} {T : Tb} {p : Nat} (hz : zT T) (h : ∀ j, j < 15 → f (15 * p + j) = f' (15 * p + j)) : ftT f p T = mT f' p := by
  unfold ftT mT
  refine Prod.ext (funext fun j => ?_) (Prod.ext (funext fun j => ?_) (Prod.ext (funext fun j => ?_) (h 14 (by decide))))
  · show (if 0 ≤ j ∧ j < 0 + 5 then f (15 * p + (j - 0)) else T.1 j) = if j < 5 then f' (15 * p + j) else 0
    by_cases c : j < 5
    · rw [if_pos c, if_pos ⟨Nat.zero_le j, by omega⟩, Nat.sub_zero]
      exact h j (by omega)
    · rw [if_neg c, if_neg (by omega)]
      exact (hz.1 j (by omega)).1
  · show (if 0 ≤ j ∧ j < 0 + 5 then f (15 * p + 5 + (j - 0)) else T.2.1 j) = if j < 5 then f' (15 * p + 5 + j) else 0
    by_cases c : j < 5
    · rw [if_pos c, if_pos ⟨Nat.zero_le j, by omega⟩, Nat.sub_zero, Nat.add_assoc]
      exact h (5 + j) (by omega)
    · rw [if_neg c, if_neg (by omega)]
      exact (hz.1 j (by omega)).2
  · show (if 0 ≤ j ∧ j < 0 + 4 then f (15 * p + 10 + (j - 0)) else T.2.2.1 j) = if j < 4 then f' (15 * p + 10 + j) else 0
    by_cases c : j < 4
    · rw [if_pos c, if_pos ⟨Nat.zero_le j, by omega⟩, Nat.sub_zero, Nat.add_assoc]
      exact h (10 + j) (by omega)
    · rw [if_neg c, if_neg (by omega)]
      exact hz.2 j (by omega)
theorem mT_lay (f : Nat → Int32) (p : Nat) {T : Tb} (hz : zT T) : mT (layF f p T) p = T := mT_nS (fun _ => f) p hz
theorem mT_c {f f' : Nat → Int32} {p : Nat} (h : ∀ j, j < 15 → f (15 * p + j) = f' (15 * p + j)) : mT f p = mT f' p := by
  unfold mT
  refine Prod.ext (funext fun j => ?_) (Prod.ext (funext fun j => ?_) (Prod.ext (funext fun j => ?_) (h 14 (by decide))))
  · show (if j < 5 then f (15 * p + j) else 0) = if j < 5 then f' (15 * p + j) else 0
    by_cases c : j < 5
    · rw [if_pos c, if_pos c, h j (by omega)]
    · rw [if_neg c, if_neg c]
  · show (if j < 5 then f (15 * p + 5 + j) else 0) = if j < 5 then f' (15 * p + 5 + j) else 0
    by_cases c : j < 5
    · rw [if_pos c, if_pos c, Nat.add_assoc, h (5 + j) (by omega)]
    · rw [if_neg c, if_neg c]
  · show (if j < 4 then f (15 * p + 10 + j) else 0) = if j < 4 then f' (15 * p + 10 + j) else 0
    by_cases c : j < 4
    · rw [if_pos c, if_pos c, Nat.add_assoc, h (10 + j) (by omega)]
    · rw [if_neg c, if_neg c]
theorem mT_ne (f : Nat → Int32) {p q : Nat} (T : Tb) (h : q ≠ p) : mT (layF f p T) q = mT f q := mT_c (fun j hj => by
  unfold layF
  rw [if_neg (by omega)])
theorem lay_c {f f' : Nat → Int32} {p N : Nat} (T : Tb) (h : ∀ j, j < N → f j = f' j) : ∀ j, j < N → layF f p T j = layF f' p T j := by
  intro j hj
  unfold layF
  rw [h j hj]
/-! ===== slots ===== -/
theorem two_out {x : Int32} (h : ¬ (x < 0 ∨ 2 ≤ x)) : ∃ p, p < 2 ∧ x = nI p := by
  have h2 : ¬ 2 ≤ x := fun h9 => h (Or.inr h9)
  have h3 : x ≤ 2 := Int32.le_of_lt (Int32.not_le.mp h2)
  obtain ⟨p, hp, rfl⟩ := nI_of2 (M := 2) (n := 2) (by decide) (fun h9 => h (Or.inl h9)) h3
  refine ⟨p, Nat.lt_of_not_le (fun h9 => h2 (nI_le (a := 2) h9 (by omega))), rfl⟩
theorem two_o2 {x : Int32} (h : x < 0 ∨ 2 ≤ x) : x < 0 ∨ 1 < x := h.imp id (fun h9 => Int32.lt_of_lt_of_le (by decide) h9)
theorem kb_or : ∀ (k : Fin 4) (p : Fin 2), (∃ k' : Fin 4, nI k ||| (1 : Int32) <<< (nI p &&& 31) = nI k') ∧ ∀ q : Fin 2, bt (nI k ||| (1 : Int32) <<< (nI p &&& 31)) q = (bt (nI k) q || (q == p)) := by decide +kernel
theorem pr_keep (S : gx_S) (L : gx_L) (h : RR S L) (x : Int32) : Pr mX10_keep mX11_keep [.int x] S L := by
  obtain ⟨len, ng, nd, nx, sz, sn, h1, h2, h3, h4, h5, h6, h7⟩ := id h
  by_cases hb : x < 0 ∨ 2 ≤ x
  · exact Pr_f (x_keep0 0 S hb L) (m_keep0 0 S (two_o2 hb) L) rfl h
  · obtain ⟨p, hp, rfl⟩ := two_out hb
    obtain ⟨k, hk, ek⟩ := h5.2.2.2
    have k1 := x_keep (ks := 0) 0 S hp h5.1 L
    have a1 : ∀ i, i ≠ 0 → i ≠ 34 → gx_u2 (gx_up S 34 (layF (S 34) p (tG S 18))) 0 9 (S 0 9 ||| (1 : Int32) <<< (nI p &&& 31)) i = S i := fun i i1 i2 => by rw [u2_o _ _ _ i1, gx_up_ne S _ i2]
    have k2 := m_keep 0 (gx_u2 (gx_up S 34 (layF (S 34) p (tG S 18))) 0 9 (S 0 9 ||| (1 : Int32) <<< (nI p &&& 31))) (p := p) (by omega) L
    rw [a1 49 (by decide) (by decide), a1 59 (by decide) (by decide), h3.1] at k2
    refine Pr_f k1 k2 (r_h h3.1) ?_
    have a : ∀ i, (fun i => (i == 0 || i == 34) || (i == 58 || i == 59)) i = false → gx_up (gx_u2 (gx_u2 (gx_up S 34 (layF (S 34) p (tG S 18))) 0 9 (S 0 9 ||| (1 : Int32) <<< (nI p &&& 31))) 58 p 1) 59 (layF (S 59) p (tG S 18)) i = S i := by
      intro i hi
      simp only [Bool.or_eq_false_iff, beq_eq_false_iff_ne] at hi
      rw [gx_up_ne _ _ hi.2.2, u2_o _ _ _ hi.2.1, a1 i hi.1.1 hi.1.2]
    have e44 := a 44 (by decide)
    refine ⟨len, ng, nd, nx, sz, sn, R1_c _ a h1 (by decide) (by rw [e44]), R2_c _ a h2 (by decide) (by rw [e44]) (by rw [e44]), R3_c _ a h3 (by decide), R4_c _ a h4 (by decide) (by rw [e44]) (by rw [e44]), ?_, R6_c _ a h6 (by decide) (by rw [e44]), h7⟩
    have e34 : gx_up (gx_u2 (gx_u2 (gx_up S 34 (layF (S 34) p (tG S 18))) 0 9 (S 0 9 ||| (1 : Int32) <<< (nI p &&& 31))) 58 p 1) 59 (layF (S 59) p (tG S 18)) 34 = layF (S 34) p (tG S 18) := by rw [gx_up_ne _ _ (by decide), u2_o _ _ _ (by decide), u2_o _ _ _ (by decide), gx_up_at]
    have e59 : gx_up (gx_u2 (gx_u2 (gx_up S 34 (layF (S 34) p (tG S 18))) 0 9 (S 0 9 ||| (1 : Int32) <<< (nI p &&& 31))) 58 p 1) 59 (layF (S 59) p (tG S 18)) 59 = layF (S 59) p (tG S 18) := gx_up_at _ _ _
    have e58 : gx_up (gx_u2 (gx_u2 (gx_up S 34 (layF (S 34) p (tG S 18))) 0 9 (S 0 9 ||| (1 : Int32) <<< (nI p &&& 31))) 58 p 1) 59 (layF (S 59) p (tG S 18)) 58 = upd (S 58) p 1 := by rw [gx_up_ne _ _ (by decide), u2_row, a1 58 (by decide) (by decide)]
    have e09 : gx_up (gx_u2 (gx_u2 (gx_up S 34 (layF (S 34) p (tG S 18))) 0 9 (S 0 9 ||| (1 : Int32) <<< (nI p &&& 31))) 58 p 1) 59 (layF (S 59) p (tG S 18)) 0 9 = nI k ||| (1 : Int32) <<< (nI p &&& 31) := by rw [gx_up_ne _ _ (by decide), u2_o _ _ _ (by decide), u2_at, ek]
    obtain ⟨⟨k', hk'⟩, hq⟩ := kb_or ⟨k, hk⟩ ⟨p, hp⟩
    unfold R5
    rw [a 33 (by decide), a 12 (by decide), e34, e59, e58, e09]
    refine ⟨h5.1, lay_c _ h5.2.1, fun q hq2 => ?_, ⟨k'.val, k'.isLt, hk'⟩⟩
    have hbq : bt (nI k ||| (1 : Int32) <<< (nI p &&& 31)) q = (bt (nI k) q || ((⟨q, hq2⟩ : Fin 2) == ⟨p, hp⟩)) := hq ⟨q, hq2⟩
    by_cases e : q = p
    · subst e
      refine Or.inr ⟨?_, ?_, ?_, ?_⟩
      · rw [hbq, beq_self_eq_true, Bool.or_true]
      · rw [upd_at]; decide
      · rw [mT_lay _ _ (z18_of h3)]; exact h3.2.1
      · rw [mT_lay _ _ (z18_of h3)]; exact h3.2.2.1
    · have hne : ((⟨q, hq2⟩ : Fin 2) == ⟨p, hp⟩) = false := beq_eq_false_iff_ne.mpr (fun h9 => e (congrArg Fin.val h9))
      rw [hbq, hne, Bool.or_false, upd_ne _ _ e, mT_ne _ _ e, ← ek]
      exact h5.2.2.1 q hq2
theorem pr_again (S : gx_S) (L : gx_L) (h : RR S L) (x : Int32) : Pr mX10_again mX11_again [.int x] S L := by
  obtain ⟨len, ng, nd, nx, sz, sn, h1, h2, h3, h4, h5, h6, h7⟩ := id h
  by_cases hb : x < 0 ∨ 2 ≤ x
  · exact Pr_f (x_again0 0 S hb L) (m_again0 0 S (two_o2 hb) L) rfl h
  · obtain ⟨p, hp, rfl⟩ := two_out hb
    rcases h5.2.2.1 p hp with ⟨b1, b2⟩ | ⟨b1, b2, b3, b4⟩
    · exact Pr_f (x_again1 0 S hp b1 L) (m_again1 0 S (by omega) b2 L) rfl h
    · have k1 := x_again 0 S hp b1 h5.1 L
      have eT : ftT (S 34) p (tG S 18) = mT (S 59) p := ft_mT (z18_of h3) (fun j hj => h5.2.1 _ (by omega))
      rw [eT] at k1
      have zT' := mT_z (S 59) p
      generalize hT' : mT (S 59) p = T' at k1 b3 b4 zT'
      have a1 : ∀ i, (i < 18 ∨ 21 < i) → i ≠ 30 → gx_u2 (tS S 18 T') 30 2 0 i = S i := fun i i1 i2 => by rw [u2_o _ _ _ i2, tS_o S T' (by omega)]
      have k2 := m_again 0 (gx_u2 (tS S 18 T') 30 2 0) (p := p) (by omega) (by rw [a1 58 (by decide) (by decide)]; exact b2) L
      rw [a1 59 (by decide) (by decide), hT'] at k2
      refine Pr_f k1 k2 ?_ ?_
      · rw [← hT', h5.2.1 _ (by omega)]
        rfl
      have a2 : ∀ i, (i < 18 ∨ 21 < i) → i ≠ 30 → i ≠ 44 → i ≠ 49 → gx_u2 (nS (gx_u2 (tS S 18 T') 30 2 0) 0 T') 44 16 0 i = S i := fun i i1 i2 i3 i4 => by rw [u2_o _ _ _ i3, nS_o _ _ _ i4, a1 i i1 i2]
      have a : ∀ i, (fun i => (decide (18 ≤ i) && decide (i ≤ 21)) || (i == 30 || (i == 44 || i == 49))) i = false → gx_u2 (nS (gx_u2 (tS S 18 T') 30 2 0) 0 T') 44 16 0 i = S i := by
        intro i hi
        simp only [Bool.or_eq_false_iff, beq_eq_false_iff_ne, Bool.and_eq_false_iff, decide_eq_false_iff_not] at hi
        exact a2 i (by omega) hi.2.1 hi.2.2.1 hi.2.2.2
      have a44 : ∀ j, j ≠ 16 → gx_u2 (nS (gx_u2 (tS S 18 T') 30 2 0) 0 T') 44 16 0 44 j = S 44 j := fun j hj => by rw [u2_k _ _ _ hj, nS_o _ _ _ (by decide), a1 44 (by decide) (by decide)]
      have e30 : ∀ j, gx_u2 (nS (gx_u2 (tS S 18 T') 30 2 0) 0 T') 44 16 0 30 j = gx_u2 S 30 2 0 30 j := fun j => by
        rw [u2_o _ _ _ (by decide), nS_o _ _ _ (by decide)]
        by_cases ej : j = 2
        · subst ej; rw [u2_at, u2_at]
        · rw [u2_k _ _ _ ej, u2_k _ _ _ ej, tS_o S T' (by decide)]
      have e18 : tG (gx_u2 (nS (gx_u2 (tS S 18 T') 30 2 0) 0 T') 44 16 0) 18 = T' := by
        rw [tG_e (S := tS S 18 T') (by rw [u2_o _ _ _ (by decide), nS_o _ _ _ (by decide), u2_o _ _ _ (by decide)]) (by rw [u2_o _ _ _ (by decide), nS_o _ _ _ (by decide), u2_o _ _ _ (by decide)]) (by rw [u2_o _ _ _ (by decide), nS_o _ _ _ (by decide), u2_o _ _ _ (by decide)]) (by rw [u2_o _ _ _ (by decide), nS_o _ _ _ (by decide), u2_o _ _ _ (by decide)]), tG_tS]
      refine ⟨len, ng, nd, nx, 0, sn, R1_c _ a h1 (by decide) (a44 13 (by decide)), R2_c _ a h2 (by decide) (a44 0 (by decide)) (a44 1 (by decide)), ⟨?_, ?_, ?_, ?_, ?_⟩, ⟨?_, ?_, h4.2.2.1, ?_, ?_, by omega, ?_, ?_, fun i hi => absurd hi (Nat.not_lt_zero i)⟩, R5_c _ a h5 (by decide), R6_c _ a h6 (by decide) (a44 19 (by decide)), h7⟩
      · rw [e18, u2_o _ _ _ (by decide)]
        exact mT_nS _ 0 zT'
      · rw [e18, a 12 (by decide)]; exact b3
      · rw [e18]; exact b4
      · rw [tG_e (a 22 (by decide)) (a (22 + 1) (by decide)) (a (22 + 2) (by decide)) (a (22 + 3) (by decide))]; exact h3.2.2.2.1
      · rw [tG_e (a 26 (by decide)) (a (26 + 1) (by decide)) (a (26 + 2) (by decide)) (a (26 + 3) (by decide))]; exact h3.2.2.2.2
      · rw [e30, u2_k _ _ _ (by decide)]; exact h4.1
      · rw [a44 17 (by decide)]; exact h4.2.1
      · rw [e30, u2_at]; rfl
      · rw [u2_at]; rfl
      · rw [a 31 (by decide)]; exact h4.2.2.2.2.2.2.1
      · rw [a 32 (by decide), a 54 (by decide)]; exact h4.2.2.2.2.2.2.2.1
