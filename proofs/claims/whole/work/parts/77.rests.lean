/-! ===== shares: the sum's size ===== -/
theorem ofI_n (n : Nat) : nI n = Int32.ofInt (n : Int) := Int32.ofInt_eq_ofNat.symm
theorem abs_of {z : Int} (h1 : -2147483647 ≤ z) (h2 : z ≤ 2147483647) : ∃ x : Nat, x < 2 ^ 31 ∧ (if (0 : Int32) ≤ Int32.ofInt z then Int32.ofInt z else 0 - Int32.ofInt z) = nI x := by
  have e : (Int32.ofInt z).toInt = z := Int32.toInt_ofInt_of_le (by omega) (by omega)
  have e0 : (0 : Int32).toInt = 0 := by decide
  by_cases h : 0 ≤ z
  · refine ⟨z.toNat, by omega, ?_⟩
    rw [if_pos (Int32.le_iff_toInt_le.mpr (by rw [e, e0]; exact h)), ofI_n, Int.toNat_of_nonneg h]
  · refine ⟨(-z).toNat, by omega, ?_⟩
    rw [if_neg (fun h9 => h (by have h8 := Int32.le_iff_toInt_le.mp h9; rw [e, e0] at h8; exact h8)), ofI_n, Int.toNat_of_nonneg (by omega), Int32.ofInt_neg, Int32.zero_sub]
theorem ord_b (j : Nat) : ∃ v : Nat, v ≤ 24 ∧ gx_ord j = nI v := by
  match j with
  | 0 => exact ⟨1, by decide, rfl⟩
  | 1 => exact ⟨1, by decide, rfl⟩
  | 2 => exact ⟨2, by decide, rfl⟩
  | 3 => exact ⟨6, by decide, rfl⟩
  | _ + 4 => exact ⟨24, by decide, rfl⟩
theorem share_n {tx : Int32 → Int32} (htx : ∀ so, ∃ v, v ≤ 55 ∧ tx so = nI v) (nd dr : Nat) : ∀ n, ∃ z : Int, p_shareN tx nd dr n = Int32.ofInt z ∧ -(31680 * (n : Int)) ≤ z ∧ z ≤ 31680 * (n : Int)
  | 0 => ⟨0, rfl, by decide, by decide⟩
  | n + 1 => by
    obtain ⟨z, h1, h2, h3⟩ := share_n htx nd dr n
    show ∃ z : Int, (if bt (nI n) dr = true then p_shareN tx nd dr n else p_shareN tx nd dr n + (tx (nI n ||| (1 : Int32) <<< (nI dr &&& 31)) - tx (nI n)) * (gx_ord (pcn n) * gx_ord (nd - pcn n - 1))) = Int32.ofInt z ∧ _
    by_cases c : bt (nI n) dr = true
    · rw [if_pos c]
      exact ⟨z, h1, by omega, by omega⟩
    · obtain ⟨va, a1, a2⟩ := htx (nI n ||| (1 : Int32) <<< (nI dr &&& 31))
      obtain ⟨vb, b1, b2⟩ := htx (nI n)
      obtain ⟨p, p1, p2⟩ := ord_b (pcn n)
      obtain ⟨q, q1, q2⟩ := ord_b (nd - pcn n - 1)
      have hpq : p * q ≤ 24 * 24 := Nat.mul_le_mul p1 q1
      have ha : va * (p * q) ≤ 55 * (24 * 24) := Nat.mul_le_mul a1 hpq
      have hb : vb * (p * q) ≤ 55 * (24 * 24) := Nat.mul_le_mul b1 hpq
      refine ⟨z + (((va * (p * q) : Nat) : Int) - ((vb * (p * q) : Nat) : Int)), ?_, by omega, by omega⟩
      rw [if_neg c, h1, a2, b2, p2, q2, nI_mul, Int32.ofInt_add, Int32.ofInt_sub, ← ofI_n, ← ofI_n, ← nI_mul va, ← nI_mul vb, Int32.sub_mul]
theorem share_x {tx : Int32 → Int32} (htx : ∀ so, ∃ v, v ≤ 55 ∧ tx so = nI v) {nd : Nat} (h4 : nd ≤ 4) (dr : Nat) : ∃ x : Nat, x < 2 ^ 31 ∧ (if 0 ≤ p_shareN tx nd dr (2 ^ nd) then p_shareN tx nd dr (2 ^ nd) else 0 - p_shareN tx nd dr (2 ^ nd)) = nI x := by
  obtain ⟨z, h1, h2, h3⟩ := share_n htx nd dr (2 ^ nd)
  have h5 : 2 ^ nd ≤ 16 := Nat.pow_le_pow_right (n := 2) (j := 4) (by decide) h4
  rw [h1]
  exact abs_of (by omega) (by omega)
/-! ===== two at rest: there is one ===== -/
theorem arg_mx (p : Nat → Bool) (f : Nat → Int) : ∀ n, (∃ g, g < n ∧ p g = true) → ∃ g, g < n ∧ p g = true ∧ ∀ k, k < n → p k = true → f k ≤ f g
  | 0, h => by
    obtain ⟨g, hg, -⟩ := h
    exact absurd hg (Nat.not_lt_zero g)
  | n + 1, h => by
    by_cases c : ∃ g, g < n ∧ p g = true
    · obtain ⟨g, h1, h2, h3⟩ := arg_mx p f n c
      by_cases c2 : p n = true ∧ f g < f n
      · refine ⟨n, by omega, c2.1, fun k hk hp => ?_⟩
        by_cases e : k = n
        · rw [e]; exact Int.le_refl _
        · have := h3 k (by omega) hp
          have := c2.2
          omega
      · refine ⟨g, by omega, h2, fun k hk hp => ?_⟩
        by_cases e : k = n
        · subst e
          have : ¬ f g < f k := fun h9 => c2 ⟨hp, h9⟩
          omega
        · exact h3 k (by omega) hp
    · obtain ⟨g, hg, hp⟩ := h
      have e : g = n := Classical.byContradiction (fun h9 => c ⟨g, by omega, hp⟩)
      subst e
      refine ⟨g, by omega, hp, fun k hk hk2 => ?_⟩
      have e2 : k = g := Classical.byContradiction (fun h9 => c ⟨k, by omega, hk2⟩)
      rw [e2]
      exact Int.le_refl _
/-- the game of two: o what the one has of a glass, f what the other has of so much -/
theorem game {A B : Nat → Bool} {o c f : Nat → Nat} (hf : ∀ g, g < 5 → f (c g - o g) ≤ f (c g)) (hA : ∃ g, g < 5 ∧ A g = true) (hB : ∃ g, g < 5 ∧ B g = true) :
    ∃ g h, g < 5 ∧ h < 5 ∧ A g = true ∧ B h = true ∧ (∀ k, k < 5 → A k = true → (if k = h then (o k : Int) - 1 else o k) ≤ (if g = h then (o g : Int) - 1 else o g)) ∧ (∀ k, k < 5 → B k = true → (if g = k then (f (c k - o g) : Int) - 1 else f (c k)) ≤ (if g = h then (f (c h - o g) : Int) - 1 else f (c h))) := by
  obtain ⟨g1, hg1, a1, mx1⟩ := arg_mx A (fun g => (o g : Int)) 5 hA
  obtain ⟨h1, hh1, b1, mx2⟩ := arg_mx B (fun k => if g1 = k then (f (c k - o g1) : Int) - 1 else f (c k)) 5 hB
  by_cases c1 : ∃ h, h < 5 ∧ B h = true ∧ h ≠ g1 ∧ ∀ k, k < 5 → B k = true → (if g1 = k then (f (c k - o g1) : Int) - 1 else f (c k)) ≤ (f (c h) : Int)
  · obtain ⟨h, e1, e2, e3, e4⟩ := c1
    refine ⟨g1, h, hg1, e1, a1, e2, fun k hk hp => ?_, fun k hk hp => ?_⟩
    · have := mx1 k hk hp
      rw [if_neg (Ne.symm e3)]
      split <;> omega
    · rw [if_neg (show ¬ g1 = h from Ne.symm e3)]
      exact e4 k hk hp
  · have e1 : h1 = g1 := Classical.byContradiction (fun h9 => c1 ⟨h1, hh1, b1, h9, fun k hk hp => by
      have h8 := mx2 k hk hp
      simp only [if_neg (show ¬ g1 = h1 from Ne.symm h9)] at h8
      exact h8⟩)
    subst e1
    have m2 : ∀ k, k < 5 → B k = true → k ≠ h1 → (f (c k) : Int) < (f (c h1 - o h1) : Int) - 1 := by
      intro k hk hp hne
      refine Classical.byContradiction (fun h9 => c1 ⟨k, hk, hp, hne, fun k2 hk2 hp2 => ?_⟩)
      have h8 : (if h1 = k2 then (f (c k2 - o h1) : Int) - 1 else f (c k2)) ≤ (if h1 = h1 then (f (c h1 - o h1) : Int) - 1 else f (c h1)) := mx2 k2 hk2 hp2
      rw [if_pos (show h1 = h1 from rfl)] at h8
      exact Int.le_trans h8 (by omega)
    by_cases c2 : ∃ g, g < 5 ∧ A g = true ∧ g ≠ h1 ∧ o h1 ≤ o g
    · obtain ⟨g2, e1, e2, e3, e4⟩ := c2
      refine ⟨g2, h1, e1, hh1, e2, b1, fun k hk hp => ?_, fun k hk hp => ?_⟩
      · have := mx1 k hk hp
        rw [if_neg e3]
        split <;> omega
      · rw [if_neg e3]
        have q1 := hf h1 hh1
        by_cases ek : k = h1
        · subst ek
          rw [if_neg e3]
          exact Int.le_refl _
        · have q2 := m2 k hk hp ek
          by_cases eg : g2 = k
          · subst eg
            have q3 := hf g2 hk
            rw [if_pos rfl]
            omega
          · rw [if_neg eg]
            omega
    · refine ⟨h1, h1, hh1, hh1, a1, b1, fun k hk hp => ?_, fun k hk hp => ?_⟩
      · rw [if_pos (show h1 = h1 from rfl)]
        by_cases ek : k = h1
        · subst ek
          rw [if_pos rfl]
          exact Int.le_refl _
        · have : ¬ o h1 ≤ o k := fun h9 => c2 ⟨k, hk, hp, ek, h9⟩
          rw [if_neg ek]
          omega
      · rw [if_pos (show h1 = h1 from rfl)]
        by_cases ek : h1 = k
        · subst ek
          rw [if_pos rfl]
          exact Int.le_refl _
        · have q2 := m2 k hk hp (Ne.symm ek)
          rw [if_neg ek]
          omega
theorem gmon_1 : ∀ t c c' : Fin 10, c ≤ c' → p_gulp 1 (nI t) (nI c) ≤ p_gulp 1 (nI t) (nI c') := by decide +kernel
theorem gmon_2 : ∀ t c c' : Fin 10, c ≤ c' → p_gulp 2 (nI t) (nI c) ≤ p_gulp 2 (nI t) (nI c') := by decide +kernel
theorem gmon_3 : ∀ t c c' : Fin 10, c ≤ c' → p_gulp 3 (nI t) (nI c) ≤ p_gulp 3 (nI t) (nI c') := by decide +kernel
theorem gmon_0 : ∀ t c c' : Fin 10, c ≤ c' → p_gulp 0 (nI t) (nI c) ≤ p_gulp 0 (nI t) (nI c') := by decide +kernel
theorem gmon (k : Int32) {t c c' : Nat} (ht : t ≤ 9) (hc : c' ≤ 9) (h : c ≤ c') : p_gulp k (nI t) (nI c) ≤ p_gulp k (nI t) (nI c') := by
  by_cases h1 : k = 1
  · subst h1; exact gmon_1 ⟨t, by omega⟩ ⟨c, by omega⟩ ⟨c', by omega⟩ h
  · by_cases h2 : k = 2
    · subst h2; exact gmon_2 ⟨t, by omega⟩ ⟨c, by omega⟩ ⟨c', by omega⟩ h
    · by_cases h3 : k = 3
      · subst h3; exact gmon_3 ⟨t, by omega⟩ ⟨c, by omega⟩ ⟨c', by omega⟩ h
      · have e : ∀ x : Int32, p_gulp k (nI t) x = p_gulp 0 (nI t) x := by
          intro x
          unfold p_gulp
          rw [if_neg h1, if_neg h2, if_neg h3]
          rfl
        rw [e, e]
        exact gmon_0 ⟨t, by omega⟩ ⟨c, by omega⟩ ⟨c', by omega⟩ h
theorem t_sub1 : ∀ x : Fin 10, (nI x - 1).toInt = (x : Int) - 1 := by decide +kernel
theorem rest_ex {ms dk sb : Nat → Int32} {T : Tb} (hT : okT ms T) {a b : Nat} (ha : a < 4) (hb : b < 4) (hA : ∃ g, g < 5 ∧ bt (sb a) g = true) (hB : ∃ g, g < 5 ∧ bt (sb b) g = true) : ∃ g h, g < 5 ∧ h < 5 ∧ bt (sb a) g = true ∧ bt (sb b) h = true ∧ allB (p_rest1 dk sb T a b g h) 5 = true := by
  obtain ⟨t2, ht2, ht29⟩ := hT.2 b hb
  obtain ⟨t1, ht1, ht19⟩ := hT.2 a ha
  have hc : ∀ g, g < 5 → T.1 g = nI (T.1 g).toNatClampNeg ∧ (T.1 g).toNatClampNeg ≤ 9 := by
    intro g hg
    obtain ⟨⟨x, m, e1, -, e3, e4⟩, -⟩ := hT.1 g hg
    rw [e1, nI_clamp (by omega)]
    exact ⟨rfl, by omega⟩
  have ho : ∀ g, g < 5 → p_sw dk T a g = nI (p_sw dk T a g).toNatClampNeg ∧ (p_sw dk T a g).toNatClampNeg ≤ (T.1 g).toNatClampNeg := by
    intro g hg
    obtain ⟨e1, e2⟩ := hc g hg
    obtain ⟨x, x1, x2, x3⟩ := gulp_n (dk a) ht19 e2
    have e : p_sw dk T a g = nI x := by
      unfold p_sw
      rw [ht1, e1]
      exact x1
    rw [e, nI_clamp (by omega)]
    exact ⟨rfl, x2⟩
  have hf : ∀ x, x ≤ 9 → p_gulp (dk b) (T.2.2.1 b) (nI x) = nI (p_gulp (dk b) (T.2.2.1 b) (nI x)).toNatClampNeg ∧ (p_gulp (dk b) (T.2.2.1 b) (nI x)).toNatClampNeg ≤ 9 := by
    intro x hx
    obtain ⟨y, y1, y2, y3⟩ := gulp_n (dk b) ht29 hx
    rw [ht2, y1, nI_clamp (by omega)]
    exact ⟨rfl, by omega⟩
  have hm : ∀ x y, x ≤ y → y ≤ 9 → (p_gulp (dk b) (T.2.2.1 b) (nI x)).toNatClampNeg ≤ (p_gulp (dk b) (T.2.2.1 b) (nI y)).toNatClampNeg := by
    intro x y hxy hy
    have e1 := hf x (by omega)
    have e2 := hf y hy
    have e3 := gmon (dk b) ht29 hy hxy
    rw [← ht2, e1.1, e2.1] at e3
    exact (nI_leI (by omega) (by omega)).mp e3
  have u : ∀ g h, g < 5 → (p_oneHas dk T a g h).toInt = if g = h then ((p_sw dk T a g).toNatClampNeg : Int) - 1 else (p_sw dk T a g).toNatClampNeg := by
    intro g h hg
    have e1 := ho g hg
    have e2 := hc g hg
    unfold p_oneHas
    by_cases e : g = h
    · rw [if_pos e, if_pos e]
      have e3 := t_sub1 ⟨(p_sw dk T a g).toNatClampNeg, by omega⟩
      have e4 : (nI (p_sw dk T a g).toNatClampNeg - 1).toInt = ((p_sw dk T a g).toNatClampNeg : Int) - 1 := e3
      rw [← e1.1] at e4
      exact e4
    · rw [if_neg e, if_neg e]
      have e5 : (nI (p_sw dk T a g).toNatClampNeg).toInt = ((p_sw dk T a g).toNatClampNeg : Int) := nI_toInt (by omega)
      rw [← e1.1] at e5
      exact e5
  have v : ∀ g h, g < 5 → h < 5 → (p_otherHas dk T a b g h).toInt = if g = h then ((p_gulp (dk b) (T.2.2.1 b) (nI ((T.1 h).toNatClampNeg - (p_sw dk T a g).toNatClampNeg))).toNatClampNeg : Int) - 1 else (p_gulp (dk b) (T.2.2.1 b) (nI (T.1 h).toNatClampNeg)).toNatClampNeg := by
    intro g h hg hh
    have e1 := ho g hg
    have e2 := hc h hh
    unfold p_otherHas
    by_cases e : g = h
    · subst e
      have e6 : T.1 g - p_sw dk T a g = nI ((T.1 g).toNatClampNeg - (p_sw dk T a g).toNatClampNeg) := by
        have e7 := nI_sub e1.2
        rw [← e1.1, ← e2.1] at e7
        exact e7
      have e8 := hf ((T.1 g).toNatClampNeg - (p_sw dk T a g).toNatClampNeg) (by omega)
      rw [if_pos rfl, if_pos rfl, e6]
      have e3 := t_sub1 ⟨(p_gulp (dk b) (T.2.2.1 b) (nI ((T.1 g).toNatClampNeg - (p_sw dk T a g).toNatClampNeg))).toNatClampNeg, by omega⟩
      have e4 : (nI (p_gulp (dk b) (T.2.2.1 b) (nI ((T.1 g).toNatClampNeg - (p_sw dk T a g).toNatClampNeg))).toNatClampNeg - 1).toInt = ((p_gulp (dk b) (T.2.2.1 b) (nI ((T.1 g).toNatClampNeg - (p_sw dk T a g).toNatClampNeg))).toNatClampNeg : Int) - 1 := e3
      rw [← e8.1] at e4
      exact e4
    · have e8 := hf (T.1 h).toNatClampNeg (by omega)
      have e5 : (nI (p_gulp (dk b) (T.2.2.1 b) (nI (T.1 h).toNatClampNeg)).toNatClampNeg).toInt = ((p_gulp (dk b) (T.2.2.1 b) (nI (T.1 h).toNatClampNeg)).toNatClampNeg : Int) := nI_toInt (by omega)
      rw [if_neg e, if_neg e]
      rw [← e8.1] at e5
      rw [← e5, ← e2.1]
  obtain ⟨g, h, hg, hh, a1, b1, r1, r2⟩ := game (A := bt (sb a)) (B := bt (sb b)) (o := fun g => (p_sw dk T a g).toNatClampNeg) (c := fun g => (T.1 g).toNatClampNeg) (f := fun x => (p_gulp (dk b) (T.2.2.1 b) (nI x)).toNatClampNeg) (fun g hg => hm _ _ (Nat.sub_le _ _) (hc g hg).2) hA hB
  refine ⟨g, h, hg, hh, a1, b1, allB_t (fun k hk => ?_)⟩
  have p1 : bt (sb a) k = true → p_oneHas dk T a k h ≤ p_oneHas dk T a g h := fun hp => Int32.le_iff_toInt_le.mpr (by rw [u k h hk, u g h hg]; exact r1 k hk hp)
  have p2 : bt (sb b) k = true → p_otherHas dk T a b g k ≤ p_otherHas dk T a b g h := fun hp => Int32.le_iff_toInt_le.mpr (by rw [v g k hg hk, v g h hg hh]; exact r2 k hk hp)
  unfold p_rest1
  by_cases ca : bt (sb a) k = true
  · rw [if_pos ca, if_pos (p1 ca)]
    by_cases cb : bt (sb b) k = true
    · rw [if_pos cb, if_pos (p2 cb)]
    · rw [if_neg cb]
  · rw [if_neg ca]
    by_cases cb : bt (sb b) k = true
    · rw [if_pos cb, if_pos (p2 cb)]
    · rw [if_neg cb]
def hitR (dk sb : Nat → Int32) (T : Tb) (a b g h : Nat) : Prop := bt (sb a) g = true ∧ bt (sb b) h = true ∧ allB (p_rest1 dk sb T a b g h) 5 = true
theorem rsH_n (dk sb : Nat → Int32) (T : Tb) (a b g : Nat) {q : Int32 × Int32} {c : Nat} (hq : q.1 = nI c) : ∀ n, ∃ c', (p_rsH dk sb T a b g q n).1 = nI c' ∧ c ≤ c' ∧ c' ≤ c + n ∧ ∀ h, h < n → hitR dk sb T a b g h → c < c'
  | 0 => ⟨c, hq, Nat.le_refl _, Nat.le_refl _, fun h hh => absurd hh (Nat.not_lt_zero h)⟩
  | n + 1 => by
    obtain ⟨c', h1, h2, h3, h4⟩ := rsH_n dk sb T a b g hq n
    have e : p_rsH dk sb T a b g q (n + 1) = q_st dk sb T a b g n (p_rsH dk sb T a b g q n) := rfl
    rw [e]
    unfold q_st
    by_cases x : hitR dk sb T a b g n
    · rw [if_pos x.1, if_pos x.2.1, if_pos x.2.2]
      refine ⟨c' + 1, ?_, by omega, by omega, fun _ _ _ => by omega⟩
      show (p_rsH dk sb T a b g q n).1 + 1 = nI (c' + 1)
      rw [h1, nI_1]
    · have e2 : (if bt (sb a) g = true then (if bt (sb b) n = true then (if allB (p_rest1 dk sb T a b g n) 5 = true then ((p_rsH dk sb T a b g q n).1 + 1, if (p_rsH dk sb T a b g q n).1 = 0 then 10 * nI g + nI n else (p_rsH dk sb T a b g q n).2) else p_rsH dk sb T a b g q n) else p_rsH dk sb T a b g q n) else p_rsH dk sb T a b g q n) = p_rsH dk sb T a b g q n := by
        by_cases c1 : bt (sb a) g = true
        · rw [if_pos c1]
          by_cases c2 : bt (sb b) n = true
          · rw [if_pos c2, if_neg (fun h9 => x ⟨c1, c2, h9⟩)]
          · rw [if_neg c2]
        · rw [if_neg c1]
      rw [e2]
      refine ⟨c', h1, h2, by omega, fun h hh hx => ?_⟩
      by_cases eh : h = n
      · subst eh
        exact absurd hx x
      · exact h4 h (by omega) hx
theorem rsG_n (dk sb : Nat → Int32) (T : Tb) (a b : Nat) : ∀ n, ∃ c', (p_rsG dk sb T a b n).1 = nI c' ∧ c' ≤ 5 * n ∧ ∀ g h, g < n → h < 5 → hitR dk sb T a b g h → 0 < c'
  | 0 => ⟨0, rfl, Nat.le_refl _, fun g h hg => absurd hg (Nat.not_lt_zero g)⟩
  | n + 1 => by
    obtain ⟨c, h1, h2, h3⟩ := rsG_n dk sb T a b n
    obtain ⟨c', g1, g2, g3, g4⟩ := rsH_n dk sb T a b n h1 5
    refine ⟨c', g1, by omega, fun g h hg hh hx => ?_⟩
    by_cases e : g = n
    · subst e
      have := g4 h hh hx
      omega
    · have := h3 g h (by omega) hh hx
      omega
theorem rests_ex {ms dk sb : Nat → Int32} {T : Tb} (hT : okT ms T) {a b : Nat} (ha : a < 4) (hb : b < 4) (hA : ∃ s, s < 32 ∧ sb a = nI s) (hB : ∃ s, s < 32 ∧ sb b = nI s) (s0 : ¬ sb a = 0) (s1 : ¬ sb b = 0) : ¬ (p_rsG dk sb T a b 5).1 = 0 := by
  have key : ∀ x : Int32, (∃ s, s < 32 ∧ x = nI s) → ¬ x = 0 → ∃ g, g < 5 ∧ bt x g = true := by
    intro x hx h0
    obtain ⟨s, hs, rfl⟩ := hx
    obtain ⟨k, -, h2, -⟩ := fo_q ⟨s, hs⟩ (fun h9 => h0 (by have h8 : s = 0 := h9; rw [h8]; rfl))
    exact ⟨k.val, k.isLt, h2⟩
  obtain ⟨g, h, hg, hh, h1, h2, h3⟩ := rest_ex (dk := dk) hT ha hb (key _ hA s0) (key _ hB s1)
  obtain ⟨c, c1, c2, c3⟩ := rsG_n dk sb T a b 5
  have := c3 g h hg hh ⟨h1, h2, h3⟩
  rw [c1]
  exact nI_ne0' this (by omega)
theorem rests_no {dk sb : Nat → Int32} {T : Tb} {a b : Nat} (hs : sb a = 0 ∨ sb b = 0) : (p_rsG dk sb T a b 5).1 = 0 := by
  have hH : ∀ g q n, g < 5 → n ≤ 5 → p_rsH dk sb T a b g q n = q := by
    intro g q n hg
    induction n with
    | zero => intro _; rfl
    | succ n ih =>
      intro hn
      have e : p_rsH dk sb T a b g q (n + 1) = q_st dk sb T a b g n (p_rsH dk sb T a b g q n) := rfl
      rw [e, ih (by omega)]
      unfold q_st
      rcases hs with h | h
      · rw [h, bt_0 g hg, if_neg (by decide)]
      · rw [h, bt_0 n (by omega), if_neg (show ¬ false = true by decide), ite_self]
  have hG : ∀ n, n ≤ 5 → p_rsG dk sb T a b n = (0, -9) := by
    intro n
    induction n with
    | zero => intro _; rfl
    | succ n ih =>
      intro hn
      show p_rsH dk sb T a b n (p_rsG dk sb T a b n) 5 = _
      rw [hH n _ 5 (by omega) (Nat.le_refl 5), ih (by omega)]
  rw [hG 5 (Nat.le_refl 5)]
