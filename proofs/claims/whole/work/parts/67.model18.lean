def rH (G D Z : Nat → Int32) (ng nd : Nat) (H : Hd) : Prop :=
  H.1 = nI ng ∧ H.2.1 = nI nd ∧ ng ≤ 5 ∧ nd ≤ 4 ∧
  (∀ g, g < ng → (G (3 * g) = H.2.2.1 g ∧ G (3 * g + 1) = H.2.2.2.1 g ∧ G (3 * g + 2) = H.2.2.2.2.1 g) ∧ ∃ a m, H.2.2.2.1 g = nI a ∧ H.2.2.1 g = nI m ∧ a ≤ m ∧ m ≤ 9) ∧
  (∀ d, d < nd → (D (2 * d) = H.2.2.2.2.2.1 d ∧ D (2 * d + 1) = H.2.2.2.2.2.2.1 d) ∧ ∃ t, H.2.2.2.2.2.1 d = nI t ∧ t ≤ 9) ∧
  (∀ i, i < 4 → Z i = H.2.2.2.2.2.2.2 i) ∧ (∀ i, ∃ s, s < 2 ^ ng ∧ H.2.2.2.2.2.2.2 i = nI s) ∧
  (∀ g, ng ≤ g → H.2.2.1 g = 0 ∧ H.2.2.2.1 g = 0 ∧ H.2.2.2.2.1 g = 0) ∧ (∀ d, nd ≤ d → H.2.2.2.2.2.1 d = 0 ∧ H.2.2.2.2.2.2.1 d = 0 ∧ H.2.2.2.2.2.2.2 d = 0)
theorem rH_AG {G D Z : Nat → Int32} {ng nd : Nat} {H : Hd} (h : rH G D Z ng nd H) (hg : ng < 5) {m e k : Int32} {m' e' : Nat} (hm : m = nI m') (he : e = nI e') (h1 : e' ≤ m') (h2 : m' ≤ 9) : rH (upd (upd (upd G (3 * ng) m) (3 * ng + 1) e) (3 * ng + 2) k) D Z (ng + 1) nd (hAG H ng m e k) := by
  obtain ⟨a1, a2, a3, a4, a5, a6, a7, a8, a9, a10⟩ := h
  refine ⟨rfl, a2, by omega, a4, fun g hgg => ?_, a6, a7, fun i => ?_, fun g hgg => ?_, a10⟩
  · by_cases e9 : g = ng
    · subst e9
      refine ⟨⟨?_, ?_, ?_⟩, e', m', (upd_at _ _ _).trans he, (upd_at _ _ _).trans hm, h1, h2⟩
      · show _ = upd H.2.2.1 g m g
        rw [upd_ne _ _ (by omega), upd_ne _ _ (by omega), upd_at, upd_at]
      · show _ = upd H.2.2.2.1 g e g
        rw [upd_ne _ _ (by omega), upd_at, upd_at]
      · show _ = upd H.2.2.2.2.1 g k g
        rw [upd_at, upd_at]
    · obtain ⟨⟨b1, b2, b3⟩, a, q, b4, b5, b6⟩ := a5 g (by omega)
      refine ⟨⟨?_, ?_, ?_⟩, a, q, (upd_ne _ _ e9).trans b4, (upd_ne _ _ e9).trans b5, b6⟩
      · show _ = upd H.2.2.1 ng m g
        rw [upd_ne _ _ (by omega), upd_ne _ _ (by omega), upd_ne _ _ (by omega), upd_ne _ _ e9, b1]
      · show _ = upd H.2.2.2.1 ng e g
        rw [upd_ne _ _ (by omega), upd_ne _ _ (by omega), upd_ne _ _ (by omega), upd_ne _ _ e9, b2]
      · show _ = upd H.2.2.2.2.1 ng k g
        rw [upd_ne _ _ (by omega), upd_ne _ _ (by omega), upd_ne _ _ (by omega), upd_ne _ _ e9, b3]
  · obtain ⟨s, hs, e9⟩ := a8 i
    exact ⟨s, by rw [Nat.pow_succ]; omega, e9⟩
  · obtain ⟨b1, b2, b3⟩ := a9 g (by omega)
    exact ⟨(upd_ne _ _ (by omega)).trans b1, (upd_ne _ _ (by omega)).trans b2, (upd_ne _ _ (by omega)).trans b3⟩
theorem rH_AD {G D Z : Nat → Int32} {ng nd : Nat} {H : Hd} (h : rH G D Z ng nd H) (hd : nd < 4) {t k : Int32} {t' : Nat} (ht : t = nI t') (h1 : t' ≤ 9) : rH G (upd (upd D (2 * nd) t) (2 * nd + 1) k) Z ng (nd + 1) (hAD H nd t k) := by
  obtain ⟨a1, a2, a3, a4, a5, a6, a7, a8, a9, a10⟩ := h
  refine ⟨a1, rfl, a3, by omega, a5, fun d hdd => ?_, a7, a8, a9, fun d hdd => ?_⟩
  · by_cases e9 : d = nd
    · subst e9
      refine ⟨⟨?_, ?_⟩, t', (upd_at _ _ _).trans ht, h1⟩
      · show _ = upd H.2.2.2.2.2.1 d t d
        rw [upd_ne _ _ (by omega), upd_at, upd_at]
      · show _ = upd H.2.2.2.2.2.2.1 d k d
        rw [upd_at, upd_at]
    · obtain ⟨⟨b1, b2⟩, a, b4, b5⟩ := a6 d (by omega)
      refine ⟨⟨?_, ?_⟩, a, (upd_ne _ _ e9).trans b4, b5⟩
      · show _ = upd H.2.2.2.2.2.1 nd t d
        rw [upd_ne _ _ (by omega), upd_ne _ _ (by omega), upd_ne _ _ e9, b1]
      · show _ = upd H.2.2.2.2.2.2.1 nd k d
        rw [upd_ne _ _ (by omega), upd_ne _ _ (by omega), upd_ne _ _ e9, b2]
  · obtain ⟨b1, b2, b3⟩ := a10 d (by omega)
    exact ⟨(upd_ne _ _ (by omega)).trans b1, (upd_ne _ _ (by omega)).trans b2, b3⟩
theorem seat_or : ∀ (ng : Fin 6) (s : Fin 32) (x : Fin 5), (s : Nat) < 2 ^ (ng : Nat) → (x : Nat) < ng → ∃ t : Fin 32, (t : Nat) < 2 ^ (ng : Nat) ∧ nI s ||| (1 : Int32) <<< (nI x &&& 31) = nI t := by decide +kernel
def hAS (H : Hd) (k : Nat) (v : Int32) : Hd := (H.1, H.2.1, H.2.2.1, H.2.2.2.1, H.2.2.2.2.1, H.2.2.2.2.2.1, H.2.2.2.2.2.2.1, upd H.2.2.2.2.2.2.2 k v)
theorem rH_AS {G D Z : Nat → Int32} {ng nd : Nat} {H : Hd} (h : rH G D Z ng nd H) {k x : Nat} (hk : k < nd) (hx : x < ng) : rH G D (upd Z k (Z k ||| (1 : Int32) <<< (nI x &&& 31))) ng nd (hAS H k (H.2.2.2.2.2.2.2 k ||| (1 : Int32) <<< (nI x &&& 31))) := by
  obtain ⟨a1, a2, a3, a4, a5, a6, a7, a8, a9, a10⟩ := h
  refine ⟨a1, a2, a3, a4, a5, a6, fun i hi => ?_, fun i => ?_, a9, fun d hdd => ?_⟩
  · show _ = upd H.2.2.2.2.2.2.2 k _ i
    by_cases e : i = k
    · subst e
      rw [upd_at, upd_at, a7 i hi]
    · rw [upd_ne _ _ e, upd_ne _ _ e, a7 i hi]
  · show ∃ s, s < 2 ^ ng ∧ upd H.2.2.2.2.2.2.2 k _ i = nI s
    by_cases e : i = k
    · subst e
      obtain ⟨s, hs, e9⟩ := a8 i
      have h32 := p2_5 ng a3
      obtain ⟨t, ht, e8⟩ := seat_or ⟨ng, by omega⟩ ⟨s, by omega⟩ ⟨x, by omega⟩ hs hx
      exact ⟨t, ht, by rw [upd_at, e9]; exact e8⟩
    · obtain ⟨s, hs, e9⟩ := a8 i
      exact ⟨s, hs, by rw [upd_ne _ _ e]; exact e9⟩
  · obtain ⟨b1, b2, b3⟩ := a10 d hdd
    exact ⟨b1, b2, (upd_ne _ _ (by omega)).trans b3⟩
theorem seat_t {H : Hd} {ng nd k x : Nat} (h1 : H.1 = nI ng) (h2 : H.2.1 = nI nd) (h5 : ng ≤ 5) (h4 : nd ≤ 4) (hk : k < nd) (hx : x < 10) : (p_seat H (nI k) (nI x)).1 = (decide (x < ng) && !bt (H.2.2.2.2.2.2.2 k) x) ∧ ((p_seat H (nI k) (nI x)).1 = true → (p_seat H (nI k) (nI x)).2 = hAS H k (H.2.2.2.2.2.2.2 k ||| (1 : Int32) <<< (nI x &&& 31))) := by
  have ek : (nI k).toNatClampNeg = k := nI_clamp (by omega)
  have ex : (nI x).toNatClampNeg = x := nI_clamp (by omega)
  have e : p_seat H (nI k) (nI x) = if isG (nI ng) (nI x) = true then (if bt (H.2.2.2.2.2.2.2 k) x = true then (false, H) else (true, hAS H k (H.2.2.2.2.2.2.2 k ||| (1 : Int32) <<< (nI x &&& 31)))) else (false, H) := by
    have e1 : isG H.2.1 (nI k) = true := by rw [h2]; exact isG_in (by omega) hk
    unfold p_seat
    rw [if_pos e1, ek, ex, ← h1]
    rfl
  rw [e]
  by_cases h : x < ng
  · rw [if_pos (isG_in (by omega) h), decide_eq_true h]
    by_cases hb : bt (H.2.2.2.2.2.2.2 k) x = true
    · rw [if_pos hb, hb]
      exact ⟨rfl, fun h9 => by cases h9⟩
    · rw [if_neg hb, Bool.eq_false_iff.mpr hb]
      exact ⟨rfl, fun _ => rfl⟩
  · rw [isG_out (by omega) (by omega), if_neg (by decide), decide_eq_false h]
    exact ⟨rfl, fun h9 => by cases h9⟩
/-! ===== what is allowed, said twice ===== -/
theorem a1022 : ∀ k : Fin 10, bt 1022 k = true ↔ ¬ nI k < 1 := by decide +kernel
theorem a15 : ∀ k : Fin 10, bt 15 k = true ↔ nI k ≤ 3 := by decide +kernel
theorem a1023 : ∀ k : Fin 10, bt 1023 k = true := by decide +kernel
theorem aM : ∀ m k : Fin 10, bt ((1 : Int32) <<< ((nI m + 1) &&& 31) - 1) k = true ↔ ¬ nI m < nI k := by decide +kernel
theorem okA_iff {a : Int32} {f : Nat → Int32} {len q : Nat} {P : Int32 → Prop} (hf : okL f len) (hP : ∀ k : Fin 10, bt a k = true ↔ P (nI k)) : okA a f len q = true ↔ (okd f len q = true ∧ P (dv f q)) := by
  unfold okA
  by_cases h : okd f len q = true
  · obtain ⟨-, k, hk, e1, e2⟩ := okd_v hf h
    rw [h, Bool.true_and, e2, e1]
    exact ⟨fun h9 => ⟨rfl, (hP ⟨k, hk⟩).mp h9⟩, fun h9 => (hP ⟨k, hk⟩).mpr h9.2⟩
  · rw [Bool.eq_false_iff.mpr h, Bool.false_and]
    exact ⟨fun h9 => (by cases h9), fun h9 => (by cases h9.1)⟩
theorem okA_len {a : Int32} {f : Nat → Int32} {len q : Nat} (h : okA a f len q = true) : q < len := (of_decide_eq_true (Bool.and_eq_true_iff.mp h).1).1
set_option maxRecDepth 10000 in
theorem m_part (d : Nat) (S : gx_S) {len : Nat} (hlen : S 44 13 = nI len) (h60 : len ≤ 60) (hf : okL (S 53) len) {p ng nd : Nat} {G D Z : Nat → Int32} {H : Hd} (hr : rH G D Z ng nd H) (hpl : p < len) (n : Nat) (L : gx_L) : ∃ (p' fa g d' : Int32) (G' D' Z' : Nat → Int32), Cw (d + 2) mX11_readPart [.ref 44, .int (S 53 p)] (rM S (nI p) (-9) (nI ng) (nI nd) G D Z) L (rM S p' fa g d' G' D' Z') L ∧ ((∃ q, q < 64 ∧ fa = nI q ∧ (pz (S 53) len (n + 1) p ng nd H).1 = nI q) ∨ (fa = -9 ∧ ∃ p1 ng1 nd1 H1, p' = nI p1 ∧ p < p1 ∧ p1 ≤ len ∧ g = nI ng1 ∧ d' = nI nd1 ∧ rH G' D' Z' ng1 nd1 H1 ∧ pz (S 53) len (n + 1) p ng nd H = pz (S 53) len n p1 ng1 nd1 H1)) := by
  have h5 := hr.2.2.1
  have h4 := hr.2.2.2.1
  have i1 := fun q => okA_iff (q := q) (P := fun v => ¬ v < 1) hf a1022
  have i3 := fun q => okA_iff (q := q) (P := fun v => v ≤ 3) hf a15
  by_cases c1 : S 53 p = 86
  · rw [c1]
    have n2 : ¬ (S 53 p = 68 ∧ nd < 4) := fun h9 => absurd (c1.symm.trans h9.1) (by decide)
    have n3 : ∀ P : Prop, ¬ (S 53 p = 83 ∧ P) := fun P h9 => absurd (c1.symm.trans h9.1) (by decide)
    by_cases hg : ng < 5
    · by_cases h1 : okA 1022 (S 53) len (p + 1) = true
      · have w1 := (i1 _).mp h1
        obtain ⟨l1, m, hm, em, -⟩ := okd_v hf w1.1
        have i2 := fun q => okA_iff (q := q) (a := (1 : Int32) <<< ((dv (S 53) (p + 1) + 1) &&& 31) - 1) (P := fun v => ¬ dv (S 53) (p + 1) < v) hf (by rw [em]; exact aM ⟨m, hm⟩)
        by_cases h2 : okA ((1 : Int32) <<< ((dv (S 53) (p + 1) + 1) &&& 31) - 1) (S 53) len (p + 2) = true
        · have w2 := (i2 _).mp h2
          obtain ⟨l2, e, he, ee, -⟩ := okd_v hf w2.1
          by_cases h3 : okA 15 (S 53) len (p + 3) = true
          · have w3 := (i3 _).mp h3
            have l3 := okA_len h3
            have hem : e ≤ m := by
              rcases Nat.lt_or_ge m e with h9 | h9
              · exact absurd (by rw [em, ee]; exact nI_lt h9 (by omega)) w2.2
              · exact h9
            exact ⟨_, _, _, _, _, _, _, m_pV0 d S hlen h60 hf h5 h4 G D Z hg hpl h1 h2 h3 L, Or.inr ⟨rfl, p + 4, ng + 1, nd, _, rfl, by omega, by omega, rfl, rfl, rH_AG hr hg em ee hem (by omega), (if_neg (by omega)).trans ((if_pos ⟨c1, hg⟩).trans ((if_pos w1).trans ((if_pos w2).trans (if_pos w3))))⟩⟩
          · exact ⟨_, _, _, _, _, _, _, m_pV3 d S hlen h60 hf h5 h4 G D Z hg hpl h1 h2 (by omega) (Bool.eq_false_iff.mpr h3) L, Or.inl ⟨p + 3, by omega, rfl, by rw [show pz (S 53) len (n + 1) p ng nd H = _ from (if_neg (by omega)).trans ((if_pos ⟨c1, hg⟩).trans ((if_pos w1).trans ((if_pos w2).trans (if_neg (fun h9 => h3 ((i3 _).mpr h9))))))]⟩⟩
        · exact ⟨_, _, _, _, _, _, _, m_pV2 d S hlen h60 hf h5 h4 G D Z hg hpl h1 (by omega) (Bool.eq_false_iff.mpr h2) L, Or.inl ⟨p + 2, by omega, rfl, by rw [show pz (S 53) len (n + 1) p ng nd H = _ from (if_neg (by omega)).trans ((if_pos ⟨c1, hg⟩).trans ((if_pos w1).trans (if_neg (fun h9 => h2 ((i2 _).mpr h9)))))]⟩⟩
      · exact ⟨_, _, _, _, _, _, _, m_pV1 d S hlen h60 hf h5 h4 G D Z hg hpl (Bool.eq_false_iff.mpr h1) L, Or.inl ⟨p + 1, by omega, rfl, by rw [show pz (S 53) len (n + 1) p ng nd H = _ from (if_neg (by omega)).trans ((if_pos ⟨c1, hg⟩).trans (if_neg (fun h9 => h1 ((i1 _).mpr h9))))]⟩⟩
    · exact ⟨_, _, _, _, _, _, _, m_pXV d S hlen h60 hf h5 h4 G D Z (by omega) L, Or.inl ⟨p, by omega, rfl, by rw [show pz (S 53) len (n + 1) p ng nd H = _ from (if_neg (by omega)).trans ((if_neg (fun h9 => hg h9.2)).trans ((if_neg n2).trans (if_neg (n3 _))))]⟩⟩
  · have n1 : ¬ (S 53 p = 86 ∧ ng < 5) := fun h9 => c1 h9.1
    by_cases c2 : S 53 p = 68
    · rw [c2]
      have n3 : ∀ P : Prop, ¬ (S 53 p = 83 ∧ P) := fun P h9 => absurd (c2.symm.trans h9.1) (by decide)
      by_cases hd : nd < 4
      · by_cases h1 : okA 1023 (S 53) len (p + 1) = true
        · have w1 := (Bool.and_eq_true_iff.mp h1).1
          obtain ⟨l1, t, ht, et, -⟩ := okd_v hf w1
          by_cases h2 : okA 15 (S 53) len (p + 2) = true
          · have w2 := (i3 _).mp h2
            have l2 := okA_len h2
            exact ⟨_, _, _, _, _, _, _, m_pD0 d S hlen h60 hf h5 h4 G D Z hd hpl h1 h2 L, Or.inr ⟨rfl, p + 3, ng, nd + 1, _, rfl, by omega, by omega, rfl, rfl, rH_AD hr hd et (by omega), (if_neg (by omega)).trans ((if_neg n1).trans ((if_pos ⟨c2, hd⟩).trans ((if_pos w1).trans (if_pos w2))))⟩⟩
          · exact ⟨_, _, _, _, _, _, _, m_pD2 d S hlen h60 hf h5 h4 G D Z hd hpl h1 (by omega) (Bool.eq_false_iff.mpr h2) L, Or.inl ⟨p + 2, by omega, rfl, by rw [show pz (S 53) len (n + 1) p ng nd H = _ from (if_neg (by omega)).trans ((if_neg n1).trans ((if_pos ⟨c2, hd⟩).trans ((if_pos w1).trans (if_neg (fun h9 => h2 ((i3 _).mpr h9))))))]⟩⟩
        · have w1 : ¬ okd (S 53) len (p + 1) = true := fun h9 => h1 ((okA_iff (P := fun _ => True) hf (fun k => ⟨fun _ => trivial, fun _ => a1023 k⟩)).mpr ⟨h9, trivial⟩)
          exact ⟨_, _, _, _, _, _, _, m_pD1 d S hlen h60 hf h5 h4 G D Z hd hpl (Bool.eq_false_iff.mpr h1) L, Or.inl ⟨p + 1, by omega, rfl, by rw [show pz (S 53) len (n + 1) p ng nd H = _ from (if_neg (by omega)).trans ((if_neg n1).trans ((if_pos ⟨c2, hd⟩).trans (if_neg w1)))]⟩⟩
      · exact ⟨_, _, _, _, _, _, _, m_pXD d S hlen h60 hf h5 h4 G D Z (by omega) L, Or.inl ⟨p, by omega, rfl, by rw [show pz (S 53) len (n + 1) p ng nd H = _ from (if_neg (by omega)).trans ((if_neg n1).trans ((if_neg (fun h9 => hd h9.2)).trans (if_neg (n3 _))))]⟩⟩
    · have n2 : ¬ (S 53 p = 68 ∧ nd < 4) := fun h9 => c2 h9.1
      by_cases c3 : S 53 p = 83
      · rw [c3]
        have h32 := p2_5 ng h5
        have hfb : ∀ i, i < nd → sCan H (nI i) = fbQ ng Z i := by
          intro i hi
          obtain ⟨s, hs, es⟩ := hr.2.2.2.2.2.2.2.1 i
          have ez : Z i = nI s := (hr.2.2.2.2.2.2.1 i (by omega)).trans es
          have f0 : q_free ng (nI s) = 0 ↔ nI s = (1 : Int32) <<< (nI ng &&& 31) - 1 := free_0 ⟨ng, by omega⟩ ⟨s, by omega⟩ hs
          unfold sCan p_can fbQ
          rw [hr.1, hr.2.1, if_pos (isG_in (by omega) hi), nI_clamp (by omega), es, ez]
          by_cases h9 : nI s = (1 : Int32) <<< (nI ng &&& 31) - 1
          · rw [if_pos h9, decide_eq_false (fun h8 => h8 (f0.mpr h9))]
          · rw [if_neg h9]
            have h7 : ¬ q_free ng (nI s) = 0 := fun h8 => h9 (f0.mp h8)
            exact (decide_eq_true h7).symm
        have hany : anyB (fun i => sCan H (nI i)) nd = anyB (fbQ ng Z) nd := (flN_c nd (fun i hi => hfb i hi)).2
        by_cases hs : q_flN (fbQ ng Z) nd = 0
        · have hna : ¬ (S 53 p = 83 ∧ anyB (fun i => sCan H (nI i)) nd = true) := fun h9 => by
            have := (flN_z _ h4).mp hs
            rw [← hany] at this
            rw [this] at h9
            cases h9.2
          exact ⟨_, _, _, _, _, _, _, m_pXS d S hlen h60 hf h5 h4 G D Z hs L, Or.inl ⟨p, by omega, rfl, by rw [show pz (S 53) len (n + 1) p ng nd H = _ from (if_neg (by omega)).trans ((if_neg n1).trans ((if_neg n2).trans (if_neg hna)))]⟩⟩
        · have ha : S 53 p = 83 ∧ anyB (fun i => sCan H (nI i)) nd = true := ⟨c3, by
            rw [hany]
            rcases Bool.eq_false_or_eq_true (anyB (fbQ ng Z) nd) with h9 | h9
            · exact h9
            · exact absurd ((flN_z _ h4).mpr h9) hs⟩
          have is := fun q => okA_iff (q := q) (a := q_flN (fbQ ng Z) nd) (P := fun v => sCan H v = true) hf (fun k => by
            rw [flN_bt _ h4 k.2]
            by_cases hk : (k : Nat) < nd
            · rw [decide_eq_true hk, Bool.true_and, ← hfb _ hk]
            · rw [decide_eq_false hk, Bool.false_and]
              refine ⟨fun h9 => (by cases h9), fun h9 => ?_⟩
              unfold sCan p_can at h9
              rw [hr.2.1, isG_out (by have := k.2; omega) (by omega), if_neg (by decide)] at h9
              cases h9)
          by_cases h1 : okA (q_flN (fbQ ng Z) nd) (S 53) len (p + 1) = true
          · have w1 := (is _).mp h1
            obtain ⟨l1, k, hk, ek, -⟩ := okd_v hf w1.1
            have hknd : k < nd := by
              rcases Nat.lt_or_ge k nd with h9 | h9
              · exact h9
              · have h8 := w1.2
                unfold sCan p_can at h8
                rw [ek, hr.2.1, isG_out (by omega) h9, if_neg (by decide)] at h8
                cases h8
            obtain ⟨s, hs1, es⟩ := hr.2.2.2.2.2.2.2.1 k
            have ez : Z k = nI s := (hr.2.2.2.2.2.2.1 k (by omega)).trans es
            have is2 := fun q => okA_iff (q := q) (a := q_free ng (Z k)) (P := fun v => (p_seat H (dv (S 53) (p + 1)) v).1 = true) hf (fun x => by
              rw [ek, (seat_t hr.1 hr.2.1 h5 h4 hknd x.2).1, ez, es, show bt (q_free ng (nI s)) x = _ from free_b ⟨ng, by omega⟩ ⟨s, by omega⟩ x hs1])
            by_cases h2 : okA (q_free ng (Z k)) (S 53) len (p + 2) = true
            · have w2 := (is2 _).mp h2
              obtain ⟨l2, x, hx, ex, -⟩ := okd_v hf w2.1
              have st := seat_t hr.1 hr.2.1 h5 h4 hknd hx
              have w22 := w2.2
              rw [ek, ex] at w22
              have hxg : x < ng := by
                have h9 := st.1
                rw [w22] at h9
                exact of_decide_eq_true (Bool.and_eq_true_iff.mp h9.symm).1
              have rr := rH_AS hr hknd hxg
              rw [← st.2 w22, ← ex, ← ek] at rr
              exact ⟨_, _, _, _, _, _, _, m_pS0 d S hlen h60 hf h5 h4 G D Z hpl hs h1 (by omega) ek h2 L, Or.inr ⟨rfl, p + 3, ng, nd, _, rfl, by omega, by omega, rfl, rfl, rr, (if_neg (by omega)).trans ((if_neg n1).trans ((if_neg n2).trans ((if_pos ha).trans ((if_pos w1).trans (if_pos w2)))))⟩⟩
            · exact ⟨_, _, _, _, _, _, _, m_pS2 d S hlen h60 hf h5 h4 G D Z hpl hs h1 (by omega) ek (by omega) (Bool.eq_false_iff.mpr h2) L, Or.inl ⟨p + 2, by omega, rfl, by rw [show pz (S 53) len (n + 1) p ng nd H = _ from (if_neg (by omega)).trans ((if_neg n1).trans ((if_neg n2).trans ((if_pos ha).trans ((if_pos w1).trans (if_neg (fun h9 => h2 ((is2 _).mpr h9)))))))]⟩⟩
          · exact ⟨_, _, _, _, _, _, _, m_pS1 d S hlen h60 hf h5 h4 G D Z hpl hs (Bool.eq_false_iff.mpr h1) (k := 0) rfl L, Or.inl ⟨p + 1, by omega, rfl, by rw [show pz (S 53) len (n + 1) p ng nd H = _ from (if_neg (by omega)).trans ((if_neg n1).trans ((if_neg n2).trans ((if_pos ha).trans (if_neg (fun h9 => h1 ((is _).mpr h9))))))]⟩⟩
      · exact ⟨_, _, _, _, _, _, _, m_pX d S hlen h60 hf h5 h4 G D Z ⟨c1, c2, c3⟩ L, Or.inl ⟨p, by omega, rfl, by rw [show pz (S 53) len (n + 1) p ng nd H = _ from (if_neg (by omega)).trans ((if_neg n1).trans ((if_neg n2).trans (if_neg (fun h9 => c3 h9.1))))]⟩⟩
