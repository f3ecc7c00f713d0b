/-! ===== THE RELATION between the class's cells and the reference's ===== -/
def R1 (S : gx_S) (len : Nat) : Prop := S 1 1 = nI len ∧ S 44 13 = nI len ∧ len ≤ 60 ∧ (∀ i, i < len → S 2 i = S 53 i) ∧ okL (S 53) len
def R2 (S : gx_S) (ng nd : Nat) : Prop := S 11 0 = nI ng ∧ S 11 1 = nI nd ∧ mH S ng nd (S 12) (S 14) (S 16) (S 17) ∧ zH (hG S 4) ∧ zH (hG S 11) ∧ ∀ d, ∃ s, s < 32 ∧ S 17 d = nI s
def R3 (S : gx_S) (nd : Nat) : Prop := mT (S 49) 0 = tG S 18 ∧ okT (S 12) (tG S 18) ∧ zD nd (tG S 18) ∧ zT (tG S 22) ∧ zT (tG S 26)
def R4 (S : gx_S) (nd nx sz : Nat) : Prop := S 30 1 = nI nx ∧ S 44 17 = nI nx ∧ nx < 14 ∧ S 30 2 = nI sz ∧ S 44 16 = nI sz ∧ sz ≤ 14 ∧ S 31 0 = nI 14 ∧ (∀ j, j < 210 → S 32 j = S 54 j) ∧ ∀ i, i < sz → okT (S 12) (mT (S 54) ((nx + 13 - i) % 14)) ∧ zD nd (mT (S 54) ((nx + 13 - i) % 14))
def R5 (S : gx_S) (nd : Nat) : Prop := S 33 0 = nI 2 ∧ (∀ j, j < 30 → S 34 j = S 59 j) ∧ (∀ p, p < 2 → (bt (S 0 9) p = false ∧ S 58 p = 0) ∨ (bt (S 0 9) p = true ∧ ¬ S 58 p = 0 ∧ okT (S 12) (mT (S 59) p) ∧ zD nd (mT (S 59) p))) ∧ ∃ k, k < 4 ∧ S 0 9 = nI k
def R6 (S : gx_S) (sn : Nat) : Prop := S 35 3 = nI sn ∧ S 44 19 = nI sn ∧ sn ≤ 6 ∧ ∀ i, i < sn → S 36 i = S 55 i ∧ S 37 i = S 56 i ∧ S 38 i = S 57 i ∧ 0 ≤ S 56 i
def RR (S : gx_S) (L : gx_L) : Prop := ∃ len ng nd nx sz sn : Nat, R1 S len ∧ R2 S ng nd ∧ R3 S nd ∧ R4 S nd nx sz ∧ R5 S nd ∧ R6 S sn ∧ L 0 = L 44
theorem R1_tr {S S' : gx_S} {len : Nat} (h : R1 S len) (e1 : S' 1 = S 1) (e2 : S' 2 = S 2) (e3 : S' 44 13 = S 44 13) (e4 : S' 53 = S 53) : R1 S' len := by
  unfold R1
  rw [e1, e2, e3, e4]
  exact h
theorem R2_tr {S S' : gx_S} {ng nd : Nat} (h : R2 S ng nd) (e1 : ∀ i, 11 ≤ i → i ≤ 17 → S' i = S i) (e2 : zH (hG S' 4)) (e3 : S' 44 0 = S 44 0) (e4 : S' 44 1 = S 44 1) (e5 : ∀ i, 45 ≤ i → i ≤ 48 → S' i = S i) : R2 S' ng nd := by
  have g : hG S' 11 = hG S 11 := by
    unfold hG
    rw [e1 11 (by decide) (by decide), e1 (11 + 1) (by decide) (by decide), e1 (11 + 2) (by decide) (by decide), e1 (11 + 3) (by decide) (by decide), e1 (11 + 4) (by decide) (by decide), e1 (11 + 5) (by decide) (by decide), e1 (11 + 6) (by decide) (by decide)]
  unfold R2 mH
  rw [e1 11 (by decide) (by decide), e1 12 (by decide) (by decide), e1 14 (by decide) (by decide), e1 16 (by decide) (by decide), e1 17 (by decide) (by decide), g, e3, e4, e5 45 (by decide) (by decide), e5 46 (by decide) (by decide), e5 47 (by decide) (by decide), e5 48 (by decide) (by decide)]
  exact ⟨h.1, h.2.1, h.2.2.1, e2, h.2.2.2.2⟩
theorem R3_tr {S S' : gx_S} {nd : Nat} (h : R3 S nd) (e1 : S' 12 = S 12) (e2 : tG S' 18 = tG S 18) (e3 : mT (S' 49) 0 = mT (S 49) 0) (e4 : zT (tG S' 22)) (e5 : zT (tG S' 26)) : R3 S' nd := by
  unfold R3
  rw [e1, e2, e3]
  exact ⟨h.1, h.2.1, h.2.2.1, e4, e5⟩
theorem R4_tr {S S' : gx_S} {nd nx sz : Nat} (h : R4 S nd nx sz) (e1 : S' 12 = S 12) (e2 : S' 30 = S 30) (e3 : S' 31 = S 31) (e4 : S' 32 = S 32) (e5 : S' 44 16 = S 44 16) (e6 : S' 44 17 = S 44 17) (e7 : S' 54 = S 54) : R4 S' nd nx sz := by
  unfold R4
  rw [e1, e2, e3, e4, e5, e6, e7]
  exact h
theorem R5_tr {S S' : gx_S} {nd : Nat} (h : R5 S nd) (e1 : S' 12 = S 12) (e2 : S' 33 = S 33) (e3 : S' 34 = S 34) (e4 : S' 0 9 = S 0 9) (e5 : S' 58 = S 58) (e6 : S' 59 = S 59) : R5 S' nd := by
  unfold R5
  rw [e1, e2, e3, e4, e5, e6]
  exact h
theorem R6_tr {S S' : gx_S} {sn : Nat} (h : R6 S sn) (e1 : S' 35 = S 35) (e2 : S' 36 = S 36) (e3 : S' 37 = S 37) (e4 : S' 38 = S 38) (e5 : S' 44 19 = S 44 19) (e6 : S' 55 = S 55) (e7 : S' 56 = S 56) (e8 : S' 57 = S 57) : R6 S' sn := by
  unfold R6
  rw [e1, e2, e3, e4, e5, e6, e7, e8]
  exact h
theorem tG_e {S S' : gx_S} {t : Nat} (h0 : S' t = S t) (h1 : S' (t + 1) = S (t + 1)) (h2 : S' (t + 2) = S (t + 2)) (h3 : S' (t + 3) = S (t + 3)) : tG S' t = tG S t := by
  unfold tG
  rw [h0, h1, h2, h3]
theorem hG_e {S S' : gx_S} {t : Nat} (h : ∀ i, t ≤ i → i ≤ t + 6 → S' i = S i) : hG S' t = hG S t := by
  unfold hG
  rw [h t (by omega) (by omega), h (t + 1) (by omega) (by omega), h (t + 2) (by omega) (by omega), h (t + 3) (by omega) (by omega), h (t + 4) (by omega) (by omega), h (t + 5) (by omega) (by omega), h (t + 6) (by omega) (by omega)]
/-- what is tried alone has changed -/
theorem RR_sc {S S' : gx_S} {L : gx_L} (h : RR S L) (a1 : ∀ i, i < 26 → S' i = S i) (a2 : ∀ i, 29 < i → i < 39 → S' i = S i) (a3 : ∀ i, 43 < i → i ≠ 49 → S' i = S i) (a4 : mT (S' 49) 0 = mT (S 49) 0) (a5 : zT (tG S' 26)) : RR S' L := by
  obtain ⟨len, ng, nd, nx, sz, sn, h1, h2, h3, h4, h5, h6, h7⟩ := h
  have e44 : S' 44 = S 44 := a3 44 (by decide) (by decide)
  refine ⟨len, ng, nd, nx, sz, sn, R1_tr h1 (a1 1 (by decide)) (a1 2 (by decide)) (by rw [e44]) (a3 53 (by decide) (by decide)), R2_tr h2 (fun i _ hi => a1 i (by omega)) ?_ (by rw [e44]) (by rw [e44]) (fun i h1 h2 => a3 i (by omega) (by omega)), R3_tr h3 (a1 12 (by decide)) (tG_e (a1 18 (by decide)) (a1 (18 + 1) (by decide)) (a1 (18 + 2) (by decide)) (a1 (18 + 3) (by decide))) a4 ?_ a5, R4_tr h4 (a1 12 (by decide)) (a2 30 (by decide) (by decide)) (a2 31 (by decide) (by decide)) (a2 32 (by decide) (by decide)) (by rw [e44]) (by rw [e44]) (a3 54 (by decide) (by decide)), R5_tr h5 (a1 12 (by decide)) (a2 33 (by decide) (by decide)) (a2 34 (by decide) (by decide)) (by rw [a1 0 (by decide)]) (a3 58 (by decide) (by decide)) (a3 59 (by decide) (by decide)), R6_tr h6 (a2 35 (by decide) (by decide)) (a2 36 (by decide) (by decide)) (a2 37 (by decide) (by decide)) (a2 38 (by decide) (by decide)) (by rw [e44]) (a3 55 (by decide) (by decide)) (a3 56 (by decide) (by decide)) (a3 57 (by decide) (by decide)), h7⟩
  · rw [hG_e (fun i h1 h2 => a1 i (by omega))]
    exact h2.2.2.2.1
  · rw [tG_e (a1 22 (by decide)) (a1 (22 + 1) (by decide)) (a1 (22 + 2) (by decide)) (a1 (22 + 3) (by decide))]
    exact h3.2.2.2.1
theorem RR_z26 {S : gx_S} {L : gx_L} (h : RR S L) : zT (tG S 26) := by
  obtain ⟨len, ng, nd, nx, sz, sn, h1, h2, h3, h4, h5, h6, h7⟩ := h
  exact h3.2.2.2.2
theorem RR_t {S : gx_S} {L : gx_L} (h : RR S L) {T : Tb} (hz : zT T) : RR (tS S 26 T) L :=
  RR_sc h (fun i hi => tS_o S T (by omega)) (fun i h1 h2 => tS_o S T (by omega)) (fun i h1 h2 => tS_o S T (by omega)) (by rw [tS_o S T (by decide)]) (by rw [tG_tS]; exact hz)
theorem RR_n {S : gx_S} {L : gx_L} (h : RR S L) (T : Tb) : RR (nS S 1 T) L :=
  RR_sc h (fun i hi => nS_o S 1 T (by omega)) (fun i h1 h2 => nS_o S 1 T (by omega)) (fun i h1 h2 => nS_o S 1 T h2) (mT_nS1 S T) (by
    rw [tG_e (nS_o S 1 T (by decide)) (nS_o S 1 T (by decide)) (nS_o S 1 T (by decide)) (nS_o S 1 T (by decide))]
    exact RR_z26 h)
theorem RR_s {S : gx_S} {L : gx_L} (h : RR S L) {T : Tb} (hz : zT T) (P U : Nat → Int32) (a b : Int32) : RR (sM S T P U a b) L :=
  RR_sc h (fun i hi => sM_o S T P U a b (by omega)) (fun i h1 h2 => by unfold sM; rw [tS_o _ T (by omega), sB_o S P U a b (by omega)]) (fun i h1 h2 => sM_o S T P U a b (by omega)) (by rw [sM_o S T P U a b (by decide)]) (by rw [sM_t]; exact hz)
theorem RR_43 {S : gx_S} {L : gx_L} (h : RR S L) (f : Nat → Int32) : RR (gx_up S 43 f) L :=
  RR_sc h (fun i hi => gx_up_ne S f (by omega)) (fun i h1 h2 => gx_up_ne S f (by omega)) (fun i h1 h2 => gx_up_ne S f (by omega)) (by rw [gx_up_ne S f (by decide)]) (by
    rw [tG_e (gx_up_ne S f (by decide)) (gx_up_ne S f (by decide)) (gx_up_ne S f (by decide)) (gx_up_ne S f (by decide))]
    exact RR_z26 h)
/-- the reference's house where the class alone has worked -/
theorem mH_cc {S S' : gx_S} {ng nd : Nat} {ms gk dk sb : Nat → Int32} (hm : mH S ng nd ms gk dk sb) (h : ∀ i, 44 ≤ i → S' i = S i) : mH S' ng nd ms gk dk sb := by
  unfold mH
  rw [h 44 (by decide), h 45 (by decide), h 46 (by decide), h 47 (by decide), h 48 (by decide)]
  exact hm
/-- one call of both: alike, and related behind it -/
def Pr (M M' : gx_M) (av : List Value) (S : gx_S) (L : gx_L) : Prop := ∃ (D : Nat) (P : Int32 → gx_S → gx_L → Prop), D ≤ 20 ∧ Ci D M (.ref 0 :: av) S L P ∧ ∀ r S1 L1, P r S1 L1 → ∃ (D' : Nat) (P' : Int32 → gx_S → gx_L → Prop), D' ≤ 20 ∧ Ci D' M' (.ref 44 :: av) S1 L1 P' ∧ ∀ r' S2 L2, P' r' S2 L2 → r' = r ∧ RR S2 L2
theorem Pr_f {M M' : gx_M} {av : List Value} {S S1 S2 : gx_S} {L L1 L2 : gx_L} {D D' : Nat} {r r' : Int32} (h1 : Cf D M (.ref 0 :: av) S L r S1 L1) (h2 : Cf D' M' (.ref 44 :: av) S1 L1 r' S2 L2) (hr : r' = r) (h3 : RR S2 L2) (hD : D ≤ 20 := by decide) (hD' : D' ≤ 20 := by decide) : Pr M M' av S L := by
  refine ⟨D, _, hD, h1, fun r9 S9 L9 h9 => ?_⟩
  obtain ⟨e1, e2, e3⟩ := h9
  subst e1 e2 e3
  refine ⟨D', _, hD', h2, fun r8 S8 L8 h8 => ?_⟩
  obtain ⟨e4, e5, e6⟩ := h8
  rw [e5, e6]
  exact ⟨e4.trans hr, h3⟩
theorem oob {x a b : Int32} (h : ¬ (x < a ∨ b < x)) : ¬ x < a ∧ ¬ b < x := ⟨fun h9 => h (Or.inl h9), fun h9 => h (Or.inr h9)⟩
theorem fst_e {r : Int32} {T : Tb} {q : Int32 × Tb} (h : q = (r, T)) : q.1 = r := by rw [h]
/-! ===== write, wipe ===== -/
theorem pr_write (S : gx_S) (L : gx_L) (h : RR S L) (x : Int32) : Pr mX10_write mX11_write [.int x] S L := by
  obtain ⟨len, ng, nd, nx, sz, sn, h1, h2, h3, h4, h5, h6, h7⟩ := id h
  have k1 := x_write 0 S h1.1 h1.2.2.1 x L
  by_cases hb : x < 0 ∨ 255 < x
  · have e1 : A_write len x = -2 := by
      unfold A_write
      by_cases c : x < 0
      · rw [if_pos c]
      · rw [if_neg c, if_neg (Int32.not_le.mpr (hb.resolve_left c))]
    have e2 : M_write S len x = S := by
      unfold M_write
      by_cases c : x < 0
      · rw [if_pos c]
      · rw [if_neg c, if_neg (Int32.not_le.mpr (hb.resolve_left c))]
    rw [e1, e2] at k1
    exact Pr_f k1 (m_write0 0 S hb L) rfl h
  · have hb2 := oob hb
    have e1 : A_write len x = if len < 60 then nI (len + 1) else -4 := by
      unfold A_write
      rw [if_neg hb2.1, if_pos (Int32.not_lt.mp hb2.2)]
    have e2 : M_write S len x = if len < 60 then gx_u2 (gx_u2 S 2 len x) 1 1 (nI (len + 1)) else S := by
      unfold M_write
      rw [if_neg hb2.1, if_pos (Int32.not_lt.mp hb2.2)]
    rw [e1, e2] at k1
    by_cases hl : len < 60
    · rw [if_pos hl, if_pos hl] at k1
      have a1 : ∀ i, i ≠ 1 → i ≠ 2 → gx_u2 (gx_u2 S 2 len x) 1 1 (nI (len + 1)) i = S i := fun i i1 i2 => by rw [u2_o _ _ _ i1, u2_o _ _ _ i2]
      have k2 := m_write 0 (gx_u2 (gx_u2 S 2 len x) 1 1 (nI (len + 1))) hb2 (len := len) (by rw [a1 44 (by decide) (by decide)]; exact h1.2.1) hl L
      refine Pr_f k1 k2 rfl ?_
      obtain ⟨c, hc, rfl⟩ := nI_of2 (M := 255) (n := 255) (by decide) hb2.1 (Int32.not_lt.mp hb2.2)
      have a2 : ∀ i, i ≠ 1 → i ≠ 2 → i ≠ 44 → i ≠ 53 → gx_u2 (gx_u2 (gx_u2 (gx_u2 S 2 len (nI c)) 1 1 (nI (len + 1))) 53 len (nI c)) 44 13 (nI (len + 1)) i = S i := fun i i1 i2 i3 i4 => by rw [u2_o _ _ _ i3, u2_o _ _ _ i4, a1 i i1 i2]
      have a44 : ∀ j, j ≠ 13 → gx_u2 (gx_u2 (gx_u2 (gx_u2 S 2 len (nI c)) 1 1 (nI (len + 1))) 53 len (nI c)) 44 13 (nI (len + 1)) 44 j = S 44 j := fun j hj => by rw [u2_k _ _ _ hj, u2_o _ _ _ (by decide), a1 44 (by decide) (by decide)]
      refine ⟨len + 1, ng, nd, nx, sz, sn, ⟨?_, ?_, by omega, fun i hi => ?_, fun i hi => ?_⟩, R2_tr h2 (fun i i1 i2 => a2 i (by omega) (by omega) (by omega) (by omega)) ?_ (a44 0 (by decide)) (a44 1 (by decide)) (fun i i1 i2 => a2 i (by omega) (by omega) (by omega) (by omega)), R3_tr h3 (a2 12 (by decide) (by decide) (by decide) (by decide)) (tG_e (a2 18 (by decide) (by decide) (by decide) (by decide)) (a2 (18 + 1) (by decide) (by decide) (by decide) (by decide)) (a2 (18 + 2) (by decide) (by decide) (by decide) (by decide)) (a2 (18 + 3) (by decide) (by decide) (by decide) (by decide))) (by rw [a2 49 (by decide) (by decide) (by decide) (by decide)]) ?_ ?_, R4_tr h4 (a2 12 (by decide) (by decide) (by decide) (by decide)) (a2 30 (by decide) (by decide) (by decide) (by decide)) (a2 31 (by decide) (by decide) (by decide) (by decide)) (a2 32 (by decide) (by decide) (by decide) (by decide)) (a44 16 (by decide)) (a44 17 (by decide)) (a2 54 (by decide) (by decide) (by decide) (by decide)), R5_tr h5 (a2 12 (by decide) (by decide) (by decide) (by decide)) (a2 33 (by decide) (by decide) (by decide) (by decide)) (a2 34 (by decide) (by decide) (by decide) (by decide)) (by rw [a2 0 (by decide) (by decide) (by decide) (by decide)]) (a2 58 (by decide) (by decide) (by decide) (by decide)) (a2 59 (by decide) (by decide) (by decide) (by decide)), R6_tr h6 (a2 35 (by decide) (by decide) (by decide) (by decide)) (a2 36 (by decide) (by decide) (by decide) (by decide)) (a2 37 (by decide) (by decide) (by decide) (by decide)) (a2 38 (by decide) (by decide) (by decide) (by decide)) (a44 19 (by decide)) (a2 55 (by decide) (by decide) (by decide) (by decide)) (a2 56 (by decide) (by decide) (by decide) (by decide)) (a2 57 (by decide) (by decide) (by decide) (by decide)), h7⟩
      · rw [u2_o _ _ _ (by decide), u2_o _ _ _ (by decide), u2_at]
      · exact u2_at _ _ _ _
      · rw [u2_o _ _ _ (by decide), u2_o _ _ _ (by decide), u2_o _ _ _ (by decide), u2_o _ _ _ (show 53 ≠ 44 by decide)]
        by_cases e : i = len
        · subst e
          rw [u2_at, u2_at]
        · rw [u2_k _ _ _ e, u2_k _ _ _ e, a1 53 (by decide) (by decide)]
          exact h1.2.2.2.1 i (by omega)
      · rw [u2_o _ _ _ (show 53 ≠ 44 by decide)]
        by_cases e : i = len
        · subst e
          exact ⟨c, by omega, u2_at _ _ _ _⟩
        · rw [u2_k _ _ _ e, a1 53 (by decide) (by decide)]
          exact h1.2.2.2.2 i (by omega)
      · rw [hG_e (fun i i1 i2 => a2 i (by omega) (by omega) (by omega) (by omega))]
        exact h2.2.2.2.1
      · rw [tG_e (a2 22 (by decide) (by decide) (by decide) (by decide)) (a2 (22 + 1) (by decide) (by decide) (by decide) (by decide)) (a2 (22 + 2) (by decide) (by decide) (by decide) (by decide)) (a2 (22 + 3) (by decide) (by decide) (by decide) (by decide))]
        exact h3.2.2.2.1
      · rw [tG_e (a2 26 (by decide) (by decide) (by decide) (by decide)) (a2 (26 + 1) (by decide) (by decide) (by decide) (by decide)) (a2 (26 + 2) (by decide) (by decide) (by decide) (by decide)) (a2 (26 + 3) (by decide) (by decide) (by decide) (by decide))]
        exact h3.2.2.2.2
    · rw [if_neg hl, if_neg hl] at k1
      have e60 : len = 60 := by have := h1.2.2.1; omega
      exact Pr_f k1 (m_write1 0 S hb2 (by rw [h1.2.1, e60]) L) rfl h
