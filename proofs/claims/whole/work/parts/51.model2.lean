/-! ===== ranges ===== -/
def okT (ms : Nat → Int32) (T : Tb) : Prop := (∀ g, g < 5 → (∃ a m, T.1 g = nI a ∧ ms g = nI m ∧ a ≤ m ∧ m ≤ 9) ∧ ∃ b, T.2.1 g = nI b ∧ b ≤ 9) ∧ ∀ d, d < 4 → ∃ a, T.2.2.1 d = nI a ∧ a ≤ 9
theorem okT_c {ms : Nat → Int32} {T : Tb} (h : okT ms T) {g : Nat} (hg : g < 5) : 0 ≤ T.1 g := by
  obtain ⟨⟨a, m, h1, -, h3, h4⟩, -⟩ := h.1 g hg
  rw [h1]
  exact nI_pos' (by omega)
theorem gulp_1 : ∀ t c : Fin 10, ∃ a : Fin 10, p_gulp 1 (nI t) (nI c) = nI a ∧ a ≤ c ∧ a ≤ t := by decide +kernel
theorem gulp_2 : ∀ t c : Fin 10, ∃ a : Fin 10, p_gulp 2 (nI t) (nI c) = nI a ∧ a ≤ c ∧ a ≤ t := by decide +kernel
theorem gulp_3 : ∀ t c : Fin 10, ∃ a : Fin 10, p_gulp 3 (nI t) (nI c) = nI a ∧ a ≤ c ∧ a ≤ t := by decide +kernel
theorem gulp_n (k : Int32) {t c : Nat} (ht : t ≤ 9) (hc : c ≤ 9) : ∃ a, p_gulp k (nI t) (nI c) = nI a ∧ a ≤ c ∧ a ≤ t := by
  have conv : ∀ {kk : Int32}, (∃ a : Fin 10, p_gulp kk (nI ((⟨t, by omega⟩ : Fin 10) : Nat)) (nI ((⟨c, by omega⟩ : Fin 10) : Nat)) = nI a ∧ a ≤ (⟨c, by omega⟩ : Fin 10) ∧ a ≤ (⟨t, by omega⟩ : Fin 10)) → ∃ a, p_gulp kk (nI t) (nI c) = nI a ∧ a ≤ c ∧ a ≤ t := by
    intro kk h
    obtain ⟨a, h1, h2, h3⟩ := h
    exact ⟨a.val, h1, h2, h3⟩
  by_cases h1 : k = 1
  · subst h1; exact conv (gulp_1 _ _)
  · by_cases h2 : k = 2
    · subst h2; exact conv (gulp_2 _ _)
    · by_cases h3 : k = 3
      · subst h3; exact conv (gulp_3 _ _)
      · have e : p_gulp k (nI t) (nI c) = if nI c ≤ nI t then nI c else nI t := by
          unfold p_gulp
          rw [if_neg h1, if_neg h2, if_neg h3]
        rw [e]
        by_cases h4 : c ≤ t
        · exact ⟨c, by rw [if_pos (nI_le h4 (by omega))], Nat.le_refl _, h4⟩
        · exact ⟨t, by rw [if_neg (nI_ge (by omega) (by omega))], by omega, Nat.le_refl _⟩
theorem okT_sw {ms dk : Nat → Int32} {T : Tb} {d g : Nat} (h : okT ms T) (hd : d < 4) (hg : g < 5) : okT ms (p_swT dk T d g) := by
  obtain ⟨⟨a, m, ha, hm, ham, hm9⟩, hage⟩ := h.1 g hg
  obtain ⟨t, ht, ht9⟩ := h.2 d hd
  obtain ⟨v, hv, hva, hvt⟩ := gulp_n (dk d) ht9 (show a ≤ 9 by omega)
  have hsw : p_sw dk T d g = nI v := by unfold p_sw; rw [ht, ha]; exact hv
  refine ⟨fun j hj => ⟨?_, (h.1 j hj).2⟩, fun j hj => ?_⟩
  · by_cases e : j = g
    · subst e
      exact ⟨a - v, m, by show upd T.1 j (T.1 j - p_sw dk T d j) j = _; rw [upd_at, ha, hsw, nI_sub hva], hm, by omega, hm9⟩
    · obtain ⟨a', m', h1, h2⟩ := (h.1 j hj).1
      exact ⟨a', m', (upd_ne _ _ e).trans h1, h2⟩
  · by_cases e : j = d
    · subst e
      exact ⟨t - v, by show upd T.2.2.1 j (T.2.2.1 j - p_sw dk T j g) j = _; rw [upd_at, ht, hsw, nI_sub hvt], by omega⟩
    · obtain ⟨a', h1, h2⟩ := h.2 j hj
      exact ⟨a', (upd_ne _ _ e).trans h1, h2⟩
theorem okT_aroundN {ms dk sb : Nat → Int32} {T : Tb} {d : Nat} (h : okT ms T) (hd : d < 4) : ∀ n, n ≤ 5 → okT ms (p_aroundN dk sb T d n)
  | 0, _ => h
  | n + 1, hn => by
    unfold p_aroundN
    split
    · exact okT_sw (okT_aroundN h hd n (by omega)) hd (by omega)
    · exact okT_aroundN h hd n (by omega)
theorem okT_evN {ms dk sb : Nat → Int32} {so : Int32} {T : Tb} (h : okT ms T) : ∀ n, n ≤ 4 → okT ms (p_evN dk sb so T n)
  | 0, _ => h
  | n + 1, hn => by
    unfold p_evN
    split
    · exact okT_aroundN (okT_evN h n (by omega)) (by omega) 5 (Nat.le_refl 5)
    · exact okT_evN h n (by omega)
theorem okT_ev {ms dk sb : Nat → Int32} {so : Int32} {T : Tb} (h : okT ms T) : okT ms (p_ev dk sb so T) := okT_evN h 4 (Nat.le_refl 4)
/-! ===== who is not there changes nothing ===== -/
theorem around_ng {dk sb : Nat → Int32} {T : Tb} {d ng : Nat} (hz : ∀ g, ng ≤ g → bt (sb d) g = false) : ∀ k, p_aroundN dk sb T d (ng + k) = p_aroundN dk sb T d ng
  | 0 => rfl
  | k + 1 => by
    show (if bt (sb d) (ng + k) = true then _ else _) = _
    rw [hz (ng + k) (by omega), if_neg (by decide)]
    exact around_ng hz k
theorem around_no {dk sb : Nat → Int32} {T : Tb} {d : Nat} (hz : ∀ g, bt (sb d) g = false) : ∀ n, p_aroundN dk sb T d n = T
  | 0 => rfl
  | n + 1 => by
    show (if bt (sb d) n = true then _ else _) = _
    rw [hz n, if_neg (by decide)]
    exact around_no hz n
theorem ev_ndn {dk sb : Nat → Int32} {so : Int32} {T : Tb} {nd : Nat} (hz : ∀ d g, nd ≤ d → bt (sb d) g = false) : ∀ k, p_evN dk sb so T (nd + k) = p_evN dk sb so T nd
  | 0 => rfl
  | k + 1 => by
    show (if bt so (nd + k) = true then p_around dk sb (p_evN dk sb so T (nd + k)) (nd + k) else p_evN dk sb so T (nd + k)) = _
    rw [show p_around dk sb (p_evN dk sb so T (nd + k)) (nd + k) = p_evN dk sb so T (nd + k) from around_no (fun g => hz _ g (by omega)) 5, ite_self]
    exact ev_ndn hz k
/-- the reference's house, as numbers that the class has too -/
def mH (S : gx_S) (ng nd : Nat) (ms gk dk sb : Nat → Int32) : Prop := S 44 0 = nI ng ∧ ng ≤ 5 ∧ S 44 1 = nI nd ∧ nd ≤ 4 ∧ (∀ g, g < ng → S 45 g = ms g ∧ S 46 g = gk g) ∧ (∀ d, d < nd → S 47 d = dk d ∧ S 48 d = sb d) ∧ (∀ g, ng ≤ g → ms g = 0 ∧ gk g = 0) ∧ (∀ d g, (ng ≤ g ∨ nd ≤ d) → bt (sb d) g = false)
theorem mH_nS {S : gx_S} {ng nd : Nat} {ms gk dk sb : Nat → Int32} (h : mH S ng nd ms gk dk sb) (lv : Nat) (T : Tb) : mH (nS S lv T) ng nd ms gk dk sb := by
  unfold mH
  rw [nS_o S lv T (show 44 ≠ 49 by decide), nS_o S lv T (show 45 ≠ 49 by decide), nS_o S lv T (show 46 ≠ 49 by decide), nS_o S lv T (show 47 ≠ 49 by decide), nS_o S lv T (show 48 ≠ 49 by decide)]
  exact h
theorem m_drinkH (d : Nat) {lv dr g : Nat} (hl : lv ≤ 1) (hd : dr < 4) (hg : g < 5) (S : gx_S) (T : Tb) {dk : Nat → Int32} (hk : S 47 dr = dk dr) (hc : 0 ≤ T.1 g) (L : gx_L) : Cf (d + 1) mX11_drinkOn [.ref 44, .int (nI lv), .int (nI dr), .int (nI g)] (nS S lv T) L (p_sw dk T dr g) (nS S lv (p_swT dk T dr g)) L := by
  have h := m_drinkOn d hl hd hg S T hc L
  have e1 : p_sw (S 47) T dr g = p_sw dk T dr g := by unfold p_sw; rw [hk]
  have e2 : p_swT (S 47) T dr g = p_swT dk T dr g := by unfold p_swT; rw [e1]
  rw [e1, e2] at h
  exact h
set_option maxRecDepth 10000 in
theorem ml_sit (d : Nat) (S : gx_S) {ng nd : Nat} {ms gk dk sb : Nat → Int32} (hm : mH S ng nd ms gk dk sb) {lv dr : Nat} (hl : lv ≤ 1) (hd : dr < nd) (T : Tb) (hT : okT ms T) (L : gx_L) {Q : Option Value → gx_S → gx_L → Prop}  (kk : Ev mX11_sitOn (d + 2) 37 [some (.ref 44), some (.int (nI lv)), some (.int (nI dr)), some (.int (nI (ng)))] [] (nS S lv (p_aroundN dk sb T dr (ng))) L Q) : ∀ (nn i : Nat), i + nn = ng → Ev mX11_sitOn (d + 2) 2 [some (.ref 44), some (.int (nI lv)), some (.int (nI dr)), some (.int (nI (i)))] [] (nS S lv (p_aroundN dk sb T dr (i))) L Q := by
  intro nn
  induction nn with
  | zero =>
    intro i hi
    obtain rfl : i = ng := hi
    have h59 := hm.2.1
    have h49 := hm.2.2.2.1
    refine ev_ild3 dX11_sitOn_2 ?_
    refine ev_ald0 dX11_sitOn_3 ?_
    refine ev_geti dX11_sitOn_4 fl_X11_56 rfl ?_
    refine ev_icmp_ge_t 37 dX11_sitOn_7 (by decide) (by rw [nS_o S lv _ (by decide), hm.1]; exact nI_le (Nat.le_refl _) (by have := hm.2.1; omega)) ?_
    exact kk
  | succ nn ih =>
    intro i hi
    have h59 := hm.2.1
    have h49 := hm.2.2.2.1
    have hdd := hm.2.2.2.2.2.1 dr hd
    refine ev_ild3 dX11_sitOn_2 ?_
    refine ev_ald0 dX11_sitOn_3 ?_
    refine ev_geti dX11_sitOn_4 fl_X11_56 rfl ?_
    refine ev_icmp_ge_f 37 dX11_sitOn_7 (by decide) (by rw [nS_o S lv _ (by decide), hm.1]; exact nI_ge (by omega) (by have := hm.2.1; omega)) ?_
    refine ev_ald0 dX11_sitOn_10 ?_
    refine ev_getr (r := 48) dX11_sitOn_11 fl_X11_19 rfl ?_
    refine ev_ild2 dX11_sitOn_14 ?_
    refine ev_iald' dX11_sitOn_15 rfl (by omega) (by decide) ?_
    rw [nS_o S lv _ (by decide), hdd.2]
    refine ev_ild3 dX11_sitOn_16 ?_
    refine ev_S2i (M' := mX11_has) dX11_sitOn_17 lk_X11_77 sX11_has (m_has (d + 1) _ _ _ _) (Nat.le_refl _) (Nat.le_of_ble_eq_true rfl) ?_
    refine ev_if_eq 31 dX11_sitOn_20 (by decide) (fun c_20 => ?_) (fun c_20 => ?_)
    · have b_20 := gx_b_n.mp c_20
      refine ev_inc3 dX11_sitOn_31 (nI_inc _) ?_
      refine ev_goto 2 dX11_sitOn_34 (by decide) ?_
      have e := ih (i + 1) (by omega)
      simp only [p_aroundN, if_neg b_20, ite_self] at e
      exact e
    · have b_20 := gx_b_y.mp c_20
      refine ev_ald0 dX11_sitOn_23 ?_
      refine ev_ild1 dX11_sitOn_24 ?_
      refine ev_ild2 dX11_sitOn_25 ?_
      refine ev_ild3 dX11_sitOn_26 ?_
      refine ev_V3i (M' := mX11_drinkOn) dX11_sitOn_27 lk_X11_115 vX11_drinkOn rfl (m_drinkH d hl (by omega) (by omega) S _ hdd.1 (okT_c (okT_aroundN hT (by omega) i (by omega)) (by omega)) L) (Nat.le_refl _) (Nat.le_of_ble_eq_true rfl) ?_
      refine ev_popi dX11_sitOn_30 ?_
      refine ev_inc3 dX11_sitOn_31 (nI_inc _) ?_
      refine ev_goto 2 dX11_sitOn_34 (by decide) ?_
      have e := ih (i + 1) (by omega)
      simp only [p_aroundN, if_pos b_20, ite_self] at e
      exact e
set_option maxRecDepth 10000 in
theorem m_sitOn (d : Nat) (S : gx_S) {ng nd : Nat} {ms gk dk sb : Nat → Int32} (hm : mH S ng nd ms gk dk sb) {lv dr : Nat} (hl : lv ≤ 1) (hd : dr < nd) (T : Tb) (hT : okT ms T) (L : gx_L) : Cw (d + 2) mX11_sitOn [.ref 44, .int (nI lv), .int (nI dr)] (nS S lv T) L (nS S lv (p_around dk sb T dr)) L := by
  refine ct_intro (loc := [some (.ref 44), some (.int (nI lv)), some (.int (nI dr)), none]) (by decide) (Nat.le_of_ble_eq_true rfl) rfl ?_
  refine ev_iconst (v := 0) dX11_sitOn_0 (by decide) ?_
  refine ev_ist3 dX11_sitOn_1 ?_
  have l9 := ml_sit d S hm hl hd T hT L (Q := fun v S1 L1 => v = none ∧ S1 = nS S lv (p_around dk sb T dr) ∧ L1 = L) ?_ ng 0 (Nat.zero_add _)
  · exact l9
  · refine ev_vret dX11_sitOn_37 ?_
    refine ⟨rfl, ?_, rfl⟩
    have h59 := hm.2.1
    have e9 := around_ng (dk := dk) (sb := sb) (T := T) (d := dr) (ng := ng) (fun g h => hm.2.2.2.2.2.2.2 dr g (Or.inl h)) (5 - ng)
    rw [show ng + (5 - ng) = 5 by omega] at e9
    exact congrArg (nS S lv) e9.symm
set_option maxRecDepth 10000 in
theorem ml_ev (d : Nat) (S : gx_S) {ng nd : Nat} {ms gk dk sb : Nat → Int32} (hm : mH S ng nd ms gk dk sb) {lv : Nat} (hl : lv ≤ 1) (so : Int32) (T : Tb) (hT : okT ms T) (L : gx_L) {Q : Option Value → gx_S → gx_L → Prop}  (kk : Ev mX11_eveningOn (d + 3) 30 [some (.ref 44), some (.int (nI lv)), some (.int so), some (.int (nI (nd)))] [] (nS S lv (p_evN dk sb so T (nd))) L Q) : ∀ (nn i : Nat), i + nn = nd → Ev mX11_eveningOn (d + 3) 2 [some (.ref 44), some (.int (nI lv)), some (.int so), some (.int (nI (i)))] [] (nS S lv (p_evN dk sb so T (i))) L Q := by
  intro nn
  induction nn with
  | zero =>
    intro i hi
    obtain rfl : i = nd := hi
    refine ev_ild3 dX11_eveningOn_2 ?_
    refine ev_ald0 dX11_eveningOn_3 ?_
    refine ev_geti dX11_eveningOn_4 fl_X11_105 rfl ?_
    refine ev_icmp_ge_t 30 dX11_eveningOn_7 (by decide) (by rw [nS_o S lv _ (by decide), hm.2.2.1]; exact nI_le (Nat.le_refl _) (by have := hm.2.2.2.1; omega)) ?_
    exact kk
  | succ nn ih =>
    intro i hi
    have h49 := hm.2.2.2.1
    refine ev_ild3 dX11_eveningOn_2 ?_
    refine ev_ald0 dX11_eveningOn_3 ?_
    refine ev_geti dX11_eveningOn_4 fl_X11_105 rfl ?_
    refine ev_icmp_ge_f 30 dX11_eveningOn_7 (by decide) (by rw [nS_o S lv _ (by decide), hm.2.2.1]; exact nI_ge (by omega) (by have := hm.2.2.2.1; omega)) ?_
    refine ev_ild2 dX11_eveningOn_10 ?_
    refine ev_ild3 dX11_eveningOn_11 ?_
    refine ev_S2i (M' := mX11_has) dX11_eveningOn_12 lk_X11_77 sX11_has (m_has (d + 2) _ _ _ _) (Nat.le_refl _) (Nat.le_of_ble_eq_true rfl) ?_
    refine ev_if_eq 24 dX11_eveningOn_15 (by decide) (fun c_15 => ?_) (fun c_15 => ?_)
    · have b_15 := gx_b_n.mp c_15
      refine ev_inc3 dX11_eveningOn_24 (nI_inc _) ?_
      refine ev_goto 2 dX11_eveningOn_27 (by decide) ?_
      have e := ih (i + 1) (by omega)
      simp only [p_evN, if_neg b_15, ite_self] at e
      exact e
    · have b_15 := gx_b_y.mp c_15
      refine ev_ald0 dX11_eveningOn_18 ?_
      refine ev_ild1 dX11_eveningOn_19 ?_
      refine ev_ild3 dX11_eveningOn_20 ?_
      refine ev_V2v (M' := mX11_sitOn) dX11_eveningOn_21 lk_X11_118 vX11_sitOn rfl (m_sitOn d S hm hl (by omega) _ (okT_evN hT i (by omega)) L) (Nat.le_refl _) (Nat.le_of_ble_eq_true rfl) ?_
      refine ev_inc3 dX11_eveningOn_24 (nI_inc _) ?_
      refine ev_goto 2 dX11_eveningOn_27 (by decide) ?_
      have e := ih (i + 1) (by omega)
      simp only [p_evN, if_pos b_15, ite_self] at e
      exact e
set_option maxRecDepth 10000 in
theorem m_eveningOn (d : Nat) (S : gx_S) {ng nd : Nat} {ms gk dk sb : Nat → Int32} (hm : mH S ng nd ms gk dk sb) {lv : Nat} (hl : lv ≤ 1) (so : Int32) (T : Tb) (hT : okT ms T) (L : gx_L) : Cw (d + 3) mX11_eveningOn [.ref 44, .int (nI lv), .int so] (nS S lv T) L (nS S lv (p_ev dk sb so T)) L := by
  refine ct_intro (loc := [some (.ref 44), some (.int (nI lv)), some (.int so), none]) (by decide) (Nat.le_of_ble_eq_true rfl) rfl ?_
  refine ev_iconst (v := 0) dX11_eveningOn_0 (by decide) ?_
  refine ev_ist3 dX11_eveningOn_1 ?_
  have l9 := ml_ev d S hm hl so T hT L (Q := fun v S1 L1 => v = none ∧ S1 = nS S lv (p_ev dk sb so T) ∧ L1 = L) ?_ nd 0 (Nat.zero_add _)
  · exact l9
  · refine ev_vret dX11_eveningOn_30 ?_
    refine ⟨rfl, ?_, rfl⟩
    have h49 := hm.2.2.2.1
    have e9 := ev_ndn (dk := dk) (sb := sb) (so := so) (T := T) (nd := nd) (fun d9 g h => hm.2.2.2.2.2.2.2 d9 g (Or.inr h)) (4 - nd)
    rw [show nd + (4 - nd) = 4 by omega] at e9
    exact congrArg (nS S lv) e9.symm
def q_t1 (m c v : Int32) : Int32 := if 0 < v then (if 2 * c < m then v else v + 2) else 0
def q_tax (kind m c age : Int32) : Int32 := if age < 3 then (if kind = 3 then q_t1 m c (c - 2) else q_t1 m c (c - 0)) else (if kind = 3 then q_t1 m c (0 - 2) else q_t1 m c (0 - 0))
theorem q_t1_eq (m c v : Int32) : (if ¬ (if 0 < v then v else 0) ≤ 0 ∧ ¬ 2 * c < m then (if 0 < v then v else 0) + 2 else (if 0 < v then v else 0)) = q_t1 m c v := by
  unfold q_t1
  by_cases h : 0 < v
  · rw [if_pos h, if_pos h]
    by_cases h2 : 2 * c < m
    · rw [if_pos h2, if_neg (fun h9 => h9.2 h2)]
    · rw [if_neg h2, if_pos ⟨Int32.not_le.mpr h, h2⟩]
  · rw [if_neg h, if_neg h, if_neg (fun h9 => h9.1 (Int32.le_refl 0))]
theorem tax_eq (kind m c age : Int32) (hc : 0 ≤ c) : q_tax kind m c age = p_tax kind m c age := by
  have key : ∀ v : Int32, 0 ≤ v → (if 0 < v then v else 0) = v := by
    intro v hv
    by_cases h : 0 < v
    · rw [if_pos h]
    · rw [if_neg h]
      exact Int32.le_antisymm hv (Int32.not_lt.mp h)
  unfold q_tax p_tax
  by_cases h1 : age < 3
  · rw [if_pos h1]
    simp only [if_pos h1]
    by_cases h2 : kind = 3
    · rw [if_pos h2]
      simp only [if_pos h2]
      exact (q_t1_eq m c (c - 2)).symm
    · rw [if_neg h2]
      simp only [if_neg h2]
      rw [Int32.sub_zero]
      have e := q_t1_eq m c c
      rw [key c hc] at e
      exact e.symm
  · rw [if_neg h1]
    simp only [if_neg h1]
    by_cases h2 : kind = 3
    · rw [if_pos h2]
      simp only [if_pos h2]
      exact (q_t1_eq m c (0 - 2)).symm
    · rw [if_neg h2]
      simp only [if_neg h2]
      have e := q_t1_eq m c 0
      rw [key 0 (Int32.le_refl 0)] at e
      exact e.symm
set_option maxRecDepth 10000 in
theorem m_taxOn (d : Nat) (S : gx_S) {ng nd : Nat} {ms gk dk sb : Nat → Int32} (hm : mH S ng nd ms gk dk sb) {lv g : Nat} (hl : lv ≤ 1) (hg : g < ng) (T : Tb) (hc : 0 ≤ T.1 g) (L : gx_L) : Cf d mX11_taxOn [.ref 44, .int (nI lv), .int (nI g)] (nS S lv T) L (p_tax (gk g) (ms g) (T.1 g) (T.2.1 g)) (nS S lv T) L := by
  refine ct_intro (loc := [some (.ref 44), some (.int (nI lv)), some (.int (nI g)), none, none]) (by decide) (Nat.le_of_ble_eq_true rfl) rfl ?_
  have h59 := hm.2.1
  have hgg := hm.2.2.2.2.1 g hg
  rw [← tax_eq _ _ _ _ hc]
  refine ev_ald0 dX11_taxOn_0 ?_
  refine ev_getr (r := 49) dX11_taxOn_1 fl_X11_22 rfl ?_
  refine ev_bipush (v := 15) dX11_taxOn_4 (by decide) ?_
  refine ev_ild1 dX11_taxOn_6 ?_
  refine ev_imul dX11_taxOn_7 ?_
  rw [m15]
  refine ev_ild2 dX11_taxOn_8 ?_
  refine ev_iadd dX11_taxOn_9 ?_
  refine ev_iald2 (j := 15 * lv + g) dX11_taxOn_10 rfl (ix2 _ _) (by omega) (by first | decide | omega) ?_
  rw [nS_c S lv T (by omega)]
  refine ev_ist3 dX11_taxOn_11 ?_
  refine ev_ald0 dX11_taxOn_12 ?_
  refine ev_getr (r := 49) dX11_taxOn_13 fl_X11_22 rfl ?_
  refine ev_bipush (v := 15) dX11_taxOn_16 (by decide) ?_
  refine ev_ild1 dX11_taxOn_18 ?_
  refine ev_imul dX11_taxOn_19 ?_
  rw [m15]
  refine ev_iconst (v := 5) dX11_taxOn_20 (by decide) ?_
  refine ev_iadd dX11_taxOn_21 ?_
  refine ev_ild2 dX11_taxOn_22 ?_
  refine ev_iadd dX11_taxOn_23 ?_
  refine ev_iald2 (j := 15 * lv + 5 + g) dX11_taxOn_24 rfl (ix3 _ 5 _) (by omega) (by first | decide | omega) ?_
  rw [nS_a S lv T (by omega)]
  refine ev_iconst (v := 3) dX11_taxOn_25 (by decide) ?_
  refine ev_icmp_lt 33 dX11_taxOn_26 (by decide) (fun c_26 => ?_) (fun c_26 => ?_)
  · refine ev_ild3 dX11_taxOn_33 ?_
    refine ev_ist4 dX11_taxOn_34 ?_
    refine ev_ild4 dX11_taxOn_36 ?_
    refine ev_ald0 dX11_taxOn_38 ?_
    refine ev_getr (r := 46) dX11_taxOn_39 fl_X11_13 rfl ?_
    refine ev_ild2 dX11_taxOn_42 ?_
    refine ev_iald' dX11_taxOn_43 rfl (by omega) (by decide) ?_
    rw [nS_o S lv T (by decide), hgg.2]
    refine ev_iconst (v := 3) dX11_taxOn_44 (by decide) ?_
    refine ev_icmp_ne 52 dX11_taxOn_45 (by decide) (fun c_45 => ?_) (fun c_45 => ?_)
    · refine ev_iconst (v := 0) dX11_taxOn_52 (by decide) ?_
      refine ev_isub dX11_taxOn_53 ?_
      refine ev_ist4 dX11_taxOn_54 ?_
      refine ev_ild4 dX11_taxOn_56 ?_
      refine ev_if_gt 63 dX11_taxOn_58 (by decide) (fun c_58 => ?_) (fun c_58 => ?_)
      · refine ev_iconst (v := 2) dX11_taxOn_63 (by decide) ?_
        refine ev_ild3 dX11_taxOn_64 ?_
        refine ev_imul dX11_taxOn_65 ?_
        refine ev_ald0 dX11_taxOn_66 ?_
        refine ev_getr (r := 45) dX11_taxOn_67 fl_X11_7 rfl ?_
        refine ev_ild2 dX11_taxOn_70 ?_
        refine ev_iald' dX11_taxOn_71 rfl (by omega) (by decide) ?_
        rw [nS_o S lv T (by decide), hgg.1]
        refine ev_icmp_lt 82 dX11_taxOn_72 (by decide) (fun c_72 => ?_) (fun c_72 => ?_)
        · refine ev_ild4 dX11_taxOn_82 ?_
          refine ev_iret dX11_taxOn_84 ?_
          exact ⟨_, rfl, ((if_pos c_26).trans ((if_neg c_45).trans ((if_pos c_58).trans (if_pos c_72)))).symm, rfl, rfl⟩
        · refine ev_ild4 dX11_taxOn_75 ?_
          refine ev_iconst (v := 2) dX11_taxOn_77 (by decide) ?_
          refine ev_iadd dX11_taxOn_78 ?_
          refine ev_goto 84 dX11_taxOn_79 (by decide) ?_
          refine ev_iret dX11_taxOn_84 ?_
          exact ⟨_, rfl, ((if_pos c_26).trans ((if_neg c_45).trans ((if_pos c_58).trans (if_neg c_72)))).symm, rfl, rfl⟩
      · refine ev_iconst (v := 0) dX11_taxOn_61 (by decide) ?_
        refine ev_iret dX11_taxOn_62 ?_
        exact ⟨_, rfl, ((if_pos c_26).trans ((if_neg c_45).trans (if_neg c_58))).symm, rfl, rfl⟩
    · refine ev_iconst (v := 2) dX11_taxOn_48 (by decide) ?_
      refine ev_goto 53 dX11_taxOn_49 (by decide) ?_
      refine ev_isub dX11_taxOn_53 ?_
      refine ev_ist4 dX11_taxOn_54 ?_
      refine ev_ild4 dX11_taxOn_56 ?_
      refine ev_if_gt 63 dX11_taxOn_58 (by decide) (fun c_58 => ?_) (fun c_58 => ?_)
      · refine ev_iconst (v := 2) dX11_taxOn_63 (by decide) ?_
        refine ev_ild3 dX11_taxOn_64 ?_
        refine ev_imul dX11_taxOn_65 ?_
        refine ev_ald0 dX11_taxOn_66 ?_
        refine ev_getr (r := 45) dX11_taxOn_67 fl_X11_7 rfl ?_
        refine ev_ild2 dX11_taxOn_70 ?_
        refine ev_iald' dX11_taxOn_71 rfl (by omega) (by decide) ?_
        rw [nS_o S lv T (by decide), hgg.1]
        refine ev_icmp_lt 82 dX11_taxOn_72 (by decide) (fun c_72 => ?_) (fun c_72 => ?_)
        · refine ev_ild4 dX11_taxOn_82 ?_
          refine ev_iret dX11_taxOn_84 ?_
          exact ⟨_, rfl, ((if_pos c_26).trans ((if_pos c_45).trans ((if_pos c_58).trans (if_pos c_72)))).symm, rfl, rfl⟩
        · refine ev_ild4 dX11_taxOn_75 ?_
          refine ev_iconst (v := 2) dX11_taxOn_77 (by decide) ?_
          refine ev_iadd dX11_taxOn_78 ?_
          refine ev_goto 84 dX11_taxOn_79 (by decide) ?_
          refine ev_iret dX11_taxOn_84 ?_
          exact ⟨_, rfl, ((if_pos c_26).trans ((if_pos c_45).trans ((if_pos c_58).trans (if_neg c_72)))).symm, rfl, rfl⟩
      · refine ev_iconst (v := 0) dX11_taxOn_61 (by decide) ?_
        refine ev_iret dX11_taxOn_62 ?_
        exact ⟨_, rfl, ((if_pos c_26).trans ((if_pos c_45).trans (if_neg c_58))).symm, rfl, rfl⟩
  · refine ev_iconst (v := 0) dX11_taxOn_29 (by decide) ?_
    refine ev_goto 34 dX11_taxOn_30 (by decide) ?_
    refine ev_ist4 dX11_taxOn_34 ?_
    refine ev_ild4 dX11_taxOn_36 ?_
    refine ev_ald0 dX11_taxOn_38 ?_
    refine ev_getr (r := 46) dX11_taxOn_39 fl_X11_13 rfl ?_
    refine ev_ild2 dX11_taxOn_42 ?_
    refine ev_iald' dX11_taxOn_43 rfl (by omega) (by decide) ?_
    rw [nS_o S lv T (by decide), hgg.2]
    refine ev_iconst (v := 3) dX11_taxOn_44 (by decide) ?_
    refine ev_icmp_ne 52 dX11_taxOn_45 (by decide) (fun c_45 => ?_) (fun c_45 => ?_)
    · refine ev_iconst (v := 0) dX11_taxOn_52 (by decide) ?_
      refine ev_isub dX11_taxOn_53 ?_
      refine ev_ist4 dX11_taxOn_54 ?_
      refine ev_ild4 dX11_taxOn_56 ?_
      refine ev_if_gt 63 dX11_taxOn_58 (by decide) (fun c_58 => ?_) (fun c_58 => ?_)
      · refine ev_iconst (v := 2) dX11_taxOn_63 (by decide) ?_
        refine ev_ild3 dX11_taxOn_64 ?_
        refine ev_imul dX11_taxOn_65 ?_
        refine ev_ald0 dX11_taxOn_66 ?_
        refine ev_getr (r := 45) dX11_taxOn_67 fl_X11_7 rfl ?_
        refine ev_ild2 dX11_taxOn_70 ?_
        refine ev_iald' dX11_taxOn_71 rfl (by omega) (by decide) ?_
        rw [nS_o S lv T (by decide), hgg.1]
        refine ev_icmp_lt 82 dX11_taxOn_72 (by decide) (fun c_72 => ?_) (fun c_72 => ?_)
        · refine ev_ild4 dX11_taxOn_82 ?_
          refine ev_iret dX11_taxOn_84 ?_
          exact ⟨_, rfl, ((if_neg c_26).trans ((if_neg c_45).trans ((if_pos c_58).trans (if_pos c_72)))).symm, rfl, rfl⟩
        · refine ev_ild4 dX11_taxOn_75 ?_
          refine ev_iconst (v := 2) dX11_taxOn_77 (by decide) ?_
          refine ev_iadd dX11_taxOn_78 ?_
          refine ev_goto 84 dX11_taxOn_79 (by decide) ?_
          refine ev_iret dX11_taxOn_84 ?_
          exact ⟨_, rfl, ((if_neg c_26).trans ((if_neg c_45).trans ((if_pos c_58).trans (if_neg c_72)))).symm, rfl, rfl⟩
      · refine ev_iconst (v := 0) dX11_taxOn_61 (by decide) ?_
        refine ev_iret dX11_taxOn_62 ?_
        exact ⟨_, rfl, ((if_neg c_26).trans ((if_neg c_45).trans (if_neg c_58))).symm, rfl, rfl⟩
    · refine ev_iconst (v := 2) dX11_taxOn_48 (by decide) ?_
      refine ev_goto 53 dX11_taxOn_49 (by decide) ?_
      refine ev_isub dX11_taxOn_53 ?_
      refine ev_ist4 dX11_taxOn_54 ?_
      refine ev_ild4 dX11_taxOn_56 ?_
      refine ev_if_gt 63 dX11_taxOn_58 (by decide) (fun c_58 => ?_) (fun c_58 => ?_)
      · refine ev_iconst (v := 2) dX11_taxOn_63 (by decide) ?_
        refine ev_ild3 dX11_taxOn_64 ?_
        refine ev_imul dX11_taxOn_65 ?_
        refine ev_ald0 dX11_taxOn_66 ?_
        refine ev_getr (r := 45) dX11_taxOn_67 fl_X11_7 rfl ?_
        refine ev_ild2 dX11_taxOn_70 ?_
        refine ev_iald' dX11_taxOn_71 rfl (by omega) (by decide) ?_
        rw [nS_o S lv T (by decide), hgg.1]
        refine ev_icmp_lt 82 dX11_taxOn_72 (by decide) (fun c_72 => ?_) (fun c_72 => ?_)
        · refine ev_ild4 dX11_taxOn_82 ?_
          refine ev_iret dX11_taxOn_84 ?_
          exact ⟨_, rfl, ((if_neg c_26).trans ((if_pos c_45).trans ((if_pos c_58).trans (if_pos c_72)))).symm, rfl, rfl⟩
        · refine ev_ild4 dX11_taxOn_75 ?_
          refine ev_iconst (v := 2) dX11_taxOn_77 (by decide) ?_
          refine ev_iadd dX11_taxOn_78 ?_
          refine ev_goto 84 dX11_taxOn_79 (by decide) ?_
          refine ev_iret dX11_taxOn_84 ?_
          exact ⟨_, rfl, ((if_neg c_26).trans ((if_pos c_45).trans ((if_pos c_58).trans (if_neg c_72)))).symm, rfl, rfl⟩
      · refine ev_iconst (v := 0) dX11_taxOn_61 (by decide) ?_
        refine ev_iret dX11_taxOn_62 ?_
        exact ⟨_, rfl, ((if_neg c_26).trans ((if_pos c_45).trans (if_neg c_58))).symm, rfl, rfl⟩
theorem p_tax0 (a : Int32) : p_tax 0 0 0 a = 0 := by
  unfold p_tax
  by_cases h : a < 3
  · simp only [if_pos h]; decide
  · simp only [if_neg h]; decide
theorem okT_0 {ms : Nat → Int32} {T : Tb} (h : okT ms T) {g : Nat} (hg : g < 5) (hm : ms g = 0) : T.1 g = 0 := by
  obtain ⟨⟨a, m, h1, h2, h3, h4⟩, -⟩ := h.1 g hg
  have : m = 0 := (nI_eq (by omega) (by decide)).mp (h2.symm.trans hm)
  rw [h1, show a = 0 by omega]
  rfl
theorem taxes_ng {gk ms : Nat → Int32} {T : Tb} {ng : Nat} (hT : okT ms T) (hz : ∀ g, ng ≤ g → ms g = 0 ∧ gk g = 0) : ∀ k, ng + k ≤ 5 → p_taxesN gk ms T.1 T.2.1 (ng + k) = p_taxesN gk ms T.1 T.2.1 ng
  | 0, _ => rfl
  | k + 1, hk => by
    show p_taxesN gk ms T.1 T.2.1 (ng + k) + p_tax (gk (ng + k)) (ms (ng + k)) (T.1 (ng + k)) (T.2.1 (ng + k)) = _
    rw [(hz (ng + k) (by omega)).1, (hz (ng + k) (by omega)).2, okT_0 hT (show ng + k < 5 by omega) (hz (ng + k) (by omega)).1, p_tax0, Int32.add_zero]
    exact taxes_ng hT hz k (by omega)
set_option maxRecDepth 10000 in
theorem ml_taxes (d : Nat) (S : gx_S) {ng nd : Nat} {ms gk dk sb : Nat → Int32} (hm : mH S ng nd ms gk dk sb) {lv : Nat} (hl : lv ≤ 1) (T : Tb) (hT : okT ms T) (L : gx_L) {Q : Option Value → gx_S → gx_L → Prop}  (kk : Ev mX11_taxes (d + 1) 27 [some (.ref 44), some (.int (nI lv)), some (.int (p_taxesN gk ms T.1 T.2.1 (ng))), some (.int (nI (ng)))] [] (nS S lv T) L Q) : ∀ (nn i : Nat), i + nn = ng → Ev mX11_taxes (d + 1) 4 [some (.ref 44), some (.int (nI lv)), some (.int (p_taxesN gk ms T.1 T.2.1 (i))), some (.int (nI (i)))] [] (nS S lv T) L Q := by
  intro nn
  induction nn with
  | zero =>
    intro i hi
    obtain rfl : i = ng := hi
    refine ev_ild3 dX11_taxes_4 ?_
    refine ev_ald0 dX11_taxes_5 ?_
    refine ev_geti dX11_taxes_6 fl_X11_56 rfl ?_
    refine ev_icmp_ge_t 27 dX11_taxes_9 (by decide) (by rw [nS_o S lv _ (by decide), hm.1]; exact nI_le (Nat.le_refl _) (by have := hm.2.1; omega)) ?_
    exact kk
  | succ nn ih =>
    intro i hi
    have h59 := hm.2.1
    refine ev_ild3 dX11_taxes_4 ?_
    refine ev_ald0 dX11_taxes_5 ?_
    refine ev_geti dX11_taxes_6 fl_X11_56 rfl ?_
    refine ev_icmp_ge_f 27 dX11_taxes_9 (by decide) (by rw [nS_o S lv _ (by decide), hm.1]; exact nI_ge (by omega) (by have := hm.2.1; omega)) ?_
    refine ev_ild2 dX11_taxes_12 ?_
    refine ev_ald0 dX11_taxes_13 ?_
    refine ev_ild1 dX11_taxes_14 ?_
    refine ev_ild3 dX11_taxes_15 ?_
    refine ev_V2i (M' := mX11_taxOn) dX11_taxes_16 lk_X11_122 vX11_taxOn rfl (m_taxOn d S hm hl (by omega) T (okT_c hT (by omega)) L) (Nat.le_refl _) (Nat.le_of_ble_eq_true rfl) ?_
    refine ev_iadd dX11_taxes_19 ?_
    refine ev_ist2 dX11_taxes_20 ?_
    refine ev_inc3 dX11_taxes_21 (nI_inc _) ?_
    refine ev_goto 4 dX11_taxes_24 (by decide) ?_
    exact ih (i + 1) (by omega)
set_option maxRecDepth 10000 in
theorem m_taxes (d : Nat) (S : gx_S) {ng nd : Nat} {ms gk dk sb : Nat → Int32} (hm : mH S ng nd ms gk dk sb) {lv : Nat} (hl : lv ≤ 1) (T : Tb) (hT : okT ms T) (L : gx_L) : Cf (d + 1) mX11_taxes [.ref 44, .int (nI lv)] (nS S lv T) L (p_taxes gk ms T) (nS S lv T) L := by
  refine ct_intro (loc := [some (.ref 44), some (.int (nI lv)), none, none]) (by decide) (Nat.le_of_ble_eq_true rfl) rfl ?_
  refine ev_iconst (v := 0) dX11_taxes_0 (by decide) ?_
  refine ev_ist2 dX11_taxes_1 ?_
  refine ev_iconst (v := 0) dX11_taxes_2 (by decide) ?_
  refine ev_ist3 dX11_taxes_3 ?_
  have h59 := hm.2.1
  have e9 := taxes_ng (gk := gk) hT (fun g h => hm.2.2.2.2.2.2.1 g h) (5 - ng) (by omega)
  rw [show ng + (5 - ng) = 5 by omega] at e9
  refine ml_taxes d S hm hl T hT L ?_ ng 0 (Nat.zero_add _)
  refine ev_ild2 dX11_taxes_27 ?_
  refine ev_iret dX11_taxes_28 ?_
  exact ⟨_, rfl, e9.symm, rfl, rfl⟩
