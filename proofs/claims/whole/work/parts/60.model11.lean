theorem allB_s (p : Nat → Bool) (n : Nat) : allB p (n + 1) = (allB p n && p n) := rfl
set_option maxRecDepth 10000 in
theorem ml_fit (d : Nat) (S : gx_S) {ng nd : Nat} {ms gk dk sb : Nat → Int32} (hm : mH S ng nd ms gk dk sb) {j t n : Nat} (hj : j < nd) (hn : S 44 19 = nI n) (h6 : n ≤ 6) (hw : ∀ i, i < n → 0 ≤ S 56 i) (set : Int32) (L : gx_L) {Q : Option Value → gx_S → gx_L → Prop}  (kk : Ev mX11_thirsts (d + 1) 99 [some (.ref 44), some (.int (nI j)), some (.int set), some (.int (nI t)), some (.int (gx_b (allB (p_fit (S 55) (S 56) (S 57) (nI j) (dk j) (nI t)) (n)))), some (.int (nI (n)))] [] (S) L Q) : ∀ (nn i : Nat), i + nn = n → Ev mX11_thirsts (d + 1) 26 [some (.ref 44), some (.int (nI j)), some (.int set), some (.int (nI t)), some (.int (gx_b (allB (p_fit (S 55) (S 56) (S 57) (nI j) (dk j) (nI t)) (i)))), some (.int (nI (i)))] [] (S) L Q := by
  intro nn
  induction nn with
  | zero =>
    intro i hi
    obtain rfl : i = n := hi
    refine ev_ild5 dX11_thirsts_26 ?_
    refine ev_ald0 dX11_thirsts_28 ?_
    refine ev_geti dX11_thirsts_29 fl_X11_200 rfl ?_
    refine ev_icmp_ge_t 99 dX11_thirsts_32 (by decide) (by rw [hn]; exact nI_le (Nat.le_refl _) (by omega)) ?_
    exact kk
  | succ nn ih =>
    intro i hi
    have h49 := hm.2.2.2.1
    have hdd := hm.2.2.2.2.2.1 j hj
    refine ev_ild5 dX11_thirsts_26 ?_
    refine ev_ald0 dX11_thirsts_28 ?_
    refine ev_geti dX11_thirsts_29 fl_X11_200 rfl ?_
    refine ev_icmp_ge_f 99 dX11_thirsts_32 (by decide) (by rw [hn]; exact nI_ge (by omega) (by omega)) ?_
    refine ev_ild4 dX11_thirsts_35 ?_
    refine ev_if_eq 90 dX11_thirsts_37 (by decide) (fun c_37 => ?_) (fun c_37 => ?_)
    · have b_37 := gx_b_n.mp c_37
      refine ev_iconst (v := 0) dX11_thirsts_90 (by decide) ?_
      refine ev_ist4 dX11_thirsts_91 ?_
      refine ev_inc5 dX11_thirsts_93 (nI_inc _) ?_
      refine ev_goto 26 dX11_thirsts_96 (by decide) ?_
      have e9 : allB (p_fit (S 55) (S 56) (S 57) (nI j) (dk j) (nI t)) (i + 1) = false := by rw [allB_s, Bool.eq_false_iff.mpr b_37]; rfl
      have e := ih (i + 1) (by omega)
      rw [e9] at e
      exact e
    · have b_37 := gx_b_y.mp c_37
      refine ev_ald0 dX11_thirsts_40 ?_
      refine ev_getr (r := 55) dX11_thirsts_41 fl_X11_40 rfl ?_
      refine ev_ild5 dX11_thirsts_44 ?_
      refine ev_iald' dX11_thirsts_46 rfl (by omega) (by decide) ?_
      refine ev_ild1 dX11_thirsts_47 ?_
      refine ev_icmp_ne 86 dX11_thirsts_48 (by decide) (fun c_48 => ?_) (fun c_48 => ?_)
      · refine ev_iconst (v := 1) dX11_thirsts_86 (by decide) ?_
        refine ev_goto 91 dX11_thirsts_87 (by decide) ?_
        refine ev_ist4 dX11_thirsts_91 ?_
        refine ev_inc5 dX11_thirsts_93 (nI_inc _) ?_
        refine ev_goto 26 dX11_thirsts_96 (by decide) ?_
        have e8 : (p_fit (S 55) (S 56) (S 57) (nI j) (dk j) (nI t)) i = true := if_neg c_48
        have e9 : allB (p_fit (S 55) (S 56) (S 57) (nI j) (dk j) (nI t)) (i + 1) = true := by rw [allB_s, b_37, e8]; rfl
        have e := ih (i + 1) (by omega)
        rw [e9] at e
        exact e
      · refine ev_ald0 dX11_thirsts_51 ?_
        refine ev_getr (r := 56) dX11_thirsts_52 fl_X11_43 rfl ?_
        refine ev_ild5 dX11_thirsts_55 ?_
        refine ev_iald' dX11_thirsts_57 rfl (by omega) (by decide) ?_
        refine ev_ild3 dX11_thirsts_58 ?_
        refine ev_ald0 dX11_thirsts_59 ?_
        refine ev_getr (r := 56) dX11_thirsts_60 fl_X11_43 rfl ?_
        refine ev_ild5 dX11_thirsts_63 ?_
        refine ev_iald' dX11_thirsts_65 rfl (by omega) (by decide) ?_
        refine ev_ald0 dX11_thirsts_66 ?_
        refine ev_getr (r := 47) dX11_thirsts_67 fl_X11_16 rfl ?_
        refine ev_ild1 dX11_thirsts_70 ?_
        refine ev_iald' dX11_thirsts_71 rfl (by omega) (by decide) ?_
        rw [hdd.1]
        refine ev_S3i (M' := mX11_drinks) dX11_thirsts_72 lk_X11_111 sX11_drinks (m_drinks d _ _ _ (hw i (by omega)) _ _) (Nat.le_refl _) (Nat.le_of_ble_eq_true rfl) ?_
        refine ev_isub dX11_thirsts_75 ?_
        refine ev_ald0 dX11_thirsts_76 ?_
        refine ev_getr (r := 57) dX11_thirsts_77 fl_X11_46 rfl ?_
        refine ev_ild5 dX11_thirsts_80 ?_
        refine ev_iald' dX11_thirsts_82 rfl (by omega) (by decide) ?_
        refine ev_icmp_ne 90 dX11_thirsts_83 (by decide) (fun c_83 => ?_) (fun c_83 => ?_)
        · refine ev_iconst (v := 0) dX11_thirsts_90 (by decide) ?_
          refine ev_ist4 dX11_thirsts_91 ?_
          refine ev_inc5 dX11_thirsts_93 (nI_inc _) ?_
          refine ev_goto 26 dX11_thirsts_96 (by decide) ?_
          have e8 : (p_fit (S 55) (S 56) (S 57) (nI j) (dk j) (nI t)) i = false := (if_pos c_48).trans (if_neg c_83)
          have e9 : allB (p_fit (S 55) (S 56) (S 57) (nI j) (dk j) (nI t)) (i + 1) = false := by rw [allB_s, b_37, e8]; rfl
          have e := ih (i + 1) (by omega)
          rw [e9] at e
          exact e
        · refine ev_iconst (v := 1) dX11_thirsts_86 (by decide) ?_
          refine ev_goto 91 dX11_thirsts_87 (by decide) ?_
          refine ev_ist4 dX11_thirsts_91 ?_
          refine ev_inc5 dX11_thirsts_93 (nI_inc _) ?_
          refine ev_goto 26 dX11_thirsts_96 (by decide) ?_
          have e8 : (p_fit (S 55) (S 56) (S 57) (nI j) (dk j) (nI t)) i = true := (if_pos c_48).trans (if_pos c_83)
          have e9 : allB (p_fit (S 55) (S 56) (S 57) (nI j) (dk j) (nI t)) (i + 1) = true := by rw [allB_s, b_37, e8]; rfl
          have e := ih (i + 1) (by omega)
          rw [e9] at e
          exact e
set_option maxRecDepth 10000 in
theorem ml_ths (d : Nat) (S : gx_S) {ng nd : Nat} {ms gk dk sb : Nat → Int32} (hm : mH S ng nd ms gk dk sb) {j n : Nat} (hj : j < nd) (hn : S 44 19 = nI n) (h6 : n ≤ 6) (hw : ∀ i, i < n → 0 ≤ S 56 i) (L : gx_L) {Q : Option Value → gx_S → gx_L → Prop} (kk : ∀ (z4 z5 : Option Value), Ev mX11_thirsts (d + 1) 120 [some (.ref 44), some (.int (nI j)), some (.int (p_thsN (S 55) (S 56) (S 57) (nI j) (dk j) n (10))), some (.int (nI (10))), z4, z5] [] (S) L Q) : ∀ (nn i : Nat) (z4 z5 : Option Value), i + nn = 10 → Ev mX11_thirsts (d + 1) 14 [some (.ref 44), some (.int (nI j)), some (.int (p_thsN (S 55) (S 56) (S 57) (nI j) (dk j) n (i))), some (.int (nI (i))), z4, z5] [] (S) L Q := by
  intro nn
  induction nn with
  | zero =>
    intro i z4 z5 hi
    obtain rfl : i = 10 := hi
    refine ev_ild3 dX11_thirsts_14 ?_
    refine ev_bipush (v := 10) dX11_thirsts_15 (by decide) ?_
    refine ev_icmp_ge_t 120 dX11_thirsts_17 (by decide) (by decide) ?_
    exact kk z4 z5
  | succ nn ih =>
    intro i z4 z5 hi
    refine ev_ild3 dX11_thirsts_14 ?_
    refine ev_bipush (v := 10) dX11_thirsts_15 (by decide) ?_
    refine ev_icmp_ge_f 120 dX11_thirsts_17 (by decide) (nI_ge (b := 10) (by omega) (by decide)) ?_
    refine ev_iconst (v := 1) dX11_thirsts_20 (by decide) ?_
    refine ev_ist4 dX11_thirsts_21 ?_
    refine ev_iconst (v := 0) dX11_thirsts_23 (by decide) ?_
    refine ev_ist5 dX11_thirsts_24 ?_
    refine ml_fit d S hm (t := i) hj hn h6 hw _ L ?_ n 0 (Nat.zero_add _)
    refine ev_ild2 dX11_thirsts_99 ?_
    refine ev_ild4 dX11_thirsts_100 ?_
    refine ev_if_eq 111 dX11_thirsts_102 (by decide) (fun c_102 => ?_) (fun c_102 => ?_)
    · have b_102 := gx_b_n.mp c_102
      refine ev_iconst (v := 0) dX11_thirsts_111 (by decide) ?_
      refine ev_ior dX11_thirsts_112 ?_
      refine ev_ist2 dX11_thirsts_113 ?_
      refine ev_inc3 dX11_thirsts_114 (nI_inc _) ?_
      refine ev_goto 14 dX11_thirsts_117 (by decide) ?_
      have e := fun z4 z5 => ih (i + 1) z4 z5 (by omega)
      simp only [p_thsN, if_neg b_102, ite_self] at e
      rw [Int32.or_zero]
      exact e _ _
    · have b_102 := gx_b_y.mp c_102
      refine ev_iconst (v := 1) dX11_thirsts_105 (by decide) ?_
      refine ev_ild3 dX11_thirsts_106 ?_
      refine ev_ishl dX11_thirsts_107 ?_
      refine ev_goto 112 dX11_thirsts_108 (by decide) ?_
      refine ev_ior dX11_thirsts_112 ?_
      refine ev_ist2 dX11_thirsts_113 ?_
      refine ev_inc3 dX11_thirsts_114 (nI_inc _) ?_
      refine ev_goto 14 dX11_thirsts_117 (by decide) ?_
      have e := fun z4 z5 => ih (i + 1) z4 z5 (by omega)
      simp only [p_thsN, if_pos b_102, ite_self] at e
      exact e _ _
set_option maxRecDepth 10000 in
theorem m_ths0 (d : Nat) (S : gx_S) {ng nd : Nat} {ms gk dk sb : Nat → Int32} (hm : mH S ng nd ms gk dk sb) {x : Int32} (hb : isG (nI nd) x = false) (L : gx_L) : Cf (d + 2) mX11_thirsts [.ref 44, .int x] S L (-1) S L := by
  refine ct_intro (loc := [some (.ref 44), some (.int x), none, none, none, none]) (by decide) (Nat.le_of_ble_eq_true rfl) rfl ?_
  refine ev_ald0 dX11_thirsts_0 ?_
  refine ev_ild1 dX11_thirsts_1 ?_
  refine ev_V1i (M' := mX11_isDrinker) dX11_thirsts_2 lk_X11_133 vX11_isDrinker rfl (m_isDrinker d S hm.2.2.1 (by have := hm.2.2.2.1; omega) _ L) (Nat.le_refl _) (Nat.le_of_ble_eq_true rfl) ?_
  refine ev_if_ne_f 10 dX11_thirsts_5 (by decide) (gb_f hb) ?_
  refine ev_iconst (v := (-1)) dX11_thirsts_8 (by decide) ?_
  refine ev_iret dX11_thirsts_9 ?_
  exact ⟨_, rfl, rfl, rfl, rfl⟩
set_option maxRecDepth 10000 in
theorem m_ths (d : Nat) (S : gx_S) {ng nd : Nat} {ms gk dk sb : Nat → Int32} (hm : mH S ng nd ms gk dk sb) {j n : Nat} (hj : j < nd) (hn : S 44 19 = nI n) (h6 : n ≤ 6) (hw : ∀ i, i < n → 0 ≤ S 56 i) (L : gx_L) : Cf (d + 2) mX11_thirsts [.ref 44, .int (nI j)] S L (p_thsN (S 55) (S 56) (S 57) (nI j) (dk j) n (10)) S L := by
  refine ct_intro (loc := [some (.ref 44), some (.int (nI j)), none, none, none, none]) (by decide) (Nat.le_of_ble_eq_true rfl) rfl ?_
  have h49 := hm.2.2.2.1
  refine ev_ald0 dX11_thirsts_0 ?_
  refine ev_ild1 dX11_thirsts_1 ?_
  refine ev_V1i (M' := mX11_isDrinker) dX11_thirsts_2 lk_X11_133 vX11_isDrinker rfl (m_isDrinker d S hm.2.2.1 (by have := hm.2.2.2.1; omega) _ L) (Nat.le_refl _) (Nat.le_of_ble_eq_true rfl) ?_
  refine ev_if_ne_t 10 dX11_thirsts_5 (by decide) (gb_t (isG_in (by omega) hj)) ?_
  refine ev_iconst (v := 0) dX11_thirsts_10 (by decide) ?_
  refine ev_ist2 dX11_thirsts_11 ?_
  refine ev_iconst (v := 0) dX11_thirsts_12 (by decide) ?_
  refine ev_ist3 dX11_thirsts_13 ?_
  refine ml_ths (d + 1) S hm hj hn h6 hw L ?_ 10 0 none none rfl
  intro z4 z5
  refine ev_ild2 dX11_thirsts_120 ?_
  refine ev_iret dX11_thirsts_121 ?_
  exact ⟨_, rfl, rfl, rfl, rfl⟩
def sA (A : Nat → Int32) (T : Tb) : Tb := (T.1, A, T.2.2)
theorem aroundN_sA (dk sb : Nat → Int32) (A : Nat → Int32) (T : Tb) (d : Nat) : ∀ n, p_aroundN dk sb (sA A T) d n = sA A (p_aroundN dk sb T d n)
  | 0 => rfl
  | n + 1 => by
    show (if bt (sb d) n = true then p_swT dk (p_aroundN dk sb (sA A T) d n) d n else p_aroundN dk sb (sA A T) d n) = sA A (if bt (sb d) n = true then p_swT dk (p_aroundN dk sb T d n) d n else p_aroundN dk sb T d n)
    rw [aroundN_sA dk sb A T d n]
    split <;> rfl
theorem evN_sA (dk sb : Nat → Int32) (so : Int32) (A : Nat → Int32) (T : Tb) : ∀ n, p_evN dk sb so (sA A T) n = sA A (p_evN dk sb so T n)
  | 0 => rfl
  | n + 1 => by
    show (if bt so n = true then p_aroundN dk sb (p_evN dk sb so (sA A T) n) n 5 else p_evN dk sb so (sA A T) n) = sA A (if bt so n = true then p_aroundN dk sb (p_evN dk sb so T n) n 5 else p_evN dk sb so T n)
    rw [evN_sA dk sb so A T n, aroundN_sA]
    split <;> rfl
theorem ev_th (dk sb : Nat → Int32) (so : Int32) {X Y : Tb} (h1 : X.1 = Y.1) (h2 : X.2.2 = Y.2.2) : (p_ev dk sb so X).2.2.1 = (p_ev dk sb so Y).2.2.1 := by
  have e : X = sA X.2.1 Y := by
    unfold sA
    rw [← h1, ← h2]
  have e2 := evN_sA dk sb so X.2.1 Y 4
  rw [← e] at e2
  have e3 : p_ev dk sb so X = sA X.2.1 (p_ev dk sb so Y) := e2
  rw [e3]
  rfl
theorem fill_r (ms : Nat → Int32) (b : Int32) (T : Tb) : ∀ n, (p_fillN ms b T n).2.2 = T.2.2
  | 0 => rfl
  | n + 1 => fill_r ms b T n
theorem fill_ge (ms : Nat → Int32) (b : Int32) (T : Tb) {j : Nat} : ∀ n, n ≤ j → (p_fillN ms b T n).1 j = T.1 j
  | 0, _ => rfl
  | n + 1, h => (upd_ne _ _ (by omega)).trans (fill_ge ms b T n (by omega))
theorem fill_ng {ms : Nat → Int32} {b : Int32} {T : Tb} {ng : Nat} (hT : okT ms T) (hz : ∀ g, ng ≤ g → ms g = 0) : ∀ k, ng + k ≤ 5 → (p_fillN ms b T (ng + k)).1 = (p_fillN ms b T ng).1
  | 0, _ => rfl
  | k + 1, hk => by
    show upd (p_fillN ms b T (ng + k)).1 (ng + k) (if bt b (ng + k) = true then ms (ng + k) else 0) = _
    rw [hz (ng + k) (by omega), ite_self]
    have e : (p_fillN ms b T (ng + k)).1 (ng + k) = 0 := (fill_ge ms b T (ng + k) (Nat.le_refl _)).trans (okT_0 hT (by omega) (hz (ng + k) (by omega)))
    rw [← e, upd_self]
    exact fill_ng hT hz k (by omega)
theorem okT_fill {ms : Nat → Int32} {b : Int32} {T : Tb} (h : okT ms T) : ∀ n, n ≤ 5 → okT ms (p_fillN ms b T n)
  | 0, _ => h
  | n + 1, hn => by
    have ih := okT_fill (b := b) h n (by omega)
    refine ⟨fun j hj => ?_, fun j hj => ih.2 j hj⟩
    by_cases e : j = n
    · subst e
      obtain ⟨⟨a, m, h1, h2, h3, h4⟩, -⟩ := h.1 j hj
      refine ⟨?_, 0, upd_at _ _ _, by omega⟩
      by_cases hb : bt b j = true
      · exact ⟨m, m, by show upd _ j (if bt b j = true then ms j else 0) j = _; rw [upd_at, if_pos hb, h2], h2, Nat.le_refl _, h4⟩
      · exact ⟨0, m, by show upd _ j (if bt b j = true then ms j else 0) j = _; rw [upd_at, if_neg hb]; rfl, h2, by omega, h4⟩
    · obtain ⟨⟨a, m, h1, h2⟩, q, h3, h4⟩ := ih.1 j hj
      exact ⟨⟨a, m, (upd_ne _ _ e).trans h1, h2⟩, q, (upd_ne _ _ e).trans h3, h4⟩
theorem q_th0 {ms dk : Nat → Int32} {T : Tb} (h : okT ms T) : ∀ n, n ≤ 4 → ∃ s, q_thN dk T.2.2.1 n = nI s ∧ s ≤ 9 * n ∧ (s = 0 ↔ allB (p_quN dk T.2.2.1) n = true)
  | 0, _ => ⟨0, rfl, Nat.le_refl _, by simp [allB]⟩
  | n + 1, hn => by
    obtain ⟨s, h1, h2, h3⟩ := q_th0 (dk := dk) h n (by omega)
    obtain ⟨a, ha, ha9⟩ := h.2 n (by omega)
    have e : q_thN dk T.2.2.1 (n + 1) = q_thN dk T.2.2.1 n + (if dk n = 3 then 0 else T.2.2.1 n) := rfl
    rw [e, allB_s, h1, ha]
    by_cases hk : dk n = 3
    · have q : p_quN dk T.2.2.1 n = true := by unfold p_quN; rw [if_pos hk, ite_self]
      rw [if_pos hk, q, Int32.add_zero, Bool.and_true]
      exact ⟨s, rfl, by omega, h3⟩
    · rw [if_neg hk, nI_add]
      refine ⟨s + a, rfl, by omega, ?_⟩
      rcases Nat.eq_zero_or_pos a with h0 | h0
      · subst h0
        have q : p_quN dk T.2.2.1 n = true := by unfold p_quN; rw [ha]; exact if_pos (Int32.le_refl 0)
        rw [q, Bool.and_true]
        exact h3
      · have q : p_quN dk T.2.2.1 n = false := by unfold p_quN; rw [ha]; exact (if_neg (nI_ge (b := a) (a := 0) h0 (by omega))).trans (if_neg hk)
        rw [q, Bool.and_false]
        exact ⟨fun h9 => by omega, fun h9 => by cases h9⟩
theorem qu_nd {dk th : Nat → Int32} {nd : Nat} (hz : ∀ d, nd ≤ d → th d = 0) : ∀ k, allB (p_quN dk th) (nd + k) = allB (p_quN dk th) nd
  | 0 => rfl
  | k + 1 => by
    show (allB (p_quN dk th) (nd + k) && p_quN dk th (nd + k)) = _
    have e : p_quN dk th (nd + k) = true := by unfold p_quN; rw [hz _ (by omega)]; rfl
    rw [e, Bool.and_true]
    exact qu_nd hz k
theorem zD_fill {nd : Nat} {ms : Nat → Int32} {b : Int32} {T : Tb} (h : zD nd T) (n : Nat) : zD nd (p_fillN ms b T n) := fun j hj => by
  rw [fill_r]
  exact h j hj
/-- who is thirsty behind an evening, told by the reference and by the class -/
theorem wake_eq {S : gx_S} {ng nd : Nat} {ms gk dk sb : Nat → Int32} (hm : mH S ng nd ms gk dk sb) {T : Tb} (hT : okT ms T) (hz : zD nd T) (b : Int32) : (q_thN dk (p_ev dk sb 15 (p_fillN ms b T ng)).2.2.1 nd = 0) ↔ allB (p_quN dk (p_ev dk sb 15 (p_fillN ms b T 5)).2.2.1) 4 = true := by
  have h59 := hm.2.1
  have h49 := hm.2.2.2.1
  have e1 := fill_ng (b := b) hT (fun g h => (hm.2.2.2.2.2.2.1 g h).1) (5 - ng) (by omega)
  rw [show ng + (5 - ng) = 5 by omega] at e1
  have e2 : (p_ev dk sb 15 (p_fillN ms b T 5)).2.2.1 = (p_ev dk sb 15 (p_fillN ms b T ng)).2.2.1 := ev_th dk sb 15 e1 (by rw [fill_r, fill_r])
  rw [e2]
  have e3 := qu_nd (dk := dk) (zD_ev hm (so := 15) (zD_fill (ms := ms) (b := b) hz ng)) (4 - nd)
  rw [show nd + (4 - nd) = 4 by omega] at e3
  rw [e3]
  obtain ⟨s, h1, h2, h3⟩ := q_th0 (dk := dk) (okT_ev (dk := dk) (sb := sb) (so := 15) (okT_fill (b := b) hT ng h59)) nd h49
  rw [h1, ← h3]
  exact ⟨fun h9 => (nI_eq (by omega) (by decide)).mp h9, fun h9 => by rw [h9]; rfl⟩
set_option maxRecDepth 10000 in
theorem ml_fill (d : Nat) (S : gx_S) {ng nd : Nat} {ms gk dk sb : Nat → Int32} (hm : mH S ng nd ms gk dk sb) {T : Tb} (h0 : mT (S 49) 0 = T) (best : Int32) (st : Nat) (L : gx_L) {Q : Option Value → gx_S → gx_L → Prop}  (kk : Ev mX11_wake (d + 1) 89 [some (.ref 44), some (.int best), some (.int (nI st)), some (.int (nI (ng)))] [] (nS S 1 (p_fillN ms (nI st) T (ng))) L Q) : ∀ (nn i : Nat), i + nn = ng → Ev mX11_wake (d + 1) 38 [some (.ref 44), some (.int best), some (.int (nI st)), some (.int (nI (i)))] [] (nS S 1 (p_fillN ms (nI st) T (i))) L Q := by
  intro nn
  induction nn with
  | zero =>
    intro i hi
    obtain rfl : i = ng := hi
    have h59 := hm.2.1
    refine ev_ild3 dX11_wake_38 ?_
    refine ev_ald0 dX11_wake_39 ?_
    refine ev_geti dX11_wake_40 fl_X11_56 rfl ?_
    refine ev_icmp_ge_t 89 dX11_wake_43 (by decide) (by rw [nS_o S 1 _ (by decide), hm.1]; exact nI_le (Nat.le_refl _) (by omega)) ?_
    exact kk
  | succ nn ih =>
    intro i hi
    have h59 := hm.2.1
    have hgg := hm.2.2.2.2.1 i (by omega)
    refine ev_ild3 dX11_wake_38 ?_
    refine ev_ald0 dX11_wake_39 ?_
    refine ev_geti dX11_wake_40 fl_X11_56 rfl ?_
    refine ev_icmp_ge_f 89 dX11_wake_43 (by decide) (by rw [nS_o S 1 _ (by decide), hm.1]; exact nI_ge (by omega) (by omega)) ?_
    refine ev_ald0 dX11_wake_46 ?_
    refine ev_getr (r := 49) dX11_wake_47 fl_X11_22 rfl ?_
    refine ev_bipush (v := 15) dX11_wake_50 (by decide) ?_
    refine ev_ild3 dX11_wake_52 ?_
    refine ev_iadd dX11_wake_53 ?_
    refine ev_ild2 dX11_wake_54 ?_
    refine ev_ild3 dX11_wake_55 ?_
    refine ev_S2i (M' := mX11_has) dX11_wake_56 lk_X11_77 sX11_has (m_has d _ _ _ _) (Nat.le_refl _) (Nat.le_of_ble_eq_true rfl) ?_
    refine ev_if_eq 71 dX11_wake_59 (by decide) (fun c_59 => ?_) (fun c_59 => ?_)
    · have b_59 := gx_b_n.mp c_59
      refine ev_iconst (v := 0) dX11_wake_71 (by decide) ?_
      refine ev_iast2 (j := 15 * 1 + i) dX11_wake_72 rfl (ix2 15 _) (by omega) (by first | decide | omega) ?_
      rw [nS_uc S 1 _ (by omega)]
      refine ev_ald0 dX11_wake_73 ?_
      refine ev_getr (r := 49) dX11_wake_74 fl_X11_22 rfl ?_
      refine ev_bipush (v := 20) dX11_wake_77 (by decide) ?_
      refine ev_ild3 dX11_wake_79 ?_
      refine ev_iadd dX11_wake_80 ?_
      refine ev_iconst (v := 0) dX11_wake_81 (by decide) ?_
      refine ev_iast2 (j := 15 * 1 + 5 + i) dX11_wake_82 rfl (ix2 20 _) (by omega) (by first | decide | omega) ?_
      rw [nS_ua S 1 _ (by omega)]
      refine ev_inc3 dX11_wake_83 (nI_inc _) ?_
      refine ev_goto 38 dX11_wake_86 (by decide) ?_
      have e := ih (i + 1) (by omega)
      rw [show (p_fillN ms (nI st) T (i + 1)) = (upd (p_fillN ms (nI st) T (i)).1 i (if bt (nI st) i = true then ms i else 0), upd (p_fillN ms (nI st) T (i)).2.1 i 0, (p_fillN ms (nI st) T (i)).2.2) from rfl, if_neg b_59] at e
      exact e
    · have b_59 := gx_b_y.mp c_59
      refine ev_ald0 dX11_wake_62 ?_
      refine ev_getr (r := 45) dX11_wake_63 fl_X11_7 rfl ?_
      refine ev_ild3 dX11_wake_66 ?_
      refine ev_iald' dX11_wake_67 rfl (by omega) (by decide) ?_
      rw [nS_o S 1 _ (by decide), hgg.1]
      refine ev_goto 72 dX11_wake_68 (by decide) ?_
      refine ev_iast2 (j := 15 * 1 + i) dX11_wake_72 rfl (ix2 15 _) (by omega) (by first | decide | omega) ?_
      rw [nS_uc S 1 _ (by omega)]
      refine ev_ald0 dX11_wake_73 ?_
      refine ev_getr (r := 49) dX11_wake_74 fl_X11_22 rfl ?_
      refine ev_bipush (v := 20) dX11_wake_77 (by decide) ?_
      refine ev_ild3 dX11_wake_79 ?_
      refine ev_iadd dX11_wake_80 ?_
      refine ev_iconst (v := 0) dX11_wake_81 (by decide) ?_
      refine ev_iast2 (j := 15 * 1 + 5 + i) dX11_wake_82 rfl (ix2 20 _) (by omega) (by first | decide | omega) ?_
      rw [nS_ua S 1 _ (by omega)]
      refine ev_inc3 dX11_wake_83 (nI_inc _) ?_
      refine ev_goto 38 dX11_wake_86 (by decide) ?_
      have e := ih (i + 1) (by omega)
      rw [show (p_fillN ms (nI st) T (i + 1)) = (upd (p_fillN ms (nI st) T (i)).1 i (if bt (nI st) i = true then ms i else 0), upd (p_fillN ms (nI st) T (i)).2.1 i 0, (p_fillN ms (nI st) T (i)).2.2) from rfl, if_pos b_59] at e
      exact e
set_option maxRecDepth 10000 in
theorem m_wake (d : Nat) (S : gx_S) {ng nd : Nat} {ms gk dk sb : Nat → Int32} (hm : mH S ng nd ms gk dk sb) {T : Tb} (h0 : mT (S 49) 0 = T) (hT : okT ms T) (hz : zD nd T) (L : gx_L) : Ci (d + 4) mX11_wake [.ref 44] S L (fun r S1 L1 => r = oI (wN (fun b => allB (p_quN dk (p_ev dk sb 15 (p_fillN ms (nI b) T 5)).2.2.1) 4) (2 ^ ng)) ∧ (∃ T1, S1 = nS S 1 T1) ∧ L1 = L) := by
  refine ct_intro (loc := [some (.ref 44), none, none, none]) (by decide) (Nat.le_of_ble_eq_true rfl) rfl ?_
  have h59 := hm.2.1
  have h32 := p2_5 ng h59
  have hpcb : ∀ k, k < 32 → pcn k < 6 := by decide +kernel
  have loop : ∀ (nn i : Nat) (T0 : Tb) (z : Option Value), i + nn = 2 ^ ng → Ev mX11_wake (d + 4) 5 [some (.ref 44), some (.int (oI (wN (fun b => allB (p_quN dk (p_ev dk sb 15 (p_fillN ms (nI b) T 5)).2.2.1) 4) (i)))), some (.int (nI (i))), z] [] (nS S 1 T0) L (fun v S' L' => ∃ r : Int32, v = some (.int r) ∧ r = oI (wN (fun b => allB (p_quN dk (p_ev dk sb 15 (p_fillN ms (nI b) T 5)).2.2.1) 4) (2 ^ ng)) ∧ (∃ T1, S' = nS S 1 T1) ∧ L' = L) := by
    intro nn
    induction nn with
    | zero =>
      intro i T0 z hi
      obtain rfl : i = 2 ^ ng := hi
      refine ev_ild2 dX11_wake_5 ?_
      refine ev_iconst (v := 1) dX11_wake_6 (by decide) ?_
      refine ev_ald0 dX11_wake_7 ?_
      refine ev_geti dX11_wake_8 fl_X11_56 rfl ?_
      rw [nS_o S 1 _ (by decide), hm.1]
      refine ev_ishl dX11_wake_11 ?_
      refine ev_icmp_ge_t 117 dX11_wake_12 (by decide) (by rw [shl1 ng (by omega)]; exact nI_le (Nat.le_refl _) (by omega)) ?_
      refine ev_ild1 dX11_wake_117 ?_
      refine ev_iret dX11_wake_118 ?_
      exact ⟨_, rfl, rfl, ⟨_, rfl⟩, rfl⟩
    | succ nn ih =>
      intro i T0 z hi
      cases hw : wN (fun b => allB (p_quN dk (p_ev dk sb 15 (p_fillN ms (nI b) T 5)).2.2.1) 4) i with
      | none =>
        refine ev_ild2 dX11_wake_5 ?_
        refine ev_iconst (v := 1) dX11_wake_6 (by decide) ?_
        refine ev_ald0 dX11_wake_7 ?_
        refine ev_geti dX11_wake_8 fl_X11_56 rfl ?_
        rw [nS_o S 1 _ (by decide), hm.1]
        refine ev_ishl dX11_wake_11 ?_
        refine ev_icmp_ge_f 117 dX11_wake_12 (by decide) (by rw [shl1 ng (by omega)]; exact nI_ge (by omega) (by omega)) ?_
        refine ev_ild1 dX11_wake_15 ?_
        refine ev_bipush (v := (-9)) dX11_wake_16 (by decide) ?_
        refine ev_icmp_eq_t 32 dX11_wake_18 (by decide) rfl ?_
        refine ev_ald0 dX11_wake_32 ?_
        refine ev_V0v (M' := mX11_layTrial) dX11_wake_33 lk_X11_164 vX11_layTrial rfl (m_lay1 (d + 3) S T0 h0 L) (Nat.le_refl _) (Nat.le_of_ble_eq_true rfl) ?_
        refine ev_iconst (v := 0) dX11_wake_36 (by decide) ?_
        refine ev_ist3 dX11_wake_37 ?_
        refine ml_fill (d + 3) S hm h0 _ i L ?_ ng 0 (Nat.zero_add _)
        refine ev_ald0 dX11_wake_89 ?_
        refine ev_iconst (v := 1) dX11_wake_90 (by decide) ?_
        refine ev_bipush (v := 15) dX11_wake_91 (by decide) ?_
        refine ev_V2v (M' := mX11_eveningOn) dX11_wake_93 lk_X11_167 vX11_eveningOn rfl (m_eveningOn d S hm (lv := 1) (by decide) 15 _ (okT_fill hT ng h59) L) (Nat.le_refl _) (Nat.le_of_ble_eq_true rfl) ?_
        refine ev_ald0 dX11_wake_96 ?_
        refine ev_iconst (v := 1) dX11_wake_97 (by decide) ?_
        refine ev_iconst (v := 0) dX11_wake_98 (by decide) ?_
        refine ev_V2i (M' := mX11_thirst) dX11_wake_99 lk_X11_170 vX11_thirst rfl (m_thirst0 (d + 3) S hm (lv := 1) (by decide) _ L) (Nat.le_refl _) (Nat.le_of_ble_eq_true rfl) ?_
        refine ev_if_ne 109 dX11_wake_102 (by decide) (fun c_102 => ?_) (fun c_102 => ?_)
        · refine ev_ild1 dX11_wake_109 ?_
          refine ev_ist1 dX11_wake_110 ?_
          refine ev_inc2 dX11_wake_111 (nI_inc _) ?_
          refine ev_goto 5 dX11_wake_114 (by decide) ?_
          have e := fun z9 => ih (i + 1) (p_ev dk sb 15 (p_fillN ms (nI i) T ng)) z9 (by omega)
          simp only [wN, hw, if_neg (fun h9 => c_102 ((wake_eq hm hT hz (nI i)).mpr h9))] at e
          exact e _
        · refine ev_ild2 dX11_wake_105 ?_
          refine ev_goto 110 dX11_wake_106 (by decide) ?_
          refine ev_ist1 dX11_wake_110 ?_
          refine ev_inc2 dX11_wake_111 (nI_inc _) ?_
          refine ev_goto 5 dX11_wake_114 (by decide) ?_
          have e := fun z9 => ih (i + 1) (p_ev dk sb 15 (p_fillN ms (nI i) T ng)) z9 (by omega)
          simp only [wN, hw, if_pos ((wake_eq hm hT hz (nI i)).mp c_102)] at e
          exact e _
      | some k =>
        have hk : k < i := wN_lt hw
        have hp1 := hpcb k (by omega)
        have hp2 := hpcb i (by omega)
        refine ev_ild2 dX11_wake_5 ?_
        refine ev_iconst (v := 1) dX11_wake_6 (by decide) ?_
        refine ev_ald0 dX11_wake_7 ?_
        refine ev_geti dX11_wake_8 fl_X11_56 rfl ?_
        rw [nS_o S 1 _ (by decide), hm.1]
        refine ev_ishl dX11_wake_11 ?_
        refine ev_icmp_ge_f 117 dX11_wake_12 (by decide) (by rw [shl1 ng (by omega)]; exact nI_ge (by omega) (by omega)) ?_
        refine ev_ild1 dX11_wake_15 ?_
        refine ev_bipush (v := (-9)) dX11_wake_16 (by decide) ?_
        refine ev_icmp_eq_f 32 dX11_wake_18 (by decide) (nI_n9 (by omega)) ?_
        refine ev_ild2 dX11_wake_21 ?_
        refine ev_S1i (M' := mX11_ones) dX11_wake_22 lk_X11_183 sX11_ones (m_ones (d + 3) (by omega) _ _) (Nat.le_refl _) (Nat.le_of_ble_eq_true rfl) ?_
        refine ev_ild1 dX11_wake_25 ?_
        refine ev_S1i (M' := mX11_ones) dX11_wake_26 lk_X11_183 sX11_ones (m_ones (d + 3) (by omega) _ _) (Nat.le_refl _) (Nat.le_of_ble_eq_true rfl) ?_
        refine ev_icmp_ge 111 dX11_wake_29 (by decide) (fun c_29 => ?_) (fun c_29 => ?_)
        · refine ev_inc2 dX11_wake_111 (nI_inc _) ?_
          refine ev_goto 5 dX11_wake_114 (by decide) ?_
          have e := fun z9 => ih (i + 1) T0 z9 (by omega)
          simp only [wN, hw, if_pos ((nI_leI (by omega) (by omega)).mp c_29)] at e
          exact e _
        · refine ev_ald0 dX11_wake_32 ?_
          refine ev_V0v (M' := mX11_layTrial) dX11_wake_33 lk_X11_164 vX11_layTrial rfl (m_lay1 (d + 3) S T0 h0 L) (Nat.le_refl _) (Nat.le_of_ble_eq_true rfl) ?_
          refine ev_iconst (v := 0) dX11_wake_36 (by decide) ?_
          refine ev_ist3 dX11_wake_37 ?_
          refine ml_fill (d + 3) S hm h0 _ i L ?_ ng 0 (Nat.zero_add _)
          refine ev_ald0 dX11_wake_89 ?_
          refine ev_iconst (v := 1) dX11_wake_90 (by decide) ?_
          refine ev_bipush (v := 15) dX11_wake_91 (by decide) ?_
          refine ev_V2v (M' := mX11_eveningOn) dX11_wake_93 lk_X11_167 vX11_eveningOn rfl (m_eveningOn d S hm (lv := 1) (by decide) 15 _ (okT_fill hT ng h59) L) (Nat.le_refl _) (Nat.le_of_ble_eq_true rfl) ?_
          refine ev_ald0 dX11_wake_96 ?_
          refine ev_iconst (v := 1) dX11_wake_97 (by decide) ?_
          refine ev_iconst (v := 0) dX11_wake_98 (by decide) ?_
          refine ev_V2i (M' := mX11_thirst) dX11_wake_99 lk_X11_170 vX11_thirst rfl (m_thirst0 (d + 3) S hm (lv := 1) (by decide) _ L) (Nat.le_refl _) (Nat.le_of_ble_eq_true rfl) ?_
          refine ev_if_ne 109 dX11_wake_102 (by decide) (fun c_102 => ?_) (fun c_102 => ?_)
          · refine ev_ild1 dX11_wake_109 ?_
            refine ev_ist1 dX11_wake_110 ?_
            refine ev_inc2 dX11_wake_111 (nI_inc _) ?_
            refine ev_goto 5 dX11_wake_114 (by decide) ?_
            have e := fun z9 => ih (i + 1) (p_ev dk sb 15 (p_fillN ms (nI i) T ng)) z9 (by omega)
            simp only [wN, hw, if_neg (fun h9 => c_29 (nI_le h9 (by omega))), if_neg (fun h9 => c_102 ((wake_eq hm hT hz (nI i)).mpr h9))] at e
            exact e _
          · refine ev_ild2 dX11_wake_105 ?_
            refine ev_goto 110 dX11_wake_106 (by decide) ?_
            refine ev_ist1 dX11_wake_110 ?_
            refine ev_inc2 dX11_wake_111 (nI_inc _) ?_
            refine ev_goto 5 dX11_wake_114 (by decide) ?_
            have e := fun z9 => ih (i + 1) (p_ev dk sb 15 (p_fillN ms (nI i) T ng)) z9 (by omega)
            simp only [wN, hw, if_neg (fun h9 => c_29 (nI_le h9 (by omega))), if_pos ((wake_eq hm hT hz (nI i)).mp c_102)] at e
            exact e _
  refine ev_bipush (v := -9) dX11_wake_0 (by decide) ?_
  refine ev_ist1 dX11_wake_2 ?_
  refine ev_iconst (v := 0) dX11_wake_3 (by decide) ?_
  refine ev_ist2 dX11_wake_4 ?_
  have l9 := loop (2 ^ ng) 0 (mT (S 49) 1) none (Nat.zero_add _)
  rw [nS_mT] at l9
  exact l9
