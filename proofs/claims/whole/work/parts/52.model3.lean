def q_thN (dk th : Nat → Int32) : Nat → Int32
  | 0 => 0
  | n + 1 => q_thN dk th n + (if dk n = 3 then 0 else th n)
theorem th_nd {T : Tb} {nd : Nat} (hz : ∀ d, nd ≤ d → T.2.2.1 d = 0) : ∀ k, p_thN T.2.2.1 (nd + k) = p_thN T.2.2.1 nd
  | 0 => rfl
  | k + 1 => by
    show p_thN T.2.2.1 (nd + k) + T.2.2.1 (nd + k) = _
    rw [hz _ (by omega), Int32.add_zero]
    exact th_nd hz k
set_option maxRecDepth 10000 in
theorem ml_th1 (d : Nat) (S : gx_S) {ng nd : Nat} {ms gk dk sb : Nat → Int32} (hm : mH S ng nd ms gk dk sb) {lv : Nat} (hl : lv ≤ 1) (T : Tb) (L : gx_L) {Q : Option Value → gx_S → gx_L → Prop}  (kk : Ev mX11_thirst (d) 57 [some (.ref 44), some (.int (nI lv)), some (.int 1), some (.int (p_thN T.2.2.1 (nd))), some (.int (nI (nd)))] [] (nS S lv T) L Q) : ∀ (nn i : Nat), i + nn = nd → Ev mX11_thirst (d) 5 [some (.ref 44), some (.int (nI lv)), some (.int 1), some (.int (p_thN T.2.2.1 (i))), some (.int (nI (i)))] [] (nS S lv T) L Q := by
  intro nn
  induction nn with
  | zero =>
    intro i hi
    obtain rfl : i = nd := hi
    refine ev_ild4 dX11_thirst_5 ?_
    refine ev_ald0 dX11_thirst_7 ?_
    refine ev_geti dX11_thirst_8 fl_X11_105 rfl ?_
    refine ev_icmp_ge_t 57 dX11_thirst_11 (by decide) (by rw [nS_o S lv _ (by decide), hm.2.2.1]; exact nI_le (Nat.le_refl _) (by have := hm.2.2.2.1; omega)) ?_
    exact kk
  | succ nn ih =>
    intro i hi
    have h49 := hm.2.2.2.1
    refine ev_ild4 dX11_thirst_5 ?_
    refine ev_ald0 dX11_thirst_7 ?_
    refine ev_geti dX11_thirst_8 fl_X11_105 rfl ?_
    refine ev_icmp_ge_f 57 dX11_thirst_11 (by decide) (by rw [nS_o S lv _ (by decide), hm.2.2.1]; exact nI_ge (by omega) (by have := hm.2.2.2.1; omega)) ?_
    refine ev_ild3 dX11_thirst_14 ?_
    refine ev_ild2 dX11_thirst_15 ?_
    refine ev_if_ne_t 30 dX11_thirst_16 (by decide) (by decide) ?_
    refine ev_ald0 dX11_thirst_30 ?_
    refine ev_getr (r := 49) dX11_thirst_31 fl_X11_22 rfl ?_
    refine ev_bipush (v := 15) dX11_thirst_34 (by decide) ?_
    refine ev_ild1 dX11_thirst_36 ?_
    refine ev_imul dX11_thirst_37 ?_
    rw [m15]
    refine ev_bipush (v := 10) dX11_thirst_38 (by decide) ?_
    refine ev_iadd dX11_thirst_40 ?_
    refine ev_ild4 dX11_thirst_41 ?_
    refine ev_iadd dX11_thirst_43 ?_
    refine ev_iald2 (j := 15 * lv + 10 + i) dX11_thirst_44 rfl (ix3 _ 10 _) (by omega) (by first | decide | omega) ?_
    rw [nS_t S lv T (by omega)]
    refine ev_goto 49 dX11_thirst_45 (by decide) ?_
    refine ev_iadd dX11_thirst_49 ?_
    refine ev_ist3 dX11_thirst_50 ?_
    refine ev_inc4 dX11_thirst_51 (nI_inc _) ?_
    refine ev_goto 5 dX11_thirst_54 (by decide) ?_
    exact ih (i + 1) (by omega)
set_option maxRecDepth 10000 in
theorem ml_th0 (d : Nat) (S : gx_S) {ng nd : Nat} {ms gk dk sb : Nat → Int32} (hm : mH S ng nd ms gk dk sb) {lv : Nat} (hl : lv ≤ 1) (T : Tb) (L : gx_L) {Q : Option Value → gx_S → gx_L → Prop}  (kk : Ev mX11_thirst (d) 57 [some (.ref 44), some (.int (nI lv)), some (.int 0), some (.int (q_thN dk T.2.2.1 (nd))), some (.int (nI (nd)))] [] (nS S lv T) L Q) : ∀ (nn i : Nat), i + nn = nd → Ev mX11_thirst (d) 5 [some (.ref 44), some (.int (nI lv)), some (.int 0), some (.int (q_thN dk T.2.2.1 (i))), some (.int (nI (i)))] [] (nS S lv T) L Q := by
  intro nn
  induction nn with
  | zero =>
    intro i hi
    obtain rfl : i = nd := hi
    refine ev_ild4 dX11_thirst_5 ?_
    refine ev_ald0 dX11_thirst_7 ?_
    refine ev_geti dX11_thirst_8 fl_X11_105 rfl ?_
    refine ev_icmp_ge_t 57 dX11_thirst_11 (by decide) (by rw [nS_o S lv _ (by decide), hm.2.2.1]; exact nI_le (Nat.le_refl _) (by have := hm.2.2.2.1; omega)) ?_
    exact kk
  | succ nn ih =>
    intro i hi
    have h49 := hm.2.2.2.1
    have hdd := hm.2.2.2.2.2.1 i (by omega)
    refine ev_ild4 dX11_thirst_5 ?_
    refine ev_ald0 dX11_thirst_7 ?_
    refine ev_geti dX11_thirst_8 fl_X11_105 rfl ?_
    refine ev_icmp_ge_f 57 dX11_thirst_11 (by decide) (by rw [nS_o S lv _ (by decide), hm.2.2.1]; exact nI_ge (by omega) (by have := hm.2.2.2.1; omega)) ?_
    refine ev_ild3 dX11_thirst_14 ?_
    refine ev_ild2 dX11_thirst_15 ?_
    refine ev_if_ne_f 30 dX11_thirst_16 (by decide) rfl ?_
    refine ev_ald0 dX11_thirst_19 ?_
    refine ev_getr (r := 47) dX11_thirst_20 fl_X11_16 rfl ?_
    refine ev_ild4 dX11_thirst_23 ?_
    refine ev_iald' dX11_thirst_25 rfl (by omega) (by decide) ?_
    rw [nS_o S lv T (by decide), hdd.1]
    refine ev_iconst (v := 3) dX11_thirst_26 (by decide) ?_
    refine ev_icmp_eq 48 dX11_thirst_27 (by decide) (fun c_27 => ?_) (fun c_27 => ?_)
    · refine ev_iconst (v := 0) dX11_thirst_48 (by decide) ?_
      refine ev_iadd dX11_thirst_49 ?_
      refine ev_ist3 dX11_thirst_50 ?_
      refine ev_inc4 dX11_thirst_51 (nI_inc _) ?_
      refine ev_goto 5 dX11_thirst_54 (by decide) ?_
      have e := ih (i + 1) (by omega)
      simp only [q_thN, if_pos c_27, ite_self] at e
      exact e
    · refine ev_ald0 dX11_thirst_30 ?_
      refine ev_getr (r := 49) dX11_thirst_31 fl_X11_22 rfl ?_
      refine ev_bipush (v := 15) dX11_thirst_34 (by decide) ?_
      refine ev_ild1 dX11_thirst_36 ?_
      refine ev_imul dX11_thirst_37 ?_
      rw [m15]
      refine ev_bipush (v := 10) dX11_thirst_38 (by decide) ?_
      refine ev_iadd dX11_thirst_40 ?_
      refine ev_ild4 dX11_thirst_41 ?_
      refine ev_iadd dX11_thirst_43 ?_
      refine ev_iald2 (j := 15 * lv + 10 + i) dX11_thirst_44 rfl (ix3 _ 10 _) (by omega) (by first | decide | omega) ?_
      rw [nS_t S lv T (by omega)]
      refine ev_goto 49 dX11_thirst_45 (by decide) ?_
      refine ev_iadd dX11_thirst_49 ?_
      refine ev_ist3 dX11_thirst_50 ?_
      refine ev_inc4 dX11_thirst_51 (nI_inc _) ?_
      refine ev_goto 5 dX11_thirst_54 (by decide) ?_
      have e := ih (i + 1) (by omega)
      simp only [q_thN, if_neg c_27, ite_self] at e
      exact e
set_option maxRecDepth 10000 in
theorem m_thirst1 (d : Nat) (S : gx_S) {ng nd : Nat} {ms gk dk sb : Nat → Int32} (hm : mH S ng nd ms gk dk sb) {lv : Nat} (hl : lv ≤ 1) (T : Tb) (hz : ∀ d, nd ≤ d → T.2.2.1 d = 0) (L : gx_L) : Cf d mX11_thirst [.ref 44, .int (nI lv), .int 1] (nS S lv T) L (p_thirst T) (nS S lv T) L := by
  refine ct_intro (loc := [some (.ref 44), some (.int (nI lv)), some (.int 1), none, none]) (by decide) (Nat.le_of_ble_eq_true rfl) rfl ?_
  refine ev_iconst (v := 0) dX11_thirst_0 (by decide) ?_
  refine ev_ist3 dX11_thirst_1 ?_
  refine ev_iconst (v := 0) dX11_thirst_2 (by decide) ?_
  refine ev_ist4 dX11_thirst_3 ?_
  have h49 := hm.2.2.2.1
  have e9 := th_nd hz (4 - nd)
  rw [show nd + (4 - nd) = 4 by omega] at e9
  refine ml_th1 d S hm hl T L ?_ nd 0 (Nat.zero_add _)
  refine ev_ild3 dX11_thirst_57 ?_
  refine ev_iret dX11_thirst_58 ?_
  exact ⟨_, rfl, e9.symm, rfl, rfl⟩
set_option maxRecDepth 10000 in
theorem m_thirst0 (d : Nat) (S : gx_S) {ng nd : Nat} {ms gk dk sb : Nat → Int32} (hm : mH S ng nd ms gk dk sb) {lv : Nat} (hl : lv ≤ 1) (T : Tb) (L : gx_L) : Cf d mX11_thirst [.ref 44, .int (nI lv), .int 0] (nS S lv T) L (q_thN dk T.2.2.1 nd) (nS S lv T) L := by
  refine ct_intro (loc := [some (.ref 44), some (.int (nI lv)), some (.int 0), none, none]) (by decide) (Nat.le_of_ble_eq_true rfl) rfl ?_
  refine ev_iconst (v := 0) dX11_thirst_0 (by decide) ?_
  refine ev_ist3 dX11_thirst_1 ?_
  refine ev_iconst (v := 0) dX11_thirst_2 (by decide) ?_
  refine ev_ist4 dX11_thirst_3 ?_
  refine ml_th0 d S hm hl T L ?_ nd 0 (Nat.zero_add _)
  refine ev_ild3 dX11_thirst_57 ?_
  refine ev_iret dX11_thirst_58 ?_
  exact ⟨_, rfl, rfl, rfl, rfl⟩
theorem age_q {b : Nat} (h : b ≤ 9) : nI b + (if (9 : Int32) ≤ nI b then 0 else 1) = p_age (nI b) := by
  have : ∀ b, b ≤ 9 → nI b + (if (9 : Int32) ≤ nI b then 0 else 1) = p_age (nI b) := by decide +kernel
  exact this b h
def q_age (gk : Nat → Int32) (T : Tb) (g : Nat) : Tb := (upd (upd T.1 g (T.1 g - (if gk g = 1 then 1 else 0))) g ((T.1 g - (if gk g = 1 then 1 else 0)) - (if gk g = 2 then (if p_age (T.2.1 g) = 1 then (T.1 g - (if gk g = 1 then 1 else 0)) / 4 else 0) else 0)), upd T.2.1 g (p_age (T.2.1 g)), T.2.2)
theorem q_age_eq (gk : Nat → Int32) (T : Tb) (g : Nat) : q_age gk T g = p_ageT gk T g := by
  unfold q_age p_ageT
  rw [upd_upd]
  by_cases h1 : gk g = 1
  · have h2 : ¬ gk g = 2 := fun h => absurd (h1.symm.trans h) (by decide)
    rw [if_pos h1, if_pos h1, if_neg h2, Int32.sub_zero]
  · rw [if_neg h1, if_neg h1, Int32.sub_zero]
    by_cases h2 : gk g = 2
    · rw [if_pos h2, if_pos h2]
      by_cases h3 : p_age (T.2.1 g) = 1
      · rw [if_pos h3, if_pos h3]
      · rw [if_neg h3, if_neg h3, Int32.sub_zero, upd_self]
    · rw [if_neg h2, if_neg h2, Int32.sub_zero, upd_self]
theorem okT_age {ms gk : Nat → Int32} {T : Tb} {g : Nat} (h : okT ms T) (hg : g < 5) (hc : ¬ T.1 g ≤ 0) : okT ms (p_ageT gk T g) := by
  obtain ⟨⟨a, m, ha, hm, ham, hm9⟩, b, hb, hb9⟩ := h.1 g hg
  have ha0 : 0 < a := by
    rcases Nat.eq_zero_or_pos a with e | e
    · exact absurd (by rw [ha, e]; decide) hc
    · exact e
  have hage : ∃ b', p_age (T.2.1 g) = nI b' ∧ b' ≤ 9 := by
    rw [hb]
    have : ∀ b : Fin 10, ∃ b' : Fin 10, p_age (nI b) = nI b' := by decide +kernel
    obtain ⟨b', e⟩ := this ⟨b, by omega⟩
    exact ⟨b', e, by omega⟩
  have key : ∀ (x : Nat), x ≤ a → okT ms (upd T.1 g (nI x), upd T.2.1 g (p_age (T.2.1 g)), T.2.2) := by
    intro x hx
    refine ⟨fun j hj => ⟨?_, ?_⟩, h.2⟩
    · by_cases e : j = g
      · subst e; exact ⟨x, m, upd_at _ _ _, hm, by omega, hm9⟩
      · obtain ⟨a', m', q1, q2⟩ := (h.1 j hj).1
        exact ⟨a', m', (upd_ne _ _ e).trans q1, q2⟩
    · by_cases e : j = g
      · subst e
        obtain ⟨b', q1, q2⟩ := hage
        exact ⟨b', (upd_at _ _ _).trans q1, q2⟩
      · obtain ⟨b', q1, q2⟩ := (h.1 j hj).2
        exact ⟨b', (upd_ne _ _ e).trans q1, q2⟩
  have keep : okT ms (T.1, upd T.2.1 g (p_age (T.2.1 g)), T.2.2) := by
    have := key a (Nat.le_refl a)
    rw [← ha, upd_self] at this
    exact this
  unfold p_ageT
  split
  · rw [ha, show nI a - 1 = nI (a - 1) from nI_sub (b := 1) ha0]
    exact key _ (by omega)
  · split
    · split
      · rw [ha, show nI a / 4 = nI (a / 4) from nI_div (b := 4) (by omega) (by decide), nI_sub (Nat.div_le_self a 4)]
        exact key _ (by omega)
      · exact keep
    · exact keep
theorem okT_hourN {ms gk : Nat → Int32} {T : Tb} (h : okT ms T) : ∀ n, n ≤ 5 → okT ms (p_hourN gk T n)
  | 0, _ => h
  | n + 1, hn => by
    unfold p_hourN
    split
    · exact okT_hourN h n (by omega)
    · rename_i hc
      exact okT_age (okT_hourN h n (by omega)) (by omega) hc
theorem okT_hour {ms gk : Nat → Int32} {T : Tb} (h : okT ms T) : okT ms (p_hourT gk T) := by
  have k := okT_hourN (gk := gk) h 5 (Nat.le_refl 5)
  unfold p_hourT
  generalize p_hourN gk T 5 = U at k ⊢
  exact ⟨k.1, k.2⟩
theorem hour_ng {ms gk : Nat → Int32} {T : Tb} {ng : Nat} (hT : okT ms T) (hz : ∀ g, ng ≤ g → ms g = 0) : ∀ k, ng + k ≤ 5 → p_hourN gk T (ng + k) = p_hourN gk T ng
  | 0, _ => rfl
  | k + 1, hk => by
    show (if (p_hourN gk T (ng + k)).1 (ng + k) ≤ 0 then p_hourN gk T (ng + k) else p_ageT gk (p_hourN gk T (ng + k)) (ng + k)) = _
    rw [if_pos (by rw [okT_0 (okT_hourN hT (ng + k) (by omega)) (by omega) (hz (ng + k) (by omega))]; decide)]
    exact hour_ng hT hz k (by omega)
theorem mb_rd (T : Tb) (x : Int32) (i : Nat) (f : Nat → Int32) (r : (Nat → Int32) × Int32) : ((upd T.1 i x, f, r) : Tb).1 i = x := upd_at _ _ _
theorem mb_rd2 (T : Tb) (x : Int32) (i : Nat) (f : Nat → Int32) (r : (Nat → Int32) × Int32) : ((f, upd T.2.1 i x, r) : Tb).2.1 i = x := upd_at _ _ _
set_option maxRecDepth 10000 in
theorem mb_1 (d : Nat) (S : gx_S) {ng nd : Nat} {ms gk dk sb : Nat → Int32} (hm : mH S ng nd ms gk dk sb) {lv : Nat} (hl : lv ≤ 1) (i : Nat) (hi : i < ng) (T : Tb) (hag : T.2.1 i + (if (9 : Int32) ≤ T.2.1 i then 0 else 1) = p_age (T.2.1 i)) (L : gx_L) {Q : Option Value → gx_S → gx_L → Prop} (kk : Ev mX11_passOn d 59 [some (.ref 44), some (.int (nI lv)), some (.int (nI (15 * lv))), some (.int (nI i))] [] (nS S lv (T.1, upd T.2.1 i (p_age (T.2.1 i)), T.2.2)) L Q) : Ev mX11_passOn d 26 [some (.ref 44), some (.int (nI lv)), some (.int (nI (15 * lv))), some (.int (nI i))] [] (nS S lv T) L Q := by
  have h59 := hm.2.1
  refine ev_ald0 dX11_passOn_26 ?_
  refine ev_getr (r := 49) dX11_passOn_27 fl_X11_22 rfl ?_
  refine ev_ild2 dX11_passOn_30 ?_
  refine ev_iconst (v := 5) dX11_passOn_31 (by decide) ?_
  refine ev_iadd dX11_passOn_32 ?_
  refine ev_ild3 dX11_passOn_33 ?_
  refine ev_iadd dX11_passOn_34 ?_
  refine ev_dup2 dX11_passOn_35 ?_
  refine ev_iald2 (j := 15 * lv + 5 + i) dX11_passOn_36 rfl (ix3 _ 5 _) (by omega) (by first | decide | omega) ?_
  rw [nS_a S lv _ (by omega)]
  refine ev_ald0 dX11_passOn_37 ?_
  refine ev_getr (r := 49) dX11_passOn_38 fl_X11_22 rfl ?_
  refine ev_ild2 dX11_passOn_41 ?_
  refine ev_iconst (v := 5) dX11_passOn_42 (by decide) ?_
  refine ev_iadd dX11_passOn_43 ?_
  refine ev_ild3 dX11_passOn_44 ?_
  refine ev_iadd dX11_passOn_45 ?_
  refine ev_iald2 (j := 15 * lv + 5 + i) dX11_passOn_46 rfl (ix3 _ 5 _) (by omega) (by first | decide | omega) ?_
  rw [nS_a S lv _ (by omega)]
  refine ev_bipush (v := 9) dX11_passOn_47 (by decide) ?_
  refine ev_icmp_ge 56 dX11_passOn_49 (by decide) (fun c_49 => ?_) (fun c_49 => ?_)
  · refine ev_iconst (v := 0) dX11_passOn_56 (by decide) ?_
    refine ev_iadd dX11_passOn_57 ?_
    refine ev_iast2 (j := 15 * lv + 5 + i) dX11_passOn_58 rfl (ix3 _ 5 _) (by omega) (by first | decide | omega) ?_
    rw [nS_ua S lv _ (by omega)]
    rw [show T.2.1 i + 0 = p_age (T.2.1 i) from by rw [← hag, if_pos c_49]]
    exact kk
  · refine ev_iconst (v := 1) dX11_passOn_52 (by decide) ?_
    refine ev_goto 57 dX11_passOn_53 (by decide) ?_
    refine ev_iadd dX11_passOn_57 ?_
    refine ev_iast2 (j := 15 * lv + 5 + i) dX11_passOn_58 rfl (ix3 _ 5 _) (by omega) (by first | decide | omega) ?_
    rw [nS_ua S lv _ (by omega)]
    rw [show T.2.1 i + 1 = p_age (T.2.1 i) from by rw [← hag, if_neg c_49]]
    exact kk
set_option maxRecDepth 10000 in
theorem mb_2 (d : Nat) (S : gx_S) {ng nd : Nat} {ms gk dk sb : Nat → Int32} (hm : mH S ng nd ms gk dk sb) {lv : Nat} (hl : lv ≤ 1) (i : Nat) (hi : i < ng) (T : Tb) (L : gx_L) {Q : Option Value → gx_S → gx_L → Prop} (kk : Ev mX11_passOn d 85 [some (.ref 44), some (.int (nI lv)), some (.int (nI (15 * lv))), some (.int (nI i))] [] (nS S lv (upd T.1 i (T.1 i - (if gk i = 1 then 1 else 0)), upd T.2.1 i (p_age (T.2.1 i)), T.2.2)) L Q) : Ev mX11_passOn d 59 [some (.ref 44), some (.int (nI lv)), some (.int (nI (15 * lv))), some (.int (nI i))] [] (nS S lv (T.1, upd T.2.1 i (p_age (T.2.1 i)), T.2.2)) L Q := by
  have h59 := hm.2.1
  have hdd := hm.2.2.2.2.1 i hi
  refine ev_ald0 dX11_passOn_59 ?_
  refine ev_getr (r := 49) dX11_passOn_60 fl_X11_22 rfl ?_
  refine ev_ild2 dX11_passOn_63 ?_
  refine ev_ild3 dX11_passOn_64 ?_
  refine ev_iadd dX11_passOn_65 ?_
  refine ev_dup2 dX11_passOn_66 ?_
  refine ev_iald2 (j := 15 * lv + i) dX11_passOn_67 rfl (ix2 _ _) (by omega) (by first | decide | omega) ?_
  rw [nS_c S lv _ (by omega)]
  refine ev_ald0 dX11_passOn_68 ?_
  refine ev_getr (r := 46) dX11_passOn_69 fl_X11_13 rfl ?_
  refine ev_ild3 dX11_passOn_72 ?_
  refine ev_iald' dX11_passOn_73 rfl (by omega) (by decide) ?_
  rw [nS_o S lv _ (by decide), hdd.2]
  refine ev_iconst (v := 1) dX11_passOn_74 (by decide) ?_
  refine ev_icmp_ne 82 dX11_passOn_75 (by decide) (fun c_75 => ?_) (fun c_75 => ?_)
  · refine ev_iconst (v := 0) dX11_passOn_82 (by decide) ?_
    refine ev_isub dX11_passOn_83 ?_
    refine ev_iast2 (j := 15 * lv + i) dX11_passOn_84 rfl (ix2 _ _) (by omega) (by first | decide | omega) ?_
    rw [nS_uc S lv _ (by omega)]
    rw [show T.1 i - 0 = T.1 i - (if gk i = 1 then 1 else 0) from by rw [if_neg c_75]]
    exact kk
  · refine ev_iconst (v := 1) dX11_passOn_78 (by decide) ?_
    refine ev_goto 83 dX11_passOn_79 (by decide) ?_
    refine ev_isub dX11_passOn_83 ?_
    refine ev_iast2 (j := 15 * lv + i) dX11_passOn_84 rfl (ix2 _ _) (by omega) (by first | decide | omega) ?_
    rw [nS_uc S lv _ (by omega)]
    rw [show T.1 i - 1 = T.1 i - (if gk i = 1 then 1 else 0) from by rw [if_pos c_75]]
    exact kk
set_option maxRecDepth 10000 in
theorem mb_3 (d : Nat) (S : gx_S) {ng nd : Nat} {ms gk dk sb : Nat → Int32} (hm : mH S ng nd ms gk dk sb) {lv : Nat} (hl : lv ≤ 1) (i : Nat) (hi : i < ng) (T : Tb) (L : gx_L) {Q : Option Value → gx_S → gx_L → Prop} (kk : Ev mX11_passOn d 134 [some (.ref 44), some (.int (nI lv)), some (.int (nI (15 * lv))), some (.int (nI i))] [] (nS S lv (q_age gk T i)) L Q) : Ev mX11_passOn d 85 [some (.ref 44), some (.int (nI lv)), some (.int (nI (15 * lv))), some (.int (nI i))] [] (nS S lv (upd T.1 i (T.1 i - (if gk i = 1 then 1 else 0)), upd T.2.1 i (p_age (T.2.1 i)), T.2.2)) L Q := by
  have h59 := hm.2.1
  have hdd := hm.2.2.2.2.1 i hi
  refine ev_ald0 dX11_passOn_85 ?_
  refine ev_getr (r := 49) dX11_passOn_86 fl_X11_22 rfl ?_
  refine ev_ild2 dX11_passOn_89 ?_
  refine ev_ild3 dX11_passOn_90 ?_
  refine ev_iadd dX11_passOn_91 ?_
  refine ev_dup2 dX11_passOn_92 ?_
  refine ev_iald2 (j := 15 * lv + i) dX11_passOn_93 rfl (ix2 _ _) (by omega) (by first | decide | omega) ?_
  rw [nS_c S lv _ (by omega), mb_rd]
  refine ev_ald0 dX11_passOn_94 ?_
  refine ev_getr (r := 46) dX11_passOn_95 fl_X11_13 rfl ?_
  refine ev_ild3 dX11_passOn_98 ?_
  refine ev_iald' dX11_passOn_99 rfl (by omega) (by decide) ?_
  rw [nS_o S lv _ (by decide), hdd.2]
  refine ev_iconst (v := 2) dX11_passOn_100 (by decide) ?_
  refine ev_icmp_ne 131 dX11_passOn_101 (by decide) (fun c_101 => ?_) (fun c_101 => ?_)
  · refine ev_iconst (v := 0) dX11_passOn_131 (by decide) ?_
    refine ev_isub dX11_passOn_132 ?_
    refine ev_iast2 (j := 15 * lv + i) dX11_passOn_133 rfl (ix2 _ _) (by omega) (by first | decide | omega) ?_
    rw [nS_uc S lv _ (by omega)]
    rw [show (T.1 i - (if gk i = 1 then 1 else 0)) - 0 = (T.1 i - (if gk i = 1 then 1 else 0)) - (if gk i = 2 then (if p_age (T.2.1 i) = 1 then (T.1 i - (if gk i = 1 then 1 else 0)) / 4 else 0) else 0) from by rw [if_neg c_101]]
    exact kk
  · refine ev_ald0 dX11_passOn_104 ?_
    refine ev_getr (r := 49) dX11_passOn_105 fl_X11_22 rfl ?_
    refine ev_ild2 dX11_passOn_108 ?_
    refine ev_iconst (v := 5) dX11_passOn_109 (by decide) ?_
    refine ev_iadd dX11_passOn_110 ?_
    refine ev_ild3 dX11_passOn_111 ?_
    refine ev_iadd dX11_passOn_112 ?_
    refine ev_iald2 (j := 15 * lv + 5 + i) dX11_passOn_113 rfl (ix3 _ 5 _) (by omega) (by first | decide | omega) ?_
    rw [nS_a S lv _ (by omega), mb_rd2]
    refine ev_iconst (v := 1) dX11_passOn_114 (by decide) ?_
    refine ev_icmp_ne 131 dX11_passOn_115 (by decide) (fun c_115 => ?_) (fun c_115 => ?_)
    · refine ev_iconst (v := 0) dX11_passOn_131 (by decide) ?_
      refine ev_isub dX11_passOn_132 ?_
      refine ev_iast2 (j := 15 * lv + i) dX11_passOn_133 rfl (ix2 _ _) (by omega) (by first | decide | omega) ?_
      rw [nS_uc S lv _ (by omega)]
      rw [show (T.1 i - (if gk i = 1 then 1 else 0)) - 0 = (T.1 i - (if gk i = 1 then 1 else 0)) - (if gk i = 2 then (if p_age (T.2.1 i) = 1 then (T.1 i - (if gk i = 1 then 1 else 0)) / 4 else 0) else 0) from by rw [if_pos c_101, if_neg c_115]]
      exact kk
    · refine ev_ald0 dX11_passOn_118 ?_
      refine ev_getr (r := 49) dX11_passOn_119 fl_X11_22 rfl ?_
      refine ev_ild2 dX11_passOn_122 ?_
      refine ev_ild3 dX11_passOn_123 ?_
      refine ev_iadd dX11_passOn_124 ?_
      refine ev_iald2 (j := 15 * lv + i) dX11_passOn_125 rfl (ix2 _ _) (by omega) (by first | decide | omega) ?_
      rw [nS_c S lv _ (by omega), mb_rd]
      refine ev_iconst (v := 4) dX11_passOn_126 (by decide) ?_
      refine ev_idiv dX11_passOn_127 (by decide) ?_
      refine ev_goto 132 dX11_passOn_128 (by decide) ?_
      refine ev_isub dX11_passOn_132 ?_
      refine ev_iast2 (j := 15 * lv + i) dX11_passOn_133 rfl (ix2 _ _) (by omega) (by first | decide | omega) ?_
      rw [nS_uc S lv _ (by omega)]
      rw [show (T.1 i - (if gk i = 1 then 1 else 0)) - (T.1 i - (if gk i = 1 then 1 else 0)) / 4 = (T.1 i - (if gk i = 1 then 1 else 0)) - (if gk i = 2 then (if p_age (T.2.1 i) = 1 then (T.1 i - (if gk i = 1 then 1 else 0)) / 4 else 0) else 0) from by rw [if_pos c_101, if_pos c_115]]
      exact kk
theorem mb_pass (d : Nat) (S : gx_S) {ng nd : Nat} {ms gk dk sb : Nat → Int32} (hm : mH S ng nd ms gk dk sb) {lv : Nat} (hl : lv ≤ 1) (i : Nat) (hi : i < ng) (T : Tb) (hag : T.2.1 i + (if (9 : Int32) ≤ T.2.1 i then 0 else 1) = p_age (T.2.1 i)) (L : gx_L) {Q : Option Value → gx_S → gx_L → Prop} (kk : Ev mX11_passOn d 134 [some (.ref 44), some (.int (nI lv)), some (.int (nI (15 * lv))), some (.int (nI i))] [] (nS S lv (q_age gk T i)) L Q) : Ev mX11_passOn d 26 [some (.ref 44), some (.int (nI lv)), some (.int (nI (15 * lv))), some (.int (nI i))] [] (nS S lv T) L Q :=
  mb_1 d S hm hl i hi T hag L (mb_2 d S hm hl i hi T L (mb_3 d S hm hl i hi T L kk))
set_option maxRecDepth 10000 in
theorem ml_pass (d : Nat) (S : gx_S) {ng nd : Nat} {ms gk dk sb : Nat → Int32} (hm : mH S ng nd ms gk dk sb) {lv : Nat} (hl : lv ≤ 1) (T : Tb) (hT : okT ms T) (L : gx_L) {Q : Option Value → gx_S → gx_L → Prop} (kk : Ev mX11_passOn d 140 [some (.ref 44), some (.int (nI lv)), some (.int (nI (15 * lv))), some (.int (nI (ng)))] [] (nS S lv (p_hourN gk T ng)) L Q) : ∀ (nn i : Nat), i + nn = ng → Ev mX11_passOn d 7 [some (.ref 44), some (.int (nI lv)), some (.int (nI (15 * lv))), some (.int (nI (i)))] [] (nS S lv (p_hourN gk T i)) L Q := by
  have h59 := hm.2.1
  intro nn
  induction nn with
  | zero =>
    intro i hi
    obtain rfl : i = ng := hi
    refine ev_ild3 dX11_passOn_7 ?_
    refine ev_ald0 dX11_passOn_8 ?_
    refine ev_geti dX11_passOn_9 fl_X11_56 rfl ?_
    refine ev_icmp_ge_t 140 dX11_passOn_12 (by decide) (by rw [nS_o S lv _ (by decide), hm.1]; exact nI_le (Nat.le_refl _) (by have := hm.2.1; omega)) ?_
    exact kk
  | succ nn ih =>
    intro i hi
    have hi5 : i < ng := by omega
    have hH := okT_hourN (gk := gk) hT i (by omega)
    refine ev_ild3 dX11_passOn_7 ?_
    refine ev_ald0 dX11_passOn_8 ?_
    refine ev_geti dX11_passOn_9 fl_X11_56 rfl ?_
    refine ev_icmp_ge_f 140 dX11_passOn_12 (by decide) (by rw [nS_o S lv _ (by decide), hm.1]; exact nI_ge (by omega) (by have := hm.2.1; omega)) ?_
    refine ev_ald0 dX11_passOn_15 ?_
    refine ev_getr (r := 49) dX11_passOn_16 fl_X11_22 rfl ?_
    refine ev_ild2 dX11_passOn_19 ?_
    refine ev_ild3 dX11_passOn_20 ?_
    refine ev_iadd dX11_passOn_21 ?_
    refine ev_iald2 (j := 15 * lv + i) dX11_passOn_22 rfl (ix2 _ _) (by omega) (by first | decide | omega) ?_
    rw [nS_c S lv _ (by omega)]
    refine ev_if_le 134 dX11_passOn_23 (by decide) (fun c_23 => ?_) (fun c_23 => ?_)
    · refine ev_inc3 dX11_passOn_134 (nI_inc _) ?_
      refine ev_goto 7 dX11_passOn_137 (by decide) ?_
      have e := ih (i + 1) (by omega)
      simp only [p_hourN, if_pos c_23] at e
      exact e
    · have hdd := hm.2.2.2.2.1 i (by omega)
      obtain ⟨b, hb, hb9⟩ := (hH.1 i (by omega)).2
      have hag : (p_hourN gk T i).2.1 i + (if (9 : Int32) ≤ (p_hourN gk T i).2.1 i then 0 else 1) = p_age ((p_hourN gk T i).2.1 i) := by rw [hb]; exact age_q hb9
      refine mb_pass d S hm hl i hi5 (p_hourN gk T i) hag L ?_
      refine ev_inc3 dX11_passOn_134 (nI_inc _) ?_
      refine ev_goto 7 dX11_passOn_137 (by decide) ?_
      have e := ih (i + 1) (by omega)
      simp only [p_hourN, if_neg c_23] at e
      rw [← q_age_eq] at e
      exact e
set_option maxRecDepth 10000 in
theorem m_passOn (d : Nat) (S : gx_S) {ng nd : Nat} {ms gk dk sb : Nat → Int32} (hm : mH S ng nd ms gk dk sb) {lv : Nat} (hl : lv ≤ 1) (T : Tb) (hT : okT ms T) (L : gx_L) : Cw d mX11_passOn [.ref 44, .int (nI lv)] (nS S lv T) L (nS S lv (p_hourT gk T)) L := by
  refine ct_intro (loc := [some (.ref 44), some (.int (nI lv)), none, none]) (by decide) (Nat.le_of_ble_eq_true rfl) rfl ?_
  have h59 := hm.2.1
  have e9 := hour_ng (gk := gk) hT (fun g h => (hm.2.2.2.2.2.2.1 g h).1) (5 - ng) (by omega)
  rw [show ng + (5 - ng) = 5 by omega] at e9
  refine ev_bipush (v := 15) dX11_passOn_0 (by decide) ?_
  refine ev_ild1 dX11_passOn_2 ?_
  refine ev_imul dX11_passOn_3 ?_
  rw [m15]
  refine ev_ist2 dX11_passOn_4 ?_
  refine ev_iconst (v := 0) dX11_passOn_5 (by decide) ?_
  refine ev_ist3 dX11_passOn_6 ?_
  refine ml_pass d S hm hl T hT L ?_ ng 0 (Nat.zero_add _)
  rw [← e9]
  refine ev_ald0 dX11_passOn_140 ?_
  refine ev_getr (r := 49) dX11_passOn_141 fl_X11_22 rfl ?_
  refine ev_ild2 dX11_passOn_144 ?_
  refine ev_bipush (v := 14) dX11_passOn_145 (by decide) ?_
  refine ev_iadd dX11_passOn_147 ?_
  refine ev_dup2 dX11_passOn_148 ?_
  refine ev_iald2 (j := 15 * lv + 14) dX11_passOn_149 rfl (ix2 _ 14) (by omega) (by first | decide | omega) ?_
  rw [nS_h]
  refine ev_iconst (v := 1) dX11_passOn_150 (by decide) ?_
  refine ev_iadd dX11_passOn_151 ?_
  refine ev_iast2 (j := 15 * lv + 14) dX11_passOn_152 rfl (ix2 _ 14) (by omega) (by first | decide | omega) ?_
  rw [nS_uh]
  refine ev_vret dX11_passOn_153 ?_
  exact ⟨rfl, rfl, rfl⟩
