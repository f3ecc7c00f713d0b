theorem in60 (n : Int32) : inL n.toInt64 0 60 = decide (¬ n < 0 ∧ ¬ 60 < n) := inL_32 n 0 60
theorem in10 (n : Int32) : inL n.toInt64 0 10 = decide (¬ n < 0 ∧ ¬ 10 < n) := inL_32 n 0 10
/-! ===== the reference's leaks ===== -/
def q_lkN (s : Int32) (T : Tb) : Nat → Tb
  | 0 => T
  | n + 1 => (upd (q_lkN s T n).1 n ((q_lkN s T n).1 n - (if bt s n = true then (if (q_lkN s T n).1 n ≤ 0 then 0 else 1) else 0)), (q_lkN s T n).2)
def q_wt (s x : Int32) : Nat → Int32
  | 0 => 1
  | n + 1 => q_wt s x n * (if bt s n = true then x else 10 - x)
def q_all (x : Int32) (ng : Nat) : Nat → Int32
  | 0 => 0
  | n + 1 => q_all x ng n + q_wt (nI n) x ng
def q_som (tl : Nat → Int32) (m x : Int32) (ng : Nat) : Nat → Int32
  | 0 => 0
  | n + 1 => q_som tl m x ng n + (if tl n < m then 0 else q_wt (nI n) x ng)
theorem okT_qlk {ms : Nat → Int32} {s : Int32} {T : Tb} (h : okT ms T) : ∀ n, n ≤ 5 → okT ms (q_lkN s T n)
  | 0, _ => h
  | n + 1, hn => by
    have ih := okT_qlk (s := s) h n (by omega)
    refine ⟨fun j hj => ⟨?_, (ih.1 j hj).2⟩, ih.2⟩
    by_cases e : j = n
    · subst e
      obtain ⟨⟨a, m, h1, h2, h3, h4⟩, -⟩ := ih.1 j hj
      have e1 : (q_lkN s T (j + 1)).1 j = (q_lkN s T j).1 j - (if bt s j = true then (if (q_lkN s T j).1 j ≤ 0 then 0 else 1) else 0) := upd_at _ _ _
      rw [e1, h1]
      by_cases hb : bt s j = true
      · rw [if_pos hb]
        rcases Nat.eq_zero_or_pos a with h0 | h0
        · subst h0
          exact ⟨0, m, by decide, h2, h3, h4⟩
        · exact ⟨a - 1, m, by rw [if_neg (show ¬ nI a ≤ 0 from nI_ge (b := a) (a := 0) h0 (by omega))]; exact nI_sub (b := 1) h0, h2, by omega, h4⟩
      · rw [if_neg hb, Int32.sub_zero]
        exact ⟨a, m, rfl, h2, h3, h4⟩
    · obtain ⟨⟨a', m', h3, h4⟩, -⟩ := ih.1 j hj
      exact ⟨a', m', (upd_ne _ _ e).trans h3, h4⟩
set_option maxRecDepth 10000 in
theorem ml_lk1 (d : Nat) (S : gx_S) {ng nd : Nat} {ms gk dk sb : Nat → Int32} (hm : mH S ng nd ms gk dk sb) {T : Tb} (h0 : mT (S 49) 0 = T) (m x w so al : Int32) (st : Nat) (L : gx_L) {Q : Option Value → gx_S → gx_L → Prop}  (kk : Ev mX11_leak (d + 1) 136 [some (.ref 44), some (.int m), some (.int x), some (.int w), some (.int so), some (.int al), some (.int (nI st)), some (.int (q_wt (nI st) x (ng))), some (.int (nI (ng)))] [] (nS S 1 (q_lkN (nI st) T (ng))) L Q) : ∀ (nn i : Nat), i + nn = ng → Ev mX11_leak (d + 1) 57 [some (.ref 44), some (.int m), some (.int x), some (.int w), some (.int so), some (.int al), some (.int (nI st)), some (.int (q_wt (nI st) x (i))), some (.int (nI (i)))] [] (nS S 1 (q_lkN (nI st) T (i))) L Q := by
  intro nn
  induction nn with
  | zero =>
    intro i hi
    obtain rfl : i = ng := hi
    have h59 := hm.2.1
    refine ev_ild8 dX11_leak_57 ?_
    refine ev_ald0 dX11_leak_59 ?_
    refine ev_geti dX11_leak_60 fl_X11_56 rfl ?_
    refine ev_icmp_ge_t 136 dX11_leak_63 (by decide) (by rw [nS_o S 1 _ (by decide), hm.1]; exact nI_le (Nat.le_refl _) (by omega)) ?_
    exact kk
  | succ nn ih =>
    intro i hi
    have h59 := hm.2.1
    refine ev_ild8 dX11_leak_57 ?_
    refine ev_ald0 dX11_leak_59 ?_
    refine ev_geti dX11_leak_60 fl_X11_56 rfl ?_
    refine ev_icmp_ge_f 136 dX11_leak_63 (by decide) (by rw [nS_o S 1 _ (by decide), hm.1]; exact nI_ge (by omega) (by omega)) ?_
    refine ev_ild7 dX11_leak_66 ?_
    refine ev_ild6 dX11_leak_68 ?_
    refine ev_ild8 dX11_leak_70 ?_
    refine ev_S2i (M' := mX11_has) dX11_leak_72 lk_X11_77 sX11_has (m_has d _ _ _ _) (Nat.le_refl _) (Nat.le_of_ble_eq_true rfl) ?_
    refine ev_if_eq 82 dX11_leak_75 (by decide) (fun c_75 => ?_) (fun c_75 => ?_)
    · have b_75 := gx_b_n.mp c_75
      refine ev_bipush (v := 10) dX11_leak_82 (by decide) ?_
      refine ev_ild2 dX11_leak_84 ?_
      refine ev_isub dX11_leak_85 ?_
      refine ev_imul dX11_leak_86 ?_
      refine ev_ist7 dX11_leak_87 ?_
      refine ev_ald0 dX11_leak_89 ?_
      refine ev_getr (r := 49) dX11_leak_90 fl_X11_22 rfl ?_
      refine ev_bipush (v := 15) dX11_leak_93 (by decide) ?_
      refine ev_ild8 dX11_leak_95 ?_
      refine ev_iadd dX11_leak_97 ?_
      refine ev_dup2 dX11_leak_98 ?_
      refine ev_iald2 (j := 15 * 1 + i) dX11_leak_99 rfl (ix2 15 _) (by omega) (by first | decide | omega) ?_
      rw [nS_c S 1 _ (by omega)]
      refine ev_ild6 dX11_leak_100 ?_
      refine ev_ild8 dX11_leak_102 ?_
      refine ev_S2i (M' := mX11_has) dX11_leak_104 lk_X11_77 sX11_has (m_has d _ _ _ _) (Nat.le_refl _) (Nat.le_of_ble_eq_true rfl) ?_
      refine ev_if_eq 127 dX11_leak_107 (by decide) (fun c_107 => ?_) (fun c_107 => ?_)
      · have b_107 := gx_b_n.mp c_107
        refine ev_iconst (v := 0) dX11_leak_127 (by decide) ?_
        refine ev_isub dX11_leak_128 ?_
        refine ev_iast2 (j := 15 * 1 + i) dX11_leak_129 rfl (ix2 15 _) (by omega) (by first | decide | omega) ?_
        rw [nS_uc S 1 _ (by omega)]
        refine ev_inc8 dX11_leak_130 (nI_inc _) ?_
        refine ev_goto 57 dX11_leak_133 (by decide) ?_
        have e8 : q_lkN (nI st) T (i + 1) = (upd (q_lkN (nI st) T i).1 i ((q_lkN (nI st) T i).1 i - (if bt (nI st) i = true then (if (q_lkN (nI st) T i).1 i ≤ 0 then 0 else 1) else 0)), (q_lkN (nI st) T i).2) := rfl
        have e7 : q_wt (nI st) x (i + 1) = q_wt (nI st) x i * (if bt (nI st) i = true then x else 10 - x) := rfl
        rw [if_neg b_75] at e8
        rw [if_neg b_75] at e7
        have e := ih (i + 1) (by omega)
        rw [e8, e7] at e
        exact e
      · have b_107 := gx_b_y.mp c_107
        refine ev_ald0 dX11_leak_110 ?_
        refine ev_getr (r := 49) dX11_leak_111 fl_X11_22 rfl ?_
        refine ev_bipush (v := 15) dX11_leak_114 (by decide) ?_
        refine ev_ild8 dX11_leak_116 ?_
        refine ev_iadd dX11_leak_118 ?_
        refine ev_iald2 (j := 15 * 1 + i) dX11_leak_119 rfl (ix2 15 _) (by omega) (by first | decide | omega) ?_
        rw [nS_c S 1 _ (by omega)]
        refine ev_if_le 127 dX11_leak_120 (by decide) (fun c_120 => ?_) (fun c_120 => ?_)
        · refine ev_iconst (v := 0) dX11_leak_127 (by decide) ?_
          refine ev_isub dX11_leak_128 ?_
          refine ev_iast2 (j := 15 * 1 + i) dX11_leak_129 rfl (ix2 15 _) (by omega) (by first | decide | omega) ?_
          rw [nS_uc S 1 _ (by omega)]
          refine ev_inc8 dX11_leak_130 (nI_inc _) ?_
          refine ev_goto 57 dX11_leak_133 (by decide) ?_
          exact absurd b_107 b_75
        · refine ev_iconst (v := 1) dX11_leak_123 (by decide) ?_
          refine ev_goto 128 dX11_leak_124 (by decide) ?_
          refine ev_isub dX11_leak_128 ?_
          refine ev_iast2 (j := 15 * 1 + i) dX11_leak_129 rfl (ix2 15 _) (by omega) (by first | decide | omega) ?_
          rw [nS_uc S 1 _ (by omega)]
          refine ev_inc8 dX11_leak_130 (nI_inc _) ?_
          refine ev_goto 57 dX11_leak_133 (by decide) ?_
          exact absurd b_107 b_75
    · have b_75 := gx_b_y.mp c_75
      refine ev_ild2 dX11_leak_78 ?_
      refine ev_goto 86 dX11_leak_79 (by decide) ?_
      refine ev_imul dX11_leak_86 ?_
      refine ev_ist7 dX11_leak_87 ?_
      refine ev_ald0 dX11_leak_89 ?_
      refine ev_getr (r := 49) dX11_leak_90 fl_X11_22 rfl ?_
      refine ev_bipush (v := 15) dX11_leak_93 (by decide) ?_
      refine ev_ild8 dX11_leak_95 ?_
      refine ev_iadd dX11_leak_97 ?_
      refine ev_dup2 dX11_leak_98 ?_
      refine ev_iald2 (j := 15 * 1 + i) dX11_leak_99 rfl (ix2 15 _) (by omega) (by first | decide | omega) ?_
      rw [nS_c S 1 _ (by omega)]
      refine ev_ild6 dX11_leak_100 ?_
      refine ev_ild8 dX11_leak_102 ?_
      refine ev_S2i (M' := mX11_has) dX11_leak_104 lk_X11_77 sX11_has (m_has d _ _ _ _) (Nat.le_refl _) (Nat.le_of_ble_eq_true rfl) ?_
      refine ev_if_eq 127 dX11_leak_107 (by decide) (fun c_107 => ?_) (fun c_107 => ?_)
      · have b_107 := gx_b_n.mp c_107
        refine ev_iconst (v := 0) dX11_leak_127 (by decide) ?_
        refine ev_isub dX11_leak_128 ?_
        refine ev_iast2 (j := 15 * 1 + i) dX11_leak_129 rfl (ix2 15 _) (by omega) (by first | decide | omega) ?_
        rw [nS_uc S 1 _ (by omega)]
        refine ev_inc8 dX11_leak_130 (nI_inc _) ?_
        refine ev_goto 57 dX11_leak_133 (by decide) ?_
        exact absurd b_75 b_107
      · have b_107 := gx_b_y.mp c_107
        refine ev_ald0 dX11_leak_110 ?_
        refine ev_getr (r := 49) dX11_leak_111 fl_X11_22 rfl ?_
        refine ev_bipush (v := 15) dX11_leak_114 (by decide) ?_
        refine ev_ild8 dX11_leak_116 ?_
        refine ev_iadd dX11_leak_118 ?_
        refine ev_iald2 (j := 15 * 1 + i) dX11_leak_119 rfl (ix2 15 _) (by omega) (by first | decide | omega) ?_
        rw [nS_c S 1 _ (by omega)]
        refine ev_if_le 127 dX11_leak_120 (by decide) (fun c_120 => ?_) (fun c_120 => ?_)
        · refine ev_iconst (v := 0) dX11_leak_127 (by decide) ?_
          refine ev_isub dX11_leak_128 ?_
          refine ev_iast2 (j := 15 * 1 + i) dX11_leak_129 rfl (ix2 15 _) (by omega) (by first | decide | omega) ?_
          rw [nS_uc S 1 _ (by omega)]
          refine ev_inc8 dX11_leak_130 (nI_inc _) ?_
          refine ev_goto 57 dX11_leak_133 (by decide) ?_
          have e8 : q_lkN (nI st) T (i + 1) = (upd (q_lkN (nI st) T i).1 i ((q_lkN (nI st) T i).1 i - (if bt (nI st) i = true then (if (q_lkN (nI st) T i).1 i ≤ 0 then 0 else 1) else 0)), (q_lkN (nI st) T i).2) := rfl
          have e7 : q_wt (nI st) x (i + 1) = q_wt (nI st) x i * (if bt (nI st) i = true then x else 10 - x) := rfl
          rw [if_pos b_75, if_pos c_120] at e8
          rw [if_pos b_75] at e7
          have e := ih (i + 1) (by omega)
          rw [e8, e7] at e
          exact e
        · refine ev_iconst (v := 1) dX11_leak_123 (by decide) ?_
          refine ev_goto 128 dX11_leak_124 (by decide) ?_
          refine ev_isub dX11_leak_128 ?_
          refine ev_iast2 (j := 15 * 1 + i) dX11_leak_129 rfl (ix2 15 _) (by omega) (by first | decide | omega) ?_
          rw [nS_uc S 1 _ (by omega)]
          refine ev_inc8 dX11_leak_130 (nI_inc _) ?_
          refine ev_goto 57 dX11_leak_133 (by decide) ?_
          have e8 : q_lkN (nI st) T (i + 1) = (upd (q_lkN (nI st) T i).1 i ((q_lkN (nI st) T i).1 i - (if bt (nI st) i = true then (if (q_lkN (nI st) T i).1 i ≤ 0 then 0 else 1) else 0)), (q_lkN (nI st) T i).2) := rfl
          have e7 : q_wt (nI st) x (i + 1) = q_wt (nI st) x i * (if bt (nI st) i = true then x else 10 - x) := rfl
          rw [if_pos b_75, if_neg c_120] at e8
          rw [if_pos b_75] at e7
          have e := ih (i + 1) (by omega)
          rw [e8, e7] at e
          exact e
set_option maxRecDepth 10000 in
theorem ml_leak (d : Nat) (S : gx_S) {ng nd : Nat} {ms gk dk sb : Nat → Int32} (hm : mH S ng nd ms gk dk sb) {T : Tb} (h0 : mT (S 49) 0 = T) (hT : okT ms T) (m x w : Int32) (L : gx_L) {Q : Option Value → gx_S → gx_L → Prop} (kk : ∀ (T0 : Tb) (z7 z8 : Option Value), Ev mX11_leak (d + 4) 176 [some (.ref 44), some (.int m), some (.int x), some (.int w), some (.int (q_som (fun n => p_taxes gk ms (p_ev dk sb 15 (q_lkN (nI n) T ng))) m x ng (2 ^ ng))), some (.int (q_all x ng (2 ^ ng))), some (.int (nI (2 ^ ng))), z7, z8] [] (nS S 1 T0) L Q) : ∀ (nn i : Nat) (T0 : Tb) (z7 z8 : Option Value), i + nn = 2 ^ ng → Ev mX11_leak (d + 4) 36 [some (.ref 44), some (.int m), some (.int x), some (.int w), some (.int (q_som (fun n => p_taxes gk ms (p_ev dk sb 15 (q_lkN (nI n) T ng))) m x ng (i))), some (.int (q_all x ng (i))), some (.int (nI (i))), z7, z8] [] (nS S 1 T0) L Q := by
  intro nn
  induction nn with
  | zero =>
    intro i T0 z7 z8 hi
    obtain rfl : i = 2 ^ ng := hi
    have h59 := hm.2.1
    have h32 := p2_5 ng h59
    refine ev_ild6 dX11_leak_36 ?_
    refine ev_iconst (v := 1) dX11_leak_38 (by decide) ?_
    refine ev_ald0 dX11_leak_39 ?_
    refine ev_geti dX11_leak_40 fl_X11_56 rfl ?_
    refine ev_ishl dX11_leak_43 ?_
    refine ev_icmp_ge_t 176 dX11_leak_44 (by decide) (by rw [nS_o S 1 _ (by decide), hm.1, shl1 ng (by omega)]; exact nI_le (Nat.le_refl _) (by omega)) ?_
    exact kk T0 z7 z8
  | succ nn ih =>
    intro i T0 z7 z8 hi
    have h59 := hm.2.1
    have h32 := p2_5 ng h59
    refine ev_ild6 dX11_leak_36 ?_
    refine ev_iconst (v := 1) dX11_leak_38 (by decide) ?_
    refine ev_ald0 dX11_leak_39 ?_
    refine ev_geti dX11_leak_40 fl_X11_56 rfl ?_
    refine ev_ishl dX11_leak_43 ?_
    refine ev_icmp_ge_f 176 dX11_leak_44 (by decide) (by rw [nS_o S 1 _ (by decide), hm.1, shl1 ng (by omega)]; exact nI_ge (by omega) (by omega)) ?_
    refine ev_ald0 dX11_leak_47 ?_
    refine ev_V0v (M' := mX11_layTrial) dX11_leak_48 lk_X11_164 vX11_layTrial rfl (m_lay1 (d + 3) S T0 h0 L) (Nat.le_refl _) (Nat.le_of_ble_eq_true rfl) ?_
    refine ev_iconst (v := 1) dX11_leak_51 (by decide) ?_
    refine ev_ist7 dX11_leak_52 ?_
    refine ev_iconst (v := 0) dX11_leak_54 (by decide) ?_
    refine ev_ist8 dX11_leak_55 ?_
    refine ml_lk1 (d + 3) S hm h0 m x w _ _ i L ?_ ng 0 (Nat.zero_add _)
    refine ev_ald0 dX11_leak_136 ?_
    refine ev_iconst (v := 1) dX11_leak_137 (by decide) ?_
    refine ev_bipush (v := 15) dX11_leak_138 (by decide) ?_
    refine ev_V2v (M' := mX11_eveningOn) dX11_leak_140 lk_X11_167 vX11_eveningOn rfl (m_eveningOn d S hm (lv := 1) (by decide) 15 _ (okT_qlk hT ng h59) L) (Nat.le_refl _) (Nat.le_of_ble_eq_true rfl) ?_
    refine ev_ild5 dX11_leak_143 ?_
    refine ev_ild7 dX11_leak_145 ?_
    refine ev_iadd dX11_leak_147 ?_
    refine ev_ist5 dX11_leak_148 ?_
    refine ev_ild4 dX11_leak_150 ?_
    refine ev_ald0 dX11_leak_152 ?_
    refine ev_iconst (v := 1) dX11_leak_153 (by decide) ?_
    refine ev_V1i (M' := mX11_taxes) dX11_leak_154 lk_X11_161 vX11_taxes rfl (m_taxes (d + 2) S hm (lv := 1) (by decide) _ (okT_ev (okT_qlk hT ng h59)) L) (Nat.le_refl _) (Nat.le_of_ble_eq_true rfl) ?_
    refine ev_ild1 dX11_leak_157 ?_
    refine ev_icmp_lt 166 dX11_leak_158 (by decide) (fun c_158 => ?_) (fun c_158 => ?_)
    · refine ev_iconst (v := 0) dX11_leak_166 (by decide) ?_
      refine ev_iadd dX11_leak_167 ?_
      refine ev_ist4 dX11_leak_168 ?_
      refine ev_inc6 dX11_leak_170 (nI_inc _) ?_
      refine ev_goto 36 dX11_leak_173 (by decide) ?_
      have e8 : (q_som (fun n => p_taxes gk ms (p_ev dk sb 15 (q_lkN (nI n) T ng))) m x ng (i + 1)) = (q_som (fun n => p_taxes gk ms (p_ev dk sb 15 (q_lkN (nI n) T ng))) m x ng (i)) + (if (fun n => p_taxes gk ms (p_ev dk sb 15 (q_lkN (nI n) T ng))) i < m then 0 else q_wt (nI i) x ng) := rfl
      rw [if_pos c_158] at e8
      have e := fun T9 z7 z8 => ih (i + 1) T9 z7 z8 (by omega)
      rw [e8] at e
      exact e _ _ _
    · refine ev_ild7 dX11_leak_161 ?_
      refine ev_goto 167 dX11_leak_163 (by decide) ?_
      refine ev_iadd dX11_leak_167 ?_
      refine ev_ist4 dX11_leak_168 ?_
      refine ev_inc6 dX11_leak_170 (nI_inc _) ?_
      refine ev_goto 36 dX11_leak_173 (by decide) ?_
      have e8 : (q_som (fun n => p_taxes gk ms (p_ev dk sb 15 (q_lkN (nI n) T ng))) m x ng (i + 1)) = (q_som (fun n => p_taxes gk ms (p_ev dk sb 15 (q_lkN (nI n) T ng))) m x ng (i)) + (if (fun n => p_taxes gk ms (p_ev dk sb 15 (q_lkN (nI n) T ng))) i < m then 0 else q_wt (nI i) x ng) := rfl
      rw [if_neg c_158] at e8
      have e := fun T9 z7 z8 => ih (i + 1) T9 z7 z8 (by omega)
      rw [e8] at e
      exact e _ _ _
set_option maxRecDepth 10000 in
theorem m_leak0 (d : Nat) (S : gx_S) {m x w : Int32} (hb : m < 0 ∨ 60 < m ∨ x < 0 ∨ 10 < x) (L : gx_L) : Cf (d + 1) mX11_leak [.ref 44, .int m, .int x, .int w] S L (-2) S L := by
  refine ct_intro (loc := [some (.ref 44), some (.int m), some (.int x), some (.int w), none, none, none, none, none]) (by decide) (Nat.le_of_ble_eq_true rfl) rfl ?_
  refine ev_ild1 dX11_leak_0 ?_
  refine ev_i2l dX11_leak_1 ?_
  refine ev_lconst (v := 0) dX11_leak_2 (by decide) ?_
  refine ev_ldc2 dX11_leak_3 kc_X11_220 ?_
  refine ev_S3i (M' := mX11_in) dX11_leak_6 lk_X11_62 sX11_in (m_in d _ _ _ _ _) (Nat.le_refl _) (Nat.le_of_ble_eq_true rfl) ?_
  refine ev_if_eq 24 dX11_leak_9 (by decide) (fun c_9 => ?_) (fun c_9 => ?_)
  · have b_9 := gx_b_n.mp c_9
    refine ev_bipush (v := (-2)) dX11_leak_24 (by decide) ?_
    refine ev_iret dX11_leak_26 ?_
    exact ⟨_, rfl, rfl, rfl, rfl⟩
  · have b_9 := gx_b_y.mp c_9
    refine ev_ild2 dX11_leak_12 ?_
    refine ev_i2l dX11_leak_13 ?_
    refine ev_lconst (v := 0) dX11_leak_14 (by decide) ?_
    refine ev_ldc2 dX11_leak_15 kc_X11_222 ?_
    refine ev_S3i (M' := mX11_in) dX11_leak_18 lk_X11_62 sX11_in (m_in d _ _ _ _ _) (Nat.le_refl _) (Nat.le_of_ble_eq_true rfl) ?_
    refine ev_if_ne 27 dX11_leak_21 (by decide) (fun c_21 => ?_) (fun c_21 => ?_)
    · have b_21 := gx_b_y.mp c_21
      have h1 := of_decide_eq_true ((in60 m).symm.trans b_9)
      have h2 := of_decide_eq_true ((in10 x).symm.trans b_21)
      exact absurd hb (fun h9 => h9.elim h1.1 (fun h9 => h9.elim h1.2 (fun h9 => h9.elim h2.1 h2.2)))
    · have b_21 := gx_b_n.mp c_21
      refine ev_bipush (v := (-2)) dX11_leak_24 (by decide) ?_
      refine ev_iret dX11_leak_26 ?_
      exact ⟨_, rfl, rfl, rfl, rfl⟩
set_option maxRecDepth 10000 in
theorem m_leak (d : Nat) (S : gx_S) {ng nd : Nat} {ms gk dk sb : Nat → Int32} (hm : mH S ng nd ms gk dk sb) {T : Tb} (h0 : mT (S 49) 0 = T) (hT : okT ms T) {m x : Int32} (w : Int32) (m0 : ¬ m < 0) (m1 : ¬ 60 < m) (x0 : ¬ x < 0) (x1 : x ≤ 10) {u v : Nat} (hu : (if 0 ≤ (q_som (fun n => p_taxes gk ms (p_ev dk sb 15 (q_lkN (nI n) T ng))) m x ng (2 ^ ng)) then (q_som (fun n => p_taxes gk ms (p_ev dk sb 15 (q_lkN (nI n) T ng))) m x ng (2 ^ ng)) else 0 - (q_som (fun n => p_taxes gk ms (p_ev dk sb 15 (q_lkN (nI n) T ng))) m x ng (2 ^ ng))) = nI u) (hu1 : u < 2 ^ 31) (hv : (q_all x ng (2 ^ ng)) = nI v) (hv1 : v < 2 ^ 31) (hv0 : 0 < v) (L : gx_L) : Ci (d + 4) mX11_leak [.ref 44, .int m, .int x, .int w] S L (fun r S1 L1 => r = p_frac ((q_som (fun n => p_taxes gk ms (p_ev dk sb 15 (q_lkN (nI n) T ng))) m x ng (2 ^ ng))) u v w ∧ (∃ T1, S1 = nS S 1 T1) ∧ L1 = L) := by
  refine ct_intro (loc := [some (.ref 44), some (.int m), some (.int x), some (.int w), none, none, none, none, none]) (by decide) (Nat.le_of_ble_eq_true rfl) rfl ?_
  have hgp : 0 < Nat.gcd u v := Nat.gcd_pos_of_pos_right u hv0
  have hgl : Nat.gcd u v ≤ v := Nat.gcd_le_right u hv0
  refine ev_ild1 dX11_leak_0 ?_
  refine ev_i2l dX11_leak_1 ?_
  refine ev_lconst (v := 0) dX11_leak_2 (by decide) ?_
  refine ev_ldc2 dX11_leak_3 kc_X11_220 ?_
  refine ev_S3i (M' := mX11_in) dX11_leak_6 lk_X11_62 sX11_in (m_in (d + 3) _ _ _ _ _) (Nat.le_refl _) (Nat.le_of_ble_eq_true rfl) ?_
  refine ev_if_eq_f 24 dX11_leak_9 (by decide) (gb_t ((in60 _).trans (decide_eq_true ⟨m0, m1⟩))) ?_
  refine ev_ild2 dX11_leak_12 ?_
  refine ev_i2l dX11_leak_13 ?_
  refine ev_lconst (v := 0) dX11_leak_14 (by decide) ?_
  refine ev_ldc2 dX11_leak_15 kc_X11_222 ?_
  refine ev_S3i (M' := mX11_in) dX11_leak_18 lk_X11_62 sX11_in (m_in (d + 3) _ _ _ _ _) (Nat.le_refl _) (Nat.le_of_ble_eq_true rfl) ?_
  refine ev_if_ne_t 27 dX11_leak_21 (by decide) (gb_t ((in10 _).trans (decide_eq_true ⟨x0, Int32.not_lt.mpr x1⟩))) ?_
  refine ev_iconst (v := 0) dX11_leak_27 (by decide) ?_
  refine ev_ist4 dX11_leak_28 ?_
  refine ev_iconst (v := 0) dX11_leak_30 (by decide) ?_
  refine ev_ist5 dX11_leak_31 ?_
  refine ev_iconst (v := 0) dX11_leak_33 (by decide) ?_
  refine ev_ist6 dX11_leak_34 ?_
  have l9 := ml_leak d S hm h0 hT m x w L (Q := fun v9 S1 L1 => ∃ r : Int32, v9 = some (.int r) ∧ r = p_frac ((q_som (fun n => p_taxes gk ms (p_ev dk sb 15 (q_lkN (nI n) T ng))) m x ng (2 ^ ng))) u v w ∧ (∃ T1, S1 = nS S 1 T1) ∧ L1 = L) ?_ (2 ^ ng) 0 (mT (S 49) 1) none none (Nat.zero_add _)
  · rw [nS_mT] at l9
    exact l9
  · intro T1 z7 z8
    refine ev_ild4 dX11_leak_176 ?_
    refine ev_ild5 dX11_leak_178 ?_
    rw [hv]
    refine ev_S2i (M' := mX11_common) dX11_leak_180 lk_X11_209 sX11_common (m_common (d + 3) hu hu1 hv1 _ _) (Nat.le_refl _) (Nat.le_of_ble_eq_true rfl) ?_
    refine ev_ist6 dX11_leak_183 ?_
    refine ev_ild3 dX11_leak_185 ?_
    refine ev_if_eq 197 dX11_leak_186 (by decide) (fun c_186 => ?_) (fun c_186 => ?_)
    · refine ev_ild5 dX11_leak_197 ?_
      refine ev_ild6 dX11_leak_199 ?_
      refine ev_idiv dX11_leak_201 (nI_ne0' hgp (by omega)) ?_
      refine ev_iret dX11_leak_202 ?_
      exact ⟨_, rfl, (if_pos c_186).symm, ⟨_, rfl⟩, rfl⟩
    · refine ev_ild4 dX11_leak_189 ?_
      refine ev_ild6 dX11_leak_191 ?_
      refine ev_idiv dX11_leak_193 (nI_ne0' hgp (by omega)) ?_
      refine ev_goto 202 dX11_leak_194 (by decide) ?_
      refine ev_iret dX11_leak_202 ?_
      exact ⟨_, rfl, (if_neg c_186).symm, ⟨_, rfl⟩, rfl⟩
