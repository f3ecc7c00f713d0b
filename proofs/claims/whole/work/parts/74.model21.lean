/-! ===== the reference: ways to pour ===== -/
theorem n10 (w : Nat) : nI w * (10 : Int32) = nI (w * 10) := by rw [show (10 : Int32) = nI 10 from rfl, nI_mul]
theorem rem10 {a : Nat} (h : a < 2 ^ 31) : nI a - nI a / 10 * 10 = nI (a % 10) := nI_rem (b := 10) h (by decide)
theorem div10 {a : Nat} (h : a < 2 ^ 31) : nI a / 10 = nI (a / 10) := nI_div (b := 10) h (by decide)
theorem nI_dec (x : Int32) : x + Int32.ofInt (-1) = x - 1 := by
  rw [Int32.sub_eq_add_neg]
  rfl
theorem p105 {m : Nat} (h : m ≤ 5) : 10 ^ m ≤ 100000 := Nat.pow_le_pow_right (n := 10) (j := 5) (by decide) h
theorem fs_0 : ∀ f, fs f 0 = 0
  | 0 => rfl
  | f + 1 => by
    show 0 % 10 + fs f (0 / 10) = 0
    rw [show 0 / 10 = 0 from rfl, fs_0 f]
set_option maxRecDepth 10000 in
theorem ml_ten (d : Nat) {n : Nat} (hn : n ≤ 5) (S : gx_S) (L : gx_L) {Q : Option Value → gx_S → gx_L → Prop}  (kk : Ev mX11_tenTo (d) 20 [some (.int (nI n)), some (.int (nI (10 ^ (n)))), some (.int (nI (n)))] [] (S) L Q) : ∀ (nn i : Nat), i + nn = n → Ev mX11_tenTo (d) 4 [some (.int (nI n)), some (.int (nI (10 ^ (i)))), some (.int (nI (i)))] [] (S) L Q := by
  intro nn
  induction nn with
  | zero =>
    intro i hi
    obtain rfl : i = n := hi
    refine ev_ild2 dX11_tenTo_4 ?_
    refine ev_ild0 dX11_tenTo_5 ?_
    refine ev_icmp_ge_t 20 dX11_tenTo_6 (by decide) (nI_le (Nat.le_refl _) (by omega)) ?_
    exact kk
  | succ nn ih =>
    intro i hi
    refine ev_ild2 dX11_tenTo_4 ?_
    refine ev_ild0 dX11_tenTo_5 ?_
    refine ev_icmp_ge_f 20 dX11_tenTo_6 (by decide) (nI_ge (by omega) (by omega)) ?_
    refine ev_ild1 dX11_tenTo_9 ?_
    refine ev_bipush (v := 10) dX11_tenTo_10 (by decide) ?_
    refine ev_imul dX11_tenTo_12 ?_
    rw [n10, ← Nat.pow_succ]
    refine ev_ist1 dX11_tenTo_13 ?_
    refine ev_inc2 dX11_tenTo_14 (nI_inc _) ?_
    refine ev_goto 4 dX11_tenTo_17 (by decide) ?_
    exact ih (i + 1) (by omega)
set_option maxRecDepth 10000 in
theorem m_ten (d : Nat) {n : Nat} (hn : n ≤ 5) (S : gx_S) (L : gx_L) : Cf d mX11_tenTo [.int (nI n)] S L (nI (10 ^ n)) S L := by
  refine ct_intro (loc := [some (.int (nI n)), none, none]) (by decide) (Nat.le_of_ble_eq_true rfl) rfl ?_
  refine ev_iconst (v := 1) dX11_tenTo_0 (by decide) ?_
  refine ev_ist1 dX11_tenTo_1 ?_
  refine ev_iconst (v := 0) dX11_tenTo_2 (by decide) ?_
  refine ev_ist2 dX11_tenTo_3 ?_
  refine ml_ten d hn S L ?_ n 0 (Nat.zero_add _)
  refine ev_ild1 dX11_tenTo_20 ?_
  refine ev_iret dX11_tenTo_21 ?_
  exact ⟨_, rfl, rfl, rfl, rfl⟩
set_option maxRecDepth 10000 in
theorem ml_fig (d : Nat) (v : Int32) (S : gx_S) (L : gx_L) {Q : Option Value → gx_S → gx_L → Prop} : ∀ f r s, f ≤ 5 → r < 10 ^ f → Ev mX11_figuresSum d 23 [some (.int v), some (.int (nI (s + fs f r))), some (.int (nI 0))] [] S L Q → Ev mX11_figuresSum d 4 [some (.int v), some (.int (nI s)), some (.int (nI r))] [] S L Q
  | 0, r, s, hf, hr, kk => by
    obtain rfl : r = 0 := by rw [Nat.pow_zero] at hr; omega
    refine ev_ild2 dX11_figuresSum_4 ?_
    refine ev_if_le_t 23 dX11_figuresSum_5 (by decide) (by decide) ?_
    exact kk
  | f + 1, r, s, hf, hr, kk => by
    have h5 := p105 hf
    by_cases r0 : r = 0
    · subst r0
      rw [fs_0, Nat.add_zero] at kk
      refine ev_ild2 dX11_figuresSum_4 ?_
      refine ev_if_le_t 23 dX11_figuresSum_5 (by decide) (by decide) ?_
      exact kk
    · rw [show fs (f + 1) r = r % 10 + fs f (r / 10) from rfl] at kk
      refine ev_ild2 dX11_figuresSum_4 ?_
      refine ev_if_le_f 23 dX11_figuresSum_5 (by decide) (nI_nle (Nat.pos_of_ne_zero r0) (by omega)) ?_
      refine ev_ild1 dX11_figuresSum_8 ?_
      refine ev_ild2 dX11_figuresSum_9 ?_
      refine ev_bipush (v := 10) dX11_figuresSum_10 (by decide) ?_
      refine ev_irem dX11_figuresSum_12 (by decide) ?_
      rw [rem10 (by omega)]
      refine ev_iadd dX11_figuresSum_13 ?_
      rw [nI_add]
      refine ev_ist1 dX11_figuresSum_14 ?_
      refine ev_ild2 dX11_figuresSum_15 ?_
      refine ev_bipush (v := 10) dX11_figuresSum_16 (by decide) ?_
      refine ev_idiv dX11_figuresSum_18 (by decide) ?_
      rw [div10 (by omega)]
      refine ev_ist2 dX11_figuresSum_19 ?_
      refine ev_goto 4 dX11_figuresSum_20 (by decide) ?_
      refine ml_fig d v S L f (r / 10) (s + r % 10) (by omega) (dv_lt hr) ?_
      rw [Nat.add_assoc]
      exact kk
set_option maxRecDepth 10000 in
theorem m_figs (d : Nat) {f v : Nat} (hf : f ≤ 5) (hv : v < 10 ^ f) (S : gx_S) (L : gx_L) : Cf d mX11_figuresSum [.int (nI v)] S L (nI (fs f v)) S L := by
  refine ct_intro (loc := [some (.int (nI v)), none, none]) (by decide) (Nat.le_of_ble_eq_true rfl) rfl ?_
  refine ev_iconst (v := 0) dX11_figuresSum_0 (by decide) ?_
  refine ev_ist1 dX11_figuresSum_1 ?_
  refine ev_ild0 dX11_figuresSum_2 ?_
  refine ev_ist2 dX11_figuresSum_3 ?_
  refine ml_fig d _ S L f v 0 hf hv ?_
  rw [Nat.zero_add]
  refine ev_ild1 dX11_figuresSum_23 ?_
  refine ev_iret dX11_figuresSum_24 ?_
  exact ⟨_, rfl, rfl, rfl, rfl⟩
def q_tb (S : gx_S) (ng : Nat) (ms gk dk sb : Nat → Int32) (T : Tb) (L : gx_L) (k : Nat) (r : Int32) (S1 : gx_S) (L1 : gx_L) : Prop := ((r = nI (wtP gk ms dk sb T ng k) ∧ ∀ g, g < ng → dg ng k g ≤ rmN ms T g) ∨ (r = -9 ∧ ¬ ∀ g, g < ng → dg ng k g ≤ rmN ms T g)) ∧ (∃ T1, S1 = nS S 1 T1) ∧ L1 = L
set_option maxRecDepth 10000 in
theorem ml_tb (d : Nat) (S : gx_S) {ng nd : Nat} {ms gk dk sb : Nat → Int32} (hm : mH S ng nd ms gk dk sb) {T : Tb} (h0 : mT (S 49) 0 = T) (hT : okT ms T) {k : Nat} (hk : k < 100000) (L : gx_L) : ∀ (m : Nat) (z : Option Value), m ≤ ng → (∀ g, m ≤ g → g < ng → dg ng k g ≤ rmN ms T g) → Ev mX11_taxesBy (d + 4) 13 [some (.ref 44), some (.int (nI k)), some (.int (nI (k / 10 ^ (ng - m)))), some (.int (nI m - 1)), z] [] (nS S 1 (pT T (dg ng k) m ng)) L (fun v S1 L1 => ∃ r : Int32, v = some (.int r) ∧ q_tb S ng ms gk dk sb T L k r S1 L1) := by
  intro m
  induction m with
  | zero =>
    intro z hmn hf
    refine ev_ild3 dX11_taxesBy_13 ?_
    refine ev_if_lt_t 62 dX11_taxesBy_14 (by decide) (by decide) ?_
    refine ev_ald0 dX11_taxesBy_62 ?_
    refine ev_iconst (v := 1) dX11_taxesBy_63 (by decide) ?_
    refine ev_bipush (v := 15) dX11_taxesBy_64 (by decide) ?_
    refine ev_V2v (M' := mX11_eveningOn) dX11_taxesBy_66 lk_X11_167 vX11_eveningOn rfl (m_eveningOn d S hm (lv := 1) (by decide) 15 _ (okT_pT hT (fun g _ h2 _ => hf g (Nat.zero_le g) h2)) L) (Nat.le_refl _) (Nat.le_of_ble_eq_true rfl) ?_
    refine ev_ald0 dX11_taxesBy_69 ?_
    refine ev_iconst (v := 1) dX11_taxesBy_70 (by decide) ?_
    refine ev_V1i (M' := mX11_taxes) dX11_taxesBy_71 lk_X11_161 vX11_taxes rfl (m_taxes (d + 2) S hm (lv := 1) (by decide) _ (okT_ev (okT_pT hT (fun g _ h2 _ => hf g (Nat.zero_le g) h2))) L) (Nat.le_refl _) (Nat.le_of_ble_eq_true rfl) ?_
    refine ev_iret dX11_taxesBy_74 ?_
    exact ⟨_, rfl, Or.inl ⟨(wtP_eq hT (fun g hg => hf g (Nat.zero_le g) hg)).1, fun g hg => hf g (Nat.zero_le g) hg⟩, ⟨_, rfl⟩, rfl⟩
  | succ m ih =>
    intro z hmn hf
    have h59 := hm.2.1
    have hdk : k / 10 ^ (ng - (m + 1)) ≤ k := Nat.div_le_self _ _
    have hdg : k / 10 ^ (ng - (m + 1)) % 10 = dg ng k m := by
      unfold dg
      rw [show ng - (m + 1) = ng - 1 - m from by omega]
    have hup : k / 10 ^ (ng - (m + 1)) / 10 = k / 10 ^ (ng - m) := by
      rw [← dv_up, show ng - (m + 1) + 1 = ng - m from by omega]
    have h9 := dg_9 ng k m
    obtain ⟨hr1, hr2, -⟩ := rmN_eq hT (show m < 5 by omega)
    rw [nI_pred]
    refine ev_ild3 dX11_taxesBy_13 ?_
    refine ev_if_lt_f 62 dX11_taxesBy_14 (by decide) (nI_pos (by omega)) ?_
    refine ev_ild2 dX11_taxesBy_17 ?_
    refine ev_bipush (v := 10) dX11_taxesBy_18 (by decide) ?_
    refine ev_irem dX11_taxesBy_20 (by decide) ?_
    rw [rem10 (by omega), hdg]
    refine ev_ist4 dX11_taxesBy_21 ?_
    refine ev_ild4 dX11_taxesBy_23 ?_
    refine ev_ald0 dX11_taxesBy_25 ?_
    refine ev_iconst (v := 1) dX11_taxesBy_26 (by decide) ?_
    refine ev_ild3 dX11_taxesBy_27 ?_
    refine ev_V2i (M' := mX11_roomIn) dX11_taxesBy_28 lk_X11_142 vX11_roomIn rfl (m_roomIn (d + 3) S hm (lv := 1) (by decide) (by omega) _ L) (Nat.le_refl _) (Nat.le_of_ble_eq_true rfl) ?_
    rw [pT_c (show ¬ (m + 1 ≤ m ∧ m < ng) by omega), hr1]
    refine ev_icmp_le 37 dX11_taxesBy_31 (by decide) (fun c_31 => ?_) (fun c_31 => ?_)
    · refine ev_ild4 dX11_taxesBy_37 ?_
      refine ev_if_le 51 dX11_taxesBy_39 (by decide) (fun c_39 => ?_) (fun c_39 => ?_)
      · refine ev_ild2 dX11_taxesBy_51 ?_
        refine ev_bipush (v := 10) dX11_taxesBy_52 (by decide) ?_
        refine ev_idiv dX11_taxesBy_54 (by decide) ?_
        rw [div10 (by omega), hup]
        refine ev_ist2 dX11_taxesBy_55 ?_
        refine ev_inc3 dX11_taxesBy_56 (nI_dec _) ?_
        refine ev_goto 13 dX11_taxesBy_59 (by decide) ?_
        have hle : dg ng k m ≤ rmN ms T m := (nI_leI (by omega) (by omega)).mp c_31
        have e := ih (some (.int (nI (dg ng k m)))) (by omega) (fun g h1 h2 => if h : g = m then h ▸ hle else hf g (by omega) h2)
        rw [pT_n0 ng (show dg ng k m = 0 from Nat.eq_zero_of_not_pos (fun h9 => nI_nle h9 (by omega) c_39))] at e
        exact e
      · refine ev_ald0 dX11_taxesBy_42 ?_
        refine ev_iconst (v := 1) dX11_taxesBy_43 (by decide) ?_
        refine ev_ild3 dX11_taxesBy_44 ?_
        refine ev_ild4 dX11_taxesBy_45 ?_
        refine ev_V3i (M' := mX11_pourOn) dX11_taxesBy_47 lk_X11_148 vX11_pourOn rfl (m_pourOn (d + 2) S hm (lv := 1) (by decide) (by omega) _ _ L) (Nat.le_refl _) (Nat.le_of_ble_eq_true rfl) ?_
        rw [pour_m hT h59 (by omega) ((nI_leI (by omega) (by omega)).mp c_31) (Nat.pos_of_ne_zero (fun h9 => c_39 (by rw [h9]; decide)))]
        refine ev_popi dX11_taxesBy_50 ?_
        refine ev_ild2 dX11_taxesBy_51 ?_
        refine ev_bipush (v := 10) dX11_taxesBy_52 (by decide) ?_
        refine ev_idiv dX11_taxesBy_54 (by decide) ?_
        rw [div10 (by omega), hup]
        refine ev_ist2 dX11_taxesBy_55 ?_
        refine ev_inc3 dX11_taxesBy_56 (nI_dec _) ?_
        refine ev_goto 13 dX11_taxesBy_59 (by decide) ?_
        have hle : dg ng k m ≤ rmN ms T m := (nI_leI (by omega) (by omega)).mp c_31
        have e := ih (some (.int (nI (dg ng k m)))) (by omega) (fun g h1 h2 => if h : g = m then h ▸ hle else hf g (by omega) h2)
        exact e
    · refine ev_bipush (v := (-9)) dX11_taxesBy_34 (by decide) ?_
      refine ev_iret dX11_taxesBy_36 ?_
      exact ⟨_, rfl, Or.inr ⟨rfl, fun h9 => c_31 (nI_le (h9 m (by omega)) (by omega))⟩, ⟨_, rfl⟩, rfl⟩
set_option maxRecDepth 10000 in
theorem m_taxesBy (d : Nat) (S : gx_S) {ng nd : Nat} {ms gk dk sb : Nat → Int32} (hm : mH S ng nd ms gk dk sb) {T : Tb} (h0 : mT (S 49) 0 = T) (hT : okT ms T) (T0 : Tb) {k : Nat} (hk : k < 100000) (L : gx_L) : Ci (d + 4) mX11_taxesBy [.ref 44, .int (nI k)] (nS S 1 T0) L (q_tb S ng ms gk dk sb T L k) := by
  refine ct_intro (loc := [some (.ref 44), some (.int (nI k)), none, none, none]) (by decide) (Nat.le_of_ble_eq_true rfl) rfl ?_
  refine ev_ald0 dX11_taxesBy_0 ?_
  refine ev_V0v (M' := mX11_layTrial) dX11_taxesBy_1 lk_X11_164 vX11_layTrial rfl (m_lay1 (d + 3) S T0 h0 L) (Nat.le_refl _) (Nat.le_of_ble_eq_true rfl) ?_
  refine ev_ild1 dX11_taxesBy_4 ?_
  refine ev_ist2 dX11_taxesBy_5 ?_
  refine ev_ald0 dX11_taxesBy_6 ?_
  refine ev_geti dX11_taxesBy_7 fl_X11_56 rfl ?_
  rw [nS_o S 1 _ (by decide), hm.1]
  refine ev_iconst (v := 1) dX11_taxesBy_10 (by decide) ?_
  refine ev_isub dX11_taxesBy_11 ?_
  refine ev_ist3 dX11_taxesBy_12 ?_
  have l9 := ml_tb d S hm h0 hT hk L ng none (Nat.le_refl _) (fun g h1 h2 => absurd h2 (by omega))
  rw [pT_0, Nat.sub_self, Nat.pow_zero, Nat.div_one] at l9
  exact l9
set_option maxRecDepth 10000 in
theorem ml_pk (D : Nat) (S : gx_S) (L : gx_L) {Q : Option Value → gx_S → gx_L → Prop} {va : Nat → Option Nat} {q : Option (Nat × Nat)} (hq : okq q) {k : Nat} (a1 a2 v : Int32) (z : Option Value) (hvv : (va k = none ∧ v = -9) ∨ ∃ w0, va k = some w0 ∧ v = nI w0 ∧ w0 < 100) (kk : ∀ z : Option Value, Ev mX11_pouring D 111 [some (.ref 44), some (.int a1), some (.int a2), some (.int (leI (kv va q k))), some (.int (fdI (kv va q k))), some (.int (nI k)), some (.int v), z] [] S L Q) : Ev mX11_pouring D 59 [some (.ref 44), some (.int a1), some (.int a2), some (.int (leI q)), some (.int (fdI q)), some (.int (nI k)), some (.int v), z] [] S L Q := by
  rcases hvv with ⟨hv, rfl⟩ | ⟨w0, hv, rfl, hw0⟩
  · refine ev_ild6 dX11_pouring_59 ?_
    refine ev_bipush (v := (-9)) dX11_pouring_61 (by decide) ?_
    refine ev_icmp_eq_t 82 dX11_pouring_63 (by decide) rfl ?_
    refine ev_iconst (v := 0) dX11_pouring_82 (by decide) ?_
    refine ev_ist7 dX11_pouring_83 ?_
    refine ev_ild7 dX11_pouring_85 ?_
    refine ev_if_eq_t 95 dX11_pouring_87 (by decide) (by decide) ?_
    refine ev_ild4 dX11_pouring_95 ?_
    refine ev_ist4 dX11_pouring_97 ?_
    refine ev_ild7 dX11_pouring_99 ?_
    refine ev_if_eq_t 109 dX11_pouring_101 (by decide) (by decide) ?_
    refine ev_ild3 dX11_pouring_109 ?_
    refine ev_ist3 dX11_pouring_110 ?_
    rw [kv_n hv] at kk
    exact kk _
  · cases q with
    | none =>
      refine ev_ild6 dX11_pouring_59 ?_
      refine ev_bipush (v := (-9)) dX11_pouring_61 (by decide) ?_
      refine ev_icmp_eq_f 82 dX11_pouring_63 (by decide) (nI_not9 (by omega)) ?_
      refine ev_ild3 dX11_pouring_66 ?_
      refine ev_bipush (v := (-9)) dX11_pouring_67 (by decide) ?_
      refine ev_icmp_eq_t 78 dX11_pouring_69 (by decide) rfl ?_
      refine ev_iconst (v := 1) dX11_pouring_78 (by decide) ?_
      refine ev_goto 83 dX11_pouring_79 (by decide) ?_
      refine ev_ist7 dX11_pouring_83 ?_
      refine ev_ild7 dX11_pouring_85 ?_
      refine ev_if_eq_f 95 dX11_pouring_87 (by decide) (by decide) ?_
      refine ev_ild5 dX11_pouring_90 ?_
      refine ev_goto 97 dX11_pouring_92 (by decide) ?_
      refine ev_ist4 dX11_pouring_97 ?_
      refine ev_ild7 dX11_pouring_99 ?_
      refine ev_if_eq_f 109 dX11_pouring_101 (by decide) (by decide) ?_
      refine ev_ild6 dX11_pouring_104 ?_
      refine ev_goto 110 dX11_pouring_106 (by decide) ?_
      refine ev_ist3 dX11_pouring_110 ?_
      rw [kv_s hv] at kk
      exact kk _
    | some p =>
      have hp := hq p rfl
      refine ev_ild6 dX11_pouring_59 ?_
      refine ev_bipush (v := (-9)) dX11_pouring_61 (by decide) ?_
      refine ev_icmp_eq_f 82 dX11_pouring_63 (by decide) (nI_not9 (by omega)) ?_
      refine ev_ild3 dX11_pouring_66 ?_
      refine ev_bipush (v := (-9)) dX11_pouring_67 (by decide) ?_
      refine ev_icmp_eq_f 78 dX11_pouring_69 (by decide) (nI_not9 (k := p.1) (by omega)) ?_
      refine ev_ild6 dX11_pouring_72 ?_
      refine ev_ild3 dX11_pouring_74 ?_
      refine ev_icmp_ge 82 dX11_pouring_75 (by decide) (fun c_75 => ?_) (fun c_75 => ?_)
      · refine ev_iconst (v := 0) dX11_pouring_82 (by decide) ?_
        refine ev_ist7 dX11_pouring_83 ?_
        refine ev_ild7 dX11_pouring_85 ?_
        refine ev_if_eq_t 95 dX11_pouring_87 (by decide) (by decide) ?_
        refine ev_ild4 dX11_pouring_95 ?_
        refine ev_ist4 dX11_pouring_97 ?_
        refine ev_ild7 dX11_pouring_99 ?_
        refine ev_if_eq_t 109 dX11_pouring_101 (by decide) (by decide) ?_
        refine ev_ild3 dX11_pouring_109 ?_
        refine ev_ist3 dX11_pouring_110 ?_
        rw [kv_s hv, kl_no (fun h9 => nI_ge h9 (by omega) c_75)] at kk
        exact kk _
      · refine ev_iconst (v := 1) dX11_pouring_78 (by decide) ?_
        refine ev_goto 83 dX11_pouring_79 (by decide) ?_
        refine ev_ist7 dX11_pouring_83 ?_
        refine ev_ild7 dX11_pouring_85 ?_
        refine ev_if_eq_f 95 dX11_pouring_87 (by decide) (by decide) ?_
        refine ev_ild5 dX11_pouring_90 ?_
        refine ev_goto 97 dX11_pouring_92 (by decide) ?_
        refine ev_ist4 dX11_pouring_97 ?_
        refine ev_ild7 dX11_pouring_99 ?_
        refine ev_if_eq_f 109 dX11_pouring_101 (by decide) (by decide) ?_
        refine ev_ild6 dX11_pouring_104 ?_
        refine ev_goto 110 dX11_pouring_106 (by decide) ?_
        refine ev_ist3 dX11_pouring_110 ?_
        rw [kv_s hv, kl_yes (Nat.lt_of_not_le (fun h9 => c_75 (nI_le h9 (by omega))))] at kk
        exact kk _
set_option maxRecDepth 10000 in
theorem ml_ok (D : Nat) (S : gx_S) (L : gx_L) {Q : Option Value → gx_S → gx_L → Prop} {va : Nat → Option Nat} {q : Option (Nat × Nat)} (hq : okq q) {k : Nat} (a1 a2 v : Int32) (z : Option Value) (hvv : (va k = none ∧ v = -9) ∨ ∃ w0, va k = some w0 ∧ v = nI w0 ∧ w0 < 100) (kk : ∀ z : Option Value, Ev mX11_order D 79 [some (.ref 44), some (.int a1), some (.int (leI (kv va q k))), some (.int (fdI (kv va q k))), some (.int (nI k)), some (.int v), z] [] S L Q) : Ev mX11_order D 29 [some (.ref 44), some (.int a1), some (.int (leI q)), some (.int (fdI q)), some (.int (nI k)), some (.int v), z] [] S L Q := by
  rcases hvv with ⟨hv, rfl⟩ | ⟨w0, hv, rfl, hw0⟩
  · refine ev_ild5 dX11_order_29 ?_
    refine ev_bipush (v := (-9)) dX11_order_31 (by decide) ?_
    refine ev_icmp_eq_t 52 dX11_order_33 (by decide) rfl ?_
    refine ev_iconst (v := 0) dX11_order_52 (by decide) ?_
    refine ev_ist6 dX11_order_53 ?_
    refine ev_ild6 dX11_order_55 ?_
    refine ev_if_eq_t 65 dX11_order_57 (by decide) (by decide) ?_
    refine ev_ild3 dX11_order_65 ?_
    refine ev_ist3 dX11_order_66 ?_
    refine ev_ild6 dX11_order_67 ?_
    refine ev_if_eq_t 77 dX11_order_69 (by decide) (by decide) ?_
    refine ev_ild2 dX11_order_77 ?_
    refine ev_ist2 dX11_order_78 ?_
    rw [kv_n hv] at kk
    exact kk _
  · cases q with
    | none =>
      refine ev_ild5 dX11_order_29 ?_
      refine ev_bipush (v := (-9)) dX11_order_31 (by decide) ?_
      refine ev_icmp_eq_f 52 dX11_order_33 (by decide) (nI_not9 (by omega)) ?_
      refine ev_ild2 dX11_order_36 ?_
      refine ev_bipush (v := (-9)) dX11_order_37 (by decide) ?_
      refine ev_icmp_eq_t 48 dX11_order_39 (by decide) rfl ?_
      refine ev_iconst (v := 1) dX11_order_48 (by decide) ?_
      refine ev_goto 53 dX11_order_49 (by decide) ?_
      refine ev_ist6 dX11_order_53 ?_
      refine ev_ild6 dX11_order_55 ?_
      refine ev_if_eq_f 65 dX11_order_57 (by decide) (by decide) ?_
      refine ev_ild4 dX11_order_60 ?_
      refine ev_goto 66 dX11_order_62 (by decide) ?_
      refine ev_ist3 dX11_order_66 ?_
      refine ev_ild6 dX11_order_67 ?_
      refine ev_if_eq_f 77 dX11_order_69 (by decide) (by decide) ?_
      refine ev_ild5 dX11_order_72 ?_
      refine ev_goto 78 dX11_order_74 (by decide) ?_
      refine ev_ist2 dX11_order_78 ?_
      rw [kv_s hv] at kk
      exact kk _
    | some p =>
      have hp := hq p rfl
      refine ev_ild5 dX11_order_29 ?_
      refine ev_bipush (v := (-9)) dX11_order_31 (by decide) ?_
      refine ev_icmp_eq_f 52 dX11_order_33 (by decide) (nI_not9 (by omega)) ?_
      refine ev_ild2 dX11_order_36 ?_
      refine ev_bipush (v := (-9)) dX11_order_37 (by decide) ?_
      refine ev_icmp_eq_f 48 dX11_order_39 (by decide) (nI_not9 (k := p.1) (by omega)) ?_
      refine ev_ild5 dX11_order_42 ?_
      refine ev_ild2 dX11_order_44 ?_
      refine ev_icmp_ge 52 dX11_order_45 (by decide) (fun c_45 => ?_) (fun c_45 => ?_)
      · refine ev_iconst (v := 0) dX11_order_52 (by decide) ?_
        refine ev_ist6 dX11_order_53 ?_
        refine ev_ild6 dX11_order_55 ?_
        refine ev_if_eq_t 65 dX11_order_57 (by decide) (by decide) ?_
        refine ev_ild3 dX11_order_65 ?_
        refine ev_ist3 dX11_order_66 ?_
        refine ev_ild6 dX11_order_67 ?_
        refine ev_if_eq_t 77 dX11_order_69 (by decide) (by decide) ?_
        refine ev_ild2 dX11_order_77 ?_
        refine ev_ist2 dX11_order_78 ?_
        rw [kv_s hv, kl_no (fun h9 => nI_ge h9 (by omega) c_45)] at kk
        exact kk _
      · refine ev_iconst (v := 1) dX11_order_48 (by decide) ?_
        refine ev_goto 53 dX11_order_49 (by decide) ?_
        refine ev_ist6 dX11_order_53 ?_
        refine ev_ild6 dX11_order_55 ?_
        refine ev_if_eq_f 65 dX11_order_57 (by decide) (by decide) ?_
        refine ev_ild4 dX11_order_60 ?_
        refine ev_goto 66 dX11_order_62 (by decide) ?_
        refine ev_ist3 dX11_order_66 ?_
        refine ev_ild6 dX11_order_67 ?_
        refine ev_if_eq_f 77 dX11_order_69 (by decide) (by decide) ?_
        refine ev_ild5 dX11_order_72 ?_
        refine ev_goto 78 dX11_order_74 (by decide) ?_
        refine ev_ist2 dX11_order_78 ?_
        rw [kv_s hv, kl_yes (Nat.lt_of_not_le (fun h9 => c_45 (nI_le h9 (by omega))))] at kk
        exact kk _
theorem vaP_tb {gk ms dk sb : Nat → Int32} {T : Tb} (hT : okT ms T) {ng n k : Nat} (h5 : ng ≤ 5) (hd : ds ng k = n) (hk : k < 10 ^ ng) {v : Int32} (h : (v = nI (wtP gk ms dk sb T ng k) ∧ ∀ g, g < ng → dg ng k g ≤ rmN ms T g) ∨ (v = -9 ∧ ¬ ∀ g, g < ng → dg ng k g ≤ rmN ms T g)) : (vaP (rmN ms T) (wtP gk ms dk sb T ng) ng n k = none ∧ v = -9) ∨ ∃ w0, vaP (rmN ms T) (wtP gk ms dk sb T ng) ng n k = some w0 ∧ v = nI w0 ∧ w0 < 100 := by
  have h0 : k / 10 ^ ng = 0 := Nat.div_eq_of_lt hk
  rcases h with ⟨h1, h2⟩ | ⟨h1, h2⟩
  · refine Or.inr ⟨wtP gk ms dk sb T ng k, ?_, h1, ?_⟩
    · unfold vaP
      rw [if_pos ⟨h0, (vp_iff _ _ _ _ _).mpr ⟨hd, fun j hj => by rw [Nat.zero_add]; exact h2 j hj⟩⟩]
    · have := (wtP_eq (gk := gk) (dk := dk) (sb := sb) hT h2).2
      omega
  · refine Or.inl ⟨?_, h1⟩
    unfold vaP
    rw [if_neg]
    intro h3
    refine h2 (fun j hj => ?_)
    have h4 := ((vp_iff _ _ _ _ _).mp h3.2).2 j hj
    rw [Nat.zero_add] at h4
    exact h4
theorem ds_b : ∀ m k, ds m k ≤ 9 * m
  | 0, _ => Nat.le_refl _
  | m + 1, k => by
    have := ds_b m k
    show k / 10 ^ m % 10 + ds m k ≤ _
    omega
set_option maxRecDepth 10000 in
theorem ml_pg (d : Nat) (S : gx_S) {ng nd : Nat} {ms gk dk sb : Nat → Int32} (hm : mH S ng nd ms gk dk sb) {T : Tb} (h0 : mT (S 49) 0 = T) (hT : okT ms T) {n : Nat} (hn : n ≤ 9) (w : Int32) (L : gx_L) : ∀ (nn i : Nat) (T0 : Tb) (z6 z7 : Option Value), (10 ^ ng ≤ n + 9 * i + 9 * nn ∧ n + 9 * i < 200000) → Ev mX11_pouring (d + 5) 25 [some (.ref 44), some (.int (nI n)), some (.int w), some (.int (leI (fo (vaP (rmN ms T) (wtP gk ms dk sb T ng) ng n) 0 none (n + 9 * i)))), some (.int (fdI (fo (vaP (rmN ms T) (wtP gk ms dk sb T ng) ng n) 0 none (n + 9 * i)))), some (.int (nI (n + 9 * i))), z6, z7] [] (nS S 1 T0) L (fun v S1 L1 => ∃ r : Int32, v = some (.int r) ∧ (fun r S1 L1 => r = (if w = 0 then leI (fo (vaP (rmN ms T) (wtP gk ms dk sb T ng) ng n) 0 none (10 ^ ng)) else fdI (fo (vaP (rmN ms T) (wtP gk ms dk sb T ng) ng n) 0 none (10 ^ ng))) ∧ (∃ T1, S1 = nS S 1 T1) ∧ L1 = L) r S1 L1) := by
  intro nn
  induction nn with
  | zero =>
    intro i T0 z6 z7 hb
    have h59 := hm.2.1
    have h10 := p105 h59
    have hge : 10 ^ ng ≤ n + 9 * i := by omega
    · refine ev_ild5 dX11_pouring_25 ?_
      refine ev_ald0 dX11_pouring_27 ?_
      refine ev_geti dX11_pouring_28 fl_X11_56 rfl ?_
      rw [nS_o S 1 _ (by decide), hm.1]
      refine ev_S1i (M' := mX11_tenTo) dX11_pouring_31 lk_X11_174 sX11_tenTo (m_ten (d + 4) h59 _ L) (Nat.le_refl _) (Nat.le_of_ble_eq_true rfl) ?_
      refine ev_icmp_ge_t 117 dX11_pouring_34 (by decide) (nI_le (by omega) (by omega)) ?_
      refine ev_ild2 dX11_pouring_117 ?_
      refine ev_if_eq 126 dX11_pouring_118 (by decide) (fun c_118 => ?_) (fun c_118 => ?_)
      · refine ev_ild3 dX11_pouring_126 ?_
        refine ev_iret dX11_pouring_127 ?_
        exact ⟨_, rfl, by rw [← fo_9e _ _ hge]; exact (if_pos c_118).symm, ⟨T0, rfl⟩, rfl⟩
      · refine ev_ild4 dX11_pouring_121 ?_
        refine ev_goto 127 dX11_pouring_123 (by decide) ?_
        refine ev_iret dX11_pouring_127 ?_
        exact ⟨_, rfl, by rw [← fo_9e _ _ hge]; exact (if_neg c_118).symm, ⟨T0, rfl⟩, rfl⟩
  | succ nn ih =>
    intro i T0 z6 z7 hb
    have h59 := hm.2.1
    have h10 := p105 h59
    have hdb := ds_b ng (n + 9 * i)
    by_cases hge : 10 ^ ng ≤ n + 9 * i
    · refine ev_ild5 dX11_pouring_25 ?_
      refine ev_ald0 dX11_pouring_27 ?_
      refine ev_geti dX11_pouring_28 fl_X11_56 rfl ?_
      rw [nS_o S 1 _ (by decide), hm.1]
      refine ev_S1i (M' := mX11_tenTo) dX11_pouring_31 lk_X11_174 sX11_tenTo (m_ten (d + 4) h59 _ L) (Nat.le_refl _) (Nat.le_of_ble_eq_true rfl) ?_
      refine ev_icmp_ge_t 117 dX11_pouring_34 (by decide) (nI_le (by omega) (by omega)) ?_
      refine ev_ild2 dX11_pouring_117 ?_
      refine ev_if_eq 126 dX11_pouring_118 (by decide) (fun c_118 => ?_) (fun c_118 => ?_)
      · refine ev_ild3 dX11_pouring_126 ?_
        refine ev_iret dX11_pouring_127 ?_
        exact ⟨_, rfl, by rw [← fo_9e _ _ hge]; exact (if_pos c_118).symm, ⟨T0, rfl⟩, rfl⟩
      · refine ev_ild4 dX11_pouring_121 ?_
        refine ev_goto 127 dX11_pouring_123 (by decide) ?_
        refine ev_iret dX11_pouring_127 ?_
        exact ⟨_, rfl, by rw [← fo_9e _ _ hge]; exact (if_neg c_118).symm, ⟨T0, rfl⟩, rfl⟩
    · have hlt : n + 9 * i < 10 ^ ng := by omega
      refine ev_ild5 dX11_pouring_25 ?_
      refine ev_ald0 dX11_pouring_27 ?_
      refine ev_geti dX11_pouring_28 fl_X11_56 rfl ?_
      rw [nS_o S 1 _ (by decide), hm.1]
      refine ev_S1i (M' := mX11_tenTo) dX11_pouring_31 lk_X11_174 sX11_tenTo (m_ten (d + 4) h59 _ L) (Nat.le_refl _) (Nat.le_of_ble_eq_true rfl) ?_
      refine ev_icmp_ge_f 117 dX11_pouring_34 (by decide) (nI_ge (by omega) (by omega)) ?_
      refine ev_ild5 dX11_pouring_37 ?_
      refine ev_S1i (M' := mX11_figuresSum) dX11_pouring_39 lk_X11_177 sX11_figuresSum (m_figs (d + 4) (f := ng) h59 hlt _ L) (Nat.le_refl _) (Nat.le_of_ble_eq_true rfl) ?_
      rw [fs_ds]
      refine ev_ild1 dX11_pouring_42 ?_
      refine ev_icmp_ne 55 dX11_pouring_43 (by decide) (fun c_43 => ?_) (fun c_43 => ?_)
      · refine ev_bipush (v := (-9)) dX11_pouring_55 (by decide) ?_
        refine ev_ist6 dX11_pouring_57 ?_
        have hvv : ((vaP (rmN ms T) (wtP gk ms dk sb T ng) ng n) (n + 9 * i) = none ∧ (-9 : Int32) = -9) ∨ ∃ w0, (vaP (rmN ms T) (wtP gk ms dk sb T ng) ng n) (n + 9 * i) = some w0 ∧ (-9 : Int32) = nI w0 ∧ w0 < 100 := by
          refine Or.inl ⟨?_, rfl⟩
          exact Classical.byContradiction (fun h9 => c_43 (by rw [(vaP_9 h9).2.2.2]))
        refine ml_pk (d + 5) _ L (va := vaP (rmN ms T) (wtP gk ms dk sb T ng) ng n) (okq_fo okq_n (vaP_w hT h59) _) (nI n) w _ _ hvv (fun z9 => ?_)
        refine ev_inc5 dX11_pouring_111 (nI_add (n + 9 * i) 9) ?_
        refine ev_goto 25 dX11_pouring_114 (by decide) ?_
        have e := ih (i + 1) T0 (some (.int (-9))) z9 (by omega)
        rw [fo_9, show n + 9 * (i + 1) = n + 9 * i + 9 from by omega] at e
        exact e
      · refine ev_ald0 dX11_pouring_46 ?_
        refine ev_ild5 dX11_pouring_47 ?_
        refine ev_V1iq (M' := mX11_taxesBy) dX11_pouring_49 lk_X11_180 vX11_taxesBy rfl (m_taxesBy d S hm h0 hT T0 (by omega) L) (Nat.le_refl _) (Nat.le_of_ble_eq_true rfl) (fun v9 S9 L9 h9 => ?_)
        obtain ⟨hr9, ⟨T9, hS9⟩, hL9⟩ := h9
        have hL2 := hL9.symm
        subst hL2
        subst hS9
        have hds : ds ng (n + 9 * i) = n := (nI_eq (by omega) (by omega)).mp c_43
        refine ev_goto 57 dX11_pouring_52 (by decide) ?_
        refine ev_ist6 dX11_pouring_57 ?_
        have hvv : ((vaP (rmN ms T) (wtP gk ms dk sb T ng) ng n) (n + 9 * i) = none ∧ v9 = -9) ∨ ∃ w0, (vaP (rmN ms T) (wtP gk ms dk sb T ng) ng n) (n + 9 * i) = some w0 ∧ v9 = nI w0 ∧ w0 < 100 := by
          exact vaP_tb hT h59 hds hlt hr9
        refine ml_pk (d + 5) _ L (va := vaP (rmN ms T) (wtP gk ms dk sb T ng) ng n) (okq_fo okq_n (vaP_w hT h59) _) (nI n) w _ _ hvv (fun z9 => ?_)
        refine ev_inc5 dX11_pouring_111 (nI_add (n + 9 * i) 9) ?_
        refine ev_goto 25 dX11_pouring_114 (by decide) ?_
        have e := ih (i + 1) T9 (some (.int v9)) z9 (by omega)
        rw [fo_9, show n + 9 * (i + 1) = n + 9 * i + 9 from by omega] at e
        exact e
set_option maxRecDepth 10000 in
theorem m_pouring0 (d : Nat) (S : gx_S) {n w : Int32} (hb : n < 0 ∨ 9 < n) (L : gx_L) : Cf (d + 1) mX11_pouring [.ref 44, .int n, .int w] S L (-2) S L := by
  refine ct_intro (loc := [some (.ref 44), some (.int n), some (.int w), none, none, none, none, none]) (by decide) (Nat.le_of_ble_eq_true rfl) rfl ?_
  refine ev_ild1 dX11_pouring_0 ?_
  refine ev_i2l dX11_pouring_1 ?_
  refine ev_lconst (v := 0) dX11_pouring_2 (by decide) ?_
  refine ev_ldc2 dX11_pouring_3 kc_X11_75 ?_
  refine ev_S3i (M' := mX11_in) dX11_pouring_6 lk_X11_62 sX11_in (m_in d _ _ _ _ _) (Nat.le_refl _) (Nat.le_of_ble_eq_true rfl) ?_
  refine ev_if_ne_f 15 dX11_pouring_9 (by decide) (gb_f ((in09 _).trans (decide_eq_false (fun h9 => hb.elim h9.1 h9.2)))) ?_
  refine ev_bipush (v := (-2)) dX11_pouring_12 (by decide) ?_
  refine ev_iret dX11_pouring_14 ?_
  exact ⟨_, rfl, rfl, rfl, rfl⟩
set_option maxRecDepth 10000 in
theorem m_pouring (d : Nat) (S : gx_S) {ng nd : Nat} {ms gk dk sb : Nat → Int32} (hm : mH S ng nd ms gk dk sb) {T : Tb} (h0 : mT (S 49) 0 = T) (hT : okT ms T) {n : Nat} (hn : n ≤ 9) (w : Int32) (L : gx_L) : Ci (d + 5) mX11_pouring [.ref 44, .int (nI n), .int w] S L (fun r S1 L1 => r = (if w = 0 then leI (fo (vaP (rmN ms T) (wtP gk ms dk sb T ng) ng n) 0 none (10 ^ ng)) else fdI (fo (vaP (rmN ms T) (wtP gk ms dk sb T ng) ng n) 0 none (10 ^ ng))) ∧ (∃ T1, S1 = nS S 1 T1) ∧ L1 = L) := by
  refine ct_intro (loc := [some (.ref 44), some (.int (nI n)), some (.int w), none, none, none, none, none]) (by decide) (Nat.le_of_ble_eq_true rfl) rfl ?_
  refine ev_ild1 dX11_pouring_0 ?_
  refine ev_i2l dX11_pouring_1 ?_
  refine ev_lconst (v := 0) dX11_pouring_2 (by decide) ?_
  refine ev_ldc2 dX11_pouring_3 kc_X11_75 ?_
  refine ev_S3i (M' := mX11_in) dX11_pouring_6 lk_X11_62 sX11_in (m_in (d + 4) _ _ _ _ _) (Nat.le_refl _) (Nat.le_of_ble_eq_true rfl) ?_
  refine ev_if_ne_t 15 dX11_pouring_9 (by decide) (gb_t ((in09 _).trans (decide_eq_true ⟨nI_pos (by omega), nI_nlt (a := 9) (by omega) (by decide)⟩))) ?_
  refine ev_bipush (v := (-9)) dX11_pouring_15 (by decide) ?_
  refine ev_ist3 dX11_pouring_17 ?_
  refine ev_bipush (v := (-9)) dX11_pouring_18 (by decide) ?_
  refine ev_ist4 dX11_pouring_20 ?_
  refine ev_ild1 dX11_pouring_22 ?_
  refine ev_ist5 dX11_pouring_23 ?_
  have l9 := ml_pg d S hm h0 hT hn w L 100000 0 (mT (S 49) 1) none none ⟨by have := p105 hm.2.1; omega, by omega⟩
  rw [nS_mT, show n + 9 * 0 = n from rfl, fo_90] at l9
  exact l9
