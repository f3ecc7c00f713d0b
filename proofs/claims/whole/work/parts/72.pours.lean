/-! ===== the class's search: ways to pour ===== -/
theorem max0a : ∀ (a : Fin 10) (b : Fin 46), (if (0 : Int32) < nI a - nI b then nI a - nI b else 0) = nI (a - b) := by decide +kernel
theorem max0 {a b : Nat} (ha : a ≤ 9) (hb : b ≤ 45) : (if (0 : Int32) < nI a - nI b then nI a - nI b else 0) = nI (a - b) := max0a ⟨a, by omega⟩ ⟨b, by omega⟩
theorem min_n {a b : Nat} (ha : a ≤ 9) (hb : b ≤ 9) : (if nI a < nI b then nI a else nI b) = nI (if a < b then a else b) := by
  by_cases h : a < b
  · rw [if_pos h, if_pos (nI_lt h (by omega))]
  · rw [if_neg h, if_neg (nI_nlt (by omega) (by omega))]
theorem m10 (w : Nat) : (10 : Int32) * nI w = nI (10 * w) := by rw [show (10 : Int32) = nI 10 from rfl, nI_mul]
theorem rsm_b {rm : Nat → Nat} (h : ∀ j, j < 5 → rm j ≤ 9) (g : Nat) : ∀ m, g + m ≤ 5 → rsm rm g m ≤ 9 * m
  | 0, _ => Nat.le_refl _
  | m + 1, hm => by
    have h1 := rsm_b h g m (by omega)
    have h2 := h (g + m) (by omega)
    show rsm rm g m + rm (g + m) ≤ _
    omega
theorem dg_s {w c g j : Nat} (hc : c < 10) (hj : j < g) : (10 * w + c) / 10 ^ (g + 1 - 1 - j) = w / 10 ^ (g - 1 - j) := by
  rw [show g + 1 - 1 - j = g - 1 - j + 1 from by omega, Nat.pow_succ, Nat.mul_comm (10 ^ (g - 1 - j)) 10, ← Nat.div_div_eq_div_mul, show (10 * w + c) / 10 = w from by omega]
theorem dg_e {w c g : Nat} (hc : c < 10) : (10 * w + c) / 10 ^ (g + 1 - 1 - g) % 10 = c := by
  rw [show g + 1 - 1 - g = 0 from by omega, Nat.pow_zero, Nat.div_one]
  omega
theorem fo_leaf (va : Nat → Option Nat) (w : Nat) (q : Option (Nat × Nat)) : fo va (w * 10 ^ 0) q (10 ^ 0) = kv va q w := by
  rw [Nat.pow_zero, Nat.mul_one]
  rfl
def tpQ (S : gx_S) (U : Nat → Int32) (va : Nat → Option Nat) (L : gx_L) (g w m : Nat) (P : Nat → Int32) (q : Option (Nat × Nat)) (S1 : gx_S) (L1 : gx_L) : Prop := ∃ (T1 : Tb) (P1 : Nat → Int32), zT T1 ∧ (∀ j, j < g → P1 j = P j) ∧ S1 = sM S T1 P1 U (leI (fo va (w * 10 ^ m) q (10 ^ m))) (fdI (fo va (w * 10 ^ m) q (10 ^ m))) ∧ L1 = L
def tpC (S : gx_S) (U : Nat → Int32) (ng : Nat) (va : Nat → Option Nat) (L : gx_L) (m : Nat) : Prop := ∀ (g rest w : Nat) (T : Tb) (P : Nat → Int32) (q : Option (Nat × Nat)), g + m = ng → rest ≤ 9 → zT T → okq q → w < 10 ^ g → ndP va (rmN (S 12) (tG S 18)) (wtP (S 14) (S 12) (S 16) (S 17) (tG S 18) ng) m g rest w → (∀ j, j < g → P j = nI (w / 10 ^ (g - 1 - j) % 10) ∧ w / 10 ^ (g - 1 - j) % 10 ≤ rmN (S 12) (tG S 18) j) → Cv (m + 5) mX6_tryPours [.ref 39, .int (nI g), .int (nI rest), .int (nI w)] (sM S T P U (leI q) (fdI q)) L (tpQ S U va L g w m P q)
set_option maxRecDepth 10000 in
theorem c_tp0 (S : gx_S) (U : Nat → Int32) {ng : Nat} (hng : S 11 0 = nI ng) (h5 : ng ≤ 5) (hT : okT (S 12) (tG S 18)) (hy : zT (tG S 18)) {va : Nat → Option Nat} (hv : ∀ k w, va k = some w → w < 100 ∧ k < 100000) (L : gx_L) : tpC S U ng va L 0 := by
  intro g rest w T P q hgm hr hz hq hw hnd hd
  obtain rfl : g = ng := hgm
  have hva := hnd w (by rw [Nat.pow_zero, Nat.div_one])
  have hfo := fo_leaf va w q
  have hw5 : 10 ^ g ≤ 10 ^ 5 := Nat.pow_le_pow_right (by decide) h5
  by_cases r0 : rest = 0
  · subst r0
    rw [if_pos (show vp (rmN (S 12) (tG S 18)) 0 g 0 w = true from rfl)] at hva
    have hwt := wtP_eq (gk := S 14) (dk := S 16) (sb := S 17) hT (ng := g) (k := w) (fun j hj => (hd j hj).2)
    refine ct_intro (loc := [some (.ref 39), some (.int (nI g)), some (.int (nI 0)), some (.int (nI w)), none, none, none]) (by decide) (Nat.le_of_ble_eq_true rfl) rfl ?_
    refine ev_ald0 dX6_tryPours_0 ?_
    refine ev_getr (r := 11) dX6_tryPours_1 fl_X6_18 rfl ?_
    refine ev_ild1 dX6_tryPours_4 ?_
    refine ev_V1i (M' := mX2_hasGlass) dX6_tryPours_5 lk_X6_36 vX2_hasGlass rfl (c_hasGlass 4 hh11 _ _ _) (Nat.le_refl _) (Nat.le_of_ble_eq_true rfl) ?_
    rw [sM_o S T P U _ _ (by decide), hng]
    refine ev_if_ne_f 21 dX6_tryPours_8 (by decide) (gb_f (isG_out (by omega) (Nat.le_refl _))) ?_
    refine ev_ild2 dX6_tryPours_11 ?_
    refine ev_if_ne_f 20 dX6_tryPours_12 (by decide) rfl ?_
    refine ev_ald0 dX6_tryPours_15 ?_
    refine ev_ild3 dX6_tryPours_16 ?_
    refine ev_V1v (M' := mX6_weighPours) dX6_tryPours_17 lk_X6_42 vX6_weighPours rfl (c_weighPours 0 S T P U hz hy hq hng h5 hT (f := dg g w) (fun j hj => (hd j hj).1) (fun j hj => (hd j hj).2) hwt.1 (by omega) (by omega) L) (Nat.le_refl _) (Nat.le_of_ble_eq_true rfl) ?_
    refine ev_vret dX6_tryPours_20 ?_
    exact ⟨rfl, _, P, zT_ev (zT_pT hy h5), fun _ _ => rfl, by rw [hfo, kv_s hva], rfl⟩
  · rw [if_neg (show ¬ vp (rmN (S 12) (tG S 18)) 0 g rest w = true from fun h9 => r0 (of_decide_eq_true h9))] at hva
    refine ct_intro (loc := [some (.ref 39), some (.int (nI g)), some (.int (nI rest)), some (.int (nI w)), none, none, none]) (by decide) (Nat.le_of_ble_eq_true rfl) rfl ?_
    refine ev_ald0 dX6_tryPours_0 ?_
    refine ev_getr (r := 11) dX6_tryPours_1 fl_X6_18 rfl ?_
    refine ev_ild1 dX6_tryPours_4 ?_
    refine ev_V1i (M' := mX2_hasGlass) dX6_tryPours_5 lk_X6_36 vX2_hasGlass rfl (c_hasGlass 4 hh11 _ _ _) (Nat.le_refl _) (Nat.le_of_ble_eq_true rfl) ?_
    rw [sM_o S T P U _ _ (by decide), hng]
    refine ev_if_ne_f 21 dX6_tryPours_8 (by decide) (gb_f (isG_out (by omega) (Nat.le_refl _))) ?_
    refine ev_ild2 dX6_tryPours_11 ?_
    refine ev_if_ne_t 20 dX6_tryPours_12 (by decide) (nI_ne0' (Nat.pos_of_ne_zero r0) (by omega)) ?_
    refine ev_vret dX6_tryPours_20 ?_
    exact ⟨rfl, _, P, hz, fun _ _ => rfl, by rw [hfo, kv_n hva], rfl⟩
set_option maxRecDepth 10000 in
theorem l_tp (S : gx_S) (U : Nat → Int32) {ng : Nat} (hng : S 11 0 = nI ng) (h5 : ng ≤ 5) (hT : okT (S 12) (tG S 18)) (hy : zT (tG S 18)) {va : Nat → Option Nat} (hv : ∀ k w, va k = some w → w < 100 ∧ k < 100000) (L : gx_L) {m : Nat} (ihm : tpC S U ng va L m) {g rest w : Nat} {P0 : Nat → Int32} {q : Option (Nat × Nat)} (hgm : g + 1 + m = ng) (hr : rest ≤ 9) (hq : okq q) (hw : w < 10 ^ g) (hnd : ndP va (rmN (S 12) (tG S 18)) (wtP (S 14) (S 12) (S 16) (S 17) (tG S 18) ng) (m + 1) g rest w) (hd : ∀ j, j < g → P0 j = nI (w / 10 ^ (g - 1 - j) % 10) ∧ w / 10 ^ (g - 1 - j) % 10 ≤ rmN (S 12) (tG S 18) j) (fe : Int32) {mo : Nat} (hmo : rest ≤ mo ∨ rmN (S 12) (tG S 18) g ≤ mo) (hmo2 : mo ≤ rest ∧ mo ≤ rmN (S 12) (tG S 18) g) : ∀ (nn c : Nat) (T : Tb) (P : Nat → Int32), c ≤ 10 → mo + 1 - c = nn → zT T → (∀ j, j < g → P j = P0 j) → Ev mX6_tryPours (m + 1 + 5) 52 [some (.ref 39), some (.int (nI g)), some (.int (nI rest)), some (.int (nI w)), some (.int fe), some (.int (nI mo)), some (.int (nI c))] [] (sM S T P U (leI (fo va (w * 10 ^ (m + 1)) q (c * 10 ^ m))) (fdI (fo va (w * 10 ^ (m + 1)) q (c * 10 ^ m)))) L (fun v S1 L1 => v = none ∧ tpQ S U va L g w (m + 1) P0 q S1 L1) := by
  intro nn
  induction nn with
  | zero =>
    intro c T P hc10 hc hz hp
    have hend : fo va (w * 10 ^ (m + 1)) q (10 ^ (m + 1)) = fo va (w * 10 ^ (m + 1)) q (c * 10 ^ m) := by
      have e := fo_hi (va := va) (w := w) (m := m) (q := q) (10 - c) c (fun x h1 h2 => ndP_no hnd (by omega) (by omega))
      rw [show c + (10 - c) = 10 from by omega, ten_m] at e
      exact e
    refine ev_ild6 dX6_tryPours_52 ?_
    refine ev_ild5 dX6_tryPours_54 ?_
    refine ev_icmp_gt_t 91 dX6_tryPours_56 (by decide) (nI_lt (by omega) (by omega)) ?_
    refine ev_vret dX6_tryPours_91 ?_
    exact ⟨rfl, T, P, hz, hp, by rw [hend], rfl⟩
  | succ nn ih =>
    intro c T P hc10 hc hz hp
    have hw2 : 10 * w + c < 10 ^ (g + 1) := by
      rw [Nat.pow_succ]
      omega
    have hd2 : ∀ j, j < g + 1 → upd P g (nI c) j = nI ((10 * w + c) / 10 ^ (g + 1 - 1 - j) % 10) ∧ (10 * w + c) / 10 ^ (g + 1 - 1 - j) % 10 ≤ rmN (S 12) (tG S 18) j := by
      intro j hj
      by_cases e : j = g
      · subst e
        rw [upd_at, dg_e (by omega)]
        exact ⟨rfl, by omega⟩
      · rw [upd_ne _ _ e, dg_s (by omega) (by omega), hp j (by omega)]
        exact hd j (by omega)
    refine ev_ild6 dX6_tryPours_52 ?_
    refine ev_ild5 dX6_tryPours_54 ?_
    refine ev_icmp_gt_f 91 dX6_tryPours_56 (by decide) (nI_nlt (by omega) (by omega)) ?_
    refine ev_ald0 dX6_tryPours_59 ?_
    refine ev_getr (r := 40) dX6_tryPours_60 fl_X6_9 rfl ?_
    refine ev_ild1 dX6_tryPours_63 ?_
    refine ev_ild6 dX6_tryPours_64 ?_
    refine ev_iast' dX6_tryPours_66 rfl (by omega) (by decide) ?_
    rw [sM_u40]
    refine ev_ald0 dX6_tryPours_67 ?_
    refine ev_ild1 dX6_tryPours_68 ?_
    refine ev_iconst (v := 1) dX6_tryPours_69 (by decide) ?_
    refine ev_iadd dX6_tryPours_70 ?_
    rw [nI_1]
    refine ev_ild2 dX6_tryPours_71 ?_
    refine ev_ild6 dX6_tryPours_72 ?_
    refine ev_isub dX6_tryPours_74 ?_
    rw [nI_sub (by omega)]
    refine ev_bipush (v := 10) dX6_tryPours_75 (by decide) ?_
    refine ev_ild3 dX6_tryPours_77 ?_
    refine ev_imul dX6_tryPours_78 ?_
    rw [m10]
    refine ev_ild6 dX6_tryPours_79 ?_
    refine ev_iadd dX6_tryPours_81 ?_
    rw [nI_add]
    refine ev_V3vq (M' := mX6_tryPours) dX6_tryPours_82 lk_X6_64 vX6_tryPours rfl (ihm (g + 1) (rest - c) (10 * w + c) T (upd P g (nI c)) _ (by omega) (by omega) hz (okq_fo hq hv _) hw2 (ndP_s hnd (by omega) (by omega) (by omega)) hd2) (Nat.le_refl _) (Nat.le_of_ble_eq_true rfl) (fun S9 L9 h9 => ?_)
    obtain ⟨T1, P1, hz1, hp1, hS1, hL1⟩ := h9
    have hL2 := hL1.symm
    subst hL2
    subst hS1
    refine ev_inc6 dX6_tryPours_85 (nI_inc _) ?_
    refine ev_goto 52 dX6_tryPours_88 (by decide) ?_
    have e := ih (c + 1) T1 P1 (by omega) (by omega) hz1 (fun j hj => ((hp1 j (by omega)).trans (upd_ne _ _ (by omega))).trans (hp j hj))
    rw [fo_dig] at e
    exact e
set_option maxRecDepth 10000 in
theorem c_tps (S : gx_S) (U : Nat → Int32) {ng : Nat} (hng : S 11 0 = nI ng) (h5 : ng ≤ 5) (hT : okT (S 12) (tG S 18)) (hy : zT (tG S 18)) {va : Nat → Option Nat} (hv : ∀ k w, va k = some w → w < 100 ∧ k < 100000) (L : gx_L) {m : Nat} (ihm : tpC S U ng va L m) : tpC S U ng va L (m + 1) := by
  intro g rest w T P q hgm hr hz hq hw hnd hd
  have hgm2 : g + 1 + m = ng := by omega
  have hrb := rsm_b (rm := (rmN (S 12) (tG S 18))) (fun j hj => (rmN_eq hT hj).2.1) (g + 1) m (by omega)
  have hrg := (rmN_eq hT (show g < 5 by omega)).2.1
  have l9 := l_tp S U hng h5 hT hy hv L ihm hgm2 hr hq hw hnd hd (nI (rest - rsm (rmN (S 12) (tG S 18)) (g + 1) m)) (mo := if rmN (S 12) (tG S 18) g < rest then rmN (S 12) (tG S 18) g else rest) (by split <;> omega) (by split <;> omega) _ (rest - rsm (rmN (S 12) (tG S 18)) (g + 1) m) T P (by omega) rfl hz (fun _ _ => rfl)
  rw [fo_lo (va := va) (w := w) (m := m) (q := q) (rest - rsm (rmN (S 12) (tG S 18)) (g + 1) m) (fun x hx => ndP_no hnd (by omega) (by omega))] at l9
  refine ct_intro (loc := [some (.ref 39), some (.int (nI g)), some (.int (nI rest)), some (.int (nI w)), none, none, none]) (by decide) (Nat.le_of_ble_eq_true rfl) rfl ?_
  refine ev_ald0 dX6_tryPours_0 ?_
  refine ev_getr (r := 11) dX6_tryPours_1 fl_X6_18 rfl ?_
  refine ev_ild1 dX6_tryPours_4 ?_
  refine ev_V1i (M' := mX2_hasGlass) dX6_tryPours_5 lk_X6_36 vX2_hasGlass rfl (c_hasGlass (m + 5) hh11 _ _ _) (Nat.le_refl _) (Nat.le_of_ble_eq_true rfl) ?_
  rw [sM_o S T P U _ _ (by decide), hng]
  refine ev_if_ne_t 21 dX6_tryPours_8 (by decide) (gb_t (isG_in (by omega) (by omega))) ?_
  refine ev_iconst (v := 0) dX6_tryPours_21 (by decide) ?_
  refine ev_ild2 dX6_tryPours_22 ?_
  refine ev_ald0 dX6_tryPours_23 ?_
  refine ev_ild1 dX6_tryPours_24 ?_
  refine ev_V1i (M' := mX6_roomBehind) dX6_tryPours_25 lk_X6_46 vX6_roomBehind rfl (c_roomBehind (m + 4) S T P U _ _ hng h5 hT hgm2 L) (Nat.le_refl _) (Nat.le_of_ble_eq_true rfl) ?_
  refine ev_isub dX6_tryPours_28 ?_
  refine ev_max dX6_tryPours_29 lk_X6_50 (Nat.le_add_left 1 _) (Nat.le_of_ble_eq_true rfl) ?_
  rw [max0 hr (by omega)]
  refine ev_ist4 dX6_tryPours_32 ?_
  refine ev_ild2 dX6_tryPours_34 ?_
  refine ev_ald0 dX6_tryPours_35 ?_
  refine ev_getr (r := 18) dX6_tryPours_36 fl_X6_22 rfl ?_
  refine ev_ild1 dX6_tryPours_39 ?_
  refine ev_V1i (M' := mX9_roomIn) dX6_tryPours_40 lk_X6_56 vX9_roomIn rfl (k_rms S T P U _ _ (m + 5) (by omega) hT L) (Nat.le_refl _) (Nat.le_of_ble_eq_true rfl) ?_
  refine ev_min dX6_tryPours_43 lk_X6_61 (Nat.le_add_left 1 _) (Nat.le_of_ble_eq_true rfl) ?_
  rw [min_n hrg hr]
  refine ev_ist5 dX6_tryPours_46 ?_
  refine ev_ild4 dX6_tryPours_48 ?_
  refine ev_ist6 dX6_tryPours_50 ?_
  exact l9
theorem c_tp (S : gx_S) (U : Nat → Int32) {ng : Nat} (hng : S 11 0 = nI ng) (h5 : ng ≤ 5) (hT : okT (S 12) (tG S 18)) (hy : zT (tG S 18)) {va : Nat → Option Nat} (hv : ∀ k w, va k = some w → w < 100 ∧ k < 100000) (L : gx_L) : ∀ m, tpC S U ng va L m
  | 0 => c_tp0 S U hng h5 hT hy hv L
  | m + 1 => c_tps S U hng h5 hT hy hv L (c_tp S U hng h5 hT hy hv L m)
set_option maxRecDepth 10000 in
theorem x_pouring0 (d : Nat) (S : gx_S) {n w : Int32} (hb : n < 0 ∨ 9 < n) (L : gx_L) : Cf d mX10_pouring [.ref 0, .int n, .int w] S L (-2) S L := by
  refine ct_intro (loc := [some (.ref 0), some (.int n), some (.int w)]) (by decide) (Nat.le_of_ble_eq_true rfl) rfl ?_
  refine ev_ild1 dX10_pouring_0 ?_
  refine ev_if_lt 10 dX10_pouring_1 (by decide) (fun c_1 => ?_) (fun c_1 => ?_)
  · refine ev_bipush (v := (-2)) dX10_pouring_10 (by decide) ?_
    refine ev_iret dX10_pouring_12 ?_
    exact ⟨_, rfl, rfl, rfl, rfl⟩
  · refine ev_ild1 dX10_pouring_4 ?_
    refine ev_bipush (v := 9) dX10_pouring_5 (by decide) ?_
    refine ev_icmp_le 13 dX10_pouring_7 (by decide) (fun c_7 => ?_) (fun c_7 => ?_)
    · exact absurd hb (fun h9 => h9.elim c_1 (fun h9 => Int32.not_le.mpr h9 c_7))
    · refine ev_bipush (v := (-2)) dX10_pouring_10 (by decide) ?_
      refine ev_iret dX10_pouring_12 ?_
      exact ⟨_, rfl, rfl, rfl, rfl⟩
set_option maxRecDepth 10000 in
theorem x_pouring (S : gx_S) {ng : Nat} (hng : S 11 0 = nI ng) (h5 : ng ≤ 5) (hT : okT (S 12) (tG S 18)) (hy : zT (tG S 18)) (z26 : zT (tG S 26)) {k : Nat} (hk : k ≤ 9) (w : Int32) (L : gx_L) : Ci (ng + 6) mX10_pouring [.ref 0, .int (nI k), .int w] S L (fun r S1 L1 => r = (if w = 0 then leI (fo (vaP (rmN (S 12) (tG S 18)) (wtP (S 14) (S 12) (S 16) (S 17) (tG S 18) ng) ng k) 0 none (10 ^ ng)) else fdI (fo (vaP (rmN (S 12) (tG S 18)) (wtP (S 14) (S 12) (S 16) (S 17) (tG S 18) ng) ng k) 0 none (10 ^ ng))) ∧ (∃ (T1 : Tb) (P U : Nat → Int32) (a b : Int32), zT T1 ∧ S1 = sM S T1 P U a b) ∧ L1 = L) := by
  have ct := c_tp S (S 41) hng h5 hT hy (va := vaP (rmN (S 12) (tG S 18)) (wtP (S 14) (S 12) (S 16) (S 17) (tG S 18) ng) ng k) (vaP_w hT h5) L ng 0 k 0 (tG S 26) (S 40) none (Nat.zero_add _) hk z26 okq_n (by decide) (ndP_0 _ _ _ _) (fun j hj => absurd hj (Nat.not_lt_zero j))
  refine ct_intro (loc := [some (.ref 0), some (.int (nI k)), some (.int w)]) (by decide) (Nat.le_of_ble_eq_true rfl) rfl ?_
  refine ev_ild1 dX10_pouring_0 ?_
  refine ev_if_lt_f 10 dX10_pouring_1 (by decide) (nI_pos (by omega)) ?_
  refine ev_ild1 dX10_pouring_4 ?_
  refine ev_bipush (v := 9) dX10_pouring_5 (by decide) ?_
  refine ev_icmp_le_t 13 dX10_pouring_7 (by decide) (nI_le (b := 9) (by omega) (by decide)) ?_
  refine ev_ald0 dX10_pouring_13 ?_
  refine ev_getr (r := 39) dX10_pouring_14 fl_X10_76 rfl ?_
  refine ev_mem (sM_self S) ?_
  refine ev_V0v (M' := mX6_startAnew) dX10_pouring_17 lk_X10_202 vX6_startAnew rfl (c_startAnew (ng + 5) S (tG S 26) (S 40) (S 41) _ _ L) (Nat.le_refl _) (Nat.le_of_ble_eq_true rfl) ?_
  refine ev_ald0 dX10_pouring_20 ?_
  refine ev_getr (r := 39) dX10_pouring_21 fl_X10_76 rfl ?_
  refine ev_iconst (v := 0) dX10_pouring_24 (by decide) ?_
  refine ev_ild1 dX10_pouring_25 ?_
  refine ev_iconst (v := 0) dX10_pouring_26 (by decide) ?_
  refine ev_V3vq (M' := mX6_tryPours) dX10_pouring_27 lk_X10_205 vX6_tryPours rfl (ct) (Nat.le_refl _) (Nat.le_of_ble_eq_true rfl) (fun S9 L9 h9 => ?_)
  obtain ⟨T1, P1, hz1, hp1, hS1, hL1⟩ := h9
  have hL2 := hL1.symm
  subst hL2
  subst hS1
  rw [Nat.zero_mul]
  refine ev_ild2 dX10_pouring_30 ?_
  refine ev_if_eq 44 dX10_pouring_31 (by decide) (fun c_31 => ?_) (fun c_31 => ?_)
  · refine ev_ald0 dX10_pouring_44 ?_
    refine ev_getr (r := 39) dX10_pouring_45 fl_X10_76 rfl ?_
    refine ev_geti dX10_pouring_48 fl_X10_212 rfl ?_
    rw [sM_5]
    refine ev_iret dX10_pouring_51 ?_
    exact ⟨_, rfl, (if_pos c_31).symm, ⟨T1, P1, _, _, _, hz1, rfl⟩, rfl⟩
  · refine ev_ald0 dX10_pouring_34 ?_
    refine ev_getr (r := 39) dX10_pouring_35 fl_X10_76 rfl ?_
    refine ev_geti dX10_pouring_38 fl_X10_209 rfl ?_
    rw [sM_6]
    refine ev_goto 51 dX10_pouring_41 (by decide) ?_
    refine ev_iret dX10_pouring_51 ?_
    exact ⟨_, rfl, (if_neg c_31).symm, ⟨T1, P1, _, _, _, hz1, rfl⟩, rfl⟩
