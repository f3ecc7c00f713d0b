/-! ===== the class's search: orders in which to drink ===== -/
set_option maxRecDepth 10000 in
theorem l_wt (d : Nat) (S : gx_S) (T : Tb) (P U : Nat → Int32) (a b w : Int32) {nd : Nat} (hnd : S 11 1 = nI nd) (h4 : nd ≤ 4) {u : Nat → Nat} (hU : ∀ j, j < nd → U j = nI (u j) ∧ u j < nd) (L : gx_L) {Q : Option Value → gx_S → gx_L → Prop}  (kk : Ev mX6_weighTurns (d + 3) 43 [some (.ref 39), some (.int w), some (.int (nI (nd)))] [] (sM S (trN (S 16) (S 17) (tG S 18) u (nd)) P U a b) L Q) : ∀ (nn i : Nat), i + nn = nd → Ev mX6_weighTurns (d + 3) 13 [some (.ref 39), some (.int w), some (.int (nI (i)))] [] (sM S (trN (S 16) (S 17) (tG S 18) u (i)) P U a b) L Q := by
  intro nn
  induction nn with
  | zero =>
    intro i hi
    obtain rfl : i = nd := hi
    refine ev_ild2 dX6_weighTurns_13 ?_
    refine ev_ald0 dX6_weighTurns_14 ?_
    refine ev_getr (r := 11) dX6_weighTurns_15 fl_X6_18 rfl ?_
    refine ev_geti dX6_weighTurns_18 fl_X6_104 rfl ?_
    rw [sM_o S _ P U a b (by decide), hnd]
    refine ev_icmp_ge_t 43 dX6_weighTurns_21 (by decide) (nI_le (Nat.le_refl _) (by omega)) ?_
    exact kk
  | succ nn ih =>
    intro i hi
    refine ev_ild2 dX6_weighTurns_13 ?_
    refine ev_ald0 dX6_weighTurns_14 ?_
    refine ev_getr (r := 11) dX6_weighTurns_15 fl_X6_18 rfl ?_
    refine ev_geti dX6_weighTurns_18 fl_X6_104 rfl ?_
    rw [sM_o S _ P U a b (by decide), hnd]
    refine ev_icmp_ge_f 43 dX6_weighTurns_21 (by decide) (nI_ge (by omega) (by omega)) ?_
    refine ev_ald0 dX6_weighTurns_24 ?_
    refine ev_getr (r := 26) dX6_weighTurns_25 fl_X6_26 rfl ?_
    refine ev_ald0 dX6_weighTurns_28 ?_
    refine ev_getr (r := 41) dX6_weighTurns_29 fl_X6_15 rfl ?_
    refine ev_ild2 dX6_weighTurns_32 ?_
    refine ev_iald' dX6_weighTurns_33 rfl (by omega) (by decide) ?_
    rw [sM_41, (hU i (by omega)).1]
    refine ev_V1v (M' := mX9_drinkAround) dX6_weighTurns_34 lk_X6_117 vX9_drinkAround rfl (k_ars S _ P U a b d (by have := (hU i (by omega)).2; omega) L) (Nat.le_refl _) (Nat.le_of_ble_eq_true rfl) ?_
    refine ev_inc2 dX6_weighTurns_37 (nI_inc _) ?_
    refine ev_goto 13 dX6_weighTurns_40 (by decide) ?_
    exact ih (i + 1) (by omega)
set_option maxRecDepth 10000 in
theorem c_weighTurns (d : Nat) (S : gx_S) (T : Tb) (P U : Nat → Int32) (hz : zT T) (hy : zT (tG S 18)) {q : Option (Nat × Nat)} (hq : okq q) {nd : Nat} (hnd : S 11 1 = nI nd) (h4 : nd ≤ 4) {u : Nat → Nat} (hU : ∀ j, j < nd → U j = nI (u j) ∧ u j < nd) {wv k : Nat} (hw : p_thirst (trN (S 16) (S 17) (tG S 18) u (nd)) = nI wv) (hw1 : wv < 100) (hk : k < 100000) (L : gx_L) : Cw (d + 3) mX6_weighTurns [.ref 39, .int (nI k)] (sM S T P U (leI q) (fdI q)) L (sM S (trN (S 16) (S 17) (tG S 18) u (nd)) P U (leI (kl q wv k)) (fdI (kl q wv k))) L := by
  refine ct_intro (loc := [some (.ref 39), some (.int (nI k)), none]) (by decide) (Nat.le_of_ble_eq_true rfl) rfl ?_
  refine ev_ald0 dX6_weighTurns_0 ?_
  refine ev_getr (r := 26) dX6_weighTurns_1 fl_X6_26 rfl ?_
  refine ev_ald0 dX6_weighTurns_4 ?_
  refine ev_getr (r := 18) dX6_weighTurns_5 fl_X6_22 rfl ?_
  refine ev_V1v (M' := mX9_copyFrom) dX6_weighTurns_8 lk_X6_71 vX9_copyFrom rfl (k_cp S T P U _ _ (d + 1) hz hy L) (Nat.le_refl _) (Nat.le_of_ble_eq_true rfl) ?_
  refine ev_iconst (v := 0) dX6_weighTurns_11 (by decide) ?_
  refine ev_ist2 dX6_weighTurns_12 ?_
  refine l_wt d S T P U (leI q) (fdI q) (nI k) hnd h4 hU L ?_ nd 0 (Nat.zero_add _)
  refine ev_ald0 dX6_weighTurns_43 ?_
  refine ev_ald0 dX6_weighTurns_44 ?_
  refine ev_getr (r := 26) dX6_weighTurns_45 fl_X6_26 rfl ?_
  refine ev_V0i (M' := mX9_thirstOfAll) dX6_weighTurns_48 lk_X6_120 vX9_thirstOfAll rfl (k_ths S _ P U _ _ (d + 2) L) (Nat.le_refl _) (Nat.le_of_ble_eq_true rfl) ?_
  rw [hw]
  refine ev_ild1 dX6_weighTurns_51 ?_
  refine ev_V2v (M' := mX6_keepLess) dX6_weighTurns_52 lk_X6_85 vX6_keepLess rfl (c_keepLess (d + 2) S _ P U hq hw1 hk L) (Nat.le_refl _) (Nat.le_of_ble_eq_true rfl) ?_
  refine ev_vret dX6_weighTurns_55 ?_
  exact ⟨rfl, rfl, rfl⟩
def ttQ (S : gx_S) (P : Nat → Int32) (va : Nat → Option Nat) (L : gx_L) (g w m : Nat) (U : Nat → Int32) (q : Option (Nat × Nat)) (S1 : gx_S) (L1 : gx_L) : Prop := ∃ (T1 : Tb) (U1 : Nat → Int32), zT T1 ∧ (∀ j, j < g → U1 j = U j) ∧ S1 = sM S T1 P U1 (leI (fo va (w * 10 ^ m) q (10 ^ m))) (fdI (fo va (w * 10 ^ m) q (10 ^ m))) ∧ L1 = L
def ttC (S : gx_S) (P : Nat → Int32) (nd : Nat) (va : Nat → Option Nat) (L : gx_L) (m : Nat) : Prop := ∀ (g : Nat) (come : Int32) (w : Nat) (T : Tb) (U : Nat → Int32) (u : Nat → Nat) (q : Option (Nat × Nat)), g + m = nd → zT T → okq q → w < 10 ^ g → ndO va (S 16) (S 17) nd m come (trN (S 16) (S 17) (tG S 18) u g) w → (∀ j, j < g → U j = nI (u j) ∧ u j < nd) → Cv (m + 4) mX6_tryTurns [.ref 39, .int (nI g), .int come, .int (nI w)] (sM S T P U (leI q) (fdI q)) L (ttQ S P va L g w m U q)
set_option maxRecDepth 10000 in
theorem c_tt0 (S : gx_S) (P : Nat → Int32) {nd : Nat} (hnd : S 11 1 = nI nd) (h4 : nd ≤ 4) (hT : okT (S 12) (tG S 18)) (hy : zT (tG S 18)) {va : Nat → Option Nat} (hv : ∀ k w, va k = some w → w < 100 ∧ k < 100000) (L : gx_L) : ttC S P nd va L 0 := by
  intro g come w T U u q hgm hz hq hw hno hd
  obtain rfl : g = nd := hgm
  have hva : va w = some (p_thirst (trN (S 16) (S 17) (tG S 18) u g)).toNatClampNeg := hno w (by rw [Nat.pow_zero, Nat.div_one])
  have hfo := fo_leaf va w q
  have hw5 : 10 ^ g ≤ 10 ^ 4 := Nat.pow_le_pow_right (by decide) h4
  have hth := th_b (okT_tr (dk := S 16) (sb := S 17) hT (u := u) g (fun j hj => by have := (hd j hj).2; omega))
  refine ct_intro (loc := [some (.ref 39), some (.int (nI g)), some (.int come), some (.int (nI w)), none]) (by decide) (Nat.le_of_ble_eq_true rfl) rfl ?_
  refine ev_ild1 dX6_tryTurns_0 ?_
  refine ev_ald0 dX6_tryTurns_1 ?_
  refine ev_getr (r := 11) dX6_tryTurns_2 fl_X6_18 rfl ?_
  refine ev_geti dX6_tryTurns_5 fl_X6_104 rfl ?_
  rw [sM_o S T P U _ _ (by decide), hnd]
  refine ev_icmp_lt_f 17 dX6_tryTurns_8 (by decide) (nI_nlt (Nat.le_refl _) (by omega)) ?_
  refine ev_ald0 dX6_tryTurns_11 ?_
  refine ev_ild3 dX6_tryTurns_12 ?_
  refine ev_V1v (M' := mX6_weighTurns) dX6_tryTurns_13 lk_X6_107 vX6_weighTurns rfl (c_weighTurns 0 S T P U hz hy hq hnd h4 hd hth.1 (by omega) (by omega) L) (Nat.le_refl _) (Nat.le_of_ble_eq_true rfl) ?_
  refine ev_vret dX6_tryTurns_16 ?_
  exact ⟨rfl, _, U, zT_tr (dk := S 16) (sb := S 17) hy (u := u) g (fun j hj => by have := (hd j hj).2; omega), fun _ _ => rfl, by rw [hfo, kv_s hva], rfl⟩
set_option maxRecDepth 10000 in
theorem l_tt (S : gx_S) (P : Nat → Int32) {nd : Nat} (hnd : S 11 1 = nI nd) (h4 : nd ≤ 4) (hT : okT (S 12) (tG S 18)) (hy : zT (tG S 18)) {va : Nat → Option Nat} (hv : ∀ k w, va k = some w → w < 100 ∧ k < 100000) (L : gx_L) {m : Nat} (ihm : ttC S P nd va L m) {g w : Nat} {come : Int32} {U0 : Nat → Int32} {u : Nat → Nat} {q : Option (Nat × Nat)} (hgm : g + 1 + m = nd) (hq : okq q) (hw : w < 10 ^ g) (hno : ndO va (S 16) (S 17) nd (m + 1) come (trN (S 16) (S 17) (tG S 18) u g) w) (hd : ∀ j, j < g → U0 j = nI (u j) ∧ u j < nd) : ∀ (nn i : Nat) (T : Tb) (U : Nat → Int32), i + nn = nd → zT T → (∀ j, j < g → U j = U0 j) → Ev mX6_tryTurns (m + 1 + 4) 20 [some (.ref 39), some (.int (nI g)), some (.int come), some (.int (nI w)), some (.int (nI i))] [] (sM S T P U (leI (fo va (w * 10 ^ (m + 1)) q ((i + 1) * 10 ^ m))) (fdI (fo va (w * 10 ^ (m + 1)) q ((i + 1) * 10 ^ m)))) L (fun v S1 L1 => v = none ∧ ttQ S P va L g w (m + 1) U0 q S1 L1) := by
  intro nn
  induction nn with
  | zero =>
    intro i T U hi hz hp
    obtain rfl : i = nd := hi
    have hend : fo va (w * 10 ^ (m + 1)) q (10 ^ (m + 1)) = fo va (w * 10 ^ (m + 1)) q ((i + 1) * 10 ^ m) := by
      have e := fo_hi (va := va) (w := w) (m := m) (q := q) (10 - (i + 1)) (i + 1) (fun x h1 h2 => ndO_no hno (by omega) (fun h9 => by have := h9.2.1; omega))
      rw [show i + 1 + (10 - (i + 1)) = 10 from by omega, ten_m] at e
      exact e
    refine ev_ild4 dX6_tryTurns_20 ?_
    refine ev_ald0 dX6_tryTurns_22 ?_
    refine ev_getr (r := 11) dX6_tryTurns_23 fl_X6_18 rfl ?_
    refine ev_geti dX6_tryTurns_26 fl_X6_104 rfl ?_
    rw [sM_o S _ P _ _ _ (by decide), hnd]
    refine ev_icmp_ge_t 77 dX6_tryTurns_29 (by decide) (nI_le (Nat.le_refl _) (by omega)) ?_
    refine ev_vret dX6_tryTurns_77 ?_
    exact ⟨rfl, T, U, hz, hp, by rw [hend], rfl⟩
  | succ nn ih =>
    intro i T U hi hz hp
    have hw2 : 10 * w + (i + 1) < 10 ^ (g + 1) := by
      rw [Nat.pow_succ]
      omega
    have hno2 : bt come i = false → ndO va (S 16) (S 17) nd m (come ||| (1 : Int32) <<< (nI i &&& 31)) (trN (S 16) (S 17) (tG S 18) (fun j => if j = g then i else u j) (g + 1)) (10 * w + (i + 1)) := by
      intro hb
      have e : trN (S 16) (S 17) (tG S 18) (fun j => if j = g then i else u j) (g + 1) = p_around (S 16) (S 17) (trN (S 16) (S 17) (tG S 18) u g) i := by
        show p_around (S 16) (S 17) (trN (S 16) (S 17) (tG S 18) (fun j => if j = g then i else u j) g) (if g = g then i else u g) = _
        rw [if_pos rfl, trN_c (u' := u) g (fun j hj => if_neg (by omega))]
      rw [e]
      exact ndO_s hno h4 (by omega) hb
    have hd2 : ∀ j, j < g + 1 → upd U g (nI i) j = nI ((fun j => if j = g then i else u j) j) ∧ (fun j => if j = g then i else u j) j < nd := by
      intro j hj
      show upd U g (nI i) j = nI (if j = g then i else u j) ∧ (if j = g then i else u j) < nd
      by_cases e : j = g
      · subst e
        rw [upd_at, if_pos rfl]
        exact ⟨rfl, by omega⟩
      · rw [upd_ne _ _ e, if_neg e, hp j (by omega)]
        exact hd j (by omega)
    refine ev_ild4 dX6_tryTurns_20 ?_
    refine ev_ald0 dX6_tryTurns_22 ?_
    refine ev_getr (r := 11) dX6_tryTurns_23 fl_X6_18 rfl ?_
    refine ev_geti dX6_tryTurns_26 fl_X6_104 rfl ?_
    rw [sM_o S _ P _ _ _ (by decide), hnd]
    refine ev_icmp_ge_f 77 dX6_tryTurns_29 (by decide) (nI_ge (by omega) (by omega)) ?_
    refine ev_ild2 dX6_tryTurns_32 ?_
    refine ev_ild4 dX6_tryTurns_33 ?_
    refine ev_S2i (M' := mX10_hasBit) dX6_tryTurns_35 lk_X6_110 sX10_hasBit (c_hasBit (m + 4) _ _ _ _) (Nat.le_refl _) (Nat.le_of_ble_eq_true rfl) ?_
    refine ev_if_ne 71 dX6_tryTurns_38 (by decide) (fun c_38 => ?_) (fun c_38 => ?_)
    · have b_38 := gx_b_y.mp c_38
      refine ev_inc4 dX6_tryTurns_71 (nI_inc _) ?_
      refine ev_goto 20 dX6_tryTurns_74 (by decide) ?_
      have e := ih (i + 1) T U (by omega) hz hp
      rw [fo_dig, fo_skip (ndO_no hno (by omega) (fun h9 => by have h8 := h9.2.2; rw [Nat.add_sub_cancel, b_38] at h8; cases h8))] at e
      exact e
    · have b_38 := gx_b_n.mp c_38
      refine ev_ald0 dX6_tryTurns_41 ?_
      refine ev_getr (r := 41) dX6_tryTurns_42 fl_X6_15 rfl ?_
      refine ev_ild1 dX6_tryTurns_45 ?_
      refine ev_ild4 dX6_tryTurns_46 ?_
      refine ev_iast' dX6_tryTurns_48 rfl (by omega) (by decide) ?_
      rw [sM_u41]
      refine ev_ald0 dX6_tryTurns_49 ?_
      refine ev_ild1 dX6_tryTurns_50 ?_
      refine ev_iconst (v := 1) dX6_tryTurns_51 (by decide) ?_
      refine ev_iadd dX6_tryTurns_52 ?_
      rw [nI_1]
      refine ev_ild2 dX6_tryTurns_53 ?_
      refine ev_iconst (v := 1) dX6_tryTurns_54 (by decide) ?_
      refine ev_ild4 dX6_tryTurns_55 ?_
      refine ev_ishl dX6_tryTurns_57 ?_
      refine ev_ior dX6_tryTurns_58 ?_
      refine ev_bipush (v := 10) dX6_tryTurns_59 (by decide) ?_
      refine ev_ild3 dX6_tryTurns_61 ?_
      refine ev_imul dX6_tryTurns_62 ?_
      rw [m10]
      refine ev_ild4 dX6_tryTurns_63 ?_
      refine ev_iadd dX6_tryTurns_65 ?_
      rw [nI_add]
      refine ev_iconst (v := 1) dX6_tryTurns_66 (by decide) ?_
      refine ev_iadd dX6_tryTurns_67 ?_
      rw [nI_1]
      refine ev_V3vq (M' := mX6_tryTurns) dX6_tryTurns_68 lk_X6_114 vX6_tryTurns rfl (ihm (g + 1) _ (10 * w + (i + 1)) T (upd U g (nI i)) (fun j => if j = g then i else u j) _ (by omega) hz (okq_fo hq hv _) hw2 (hno2 (Bool.eq_false_iff.mpr b_38)) hd2) (Nat.le_refl _) (Nat.le_of_ble_eq_true rfl) (fun S9 L9 h9 => ?_)
      obtain ⟨T1, U1, hz1, hp1, hS1, hL1⟩ := h9
      have hL2 := hL1.symm
      subst hL2
      subst hS1
      refine ev_inc4 dX6_tryTurns_71 (nI_inc _) ?_
      refine ev_goto 20 dX6_tryTurns_74 (by decide) ?_
      have e := ih (i + 1) T1 U1 (by omega) hz1 (fun j hj => ((hp1 j (by omega)).trans (upd_ne _ _ (by omega))).trans (hp j hj))
      rw [fo_dig] at e
      exact e
set_option maxRecDepth 10000 in
theorem c_tts (S : gx_S) (P : Nat → Int32) {nd : Nat} (hnd : S 11 1 = nI nd) (h4 : nd ≤ 4) (hT : okT (S 12) (tG S 18)) (hy : zT (tG S 18)) {va : Nat → Option Nat} (hv : ∀ k w, va k = some w → w < 100 ∧ k < 100000) (L : gx_L) {m : Nat} (ihm : ttC S P nd va L m) : ttC S P nd va L (m + 1) := by
  intro g come w T U u q hgm hz hq hw hno hd
  have l9 := l_tt S P hnd h4 hT hy hv L ihm (by omega) hq hw hno hd nd 0 T U (Nat.zero_add _) hz (fun _ _ => rfl)
  rw [fo_lo (va := va) (w := w) (m := m) (q := q) (0 + 1) (fun x hx => ndO_no hno (by omega) (by omega))] at l9
  refine ct_intro (loc := [some (.ref 39), some (.int (nI g)), some (.int come), some (.int (nI w)), none]) (by decide) (Nat.le_of_ble_eq_true rfl) rfl ?_
  refine ev_ild1 dX6_tryTurns_0 ?_
  refine ev_ald0 dX6_tryTurns_1 ?_
  refine ev_getr (r := 11) dX6_tryTurns_2 fl_X6_18 rfl ?_
  refine ev_geti dX6_tryTurns_5 fl_X6_104 rfl ?_
  rw [sM_o S T P U _ _ (by decide), hnd]
  refine ev_icmp_lt_t 17 dX6_tryTurns_8 (by decide) (nI_lt (by omega) (by omega)) ?_
  refine ev_iconst (v := 0) dX6_tryTurns_17 (by decide) ?_
  refine ev_ist4 dX6_tryTurns_18 ?_
  exact l9
theorem c_tt (S : gx_S) (P : Nat → Int32) {nd : Nat} (hnd : S 11 1 = nI nd) (h4 : nd ≤ 4) (hT : okT (S 12) (tG S 18)) (hy : zT (tG S 18)) {va : Nat → Option Nat} (hv : ∀ k w, va k = some w → w < 100 ∧ k < 100000) (L : gx_L) : ∀ m, ttC S P nd va L m
  | 0 => c_tt0 S P hnd h4 hT hy hv L
  | m + 1 => c_tts S P hnd h4 hT hy hv L (c_tt S P hnd h4 hT hy hv L m)
set_option maxRecDepth 10000 in
theorem x_order (S : gx_S) {nd : Nat} (hnd : S 11 1 = nI nd) (h4 : nd ≤ 4) (hT : okT (S 12) (tG S 18)) (hy : zT (tG S 18)) (z26 : zT (tG S 26)) (w : Int32) (L : gx_L) : Ci (nd + 5) mX10_order [.ref 0, .int w] S L (fun r S1 L1 => r = (if w = 0 then leI (fo (vaO (S 16) (S 17) nd (tG S 18)) 0 none (10 ^ nd)) else fdI (fo (vaO (S 16) (S 17) nd (tG S 18)) 0 none (10 ^ nd))) ∧ (∃ (T1 : Tb) (P U : Nat → Int32) (a b : Int32), zT T1 ∧ S1 = sM S T1 P U a b) ∧ L1 = L) := by
  have ct := c_tt S (S 40) hnd h4 hT hy (va := vaO (S 16) (S 17) nd (tG S 18)) (vaO_w h4 hT) L nd 0 0 0 (tG S 26) (S 41) (fun _ => 0) none (Nat.zero_add _) z26 okq_n (by decide) (ndO_0 _ _ _ _) (fun j hj => absurd hj (Nat.not_lt_zero j))
  refine ct_intro (loc := [some (.ref 0), some (.int w)]) (by decide) (Nat.le_of_ble_eq_true rfl) rfl ?_
  refine ev_ald0 dX10_order_0 ?_
  refine ev_getr (r := 39) dX10_order_1 fl_X10_76 rfl ?_
  refine ev_mem (sM_self S) ?_
  refine ev_V0v (M' := mX6_startAnew) dX10_order_4 lk_X10_202 vX6_startAnew rfl (c_startAnew (nd + 4) S (tG S 26) (S 40) (S 41) _ _ L) (Nat.le_refl _) (Nat.le_of_ble_eq_true rfl) ?_
  refine ev_ald0 dX10_order_7 ?_
  refine ev_getr (r := 39) dX10_order_8 fl_X10_76 rfl ?_
  refine ev_iconst (v := 0) dX10_order_11 (by decide) ?_
  refine ev_iconst (v := 0) dX10_order_12 (by decide) ?_
  refine ev_iconst (v := 0) dX10_order_13 (by decide) ?_
  refine ev_V3vq (M' := mX6_tryTurns) dX10_order_14 lk_X10_218 vX6_tryTurns rfl (ct) (Nat.le_refl _) (Nat.le_of_ble_eq_true rfl) (fun S9 L9 h9 => ?_)
  obtain ⟨T1, P1, hz1, hp1, hS1, hL1⟩ := h9
  have hL2 := hL1.symm
  subst hL2
  subst hS1
  rw [Nat.zero_mul]
  refine ev_ild1 dX10_order_17 ?_
  refine ev_if_eq 31 dX10_order_18 (by decide) (fun c_18 => ?_) (fun c_18 => ?_)
  · refine ev_ald0 dX10_order_31 ?_
    refine ev_getr (r := 39) dX10_order_32 fl_X10_76 rfl ?_
    refine ev_geti dX10_order_35 fl_X10_212 rfl ?_
    rw [sM_5]
    refine ev_iret dX10_order_38 ?_
    exact ⟨_, rfl, (if_pos c_18).symm, ⟨T1, _, P1, _, _, hz1, rfl⟩, rfl⟩
  · refine ev_ald0 dX10_order_21 ?_
    refine ev_getr (r := 39) dX10_order_22 fl_X10_76 rfl ?_
    refine ev_geti dX10_order_25 fl_X10_209 rfl ?_
    rw [sM_6]
    refine ev_goto 38 dX10_order_28 (by decide) ?_
    refine ev_iret dX10_order_38 ?_
    exact ⟨_, rfl, (if_neg c_18).symm, ⟨T1, _, P1, _, _, hz1, rfl⟩, rfl⟩
