/-! ===== the class's search: its memory ===== -/
def sB (S : gx_S) (P U : Nat → Int32) (a b : Int32) : gx_S := fun i => if i = 39 then upd (upd (S 39) 5 a) 6 b else if i = 40 then P else if i = 41 then U else S i
def sM (S : gx_S) (T : Tb) (P U : Nat → Int32) (a b : Int32) : gx_S := tS (sB S P U a b) 26 T
theorem sB_o (S : gx_S) (P U : Nat → Int32) (a b : Int32) {i : Nat} (h : i < 39 ∨ 41 < i) : sB S P U a b i = S i := by
  unfold sB
  rw [if_neg (by omega), if_neg (by omega), if_neg (by omega)]
section SMM
variable (S : gx_S) (T : Tb) (P U : Nat → Int32) (a b : Int32)
theorem sM_o {i : Nat} (h : i < 26 ∨ 41 < i) : sM S T P U a b i = S i := by
  unfold sM
  rw [tS_o _ T (by omega), sB_o S P U a b (by omega)]
theorem sM_39 : sM S T P U a b 39 = upd (upd (S 39) 5 a) 6 b := by
  unfold sM
  rw [tS_o _ T (by decide)]
  rfl
theorem sM_40 : sM S T P U a b 40 = P := by
  unfold sM
  rw [tS_o _ T (by decide)]
  rfl
theorem sM_41 : sM S T P U a b 41 = U := by
  unfold sM
  rw [tS_o _ T (by decide)]
  rfl
theorem sM_5 : sM S T P U a b 39 5 = a := by rw [sM_39, upd_ne _ _ (by decide), upd_at]
theorem sM_6 : sM S T P U a b 39 6 = b := by rw [sM_39, upd_at]
theorem sM_g (k : Nat) (f : Nat → Int32) (S' : gx_S) (h1 : S' k = f) (hk : 39 ≤ k ∧ k ≤ 41) (h2 : ∀ i, i ≠ k → S' i = sB S P U a b i) : gx_up (sM S T P U a b) k f = tS S' 26 T := by
  funext i
  unfold gx_up
  by_cases h : i = k
  · subst h
    rw [if_pos rfl, tS_o _ T (by omega), h1]
  · rw [if_neg h]
    unfold sM tS
    by_cases e1 : i = 26 + 1
    · rw [if_pos e1, if_pos e1]
    · by_cases e2 : i = 26 + 2
      · rw [if_neg e1, if_pos e2, if_neg e1, if_pos e2]
      · by_cases e3 : i = 26 + 3
        · rw [if_neg e1, if_neg e2, if_pos e3, if_neg e1, if_neg e2, if_pos e3]
        · by_cases e4 : i = 26
          · rw [if_neg e1, if_neg e2, if_neg e3, if_pos e4, if_neg e1, if_neg e2, if_neg e3, if_pos e4, h2 26 (by omega)]
          · rw [if_neg e1, if_neg e2, if_neg e3, if_neg e4, if_neg e1, if_neg e2, if_neg e3, if_neg e4, h2 i h]
theorem sM_u40 (k : Nat) (x : Int32) : gx_u2 (sM S T P U a b) 40 k x = sM S T (upd P k x) U a b := by
  unfold gx_u2
  rw [sM_40]
  refine sM_g S T P U a b 40 _ (sB S (upd P k x) U a b) rfl (by decide) (fun i hi => ?_)
  unfold sB
  rw [if_neg hi, if_neg hi]
theorem sM_u41 (k : Nat) (x : Int32) : gx_u2 (sM S T P U a b) 41 k x = sM S T P (upd U k x) a b := by
  unfold gx_u2
  rw [sM_41]
  refine sM_g S T P U a b 41 _ (sB S P (upd U k x) a b) rfl (by decide) (fun i hi => ?_)
  unfold sB
  rw [if_neg hi, if_neg hi]
theorem sM_u5 (x : Int32) : gx_u2 (sM S T P U a b) 39 5 x = sM S T P U x b := by
  unfold gx_u2
  rw [sM_39, upd_cm (upd (S 39) 5 a) (a := 6) (b := 5) b x (by decide), upd_upd]
  refine sM_g S T P U a b 39 _ (sB S P U x b) rfl (by decide) (fun i hi => ?_)
  unfold sB
  rw [if_neg hi, if_neg hi]
theorem sM_u6 (x : Int32) : gx_u2 (sM S T P U a b) 39 6 x = sM S T P U a x := by
  unfold gx_u2
  rw [sM_39, upd_upd]
  refine sM_g S T P U a b 39 _ (sB S P U a x) rfl (by decide) (fun i hi => ?_)
  unfold sB
  rw [if_neg hi, if_neg hi]
theorem sM_self : S = sM S (tG S 26) (S 40) (S 41) (S 39 5) (S 39 6) := by
  have e : sB S (S 40) (S 41) (S 39 5) (S 39 6) = S := by
    funext i
    unfold sB
    split
    · rename_i h
      rw [h, upd_self, upd_self]
    · split
      · rename_i h; rw [h]
      · split
        · rename_i h; rw [h]
        · rfl
  unfold sM
  rw [e, tS_tG]
theorem sM_t : tG (sM S T P U a b) 26 = T := tG_tS _ 26 T
theorem sB_18 : tG (sB S P U a b) 18 = tG S 18 := by
  unfold tG
  rw [sB_o S P U a b (by decide), sB_o S P U a b (by decide), sB_o S P U a b (by decide), sB_o S P U a b (by decide)]
theorem sM_18 : tG (sM S T P U a b) 18 = tG S 18 := by
  unfold sM
  rw [tG_o _ T (by decide), sB_18]
theorem k_cp (d : Nat) (hz : zT T) (hy : zT (tG S 18)) (L : gx_L) : Cw (d + 1) mX9_copyFrom [.ref 26, .ref 18] (sM S T P U a b) L (sM S (tG S 18) P U a b) L := by
  have h := c_copyT d (sB S P U a b) T hz (by rw [sB_18]; exact hy) L
  rw [sB_18] at h
  exact h
theorem k_evs (d : Nat) (so : Int32) (L : gx_L) : Cw (d + 3) mX9_passEvening [.ref 26, .int so] (sM S T P U a b) L (sM S (p_ev (S 16) (S 17) so T) P U a b) L := by
  have h := c_evT d (sB S P U a b) T so L
  rw [sB_o S P U a b (show 16 < 39 ∨ 41 < 16 by decide), sB_o S P U a b (show 17 < 39 ∨ 41 < 17 by decide)] at h
  exact h
theorem k_txs (d : Nat) (L : gx_L) : Cf (d + 2) mX9_taxes [.ref 26] (sM S T P U a b) L (p_taxes (S 14) (S 12) T) (sM S T P U a b) L := by
  have h := c_txT d (sB S P U a b) T L
  rw [sB_o S P U a b (show 14 < 39 ∨ 41 < 14 by decide), sB_o S P U a b (show 12 < 39 ∨ 41 < 12 by decide)] at h
  exact h
theorem k_ths (d : Nat) (L : gx_L) : Cf d mX9_thirstOfAll [.ref 26] (sM S T P U a b) L (p_thirst T) (sM S T P U a b) L := c_thT d (sB S P U a b) T L
theorem k_ars (d : Nat) {dr : Nat} (hd : dr < 4) (L : gx_L) : Cw (d + 2) mX9_drinkAround [.ref 26, .int (nI dr)] (sM S T P U a b) L (sM S (p_around (S 16) (S 17) T dr) P U a b) L := by
  have h := c_drinkAroundT d tb26 hd (sB S P U a b) T L
  rw [sB_o S P U a b (show 16 < 39 ∨ 41 < 16 by decide), sB_o S P U a b (show 17 < 39 ∨ 41 < 17 by decide)] at h
  exact h
theorem k_pos (d : Nat) {ng : Nat} (hng : S 11 0 = nI ng) (h5 : ng ≤ 5) (g n : Int32) (L : gx_L) : Cf (d + 1) mX9_pourInto [.ref 26, .int g, .int n] (sM S T P U a b) L (p_pour (nI ng) (S 12) T g n).1 (sM S (p_pour (nI ng) (S 12) T g n).2 P U a b) L := by
  have e11 : sM S T P U a b 11 0 = nI ng := by rw [sM_o S T P U a b (by decide)]; exact hng
  have h := c_pourInto d tb26 (sM S T P U a b) e11 h5 g n L
  rw [e11, sM_o S T P U a b (show 12 < 26 ∨ 41 < 12 by decide), sM_t] at h
  unfold sM at h ⊢
  rw [tS_tS] at h
  exact h
theorem k_rms (d : Nat) {g : Nat} (hg : g < 5) (hT : okT (S 12) (tG S 18)) (L : gx_L) : Cf d mX9_roomIn [.ref 18, .int (nI g)] (sM S T P U a b) L (nI (rmN (S 12) (tG S 18) g)) (sM S T P U a b) L := by
  have h := c_roomIn d tb18 hg (sM S T P U a b) L
  rw [sM_o S T P U a b (show 12 < 26 ∨ 41 < 12 by decide), sM_o S T P U a b (show 18 + 1 < 26 ∨ 41 < 18 + 1 by decide)] at h
  have e := (rmN_eq hT hg).1
  rw [show S (18 + 1) g = (tG S 18).1 g from rfl, e] at h
  exact h
end SMM
theorem kl_no {p : Nat × Nat} {w k : Nat} (h : ¬ w < p.1) : kl (some p) w k = some p := if_neg h
theorem kl_yes {p : Nat × Nat} {w k : Nat} (h : w < p.1) : kl (some p) w k = some (w, k) := if_pos h
set_option maxRecDepth 10000 in
theorem c_startAnew (d : Nat) (S : gx_S) (T : Tb) (P U : Nat → Int32) (a b : Int32) (L : gx_L) : Cw d mX6_startAnew [.ref 39] (sM S T P U a b) L (sM S T P U (-9) (-9)) L := by
  refine ct_intro (loc := [some (.ref 39)]) (by decide) (Nat.le_of_ble_eq_true rfl) rfl ?_
  refine ev_ald0 dX6_startAnew_0 ?_
  refine ev_bipush (v := (-9)) dX6_startAnew_1 (by decide) ?_
  refine ev_puti dX6_startAnew_3 fp_X6_29 rfl ?_
  rw [sM_u5]
  refine ev_ald0 dX6_startAnew_6 ?_
  refine ev_bipush (v := (-9)) dX6_startAnew_7 (by decide) ?_
  refine ev_puti dX6_startAnew_9 fp_X6_33 rfl ?_
  rw [sM_u6]
  refine ev_vret dX6_startAnew_12 ?_
  exact ⟨rfl, rfl, rfl⟩
set_option maxRecDepth 10000 in
theorem c_keepLess (d : Nat) (S : gx_S) (T : Tb) (P U : Nat → Int32) {q : Option (Nat × Nat)} (hq : okq q) {w k : Nat} (hw : w < 100) (hk : k < 100000) (L : gx_L) : Cw d mX6_keepLess [.ref 39, .int (nI w), .int (nI k)] (sM S T P U (leI q) (fdI q)) L (sM S T P U (leI (kl q w k)) (fdI (kl q w k))) L := by
  refine ct_intro (loc := [some (.ref 39), some (.int (nI w)), some (.int (nI k))]) (by decide) (Nat.le_of_ble_eq_true rfl) rfl ?_
  cases q with
  | none =>
    refine ev_ald0 dX6_keepLess_0 ?_
    refine ev_geti dX6_keepLess_1 fl_X6_33 rfl ?_
    rw [sM_6]
    refine ev_bipush (v := (-9)) dX6_keepLess_4 (by decide) ?_
    refine ev_icmp_eq_t 17 dX6_keepLess_6 (by decide) rfl ?_
    refine ev_ald0 dX6_keepLess_17 ?_
    refine ev_ild1 dX6_keepLess_18 ?_
    refine ev_puti dX6_keepLess_19 fp_X6_29 rfl ?_
    rw [sM_u5]
    refine ev_ald0 dX6_keepLess_22 ?_
    refine ev_ild2 dX6_keepLess_23 ?_
    refine ev_puti dX6_keepLess_24 fp_X6_33 rfl ?_
    rw [sM_u6]
    refine ev_vret dX6_keepLess_27 ?_
    exact ⟨rfl, rfl, rfl⟩
  | some p =>
    have hp := hq p rfl
    refine ev_ald0 dX6_keepLess_0 ?_
    refine ev_geti dX6_keepLess_1 fl_X6_33 rfl ?_
    rw [sM_6]
    refine ev_bipush (v := (-9)) dX6_keepLess_4 (by decide) ?_
    refine ev_icmp_eq_f 17 dX6_keepLess_6 (by decide) (nI_not9 (k := p.2) (by omega)) ?_
    refine ev_ild1 dX6_keepLess_9 ?_
    refine ev_ald0 dX6_keepLess_10 ?_
    refine ev_geti dX6_keepLess_11 fl_X6_29 rfl ?_
    rw [sM_5]
    refine ev_icmp_ge 27 dX6_keepLess_14 (by decide) (fun c_14 => ?_) (fun c_14 => ?_)
    · refine ev_vret dX6_keepLess_27 ?_
      rw [kl_no (fun h9 => nI_ge h9 (by omega) c_14)]
      exact ⟨rfl, rfl, rfl⟩
    · refine ev_ald0 dX6_keepLess_17 ?_
      refine ev_ild1 dX6_keepLess_18 ?_
      refine ev_puti dX6_keepLess_19 fp_X6_29 rfl ?_
      rw [sM_u5]
      refine ev_ald0 dX6_keepLess_22 ?_
      refine ev_ild2 dX6_keepLess_23 ?_
      refine ev_puti dX6_keepLess_24 fp_X6_33 rfl ?_
      rw [sM_u6]
      refine ev_vret dX6_keepLess_27 ?_
      rw [kl_yes (Nat.lt_of_not_le (fun h9 => c_14 (nI_le h9 (by omega))))]
      exact ⟨rfl, rfl, rfl⟩
set_option maxRecDepth 10000 in
theorem l_rb (d : Nat) (S : gx_S) (T : Tb) (P U : Nat → Int32) (a b : Int32) {ng : Nat} (hng : S 11 0 = nI ng) (h5 : ng ≤ 5) (hT : okT (S 12) (tG S 18)) {g m : Nat} (hm : g + 1 + m = ng) (L : gx_L) {Q : Option Value → gx_S → gx_L → Prop}  (kk : Ev mX6_roomBehind (d + 1) 34 [some (.ref 39), some (.int (nI g)), some (.int (nI (rsm (rmN (S 12) (tG S 18)) (g + 1) (m)))), some (.int (nI (g + 1 + (m))))] [] (sM S T P U a b) L Q) : ∀ (nn i : Nat), i + nn = m → Ev mX6_roomBehind (d + 1) 6 [some (.ref 39), some (.int (nI g)), some (.int (nI (rsm (rmN (S 12) (tG S 18)) (g + 1) (i)))), some (.int (nI (g + 1 + (i))))] [] (sM S T P U a b) L Q := by
  intro nn
  induction nn with
  | zero =>
    intro i hi
    obtain rfl : i = m := hi
    refine ev_ild3 dX6_roomBehind_6 ?_
    refine ev_ald0 dX6_roomBehind_7 ?_
    refine ev_getr (r := 11) dX6_roomBehind_8 fl_X6_18 rfl ?_
    refine ev_geti dX6_roomBehind_11 fl_X6_68 rfl ?_
    rw [sM_o S T P U a b (by decide), hng]
    refine ev_icmp_ge_t 34 dX6_roomBehind_14 (by decide) (nI_le (by omega) (by omega)) ?_
    exact kk
  | succ nn ih =>
    intro i hi
    refine ev_ild3 dX6_roomBehind_6 ?_
    refine ev_ald0 dX6_roomBehind_7 ?_
    refine ev_getr (r := 11) dX6_roomBehind_8 fl_X6_18 rfl ?_
    refine ev_geti dX6_roomBehind_11 fl_X6_68 rfl ?_
    rw [sM_o S T P U a b (by decide), hng]
    refine ev_icmp_ge_f 34 dX6_roomBehind_14 (by decide) (nI_ge (by omega) (by omega)) ?_
    refine ev_ild2 dX6_roomBehind_17 ?_
    refine ev_ald0 dX6_roomBehind_18 ?_
    refine ev_getr (r := 18) dX6_roomBehind_19 fl_X6_22 rfl ?_
    refine ev_ild3 dX6_roomBehind_22 ?_
    refine ev_V1i (M' := mX9_roomIn) dX6_roomBehind_23 lk_X6_56 vX9_roomIn rfl (k_rms S T P U a b d (by omega) hT L) (Nat.le_refl _) (Nat.le_of_ble_eq_true rfl) ?_
    refine ev_iadd dX6_roomBehind_26 ?_
    rw [nI_add]
    refine ev_ist2 dX6_roomBehind_27 ?_
    refine ev_inc3 dX6_roomBehind_28 (nI_inc _) ?_
    refine ev_goto 6 dX6_roomBehind_31 (by decide) ?_
    exact ih (i + 1) (by omega)
set_option maxRecDepth 10000 in
theorem c_roomBehind (d : Nat) (S : gx_S) (T : Tb) (P U : Nat → Int32) (a b : Int32) {ng : Nat} (hng : S 11 0 = nI ng) (h5 : ng ≤ 5) (hT : okT (S 12) (tG S 18)) {g m : Nat} (hm : g + 1 + m = ng) (L : gx_L) : Cf (d + 1) mX6_roomBehind [.ref 39, .int (nI g)] (sM S T P U a b) L (nI (rsm (rmN (S 12) (tG S 18)) (g + 1) m)) (sM S T P U a b) L := by
  refine ct_intro (loc := [some (.ref 39), some (.int (nI g)), none, none]) (by decide) (Nat.le_of_ble_eq_true rfl) rfl ?_
  refine ev_iconst (v := 0) dX6_roomBehind_0 (by decide) ?_
  refine ev_ist2 dX6_roomBehind_1 ?_
  refine ev_ild1 dX6_roomBehind_2 ?_
  refine ev_iconst (v := 1) dX6_roomBehind_3 (by decide) ?_
  refine ev_iadd dX6_roomBehind_4 ?_
  rw [nI_1]
  refine ev_ist3 dX6_roomBehind_5 ?_
  refine l_rb d S T P U a b hng h5 hT hm L ?_ m 0 (Nat.zero_add _)
  refine ev_ild2 dX6_roomBehind_34 ?_
  refine ev_iret dX6_roomBehind_35 ?_
  exact ⟨_, rfl, rfl, rfl, rfl⟩
set_option maxRecDepth 10000 in
theorem l_wp (d : Nat) (S : gx_S) (T : Tb) (P U : Nat → Int32) (a b w : Int32) {ng : Nat} (hng : S 11 0 = nI ng) (h5 : ng ≤ 5) (hT : okT (S 12) (tG S 18)) {f : Nat → Nat} (hP : ∀ j, j < ng → P j = nI (f j)) (hf : ∀ j, j < ng → f j ≤ rmN (S 12) (tG S 18) j) (L : gx_L) {Q : Option Value → gx_S → gx_L → Prop}  (kk : Ev mX6_weighPours (d + 4) 54 [some (.ref 39), some (.int w), some (.int (nI (ng)))] [] (sM S (pT (tG S 18) f 0 (ng)) P U a b) L Q) : ∀ (nn i : Nat), i + nn = ng → Ev mX6_weighPours (d + 4) 13 [some (.ref 39), some (.int w), some (.int (nI (i)))] [] (sM S (pT (tG S 18) f 0 (i)) P U a b) L Q := by
  intro nn
  induction nn with
  | zero =>
    intro i hi
    obtain rfl : i = ng := hi
    refine ev_ild2 dX6_weighPours_13 ?_
    refine ev_ald0 dX6_weighPours_14 ?_
    refine ev_getr (r := 11) dX6_weighPours_15 fl_X6_18 rfl ?_
    refine ev_geti dX6_weighPours_18 fl_X6_68 rfl ?_
    rw [sM_o S _ P U a b (by decide), hng]
    refine ev_icmp_ge_t 54 dX6_weighPours_21 (by decide) (nI_le (Nat.le_refl _) (by omega)) ?_
    exact kk
  | succ nn ih =>
    intro i hi
    refine ev_ild2 dX6_weighPours_13 ?_
    refine ev_ald0 dX6_weighPours_14 ?_
    refine ev_getr (r := 11) dX6_weighPours_15 fl_X6_18 rfl ?_
    refine ev_geti dX6_weighPours_18 fl_X6_68 rfl ?_
    rw [sM_o S _ P U a b (by decide), hng]
    refine ev_icmp_ge_f 54 dX6_weighPours_21 (by decide) (nI_ge (by omega) (by omega)) ?_
    refine ev_ald0 dX6_weighPours_24 ?_
    refine ev_getr (r := 40) dX6_weighPours_25 fl_X6_9 rfl ?_
    refine ev_ild2 dX6_weighPours_28 ?_
    refine ev_iald' dX6_weighPours_29 rfl (by omega) (by decide) ?_
    rw [sM_40, hP i (by omega)]
    refine ev_if_le 48 dX6_weighPours_30 (by decide) (fun c_30 => ?_) (fun c_30 => ?_)
    · refine ev_inc2 dX6_weighPours_48 (nI_inc _) ?_
      refine ev_goto 13 dX6_weighPours_51 (by decide) ?_
      have f0 : f i = 0 := Nat.eq_zero_of_not_pos (fun h9 => nI_nle h9 (by have := hf i (by omega); have := (rmN_eq hT (show i < 5 by omega)).2.1; omega) c_30)
      have e := ih (i + 1) (by omega)
      rw [pT_n1 0 f0] at e
      exact e
    · refine ev_ald0 dX6_weighPours_33 ?_
      refine ev_getr (r := 26) dX6_weighPours_34 fl_X6_26 rfl ?_
      refine ev_ild2 dX6_weighPours_37 ?_
      refine ev_ald0 dX6_weighPours_38 ?_
      refine ev_getr (r := 40) dX6_weighPours_39 fl_X6_9 rfl ?_
      refine ev_ild2 dX6_weighPours_42 ?_
      refine ev_iald' dX6_weighPours_43 rfl (by omega) (by decide) ?_
      rw [sM_40, hP i (by omega)]
      refine ev_V2i (M' := mX9_pourInto) dX6_weighPours_44 lk_X6_75 vX9_pourInto rfl (k_pos S _ P U a b (d + 2) hng h5 _ _ L) (Nat.le_refl _) (Nat.le_of_ble_eq_true rfl) ?_
      rw [pour_s hT h5 (by omega) (hf i (by omega)) (Nat.pos_of_ne_zero (fun h9 => c_30 (by rw [h9]; decide)))]
      refine ev_popi dX6_weighPours_47 ?_
      refine ev_inc2 dX6_weighPours_48 (nI_inc _) ?_
      refine ev_goto 13 dX6_weighPours_51 (by decide) ?_
      exact ih (i + 1) (by omega)
set_option maxRecDepth 10000 in
theorem c_weighPours (d : Nat) (S : gx_S) (T : Tb) (P U : Nat → Int32) (hz : zT T) (hy : zT (tG S 18)) {q : Option (Nat × Nat)} (hq : okq q) {ng : Nat} (hng : S 11 0 = nI ng) (h5 : ng ≤ 5) (hT : okT (S 12) (tG S 18)) {f : Nat → Nat} (hP : ∀ j, j < ng → P j = nI (f j)) (hf : ∀ j, j < ng → f j ≤ rmN (S 12) (tG S 18) j) {wv k : Nat} (hw : p_taxes (S 14) (S 12) (p_ev (S 16) (S 17) 15 (pT (tG S 18) f 0 ng)) = nI wv) (hw1 : wv < 100) (hk : k < 100000) (L : gx_L) : Cw (d + 4) mX6_weighPours [.ref 39, .int (nI k)] (sM S T P U (leI q) (fdI q)) L (sM S (p_ev (S 16) (S 17) 15 (pT (tG S 18) f 0 ng)) P U (leI (kl q wv k)) (fdI (kl q wv k))) L := by
  refine ct_intro (loc := [some (.ref 39), some (.int (nI k)), none]) (by decide) (Nat.le_of_ble_eq_true rfl) rfl ?_
  refine ev_ald0 dX6_weighPours_0 ?_
  refine ev_getr (r := 26) dX6_weighPours_1 fl_X6_26 rfl ?_
  refine ev_ald0 dX6_weighPours_4 ?_
  refine ev_getr (r := 18) dX6_weighPours_5 fl_X6_22 rfl ?_
  refine ev_V1v (M' := mX9_copyFrom) dX6_weighPours_8 lk_X6_71 vX9_copyFrom rfl (k_cp S T P U _ _ (d + 2) hz hy L) (Nat.le_refl _) (Nat.le_of_ble_eq_true rfl) ?_
  refine ev_iconst (v := 0) dX6_weighPours_11 (by decide) ?_
  refine ev_ist2 dX6_weighPours_12 ?_
  have l9 := l_wp d S T P U (leI q) (fdI q) (nI k) hng h5 hT hP hf L (Q := fun v S1 L1 => v = none ∧ S1 = sM S (p_ev (S 16) (S 17) 15 (pT (tG S 18) f 0 ng)) P U (leI (kl q wv k)) (fdI (kl q wv k)) ∧ L1 = L) ?_ ng 0 (Nat.zero_add _)
  · rw [pT_0] at l9
    exact l9
  · refine ev_ald0 dX6_weighPours_54 ?_
    refine ev_getr (r := 26) dX6_weighPours_55 fl_X6_26 rfl ?_
    refine ev_bipush (v := 15) dX6_weighPours_58 (by decide) ?_
    refine ev_V1v (M' := mX9_passEvening) dX6_weighPours_60 lk_X6_78 vX9_passEvening rfl (k_evs S _ P U _ _ d 15 L) (Nat.le_refl _) (Nat.le_of_ble_eq_true rfl) ?_
    refine ev_ald0 dX6_weighPours_63 ?_
    refine ev_ald0 dX6_weighPours_64 ?_
    refine ev_getr (r := 26) dX6_weighPours_65 fl_X6_26 rfl ?_
    refine ev_V0i (M' := mX9_taxes) dX6_weighPours_68 lk_X6_81 vX9_taxes rfl (k_txs S _ P U _ _ (d + 1) L) (Nat.le_refl _) (Nat.le_of_ble_eq_true rfl) ?_
    rw [hw]
    refine ev_ild1 dX6_weighPours_71 ?_
    refine ev_V2v (M' := mX6_keepLess) dX6_weighPours_72 lk_X6_85 vX6_keepLess rfl (c_keepLess (d + 3) S _ P U hq hw1 hk L) (Nat.le_refl _) (Nat.le_of_ble_eq_true rfl) ?_
    refine ev_vret dX6_weighPours_75 ?_
    exact ⟨rfl, rfl, rfl⟩
