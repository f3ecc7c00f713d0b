/-! ===== the reader: cell 3, the draft at 4 ===== -/
def rS (S : gx_S) (aw fi se : Int32) : gx_S := gx_up S 3 (upd (upd (upd (S 3) 0 aw) 1 fi) 2 se)
theorem rS_o (S : gx_S) (a b c : Int32) {i : Nat} (h : i ≠ 3) : rS S a b c i = S i := gx_up_ne S _ h
theorem rS_0 (S : gx_S) (a b c : Int32) : rS S a b c 3 0 = a := by simp [rS, gx_up, upd]
theorem rS_1 (S : gx_S) (a b c : Int32) : rS S a b c 3 1 = b := by simp [rS, gx_up, upd]
theorem rS_2 (S : gx_S) (a b c : Int32) : rS S a b c 3 2 = c := by simp [rS, gx_up, upd]
theorem rS_u0 (S : gx_S) (a b c x : Int32) : gx_u2 (rS S a b c) 3 0 x = rS S x b c := by
  unfold gx_u2 rS
  rw [gx_up_at, up_up]
  congr 1
  funext j
  unfold upd
  by_cases h2 : j = 2
  · simp [h2]
  · by_cases h1 : j = 1
    · simp [h1]
    · by_cases h0 : j = 0
      · simp [h0]
      · simp [h0, h1, h2]
theorem rS_u1 (S : gx_S) (a b c x : Int32) : gx_u2 (rS S a b c) 3 1 x = rS S a x c := by
  unfold gx_u2 rS
  rw [gx_up_at, up_up]
  congr 1
  funext j
  unfold upd
  by_cases h2 : j = 2
  · simp [h2]
  · by_cases h1 : j = 1
    · simp [h1]
    · simp [h1, h2]
theorem rS_u2 (S : gx_S) (a b c x : Int32) : gx_u2 (rS S a b c) 3 2 x = rS S a b x := by
  unfold gx_u2 rS
  rw [gx_up_at, up_up, upd_upd]
theorem rS_self (S : gx_S) : rS S (S 3 0) (S 3 1) (S 3 2) = S := by
  unfold rS
  rw [upd_self, upd_self, upd_self, up_self]
theorem hS_rS (S : gx_S) (a b c : Int32) (H : Hd) : hS (rS S a b c) 4 H = rS (hS S 4 H) a b c := by
  funext i
  by_cases h : i = 3
  · subst h
    rw [hS_o _ H (by decide)]
    unfold rS
    rw [gx_up_at, gx_up_at, hS_o S H (by decide)]
  · rw [rS_o _ a b c h]
    unfold hS
    by_cases h4 : i = 4
    · subst h4
      simp [rS_o S a b c (show 4 ≠ 3 by decide)]
    · simp only [if_neg h4, rS_o S a b c h]
/-- the reader's three numbers, the draft -/
def mM (S : gx_S) (a b c : Int32) (H : Hd) : gx_S := rS (hS S 4 H) a b c
theorem mM_0 (S : gx_S) (a b c : Int32) (H : Hd) : mM S a b c H 3 0 = a := rS_0 _ a b c
theorem mM_1 (S : gx_S) (a b c : Int32) (H : Hd) : mM S a b c H 3 1 = b := rS_1 _ a b c
theorem mM_2 (S : gx_S) (a b c : Int32) (H : Hd) : mM S a b c H 3 2 = c := rS_2 _ a b c
theorem mM_u0 (S : gx_S) (a b c x : Int32) (H : Hd) : gx_u2 (mM S a b c H) 3 0 x = mM S x b c H := rS_u0 _ a b c x
theorem mM_u1 (S : gx_S) (a b c x : Int32) (H : Hd) : gx_u2 (mM S a b c H) 3 1 x = mM S a x c H := rS_u1 _ a b c x
theorem mM_u2 (S : gx_S) (a b c x : Int32) (H : Hd) : gx_u2 (mM S a b c H) 3 2 x = mM S a b x H := rS_u2 _ a b c x
theorem mM_g (S : gx_S) (a b c : Int32) (H : Hd) : mM S a b c H 4 0 = H.1 := by unfold mM; rw [rS_o _ a b c (by decide)]; exact hS_g S 4 H
theorem mM_d (S : gx_S) (a b c : Int32) (H : Hd) : mM S a b c H 4 1 = H.2.1 := by unfold mM; rw [rS_o _ a b c (by decide)]; exact hS_d S 4 H
theorem mM_10 (S : gx_S) (a b c : Int32) (H : Hd) : mM S a b c H 10 = H.2.2.2.2.2.2.2 := by unfold mM; rw [rS_o _ a b c (by decide)]; exact hS_6 S 4 H
theorem mM_hS (S : gx_S) (a b c : Int32) (H H' : Hd) : hS (mM S a b c H) 4 H' = mM S a b c H' := by unfold mM; rw [hS_rS, hS_hS]
theorem mM_hG (S : gx_S) (a b c : Int32) (H : Hd) : hG (mM S a b c H) 4 = H := by
  have e : hG (rS (hS S 4 H) a b c) 4 = hG (hS S 4 H) 4 := by
    unfold hG
    simp only [rS_o _ a b c (show (4 : Nat) ≠ 3 by decide), rS_o _ a b c (show (4 + 1 : Nat) ≠ 3 by decide), rS_o _ a b c (show (4 + 2 : Nat) ≠ 3 by decide), rS_o _ a b c (show (4 + 3 : Nat) ≠ 3 by decide), rS_o _ a b c (show (4 + 4 : Nat) ≠ 3 by decide), rS_o _ a b c (show (4 + 5 : Nat) ≠ 3 by decide), rS_o _ a b c (show (4 + 6 : Nat) ≠ 3 by decide)]
  exact e.trans (hG_hS S 4 H)
theorem mM_o (S : gx_S) (a b c : Int32) (H : Hd) {i : Nat} (h : i < 3 ∨ 10 < i) : mM S a b c H i = S i := by
  unfold mM
  rw [rS_o _ a b c (by omega), hS_o S H (by omega)]
theorem mM_mM (S : gx_S) (a b c x y z : Int32) (H H' : Hd) : mM (mM S a b c H) x y z H' = mM S x y z H' := by
  show rS (hS (mM S a b c H) 4 H') x y z = _
  rw [mM_hS]
  unfold mM rS
  rw [gx_up_at, up_up]
  congr 1
  funext j
  unfold upd
  by_cases h2 : j = 2
  · simp [h2]
  · by_cases h1 : j = 1
    · simp [h1]
    · by_cases h0 : j = 0
      · simp [h0]
      · simp [h0, h1, h2]
theorem mM_self (S : gx_S) : mM S (S 3 0) (S 3 1) (S 3 2) (hG S 4) = S := by
  unfold mM
  rw [hS_hG, rS_self]
section RDR
variable (d : Nat) (S : gx_S) (a b c : Int32) (H : Hd) {ng nd : Nat} (L : gx_L)
theorem k_hasG (g : Int32) : Cf d mX2_hasGlass [.ref 4, .int g] (mM S a b c H) L (gx_b (isG H.1 g)) (mM S a b c H) L := by
  have h := c_hasGlass d hh4 g (mM S a b c H) L
  rw [mM_g] at h
  exact h
theorem k_hasD (g : Int32) : Cf d mX2_hasDrinker [.ref 4, .int g] (mM S a b c H) L (gx_b (isG H.2.1 g)) (mM S a b c H) L := by
  have h := c_hasDrinker d hh4 g (mM S a b c H) L
  rw [mM_d] at h
  exact h
theorem k_canSit (hd : H.2.1 = nI nd) (h4 : nd ≤ 4) (g : Int32) : Cf (d + 1) mX2_canSit [.ref 4, .int g] (mM S a b c H) L (gx_b (p_can H.1 H.2.1 H.2.2.2.2.2.2.2 g)) (mM S a b c H) L := by
  have h := c_canSit d hh4 (mM S a b c H) (by rw [mM_d]; exact hd) h4 g L
  rw [mM_d, mM_g, mM_10] at h
  exact h
theorem k_anyCan (hd : H.2.1 = nI nd) (h4 : nd ≤ 4) : Cf (d + 2) mX2_anyCanSit [.ref 4] (mM S a b c H) L (gx_b (anyB (fun i => p_can H.1 H.2.1 H.2.2.2.2.2.2.2 (nI i)) nd)) (mM S a b c H) L := by
  have h := c_anyCanSit d hh4 (mM S a b c H) (by rw [mM_d]; exact hd) h4 L
  rw [mM_d, mM_g, mM_10] at h
  exact h
theorem k_addG (hg : H.1 = nI ng) (h5 : ng < 5) (m e k : Int32) : Cw d mX2_addGlass [.ref 4, .int m, .int e, .int k] (mM S a b c H) L (mM S a b c (nI (ng + 1), H.2.1, upd H.2.2.1 ng m, upd H.2.2.2.1 ng e, upd H.2.2.2.2.1 ng k, H.2.2.2.2.2)) L := by
  have h := c_addGlass d hh4 (mM S a b c H) (by rw [mM_g]; exact hg) h5 m e k L
  have e1 := mM_hG S a b c H
  rw [mM_hS] at h
  have e2 : (nI (ng + 1), mM S a b c H 4 1, upd (mM S a b c H (4 + 1)) ng m, upd (mM S a b c H (4 + 2)) ng e, upd (mM S a b c H (4 + 3)) ng k, mM S a b c H (4 + 4), mM S a b c H (4 + 5), mM S a b c H (4 + 6)) = (nI (ng + 1), H.2.1, upd H.2.2.1 ng m, upd H.2.2.2.1 ng e, upd H.2.2.2.2.1 ng k, H.2.2.2.2.2) := by
    conv => rhs; rw [← e1]
    rfl
  rw [e2] at h
  exact h
theorem k_addD (hd : H.2.1 = nI nd) (h4 : nd < 4) (t k : Int32) : Cw d mX2_addDrinker [.ref 4, .int t, .int k] (mM S a b c H) L (mM S a b c (H.1, nI (nd + 1), H.2.2.1, H.2.2.2.1, H.2.2.2.2.1, upd H.2.2.2.2.2.1 nd t, upd H.2.2.2.2.2.2.1 nd k, H.2.2.2.2.2.2.2)) L := by
  have h := c_addDrinker d hh4 (mM S a b c H) (by rw [mM_d]; exact hd) h4 t k L
  have e1 := mM_hG S a b c H
  rw [mM_hS] at h
  have e2 : (mM S a b c H 4 0, nI (nd + 1), mM S a b c H (4 + 1), mM S a b c H (4 + 2), mM S a b c H (4 + 3), upd (mM S a b c H (4 + 4)) nd t, upd (mM S a b c H (4 + 5)) nd k, mM S a b c H (4 + 6)) = (H.1, nI (nd + 1), H.2.2.1, H.2.2.2.1, H.2.2.2.2.1, upd H.2.2.2.2.2.1 nd t, upd H.2.2.2.2.2.2.1 nd k, H.2.2.2.2.2.2.2) := by
    conv => rhs; rw [← e1]
    rfl
  rw [e2] at h
  exact h
end RDR
def p_seat (H : Hd) (fi x : Int32) : Bool × Hd := if isG H.2.1 fi = true then (if isG H.1 x = true then (if bt (H.2.2.2.2.2.2.2 fi.toNatClampNeg) x.toNatClampNeg = true then (false, H) else (true, (H.1, H.2.1, H.2.2.1, H.2.2.2.1, H.2.2.2.2.1, H.2.2.2.2.2.1, H.2.2.2.2.2.2.1, upd H.2.2.2.2.2.2.2 fi.toNatClampNeg (H.2.2.2.2.2.2.2 fi.toNatClampNeg ||| (1 : Int32) <<< (x &&& 31))))) else (false, H)) else (false, H)
theorem mM_u10 (S : gx_S) (a b c : Int32) (H : Hd) (k : Nat) (x : Int32) : gx_u2 (mM S a b c H) 10 k x = mM S a b c (H.1, H.2.1, H.2.2.1, H.2.2.2.1, H.2.2.2.2.1, H.2.2.2.2.2.1, H.2.2.2.2.2.2.1, upd H.2.2.2.2.2.2.2 k x) := by
  have h := hS_u6 (mM S a b c H) 4 H k x
  rw [mM_hS] at h
  rw [show (10 : Nat) = 4 + 6 from rfl, h, mM_hS]
set_option maxRecDepth 10000 in
theorem c_takesSeat (d : Nat) (S : gx_S) (a b c : Int32) (H : Hd) {ng nd : Nat} (hg : H.1 = nI ng) (hd : H.2.1 = nI nd) (h5 : ng ≤ 5) (h4 : nd ≤ 4) (x : Int32) (L : gx_L) : Cf (d + 1) mX5_takesSeat [.ref 3, .int x, .ref 4] (mM S a b c H) L (gx_b (p_seat H b x).1) (mM S a b c (p_seat H b x).2) L := by
  refine ct_intro (loc := [some (.ref 3), some (.int x), some (.ref 4)]) (by decide) (Nat.le_of_ble_eq_true rfl) rfl ?_
  refine ev_ald2 dX5_takesSeat_0 ?_
  refine ev_ald0 dX5_takesSeat_1 ?_
  refine ev_geti dX5_takesSeat_2 fl_X5_49 rfl ?_
  rw [mM_1]
  refine ev_V1i (M' := mX2_hasDrinker) dX5_takesSeat_5 lk_X5_73 vX2_hasDrinker rfl (k_hasD d S _ _ _ H L _) (Nat.le_refl _) (Nat.le_of_ble_eq_true rfl) ?_
  refine ev_if_eq 35 dX5_takesSeat_8 (by decide) (fun c_8 => ?_) (fun c_8 => ?_)
  · have b_8 := gx_b_n.mp c_8
    refine ev_iconst (v := 0) dX5_takesSeat_35 (by decide) ?_
    refine ev_zret dX5_takesSeat_36 ?_ ?_
    · rfl
    · have e9 : p_seat H b x = _ := if_neg b_8
      exact ⟨_, rfl, by rw [e9]; rfl, by rw [e9], rfl⟩
  · have b_8 := gx_b_y.mp c_8
    obtain ⟨j, hj, rfl, ej⟩ := isG_of (by omega) (hd ▸ b_8)
    refine ev_ald2 dX5_takesSeat_11 ?_
    refine ev_ild1 dX5_takesSeat_12 ?_
    refine ev_V1i (M' := mX2_hasGlass) dX5_takesSeat_13 lk_X5_76 vX2_hasGlass rfl (k_hasG d S _ _ _ H L _) (Nat.le_refl _) (Nat.le_of_ble_eq_true rfl) ?_
    refine ev_if_eq 35 dX5_takesSeat_16 (by decide) (fun c_16 => ?_) (fun c_16 => ?_)
    · have b_16 := gx_b_n.mp c_16
      refine ev_iconst (v := 0) dX5_takesSeat_35 (by decide) ?_
      refine ev_zret dX5_takesSeat_36 ?_ ?_
      · rfl
      · have e9 : p_seat H (nI j) x = _ := (if_pos b_8).trans (if_neg b_16)
        exact ⟨_, rfl, by rw [e9]; rfl, by rw [e9], rfl⟩
    · have b_16 := gx_b_y.mp c_16
      obtain ⟨k, hk, rfl, ek⟩ := isG_of (by omega) (hg ▸ b_16)
      refine ev_ald2 dX5_takesSeat_19 ?_
      refine ev_getr (r := 10) dX5_takesSeat_20 fl_X5_79 rfl ?_
      refine ev_ald0 dX5_takesSeat_23 ?_
      refine ev_geti dX5_takesSeat_24 fl_X5_49 rfl ?_
      rw [mM_1]
      refine ev_iald' dX5_takesSeat_27 rfl (by omega) (by decide) ?_
      rw [mM_10]
      refine ev_ild1 dX5_takesSeat_28 ?_
      refine ev_S2i (M' := mX10_hasBit) dX5_takesSeat_29 lk_X5_82 sX10_hasBit (c_hasBit d _ _ _ _) (Nat.le_refl _) (Nat.le_of_ble_eq_true rfl) ?_
      refine ev_if_eq 37 dX5_takesSeat_32 (by decide) (fun c_32 => ?_) (fun c_32 => ?_)
      · have b_32 := gx_b_n.mp c_32
        refine ev_ald2 dX5_takesSeat_37 ?_
        refine ev_getr (r := 10) dX5_takesSeat_38 fl_X5_79 rfl ?_
        refine ev_ald0 dX5_takesSeat_41 ?_
        refine ev_geti dX5_takesSeat_42 fl_X5_49 rfl ?_
        rw [mM_1]
        refine ev_dup2 dX5_takesSeat_45 ?_
        refine ev_iald' dX5_takesSeat_46 rfl (by omega) (by decide) ?_
        rw [mM_10]
        refine ev_iconst (v := 1) dX5_takesSeat_47 (by decide) ?_
        refine ev_ild1 dX5_takesSeat_48 ?_
        refine ev_ishl dX5_takesSeat_49 ?_
        refine ev_ior dX5_takesSeat_50 ?_
        refine ev_iast' dX5_takesSeat_51 rfl (by omega) (by decide) ?_
        rw [mM_u10]
        refine ev_iconst (v := 1) dX5_takesSeat_52 (by decide) ?_
        refine ev_zret dX5_takesSeat_53 ?_ ?_
        · rfl
        · have e9 : p_seat H (nI j) (nI k) = _ := (if_pos b_8).trans ((if_pos b_16).trans ((if_neg (by rw [ej, ek]; exact b_32)).trans (by rw [ej])))
          exact ⟨_, rfl, by rw [e9]; rfl, by rw [e9], rfl⟩
      · have b_32 := gx_b_y.mp c_32
        refine ev_iconst (v := 0) dX5_takesSeat_35 (by decide) ?_
        refine ev_zret dX5_takesSeat_36 ?_ ?_
        · rfl
        · have e9 : p_seat H (nI j) (nI k) = _ := (if_pos b_8).trans ((if_pos b_16).trans ((if_pos (by rw [ej, ek]; exact b_32)).trans (rfl)))
          exact ⟨_, rfl, by rw [e9]; rfl, by rw [e9], rfl⟩
