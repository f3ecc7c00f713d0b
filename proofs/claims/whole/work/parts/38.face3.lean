set_option maxRecDepth 10000 in
theorem x_share0 (d : Nat) (S : gx_S) {x w : Int32} (hb : isG (S 11 1) x = false) (L : gx_L) : Cf (d + 1) mX10_share [.ref 0, .int x, .int w] S L (-1) S L := by
  refine ct_intro (loc := [some (.ref 0), some (.int x), some (.int w)]) (by decide) (Nat.le_of_ble_eq_true rfl) rfl ?_
  refine ev_ald0 dX10_share_0 ?_
  refine ev_getr (r := 11) dX10_share_1 fl_X10_30 rfl ?_
  refine ev_ild1 dX10_share_4 ?_
  refine ev_V1i (M' := mX2_hasDrinker) dX10_share_5 lk_X10_149 vX2_hasDrinker rfl (c_hasDrinker d hh11 _ _ _) (Nat.le_refl _) (Nat.le_of_ble_eq_true rfl) ?_
  refine ev_if_ne_f 13 dX10_share_8 (by decide) (by rw [hb]; rfl) ?_
  refine ev_iconst (v := (-1)) dX10_share_11 (by decide) ?_
  refine ev_iret dX10_share_12 ?_
  exact ⟨_, rfl, rfl, rfl, rfl⟩
theorem k_share (d : Nat) (S : gx_S) {nd : Nat} (hnd : S 11 1 = nI nd) (h4 : nd ≤ 4) (z18 : zT (tG S 18)) (z26 : zT (tG S 26)) {j : Nat} (hj : j < nd) (w : Int32) {x : Nat} (hx : (if 0 ≤ p_shareN (fun so => p_taxes (S 14) (S 12) (p_ev (S 16) (S 17) so (tG S 18))) nd j (2 ^ nd) then p_shareN (fun so => p_taxes (S 14) (S 12) (p_ev (S 16) (S 17) so (tG S 18))) nd j (2 ^ nd) else 0 - p_shareN (fun so => p_taxes (S 14) (S 12) (p_ev (S 16) (S 17) so (tG S 18))) nd j (2 ^ nd)) = nI x) (hx1 : x < 2 ^ 31) (L : gx_L) : Ci (d + 5) mX1_shareOf [.ref 42, .int (nI j), .int w] S L (fun r S1 L1 => r = p_frac (p_shareN (fun so => p_taxes (S 14) (S 12) (p_ev (S 16) (S 17) so (tG S 18))) nd j (2 ^ nd)) x (ordN nd) w ∧ (∃ T1, zT T1 ∧ S1 = tS S 26 T1) ∧ L1 = L) := by
  have h := c_shareOf d S hnd h4 (tG S 26) z26 z18 hj w hx hx1 L
  rw [tS_tG] at h
  exact h
set_option maxRecDepth 10000 in
theorem x_share (d : Nat) (S : gx_S) {nd : Nat} (hnd : S 11 1 = nI nd) (h4 : nd ≤ 4) (z18 : zT (tG S 18)) (z22 : zT (tG S 22)) (z26 : zT (tG S 26)) {j : Nat} (hj : j < nd) (w : Int32) {x : Nat} (hx : (if 0 ≤ p_shareN (fun so => p_taxes (S 14) (S 12) (p_ev (S 16) (S 17) so (tG S 18))) nd j (2 ^ nd) then p_shareN (fun so => p_taxes (S 14) (S 12) (p_ev (S 16) (S 17) so (tG S 18))) nd j (2 ^ nd) else 0 - p_shareN (fun so => p_taxes (S 14) (S 12) (p_ev (S 16) (S 17) so (tG S 18))) nd j (2 ^ nd)) = nI x) (hx1 : x < 2 ^ 31) (L : gx_L) : Ci (d + 6) mX10_share [.ref 0, .int (nI j), .int w] S L (fun r S1 L1 => r = p_frac (p_shareN (fun so => p_taxes (S 14) (S 12) (p_ev (S 16) (S 17) so (tG S 18))) nd j (2 ^ nd)) x (ordN nd) w ∧ (∃ T1, zT T1 ∧ S1 = tS S 26 T1) ∧ L1 = L) := by
  refine ct_intro (loc := [some (.ref 0), some (.int (nI j)), some (.int w)]) (by decide) (Nat.le_of_ble_eq_true rfl) rfl ?_
  refine ev_ald0 dX10_share_0 ?_
  refine ev_getr (r := 11) dX10_share_1 fl_X10_30 rfl ?_
  refine ev_ild1 dX10_share_4 ?_
  refine ev_V1i (M' := mX2_hasDrinker) dX10_share_5 lk_X10_149 vX2_hasDrinker rfl (c_hasDrinker (d + 5) hh11 _ _ _) (Nat.le_refl _) (Nat.le_of_ble_eq_true rfl) ?_
  refine ev_if_ne_t 13 dX10_share_8 (by decide) (by rw [hnd, isG_in (by omega) hj]; decide) ?_
  refine ev_ald0 dX10_share_13 ?_
  refine ev_getr (r := 42) dX10_share_14 fl_X10_83 rfl ?_
  refine ev_ild1 dX10_share_17 ?_
  refine ev_ild2 dX10_share_18 ?_
  refine ev_V2iq (M' := mX1_shareOf) dX10_share_19 lk_X10_239 vX1_shareOf rfl (k_share d S hnd h4 z18 z26 hj w hx hx1 L) (Nat.le_refl _) (Nat.le_of_ble_eq_true rfl) (fun r9 S9 L9 h9 => ?_)
  refine ev_iret dX10_share_22 ?_
  exact ⟨_, rfl, h9⟩
def A_rests (nd : Nat) (dk sb : Nat → Int32) (T : Tb) (x y w : Int32) : Int32 := if isG (nI nd) x = true then (if isG (nI nd) y = true then (if x = y then -2 else if w < 0 then -2 else if w ≤ 1 then (if (p_rsG dk sb T x.toNatClampNeg y.toNatClampNeg 5).1 = 0 then -9 else if w = 0 then (p_rsG dk sb T x.toNatClampNeg y.toNatClampNeg 5).1 else (p_rsG dk sb T x.toNatClampNeg y.toNatClampNeg 5).2) else -2) else -1) else -1
set_option maxRecDepth 10000 in
theorem x_rests (d : Nat) (S : gx_S) {ng : Nat} (hng : S 11 0 = nI ng) (h5 : ng ≤ 5) {nd : Nat} (hnd : S 11 1 = nI nd) (h4 : nd ≤ 4) (hz : ∀ j i, ng ≤ i → bt (S 17 j) i = false) (x y w : Int32) (L : gx_L) : Ci (d + 4) mX10_rests [.ref 0, .int x, .int y, .int w] S L (fun r S1 L1 => r = A_rests nd (S 16) (S 17) (tG S 18) x y w ∧ (∃ f, S1 = gx_up S 43 f) ∧ L1 = L) := by
  refine ct_intro (loc := [some (.ref 0), some (.int x), some (.int y), some (.int w)]) (by decide) (Nat.le_of_ble_eq_true rfl) rfl ?_
  refine ev_ald0 dX10_rests_0 ?_
  refine ev_getr (r := 11) dX10_rests_1 fl_X10_30 rfl ?_
  refine ev_ild1 dX10_rests_4 ?_
  refine ev_V1i (M' := mX2_hasDrinker) dX10_rests_5 lk_X10_149 vX2_hasDrinker rfl (c_hasDrinker (d + 3) hh11 _ _ _) (Nat.le_refl _) (Nat.le_of_ble_eq_true rfl) ?_
  refine ev_if_eq 22 dX10_rests_8 (by decide) (fun c_8 => ?_) (fun c_8 => ?_)
  · have b_8 := gx_b_n.mp c_8
    refine ev_iconst (v := (-1)) dX10_rests_22 (by decide) ?_
    refine ev_iret dX10_rests_23 ?_
    exact ⟨_, rfl, (if_neg (hnd ▸ b_8)).symm, ⟨_, (up_self S 43).symm⟩, rfl⟩
  · have b_8 := gx_b_y.mp c_8
    obtain ⟨i, hi, rfl, ei⟩ := isG_of (by omega) (hnd ▸ b_8)
    refine ev_ald0 dX10_rests_11 ?_
    refine ev_getr (r := 11) dX10_rests_12 fl_X10_30 rfl ?_
    refine ev_ild2 dX10_rests_15 ?_
    refine ev_V1i (M' := mX2_hasDrinker) dX10_rests_16 lk_X10_149 vX2_hasDrinker rfl (c_hasDrinker (d + 3) hh11 _ _ _) (Nat.le_refl _) (Nat.le_of_ble_eq_true rfl) ?_
    refine ev_if_ne 24 dX10_rests_19 (by decide) (fun c_19 => ?_) (fun c_19 => ?_)
    · have b_19 := gx_b_y.mp c_19
      obtain ⟨j, hj, rfl, ej⟩ := isG_of (by omega) (hnd ▸ b_19)
      refine ev_ild1 dX10_rests_24 ?_
      refine ev_ild2 dX10_rests_25 ?_
      refine ev_icmp_eq 38 dX10_rests_26 (by decide) (fun c_26 => ?_) (fun c_26 => ?_)
      · refine ev_bipush (v := (-2)) dX10_rests_38 (by decide) ?_
        refine ev_iret dX10_rests_40 ?_
        exact ⟨_, rfl, ((if_pos (hnd ▸ b_8)).trans ((if_pos (hnd ▸ b_19)).trans (if_pos c_26))).symm, ⟨_, (up_self S 43).symm⟩, rfl⟩
      · refine ev_ild3 dX10_rests_29 ?_
        refine ev_if_lt 38 dX10_rests_30 (by decide) (fun c_30 => ?_) (fun c_30 => ?_)
        · refine ev_bipush (v := (-2)) dX10_rests_38 (by decide) ?_
          refine ev_iret dX10_rests_40 ?_
          exact ⟨_, rfl, ((if_pos (hnd ▸ b_8)).trans ((if_pos (hnd ▸ b_19)).trans ((if_neg c_26).trans (if_pos c_30)))).symm, ⟨_, (up_self S 43).symm⟩, rfl⟩
        · refine ev_ild3 dX10_rests_33 ?_
          refine ev_iconst (v := 1) dX10_rests_34 (by decide) ?_
          refine ev_icmp_le 41 dX10_rests_35 (by decide) (fun c_35 => ?_) (fun c_35 => ?_)
          · refine ev_ald0 dX10_rests_41 ?_
            refine ev_getr (r := 43) dX10_rests_42 fl_X10_92 rfl ?_
            refine ev_ild1 dX10_rests_45 ?_
            refine ev_ild2 dX10_rests_46 ?_
            refine ev_V2v (M' := mX4_findRests) dX10_rests_47 lk_X10_243 vX4_findRests rfl (c_findRests d S hng h5 hnd h4 hi hj (hz i) (hz j) L) (Nat.le_refl _) (Nat.le_of_ble_eq_true rfl) ?_
            refine ev_ald0 dX10_rests_50 ?_
            refine ev_getr (r := 43) dX10_rests_51 fl_X10_92 rfl ?_
            refine ev_geti dX10_rests_54 fl_X10_247 rfl ?_
            rw [pS_4]
            refine ev_if_ne 63 dX10_rests_57 (by decide) (fun c_57 => ?_) (fun c_57 => ?_)
            · have e57 : ¬ (p_rsG (S 16) (S 17) (tG S 18) i j 5).1 = 0 → ¬ (p_rsG (S 16) (S 17) (tG S 18) (nI i).toNatClampNeg (nI j).toNatClampNeg 5).1 = 0 := by rw [ei, ej]; exact id
              refine ev_ild3 dX10_rests_63 ?_
              refine ev_if_ne 77 dX10_rests_64 (by decide) (fun c_64 => ?_) (fun c_64 => ?_)
              · refine ev_ald0 dX10_rests_77 ?_
                refine ev_getr (r := 43) dX10_rests_78 fl_X10_92 rfl ?_
                refine ev_geti dX10_rests_81 fl_X10_248 rfl ?_
                rw [pS_5]
                refine ev_iret dX10_rests_84 ?_
                have e9 : A_rests nd (S 16) (S 17) (tG S 18) (nI i) (nI j) w = _ := (if_pos (hnd ▸ b_8)).trans ((if_pos (hnd ▸ b_19)).trans ((if_neg c_26).trans ((if_neg c_30).trans ((if_pos c_35).trans ((if_neg (e57 c_57)).trans (if_neg c_64))))))
                exact ⟨_, rfl, by rw [e9]; rw [ei, ej], ⟨_, rfl⟩, rfl⟩
              · refine ev_ald0 dX10_rests_67 ?_
                refine ev_getr (r := 43) dX10_rests_68 fl_X10_92 rfl ?_
                refine ev_geti dX10_rests_71 fl_X10_247 rfl ?_
                rw [pS_4]
                refine ev_goto 84 dX10_rests_74 (by decide) ?_
                refine ev_iret dX10_rests_84 ?_
                have e9 : A_rests nd (S 16) (S 17) (tG S 18) (nI i) (nI j) w = _ := (if_pos (hnd ▸ b_8)).trans ((if_pos (hnd ▸ b_19)).trans ((if_neg c_26).trans ((if_neg c_30).trans ((if_pos c_35).trans ((if_neg (e57 c_57)).trans (if_pos c_64))))))
                exact ⟨_, rfl, by rw [e9]; rw [ei, ej], ⟨_, rfl⟩, rfl⟩
            · have e57 : (p_rsG (S 16) (S 17) (tG S 18) i j 5).1 = 0 → (p_rsG (S 16) (S 17) (tG S 18) (nI i).toNatClampNeg (nI j).toNatClampNeg 5).1 = 0 := by rw [ei, ej]; exact id
              refine ev_bipush (v := (-9)) dX10_rests_60 (by decide) ?_
              refine ev_iret dX10_rests_62 ?_
              have e9 : A_rests nd (S 16) (S 17) (tG S 18) (nI i) (nI j) w = _ := (if_pos (hnd ▸ b_8)).trans ((if_pos (hnd ▸ b_19)).trans ((if_neg c_26).trans ((if_neg c_30).trans ((if_pos c_35).trans (if_pos (e57 c_57))))))
              exact ⟨_, rfl, by rw [e9], ⟨_, rfl⟩, rfl⟩
          · refine ev_bipush (v := (-2)) dX10_rests_38 (by decide) ?_
            refine ev_iret dX10_rests_40 ?_
            exact ⟨_, rfl, ((if_pos (hnd ▸ b_8)).trans ((if_pos (hnd ▸ b_19)).trans ((if_neg c_26).trans ((if_neg c_30).trans (if_neg c_35))))).symm, ⟨_, (up_self S 43).symm⟩, rfl⟩
    · have b_19 := gx_b_n.mp c_19
      refine ev_iconst (v := (-1)) dX10_rests_22 (by decide) ?_
      refine ev_iret dX10_rests_23 ?_
      exact ⟨_, rfl, ((if_pos (hnd ▸ b_8)).trans (if_neg (hnd ▸ b_19))).symm, ⟨_, (up_self S 43).symm⟩, rfl⟩
set_option maxRecDepth 10000 in
theorem x_leak0 (d : Nat) (S : gx_S) {m x w : Int32} (hb : m < 0 ∨ 60 < m ∨ x < 0 ∨ 10 < x) (L : gx_L) : Cf d mX10_leak [.ref 0, .int m, .int x, .int w] S L (-2) S L := by
  refine ct_intro (loc := [some (.ref 0), some (.int m), some (.int x), some (.int w)]) (by decide) (Nat.le_of_ble_eq_true rfl) rfl ?_
  refine ev_ild1 dX10_leak_0 ?_
  refine ev_if_lt 20 dX10_leak_1 (by decide) (fun c_1 => ?_) (fun c_1 => ?_)
  · refine ev_bipush (v := (-2)) dX10_leak_20 (by decide) ?_
    refine ev_iret dX10_leak_22 ?_
    exact ⟨_, rfl, rfl, rfl, rfl⟩
  · refine ev_ild1 dX10_leak_4 ?_
    refine ev_bipush (v := 60) dX10_leak_5 (by decide) ?_
    refine ev_icmp_gt 20 dX10_leak_7 (by decide) (fun c_7 => ?_) (fun c_7 => ?_)
    · refine ev_bipush (v := (-2)) dX10_leak_20 (by decide) ?_
      refine ev_iret dX10_leak_22 ?_
      exact ⟨_, rfl, rfl, rfl, rfl⟩
    · refine ev_ild2 dX10_leak_10 ?_
      refine ev_if_lt 20 dX10_leak_11 (by decide) (fun c_11 => ?_) (fun c_11 => ?_)
      · refine ev_bipush (v := (-2)) dX10_leak_20 (by decide) ?_
        refine ev_iret dX10_leak_22 ?_
        exact ⟨_, rfl, rfl, rfl, rfl⟩
      · refine ev_ild2 dX10_leak_14 ?_
        refine ev_bipush (v := 10) dX10_leak_15 (by decide) ?_
        refine ev_icmp_le 23 dX10_leak_17 (by decide) (fun c_17 => ?_) (fun c_17 => ?_)
        · exact absurd hb (fun h9 => h9.elim c_1 (fun h9 => h9.elim c_7 (fun h9 => h9.elim c_11 (fun h9 => absurd c_17 (Int32.not_le.mpr h9)))))
        · refine ev_bipush (v := (-2)) dX10_leak_20 (by decide) ?_
          refine ev_iret dX10_leak_22 ?_
          exact ⟨_, rfl, rfl, rfl, rfl⟩
theorem k_leak (d : Nat) (S : gx_S) (z18 : zT (tG S 18)) (z26 : zT (tG S 26)) (m x w : Int32) {u v : Nat} (hu : (if 0 ≤ p_goodN (fun n => p_taxes (S 14) (S 12) (p_ev (S 16) (S 17) 15 (p_lkN (nI n) (tG S 18) 5))) (fun n => p_wtN (nI n) (p_fl (S 19) 5) x 5) (p_fl (S 19) 5) m 32 then p_goodN (fun n => p_taxes (S 14) (S 12) (p_ev (S 16) (S 17) 15 (p_lkN (nI n) (tG S 18) 5))) (fun n => p_wtN (nI n) (p_fl (S 19) 5) x 5) (p_fl (S 19) 5) m 32 else 0 - p_goodN (fun n => p_taxes (S 14) (S 12) (p_ev (S 16) (S 17) 15 (p_lkN (nI n) (tG S 18) 5))) (fun n => p_wtN (nI n) (p_fl (S 19) 5) x 5) (p_fl (S 19) 5) m 32) = nI u) (hu1 : u < 2 ^ 31) (hv : p_al (S 19) 5 = nI v) (hv1 : v < 2 ^ 31) (hv0 : 0 < v) (L : gx_L) : Ci (d + 5) mX1_leakOf [.ref 42, .int m, .int x, .int w] S L (fun r S1 L1 => r = p_frac (p_goodN (fun n => p_taxes (S 14) (S 12) (p_ev (S 16) (S 17) 15 (p_lkN (nI n) (tG S 18) 5))) (fun n => p_wtN (nI n) (p_fl (S 19) 5) x 5) (p_fl (S 19) 5) m 32) u v w ∧ (∃ T1, zT T1 ∧ S1 = tS S 26 T1) ∧ L1 = L) := by
  have h := c_leakOf d S (tG S 26) z26 z18 m x w hu hu1 hv hv1 hv0 L
  rw [tS_tG] at h
  exact h
set_option maxRecDepth 10000 in
theorem x_leak (d : Nat) (S : gx_S) (z18 : zT (tG S 18)) (z22 : zT (tG S 22)) (z26 : zT (tG S 26)) {m x : Int32} (w : Int32) (m0 : ¬ m < 0) (m1 : ¬ 60 < m) (x0 : ¬ x < 0) (x1 : x ≤ 10) {u v : Nat} (hu : (if 0 ≤ p_goodN (fun n => p_taxes (S 14) (S 12) (p_ev (S 16) (S 17) 15 (p_lkN (nI n) (tG S 18) 5))) (fun n => p_wtN (nI n) (p_fl (S 19) 5) x 5) (p_fl (S 19) 5) m 32 then p_goodN (fun n => p_taxes (S 14) (S 12) (p_ev (S 16) (S 17) 15 (p_lkN (nI n) (tG S 18) 5))) (fun n => p_wtN (nI n) (p_fl (S 19) 5) x 5) (p_fl (S 19) 5) m 32 else 0 - p_goodN (fun n => p_taxes (S 14) (S 12) (p_ev (S 16) (S 17) 15 (p_lkN (nI n) (tG S 18) 5))) (fun n => p_wtN (nI n) (p_fl (S 19) 5) x 5) (p_fl (S 19) 5) m 32) = nI u) (hu1 : u < 2 ^ 31) (hv : p_al (S 19) 5 = nI v) (hv1 : v < 2 ^ 31) (hv0 : 0 < v) (L : gx_L) : Ci (d + 6) mX10_leak [.ref 0, .int m, .int x, .int w] S L (fun r S1 L1 => r = p_frac (p_goodN (fun n => p_taxes (S 14) (S 12) (p_ev (S 16) (S 17) 15 (p_lkN (nI n) (tG S 18) 5))) (fun n => p_wtN (nI n) (p_fl (S 19) 5) x 5) (p_fl (S 19) 5) m 32) u v w ∧ (∃ T1, zT T1 ∧ S1 = tS S 26 T1) ∧ L1 = L) := by
  refine ct_intro (loc := [some (.ref 0), some (.int m), some (.int x), some (.int w)]) (by decide) (Nat.le_of_ble_eq_true rfl) rfl ?_
  refine ev_ild1 dX10_leak_0 ?_
  refine ev_if_lt_f 20 dX10_leak_1 (by decide) m0 ?_
  refine ev_ild1 dX10_leak_4 ?_
  refine ev_bipush (v := 60) dX10_leak_5 (by decide) ?_
  refine ev_icmp_gt_f 20 dX10_leak_7 (by decide) m1 ?_
  refine ev_ild2 dX10_leak_10 ?_
  refine ev_if_lt_f 20 dX10_leak_11 (by decide) x0 ?_
  refine ev_ild2 dX10_leak_14 ?_
  refine ev_bipush (v := 10) dX10_leak_15 (by decide) ?_
  refine ev_icmp_le_t 23 dX10_leak_17 (by decide) x1 ?_
  refine ev_ald0 dX10_leak_23 ?_
  refine ev_getr (r := 42) dX10_leak_24 fl_X10_83 rfl ?_
  refine ev_ild1 dX10_leak_27 ?_
  refine ev_ild2 dX10_leak_28 ?_
  refine ev_ild3 dX10_leak_29 ?_
  refine ev_V3iq (M' := mX1_leakOf) dX10_leak_30 lk_X10_251 vX1_leakOf rfl (k_leak d S z18 z26 m x w hu hu1 hv hv1 hv0 L) (Nat.le_refl _) (Nat.le_of_ble_eq_true rfl) (fun r9 S9 L9 h9 => ?_)
  refine ev_iret dX10_leak_33 ?_
  exact ⟨_, rfl, h9⟩
theorem hone0 : ∀ j t', j ≠ 14 → (∃ tm : List Nat, sh_all[0]? = some (.inr (10, tm)) ∧ tm[j]? = some t') → t' ≠ 1 := by
  rintro j t' hj ⟨tm, h1, h2⟩ rfl
  have e : tm = [3, 5, 6, 13, 20, 24, 28, 32, 35, 0, 37, 41, 44, 45, 1] := by
    have h3 : sh_all[0]? = some (.inr (10, [3, 5, 6, 13, 20, 24, 28, 32, 35, 0, 37, 41, 44, 45, 1])) := rfl
    rw [h3] at h1
    cases h1
    rfl
  subst e
  have hl : j < 15 := (List.getElem?_eq_some_iff.mp h2).1
  have : ∀ j, j < 15 → j ≠ 14 → ([3, 5, 6, 13, 20, 24, 28, 32, 35, 0, 37, 41, 44, 45, 1] : List Nat)[j]? ≠ some 1 := by decide +kernel
  exact this j hl hj h2
set_option maxRecDepth 10000 in
theorem x_seed (d : Nat) (S : gx_S) (v : Int64) (L : gx_L) : Cg d mX10_seed [.ref 0, .long v] S L (L 0) S (gx_uL L 0 v) := by
  refine ct_intro (loc := [some (.ref 0), some (.long v), none, none, none]) (by decide) (Nat.le_of_ble_eq_true rfl) rfl ?_
  refine ev_ald0 dX10_seed_0 ?_
  refine ev_getl dX10_seed_1 fl_X10_255 rfl ?_
  refine ev_lst3 dX10_seed_4 ?_
  refine ev_ald0 dX10_seed_5 ?_
  refine ev_lld1 dX10_seed_6 ?_
  refine ev_putl hone0 dX10_seed_7 fp_X10_255 rfl ?_
  refine ev_lld3 dX10_seed_10 ?_
  refine ev_lret dX10_seed_11 ?_
  exact ⟨_, rfl, rfl, rfl, rfl⟩
set_option maxRecDepth 10000 in
theorem x_keep0 (d : Nat) (S : gx_S) {x : Int32} (hb : x < 0 ∨ 2 ≤ x) (L : gx_L) : Cf d mX10_keep [.ref 0, .int x] S L (-1) S L := by
  refine ct_intro (loc := [some (.ref 0), some (.int x)]) (by decide) (Nat.le_of_ble_eq_true rfl) rfl ?_
  refine ev_ild1 dX10_keep_0 ?_
  refine ev_if_lt 9 dX10_keep_1 (by decide) (fun c_1 => ?_) (fun c_1 => ?_)
  · refine ev_iconst (v := (-1)) dX10_keep_9 (by decide) ?_
    refine ev_iret dX10_keep_10 ?_
    exact ⟨_, rfl, rfl, rfl, rfl⟩
  · refine ev_ild1 dX10_keep_4 ?_
    refine ev_iconst (v := 2) dX10_keep_5 (by decide) ?_
    refine ev_icmp_lt 11 dX10_keep_6 (by decide) (fun c_6 => ?_) (fun c_6 => ?_)
    · exact absurd hb (fun h9 => h9.elim c_1 (fun h9 => absurd c_6 (Int32.not_lt.mpr h9)))
    · refine ev_iconst (v := (-1)) dX10_keep_9 (by decide) ?_
      refine ev_iret dX10_keep_10 ?_
      exact ⟨_, rfl, rfl, rfl, rfl⟩
set_option maxRecDepth 10000 in
theorem x_keep (d : Nat) (S : gx_S) {p ks : Nat} (hp : p < 2) (hn : S 33 0 = nI 2) (L : gx_L) : Cf (d + 2) mX10_keep [.ref 0, .int (nI p)] S L (S 18 4) (gx_u2 (gx_up S 34 (layF (S 34) p (tG S 18))) 0 9 (S 0 9 ||| (1 : Int32) <<< (nI p &&& 31))) L := by
  refine ct_intro (loc := [some (.ref 0), some (.int (nI p))]) (by decide) (Nat.le_of_ble_eq_true rfl) rfl ?_
  refine ev_ild1 dX10_keep_0 ?_
  refine ev_if_lt_f 9 dX10_keep_1 (by decide) (nI_pos (by omega)) ?_
  refine ev_ild1 dX10_keep_4 ?_
  refine ev_iconst (v := 2) dX10_keep_5 (by decide) ?_
  refine ev_icmp_lt_t 11 dX10_keep_6 (by decide) (nI_lt (b := 2) hp (by decide)) ?_
  refine ev_ald0 dX10_keep_11 ?_
  refine ev_getr (r := 33) dX10_keep_12 fl_X10_60 rfl ?_
  refine ev_ild1 dX10_keep_15 ?_
  refine ev_ald0 dX10_keep_16 ?_
  refine ev_getr (r := 18) dX10_keep_17 fl_X10_38 rfl ?_
  refine ev_V2v (M' := mX8_lay) dX10_keep_20 lk_X10_268 vX8_lay rfl (c_lay d sf33 tb18 S hn hp L) (Nat.le_refl _) (Nat.le_of_ble_eq_true rfl) ?_
  refine ev_ald0 dX10_keep_23 ?_
  refine ev_dupr dX10_keep_24 ?_
  refine ev_geti dX10_keep_25 fl_X10_117 rfl ?_
  rw [gx_up_ne S _ (by decide)]
  refine ev_iconst (v := 1) dX10_keep_28 (by decide) ?_
  refine ev_ild1 dX10_keep_29 ?_
  refine ev_ishl dX10_keep_30 ?_
  refine ev_ior dX10_keep_31 ?_
  refine ev_puti dX10_keep_32 fp_X10_117 rfl ?_
  refine ev_ald0 dX10_keep_35 ?_
  refine ev_getr (r := 18) dX10_keep_36 fl_X10_38 rfl ?_
  refine ev_geti dX10_keep_39 fl_X10_272 rfl ?_
  rw [u2_o _ _ _ (by decide), gx_up_ne S _ (by decide)]
  refine ev_iret dX10_keep_42 ?_
  exact ⟨_, rfl, rfl, rfl, rfl⟩
set_option maxRecDepth 10000 in
theorem x_again0 (d : Nat) (S : gx_S) {x : Int32} (hb : x < 0 ∨ 2 ≤ x) (L : gx_L) : Cf d mX10_again [.ref 0, .int x] S L (-1) S L := by
  refine ct_intro (loc := [some (.ref 0), some (.int x)]) (by decide) (Nat.le_of_ble_eq_true rfl) rfl ?_
  refine ev_ild1 dX10_again_0 ?_
  refine ev_if_lt 9 dX10_again_1 (by decide) (fun c_1 => ?_) (fun c_1 => ?_)
  · refine ev_iconst (v := (-1)) dX10_again_9 (by decide) ?_
    refine ev_iret dX10_again_10 ?_
    exact ⟨_, rfl, rfl, rfl, rfl⟩
  · refine ev_ild1 dX10_again_4 ?_
    refine ev_iconst (v := 2) dX10_again_5 (by decide) ?_
    refine ev_icmp_lt 11 dX10_again_6 (by decide) (fun c_6 => ?_) (fun c_6 => ?_)
    · exact absurd hb (fun h9 => h9.elim c_1 (fun h9 => absurd c_6 (Int32.not_lt.mpr h9)))
    · refine ev_iconst (v := (-1)) dX10_again_9 (by decide) ?_
      refine ev_iret dX10_again_10 ?_
      exact ⟨_, rfl, rfl, rfl, rfl⟩
set_option maxRecDepth 10000 in
theorem x_again1 (d : Nat) (S : gx_S) {p : Nat} (hp : p < 2) (hb : bt (S 0 9) p = false) (L : gx_L) : Cf (d + 1) mX10_again [.ref 0, .int (nI p)] S L (-3) S L := by
  refine ct_intro (loc := [some (.ref 0), some (.int (nI p))]) (by decide) (Nat.le_of_ble_eq_true rfl) rfl ?_
  refine ev_ild1 dX10_again_0 ?_
  refine ev_if_lt_f 9 dX10_again_1 (by decide) (nI_pos (by omega)) ?_
  refine ev_ild1 dX10_again_4 ?_
  refine ev_iconst (v := 2) dX10_again_5 (by decide) ?_
  refine ev_icmp_lt_t 11 dX10_again_6 (by decide) (nI_lt (b := 2) hp (by decide)) ?_
  refine ev_ald0 dX10_again_11 ?_
  refine ev_geti dX10_again_12 fl_X10_117 rfl ?_
  refine ev_ild1 dX10_again_15 ?_
  refine ev_S2i (M' := mX10_hasBit) dX10_again_16 lk_X10_275 sX10_hasBit (c_hasBit d _ _ _ _) (Nat.le_refl _) (Nat.le_of_ble_eq_true rfl) ?_
  refine ev_if_ne_f 25 dX10_again_19 (by decide) (by rw [hb]; rfl) ?_
  refine ev_bipush (v := (-3)) dX10_again_22 (by decide) ?_
  refine ev_iret dX10_again_24 ?_
  exact ⟨_, rfl, rfl, rfl, rfl⟩
set_option maxRecDepth 10000 in
theorem x_again (d : Nat) (S : gx_S) {p : Nat} (hp : p < 2) (hb : bt (S 0 9) p = true) (hn : S 33 0 = nI 2) (L : gx_L) : Cf (d + 2) mX10_again [.ref 0, .int (nI p)] S L (S 34 (15 * p + 14)) (gx_u2 (tS S 18 (ftT (S 34) p (tG S 18))) 30 2 0) L := by
  refine ct_intro (loc := [some (.ref 0), some (.int (nI p))]) (by decide) (Nat.le_of_ble_eq_true rfl) rfl ?_
  refine ev_ild1 dX10_again_0 ?_
  refine ev_if_lt_f 9 dX10_again_1 (by decide) (nI_pos (by omega)) ?_
  refine ev_ild1 dX10_again_4 ?_
  refine ev_iconst (v := 2) dX10_again_5 (by decide) ?_
  refine ev_icmp_lt_t 11 dX10_again_6 (by decide) (nI_lt (b := 2) hp (by decide)) ?_
  refine ev_ald0 dX10_again_11 ?_
  refine ev_geti dX10_again_12 fl_X10_117 rfl ?_
  refine ev_ild1 dX10_again_15 ?_
  refine ev_S2i (M' := mX10_hasBit) dX10_again_16 lk_X10_275 sX10_hasBit (c_hasBit (d + 1) _ _ _ _) (Nat.le_refl _) (Nat.le_of_ble_eq_true rfl) ?_
  refine ev_if_ne_t 25 dX10_again_19 (by decide) (by rw [hb]; decide) ?_
  refine ev_ald0 dX10_again_25 ?_
  refine ev_getr (r := 33) dX10_again_26 fl_X10_60 rfl ?_
  refine ev_ild1 dX10_again_29 ?_
  refine ev_ald0 dX10_again_30 ?_
  refine ev_getr (r := 18) dX10_again_31 fl_X10_38 rfl ?_
  refine ev_V2v (M' := mX8_fetch) dX10_again_34 lk_X10_279 vX8_fetch rfl (c_fetch d sf33 tb18 S hn hp L) (Nat.le_refl _) (Nat.le_of_ble_eq_true rfl) ?_
  refine ev_ald0 dX10_again_37 ?_
  refine ev_getr (r := 30) dX10_again_38 fl_X10_51 rfl ?_
  refine ev_V0v (M' := mX0_forgetAll) dX10_again_41 lk_X10_114 vX0_forgetAll rfl (c_forgetAll (d + 1) _ L) (Nat.le_refl _) (Nat.le_of_ble_eq_true rfl) ?_
  refine ev_ald0 dX10_again_44 ?_
  refine ev_getr (r := 18) dX10_again_45 fl_X10_38 rfl ?_
  refine ev_geti dX10_again_48 fl_X10_272 rfl ?_
  rw [u2_o _ _ _ (by decide), tS_4]
  refine ev_iret dX10_again_51 ?_
  exact ⟨_, rfl, rfl, rfl, rfl⟩
def A_count (a0 a1 a2 a3 a4 a5 a6 a7 w : Int32) : Int32 := if w = 0 then a0 else if w = 1 then a1 else if w = 2 then a2 else if w = 3 then a3 else if w = 4 then a4 else if w = 5 then a5 else if w = 6 then a6 else if w = 7 then a7 else -2
set_option maxRecDepth 10000 in
theorem x_count (d : Nat) (S : gx_S) (w : Int32) (L : gx_L) : Cf (d + 3) mX10_count [.ref 0, .int w] S L (A_count (S 1 1) (S 11 0) (S 11 1) (p_taxes (S 14) (S 12) (tG S 18)) (p_thirst (tG S 18)) (S 18 4) (S 30 2) (S 35 3) w) S L := by
  refine ct_intro (loc := [some (.ref 0), some (.int w)]) (by decide) (Nat.le_of_ble_eq_true rfl) rfl ?_
  refine ev_ild1 dX10_count_0 ?_
  rcases Decidable.em (w = 0) with hw0 | hw0
  · subst hw0
    refine ev_tsw_in (off := 47) 48 dX10_count_1 (by decide) (by decide) (by decide +kernel) (by decide) ?_
    refine ev_ald0 dX10_count_48 ?_
    refine ev_getr (r := 1) dX10_count_49 fl_X10_12 rfl ?_
    refine ev_geti dX10_count_52 fl_X10_100 rfl ?_
    refine ev_iret dX10_count_55 ?_
    exact ⟨_, rfl, by unfold A_count; rw [if_pos rfl], rfl, rfl⟩
  · skip
    rcases Decidable.em (w = 1) with hw1 | hw1
    · subst hw1
      refine ev_tsw_in (off := 55) 56 dX10_count_1 (by decide) (by decide) (by decide +kernel) (by decide) ?_
      refine ev_ald0 dX10_count_56 ?_
      refine ev_getr (r := 11) dX10_count_57 fl_X10_30 rfl ?_
      refine ev_geti dX10_count_60 fl_X10_120 rfl ?_
      refine ev_iret dX10_count_63 ?_
      exact ⟨_, rfl, by unfold A_count; rw [if_neg (by decide), if_pos rfl], rfl, rfl⟩
    · skip
      rcases Decidable.em (w = 2) with hw2 | hw2
      · subst hw2
        refine ev_tsw_in (off := 63) 64 dX10_count_1 (by decide) (by decide) (by decide +kernel) (by decide) ?_
        refine ev_ald0 dX10_count_64 ?_
        refine ev_getr (r := 11) dX10_count_65 fl_X10_30 rfl ?_
        refine ev_geti dX10_count_68 fl_X10_123 rfl ?_
        refine ev_iret dX10_count_71 ?_
        exact ⟨_, rfl, by unfold A_count; rw [if_neg (by decide), if_neg (by decide), if_pos rfl], rfl, rfl⟩
      · skip
        rcases Decidable.em (w = 3) with hw3 | hw3
        · subst hw3
          refine ev_tsw_in (off := 71) 72 dX10_count_1 (by decide) (by decide) (by decide +kernel) (by decide) ?_
          refine ev_ald0 dX10_count_72 ?_
          refine ev_getr (r := 18) dX10_count_73 fl_X10_38 rfl ?_
          refine ev_V0i (M' := mX9_taxes) dX10_count_76 lk_X10_196 vX9_taxes rfl (c_taxes d tb18 S L) (Nat.le_refl _) (Nat.le_of_ble_eq_true rfl) ?_
          refine ev_iret dX10_count_79 ?_
          exact ⟨_, rfl, by unfold A_count; rw [if_neg (by decide), if_neg (by decide), if_neg (by decide), if_pos rfl], rfl, rfl⟩
        · skip
          rcases Decidable.em (w = 4) with hw4 | hw4
          · subst hw4
            refine ev_tsw_in (off := 79) 80 dX10_count_1 (by decide) (by decide) (by decide +kernel) (by decide) ?_
            refine ev_ald0 dX10_count_80 ?_
            refine ev_getr (r := 18) dX10_count_81 fl_X10_38 rfl ?_
            refine ev_V0i (M' := mX9_thirstOfAll) dX10_count_84 lk_X10_199 vX9_thirstOfAll rfl (c_thirstOfAll (d + 2) tb18 S L) (Nat.le_refl _) (Nat.le_of_ble_eq_true rfl) ?_
            refine ev_iret dX10_count_87 ?_
            exact ⟨_, rfl, by unfold A_count; rw [if_neg (by decide), if_neg (by decide), if_neg (by decide), if_neg (by decide), if_pos rfl], rfl, rfl⟩
          · skip
            rcases Decidable.em (w = 5) with hw5 | hw5
            · subst hw5
              refine ev_tsw_in (off := 87) 88 dX10_count_1 (by decide) (by decide) (by decide +kernel) (by decide) ?_
              refine ev_ald0 dX10_count_88 ?_
              refine ev_getr (r := 18) dX10_count_89 fl_X10_38 rfl ?_
              refine ev_geti dX10_count_92 fl_X10_272 rfl ?_
              refine ev_iret dX10_count_95 ?_
              exact ⟨_, rfl, by unfold A_count; rw [if_neg (by decide), if_neg (by decide), if_neg (by decide), if_neg (by decide), if_neg (by decide), if_pos rfl], rfl, rfl⟩
            · skip
              rcases Decidable.em (w = 6) with hw6 | hw6
              · subst hw6
                refine ev_tsw_in (off := 95) 96 dX10_count_1 (by decide) (by decide) (by decide +kernel) (by decide) ?_
                refine ev_ald0 dX10_count_96 ?_
                refine ev_getr (r := 30) dX10_count_97 fl_X10_51 rfl ?_
                refine ev_geti dX10_count_100 fl_X10_187 rfl ?_
                refine ev_iret dX10_count_103 ?_
                exact ⟨_, rfl, by unfold A_count; rw [if_neg (by decide), if_neg (by decide), if_neg (by decide), if_neg (by decide), if_neg (by decide), if_neg (by decide), if_pos rfl], rfl, rfl⟩
              · skip
                rcases Decidable.em (w = 7) with hw7 | hw7
                · subst hw7
                  refine ev_tsw_in (off := 103) 104 dX10_count_1 (by decide) (by decide) (by decide +kernel) (by decide) ?_
                  refine ev_ald0 dX10_count_104 ?_
                  refine ev_getr (r := 35) dX10_count_105 fl_X10_67 rfl ?_
                  refine ev_geti dX10_count_108 fl_X10_235 rfl ?_
                  refine ev_iret dX10_count_111 ?_
                  exact ⟨_, rfl, by unfold A_count; rw [if_neg (by decide), if_neg (by decide), if_neg (by decide), if_neg (by decide), if_neg (by decide), if_neg (by decide), if_neg (by decide), if_pos rfl], rfl, rfl⟩
                · skip
                  refine ev_tsw_out 112 dX10_count_1 (sw_out8 hw0 hw1 hw2 hw3 hw4 hw5 hw6 hw7) (by decide) ?_
                  refine ev_bipush (v := (-2)) dX10_count_112 (by decide) ?_
                  refine ev_iret dX10_count_114 ?_
                  exact ⟨_, rfl, by unfold A_count; rw [if_neg hw0, if_neg hw1, if_neg hw2, if_neg hw3, if_neg hw4, if_neg hw5, if_neg hw6, if_neg hw7], rfl, rfl⟩
