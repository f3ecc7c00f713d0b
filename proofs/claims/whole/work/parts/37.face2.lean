/-- the memory behind an act that answers q.1 and leaves the table q.2 -/
def M_act (S : gx_S) (nx sz : Nat) (q : Int32 × Tb) : gx_S := if q.1 < 0 then tS (tS S 22 (tG S 18)) 18 q.2 else gx_u2 (gx_u2 (gx_up (tS (tS S 22 (tG S 18)) 18 q.2) 32 (layF (S 32) nx (tG S 18))) 30 1 (nI (p_nx nx))) 30 2 (nI (p_sz sz))
theorem act_o (S : gx_S) (T U : Tb) {i : Nat} (h : i < 18 ∨ 25 < i) : tS (tS S 22 T) 18 U i = S i := by
  rw [tS_o _ U (by omega), tS_o S T (by omega)]
theorem act_22 (S : gx_S) (T U : Tb) : tG (tS (tS S 22 T) 18 U) 22 = T := by
  rw [tG_o _ U (by decide), tG_tS]
theorem acted_c (d : Nat) (S : gx_S) (U : Tb) {nx sz : Nat} (hx : S 30 1 = nI nx) (h14 : nx < 14) (hs : S 30 2 = nI sz) (hs4 : sz ≤ 14) (hp : S 31 0 = nI 14) (L : gx_L) : Cw (d + 2) mX0_push [.ref 30, .ref 22] (tS (tS S 22 (tG S 18)) 18 U) L (gx_u2 (gx_u2 (gx_up (tS (tS S 22 (tG S 18)) 18 U) 32 (layF (S 32) nx (tG S 18))) 30 1 (nI (p_nx nx))) 30 2 (nI (p_sz sz))) L := by
  have h := c_push d tb22 (tS (tS S 22 (tG S 18)) 18 U) (by rw [act_o S _ U (by decide)]; exact hx) h14 (by rw [act_o S _ U (by decide)]; exact hs) hs4 (by rw [act_o S _ U (by decide)]; exact hp) L
  rw [act_22, act_o S _ U (by decide)] at h
  exact h
set_option maxRecDepth 10000 in
theorem c_acted (d : Nat) (S : gx_S) (U : Tb) {nx sz : Nat} (hx : S 30 1 = nI nx) (h14 : nx < 14) (hs : S 30 2 = nI sz) (hs4 : sz ≤ 14) (hp : S 31 0 = nI 14) (r : Int32) (L : gx_L) : Cf (d + 3) mX10_acted [.ref 0, .int r] (tS (tS S 22 (tG S 18)) 18 U) L r (M_act S nx sz (r, U)) L := by
  refine ct_intro (loc := [some (.ref 0), some (.int r)]) (by decide) (Nat.le_of_ble_eq_true rfl) rfl ?_
  refine ev_ild1 dX10_acted_0 ?_
  refine ev_if_lt 15 dX10_acted_1 (by decide) (fun c_1 => ?_) (fun c_1 => ?_)
  · refine ev_ild1 dX10_acted_15 ?_
    refine ev_iret dX10_acted_16 ?_
    exact ⟨_, rfl, rfl, (if_pos c_1).symm, rfl⟩
  · refine ev_ald0 dX10_acted_4 ?_
    refine ev_getr (r := 30) dX10_acted_5 fl_X10_51 rfl ?_
    refine ev_ald0 dX10_acted_8 ?_
    refine ev_getr (r := 22) dX10_acted_9 fl_X10_42 rfl ?_
    refine ev_V1v (M' := mX0_push) dX10_acted_12 lk_X10_184 vX0_push rfl (acted_c d S U hx h14 hs hs4 hp L) (Nat.le_refl _) (Nat.le_of_ble_eq_true rfl) ?_
    refine ev_ild1 dX10_acted_15 ?_
    refine ev_iret dX10_acted_16 ?_
    exact ⟨_, rfl, rfl, (if_neg c_1).symm, rfl⟩
theorem k_pour (d : Nat) (S : gx_S) {ng : Nat} (hng : S 11 0 = nI ng) (h5 : ng ≤ 5) {nd : Nat} (hnd : S 11 1 = nI nd) (h4 : nd ≤ 4) (g n : Int32) (L : gx_L) : Cf (d + 3) mX9_pourInto [.ref 18, .int g, .int n] (tS S 22 (tG S 18)) L (p_pour (S 11 0) (S 12) (tG S 18) g n).1 (tS (tS S 22 (tG S 18)) 18 (p_pour (S 11 0) (S 12) (tG S 18) g n).2) L := by
  have e : ∀ i, i < 22 → tS S 22 (tG S 18) i = S i := fun i hi => tS_o S _ (by omega)
  have h := c_pourInto (d + 2) tb18 (tS S 22 (tG S 18)) (by rw [tS_o S _ (by decide)]; exact hng) h5 g n L
  rw [tG_o S _ (by decide)] at h
  simp only [e 11 (by decide), e 12 (by decide), e 14 (by decide), e 16 (by decide), e 17 (by decide)] at h
  exact h
set_option maxRecDepth 10000 in
theorem x_pour (d : Nat) (S : gx_S) {ng : Nat} (hng : S 11 0 = nI ng) (h5 : ng ≤ 5) {nd : Nat} (hnd : S 11 1 = nI nd) (h4 : nd ≤ 4) {nx sz : Nat} (hx : S 30 1 = nI nx) (h14 : nx < 14) (hs : S 30 2 = nI sz) (hs4 : sz ≤ 14) (hp : S 31 0 = nI 14) (z18 : zT (tG S 18)) (z22 : zT (tG S 22)) (z26 : zT (tG S 26)) (g n : Int32) (L : gx_L) : Cf (d + 4) mX10_pour [.ref 0, .int g, .int n] S L (p_pour (S 11 0) (S 12) (tG S 18) g n).1 (M_act S nx sz (p_pour (S 11 0) (S 12) (tG S 18) g n)) L := by
  refine ct_intro (loc := [some (.ref 0), some (.int g), some (.int n)]) (by decide) (Nat.le_of_ble_eq_true rfl) rfl ?_
  refine ev_ald0 dX10_pour_0 ?_
  refine ev_getr (r := 22) dX10_pour_1 fl_X10_42 rfl ?_
  refine ev_ald0 dX10_pour_4 ?_
  refine ev_getr (r := 18) dX10_pour_5 fl_X10_38 rfl ?_
  refine ev_V1v (M' := mX9_copyFrom) dX10_pour_8 lk_X10_164 vX9_copyFrom rfl (c_copyFrom (d + 2) tb22 tb18 (by decide) S z22 z18 L) (Nat.le_refl _) (Nat.le_of_ble_eq_true rfl) ?_
  refine ev_ald0 dX10_pour_11 ?_
  refine ev_ald0 dX10_pour_12 ?_
  refine ev_getr (r := 18) dX10_pour_13 fl_X10_38 rfl ?_
  refine ev_ild1 dX10_pour_16 ?_
  refine ev_ild2 dX10_pour_17 ?_
  refine ev_V2i (M' := mX9_pourInto) dX10_pour_18 lk_X10_167 vX9_pourInto rfl (k_pour d S hng h5 hnd h4 g n L) (Nat.le_refl _) (Nat.le_of_ble_eq_true rfl) ?_
  refine ev_V1i (M' := mX10_acted) dX10_pour_21 lk_X10_171 vX10_acted rfl (c_acted d S _ hx h14 hs hs4 hp _ L) (Nat.le_refl _) (Nat.le_of_ble_eq_true rfl) ?_
  refine ev_iret dX10_pour_24 ?_
  exact ⟨_, rfl, rfl, rfl, rfl⟩
theorem k_drink (d : Nat) (S : gx_S) {ng : Nat} (hng : S 11 0 = nI ng) (h5 : ng ≤ 5) {nd : Nat} (hnd : S 11 1 = nI nd) (h4 : nd ≤ 4) (g n : Int32) (L : gx_L) : Cf (d + 3) mX9_drinkAt [.ref 18, .int g, .int n] (tS S 22 (tG S 18)) L (p_drink (S 11 0) (S 11 1) (S 16) (S 17) (tG S 18) g n).1 (tS (tS S 22 (tG S 18)) 18 (p_drink (S 11 0) (S 11 1) (S 16) (S 17) (tG S 18) g n).2) L := by
  have e : ∀ i, i < 22 → tS S 22 (tG S 18) i = S i := fun i hi => tS_o S _ (by omega)
  have h := c_drinkAt (d + 1) tb18 (tS S 22 (tG S 18)) (by rw [tS_o S _ (by decide)]; exact hng) h5 (by rw [tS_o S _ (by decide)]; exact hnd) h4 g n L
  rw [tG_o S _ (by decide)] at h
  simp only [e 11 (by decide), e 12 (by decide), e 14 (by decide), e 16 (by decide), e 17 (by decide)] at h
  exact h
set_option maxRecDepth 10000 in
theorem x_drink (d : Nat) (S : gx_S) {ng : Nat} (hng : S 11 0 = nI ng) (h5 : ng ≤ 5) {nd : Nat} (hnd : S 11 1 = nI nd) (h4 : nd ≤ 4) {nx sz : Nat} (hx : S 30 1 = nI nx) (h14 : nx < 14) (hs : S 30 2 = nI sz) (hs4 : sz ≤ 14) (hp : S 31 0 = nI 14) (z18 : zT (tG S 18)) (z22 : zT (tG S 22)) (z26 : zT (tG S 26)) (g n : Int32) (L : gx_L) : Cf (d + 4) mX10_drink [.ref 0, .int g, .int n] S L (p_drink (S 11 0) (S 11 1) (S 16) (S 17) (tG S 18) g n).1 (M_act S nx sz (p_drink (S 11 0) (S 11 1) (S 16) (S 17) (tG S 18) g n)) L := by
  refine ct_intro (loc := [some (.ref 0), some (.int g), some (.int n)]) (by decide) (Nat.le_of_ble_eq_true rfl) rfl ?_
  refine ev_ald0 dX10_drink_0 ?_
  refine ev_getr (r := 22) dX10_drink_1 fl_X10_42 rfl ?_
  refine ev_ald0 dX10_drink_4 ?_
  refine ev_getr (r := 18) dX10_drink_5 fl_X10_38 rfl ?_
  refine ev_V1v (M' := mX9_copyFrom) dX10_drink_8 lk_X10_164 vX9_copyFrom rfl (c_copyFrom (d + 2) tb22 tb18 (by decide) S z22 z18 L) (Nat.le_refl _) (Nat.le_of_ble_eq_true rfl) ?_
  refine ev_ald0 dX10_drink_11 ?_
  refine ev_ald0 dX10_drink_12 ?_
  refine ev_getr (r := 18) dX10_drink_13 fl_X10_38 rfl ?_
  refine ev_ild1 dX10_drink_16 ?_
  refine ev_ild2 dX10_drink_17 ?_
  refine ev_V2i (M' := mX9_drinkAt) dX10_drink_18 lk_X10_174 vX9_drinkAt rfl (k_drink d S hng h5 hnd h4 g n L) (Nat.le_refl _) (Nat.le_of_ble_eq_true rfl) ?_
  refine ev_V1i (M' := mX10_acted) dX10_drink_21 lk_X10_171 vX10_acted rfl (c_acted d S _ hx h14 hs hs4 hp _ L) (Nat.le_refl _) (Nat.le_of_ble_eq_true rfl) ?_
  refine ev_iret dX10_drink_24 ?_
  exact ⟨_, rfl, rfl, rfl, rfl⟩
theorem k_tip (d : Nat) (S : gx_S) {ng : Nat} (hng : S 11 0 = nI ng) (h5 : ng ≤ 5) {nd : Nat} (hnd : S 11 1 = nI nd) (h4 : nd ≤ 4) (g n : Int32) (L : gx_L) : Cf (d + 3) mX9_tipOver [.ref 18, .int g, .int n] (tS S 22 (tG S 18)) L (p_tip (S 11 0) (S 12) (tG S 18) g n).1 (tS (tS S 22 (tG S 18)) 18 (p_tip (S 11 0) (S 12) (tG S 18) g n).2) L := by
  have e : ∀ i, i < 22 → tS S 22 (tG S 18) i = S i := fun i hi => tS_o S _ (by omega)
  have h := c_tipOver (d + 2) tb18 (tS S 22 (tG S 18)) (by rw [tS_o S _ (by decide)]; exact hng) h5 g n L
  rw [tG_o S _ (by decide)] at h
  simp only [e 11 (by decide), e 12 (by decide), e 14 (by decide), e 16 (by decide), e 17 (by decide)] at h
  exact h
set_option maxRecDepth 10000 in
theorem x_tip (d : Nat) (S : gx_S) {ng : Nat} (hng : S 11 0 = nI ng) (h5 : ng ≤ 5) {nd : Nat} (hnd : S 11 1 = nI nd) (h4 : nd ≤ 4) {nx sz : Nat} (hx : S 30 1 = nI nx) (h14 : nx < 14) (hs : S 30 2 = nI sz) (hs4 : sz ≤ 14) (hp : S 31 0 = nI 14) (z18 : zT (tG S 18)) (z22 : zT (tG S 22)) (z26 : zT (tG S 26)) (g n : Int32) (L : gx_L) : Cf (d + 4) mX10_tip [.ref 0, .int g, .int n] S L (p_tip (S 11 0) (S 12) (tG S 18) g n).1 (M_act S nx sz (p_tip (S 11 0) (S 12) (tG S 18) g n)) L := by
  refine ct_intro (loc := [some (.ref 0), some (.int g), some (.int n)]) (by decide) (Nat.le_of_ble_eq_true rfl) rfl ?_
  refine ev_ald0 dX10_tip_0 ?_
  refine ev_getr (r := 22) dX10_tip_1 fl_X10_42 rfl ?_
  refine ev_ald0 dX10_tip_4 ?_
  refine ev_getr (r := 18) dX10_tip_5 fl_X10_38 rfl ?_
  refine ev_V1v (M' := mX9_copyFrom) dX10_tip_8 lk_X10_164 vX9_copyFrom rfl (c_copyFrom (d + 2) tb22 tb18 (by decide) S z22 z18 L) (Nat.le_refl _) (Nat.le_of_ble_eq_true rfl) ?_
  refine ev_ald0 dX10_tip_11 ?_
  refine ev_ald0 dX10_tip_12 ?_
  refine ev_getr (r := 18) dX10_tip_13 fl_X10_38 rfl ?_
  refine ev_ild1 dX10_tip_16 ?_
  refine ev_ild2 dX10_tip_17 ?_
  refine ev_V2i (M' := mX9_tipOver) dX10_tip_18 lk_X10_177 vX9_tipOver rfl (k_tip d S hng h5 hnd h4 g n L) (Nat.le_refl _) (Nat.le_of_ble_eq_true rfl) ?_
  refine ev_V1i (M' := mX10_acted) dX10_tip_21 lk_X10_171 vX10_acted rfl (c_acted d S _ hx h14 hs hs4 hp _ L) (Nat.le_refl _) (Nat.le_of_ble_eq_true rfl) ?_
  refine ev_iret dX10_tip_24 ?_
  exact ⟨_, rfl, rfl, rfl, rfl⟩
theorem k_hour (d : Nat) (S : gx_S) {ng : Nat} (hng : S 11 0 = nI ng) (h5 : ng ≤ 5) {nd : Nat} (hnd : S 11 1 = nI nd) (h4 : nd ≤ 4) (L : gx_L) : Cf (d + 3) mX9_passHour [.ref 18] (tS S 22 (tG S 18)) L ((p_taxes (S 14) (S 12) (p_hourT (S 14) (tG S 18)), p_hourT (S 14) (tG S 18))).1 (tS (tS S 22 (tG S 18)) 18 ((p_taxes (S 14) (S 12) (p_hourT (S 14) (tG S 18)), p_hourT (S 14) (tG S 18))).2) L := by
  have e : ∀ i, i < 22 → tS S 22 (tG S 18) i = S i := fun i hi => tS_o S _ (by omega)
  have h := c_passHour d tb18 (tS S 22 (tG S 18)) L
  rw [tG_o S _ (by decide)] at h
  simp only [e 11 (by decide), e 12 (by decide), e 14 (by decide), e 16 (by decide), e 17 (by decide)] at h
  exact h
set_option maxRecDepth 10000 in
theorem x_hour (d : Nat) (S : gx_S) {ng : Nat} (hng : S 11 0 = nI ng) (h5 : ng ≤ 5) {nd : Nat} (hnd : S 11 1 = nI nd) (h4 : nd ≤ 4) {nx sz : Nat} (hx : S 30 1 = nI nx) (h14 : nx < 14) (hs : S 30 2 = nI sz) (hs4 : sz ≤ 14) (hp : S 31 0 = nI 14) (z18 : zT (tG S 18)) (z22 : zT (tG S 22)) (z26 : zT (tG S 26)) (L : gx_L) : Cf (d + 4) mX10_hour [.ref 0] S L ((p_taxes (S 14) (S 12) (p_hourT (S 14) (tG S 18)), p_hourT (S 14) (tG S 18))).1 (M_act S nx sz ((p_taxes (S 14) (S 12) (p_hourT (S 14) (tG S 18)), p_hourT (S 14) (tG S 18)))) L := by
  refine ct_intro (loc := [some (.ref 0)]) (by decide) (Nat.le_of_ble_eq_true rfl) rfl ?_
  refine ev_ald0 dX10_hour_0 ?_
  refine ev_getr (r := 22) dX10_hour_1 fl_X10_42 rfl ?_
  refine ev_ald0 dX10_hour_4 ?_
  refine ev_getr (r := 18) dX10_hour_5 fl_X10_38 rfl ?_
  refine ev_V1v (M' := mX9_copyFrom) dX10_hour_8 lk_X10_164 vX9_copyFrom rfl (c_copyFrom (d + 2) tb22 tb18 (by decide) S z22 z18 L) (Nat.le_refl _) (Nat.le_of_ble_eq_true rfl) ?_
  refine ev_ald0 dX10_hour_11 ?_
  refine ev_ald0 dX10_hour_12 ?_
  refine ev_getr (r := 18) dX10_hour_13 fl_X10_38 rfl ?_
  refine ev_V0i (M' := mX9_passHour) dX10_hour_16 lk_X10_180 vX9_passHour rfl (k_hour d S hng h5 hnd h4 L) (Nat.le_refl _) (Nat.le_of_ble_eq_true rfl) ?_
  refine ev_V1i (M' := mX10_acted) dX10_hour_19 lk_X10_171 vX10_acted rfl (c_acted d S _ hx h14 hs hs4 hp _ L) (Nat.le_refl _) (Nat.le_of_ble_eq_true rfl) ?_
  refine ev_iret dX10_hour_22 ?_
  exact ⟨_, rfl, rfl, rfl, rfl⟩
set_option maxRecDepth 10000 in
theorem x_undo0 (d : Nat) (S : gx_S) (hs : S 30 2 = nI 0) (L : gx_L) : Cf d mX10_undo [.ref 0] S L (-3) S L := by
  refine ct_intro (loc := [some (.ref 0)]) (by decide) (Nat.le_of_ble_eq_true rfl) rfl ?_
  refine ev_ald0 dX10_undo_0 ?_
  refine ev_getr (r := 30) dX10_undo_1 fl_X10_51 rfl ?_
  refine ev_geti dX10_undo_4 fl_X10_187 rfl ?_
  refine ev_if_ne_f 13 dX10_undo_7 (by decide) hs ?_
  refine ev_bipush (v := (-3)) dX10_undo_10 (by decide) ?_
  refine ev_iret dX10_undo_12 ?_
  exact ⟨_, rfl, rfl, rfl, rfl⟩
set_option maxRecDepth 10000 in
theorem x_undo (d : Nat) (S : gx_S) {nx sz : Nat} (hx : S 30 1 = nI nx) (h14 : nx < 14) (hs : S 30 2 = nI (sz + 1)) (hs4 : sz + 1 ≤ 14) (hp : S 31 0 = nI 14) (L : gx_L) : Cf (d + 3) mX10_undo [.ref 0] S L (nI sz) (tS (gx_u2 (gx_u2 S 30 2 (nI sz)) 30 1 (nI ((nx + 13) % 14))) 18 (ftT (S 32) ((nx + 13) % 14) (tG S 18))) L := by
  refine ct_intro (loc := [some (.ref 0)]) (by decide) (Nat.le_of_ble_eq_true rfl) rfl ?_
  refine ev_ald0 dX10_undo_0 ?_
  refine ev_getr (r := 30) dX10_undo_1 fl_X10_51 rfl ?_
  refine ev_geti dX10_undo_4 fl_X10_187 rfl ?_
  refine ev_if_ne_t 13 dX10_undo_7 (by decide) (by rw [hs]; exact nI_ne0 (by omega) (by omega)) ?_
  refine ev_ald0 dX10_undo_13 ?_
  refine ev_getr (r := 30) dX10_undo_14 fl_X10_51 rfl ?_
  refine ev_ald0 dX10_undo_17 ?_
  refine ev_getr (r := 18) dX10_undo_18 fl_X10_38 rfl ?_
  refine ev_V1v (M' := mX0_pop) dX10_undo_21 lk_X10_190 vX0_pop rfl (c_pop d tb18 S hx h14 hs hs4 hp L) (Nat.le_refl _) (Nat.le_of_ble_eq_true rfl) ?_
  refine ev_ald0 dX10_undo_24 ?_
  refine ev_getr (r := 30) dX10_undo_25 fl_X10_51 rfl ?_
  refine ev_geti dX10_undo_28 fl_X10_187 rfl ?_
  rw [tS_o _ _ (by decide), u2_k _ 30 _ (by decide), u2_at]
  refine ev_iret dX10_undo_31 ?_
  exact ⟨_, rfl, rfl, rfl, rfl⟩
theorem k_copy (d : Nat) (S : gx_S) (z18 : zT (tG S 18)) (z22 : zT (tG S 22)) (z26 : zT (tG S 26)) (L : gx_L) : Cw (d + 1) mX9_copyFrom [.ref 26, .ref 18] S L (tS S 26 (tG S 18)) L := c_copyFrom d tb26 tb18 (by decide) S z26 z18 L
set_option maxRecDepth 10000 in
theorem x_left0 (d : Nat) (S : gx_S) {g : Int32} (hb : isG (S 11 0) g = false) (L : gx_L) : Cf (d + 1) mX10_left [.ref 0, .int g] S L (-1) S L := by
  refine ct_intro (loc := [some (.ref 0), some (.int g)]) (by decide) (Nat.le_of_ble_eq_true rfl) rfl ?_
  refine ev_ald0 dX10_left_0 ?_
  refine ev_getr (r := 11) dX10_left_1 fl_X10_30 rfl ?_
  refine ev_ild1 dX10_left_4 ?_
  refine ev_V1i (M' := mX2_hasGlass) dX10_left_5 lk_X10_126 vX2_hasGlass rfl (c_hasGlass d hh11 _ _ _) (Nat.le_refl _) (Nat.le_of_ble_eq_true rfl) ?_
  refine ev_if_ne_f 13 dX10_left_8 (by decide) (by rw [hb]; rfl) ?_
  refine ev_iconst (v := (-1)) dX10_left_11 (by decide) ?_
  refine ev_iret dX10_left_12 ?_
  exact ⟨_, rfl, rfl, rfl, rfl⟩
set_option maxRecDepth 10000 in
theorem x_left (d : Nat) (S : gx_S) {ng : Nat} (hng : S 11 0 = nI ng) (h5 : ng ≤ 5) {j : Nat} (hj : j < ng) (z18 : zT (tG S 18)) (z22 : zT (tG S 22)) (z26 : zT (tG S 26)) (L : gx_L) : Cf (d + 4) mX10_left [.ref 0, .int (nI j)] S L ((p_ev (S 16) (S 17) 15 (tG S 18)).1 j) (tS S 26 (p_ev (S 16) (S 17) 15 (tG S 18))) L := by
  refine ct_intro (loc := [some (.ref 0), some (.int (nI j))]) (by decide) (Nat.le_of_ble_eq_true rfl) rfl ?_
  refine ev_ald0 dX10_left_0 ?_
  refine ev_getr (r := 11) dX10_left_1 fl_X10_30 rfl ?_
  refine ev_ild1 dX10_left_4 ?_
  refine ev_V1i (M' := mX2_hasGlass) dX10_left_5 lk_X10_126 vX2_hasGlass rfl (c_hasGlass (d + 3) hh11 _ _ _) (Nat.le_refl _) (Nat.le_of_ble_eq_true rfl) ?_
  refine ev_if_ne_t 13 dX10_left_8 (by decide) (by rw [hng, isG_in (by omega) hj]; decide) ?_
  refine ev_ald0 dX10_left_13 ?_
  refine ev_getr (r := 26) dX10_left_14 fl_X10_45 rfl ?_
  refine ev_ald0 dX10_left_17 ?_
  refine ev_getr (r := 18) dX10_left_18 fl_X10_38 rfl ?_
  refine ev_V1v (M' := mX9_copyFrom) dX10_left_21 lk_X10_164 vX9_copyFrom rfl (k_copy (d + 2) S z18 z22 z26 L) (Nat.le_refl _) (Nat.le_of_ble_eq_true rfl) ?_
  refine ev_ald0 dX10_left_24 ?_
  refine ev_getr (r := 26) dX10_left_25 fl_X10_45 rfl ?_
  refine ev_bipush (v := 15) dX10_left_28 (by decide) ?_
  refine ev_V1v (M' := mX9_passEvening) dX10_left_30 lk_X10_193 vX9_passEvening rfl (c_evT d S _ _ L) (Nat.le_refl _) (Nat.le_of_ble_eq_true rfl) ?_
  refine ev_ald0 dX10_left_33 ?_
  refine ev_getr (r := 26) dX10_left_34 fl_X10_45 rfl ?_
  refine ev_getr (r := 27) dX10_left_37 fl_X10_134 rfl ?_
  refine ev_ild1 dX10_left_40 ?_
  refine ev_iald' dX10_left_41 rfl (by omega) (by decide) ?_
  rw [tS_1 S 26]
  refine ev_iret dX10_left_42 ?_
  exact ⟨_, rfl, rfl, rfl, rfl⟩
def A_evening (dk sb gk ms : Nat → Int32) (T : Tb) (w : Int32) : Int32 := if w < 0 then -2 else if w ≤ 1 then (if w = 0 then p_taxes gk ms (p_ev dk sb 15 T) else p_thirst (p_ev dk sb 15 T)) else -2
def M_evening (S : gx_S) (w : Int32) : gx_S := if w < 0 then S else if w ≤ 1 then (if w = 0 then tS S 26 (p_ev (S 16) (S 17) 15 (tG S 18)) else tS S 26 (p_ev (S 16) (S 17) 15 (tG S 18))) else S
set_option maxRecDepth 10000 in
theorem x_evening (d : Nat) (S : gx_S) (z18 : zT (tG S 18)) (z22 : zT (tG S 22)) (z26 : zT (tG S 26)) (w : Int32) (L : gx_L) : Cf (d + 4) mX10_evening [.ref 0, .int w] S L (A_evening (S 16) (S 17) (S 14) (S 12) (tG S 18) w) (M_evening S w) L := by
  refine ct_intro (loc := [some (.ref 0), some (.int w)]) (by decide) (Nat.le_of_ble_eq_true rfl) rfl ?_
  refine ev_ild1 dX10_evening_0 ?_
  refine ev_if_lt 9 dX10_evening_1 (by decide) (fun c_1 => ?_) (fun c_1 => ?_)
  · refine ev_bipush (v := (-2)) dX10_evening_9 (by decide) ?_
    refine ev_iret dX10_evening_11 ?_
    exact ⟨_, rfl, (if_pos c_1).symm, (if_pos c_1).symm, rfl⟩
  · refine ev_ild1 dX10_evening_4 ?_
    refine ev_iconst (v := 1) dX10_evening_5 (by decide) ?_
    refine ev_icmp_le 12 dX10_evening_6 (by decide) (fun c_6 => ?_) (fun c_6 => ?_)
    · refine ev_ald0 dX10_evening_12 ?_
      refine ev_getr (r := 26) dX10_evening_13 fl_X10_45 rfl ?_
      refine ev_ald0 dX10_evening_16 ?_
      refine ev_getr (r := 18) dX10_evening_17 fl_X10_38 rfl ?_
      refine ev_V1v (M' := mX9_copyFrom) dX10_evening_20 lk_X10_164 vX9_copyFrom rfl (k_copy (d + 2) S z18 z22 z26 L) (Nat.le_refl _) (Nat.le_of_ble_eq_true rfl) ?_
      refine ev_ald0 dX10_evening_23 ?_
      refine ev_getr (r := 26) dX10_evening_24 fl_X10_45 rfl ?_
      refine ev_bipush (v := 15) dX10_evening_27 (by decide) ?_
      refine ev_V1v (M' := mX9_passEvening) dX10_evening_29 lk_X10_193 vX9_passEvening rfl (c_evT d S _ _ L) (Nat.le_refl _) (Nat.le_of_ble_eq_true rfl) ?_
      refine ev_ild1 dX10_evening_32 ?_
      refine ev_if_ne 46 dX10_evening_33 (by decide) (fun c_33 => ?_) (fun c_33 => ?_)
      · refine ev_ald0 dX10_evening_46 ?_
        refine ev_getr (r := 26) dX10_evening_47 fl_X10_45 rfl ?_
        refine ev_V0i (M' := mX9_thirstOfAll) dX10_evening_50 lk_X10_199 vX9_thirstOfAll rfl (c_thT (d + 3) S _ L) (Nat.le_refl _) (Nat.le_of_ble_eq_true rfl) ?_
        refine ev_iret dX10_evening_53 ?_
        exact ⟨_, rfl, ((if_neg c_1).trans ((if_pos c_6).trans (if_neg c_33))).symm, ((if_neg c_1).trans ((if_pos c_6).trans (if_neg c_33))).symm, rfl⟩
      · refine ev_ald0 dX10_evening_36 ?_
        refine ev_getr (r := 26) dX10_evening_37 fl_X10_45 rfl ?_
        refine ev_V0i (M' := mX9_taxes) dX10_evening_40 lk_X10_196 vX9_taxes rfl (c_txT (d + 1) S _ L) (Nat.le_refl _) (Nat.le_of_ble_eq_true rfl) ?_
        refine ev_goto 53 dX10_evening_43 (by decide) ?_
        refine ev_iret dX10_evening_53 ?_
        exact ⟨_, rfl, ((if_neg c_1).trans ((if_pos c_6).trans (if_pos c_33))).symm, ((if_neg c_1).trans ((if_pos c_6).trans (if_pos c_33))).symm, rfl⟩
    · refine ev_bipush (v := (-2)) dX10_evening_9 (by decide) ?_
      refine ev_iret dX10_evening_11 ?_
      exact ⟨_, rfl, ((if_neg c_1).trans (if_neg c_6)).symm, ((if_neg c_1).trans (if_neg c_6)).symm, rfl⟩
set_option maxRecDepth 10000 in
theorem x_wake (d : Nat) (S : gx_S) {ng : Nat} (hng : S 11 0 = nI ng) (h5 : ng ≤ 5) (z18 : zT (tG S 18)) (z22 : zT (tG S 22)) (z26 : zT (tG S 26)) (L : gx_L) : Ci (d + 6) mX10_wake [.ref 0] S L (fun r S1 L1 => r = oI (wN (fun b => allB (p_quN (S 16) (p_ev (S 16) (S 17) 15 (p_fillN (S 12) (nI b) (tG S 18) 5)).2.2.1) 4) (2 ^ ng)) ∧ (∃ T1, zT T1 ∧ S1 = tS S 26 T1) ∧ L1 = L) := by
  refine ct_intro (loc := [some (.ref 0)]) (by decide) (Nat.le_of_ble_eq_true rfl) rfl ?_
  refine ev_mem (tS_tG S 26).symm ?_
  refine ev_ald0 dX10_wake_0 ?_
  refine ev_getr (r := 39) dX10_wake_1 fl_X10_76 rfl ?_
  refine ev_V0iq (M' := mX6_fewestForWake) dX10_wake_4 lk_X10_215 vX6_fewestForWake rfl (c_wake0 d S hng h5 (tG S 26) z26 z18 L) (Nat.le_refl _) (Nat.le_of_ble_eq_true rfl) (fun r9 S9 L9 h9 => ?_)
  refine ev_iret dX10_wake_7 ?_
  exact ⟨_, rfl, h9⟩
def A_see (nd n : Nat) (x y z : Int32) : Int32 := if isG (nI nd) x = true then (if y < 0 then -2 else if 9 < y then -2 else if z < 0 then -2 else if z ≤ y then (if n < 6 then nI (n + 1) else -4) else -2) else -1
def M_see (S : gx_S) (nd n : Nat) (x y z : Int32) : gx_S := if isG (nI nd) x = true then (if y < 0 then S else if 9 < y then S else if z < 0 then S else if z ≤ y then (if n < 6 then gx_u2 (gx_u2 (gx_u2 (gx_u2 S 36 n x) 37 n y) 38 n z) 35 3 (nI (n + 1)) else S) else S) else S
set_option maxRecDepth 10000 in
theorem x_see (d : Nat) (S : gx_S) {nd : Nat} (hnd : S 11 1 = nI nd) (h4 : nd ≤ 4) {n : Nat} (hn : S 35 3 = nI n) (h6 : n ≤ 6) (x y z : Int32) (L : gx_L) : Cf (d + 1) mX10_see [.ref 0, .int x, .int y, .int z] S L (A_see nd n x y z) (M_see S nd n x y z) L := by
  refine ct_intro (loc := [some (.ref 0), some (.int x), some (.int y), some (.int z)]) (by decide) (Nat.le_of_ble_eq_true rfl) rfl ?_
  refine ev_ald0 dX10_see_0 ?_
  refine ev_getr (r := 11) dX10_see_1 fl_X10_30 rfl ?_
  refine ev_ild1 dX10_see_4 ?_
  refine ev_V1i (M' := mX2_hasDrinker) dX10_see_5 lk_X10_149 vX2_hasDrinker rfl (c_hasDrinker d hh11 _ _ _) (Nat.le_refl _) (Nat.le_of_ble_eq_true rfl) ?_
  refine ev_if_ne 13 dX10_see_8 (by decide) (fun c_8 => ?_) (fun c_8 => ?_)
  · have b_8 := gx_b_y.mp c_8
    refine ev_ild2 dX10_see_13 ?_
    refine ev_if_lt 32 dX10_see_14 (by decide) (fun c_14 => ?_) (fun c_14 => ?_)
    · refine ev_bipush (v := (-2)) dX10_see_32 (by decide) ?_
      refine ev_iret dX10_see_34 ?_
      exact ⟨_, rfl, ((if_pos (hnd ▸ b_8)).trans (if_pos c_14)).symm, ((if_pos (hnd ▸ b_8)).trans (if_pos c_14)).symm, rfl⟩
    · refine ev_ild2 dX10_see_17 ?_
      refine ev_bipush (v := 9) dX10_see_18 (by decide) ?_
      refine ev_icmp_gt 32 dX10_see_20 (by decide) (fun c_20 => ?_) (fun c_20 => ?_)
      · refine ev_bipush (v := (-2)) dX10_see_32 (by decide) ?_
        refine ev_iret dX10_see_34 ?_
        exact ⟨_, rfl, ((if_pos (hnd ▸ b_8)).trans ((if_neg c_14).trans (if_pos c_20))).symm, ((if_pos (hnd ▸ b_8)).trans ((if_neg c_14).trans (if_pos c_20))).symm, rfl⟩
      · refine ev_ild3 dX10_see_23 ?_
        refine ev_if_lt 32 dX10_see_24 (by decide) (fun c_24 => ?_) (fun c_24 => ?_)
        · refine ev_bipush (v := (-2)) dX10_see_32 (by decide) ?_
          refine ev_iret dX10_see_34 ?_
          exact ⟨_, rfl, ((if_pos (hnd ▸ b_8)).trans ((if_neg c_14).trans ((if_neg c_20).trans (if_pos c_24)))).symm, ((if_pos (hnd ▸ b_8)).trans ((if_neg c_14).trans ((if_neg c_20).trans (if_pos c_24)))).symm, rfl⟩
        · refine ev_ild3 dX10_see_27 ?_
          refine ev_ild2 dX10_see_28 ?_
          refine ev_icmp_le 35 dX10_see_29 (by decide) (fun c_29 => ?_) (fun c_29 => ?_)
          · refine ev_ald0 dX10_see_35 ?_
            refine ev_getr (r := 35) dX10_see_36 fl_X10_67 rfl ?_
            refine ev_ild1 dX10_see_39 ?_
            refine ev_ild2 dX10_see_40 ?_
            refine ev_ild3 dX10_see_41 ?_
            refine ev_V3i (M' := mX7_add) dX10_see_42 lk_X10_232 vX7_add rfl (c_seenAdd d S hn h6 _ _ _ L) (Nat.le_refl _) (Nat.le_of_ble_eq_true rfl) ?_
            refine ev_iret dX10_see_45 ?_
            exact ⟨_, rfl, ((if_pos (hnd ▸ b_8)).trans ((if_neg c_14).trans ((if_neg c_20).trans ((if_neg c_24).trans (if_pos c_29))))).symm, ((if_pos (hnd ▸ b_8)).trans ((if_neg c_14).trans ((if_neg c_20).trans ((if_neg c_24).trans (if_pos c_29))))).symm, rfl⟩
          · refine ev_bipush (v := (-2)) dX10_see_32 (by decide) ?_
            refine ev_iret dX10_see_34 ?_
            exact ⟨_, rfl, ((if_pos (hnd ▸ b_8)).trans ((if_neg c_14).trans ((if_neg c_20).trans ((if_neg c_24).trans (if_neg c_29))))).symm, ((if_pos (hnd ▸ b_8)).trans ((if_neg c_14).trans ((if_neg c_20).trans ((if_neg c_24).trans (if_neg c_29))))).symm, rfl⟩
  · have b_8 := gx_b_n.mp c_8
    refine ev_iconst (v := (-1)) dX10_see_11 (by decide) ?_
    refine ev_iret dX10_see_12 ?_
    exact ⟨_, rfl, (if_neg (hnd ▸ b_8)).symm, (if_neg (hnd ▸ b_8)).symm, rfl⟩
set_option maxRecDepth 10000 in
theorem x_unsee (d : Nat) (S : gx_S) {n : Nat} (hn : S 35 3 = nI n) (L : gx_L) : Cf d mX10_unsee [.ref 0] S L (nI n) (gx_u2 S 35 3 0) L := by
  refine ct_intro (loc := [some (.ref 0), none]) (by decide) (Nat.le_of_ble_eq_true rfl) rfl ?_
  refine ev_ald0 dX10_unsee_0 ?_
  refine ev_getr (r := 35) dX10_unsee_1 fl_X10_67 rfl ?_
  refine ev_geti dX10_unsee_4 fl_X10_235 rfl ?_
  rw [hn]
  refine ev_ist1 dX10_unsee_7 ?_
  refine ev_ald0 dX10_unsee_8 ?_
  refine ev_getr (r := 35) dX10_unsee_9 fl_X10_67 rfl ?_
  refine ev_iconst (v := 0) dX10_unsee_12 (by decide) ?_
  refine ev_puti dX10_unsee_13 fp_X10_235 rfl ?_
  refine ev_ild1 dX10_unsee_16 ?_
  refine ev_iret dX10_unsee_17 ?_
  exact ⟨_, rfl, rfl, rfl, rfl⟩
def A_thirsts (nd n : Nat) (dk ofs was is : Nat → Int32) (x : Int32) : Int32 := if isG (nI nd) x = true then p_thsN ofs was is x (dk x.toNatClampNeg) n 10 else -1
set_option maxRecDepth 10000 in
theorem x_thirsts (d : Nat) (S : gx_S) {nd : Nat} (hnd : S 11 1 = nI nd) (h4 : nd ≤ 4) {n : Nat} (hn : S 35 3 = nI n) (h6 : n ≤ 6) (x : Int32) (L : gx_L) : Cf (d + 3) mX10_thirsts [.ref 0, .int x] S L (A_thirsts nd n (S 16) (S 36) (S 37) (S 38) x) S L := by
  refine ct_intro (loc := [some (.ref 0), some (.int x)]) (by decide) (Nat.le_of_ble_eq_true rfl) rfl ?_
  refine ev_ald0 dX10_thirsts_0 ?_
  refine ev_getr (r := 11) dX10_thirsts_1 fl_X10_30 rfl ?_
  refine ev_ild1 dX10_thirsts_4 ?_
  refine ev_V1i (M' := mX2_hasDrinker) dX10_thirsts_5 lk_X10_149 vX2_hasDrinker rfl (c_hasDrinker (d + 2) hh11 _ _ _) (Nat.le_refl _) (Nat.le_of_ble_eq_true rfl) ?_
  refine ev_if_ne 13 dX10_thirsts_8 (by decide) (fun c_8 => ?_) (fun c_8 => ?_)
  · have b_8 := gx_b_y.mp c_8
    obtain ⟨j, hj, rfl, ej⟩ := isG_of (by omega) (hnd ▸ b_8)
    refine ev_ald0 dX10_thirsts_13 ?_
    refine ev_getr (r := 35) dX10_thirsts_14 fl_X10_67 rfl ?_
    refine ev_ild1 dX10_thirsts_17 ?_
    refine ev_ald0 dX10_thirsts_18 ?_
    refine ev_getr (r := 11) dX10_thirsts_19 fl_X10_30 rfl ?_
    refine ev_getr (r := 16) dX10_thirsts_22 fl_X10_155 rfl ?_
    refine ev_ild1 dX10_thirsts_25 ?_
    refine ev_iald' dX10_thirsts_26 rfl (by omega) (by decide) ?_
    refine ev_V2i (M' := mX7_thirstsOf) dX10_thirsts_27 lk_X10_236 vX7_thirstsOf rfl (c_thirstsOf d S hn h6 _ _ L) (Nat.le_refl _) (Nat.le_of_ble_eq_true rfl) ?_
    refine ev_iret dX10_thirsts_30 ?_
    exact ⟨_, rfl, ((if_pos (hnd ▸ b_8)).trans (by rw [ej])).symm, rfl, rfl⟩
  · have b_8 := gx_b_n.mp c_8
    refine ev_iconst (v := (-1)) dX10_thirsts_11 (by decide) ?_
    refine ev_iret dX10_thirsts_12 ?_
    exact ⟨_, rfl, (if_neg (hnd ▸ b_8)).symm, rfl, rfl⟩
