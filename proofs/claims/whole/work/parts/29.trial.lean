/-! ===== nought beyond the places is kept ===== -/
theorem zT_sw {dk : Nat → Int32} {T : Tb} {d g : Nat} (h : zT T) (hd : d < 4) (hg : g < 5) : zT (p_swT dk T d g) := by
  refine ⟨fun j hj => ⟨?_, (h.1 j hj).2⟩, fun j hj => ?_⟩
  · exact (upd_ne _ _ (by omega)).trans (h.1 j hj).1
  · exact (upd_ne _ _ (by omega)).trans (h.2 j hj)
theorem zT_aroundN {dk sb : Nat → Int32} {T : Tb} {d : Nat} (h : zT T) (hd : d < 4) : ∀ n, n ≤ 5 → zT (p_aroundN dk sb T d n)
  | 0, _ => h
  | n + 1, hn => by
    unfold p_aroundN
    split
    · exact zT_sw (zT_aroundN h hd n (by omega)) hd (by omega)
    · exact zT_aroundN h hd n (by omega)
theorem zT_around {dk sb : Nat → Int32} {T : Tb} {d : Nat} (h : zT T) (hd : d < 4) : zT (p_around dk sb T d) := zT_aroundN h hd 5 (Nat.le_refl 5)
theorem zT_evN {dk sb : Nat → Int32} {so : Int32} {T : Tb} (h : zT T) : ∀ n, n ≤ 4 → zT (p_evN dk sb so T n)
  | 0, _ => h
  | n + 1, hn => by
    unfold p_evN
    split
    · exact zT_around (zT_evN h n (by omega)) (by omega)
    · exact zT_evN h n (by omega)
theorem zT_ev {dk sb : Nat → Int32} {so : Int32} {T : Tb} (h : zT T) : zT (p_ev dk sb so T) := zT_evN h 4 (Nat.le_refl 4)
theorem zT_fill {ms : Nat → Int32} {b : Int32} {T : Tb} (h : zT T) : ∀ n, n ≤ 5 → zT (p_fillN ms b T n)
  | 0, _ => h
  | n + 1, hn => by
    have ih := zT_fill (ms := ms) (b := b) h n (by omega)
    refine ⟨fun j hj => ⟨?_, ?_⟩, fun j hj => ih.2 j hj⟩
    · exact (upd_ne _ _ (by omega)).trans (ih.1 j hj).1
    · exact (upd_ne _ _ (by omega)).trans (ih.1 j hj).2
theorem zT_age {gk : Nat → Int32} {T : Tb} {g : Nat} (h : zT T) (hg : g < 5) : zT (p_ageT gk T g) := by
  unfold p_ageT
  split
  · exact ⟨fun j hj => ⟨(upd_ne _ _ (by omega)).trans (h.1 j hj).1, (upd_ne _ _ (by omega)).trans (h.1 j hj).2⟩, h.2⟩
  · split
    · split
      · exact ⟨fun j hj => ⟨(upd_ne _ _ (by omega)).trans (h.1 j hj).1, (upd_ne _ _ (by omega)).trans (h.1 j hj).2⟩, h.2⟩
      · exact ⟨fun j hj => ⟨(h.1 j hj).1, (upd_ne _ _ (by omega)).trans (h.1 j hj).2⟩, h.2⟩
    · exact ⟨fun j hj => ⟨(h.1 j hj).1, (upd_ne _ _ (by omega)).trans (h.1 j hj).2⟩, h.2⟩
theorem zT_hourN {gk : Nat → Int32} {T : Tb} (h : zT T) : ∀ n, n ≤ 5 → zT (p_hourN gk T n)
  | 0, _ => h
  | n + 1, hn => by
    unfold p_hourN
    split
    · exact zT_hourN h n (by omega)
    · exact zT_age (zT_hourN h n (by omega)) (by omega)
theorem zT_hour {gk : Nat → Int32} {T : Tb} (h : zT T) : zT (p_hourT gk T) := by
  have k := zT_hourN (gk := gk) h 5 (Nat.le_refl 5)
  unfold p_hourT
  generalize p_hourN gk T 5 = U at k ⊢
  exact ⟨k.1, k.2⟩
/-! ===== the trial table ===== -/
theorem cpT (S : gx_S) (T : Tb) : tG (tS S 26 T) 18 = tG S 18 ∧ tG (tS S 26 T) 26 = T := ⟨tG_o S T (by decide), tG_tS S 26 T⟩
theorem tr_o (S : gx_S) (T : Tb) : tS S 26 T 11 = S 11 ∧ tS S 26 T 12 = S 12 ∧ tS S 26 T 14 = S 14 ∧ tS S 26 T 16 = S 16 ∧ tS S 26 T 17 = S 17 := ⟨tS_o S T (by decide), tS_o S T (by decide), tS_o S T (by decide), tS_o S T (by decide), tS_o S T (by decide)⟩
theorem c_copyT (d : Nat) (S : gx_S) (T : Tb) (hz : zT T) (hy : zT (tG S 18)) (L : gx_L) : Cw (d + 1) mX9_copyFrom [.ref 26, .ref 18] (tS S 26 T) L (tS S 26 (tG S 18)) L := by
  have h := c_copyFrom d tb26 tb18 (by decide) (tS S 26 T) (by rw [(cpT S T).2]; exact hz) (by rw [(cpT S T).1]; exact hy) L
  rw [(cpT S T).1, tS_tS] at h
  exact h
theorem c_evT (d : Nat) (S : gx_S) (T : Tb) (so : Int32) (L : gx_L) : Cw (d + 3) mX9_passEvening [.ref 26, .int so] (tS S 26 T) L (tS S 26 (p_ev (S 16) (S 17) so T)) L := by
  have h := c_passEvening d tb26 so (tS S 26 T) L
  rw [(cpT S T).2, tS_tS, (tr_o S T).2.2.2.1, (tr_o S T).2.2.2.2] at h
  exact h
theorem c_txT (d : Nat) (S : gx_S) (T : Tb) (L : gx_L) : Cf (d + 2) mX9_taxes [.ref 26] (tS S 26 T) L (p_taxes (S 14) (S 12) T) (tS S 26 T) L := c_taxesT d tb26 S T L
theorem c_thT (d : Nat) (S : gx_S) (T : Tb) (L : gx_L) : Cf d mX9_thirstOfAll [.ref 26] (tS S 26 T) L (p_thirst T) (tS S 26 T) L := by
  have h := c_thirstOfAll d tb26 (tS S 26 T) L
  rw [(cpT S T).2] at h
  exact h
theorem c_fillT (d : Nat) (S : gx_S) (T : Tb) (b : Int32) (L : gx_L) : Cw (d + 1) mX9_fillOnly [.ref 26, .int b] (tS S 26 T) L (tS S 26 (p_fillN (S 12) b T 5)) L := by
  have h := c_fillOnly d tb26 b (tS S 26 T) L
  rw [(cpT S T).2, tS_tS, (tr_o S T).2.1] at h
  exact h
theorem c_quT (d : Nat) (S : gx_S) (T : Tb) (L : gx_L) : Cf d mX9_isQuenched [.ref 26] (tS S 26 T) L (gx_b (allB (p_quN (S 16) T.2.2.1) 4)) (tS S 26 T) L := by
  have h := c_isQuenched d tb26 (tS S 26 T) L
  rw [(tr_o S T).2.2.2.1, tS_3] at h
  exact h
def pcn (k : Nat) : Nat := k % 2 + k / 2 % 2 + k / 4 % 2 + k / 8 % 2 + k / 16 % 2
def bc1 (x : Int32) : Int32 := x - ((x.toUInt32 >>> (Int32.toUInt32 1 &&& Int32.toUInt32 31)).toInt32 &&& 1431655765)
def bc2 (x : Int32) : Int32 := (x &&& 858993459) + ((x.toUInt32 >>> (Int32.toUInt32 2 &&& Int32.toUInt32 31)).toInt32 &&& 858993459)
def bc3 (x : Int32) : Int32 := (x + (x.toUInt32 >>> (Int32.toUInt32 4 &&& Int32.toUInt32 31)).toInt32) &&& 252645135
def bc4 (x : Int32) : Int32 := x + (x.toUInt32 >>> (Int32.toUInt32 8 &&& Int32.toUInt32 31)).toInt32
def bc5 (x : Int32) : Int32 := x + (x.toUInt32 >>> (Int32.toUInt32 16 &&& Int32.toUInt32 31)).toInt32
theorem bc_all : ∀ k, k < 32 → bc5 (bc4 (bc3 (bc2 (bc1 (nI k))))) &&& 63 = nI (pcn k) := by decide +kernel
set_option maxRecDepth 10000 in
theorem c_bitCount (d : Nat) {k : Nat} (hk : k < 32) (S : gx_S) (L : gx_L) : Cf d mJ6_bitCount_0f7a4 [.int (nI k)] S L (nI (pcn k)) S L := by
  refine ct_intro (loc := [some (.int (nI k))]) (by decide) (Nat.le_of_ble_eq_true rfl) rfl ?_
  refine ev_ild0 dJ6_bitCount_0f7a4_0 ?_
  refine ev_ild0 dJ6_bitCount_0f7a4_1 ?_
  refine ev_iconst (v := 1) dJ6_bitCount_0f7a4_2 (by decide) ?_
  refine ev_iushr dJ6_bitCount_0f7a4_3 ?_
  refine ev_ldcw dJ6_bitCount_0f7a4_4 kc_J6_265 ?_
  refine ev_iand dJ6_bitCount_0f7a4_7 ?_
  refine ev_isub dJ6_bitCount_0f7a4_8 ?_
  refine ev_stk (st' := [.int (bc1 (nI k))]) rfl ?_
  refine ev_ist0 dJ6_bitCount_0f7a4_9 ?_
  refine ev_ild0 dJ6_bitCount_0f7a4_10 ?_
  refine ev_ldcw dJ6_bitCount_0f7a4_11 kc_J6_266 ?_
  refine ev_iand dJ6_bitCount_0f7a4_14 ?_
  refine ev_ild0 dJ6_bitCount_0f7a4_15 ?_
  refine ev_iconst (v := 2) dJ6_bitCount_0f7a4_16 (by decide) ?_
  refine ev_iushr dJ6_bitCount_0f7a4_17 ?_
  refine ev_ldcw dJ6_bitCount_0f7a4_18 kc_J6_266 ?_
  refine ev_iand dJ6_bitCount_0f7a4_21 ?_
  refine ev_iadd dJ6_bitCount_0f7a4_22 ?_
  refine ev_stk (st' := [.int (bc2 (bc1 (nI k)))]) rfl ?_
  refine ev_ist0 dJ6_bitCount_0f7a4_23 ?_
  refine ev_ild0 dJ6_bitCount_0f7a4_24 ?_
  refine ev_ild0 dJ6_bitCount_0f7a4_25 ?_
  refine ev_iconst (v := 4) dJ6_bitCount_0f7a4_26 (by decide) ?_
  refine ev_iushr dJ6_bitCount_0f7a4_27 ?_
  refine ev_iadd dJ6_bitCount_0f7a4_28 ?_
  refine ev_ldcw dJ6_bitCount_0f7a4_29 kc_J6_267 ?_
  refine ev_iand dJ6_bitCount_0f7a4_32 ?_
  refine ev_stk (st' := [.int (bc3 (bc2 (bc1 (nI k))))]) rfl ?_
  refine ev_ist0 dJ6_bitCount_0f7a4_33 ?_
  refine ev_ild0 dJ6_bitCount_0f7a4_34 ?_
  refine ev_ild0 dJ6_bitCount_0f7a4_35 ?_
  refine ev_bipush (v := 8) dJ6_bitCount_0f7a4_36 (by decide) ?_
  refine ev_iushr dJ6_bitCount_0f7a4_38 ?_
  refine ev_iadd dJ6_bitCount_0f7a4_39 ?_
  refine ev_stk (st' := [.int (bc4 (bc3 (bc2 (bc1 (nI k)))))]) rfl ?_
  refine ev_ist0 dJ6_bitCount_0f7a4_40 ?_
  refine ev_ild0 dJ6_bitCount_0f7a4_41 ?_
  refine ev_ild0 dJ6_bitCount_0f7a4_42 ?_
  refine ev_bipush (v := 16) dJ6_bitCount_0f7a4_43 (by decide) ?_
  refine ev_iushr dJ6_bitCount_0f7a4_45 ?_
  refine ev_iadd dJ6_bitCount_0f7a4_46 ?_
  refine ev_stk (st' := [.int (bc5 (bc4 (bc3 (bc2 (bc1 (nI k))))))]) rfl ?_
  refine ev_ist0 dJ6_bitCount_0f7a4_47 ?_
  refine ev_ild0 dJ6_bitCount_0f7a4_48 ?_
  refine ev_bipush (v := 63) dJ6_bitCount_0f7a4_49 (by decide) ?_
  refine ev_iand dJ6_bitCount_0f7a4_51 ?_
  refine ev_iret dJ6_bitCount_0f7a4_52 ?_
  exact ⟨_, rfl, bc_all k hk, rfl, rfl⟩
set_option maxRecDepth 10000 in
theorem c_taxesOf (d : Nat) (S : gx_S) (T : Tb) (hz : zT T) (hy : zT (tG S 18)) (so : Int32) (L : gx_L) : Cf (d + 4) mX1_taxesOf [.ref 42, .int so] (tS S 26 T) L (p_taxes (S 14) (S 12) (p_ev (S 16) (S 17) so (tG S 18))) (tS S 26 (p_ev (S 16) (S 17) so (tG S 18))) L := by
  refine ct_intro (loc := [some (.ref 42), some (.int so)]) (by decide) (Nat.le_of_ble_eq_true rfl) rfl ?_
  refine ev_ald0 dX1_taxesOf_0 ?_
  refine ev_getr (r := 26) dX1_taxesOf_1 fl_X1_19 rfl ?_
  refine ev_ald0 dX1_taxesOf_4 ?_
  refine ev_getr (r := 18) dX1_taxesOf_5 fl_X1_15 rfl ?_
  refine ev_V1v (M' := mX9_copyFrom) dX1_taxesOf_8 lk_X1_55 vX9_copyFrom rfl (c_copyT (d + 2) S T hz hy L) (Nat.le_refl _) (Nat.le_of_ble_eq_true rfl) ?_
  refine ev_ald0 dX1_taxesOf_11 ?_
  refine ev_getr (r := 26) dX1_taxesOf_12 fl_X1_19 rfl ?_
  refine ev_ild1 dX1_taxesOf_15 ?_
  refine ev_V1v (M' := mX9_passEvening) dX1_taxesOf_16 lk_X1_61 vX9_passEvening rfl (c_evT d S _ _ L) (Nat.le_refl _) (Nat.le_of_ble_eq_true rfl) ?_
  refine ev_ald0 dX1_taxesOf_19 ?_
  refine ev_getr (r := 26) dX1_taxesOf_20 fl_X1_19 rfl ?_
  refine ev_V0i (M' := mX9_taxes) dX1_taxesOf_23 lk_X1_65 vX9_taxes rfl (c_txT (d + 1) S _ L) (Nat.le_refl _) (Nat.le_of_ble_eq_true rfl) ?_
  refine ev_iret dX1_taxesOf_26 ?_
  exact ⟨_, rfl, rfl, rfl, rfl⟩
set_option maxRecDepth 10000 in
theorem c_isEnough (d : Nat) (S : gx_S) (T : Tb) (hz : zT T) (hy : zT (tG S 18)) (b : Int32) (L : gx_L) : Cf (d + 4) mX6_isEnough [.ref 39, .int b] (tS S 26 T) L (gx_b (allB (p_quN (S 16) (p_ev (S 16) (S 17) 15 (p_fillN (S 12) b (tG S 18) 5)).2.2.1) 4)) (tS S 26 (p_ev (S 16) (S 17) 15 (p_fillN (S 12) b (tG S 18) 5))) L := by
  refine ct_intro (loc := [some (.ref 39), some (.int b)]) (by decide) (Nat.le_of_ble_eq_true rfl) rfl ?_
  refine ev_ald0 dX6_isEnough_0 ?_
  refine ev_getr (r := 26) dX6_isEnough_1 fl_X6_26 rfl ?_
  refine ev_ald0 dX6_isEnough_4 ?_
  refine ev_getr (r := 18) dX6_isEnough_5 fl_X6_22 rfl ?_
  refine ev_V1v (M' := mX9_copyFrom) dX6_isEnough_8 lk_X6_71 vX9_copyFrom rfl (c_copyT (d + 2) S T hz hy L) (Nat.le_refl _) (Nat.le_of_ble_eq_true rfl) ?_
  refine ev_ald0 dX6_isEnough_11 ?_
  refine ev_getr (r := 26) dX6_isEnough_12 fl_X6_26 rfl ?_
  refine ev_ild1 dX6_isEnough_15 ?_
  refine ev_V1v (M' := mX9_fillOnly) dX6_isEnough_16 lk_X6_97 vX9_fillOnly rfl (c_fillT (d + 2) S _ _ L) (Nat.le_refl _) (Nat.le_of_ble_eq_true rfl) ?_
  refine ev_ald0 dX6_isEnough_19 ?_
  refine ev_getr (r := 26) dX6_isEnough_20 fl_X6_26 rfl ?_
  refine ev_bipush (v := 15) dX6_isEnough_23 (by decide) ?_
  refine ev_V1v (M' := mX9_passEvening) dX6_isEnough_25 lk_X6_78 vX9_passEvening rfl (c_evT d S _ _ L) (Nat.le_refl _) (Nat.le_of_ble_eq_true rfl) ?_
  refine ev_ald0 dX6_isEnough_28 ?_
  refine ev_getr (r := 26) dX6_isEnough_29 fl_X6_26 rfl ?_
  refine ev_V0i (M' := mX9_isQuenched) dX6_isEnough_32 lk_X6_100 vX9_isQuenched rfl (c_quT (d + 3) S _ L) (Nat.le_refl _) (Nat.le_of_ble_eq_true rfl) ?_
  refine ev_zret dX6_isEnough_35 ?_ ?_
  · exact gx_b_nar _
  · exact ⟨_, rfl, rfl, rfl, rfl⟩
