theorem lT {n : Nat} (h : n < 2 ^ 63) : (lN n).toInt = (n : Int) := lg_ofNat_toInt h
theorem lN_div {a b : Nat} (ha : a < 2 ^ 63) (hb : b < 2 ^ 63) : lN a / lN b = lN (a / b) := by
  apply Int64.toInt_inj.mp
  have hab : a / b ≤ a := Nat.div_le_self a b
  have ht : (a : Int).tdiv (b : Int) = ((a / b : Nat) : Int) := (Int.ofNat_tdiv a b).symm
  rw [Int64.toInt_div, lT ha, lT hb, lT (by omega), ht]
  generalize a / b = q at hab
  exact Int.bmod_eq_of_le (by omega) (by omega)
theorem lN_rem {a b : Nat} (ha : a < 2 ^ 63) (hb : b < 2 ^ 63) : lN a - lN a / lN b * lN b = lN (a % b) := by
  rw [lN_div ha hb, lN_mul, lN_sub (Nat.div_mul_le_self a b)]
  congr 1
  have := Nat.div_add_mod a b
  rw [Nat.mul_comm] at this
  omega
theorem lN_ltB {a b : Nat} (ha : a < 2 ^ 63) (hb : b < 2 ^ 63) : lN a < lN b ↔ a < b := by
  rw [Int64.lt_iff_toInt_lt, lT ha, lT hb]; omega
theorem lN_leB {a b : Nat} (ha : a < 2 ^ 63) (hb : b < 2 ^ 63) : lN a ≤ lN b ↔ a ≤ b := by
  rw [Int64.le_iff_toInt_le, lT ha, lT hb]; omega
theorem lN_of {x : Int64} (h : ¬ x < 0) : ∃ n, n < 2 ^ 63 ∧ x = lN n := by
  have h1 : 0 ≤ x.toInt := by
    by_cases h2 : x.toInt < 0
    · exact absurd (Int64.lt_iff_toInt_lt.mpr h2) h
    · omega
  have h3 : x.toInt < 2 ^ 63 := Int64.toInt_lt x
  refine ⟨x.toInt.toNat, by omega, Int64.toInt_inj.mp ?_⟩
  rw [lT (by omega)]
  omega
theorem lN_ne0 {n : Nat} (h : 0 < n) (hn : n < 2 ^ 63) : ¬ lN n = 0 := by
  intro e
  have := congrArg Int64.toInt e
  rw [lT hn, show (0 : Int64).toInt = 0 from rfl] at this
  omega
def lotI (s : Int64) : Int32 := ((s.toUInt64 >>> ((33 : Int32).toInt64.toUInt64 &&& Int64.toUInt64 63)).toInt64 - (s.toUInt64 >>> ((33 : Int32).toInt64.toUInt64 &&& Int64.toUInt64 63)).toInt64 / 24 * 24).toInt32
def lot (s : Int64) : Nat := s.toUInt64.toNat / 2 ^ 33 % 24
theorem lot_lt (s : Int64) : lot s < 24 := Nat.mod_lt _ (by decide)
theorem lot_eq (s : Int64) : lotI s = nI (lot s) := by
  unfold lotI
  have e0 : ((33 : Int32).toInt64.toUInt64 &&& Int64.toUInt64 63) = 33 := by decide +kernel
  rw [e0]
  have h1 : (s.toUInt64 >>> 33).toNat = s.toUInt64.toNat / 2 ^ 33 := by
    rw [UInt64.toNat_shiftRight]
    rw [show (33 : UInt64).toNat % 64 = 33 from rfl, Nat.shiftRight_eq_div_pow]
  have hlt : s.toUInt64.toNat < 2 ^ 64 := UInt64.toNat_lt _
  have h2 : (s.toUInt64 >>> 33).toInt64 = lN (s.toUInt64.toNat / 2 ^ 33) := by
    rw [← h1]
    apply Int64.toBitVec_inj.mp
    show (s.toUInt64 >>> 33).toBitVec = (Int64.ofNat (s.toUInt64 >>> 33).toNat).toBitVec
    rw [Int64.toBitVec_ofNat']
    apply BitVec.eq_of_toNat_eq
    rw [BitVec.toNat_ofNat]
    exact (Nat.mod_eq_of_lt (UInt64.toNat_lt _)).symm
  rw [h2, show (24 : Int64) = lN 24 from rfl, lN_rem (by omega) (by decide), lN_i]
  rfl
def p_hallN (gk : Nat → Int32) (T : Tb) : Nat → Tb
  | 0 => T
  | n + 1 => p_hourT gk (p_hallN gk T n)
theorem zT_hall {gk : Nat → Int32} {T : Tb} (h : zT T) : ∀ n, zT (p_hallN gk T n)
  | 0 => h
  | n + 1 => zT_hour (zT_hall h n)
theorem c_hourT (d : Nat) (S : gx_S) (T : Tb) (L : gx_L) : Cf (d + 3) mX9_passHour [.ref 26] (tS S 26 T) L (p_taxes (S 14) (S 12) (p_hourT (S 14) T)) (tS S 26 (p_hourT (S 14) T)) L := by
  have h := c_passHour d tb26 (tS S 26 T) L
  rw [(cpT S T).2, tS_tS, (tr_o S T).2.2.1, (tr_o S T).2.1] at h
  exact h
set_option maxRecDepth 10000 in
theorem l_hall (d : Nat) (S : gx_S) {k : Nat} (hk : k ≤ 9) (L : gx_L) {Q : Option Value → gx_S → gx_L → Prop}  (kk : Ev mX10_hall (d + 4) 45 [some (.ref 0), some (.int (nI k)), some (.int (nI (k)))] [] (tS S 26 (p_hallN (S 14) (tG S 18) (k))) L Q) : ∀ (nn i : Nat), i + nn = k → Ev mX10_hall (d + 4) 26 [some (.ref 0), some (.int (nI k)), some (.int (nI (i)))] [] (tS S 26 (p_hallN (S 14) (tG S 18) (i))) L Q := by
  intro nn
  induction nn with
  | zero =>
    intro i hi
    obtain rfl : i = k := hi
    refine ev_ild2 dX10_hall_26 ?_
    refine ev_ild1 dX10_hall_27 ?_
    refine ev_icmp_ge_t 45 dX10_hall_28 (by decide) (nI_le (Nat.le_refl _) (by omega)) ?_
    exact kk
  | succ nn ih =>
    intro i hi
    refine ev_ild2 dX10_hall_26 ?_
    refine ev_ild1 dX10_hall_27 ?_
    refine ev_icmp_ge_f 45 dX10_hall_28 (by decide) (nI_ge (by omega) (by omega)) ?_
    refine ev_ald0 dX10_hall_31 ?_
    refine ev_getr (r := 26) dX10_hall_32 fl_X10_45 rfl ?_
    refine ev_V0i (M' := mX9_passHour) dX10_hall_35 lk_X10_180 vX9_passHour rfl (c_hourT d S _ L) (Nat.le_refl _) (Nat.le_of_ble_eq_true rfl) ?_
    refine ev_popi dX10_hall_38 ?_
    refine ev_inc2 dX10_hall_39 (nI_inc _) ?_
    refine ev_goto 26 dX10_hall_42 (by decide) ?_
    exact ih (i + 1) (by omega)
set_option maxRecDepth 10000 in
theorem x_hall0 (d : Nat) (S : gx_S) {x : Int32} (hb : x < 0 ∨ 9 < x) (L : gx_L) : Cf d mX10_hall [.ref 0, .int x] S L (-2) S L := by
  refine ct_intro (loc := [some (.ref 0), some (.int x), none]) (by decide) (Nat.le_of_ble_eq_true rfl) rfl ?_
  refine ev_ild1 dX10_hall_0 ?_
  refine ev_if_lt 10 dX10_hall_1 (by decide) (fun c_1 => ?_) (fun c_1 => ?_)
  · refine ev_bipush (v := (-2)) dX10_hall_10 (by decide) ?_
    refine ev_iret dX10_hall_12 ?_
    exact ⟨_, rfl, rfl, rfl, rfl⟩
  · refine ev_ild1 dX10_hall_4 ?_
    refine ev_bipush (v := 9) dX10_hall_5 (by decide) ?_
    refine ev_icmp_le 13 dX10_hall_7 (by decide) (fun c_7 => ?_) (fun c_7 => ?_)
    · exact absurd hb (fun h9 => h9.elim c_1 (fun h9 => absurd c_7 (Int32.not_le.mpr h9)))
    · refine ev_bipush (v := (-2)) dX10_hall_10 (by decide) ?_
      refine ev_iret dX10_hall_12 ?_
      exact ⟨_, rfl, rfl, rfl, rfl⟩
set_option maxRecDepth 10000 in
theorem x_hall (d : Nat) (S : gx_S) {k : Nat} (hk : k ≤ 9) (z18 : zT (tG S 18)) (z22 : zT (tG S 22)) (z26 : zT (tG S 26)) (L : gx_L) : Cf (d + 4) mX10_hall [.ref 0, .int (nI k)] S L (p_taxes (S 14) (S 12) (p_hallN (S 14) (tG S 18) k)) (tS S 26 (p_hallN (S 14) (tG S 18) k)) L := by
  refine ct_intro (loc := [some (.ref 0), some (.int (nI k)), none]) (by decide) (Nat.le_of_ble_eq_true rfl) rfl ?_
  refine ev_ild1 dX10_hall_0 ?_
  refine ev_if_lt_f 10 dX10_hall_1 (by decide) (nI_pos (by omega)) ?_
  refine ev_ild1 dX10_hall_4 ?_
  refine ev_bipush (v := 9) dX10_hall_5 (by decide) ?_
  refine ev_icmp_le_t 13 dX10_hall_7 (by decide) (nI_le (b := 9) hk (by decide)) ?_
  refine ev_ald0 dX10_hall_13 ?_
  refine ev_getr (r := 26) dX10_hall_14 fl_X10_45 rfl ?_
  refine ev_ald0 dX10_hall_17 ?_
  refine ev_getr (r := 18) dX10_hall_18 fl_X10_38 rfl ?_
  refine ev_V1v (M' := mX9_copyFrom) dX10_hall_21 lk_X10_164 vX9_copyFrom rfl (k_copy (d + 2) S z18 z22 z26 L) (Nat.le_refl _) (Nat.le_of_ble_eq_true rfl) ?_
  refine ev_iconst (v := 0) dX10_hall_24 (by decide) ?_
  refine ev_ist2 dX10_hall_25 ?_
  refine l_hall d S hk L ?_ k 0 (Nat.zero_add _)
  refine ev_ald0 dX10_hall_45 ?_
  refine ev_getr (r := 26) dX10_hall_46 fl_X10_45 rfl ?_
  refine ev_V0i (M' := mX9_taxes) dX10_hall_49 lk_X10_196 vX9_taxes rfl (c_txT (d + 1) S _ L) (Nat.le_refl _) (Nat.le_of_ble_eq_true rfl) ?_
  refine ev_iret dX10_hall_52 ?_
  exact ⟨_, rfl, rfl, rfl, rfl⟩
def p_lcg (s : Int64) : Int64 := s * 6364136223846793005 + 1442695040888963407
def p_sd (s : Int64) : Nat → Int64
  | 0 => s
  | n + 1 => p_lcg (p_sd s n)
def p_nT (ng nd : Int32) (gk dk sb : Nat → Int32) (T : Tb) (s : Int64) : Nat → Tb
  | 0 => T
  | n + 1 => p_chance ng nd gk dk sb (p_nT ng nd gk dk sb T s n) (lot (p_sd s (n + 1)))
def p_nS (ng nd : Int32) (ms gk dk sb : Nat → Int32) (T : Tb) (s : Int64) : Nat → Int32
  | 0 => 0
  | n + 1 => p_nS ng nd ms gk dk sb T s n + p_taxes gk ms (p_nT ng nd gk dk sb T s (n + 1))
theorem uL_uL (L : gx_L) (k : Nat) (a b : Int64) : gx_uL (gx_uL L k a) k b = gx_uL L k b := by
  funext i
  unfold gx_uL
  split <;> rfl
theorem uL_self (L : gx_L) (k : Nat) : gx_uL L k (L k) = L := by
  funext i
  unfold gx_uL
  split
  · rename_i h; rw [h]
  · rfl
theorem c_chT (d : Nat) (S : gx_S) {ng : Nat} (hng : S 11 0 = nI ng) (h5 : ng ≤ 5) {nd : Nat} (hnd : S 11 1 = nI nd) (h4 : nd ≤ 4) (T : Tb) {k : Nat} (hk : k < 24) (L : gx_L) : Cw (d + 4) mX9_passChance [.ref 26, .int (nI k)] (tS S 26 T) L (tS S 26 (p_chance (S 11 0) (S 11 1) (S 14) (S 16) (S 17) T k)) L := by
  have h := c_passChance d tb26 (tS S 26 T) (by rw [(tr_o S T).1]; exact hng) h5 (by rw [(tr_o S T).1]; exact hnd) h4 hk L
  rw [(cpT S T).2, tS_tS, (tr_o S T).1, (tr_o S T).2.2.1, (tr_o S T).2.2.2.1, (tr_o S T).2.2.2.2] at h
  exact h
set_option maxRecDepth 10000 in
theorem l_nights (d : Nat) (S : gx_S) {ng : Nat} (hng : S 11 0 = nI ng) (h5 : ng ≤ 5) {nd : Nat} (hnd : S 11 1 = nI nd) (h4 : nd ≤ 4) {k : Nat} (hk : k ≤ 30) (L : gx_L) {Q : Option Value → gx_S → gx_L → Prop}  (kk : Ev mX10_nights (d + 5) 85 [some (.ref 0), some (.int (nI k)), some (.int (p_nS (S 11 0) (S 11 1) (S 12) (S 14) (S 16) (S 17) (tG S 18) (L 0) (k))), some (.int (nI (k)))] [] (tS S 26 (p_nT (S 11 0) (S 11 1) (S 14) (S 16) (S 17) (tG S 18) (L 0) (k))) (gx_uL L 0 (p_sd (L 0) (k))) Q) : ∀ (nn i : Nat), i + nn = k → Ev mX10_nights (d + 5) 29 [some (.ref 0), some (.int (nI k)), some (.int (p_nS (S 11 0) (S 11 1) (S 12) (S 14) (S 16) (S 17) (tG S 18) (L 0) (i))), some (.int (nI (i)))] [] (tS S 26 (p_nT (S 11 0) (S 11 1) (S 14) (S 16) (S 17) (tG S 18) (L 0) (i))) (gx_uL L 0 (p_sd (L 0) (i))) Q := by
  intro nn
  induction nn with
  | zero =>
    intro i hi
    obtain rfl : i = k := hi
    refine ev_ild3 dX10_nights_29 ?_
    refine ev_ild1 dX10_nights_30 ?_
    refine ev_icmp_ge_t 85 dX10_nights_31 (by decide) (nI_le (Nat.le_refl _) (by omega)) ?_
    exact kk
  | succ nn ih =>
    intro i hi
    refine ev_ild3 dX10_nights_29 ?_
    refine ev_ild1 dX10_nights_30 ?_
    refine ev_icmp_ge_f 85 dX10_nights_31 (by decide) (nI_ge (by omega) (by omega)) ?_
    refine ev_ald0 dX10_nights_34 ?_
    refine ev_ald0 dX10_nights_35 ?_
    refine ev_getl dX10_nights_36 fl_X10_255 rfl ?_
    rw [gx_uL_at]
    refine ev_ldc2 dX10_nights_39 kc_X10_259 ?_
    refine ev_lmul dX10_nights_42 ?_
    refine ev_ldc2 dX10_nights_43 kc_X10_261 ?_
    refine ev_ladd dX10_nights_46 ?_
    refine ev_putl hone0 dX10_nights_47 fp_X10_255 rfl ?_
    rw [uL_uL]
    refine ev_ald0 dX10_nights_50 ?_
    refine ev_getr (r := 26) dX10_nights_51 fl_X10_45 rfl ?_
    refine ev_ald0 dX10_nights_54 ?_
    refine ev_getl dX10_nights_55 fl_X10_255 rfl ?_
    rw [gx_uL_at]
    refine ev_bipush (v := 33) dX10_nights_58 (by decide) ?_
    refine ev_lushr dX10_nights_60 ?_
    refine ev_ldc2 dX10_nights_61 kc_X10_263 ?_
    refine ev_lrem dX10_nights_64 (by decide) ?_
    refine ev_l2i dX10_nights_65 ?_
    refine ev_stk (st' := [.int (lotI (p_sd (L 0) (i + 1))), .ref 26]) rfl ?_
    rw [lot_eq]
    refine ev_V1v (M' := mX9_passChance) dX10_nights_66 lk_X10_265 vX9_passChance rfl (c_chT d S hng h5 hnd h4 _ (lot_lt _) _) (Nat.le_refl _) (Nat.le_of_ble_eq_true rfl) ?_
    refine ev_ild2 dX10_nights_69 ?_
    refine ev_ald0 dX10_nights_70 ?_
    refine ev_getr (r := 26) dX10_nights_71 fl_X10_45 rfl ?_
    refine ev_V0i (M' := mX9_taxes) dX10_nights_74 lk_X10_196 vX9_taxes rfl (c_txT (d + 2) S _ _) (Nat.le_refl _) (Nat.le_of_ble_eq_true rfl) ?_
    refine ev_iadd dX10_nights_77 ?_
    refine ev_ist2 dX10_nights_78 ?_
    refine ev_inc3 dX10_nights_79 (nI_inc _) ?_
    refine ev_goto 29 dX10_nights_82 (by decide) ?_
    exact ih (i + 1) (by omega)
set_option maxRecDepth 10000 in
theorem x_nights0 (d : Nat) (S : gx_S) {x : Int32} (hb : x < 1 ∨ 30 < x) (L : gx_L) : Cf d mX10_nights [.ref 0, .int x] S L (-2) S L := by
  refine ct_intro (loc := [some (.ref 0), some (.int x), none, none]) (by decide) (Nat.le_of_ble_eq_true rfl) rfl ?_
  refine ev_ild1 dX10_nights_0 ?_
  refine ev_iconst (v := 1) dX10_nights_1 (by decide) ?_
  refine ev_icmp_lt 11 dX10_nights_2 (by decide) (fun c_2 => ?_) (fun c_2 => ?_)
  · refine ev_bipush (v := (-2)) dX10_nights_11 (by decide) ?_
    refine ev_iret dX10_nights_13 ?_
    exact ⟨_, rfl, rfl, rfl, rfl⟩
  · refine ev_ild1 dX10_nights_5 ?_
    refine ev_bipush (v := 30) dX10_nights_6 (by decide) ?_
    refine ev_icmp_le 14 dX10_nights_8 (by decide) (fun c_8 => ?_) (fun c_8 => ?_)
    · exact absurd hb (fun h9 => h9.elim c_2 (fun h9 => absurd c_8 (Int32.not_le.mpr h9)))
    · refine ev_bipush (v := (-2)) dX10_nights_11 (by decide) ?_
      refine ev_iret dX10_nights_13 ?_
      exact ⟨_, rfl, rfl, rfl, rfl⟩
set_option maxRecDepth 10000 in
theorem x_nights (d : Nat) (S : gx_S) {ng : Nat} (hng : S 11 0 = nI ng) (h5 : ng ≤ 5) {nd : Nat} (hnd : S 11 1 = nI nd) (h4 : nd ≤ 4) {k : Nat} (hk1 : 1 ≤ k) (hk : k ≤ 30) (z18 : zT (tG S 18)) (z22 : zT (tG S 22)) (z26 : zT (tG S 26)) (L : gx_L) : Cf (d + 5) mX10_nights [.ref 0, .int (nI k)] S L (p_nS (S 11 0) (S 11 1) (S 12) (S 14) (S 16) (S 17) (tG S 18) (L 0) (k)) (tS S 26 (p_nT (S 11 0) (S 11 1) (S 14) (S 16) (S 17) (tG S 18) (L 0) (k))) (gx_uL L 0 (p_sd (L 0) k)) := by
  refine ct_intro (loc := [some (.ref 0), some (.int (nI k)), none, none]) (by decide) (Nat.le_of_ble_eq_true rfl) rfl ?_
  refine ev_ild1 dX10_nights_0 ?_
  refine ev_iconst (v := 1) dX10_nights_1 (by decide) ?_
  refine ev_icmp_lt_f 11 dX10_nights_2 (by decide) (nI_nlt (b := 1) hk1 (by omega)) ?_
  refine ev_ild1 dX10_nights_5 ?_
  refine ev_bipush (v := 30) dX10_nights_6 (by decide) ?_
  refine ev_icmp_le_t 14 dX10_nights_8 (by decide) (nI_le (b := 30) hk (by decide)) ?_
  refine ev_ald0 dX10_nights_14 ?_
  refine ev_getr (r := 26) dX10_nights_15 fl_X10_45 rfl ?_
  refine ev_ald0 dX10_nights_18 ?_
  refine ev_getr (r := 18) dX10_nights_19 fl_X10_38 rfl ?_
  refine ev_V1v (M' := mX9_copyFrom) dX10_nights_22 lk_X10_164 vX9_copyFrom rfl (k_copy (d + 3) S z18 z22 z26 L) (Nat.le_refl _) (Nat.le_of_ble_eq_true rfl) ?_
  refine ev_iconst (v := 0) dX10_nights_25 (by decide) ?_
  refine ev_ist2 dX10_nights_26 ?_
  refine ev_iconst (v := 0) dX10_nights_27 (by decide) ?_
  refine ev_ist3 dX10_nights_28 ?_
  have l9 := l_nights d S hng h5 hnd h4 hk L (Q := fun v S1 L1 => ∃ r : Int32, v = some (.int r) ∧ r = (p_nS (S 11 0) (S 11 1) (S 12) (S 14) (S 16) (S 17) (tG S 18) (L 0) (k)) ∧ S1 = tS S 26 (p_nT (S 11 0) (S 11 1) (S 14) (S 16) (S 17) (tG S 18) (L 0) (k)) ∧ L1 = gx_uL L 0 (p_sd (L 0) k)) ?_ k 0 (Nat.zero_add _)
  · rw [show gx_uL L 0 (p_sd (L 0) 0) = L from uL_self L 0] at l9
    exact l9
  · refine ev_ild2 dX10_nights_85 ?_
    refine ev_iret dX10_nights_86 ?_
    exact ⟨_, rfl, rfl, rfl, rfl⟩
