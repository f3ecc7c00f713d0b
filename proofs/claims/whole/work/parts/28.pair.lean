set_option maxRecDepth 10000 in
theorem c_seenAdd (d : Nat) (S : gx_S) {n : Nat} (hn : S 35 3 = nI n) (h6 : n ≤ 6) (x y z : Int32) (L : gx_L) : Cf d mX7_add [.ref 35, .int x, .int y, .int z] S L (if n < 6 then nI (n + 1) else -4) (if n < 6 then gx_u2 (gx_u2 (gx_u2 (gx_u2 S 36 n x) 37 n y) 38 n z) 35 3 (nI (n + 1)) else S) L := by
  refine ct_intro (loc := [some (.ref 35), some (.int x), some (.int y), some (.int z)]) (by decide) (Nat.le_of_ble_eq_true rfl) rfl ?_
  refine ev_ald0 dX7_add_0 ?_
  refine ev_geti dX7_add_1 fl_X7_21 rfl ?_
  refine ev_bipush (v := 6) dX7_add_4 (by decide) ?_
  refine ev_icmp_lt 12 dX7_add_6 (by decide) (fun c_6 => ?_) (fun c_6 => ?_)
  · have hlt : n < 6 := (nI_ltI (b := 6) (by omega) (by decide)).mp (hn ▸ c_6)
    have g1 : gx_u2 S 36 n x 35 3 = nI n := by rw [u2_o S n x (by decide)]; exact hn
    have g2 : gx_u2 (gx_u2 S 36 n x) 37 n y 35 3 = nI n := by rw [u2_o _ n y (by decide)]; exact g1
    have g3 : gx_u2 (gx_u2 (gx_u2 S 36 n x) 37 n y) 38 n z 35 3 = nI n := by rw [u2_o _ n z (by decide)]; exact g2
    refine ev_ald0 dX7_add_12 ?_
    refine ev_getr (r := 36) dX7_add_13 fl_X7_9 rfl ?_
    refine ev_ald0 dX7_add_16 ?_
    refine ev_geti dX7_add_17 fl_X7_21 rfl ?_
    refine ev_ild1 dX7_add_20 ?_
    refine ev_iast2 (j := n) dX7_add_21 rfl hn (by omega) (by first | decide | omega) ?_
    refine ev_ald0 dX7_add_22 ?_
    refine ev_getr (r := 37) dX7_add_23 fl_X7_15 rfl ?_
    refine ev_ald0 dX7_add_26 ?_
    refine ev_geti dX7_add_27 fl_X7_21 rfl ?_
    refine ev_ild2 dX7_add_30 ?_
    refine ev_iast2 (j := n) dX7_add_31 rfl g1 (by omega) (by first | decide | omega) ?_
    refine ev_ald0 dX7_add_32 ?_
    refine ev_getr (r := 38) dX7_add_33 fl_X7_18 rfl ?_
    refine ev_ald0 dX7_add_36 ?_
    refine ev_geti dX7_add_37 fl_X7_21 rfl ?_
    refine ev_ild3 dX7_add_40 ?_
    refine ev_iast2 (j := n) dX7_add_41 rfl g2 (by omega) (by first | decide | omega) ?_
    refine ev_ald0 dX7_add_42 ?_
    refine ev_dupr dX7_add_43 ?_
    refine ev_geti dX7_add_44 fl_X7_21 rfl ?_
    refine ev_iconst (v := 1) dX7_add_47 (by decide) ?_
    refine ev_iadd dX7_add_48 ?_
    refine ev_puti dX7_add_49 fp_X7_21 rfl ?_
    rw [g3, nI_1]
    refine ev_ald0 dX7_add_52 ?_
    refine ev_geti dX7_add_53 fl_X7_21 rfl ?_
    refine ev_iret dX7_add_56 ?_
    exact ⟨_, rfl, by rw [if_pos hlt, u2_at], by rw [if_pos hlt], rfl⟩
  · have hlt : ¬ n < 6 := fun h9 => c_6 (by rw [hn]; exact nI_lt (b := 6) h9 (by decide))
    refine ev_bipush (v := (-4)) dX7_add_9 (by decide) ?_
    refine ev_iret dX7_add_11 ?_
    exact ⟨_, rfl, by rw [if_neg hlt], by rw [if_neg hlt], rfl⟩
def p_fit (ofs was is : Nat → Int32) (dr kind th : Int32) (i : Nat) : Bool := if ofs i = dr then (if was i - p_gulp kind th (was i) = is i then true else false) else true
set_option maxRecDepth 10000 in
theorem c_fits (d : Nat) (S : gx_S) {n : Nat} (hn : S 35 3 = nI n) (h6 : n ≤ 6) (x y z : Int32) (L : gx_L) : Cf (d + 1) mX7_fits [.ref 35, .int x, .int y, .int z] S L (gx_b (allB (p_fit (S 36) (S 37) (S 38) x y z) n)) S L := by
  refine ct_intro (loc := [some (.ref 35), some (.int x), some (.int y), some (.int z), none]) (by decide) (Nat.le_of_ble_eq_true rfl) rfl ?_
  refine ev_iconst (v := 0) dX7_fits_0 (by decide) ?_
  refine ev_ist4 dX7_fits_1 ?_
  have loop : ∀ (nn i : Nat), i + nn = n → (∀ k, k < i → (p_fit (S 36) (S 37) (S 38) x y z) k = true) → Ev mX7_fits (d + 1) 3 [some (.ref 35), some (.int x), some (.int y), some (.int z), some (.int (nI i))] [] S L (fun v S' L' => ∃ r : Int32, v = some (.int r) ∧ r = gx_b (allB (p_fit (S 36) (S 37) (S 38) x y z) n) ∧ S' = S ∧ L' = L) := by
    intro nn
    induction nn with
    | zero =>
      intro i hi hall
      obtain rfl : i = n := hi
      refine ev_ild4 dX7_fits_3 ?_
      refine ev_ald0 dX7_fits_5 ?_
      refine ev_geti dX7_fits_6 fl_X7_21 rfl ?_
      refine ev_icmp_ge_t 68 dX7_fits_9 (by decide) (by rw [hn]; exact nI_le (Nat.le_refl _) (by omega)) ?_
      refine ev_iconst (v := 1) dX7_fits_68 (by decide) ?_
      refine ev_zret dX7_fits_69 ?_ ?_
      · rfl
      · exact ⟨_, rfl, by rw [allB_t hall]; rfl, rfl, rfl⟩
    | succ nn ih =>
      intro i hi hall
      refine ev_ild4 dX7_fits_3 ?_
      refine ev_ald0 dX7_fits_5 ?_
      refine ev_geti dX7_fits_6 fl_X7_21 rfl ?_
      refine ev_icmp_ge_f 68 dX7_fits_9 (by decide) (by rw [hn]; exact nI_ge (by omega) (by omega)) ?_
      refine ev_ild4 dX7_fits_12 ?_
      refine ev_bipush (v := 6) dX7_fits_14 (by decide) ?_
      refine ev_icmp_ge_f 68 dX7_fits_16 (by decide) (nI_ge (b := 6) (by omega) (by decide)) ?_
      refine ev_ald0 dX7_fits_19 ?_
      refine ev_getr (r := 36) dX7_fits_20 fl_X7_9 rfl ?_
      refine ev_ild4 dX7_fits_23 ?_
      refine ev_iald' dX7_fits_25 rfl (by omega) (by decide) ?_
      refine ev_ild1 dX7_fits_26 ?_
      refine ev_icmp_ne 62 dX7_fits_27 (by decide) (fun c_27 => ?_) (fun c_27 => ?_)
      · refine ev_inc4 dX7_fits_62 (nI_inc _) ?_
        refine ev_goto 3 dX7_fits_65 (by decide) ?_
        exact ih (i + 1) (by omega) (fun k hk => by
          rcases Nat.lt_or_ge k i with h9 | h9
          · exact hall k h9
          · obtain rfl : k = i := by omega
            exact if_neg c_27)
      · refine ev_ald0 dX7_fits_30 ?_
        refine ev_getr (r := 37) dX7_fits_31 fl_X7_15 rfl ?_
        refine ev_ild4 dX7_fits_34 ?_
        refine ev_iald' dX7_fits_36 rfl (by omega) (by decide) ?_
        refine ev_ild2 dX7_fits_37 ?_
        refine ev_ild3 dX7_fits_38 ?_
        refine ev_ald0 dX7_fits_39 ?_
        refine ev_getr (r := 37) dX7_fits_40 fl_X7_15 rfl ?_
        refine ev_ild4 dX7_fits_43 ?_
        refine ev_iald' dX7_fits_45 rfl (by omega) (by decide) ?_
        refine ev_S3i (M' := mX10_gulp) dX7_fits_46 lk_X7_29 sX10_gulp (c_gulp d _ _ _ _ _) (Nat.le_refl _) (Nat.le_of_ble_eq_true rfl) ?_
        refine ev_isub dX7_fits_49 ?_
        refine ev_ald0 dX7_fits_50 ?_
        refine ev_getr (r := 38) dX7_fits_51 fl_X7_18 rfl ?_
        refine ev_ild4 dX7_fits_54 ?_
        refine ev_iald' dX7_fits_56 rfl (by omega) (by decide) ?_
        refine ev_icmp_eq 62 dX7_fits_57 (by decide) (fun c_57 => ?_) (fun c_57 => ?_)
        · refine ev_inc4 dX7_fits_62 (nI_inc _) ?_
          refine ev_goto 3 dX7_fits_65 (by decide) ?_
          exact ih (i + 1) (by omega) (fun k hk => by
            rcases Nat.lt_or_ge k i with h9 | h9
            · exact hall k h9
            · obtain rfl : k = i := by omega
              exact (if_pos c_27).trans (if_pos c_57))
        · refine ev_iconst (v := 0) dX7_fits_60 (by decide) ?_
          refine ev_zret dX7_fits_61 ?_ ?_
          · rfl
          · exact ⟨_, rfl, by rw [allB_f (i := i) ((if_pos c_27).trans (if_neg c_57)) (by omega)]; rfl, rfl, rfl⟩
  exact loop n 0 (Nat.zero_add _) (fun k hk => absurd hk (by omega))
def p_thsN (ofs was is : Nat → Int32) (dr kind : Int32) (n : Nat) : Nat → Int32
  | 0 => 0
  | m + 1 => if allB (p_fit ofs was is dr kind (nI m)) n = true then p_thsN ofs was is dr kind n m ||| (1 : Int32) <<< (nI m &&& 31) else p_thsN ofs was is dr kind n m
set_option maxRecDepth 10000 in
theorem l_ths (d : Nat) (S : gx_S) {n : Nat} (hn : S 35 3 = nI n) (h6 : n ≤ 6) (x y : Int32) (L : gx_L) {Q : Option Value → gx_S → gx_L → Prop}  (kk : Ev mX7_thirstsOf (d + 2) 36 [some (.ref 35), some (.int x), some (.int y), some (.int (p_thsN (S 36) (S 37) (S 38) x y n (10))), some (.int (nI (10)))] [] (S) L Q) : ∀ (nn i : Nat), i + nn = 10 → Ev mX7_thirstsOf (d + 2) 5 [some (.ref 35), some (.int x), some (.int y), some (.int (p_thsN (S 36) (S 37) (S 38) x y n (i))), some (.int (nI (i)))] [] (S) L Q := by
  intro nn
  induction nn with
  | zero =>
    intro i hi
    obtain rfl : i = 10 := hi
    refine ev_ild4 dX7_thirstsOf_5 ?_
    refine ev_bipush (v := 9) dX7_thirstsOf_7 (by decide) ?_
    refine ev_icmp_gt_t 36 dX7_thirstsOf_9 (by decide) (by decide) ?_
    exact kk
  | succ nn ih =>
    intro i hi
    refine ev_ild4 dX7_thirstsOf_5 ?_
    refine ev_bipush (v := 9) dX7_thirstsOf_7 (by decide) ?_
    refine ev_icmp_gt_f 36 dX7_thirstsOf_9 (by decide) (nI_nlt (a := 9) (by omega) (by decide)) ?_
    refine ev_ald0 dX7_thirstsOf_12 ?_
    refine ev_ild1 dX7_thirstsOf_13 ?_
    refine ev_ild2 dX7_thirstsOf_14 ?_
    refine ev_ild4 dX7_thirstsOf_15 ?_
    refine ev_V3i (M' := mX7_fits) dX7_thirstsOf_17 lk_X7_25 vX7_fits rfl (c_fits d S hn h6 _ _ _ L) (Nat.le_refl _) (Nat.le_of_ble_eq_true rfl) ?_
    refine ev_if_eq 30 dX7_thirstsOf_20 (by decide) (fun c_20 => ?_) (fun c_20 => ?_)
    · have b_20 := gx_b_n.mp c_20
      refine ev_inc4 dX7_thirstsOf_30 (nI_inc _) ?_
      refine ev_goto 5 dX7_thirstsOf_33 (by decide) ?_
      have e := ih (i + 1) (by omega)
      simp only [p_thsN, if_neg b_20, ite_self] at e
      exact e
    · have b_20 := gx_b_y.mp c_20
      refine ev_ild3 dX7_thirstsOf_23 ?_
      refine ev_iconst (v := 1) dX7_thirstsOf_24 (by decide) ?_
      refine ev_ild4 dX7_thirstsOf_25 ?_
      refine ev_ishl dX7_thirstsOf_27 ?_
      refine ev_ior dX7_thirstsOf_28 ?_
      refine ev_ist3 dX7_thirstsOf_29 ?_
      refine ev_inc4 dX7_thirstsOf_30 (nI_inc _) ?_
      refine ev_goto 5 dX7_thirstsOf_33 (by decide) ?_
      have e := ih (i + 1) (by omega)
      simp only [p_thsN, if_pos b_20, ite_self] at e
      exact e
set_option maxRecDepth 10000 in
theorem c_thirstsOf (d : Nat) (S : gx_S) {n : Nat} (hn : S 35 3 = nI n) (h6 : n ≤ 6) (x y : Int32) (L : gx_L) : Cf (d + 2) mX7_thirstsOf [.ref 35, .int x, .int y] S L (p_thsN (S 36) (S 37) (S 38) x y n 10) S L := by
  refine ct_intro (loc := [some (.ref 35), some (.int x), some (.int y), none, none]) (by decide) (Nat.le_of_ble_eq_true rfl) rfl ?_
  refine ev_iconst (v := 0) dX7_thirstsOf_0 (by decide) ?_
  refine ev_ist3 dX7_thirstsOf_1 ?_
  refine ev_iconst (v := 0) dX7_thirstsOf_2 (by decide) ?_
  refine ev_ist4 dX7_thirstsOf_3 ?_
  refine l_ths d S hn h6 x y L ?_ 10 0 rfl
  refine ev_ild3 dX7_thirstsOf_36 ?_
  refine ev_iret dX7_thirstsOf_37 ?_
  exact ⟨_, rfl, rfl, rfl, rfl⟩
def p_oneHas (dk : Nat → Int32) (T : Tb) (a g h : Nat) : Int32 := if g = h then p_sw dk T a g - 1 else p_sw dk T a g
def p_otherHas (dk : Nat → Int32) (T : Tb) (a b g h : Nat) : Int32 := if g = h then p_gulp (dk b) (T.2.2.1 b) (T.1 h - p_sw dk T a g) - 1 else p_gulp (dk b) (T.2.2.1 b) (T.1 h)
def p_rest1 (dk sb : Nat → Int32) (T : Tb) (a b g h k : Nat) : Bool := if bt (sb a) k = true then (if p_oneHas dk T a k h ≤ p_oneHas dk T a g h then (if bt (sb b) k = true then (if p_otherHas dk T a b g k ≤ p_otherHas dk T a b g h then true else false) else true) else false) else (if bt (sb b) k = true then (if p_otherHas dk T a b g k ≤ p_otherHas dk T a b g h then true else false) else true)
set_option maxRecDepth 10000 in
theorem c_oneHas (d : Nat) (S : gx_S) {a b : Nat} (ha : S 43 2 = nI a) (hb : S 43 3 = nI b) (ha4 : a < 4) (hb4 : b < 4) {g h : Nat} (hg : g < 5) (hh : h < 5) (L : gx_L) : Cf (d + 1) mX4_oneHas [.ref 43, .int (nI g), .int (nI h)] S L (p_oneHas (S 16) (tG S 18) a g h) S L := by
  refine ct_intro (loc := [some (.ref 43), some (.int (nI g)), some (.int (nI h)), none]) (by decide) (Nat.le_of_ble_eq_true rfl) rfl ?_
  refine ev_ald0 dX4_oneHas_0 ?_
  refine ev_getr (r := 11) dX4_oneHas_1 fl_X4_9 rfl ?_
  refine ev_getr (r := 16) dX4_oneHas_4 fl_X4_48 rfl ?_
  refine ev_ald0 dX4_oneHas_7 ?_
  refine ev_geti dX4_oneHas_8 fl_X4_19 rfl ?_
  refine ev_iald2 (j := a) dX4_oneHas_11 rfl ha (by omega) (by first | decide | omega) ?_
  refine ev_ald0 dX4_oneHas_12 ?_
  refine ev_getr (r := 18) dX4_oneHas_13 fl_X4_15 rfl ?_
  refine ev_getr (r := 21) dX4_oneHas_16 fl_X4_52 rfl ?_
  refine ev_ald0 dX4_oneHas_19 ?_
  refine ev_geti dX4_oneHas_20 fl_X4_19 rfl ?_
  refine ev_iald2 (j := a) dX4_oneHas_23 rfl ha (by omega) (by first | decide | omega) ?_
  refine ev_ald0 dX4_oneHas_24 ?_
  refine ev_getr (r := 18) dX4_oneHas_25 fl_X4_15 rfl ?_
  refine ev_getr (r := 19) dX4_oneHas_28 fl_X4_57 rfl ?_
  refine ev_ild1 dX4_oneHas_31 ?_
  refine ev_iald' dX4_oneHas_32 rfl (by omega) (by decide) ?_
  refine ev_S3i (M' := mX10_gulp) dX4_oneHas_33 lk_X4_60 sX10_gulp (c_gulp d _ _ _ _ _) (Nat.le_refl _) (Nat.le_of_ble_eq_true rfl) ?_
  refine ev_ist3 dX4_oneHas_36 ?_
  refine ev_ild1 dX4_oneHas_37 ?_
  refine ev_ild2 dX4_oneHas_38 ?_
  refine ev_icmp_ne 48 dX4_oneHas_39 (by decide) (fun c_39 => ?_) (fun c_39 => ?_)
  · refine ev_ild3 dX4_oneHas_48 ?_
    refine ev_iret dX4_oneHas_49 ?_
    exact ⟨_, rfl, (if_neg (fun h9 => c_39 (by rw [h9]))).symm, rfl, rfl⟩
  · refine ev_ild3 dX4_oneHas_42 ?_
    refine ev_iconst (v := 1) dX4_oneHas_43 (by decide) ?_
    refine ev_isub dX4_oneHas_44 ?_
    refine ev_goto 49 dX4_oneHas_45 (by decide) ?_
    refine ev_iret dX4_oneHas_49 ?_
    exact ⟨_, rfl, (if_pos ((nI_eq (by omega) (by omega)).mp c_39)).symm, rfl, rfl⟩
set_option maxRecDepth 10000 in
theorem c_otherHas (d : Nat) (S : gx_S) {a b : Nat} (ha : S 43 2 = nI a) (hb : S 43 3 = nI b) (ha4 : a < 4) (hb4 : b < 4) {g h : Nat} (hg : g < 5) (hh : h < 5) (L : gx_L) : Cf (d + 1) mX4_otherHas [.ref 43, .int (nI g), .int (nI h)] S L (p_otherHas (S 16) (tG S 18) a b g h) S L := by
  refine ct_intro (loc := [some (.ref 43), some (.int (nI g)), some (.int (nI h)), none, none, none]) (by decide) (Nat.le_of_ble_eq_true rfl) rfl ?_
  refine ev_ald0 dX4_otherHas_0 ?_
  refine ev_getr (r := 11) dX4_otherHas_1 fl_X4_9 rfl ?_
  refine ev_getr (r := 16) dX4_otherHas_4 fl_X4_48 rfl ?_
  refine ev_ald0 dX4_otherHas_7 ?_
  refine ev_geti dX4_otherHas_8 fl_X4_23 rfl ?_
  refine ev_iald2 (j := b) dX4_otherHas_11 rfl hb (by omega) (by first | decide | omega) ?_
  refine ev_ist3 dX4_otherHas_12 ?_
  refine ev_ald0 dX4_otherHas_13 ?_
  refine ev_getr (r := 18) dX4_otherHas_14 fl_X4_15 rfl ?_
  refine ev_getr (r := 21) dX4_otherHas_17 fl_X4_52 rfl ?_
  refine ev_ald0 dX4_otherHas_20 ?_
  refine ev_geti dX4_otherHas_21 fl_X4_23 rfl ?_
  refine ev_iald2 (j := b) dX4_otherHas_24 rfl hb (by omega) (by first | decide | omega) ?_
  refine ev_ist4 dX4_otherHas_25 ?_
  refine ev_ild1 dX4_otherHas_27 ?_
  refine ev_ild2 dX4_otherHas_28 ?_
  refine ev_icmp_eq 48 dX4_otherHas_29 (by decide) (fun c_29 => ?_) (fun c_29 => ?_)
  · refine ev_ald0 dX4_otherHas_48 ?_
    refine ev_getr (r := 11) dX4_otherHas_49 fl_X4_9 rfl ?_
    refine ev_getr (r := 16) dX4_otherHas_52 fl_X4_48 rfl ?_
    refine ev_ald0 dX4_otherHas_55 ?_
    refine ev_geti dX4_otherHas_56 fl_X4_19 rfl ?_
    refine ev_iald2 (j := a) dX4_otherHas_59 rfl ha (by omega) (by first | decide | omega) ?_
    refine ev_ald0 dX4_otherHas_60 ?_
    refine ev_getr (r := 18) dX4_otherHas_61 fl_X4_15 rfl ?_
    refine ev_getr (r := 21) dX4_otherHas_64 fl_X4_52 rfl ?_
    refine ev_ald0 dX4_otherHas_67 ?_
    refine ev_geti dX4_otherHas_68 fl_X4_19 rfl ?_
    refine ev_iald2 (j := a) dX4_otherHas_71 rfl ha (by omega) (by first | decide | omega) ?_
    refine ev_ald0 dX4_otherHas_72 ?_
    refine ev_getr (r := 18) dX4_otherHas_73 fl_X4_15 rfl ?_
    refine ev_getr (r := 19) dX4_otherHas_76 fl_X4_57 rfl ?_
    refine ev_ild1 dX4_otherHas_79 ?_
    refine ev_iald' dX4_otherHas_80 rfl (by omega) (by decide) ?_
    refine ev_S3i (M' := mX10_gulp) dX4_otherHas_81 lk_X4_60 sX10_gulp (c_gulp d _ _ _ _ _) (Nat.le_refl _) (Nat.le_of_ble_eq_true rfl) ?_
    refine ev_ist5 dX4_otherHas_84 ?_
    refine ev_ild3 dX4_otherHas_86 ?_
    refine ev_ild4 dX4_otherHas_87 ?_
    refine ev_ald0 dX4_otherHas_89 ?_
    refine ev_getr (r := 18) dX4_otherHas_90 fl_X4_15 rfl ?_
    refine ev_getr (r := 19) dX4_otherHas_93 fl_X4_57 rfl ?_
    refine ev_ild2 dX4_otherHas_96 ?_
    refine ev_iald' dX4_otherHas_97 rfl (by omega) (by decide) ?_
    refine ev_ild5 dX4_otherHas_98 ?_
    refine ev_isub dX4_otherHas_100 ?_
    refine ev_S3i (M' := mX10_gulp) dX4_otherHas_101 lk_X4_60 sX10_gulp (c_gulp d _ _ _ _ _) (Nat.le_refl _) (Nat.le_of_ble_eq_true rfl) ?_
    refine ev_iconst (v := 1) dX4_otherHas_104 (by decide) ?_
    refine ev_isub dX4_otherHas_105 ?_
    refine ev_iret dX4_otherHas_106 ?_
    exact ⟨_, rfl, (if_pos ((nI_eq (by omega) (by omega)).mp c_29)).symm, rfl, rfl⟩
  · refine ev_ild3 dX4_otherHas_32 ?_
    refine ev_ild4 dX4_otherHas_33 ?_
    refine ev_ald0 dX4_otherHas_35 ?_
    refine ev_getr (r := 18) dX4_otherHas_36 fl_X4_15 rfl ?_
    refine ev_getr (r := 19) dX4_otherHas_39 fl_X4_57 rfl ?_
    refine ev_ild2 dX4_otherHas_42 ?_
    refine ev_iald' dX4_otherHas_43 rfl (by omega) (by decide) ?_
    refine ev_S3i (M' := mX10_gulp) dX4_otherHas_44 lk_X4_60 sX10_gulp (c_gulp d _ _ _ _ _) (Nat.le_refl _) (Nat.le_of_ble_eq_true rfl) ?_
    refine ev_iret dX4_otherHas_47 ?_
    exact ⟨_, rfl, (if_neg (fun h9 => c_29 (by rw [h9]))).symm, rfl, rfl⟩
set_option maxRecDepth 10000 in
theorem c_isRest (d : Nat) (S : gx_S) {ng : Nat} (hng : S 11 0 = nI ng) (h5 : ng ≤ 5) {nd : Nat} (hnd : S 11 1 = nI nd) (h4 : nd ≤ 4) {a b : Nat} (ha : S 43 2 = nI a) (hb : S 43 3 = nI b) (had : a < nd) (hbd : b < nd) (hza : ∀ i, ng ≤ i → bt (S 17 a) i = false) (hzb : ∀ i, ng ≤ i → bt (S 17 b) i = false) {g h : Nat} (hg : g < 5) (hh : h < 5) (L : gx_L) : Cf (d + 2) mX4_isRest [.ref 43, .int (nI g), .int (nI h)] S L (gx_b (allB (p_rest1 (S 16) (S 17) (tG S 18) a b g h) 5)) S L := by
  refine ct_intro (loc := [some (.ref 43), some (.int (nI g)), some (.int (nI h)), none]) (by decide) (Nat.le_of_ble_eq_true rfl) rfl ?_
  refine ev_iconst (v := 0) dX4_isRest_0 (by decide) ?_
  refine ev_ist3 dX4_isRest_1 ?_
  have loop : ∀ (nn i : Nat), i + nn = 5 → (∀ k, k < i → (p_rest1 (S 16) (S 17) (tG S 18) a b g h) k = true) → Ev mX4_isRest (d + 2) 2 [some (.ref 43), some (.int (nI g)), some (.int (nI h)), some (.int (nI i))] [] S L (fun v S' L' => ∃ r : Int32, v = some (.int r) ∧ r = gx_b (allB (p_rest1 (S 16) (S 17) (tG S 18) a b g h) 5) ∧ S' = S ∧ L' = L) := by
    intro nn
    induction nn with
    | zero =>
      intro i hi hall
      obtain rfl : i = 5 := hi
      refine ev_ild3 dX4_isRest_2 ?_
      refine ev_iconst (v := 5) dX4_isRest_3 (by decide) ?_
      refine ev_icmp_ge_t 77 dX4_isRest_4 (by decide) (by decide) ?_
      refine ev_iconst (v := 1) dX4_isRest_77 (by decide) ?_
      refine ev_zret dX4_isRest_78 ?_ ?_
      · rfl
      · exact ⟨_, rfl, by rw [allB_t hall]; rfl, rfl, rfl⟩
    | succ nn ih =>
      intro i hi hall
      refine ev_ild3 dX4_isRest_2 ?_
      refine ev_iconst (v := 5) dX4_isRest_3 (by decide) ?_
      refine ev_icmp_ge_f 77 dX4_isRest_4 (by decide) (nI_ge (b := 5) (by omega) (by decide)) ?_
      refine ev_ald0 dX4_isRest_7 ?_
      refine ev_getr (r := 11) dX4_isRest_8 fl_X4_9 rfl ?_
      refine ev_ald0 dX4_isRest_11 ?_
      refine ev_geti dX4_isRest_12 fl_X4_19 rfl ?_
      rw [ha]
      refine ev_ild3 dX4_isRest_15 ?_
      refine ev_V2i (M' := mX2_sits) dX4_isRest_16 lk_X4_32 vX2_sits rfl (c_sitsB d S hng h5 hnd h4 had (by omega) (hza i) L) (Nat.le_refl _) (Nat.le_of_ble_eq_true rfl) ?_
      refine ev_if_eq 39 dX4_isRest_19 (by decide) (fun c_19 => ?_) (fun c_19 => ?_)
      · have b_19 := gx_b_n.mp c_19
        refine ev_ald0 dX4_isRest_39 ?_
        refine ev_getr (r := 11) dX4_isRest_40 fl_X4_9 rfl ?_
        refine ev_ald0 dX4_isRest_43 ?_
        refine ev_geti dX4_isRest_44 fl_X4_23 rfl ?_
        rw [hb]
        refine ev_ild3 dX4_isRest_47 ?_
        refine ev_V2i (M' := mX2_sits) dX4_isRest_48 lk_X4_32 vX2_sits rfl (c_sitsB d S hng h5 hnd h4 hbd (by omega) (hzb i) L) (Nat.le_refl _) (Nat.le_of_ble_eq_true rfl) ?_
        refine ev_if_eq 71 dX4_isRest_51 (by decide) (fun c_51 => ?_) (fun c_51 => ?_)
        · have b_51 := gx_b_n.mp c_51
          refine ev_inc3 dX4_isRest_71 (nI_inc _) ?_
          refine ev_goto 2 dX4_isRest_74 (by decide) ?_
          exact ih (i + 1) (by omega) (fun k hk => by
            rcases Nat.lt_or_ge k i with h9 | h9
            · exact hall k h9
            · obtain rfl : k = i := by omega
              exact (if_neg b_19).trans (if_neg b_51))
        · have b_51 := gx_b_y.mp c_51
          refine ev_ald0 dX4_isRest_54 ?_
          refine ev_ild1 dX4_isRest_55 ?_
          refine ev_ild3 dX4_isRest_56 ?_
          refine ev_V2i (M' := mX4_otherHas) dX4_isRest_57 lk_X4_45 vX4_otherHas rfl (c_otherHas d S ha hb (by omega) (by omega) (by omega) (by omega) L) (Nat.le_refl _) (Nat.le_of_ble_eq_true rfl) ?_
          refine ev_ald0 dX4_isRest_60 ?_
          refine ev_ild1 dX4_isRest_61 ?_
          refine ev_ild2 dX4_isRest_62 ?_
          refine ev_V2i (M' := mX4_otherHas) dX4_isRest_63 lk_X4_45 vX4_otherHas rfl (c_otherHas d S ha hb (by omega) (by omega) (by omega) (by omega) L) (Nat.le_refl _) (Nat.le_of_ble_eq_true rfl) ?_
          refine ev_icmp_le 71 dX4_isRest_66 (by decide) (fun c_66 => ?_) (fun c_66 => ?_)
          · refine ev_inc3 dX4_isRest_71 (nI_inc _) ?_
            refine ev_goto 2 dX4_isRest_74 (by decide) ?_
            exact ih (i + 1) (by omega) (fun k hk => by
              rcases Nat.lt_or_ge k i with h9 | h9
              · exact hall k h9
              · obtain rfl : k = i := by omega
                exact (if_neg b_19).trans ((if_pos b_51).trans (if_pos c_66)))
          · refine ev_iconst (v := 0) dX4_isRest_69 (by decide) ?_
            refine ev_zret dX4_isRest_70 ?_ ?_
            · rfl
            · exact ⟨_, rfl, by rw [allB_f (i := i) ((if_neg b_19).trans ((if_pos b_51).trans (if_neg c_66))) (by omega)]; rfl, rfl, rfl⟩
      · have b_19 := gx_b_y.mp c_19
        refine ev_ald0 dX4_isRest_22 ?_
        refine ev_ild3 dX4_isRest_23 ?_
        refine ev_ild2 dX4_isRest_24 ?_
        refine ev_V2i (M' := mX4_oneHas) dX4_isRest_25 lk_X4_41 vX4_oneHas rfl (c_oneHas d S ha hb (by omega) (by omega) (by omega) (by omega) L) (Nat.le_refl _) (Nat.le_of_ble_eq_true rfl) ?_
        refine ev_ald0 dX4_isRest_28 ?_
        refine ev_ild1 dX4_isRest_29 ?_
        refine ev_ild2 dX4_isRest_30 ?_
        refine ev_V2i (M' := mX4_oneHas) dX4_isRest_31 lk_X4_41 vX4_oneHas rfl (c_oneHas d S ha hb (by omega) (by omega) (by omega) (by omega) L) (Nat.le_refl _) (Nat.le_of_ble_eq_true rfl) ?_
        refine ev_icmp_le 39 dX4_isRest_34 (by decide) (fun c_34 => ?_) (fun c_34 => ?_)
        · refine ev_ald0 dX4_isRest_39 ?_
          refine ev_getr (r := 11) dX4_isRest_40 fl_X4_9 rfl ?_
          refine ev_ald0 dX4_isRest_43 ?_
          refine ev_geti dX4_isRest_44 fl_X4_23 rfl ?_
          rw [hb]
          refine ev_ild3 dX4_isRest_47 ?_
          refine ev_V2i (M' := mX2_sits) dX4_isRest_48 lk_X4_32 vX2_sits rfl (c_sitsB d S hng h5 hnd h4 hbd (by omega) (hzb i) L) (Nat.le_refl _) (Nat.le_of_ble_eq_true rfl) ?_
          refine ev_if_eq 71 dX4_isRest_51 (by decide) (fun c_51 => ?_) (fun c_51 => ?_)
          · have b_51 := gx_b_n.mp c_51
            refine ev_inc3 dX4_isRest_71 (nI_inc _) ?_
            refine ev_goto 2 dX4_isRest_74 (by decide) ?_
            exact ih (i + 1) (by omega) (fun k hk => by
              rcases Nat.lt_or_ge k i with h9 | h9
              · exact hall k h9
              · obtain rfl : k = i := by omega
                exact (if_pos b_19).trans ((if_pos c_34).trans (if_neg b_51)))
          · have b_51 := gx_b_y.mp c_51
            refine ev_ald0 dX4_isRest_54 ?_
            refine ev_ild1 dX4_isRest_55 ?_
            refine ev_ild3 dX4_isRest_56 ?_
            refine ev_V2i (M' := mX4_otherHas) dX4_isRest_57 lk_X4_45 vX4_otherHas rfl (c_otherHas d S ha hb (by omega) (by omega) (by omega) (by omega) L) (Nat.le_refl _) (Nat.le_of_ble_eq_true rfl) ?_
            refine ev_ald0 dX4_isRest_60 ?_
            refine ev_ild1 dX4_isRest_61 ?_
            refine ev_ild2 dX4_isRest_62 ?_
            refine ev_V2i (M' := mX4_otherHas) dX4_isRest_63 lk_X4_45 vX4_otherHas rfl (c_otherHas d S ha hb (by omega) (by omega) (by omega) (by omega) L) (Nat.le_refl _) (Nat.le_of_ble_eq_true rfl) ?_
            refine ev_icmp_le 71 dX4_isRest_66 (by decide) (fun c_66 => ?_) (fun c_66 => ?_)
            · refine ev_inc3 dX4_isRest_71 (nI_inc _) ?_
              refine ev_goto 2 dX4_isRest_74 (by decide) ?_
              exact ih (i + 1) (by omega) (fun k hk => by
                rcases Nat.lt_or_ge k i with h9 | h9
                · exact hall k h9
                · obtain rfl : k = i := by omega
                  exact (if_pos b_19).trans ((if_pos c_34).trans ((if_pos b_51).trans (if_pos c_66))))
            · refine ev_iconst (v := 0) dX4_isRest_69 (by decide) ?_
              refine ev_zret dX4_isRest_70 ?_ ?_
              · rfl
              · exact ⟨_, rfl, by rw [allB_f (i := i) ((if_pos b_19).trans ((if_pos c_34).trans ((if_pos b_51).trans (if_neg c_66)))) (by omega)]; rfl, rfl, rfl⟩
        · refine ev_iconst (v := 0) dX4_isRest_37 (by decide) ?_
          refine ev_zret dX4_isRest_38 ?_ ?_
          · rfl
          · exact ⟨_, rfl, by rw [allB_f (i := i) ((if_pos b_19).trans (if_neg c_34)) (by omega)]; rfl, rfl, rfl⟩
  exact loop 5 0 (Nat.zero_add _) (fun k hk => absurd hk (by omega))
