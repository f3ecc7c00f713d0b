theorem hS_e1 (S : gx_S) (h n : Nat) (x : Int32) : gx_u2 S (h + 1) n x = hS S h (S h 0, S h 1, upd (S (h + 1)) n x, S (h + 2), S (h + 3), S (h + 4), S (h + 5), S (h + 6)) := by
  conv => lhs; rw [← hS_hG S h]
  rw [hS_u1]
  rfl
theorem hS_e4 (S : gx_S) (h n : Nat) (x : Int32) : gx_u2 S (h + 4) n x = hS S h (S h 0, S h 1, S (h + 1), S (h + 2), S (h + 3), upd (S (h + 4)) n x, S (h + 5), S (h + 6)) := by
  conv => lhs; rw [← hS_hG S h]
  rw [hS_u4]
  rfl
set_option maxRecDepth 10000 in
theorem c_addGlass (d : Nat) {h : Nat} (he : hh h) (S : gx_S) {n : Nat} (hn : S h 0 = nI n) (h5 : n < 5) (m c k : Int32) (L : gx_L) : Cw d mX2_addGlass [.ref h, .int m, .int c, .int k] S L (hS S h (nI (n + 1), S h 1, upd (S (h + 1)) n m, upd (S (h + 2)) n c, upd (S (h + 3)) n k, S (h + 4), S (h + 5), S (h + 6))) L := by
  refine ct_intro (loc := [some (.ref h), some (.int m), some (.int c), some (.int k)]) (by decide) (Nat.le_of_ble_eq_true rfl) rfl ?_
  have hh9 : S h 0 = (hG S h).1 := rfl
  refine ev_ald0 dX2_addGlass_0 ?_
  refine ev_geti dX2_addGlass_1 fl_X2_30 (tp2_0 he) ?_
  refine ev_iconst (v := 5) dX2_addGlass_4 (by decide) ?_
  refine ev_icmp_ge_f 48 dX2_addGlass_5 (by decide) (by rw [hn]; exact nI_ge (b := 5) h5 (by decide)) ?_
  refine ev_ald0 dX2_addGlass_8 ?_
  refine ev_getr (r := h + 1) dX2_addGlass_9 fl_X2_9 (tp2_2 he) ?_
  refine ev_ald0 dX2_addGlass_12 ?_
  refine ev_geti dX2_addGlass_13 fl_X2_30 (tp2_0 he) ?_
  refine ev_ild1 dX2_addGlass_16 ?_
  refine ev_iast2 (j := n) dX2_addGlass_17 (ar2_1 he) hn (by omega) (by first | decide | omega) ?_
  refine ev_mem (hS_e1 S h n m) ?_
  refine ev_ald0 dX2_addGlass_18 ?_
  refine ev_getr (r := h + 2) dX2_addGlass_19 fl_X2_15 (tp2_3 he) ?_
  refine ev_ald0 dX2_addGlass_22 ?_
  refine ev_geti dX2_addGlass_23 fl_X2_30 (tp2_0 he) ?_
  refine ev_ild2 dX2_addGlass_26 ?_
  refine ev_iast2 (j := n) dX2_addGlass_27 (ar2_2 he) (by rw [hS_g]; exact hn) (by omega) (by first | decide | omega) ?_
  rw [hS_u2]
  refine ev_ald0 dX2_addGlass_28 ?_
  refine ev_getr (r := h + 3) dX2_addGlass_29 fl_X2_18 (tp2_4 he) ?_
  refine ev_ald0 dX2_addGlass_32 ?_
  refine ev_geti dX2_addGlass_33 fl_X2_30 (tp2_0 he) ?_
  refine ev_ild3 dX2_addGlass_36 ?_
  refine ev_iast2 (j := n) dX2_addGlass_37 (ar2_3 he) (by rw [hS_g]; exact hn) (by omega) (by first | decide | omega) ?_
  rw [hS_u3]
  refine ev_ald0 dX2_addGlass_38 ?_
  refine ev_dupr dX2_addGlass_39 ?_
  refine ev_geti dX2_addGlass_40 fl_X2_30 (tp2_0 he) ?_
  rw [hS_g]
  refine ev_iconst (v := 1) dX2_addGlass_43 (by decide) ?_
  refine ev_iadd dX2_addGlass_44 ?_
  refine ev_puti dX2_addGlass_45 fp_X2_30 (tp2_0 he) ?_
  rw [hS_ug]
  refine ev_vret dX2_addGlass_48 ?_
  exact ⟨rfl, by show hS S h (S h 0 + 1, _) = _; rw [hn, nI_1], rfl⟩
set_option maxRecDepth 10000 in
theorem c_addDrinker (d : Nat) {h : Nat} (he : hh h) (S : gx_S) {n : Nat} (hn : S h 1 = nI n) (h4 : n < 4) (t k : Int32) (L : gx_L) : Cw d mX2_addDrinker [.ref h, .int t, .int k] S L (hS S h (S h 0, nI (n + 1), S (h + 1), S (h + 2), S (h + 3), upd (S (h + 4)) n t, upd (S (h + 5)) n k, S (h + 6))) L := by
  refine ct_intro (loc := [some (.ref h), some (.int t), some (.int k)]) (by decide) (Nat.le_of_ble_eq_true rfl) rfl ?_
  refine ev_ald0 dX2_addDrinker_0 ?_
  refine ev_geti dX2_addDrinker_1 fl_X2_34 (tp2_1 he) ?_
  refine ev_iconst (v := 4) dX2_addDrinker_4 (by decide) ?_
  refine ev_icmp_ge_f 38 dX2_addDrinker_5 (by decide) (by rw [hn]; exact nI_ge (b := 4) h4 (by decide)) ?_
  refine ev_ald0 dX2_addDrinker_8 ?_
  refine ev_getr (r := h + 4) dX2_addDrinker_9 fl_X2_21 (tp2_5 he) ?_
  refine ev_ald0 dX2_addDrinker_12 ?_
  refine ev_geti dX2_addDrinker_13 fl_X2_34 (tp2_1 he) ?_
  refine ev_ild1 dX2_addDrinker_16 ?_
  refine ev_iast2 (j := n) dX2_addDrinker_17 (ar2_4 he) hn (by omega) (by first | decide | omega) ?_
  refine ev_mem (hS_e4 S h n t) ?_
  refine ev_ald0 dX2_addDrinker_18 ?_
  refine ev_getr (r := h + 5) dX2_addDrinker_19 fl_X2_24 (tp2_6 he) ?_
  refine ev_ald0 dX2_addDrinker_22 ?_
  refine ev_geti dX2_addDrinker_23 fl_X2_34 (tp2_1 he) ?_
  refine ev_ild2 dX2_addDrinker_26 ?_
  refine ev_iast2 (j := n) dX2_addDrinker_27 (ar2_5 he) (by rw [hS_d]; exact hn) (by omega) (by first | decide | omega) ?_
  rw [hS_u5]
  refine ev_ald0 dX2_addDrinker_28 ?_
  refine ev_dupr dX2_addDrinker_29 ?_
  refine ev_geti dX2_addDrinker_30 fl_X2_34 (tp2_1 he) ?_
  rw [hS_d]
  refine ev_iconst (v := 1) dX2_addDrinker_33 (by decide) ?_
  refine ev_iadd dX2_addDrinker_34 ?_
  refine ev_puti dX2_addDrinker_35 fp_X2_34 (tp2_1 he) ?_
  rw [hS_ud]
  refine ev_vret dX2_addDrinker_38 ?_
  exact ⟨rfl, by show hS S h (S h 0, S h 1 + 1, _) = _; rw [hn, nI_1], rfl⟩
def p_can (ng nd : Int32) (sb : Nat → Int32) (i : Int32) : Bool := if isG nd i = true then (if sb i.toNatClampNeg = (1 : Int32) <<< (ng &&& 31) - 1 then false else true) else false
def anyB (p : Nat → Bool) : Nat → Bool
  | 0 => false
  | n + 1 => anyB p n || p n
theorem anyB_f {p : Nat → Bool} : ∀ {n : Nat}, (∀ i, i < n → p i = false) → anyB p n = false
  | 0, _ => rfl
  | n + 1, h => by
    unfold anyB
    rw [anyB_f (fun i hi => h i (by omega)), h n (by omega)]
    rfl
theorem anyB_t {p : Nat → Bool} {i : Nat} (hp : p i = true) : ∀ {n : Nat}, i < n → anyB p n = true
  | 0, h => absurd h (by omega)
  | n + 1, h => by
    unfold anyB
    rcases Nat.lt_or_ge i n with h1 | h1
    · rw [anyB_t hp h1]
      rfl
    · have : i = n := by omega
      subst this
      rw [hp, Bool.or_true]
set_option maxRecDepth 10000 in
theorem c_canSit (d : Nat) {h : Nat} (he : hh h) (S : gx_S) {nd : Nat} (hnd : S h 1 = nI nd) (h4 : nd ≤ 4) (i : Int32) (L : gx_L) : Cf (d + 1) mX2_canSit [.ref h, .int i] S L (gx_b (p_can (S h 0) (S h 1) (S (h + 6)) i)) S L := by
  refine ct_intro (loc := [some (.ref h), some (.int i)]) (by decide) (Nat.le_of_ble_eq_true rfl) rfl ?_
  refine ev_ald0 dX2_canSit_0 ?_
  refine ev_ild1 dX2_canSit_1 ?_
  refine ev_V1i (M' := mX2_hasDrinker) dX2_canSit_2 lk_X2_43 vX2_hasDrinker (cl2 he) (c_hasDrinker d he _ _ _) (Nat.le_refl _) (Nat.le_of_ble_eq_true rfl) ?_
  refine ev_if_eq 29 dX2_canSit_5 (by decide) (fun c_5 => ?_) (fun c_5 => ?_)
  · have b_5 := gx_b_n.mp c_5
    refine ev_iconst (v := 0) dX2_canSit_29 (by decide) ?_
    refine ev_zret dX2_canSit_30 ?_ ?_
    · rfl
    · exact ⟨_, rfl, by simp only [p_can, if_neg b_5, ite_self] <;> rfl, rfl, rfl⟩
  · have b_5 := gx_b_y.mp c_5
    obtain ⟨j, hj, rfl, ej⟩ := isG_of (by omega) (hnd ▸ b_5)
    refine ev_ald0 dX2_canSit_8 ?_
    refine ev_getr (r := h + 6) dX2_canSit_9 fl_X2_27 (tp2_7 he) ?_
    refine ev_ild1 dX2_canSit_12 ?_
    refine ev_iald' dX2_canSit_13 (ar2_6 he) (by omega) (by decide) ?_
    refine ev_iconst (v := 1) dX2_canSit_14 (by decide) ?_
    refine ev_ald0 dX2_canSit_15 ?_
    refine ev_geti dX2_canSit_16 fl_X2_30 (tp2_0 he) ?_
    refine ev_ishl dX2_canSit_19 ?_
    refine ev_iconst (v := 1) dX2_canSit_20 (by decide) ?_
    refine ev_isub dX2_canSit_21 ?_
    refine ev_icmp_eq 29 dX2_canSit_22 (by decide) (fun c_22 => ?_) (fun c_22 => ?_)
    · refine ev_iconst (v := 0) dX2_canSit_29 (by decide) ?_
      refine ev_zret dX2_canSit_30 ?_ ?_
      · rfl
      · exact ⟨_, rfl, by simp only [p_can, if_pos b_5, if_pos c_22, ej, ite_self] <;> rfl, rfl, rfl⟩
    · refine ev_iconst (v := 1) dX2_canSit_25 (by decide) ?_
      refine ev_goto 30 dX2_canSit_26 (by decide) ?_
      refine ev_zret dX2_canSit_30 ?_ ?_
      · rfl
      · exact ⟨_, rfl, by simp only [p_can, if_pos b_5, if_neg c_22, ej, ite_self] <;> rfl, rfl, rfl⟩
set_option maxRecDepth 10000 in
theorem c_anyCanSit (d : Nat) {h : Nat} (he : hh h) (S : gx_S) {nd : Nat} (hnd : S h 1 = nI nd) (h4 : nd ≤ 4) (L : gx_L) : Cf (d + 2) mX2_anyCanSit [.ref h] S L (gx_b (anyB (fun i => p_can (S h 0) (S h 1) (S (h + 6)) (nI i)) nd)) S L := by
  refine ct_intro (loc := [some (.ref h), none]) (by decide) (Nat.le_of_ble_eq_true rfl) rfl ?_
  refine ev_iconst (v := 0) dX2_anyCanSit_0 (by decide) ?_
  refine ev_ist1 dX2_anyCanSit_1 ?_
  have loop : ∀ (n i : Nat), i + n = nd → (∀ k, k < i → p_can (S h 0) (S h 1) (S (h + 6)) (nI k) = false) → Ev mX2_anyCanSit (d + 2) 2 [some (.ref h), some (.int (nI i))] [] S L (fun v S' L' => ∃ r : Int32, v = some (.int r) ∧ r = gx_b (anyB (fun i => p_can (S h 0) (S h 1) (S (h + 6)) (nI i)) nd) ∧ S' = S ∧ L' = L) := by
    intro n
    induction n with
    | zero =>
      intro i hi hall
      obtain rfl : i = nd := hi
      refine ev_ild1 dX2_anyCanSit_2 ?_
      refine ev_ald0 dX2_anyCanSit_3 ?_
      refine ev_geti dX2_anyCanSit_4 fl_X2_34 (tp2_1 he) ?_
      refine ev_icmp_ge_t 26 dX2_anyCanSit_7 (by decide) (by rw [hnd]; exact nI_le (Nat.le_refl _) (by omega)) ?_
      refine ev_iconst (v := 0) dX2_anyCanSit_26 (by decide) ?_
      refine ev_zret dX2_anyCanSit_27 ?_ ?_
      · rfl
      · exact ⟨_, rfl, by rw [anyB_f hall]; rfl, rfl, rfl⟩
    | succ n ih =>
      intro i hi hall
      refine ev_ild1 dX2_anyCanSit_2 ?_
      refine ev_ald0 dX2_anyCanSit_3 ?_
      refine ev_geti dX2_anyCanSit_4 fl_X2_34 (tp2_1 he) ?_
      refine ev_icmp_ge_f 26 dX2_anyCanSit_7 (by decide) (by rw [hnd]; exact nI_ge (by omega) (by omega)) ?_
      refine ev_ald0 dX2_anyCanSit_10 ?_
      refine ev_ild1 dX2_anyCanSit_11 ?_
      refine ev_V1i (M' := mX2_canSit) dX2_anyCanSit_12 lk_X2_54 vX2_canSit (cl2 he) (c_canSit d he S hnd h4 _ L) (Nat.le_refl _) (Nat.le_of_ble_eq_true rfl) ?_
      refine ev_if_eq 20 dX2_anyCanSit_15 (by decide) (fun c_15 => ?_) (fun c_15 => ?_)
      · have b_15 := gx_b_n.mp c_15
        refine ev_inc1 dX2_anyCanSit_20 (nI_inc _) ?_
        refine ev_goto 2 dX2_anyCanSit_23 (by decide) ?_
        exact ih (i + 1) (by omega) (fun k hk => by
          rcases Nat.lt_or_ge k i with h9 | h9
          · exact hall k h9
          · obtain rfl : k = i := by omega
            exact Bool.eq_false_iff.mpr b_15)
      · have b_15 := gx_b_y.mp c_15
        refine ev_iconst (v := 1) dX2_anyCanSit_18 (by decide) ?_
        refine ev_zret dX2_anyCanSit_19 ?_ ?_
        · rfl
        · exact ⟨_, rfl, by rw [anyB_t (i := i) b_15 (by omega)]; rfl, rfl, rfl⟩
  exact loop nd 0 (Nat.zero_add _) (fun k hk => absurd hk (by omega))
def p_sitN (ng nd : Int32) (sb : Nat → Int32) (g : Int32) : Nat → Int32
  | 0 => 0
  | n + 1 => if p_sits ng nd sb (nI n) g = true then p_sitN ng nd sb g n ||| (1 : Int32) <<< (nI n &&& 31) else p_sitN ng nd sb g n
set_option maxRecDepth 10000 in
theorem l_sitters (d : Nat) {h : Nat} (he : hh h) (S : gx_S) {ng : Nat} (hng : S h 0 = nI ng) (h5 : ng ≤ 5) {nd : Nat} (hnd : S h 1 = nI nd) (h4 : nd ≤ 4) (g : Int32) (L : gx_L) {Q : Option Value → gx_S → gx_L → Prop}  (kk : Ev mX2_sittersAt (d + 2) 33 [some (.ref h), some (.int g), some (.int (p_sitN (S h 0) (S h 1) (S (h + 6)) g (nd))), some (.int (nI (nd)))] [] (S) L Q) : ∀ (nn i : Nat), i + nn = nd → Ev mX2_sittersAt (d + 2) 4 [some (.ref h), some (.int g), some (.int (p_sitN (S h 0) (S h 1) (S (h + 6)) g (i))), some (.int (nI (i)))] [] (S) L Q := by
  intro nn
  induction nn with
  | zero =>
    intro i hi
    obtain rfl : i = nd := hi
    refine ev_ild3 dX2_sittersAt_4 ?_
    refine ev_ald0 dX2_sittersAt_5 ?_
    refine ev_geti dX2_sittersAt_6 fl_X2_34 (tp2_1 he) ?_
    refine ev_icmp_ge_t 33 dX2_sittersAt_9 (by decide) (by rw [hnd]; exact nI_le (Nat.le_refl _) (by omega)) ?_
    exact kk
  | succ nn ih =>
    intro i hi
    refine ev_ild3 dX2_sittersAt_4 ?_
    refine ev_ald0 dX2_sittersAt_5 ?_
    refine ev_geti dX2_sittersAt_6 fl_X2_34 (tp2_1 he) ?_
    refine ev_icmp_ge_f 33 dX2_sittersAt_9 (by decide) (by rw [hnd]; exact nI_ge (by omega) (by omega)) ?_
    refine ev_ald0 dX2_sittersAt_12 ?_
    refine ev_ild3 dX2_sittersAt_13 ?_
    refine ev_ild1 dX2_sittersAt_14 ?_
    refine ev_V2i (M' := mX2_sits) dX2_sittersAt_15 lk_X2_57 vX2_sits (cl2 he) (c_sits d he S hng h5 hnd h4 _ _ L) (Nat.le_refl _) (Nat.le_of_ble_eq_true rfl) ?_
    refine ev_if_eq 27 dX2_sittersAt_18 (by decide) (fun c_18 => ?_) (fun c_18 => ?_)
    · have b_18 := gx_b_n.mp c_18
      refine ev_inc3 dX2_sittersAt_27 (nI_inc _) ?_
      refine ev_goto 4 dX2_sittersAt_30 (by decide) ?_
      have e := ih (i + 1) (by omega)
      simp only [p_sitN, if_neg b_18, ite_self] at e
      exact e
    · have b_18 := gx_b_y.mp c_18
      refine ev_ild2 dX2_sittersAt_21 ?_
      refine ev_iconst (v := 1) dX2_sittersAt_22 (by decide) ?_
      refine ev_ild3 dX2_sittersAt_23 ?_
      refine ev_ishl dX2_sittersAt_24 ?_
      refine ev_ior dX2_sittersAt_25 ?_
      refine ev_ist2 dX2_sittersAt_26 ?_
      refine ev_inc3 dX2_sittersAt_27 (nI_inc _) ?_
      refine ev_goto 4 dX2_sittersAt_30 (by decide) ?_
      have e := ih (i + 1) (by omega)
      simp only [p_sitN, if_pos b_18, ite_self] at e
      exact e
set_option maxRecDepth 10000 in
theorem c_sittersAt (d : Nat) {h : Nat} (he : hh h) (S : gx_S) {ng : Nat} (hng : S h 0 = nI ng) (h5 : ng ≤ 5) {nd : Nat} (hnd : S h 1 = nI nd) (h4 : nd ≤ 4) (g : Int32) (L : gx_L) : Cf (d + 2) mX2_sittersAt [.ref h, .int g] S L (p_sitN (S h 0) (S h 1) (S (h + 6)) g nd) S L := by
  refine ct_intro (loc := [some (.ref h), some (.int g), none, none]) (by decide) (Nat.le_of_ble_eq_true rfl) rfl ?_
  refine ev_iconst (v := 0) dX2_sittersAt_0 (by decide) ?_
  refine ev_ist2 dX2_sittersAt_1 ?_
  refine ev_iconst (v := 0) dX2_sittersAt_2 (by decide) ?_
  refine ev_ist3 dX2_sittersAt_3 ?_
  refine l_sitters d he S hng h5 hnd h4 g L ?_ nd 0 (Nat.zero_add _)
  refine ev_ild2 dX2_sittersAt_33 ?_
  refine ev_iret dX2_sittersAt_34 ?_
  exact ⟨_, rfl, rfl, rfl, rfl⟩
set_option maxRecDepth 10000 in
theorem c_add (d : Nat) (S : gx_S) {n : Nat} (hn : S 1 1 = nI n) (h60 : n ≤ 60) (x : Int32) (L : gx_L) : Cf d mX3_add [.ref 1, .int x] S L (if n < 60 then nI (n + 1) else -4) (if n < 60 then gx_u2 (gx_u2 S 2 n x) 1 1 (nI (n + 1)) else S) L := by
  refine ct_intro (loc := [some (.ref 1), some (.int x)]) (by decide) (Nat.le_of_ble_eq_true rfl) rfl ?_
  refine ev_ald0 dX3_add_0 ?_
  refine ev_geti dX3_add_1 fl_X3_15 rfl ?_
  refine ev_bipush (v := 60) dX3_add_4 (by decide) ?_
  refine ev_icmp_lt 12 dX3_add_6 (by decide) (fun c_6 => ?_) (fun c_6 => ?_)
  · have hlt : n < 60 := (nI_ltI (b := 60) (by omega) (by decide)).mp (hn ▸ c_6)
    have g1 : gx_u2 S 2 n x 1 1 = nI n := by rw [u2_o S n x (by decide)]; exact hn
    refine ev_ald0 dX3_add_12 ?_
    refine ev_getr (r := 2) dX3_add_13 fl_X3_9 rfl ?_
    refine ev_ald0 dX3_add_16 ?_
    refine ev_geti dX3_add_17 fl_X3_15 rfl ?_
    refine ev_ild1 dX3_add_20 ?_
    refine ev_iast2 (j := n) dX3_add_21 rfl hn (by omega) (by first | decide | omega) ?_
    refine ev_ald0 dX3_add_22 ?_
    refine ev_dupr dX3_add_23 ?_
    refine ev_geti dX3_add_24 fl_X3_15 rfl ?_
    refine ev_iconst (v := 1) dX3_add_27 (by decide) ?_
    refine ev_iadd dX3_add_28 ?_
    refine ev_puti dX3_add_29 fp_X3_15 rfl ?_
    rw [g1, nI_1]
    refine ev_ald0 dX3_add_32 ?_
    refine ev_geti dX3_add_33 fl_X3_15 rfl ?_
    refine ev_iret dX3_add_36 ?_
    exact ⟨_, rfl, by rw [if_pos hlt, u2_at], by rw [if_pos hlt], rfl⟩
  · have hlt : ¬ n < 60 := fun h9 => c_6 (by rw [hn]; exact nI_lt (b := 60) h9 (by decide))
    refine ev_bipush (v := (-4)) dX3_add_9 (by decide) ?_
    refine ev_iret dX3_add_11 ?_
    exact ⟨_, rfl, by rw [if_neg hlt], by rw [if_neg hlt], rfl⟩
