theorem nI_inc (i : Nat) : nI i + Int32.ofInt 1 = nI (i + 1) := nI_1 i
def p_taxesN (gk ms c a : Nat → Int32) : Nat → Int32
  | 0 => 0
  | n + 1 => p_taxesN gk ms c a n + p_tax (gk n) (ms n) (c n) (a n)
def p_taxes (gk ms : Nat → Int32) (T : Tb) : Int32 := p_taxesN gk ms T.1 T.2.1 5
def p_thN (th : Nat → Int32) : Nat → Int32
  | 0 => 0
  | n + 1 => p_thN th n + th n
def p_thirst (T : Tb) : Int32 := p_thN T.2.2.1 4
/-- a drinker drinks of a glass: what is drunk, the table -/
def p_sw (dk : Nat → Int32) (T : Tb) (d g : Nat) : Int32 := p_gulp (dk d) (T.2.2.1 d) (T.1 g)
def p_swT (dk : Nat → Int32) (T : Tb) (d g : Nat) : Tb := (upd T.1 g (T.1 g - p_sw dk T d g), T.2.1, upd T.2.2.1 d (T.2.2.1 d - p_sw dk T d g), T.2.2.2)
def p_aroundN (dk sb : Nat → Int32) (T : Tb) (d : Nat) : Nat → Tb
  | 0 => T
  | n + 1 => if bt (sb d) n = true then p_swT dk (p_aroundN dk sb T d n) d n else p_aroundN dk sb T d n
def p_around (dk sb : Nat → Int32) (T : Tb) (d : Nat) : Tb := p_aroundN dk sb T d 5
def p_evN (dk sb : Nat → Int32) (some : Int32) (T : Tb) : Nat → Tb
  | 0 => T
  | n + 1 => if bt some n = true then p_around dk sb (p_evN dk sb some T n) n else p_evN dk sb some T n
def p_ev (dk sb : Nat → Int32) (some : Int32) (T : Tb) : Tb := p_evN dk sb some T 4
set_option maxRecDepth 10000 in
theorem l_taxes (d : Nat) {t : Nat} (ht : tb t) (S : gx_S) (L : gx_L) {Q : Option Value → gx_S → gx_L → Prop}  (kk : Ev mX9_taxes (d + 2) 23 [some (.ref t), some (.int (p_taxesN (S 14) (S 12) (S (t + 1)) (S (t + 2)) (5))), some (.int (nI (5)))] [] (S) L Q) : ∀ (nn i : Nat), i + nn = 5 → Ev mX9_taxes (d + 2) 4 [some (.ref t), some (.int (p_taxesN (S 14) (S 12) (S (t + 1)) (S (t + 2)) (i))), some (.int (nI (i)))] [] (S) L Q := by
  intro nn
  induction nn with
  | zero =>
    intro i hi
    obtain rfl : i = 5 := hi
    refine ev_ild2 dX9_taxes_4 ?_
    refine ev_iconst (v := 5) dX9_taxes_5 (by decide) ?_
    refine ev_icmp_ge_t 23 dX9_taxes_6 (by decide) (by decide) ?_
    exact kk
  | succ nn ih =>
    intro i hi
    refine ev_ild2 dX9_taxes_4 ?_
    refine ev_iconst (v := 5) dX9_taxes_5 (by decide) ?_
    refine ev_icmp_ge_f 23 dX9_taxes_6 (by decide) (nI_ge (b := 5) (by omega) (by decide)) ?_
    refine ev_ild1 dX9_taxes_9 ?_
    refine ev_ald0 dX9_taxes_10 ?_
    refine ev_ild2 dX9_taxes_11 ?_
    refine ev_V1i (M' := mX9_taxOf) dX9_taxes_12 lk_X9_55 vX9_taxOf (cl9 ht) (c_taxOf d ht (by omega) S L) (Nat.le_refl _) (Nat.le_of_ble_eq_true rfl) ?_
    refine ev_iadd dX9_taxes_15 ?_
    refine ev_ist1 dX9_taxes_16 ?_
    refine ev_inc2 dX9_taxes_17 (nI_inc _) ?_
    refine ev_goto 4 dX9_taxes_20 (by decide) ?_
    exact ih (i + 1) (by omega)
set_option maxRecDepth 10000 in
theorem c_taxes (d : Nat) {t : Nat} (ht : tb t) (S : gx_S) (L : gx_L) : Cf (d + 2) mX9_taxes [.ref t] S L (p_taxes (S 14) (S 12) (tG S t)) S L := by
  refine ct_intro (loc := [some (.ref t), none, none]) (by decide) (Nat.le_of_ble_eq_true rfl) rfl ?_
  refine ev_iconst (v := 0) dX9_taxes_0 (by decide) ?_
  refine ev_ist1 dX9_taxes_1 ?_
  refine ev_iconst (v := 0) dX9_taxes_2 (by decide) ?_
  refine ev_ist2 dX9_taxes_3 ?_
  refine l_taxes d ht S L ?_ 5 0 rfl
  refine ev_ild1 dX9_taxes_23 ?_
  refine ev_iret dX9_taxes_24 ?_
  exact ⟨_, rfl, rfl, rfl, rfl⟩
set_option maxRecDepth 10000 in
theorem l_thirst (d : Nat) {t : Nat} (ht : tb t) (S : gx_S) (L : gx_L) {Q : Option Value → gx_S → gx_L → Prop}  (kk : Ev mX9_thirstOfAll (d) 24 [some (.ref t), some (.int (p_thN (S (t + 3)) (4))), some (.int (nI (4)))] [] (S) L Q) : ∀ (nn i : Nat), i + nn = 4 → Ev mX9_thirstOfAll (d) 4 [some (.ref t), some (.int (p_thN (S (t + 3)) (i))), some (.int (nI (i)))] [] (S) L Q := by
  intro nn
  induction nn with
  | zero =>
    intro i hi
    obtain rfl : i = 4 := hi
    refine ev_ild2 dX9_thirstOfAll_4 ?_
    refine ev_iconst (v := 4) dX9_thirstOfAll_5 (by decide) ?_
    refine ev_icmp_ge_t 24 dX9_thirstOfAll_6 (by decide) (by decide) ?_
    exact kk
  | succ nn ih =>
    intro i hi
    refine ev_ild2 dX9_thirstOfAll_4 ?_
    refine ev_iconst (v := 4) dX9_thirstOfAll_5 (by decide) ?_
    refine ev_icmp_ge_f 24 dX9_thirstOfAll_6 (by decide) (nI_ge (b := 4) (by omega) (by decide)) ?_
    refine ev_ild1 dX9_thirstOfAll_9 ?_
    refine ev_ald0 dX9_thirstOfAll_10 ?_
    refine ev_getr (r := t + 3) dX9_thirstOfAll_11 fl_X9_18 (tp9_3 ht) ?_
    refine ev_ild2 dX9_thirstOfAll_14 ?_
    refine ev_iald' dX9_thirstOfAll_15 (ar9_3 ht) (by omega) (by decide) ?_
    refine ev_iadd dX9_thirstOfAll_16 ?_
    refine ev_ist1 dX9_thirstOfAll_17 ?_
    refine ev_inc2 dX9_thirstOfAll_18 (nI_inc _) ?_
    refine ev_goto 4 dX9_thirstOfAll_21 (by decide) ?_
    exact ih (i + 1) (by omega)
set_option maxRecDepth 10000 in
theorem c_thirstOfAll (d : Nat) {t : Nat} (ht : tb t) (S : gx_S) (L : gx_L) : Cf d mX9_thirstOfAll [.ref t] S L (p_thirst (tG S t)) S L := by
  refine ct_intro (loc := [some (.ref t), none, none]) (by decide) (Nat.le_of_ble_eq_true rfl) rfl ?_
  refine ev_iconst (v := 0) dX9_thirstOfAll_0 (by decide) ?_
  refine ev_ist1 dX9_thirstOfAll_1 ?_
  refine ev_iconst (v := 0) dX9_thirstOfAll_2 (by decide) ?_
  refine ev_ist2 dX9_thirstOfAll_3 ?_
  refine l_thirst d ht S L ?_ 4 0 rfl
  refine ev_ild1 dX9_thirstOfAll_24 ?_
  refine ev_iret dX9_thirstOfAll_25 ?_
  exact ⟨_, rfl, rfl, rfl, rfl⟩
theorem sw_mem (S : gx_S) {t d g : Nat} (ht : tb t) (n : Int32) : gx_u2 (gx_u2 S (t + 1) g (S (t + 1) g - n)) (t + 3) d (gx_u2 S (t + 1) g (S (t + 1) g - n) (t + 3) d - n) = tS S t (upd (S (t + 1)) g (S (t + 1) g - n), S (t + 2), upd (S (t + 3)) d (S (t + 3) d - n), S t 4) := by
  rw [u2_o S g _ (show t + 3 ≠ t + 1 by omega)]
  have h := tS_tG S t
  have h1 : gx_u2 S (t + 1) g (S (t + 1) g - n) = tS S t (upd (S (t + 1)) g (S (t + 1) g - n), S (t + 2), S (t + 3), S t 4) := by
    conv => lhs; rw [← h]
    rw [tS_u1, tS_1]
    rfl
  rw [h1, tS_u3]
set_option maxRecDepth 10000 in
theorem c_swallow (d : Nat) {t dr g : Nat} (ht : tb t) (hd : dr < 4) (hg : g < 5) (S : gx_S) (L : gx_L) : Cf (d + 1) mX9_swallow [.ref t, .int (nI dr), .int (nI g)] S L (p_sw (S 16) (tG S t) dr g) (tS S t (p_swT (S 16) (tG S t) dr g)) L := by
  refine ct_intro (loc := [some (.ref t), some (.int (nI dr)), some (.int (nI g)), none]) (by decide) (Nat.le_of_ble_eq_true rfl) rfl ?_
  refine ev_ald0 dX9_swallow_0 ?_
  refine ev_getr (r := 11) dX9_swallow_1 fl_X9_21 (tp9_0 ht) ?_
  refine ev_getr (r := 16) dX9_swallow_4 fl_X9_63 rfl ?_
  refine ev_ild1 dX9_swallow_7 ?_
  refine ev_iald' dX9_swallow_8 rfl (by omega) (by decide) ?_
  refine ev_ald0 dX9_swallow_9 ?_
  refine ev_getr (r := t + 3) dX9_swallow_10 fl_X9_18 (tp9_3 ht) ?_
  refine ev_ild1 dX9_swallow_13 ?_
  refine ev_iald' dX9_swallow_14 (ar9_3 ht) (by omega) (by decide) ?_
  refine ev_ald0 dX9_swallow_15 ?_
  refine ev_getr (r := t + 1) dX9_swallow_16 fl_X9_9 (tp9_1 ht) ?_
  refine ev_ild2 dX9_swallow_19 ?_
  refine ev_iald' dX9_swallow_20 (ar9_1 ht) (by omega) (by decide) ?_
  refine ev_S3i (M' := mX10_gulp) dX9_swallow_21 lk_X9_66 sX10_gulp (c_gulp d _ _ _ _ _) (Nat.le_refl _) (Nat.le_of_ble_eq_true rfl) ?_
  refine ev_ist3 dX9_swallow_24 ?_
  refine ev_ald0 dX9_swallow_25 ?_
  refine ev_getr (r := t + 1) dX9_swallow_26 fl_X9_9 (tp9_1 ht) ?_
  refine ev_ild2 dX9_swallow_29 ?_
  refine ev_dup2 dX9_swallow_30 ?_
  refine ev_iald' dX9_swallow_31 (ar9_1 ht) (by omega) (by decide) ?_
  refine ev_ild3 dX9_swallow_32 ?_
  refine ev_isub dX9_swallow_33 ?_
  refine ev_iast' dX9_swallow_34 (ar9_1 ht) (by omega) (by decide) ?_
  refine ev_ald0 dX9_swallow_35 ?_
  refine ev_getr (r := t + 3) dX9_swallow_36 fl_X9_18 (tp9_3 ht) ?_
  refine ev_ild1 dX9_swallow_39 ?_
  refine ev_dup2 dX9_swallow_40 ?_
  refine ev_iald' dX9_swallow_41 (ar9_3 ht) (by omega) (by decide) ?_
  refine ev_ild3 dX9_swallow_42 ?_
  refine ev_isub dX9_swallow_43 ?_
  refine ev_iast' dX9_swallow_44 (ar9_3 ht) (by omega) (by decide) ?_
  refine ev_ild3 dX9_swallow_45 ?_
  refine ev_iret dX9_swallow_46 ?_
  exact ⟨_, rfl, rfl, sw_mem S ht _, rfl⟩
theorem p_aroundN_S {S : gx_S} {t dr : Nat} (ht : tb t) (T : Tb) : (tS S t T) 16 = S 16 ∧ (tS S t T) 17 = S 17 ∧ (tS S t T) 12 = S 12 ∧ (tS S t T) 14 = S 14 ∧ (tS S t T) 11 = S 11 := by
  have h := tb_ge ht
  exact ⟨tS_o S T (by omega), tS_o S T (by omega), tS_o S T (by omega), tS_o S T (by omega), tS_o S T (by omega)⟩
theorem c_swallowT (d : Nat) {t dr g : Nat} (ht : tb t) (hd : dr < 4) (hg : g < 5) (S : gx_S) (T : Tb) (L : gx_L) : Cf (d + 1) mX9_swallow [.ref t, .int (nI dr), .int (nI g)] (tS S t T) L (p_sw (S 16) T dr g) (tS S t (p_swT (S 16) T dr g)) L := by
  have h := c_swallow d ht hd hg (tS S t T) L
  rw [tG_tS, tS_tS, (p_aroundN_S (dr := dr) ht T).1] at h
  exact h
set_option maxRecDepth 10000 in
theorem l_around (d : Nat) {t dr : Nat} (ht : tb t) (hd : dr < 4) (S : gx_S) (L : gx_L) {Q : Option Value → gx_S → gx_L → Prop}  (kk : Ev mX9_drinkAround (d + 2) 38 [some (.ref t), some (.int (nI dr)), some (.int (S 17 dr)), some (.int (nI (5)))] [] (tS S t (p_aroundN (S 16) (S 17) (tG S t) dr (5))) L Q) : ∀ (nn i : Nat), i + nn = 5 → Ev mX9_drinkAround (d + 2) 12 [some (.ref t), some (.int (nI dr)), some (.int (S 17 dr)), some (.int (nI (i)))] [] (tS S t (p_aroundN (S 16) (S 17) (tG S t) dr (i))) L Q := by
  intro nn
  induction nn with
  | zero =>
    intro i hi
    obtain rfl : i = 5 := hi
    refine ev_ild3 dX9_drinkAround_12 ?_
    refine ev_iconst (v := 5) dX9_drinkAround_13 (by decide) ?_
    refine ev_icmp_ge_t 38 dX9_drinkAround_14 (by decide) (by decide) ?_
    exact kk
  | succ nn ih =>
    intro i hi
    refine ev_ild3 dX9_drinkAround_12 ?_
    refine ev_iconst (v := 5) dX9_drinkAround_13 (by decide) ?_
    refine ev_icmp_ge_f 38 dX9_drinkAround_14 (by decide) (nI_ge (b := 5) (by omega) (by decide)) ?_
    refine ev_ild2 dX9_drinkAround_17 ?_
    refine ev_ild3 dX9_drinkAround_18 ?_
    refine ev_S2i (M' := mX10_hasBit) dX9_drinkAround_19 lk_X9_106 sX10_hasBit (c_hasBit (d + 1) _ _ _ _) (Nat.le_refl _) (Nat.le_of_ble_eq_true rfl) ?_
    refine ev_if_eq 32 dX9_drinkAround_22 (by decide) (fun c_22 => ?_) (fun c_22 => ?_)
    · have b_22 := gx_b_n.mp c_22
      refine ev_inc3 dX9_drinkAround_32 (nI_inc _) ?_
      refine ev_goto 12 dX9_drinkAround_35 (by decide) ?_
      have e := ih (i + 1) (by omega)
      simp only [p_aroundN] at e
      simp only [if_neg b_22, ite_self] at e
      exact e
    · have b_22 := gx_b_y.mp c_22
      refine ev_ald0 dX9_drinkAround_25 ?_
      refine ev_ild1 dX9_drinkAround_26 ?_
      refine ev_ild3 dX9_drinkAround_27 ?_
      refine ev_V2i (M' := mX9_swallow) dX9_drinkAround_28 lk_X9_83 vX9_swallow (cl9 ht) (c_swallowT d ht hd (by omega) S _ L) (Nat.le_refl _) (Nat.le_of_ble_eq_true rfl) ?_
      refine ev_popi dX9_drinkAround_31 ?_
      refine ev_inc3 dX9_drinkAround_32 (nI_inc _) ?_
      refine ev_goto 12 dX9_drinkAround_35 (by decide) ?_
      have e := ih (i + 1) (by omega)
      simp only [p_aroundN] at e
      simp only [if_pos b_22, ite_self] at e
      exact e
set_option maxRecDepth 10000 in
theorem c_drinkAround (d : Nat) {t dr : Nat} (ht : tb t) (hd : dr < 4) (S : gx_S) (L : gx_L) : Cw (d + 2) mX9_drinkAround [.ref t, .int (nI dr)] S L (tS S t (p_around (S 16) (S 17) (tG S t) dr)) L := by
  refine ct_intro (loc := [some (.ref t), some (.int (nI dr)), none, none]) (by decide) (Nat.le_of_ble_eq_true rfl) rfl ?_
  refine ev_ald0 dX9_drinkAround_0 ?_
  refine ev_getr (r := 11) dX9_drinkAround_1 fl_X9_21 (tp9_0 ht) ?_
  refine ev_getr (r := 17) dX9_drinkAround_4 fl_X9_112 rfl ?_
  refine ev_ild1 dX9_drinkAround_7 ?_
  refine ev_iald' dX9_drinkAround_8 rfl (by omega) (by decide) ?_
  refine ev_ist2 dX9_drinkAround_9 ?_
  refine ev_iconst (v := 0) dX9_drinkAround_10 (by decide) ?_
  refine ev_ist3 dX9_drinkAround_11 ?_
  refine ev_mem (tS_tG S t).symm ?_
  refine l_around d ht hd S L ?_ 5 0 rfl
  refine ev_vret dX9_drinkAround_38 ?_
  exact ⟨rfl, rfl, rfl⟩
theorem c_drinkAroundT (d : Nat) {t dr : Nat} (ht : tb t) (hd : dr < 4) (S : gx_S) (T : Tb) (L : gx_L) : Cw (d + 2) mX9_drinkAround [.ref t, .int (nI dr)] (tS S t T) L (tS S t (p_around (S 16) (S 17) T dr)) L := by
  have h := c_drinkAround d ht hd (tS S t T) L
  rw [tG_tS, tS_tS, (p_aroundN_S (dr := dr) ht T).1, (p_aroundN_S (dr := dr) ht T).2.1] at h
  exact h
set_option maxRecDepth 10000 in
theorem l_passEv (d : Nat) {t : Nat} (ht : tb t) (so : Int32) (S : gx_S) (L : gx_L) {Q : Option Value → gx_S → gx_L → Prop}  (kk : Ev mX9_passEvening (d + 3) 26 [some (.ref t), some (.int so), some (.int (nI (4)))] [] (tS S t (p_evN (S 16) (S 17) so (tG S t) (4))) L Q) : ∀ (nn i : Nat), i + nn = 4 → Ev mX9_passEvening (d + 3) 2 [some (.ref t), some (.int so), some (.int (nI (i)))] [] (tS S t (p_evN (S 16) (S 17) so (tG S t) (i))) L Q := by
  intro nn
  induction nn with
  | zero =>
    intro i hi
    obtain rfl : i = 4 := hi
    refine ev_ild2 dX9_passEvening_2 ?_
    refine ev_iconst (v := 4) dX9_passEvening_3 (by decide) ?_
    refine ev_icmp_ge_t 26 dX9_passEvening_4 (by decide) (by decide) ?_
    exact kk
  | succ nn ih =>
    intro i hi
    refine ev_ild2 dX9_passEvening_2 ?_
    refine ev_iconst (v := 4) dX9_passEvening_3 (by decide) ?_
    refine ev_icmp_ge_f 26 dX9_passEvening_4 (by decide) (nI_ge (b := 4) (by omega) (by decide)) ?_
    refine ev_ild1 dX9_passEvening_7 ?_
    refine ev_ild2 dX9_passEvening_8 ?_
    refine ev_S2i (M' := mX10_hasBit) dX9_passEvening_9 lk_X9_106 sX10_hasBit (c_hasBit (d + 2) _ _ _ _) (Nat.le_refl _) (Nat.le_of_ble_eq_true rfl) ?_
    refine ev_if_eq 20 dX9_passEvening_12 (by decide) (fun c_12 => ?_) (fun c_12 => ?_)
    · have b_12 := gx_b_n.mp c_12
      refine ev_inc2 dX9_passEvening_20 (nI_inc _) ?_
      refine ev_goto 2 dX9_passEvening_23 (by decide) ?_
      have e := ih (i + 1) (by omega)
      simp only [p_evN] at e
      simp only [if_neg b_12, ite_self] at e
      exact e
    · have b_12 := gx_b_y.mp c_12
      refine ev_ald0 dX9_passEvening_15 ?_
      refine ev_ild2 dX9_passEvening_16 ?_
      refine ev_V1v (M' := mX9_drinkAround) dX9_passEvening_17 lk_X9_109 vX9_drinkAround (cl9 ht) (c_drinkAroundT d ht (by omega) S _ L) (Nat.le_refl _) (Nat.le_of_ble_eq_true rfl) ?_
      refine ev_inc2 dX9_passEvening_20 (nI_inc _) ?_
      refine ev_goto 2 dX9_passEvening_23 (by decide) ?_
      have e := ih (i + 1) (by omega)
      simp only [p_evN] at e
      simp only [if_pos b_12, ite_self] at e
      exact e
set_option maxRecDepth 10000 in
theorem c_passEvening (d : Nat) {t : Nat} (ht : tb t) (so : Int32) (S : gx_S) (L : gx_L) : Cw (d + 3) mX9_passEvening [.ref t, .int so] S L (tS S t (p_ev (S 16) (S 17) so (tG S t))) L := by
  refine ct_intro (loc := [some (.ref t), some (.int so), none]) (by decide) (Nat.le_of_ble_eq_true rfl) rfl ?_
  refine ev_iconst (v := 0) dX9_passEvening_0 (by decide) ?_
  refine ev_ist2 dX9_passEvening_1 ?_
  refine ev_mem (tS_tG S t).symm ?_
  refine l_passEv d ht so S L ?_ 4 0 rfl
  refine ev_vret dX9_passEvening_26 ?_
  exact ⟨rfl, rfl, rfl⟩
