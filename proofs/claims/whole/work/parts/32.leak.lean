def p_wtN (lk fl x : Int32) : Nat → Int32
  | 0 => 1
  | n + 1 => if bt fl n = true then p_wtN lk fl x n * (if bt lk n = true then x else 10 - x) else p_wtN lk fl x n
set_option maxRecDepth 10000 in
theorem l_weight (d : Nat) (S : gx_S) (lk fl x : Int32) (L : gx_L) {Q : Option Value → gx_S → gx_L → Prop}  (kk : Ev mX1_weightOf (d + 1) 46 [some (.int lk), some (.int fl), some (.int x), some (.int (p_wtN lk fl x (5))), some (.int (nI (5)))] [] (S) L Q) : ∀ (nn i : Nat), i + nn = 5 → Ev mX1_weightOf (d + 1) 5 [some (.int lk), some (.int fl), some (.int x), some (.int (p_wtN lk fl x (i))), some (.int (nI (i)))] [] (S) L Q := by
  intro nn
  induction nn with
  | zero =>
    intro i hi
    obtain rfl : i = 5 := hi
    refine ev_ild4 dX1_weightOf_5 ?_
    refine ev_iconst (v := 5) dX1_weightOf_7 (by decide) ?_
    refine ev_icmp_ge_t 46 dX1_weightOf_8 (by decide) (by decide) ?_
    exact kk
  | succ nn ih =>
    intro i hi
    refine ev_ild4 dX1_weightOf_5 ?_
    refine ev_iconst (v := 5) dX1_weightOf_7 (by decide) ?_
    refine ev_icmp_ge_f 46 dX1_weightOf_8 (by decide) (nI_ge (b := 5) (by omega) (by decide)) ?_
    refine ev_ild1 dX1_weightOf_11 ?_
    refine ev_ild4 dX1_weightOf_12 ?_
    refine ev_S2i (M' := mX10_hasBit) dX1_weightOf_14 lk_X1_28 sX10_hasBit (c_hasBit d _ _ _ _) (Nat.le_refl _) (Nat.le_of_ble_eq_true rfl) ?_
    refine ev_if_eq 40 dX1_weightOf_17 (by decide) (fun c_17 => ?_) (fun c_17 => ?_)
    · have b_17 := gx_b_n.mp c_17
      refine ev_inc4 dX1_weightOf_40 (nI_inc _) ?_
      refine ev_goto 5 dX1_weightOf_43 (by decide) ?_
      have e := ih (i + 1) (by omega)
      simp only [p_wtN, if_neg b_17, ite_self] at e
      exact e
    · have b_17 := gx_b_y.mp c_17
      refine ev_ild3 dX1_weightOf_20 ?_
      refine ev_ild0 dX1_weightOf_21 ?_
      refine ev_ild4 dX1_weightOf_22 ?_
      refine ev_S2i (M' := mX10_hasBit) dX1_weightOf_24 lk_X1_28 sX10_hasBit (c_hasBit d _ _ _ _) (Nat.le_refl _) (Nat.le_of_ble_eq_true rfl) ?_
      refine ev_if_eq 34 dX1_weightOf_27 (by decide) (fun c_27 => ?_) (fun c_27 => ?_)
      · have b_27 := gx_b_n.mp c_27
        refine ev_bipush (v := 10) dX1_weightOf_34 (by decide) ?_
        refine ev_ild2 dX1_weightOf_36 ?_
        refine ev_isub dX1_weightOf_37 ?_
        refine ev_imul dX1_weightOf_38 ?_
        refine ev_ist3 dX1_weightOf_39 ?_
        refine ev_inc4 dX1_weightOf_40 (nI_inc _) ?_
        refine ev_goto 5 dX1_weightOf_43 (by decide) ?_
        have e := ih (i + 1) (by omega)
        simp only [p_wtN, if_pos b_17, if_neg b_27, ite_self] at e
        exact e
      · have b_27 := gx_b_y.mp c_27
        refine ev_ild2 dX1_weightOf_30 ?_
        refine ev_goto 38 dX1_weightOf_31 (by decide) ?_
        refine ev_imul dX1_weightOf_38 ?_
        refine ev_ist3 dX1_weightOf_39 ?_
        refine ev_inc4 dX1_weightOf_40 (nI_inc _) ?_
        refine ev_goto 5 dX1_weightOf_43 (by decide) ?_
        have e := ih (i + 1) (by omega)
        simp only [p_wtN, if_pos b_17, if_pos b_27, ite_self] at e
        exact e
set_option maxRecDepth 10000 in
theorem c_weightOf (d : Nat) (S : gx_S) (lk fl x : Int32) (L : gx_L) : Cf (d + 1) mX1_weightOf [.int lk, .int fl, .int x] S L (p_wtN lk fl x 5) S L := by
  refine ct_intro (loc := [some (.int lk), some (.int fl), some (.int x), none, none]) (by decide) (Nat.le_of_ble_eq_true rfl) rfl ?_
  refine ev_iconst (v := 1) dX1_weightOf_0 (by decide) ?_
  refine ev_ist3 dX1_weightOf_1 ?_
  refine ev_iconst (v := 0) dX1_weightOf_2 (by decide) ?_
  refine ev_ist4 dX1_weightOf_3 ?_
  refine l_weight d S lk fl x L ?_ 5 0 rfl
  refine ev_ild3 dX1_weightOf_46 ?_
  refine ev_iret dX1_weightOf_47 ?_
  exact ⟨_, rfl, rfl, rfl, rfl⟩
def p_lkN (lk : Int32) (T : Tb) : Nat → Tb
  | 0 => T
  | n + 1 => if bt lk n = true then (upd (p_lkN lk T n).1 n ((p_lkN lk T n).1 n - 1), (p_lkN lk T n).2) else p_lkN lk T n
theorem zT_lk {lk : Int32} {T : Tb} (h : zT T) : ∀ n, n ≤ 5 → zT (p_lkN lk T n)
  | 0, _ => h
  | n + 1, hn => by
    have ih := zT_lk (lk := lk) h n (by omega)
    unfold p_lkN
    split
    · exact ⟨fun j hj => ⟨(upd_ne _ _ (by omega)).trans (ih.1 j hj).1, (ih.1 j hj).2⟩, ih.2⟩
    · exact ih
set_option maxRecDepth 10000 in
theorem l_tbl (d : Nat) (S : gx_S) (lk : Int32) (L : gx_L) {Q : Option Value → gx_S → gx_L → Prop}  (kk : Ev mX1_taxesByLeaks (d + 4) 45 [some (.ref 42), some (.int lk), some (.int (nI (5)))] [] (tS S 26 (p_lkN lk (tG S 18) (5))) L Q) : ∀ (nn i : Nat), i + nn = 5 → Ev mX1_taxesByLeaks (d + 4) 13 [some (.ref 42), some (.int lk), some (.int (nI (i)))] [] (tS S 26 (p_lkN lk (tG S 18) (i))) L Q := by
  intro nn
  induction nn with
  | zero =>
    intro i hi
    obtain rfl : i = 5 := hi
    refine ev_ild2 dX1_taxesByLeaks_13 ?_
    refine ev_iconst (v := 5) dX1_taxesByLeaks_14 (by decide) ?_
    refine ev_icmp_ge_t 45 dX1_taxesByLeaks_15 (by decide) (by decide) ?_
    exact kk
  | succ nn ih =>
    intro i hi
    refine ev_ild2 dX1_taxesByLeaks_13 ?_
    refine ev_iconst (v := 5) dX1_taxesByLeaks_14 (by decide) ?_
    refine ev_icmp_ge_f 45 dX1_taxesByLeaks_15 (by decide) (nI_ge (b := 5) (by omega) (by decide)) ?_
    refine ev_ild1 dX1_taxesByLeaks_18 ?_
    refine ev_ild2 dX1_taxesByLeaks_19 ?_
    refine ev_S2i (M' := mX10_hasBit) dX1_taxesByLeaks_20 lk_X1_28 sX10_hasBit (c_hasBit (d + 3) _ _ _ _) (Nat.le_refl _) (Nat.le_of_ble_eq_true rfl) ?_
    refine ev_if_eq 39 dX1_taxesByLeaks_23 (by decide) (fun c_23 => ?_) (fun c_23 => ?_)
    · have b_23 := gx_b_n.mp c_23
      refine ev_inc2 dX1_taxesByLeaks_39 (nI_inc _) ?_
      refine ev_goto 13 dX1_taxesByLeaks_42 (by decide) ?_
      have e := ih (i + 1) (by omega)
      simp only [p_lkN, if_neg b_23, ite_self] at e
      exact e
    · have b_23 := gx_b_y.mp c_23
      refine ev_ald0 dX1_taxesByLeaks_26 ?_
      refine ev_getr (r := 26) dX1_taxesByLeaks_27 fl_X1_19 rfl ?_
      refine ev_getr (r := 27) dX1_taxesByLeaks_30 fl_X1_69 rfl ?_
      refine ev_ild2 dX1_taxesByLeaks_33 ?_
      refine ev_dup2 dX1_taxesByLeaks_34 ?_
      refine ev_iald' dX1_taxesByLeaks_35 rfl (by omega) (by decide) ?_
      rw [tS_1 S 26]
      refine ev_iconst (v := 1) dX1_taxesByLeaks_36 (by decide) ?_
      refine ev_isub dX1_taxesByLeaks_37 ?_
      refine ev_iast' dX1_taxesByLeaks_38 rfl (by omega) (by decide) ?_
      rw [tS_u1 S 26]
      refine ev_inc2 dX1_taxesByLeaks_39 (nI_inc _) ?_
      refine ev_goto 13 dX1_taxesByLeaks_42 (by decide) ?_
      have e := ih (i + 1) (by omega)
      simp only [p_lkN, if_pos b_23, ite_self] at e
      exact e
set_option maxRecDepth 10000 in
theorem c_taxesByLeaks (d : Nat) (S : gx_S) (T : Tb) (hz : zT T) (hy : zT (tG S 18)) (lk : Int32) (L : gx_L) : Cf (d + 4) mX1_taxesByLeaks [.ref 42, .int lk] (tS S 26 T) L (p_taxes (S 14) (S 12) (p_ev (S 16) (S 17) 15 (p_lkN lk (tG S 18) 5))) (tS S 26 (p_ev (S 16) (S 17) 15 (p_lkN lk (tG S 18) 5))) L := by
  refine ct_intro (loc := [some (.ref 42), some (.int lk), none]) (by decide) (Nat.le_of_ble_eq_true rfl) rfl ?_
  refine ev_ald0 dX1_taxesByLeaks_0 ?_
  refine ev_getr (r := 26) dX1_taxesByLeaks_1 fl_X1_19 rfl ?_
  refine ev_ald0 dX1_taxesByLeaks_4 ?_
  refine ev_getr (r := 18) dX1_taxesByLeaks_5 fl_X1_15 rfl ?_
  refine ev_V1v (M' := mX9_copyFrom) dX1_taxesByLeaks_8 lk_X1_55 vX9_copyFrom rfl (c_copyT (d + 2) S T hz hy L) (Nat.le_refl _) (Nat.le_of_ble_eq_true rfl) ?_
  refine ev_iconst (v := 0) dX1_taxesByLeaks_11 (by decide) ?_
  refine ev_ist2 dX1_taxesByLeaks_12 ?_
  refine l_tbl d S lk L ?_ 5 0 rfl
  refine ev_ald0 dX1_taxesByLeaks_45 ?_
  refine ev_getr (r := 26) dX1_taxesByLeaks_46 fl_X1_19 rfl ?_
  refine ev_bipush (v := 15) dX1_taxesByLeaks_49 (by decide) ?_
  refine ev_V1v (M' := mX9_passEvening) dX1_taxesByLeaks_51 lk_X1_61 vX9_passEvening rfl (c_evT d S _ _ L) (Nat.le_refl _) (Nat.le_of_ble_eq_true rfl) ?_
  refine ev_ald0 dX1_taxesByLeaks_54 ?_
  refine ev_getr (r := 26) dX1_taxesByLeaks_55 fl_X1_19 rfl ?_
  refine ev_V0i (M' := mX9_taxes) dX1_taxesByLeaks_58 lk_X1_65 vX9_taxes rfl (c_txT (d + 1) S _ L) (Nat.le_refl _) (Nat.le_of_ble_eq_true rfl) ?_
  refine ev_iret dX1_taxesByLeaks_61 ?_
  exact ⟨_, rfl, rfl, rfl, rfl⟩
def p_fl (c : Nat → Int32) : Nat → Int32
  | 0 => 0
  | n + 1 => if c n ≤ 0 then p_fl c n else p_fl c n ||| (1 : Int32) <<< (nI n &&& 31)
def p_al (c : Nat → Int32) : Nat → Int32
  | 0 => 1
  | n + 1 => if c n ≤ 0 then p_al c n else p_al c n * 10
def p_goodN (tl wt : Nat → Int32) (fl m : Int32) : Nat → Int32
  | 0 => 0
  | n + 1 => if nI n &&& (fl ^^^ -1) = 0 then (if tl n < m then p_goodN tl wt fl m n else p_goodN tl wt fl m n + wt n) else p_goodN tl wt fl m n
set_option maxRecDepth 10000 in
theorem l_leak1 (d : Nat) (S : gx_S) (T : Tb) (m x w : Int32) (L : gx_L) {Q : Option Value → gx_S → gx_L → Prop}  (kk : Ev mX1_leakOf (d + 5) 53 [some (.ref 42), some (.int m), some (.int x), some (.int w), some (.int 0), some (.int (p_al (S 19) (5))), some (.int (p_fl (S 19) (5))), some (.int (nI (5)))] [] (tS S 26 T) L Q) : ∀ (nn i : Nat), i + nn = 5 → Ev mX1_leakOf (d + 5) 12 [some (.ref 42), some (.int m), some (.int x), some (.int w), some (.int 0), some (.int (p_al (S 19) (i))), some (.int (p_fl (S 19) (i))), some (.int (nI (i)))] [] (tS S 26 T) L Q := by
  intro nn
  induction nn with
  | zero =>
    intro i hi
    obtain rfl : i = 5 := hi
    refine ev_ild7 dX1_leakOf_12 ?_
    refine ev_iconst (v := 5) dX1_leakOf_14 (by decide) ?_
    refine ev_icmp_ge_t 53 dX1_leakOf_15 (by decide) (by decide) ?_
    exact kk
  | succ nn ih =>
    intro i hi
    refine ev_ild7 dX1_leakOf_12 ?_
    refine ev_iconst (v := 5) dX1_leakOf_14 (by decide) ?_
    refine ev_icmp_ge_f 53 dX1_leakOf_15 (by decide) (nI_ge (b := 5) (by omega) (by decide)) ?_
    refine ev_ald0 dX1_leakOf_18 ?_
    refine ev_getr (r := 18) dX1_leakOf_19 fl_X1_15 rfl ?_
    refine ev_getr (r := 19) dX1_leakOf_22 fl_X1_69 rfl ?_
    refine ev_ild7 dX1_leakOf_25 ?_
    refine ev_iald' dX1_leakOf_27 rfl (by omega) (by decide) ?_
    rw [tS_o S T (show 19 < 26 ∨ 26 + 3 < 19 by decide)]
    refine ev_if_le 47 dX1_leakOf_28 (by decide) (fun c_28 => ?_) (fun c_28 => ?_)
    · refine ev_inc7 dX1_leakOf_47 (nI_inc _) ?_
      refine ev_goto 12 dX1_leakOf_50 (by decide) ?_
      have e := ih (i + 1) (by omega)
      simp only [p_al, p_fl, if_pos c_28, ite_self] at e
      exact e
    · refine ev_ild6 dX1_leakOf_31 ?_
      refine ev_iconst (v := 1) dX1_leakOf_33 (by decide) ?_
      refine ev_ild7 dX1_leakOf_34 ?_
      refine ev_ishl dX1_leakOf_36 ?_
      refine ev_ior dX1_leakOf_37 ?_
      refine ev_ist6 dX1_leakOf_38 ?_
      refine ev_ild5 dX1_leakOf_40 ?_
      refine ev_bipush (v := 10) dX1_leakOf_42 (by decide) ?_
      refine ev_imul dX1_leakOf_44 ?_
      refine ev_ist5 dX1_leakOf_45 ?_
      refine ev_inc7 dX1_leakOf_47 (nI_inc _) ?_
      refine ev_goto 12 dX1_leakOf_50 (by decide) ?_
      have e := ih (i + 1) (by omega)
      simp only [p_al, p_fl, if_neg c_28, ite_self] at e
      exact e
set_option maxRecDepth 10000 in
theorem l_leak2 (d : Nat) (S : gx_S) (hy : zT (tG S 18)) (m x w al fl : Int32) (L : gx_L) {Q : Option Value → gx_S → gx_L → Prop} (kk : ∀ (T : Tb), zT T → Ev mX1_leakOf (d + 5) 102 [some (.ref 42), some (.int m), some (.int x), some (.int w), some (.int (p_goodN (fun n => p_taxes (S 14) (S 12) (p_ev (S 16) (S 17) 15 (p_lkN (nI n) (tG S 18) 5))) (fun n => p_wtN (nI n) fl x 5) fl m (32))), some (.int al), some (.int fl), some (.int (nI (32)))] [] (tS S 26 T) L Q) : ∀ (nn i : Nat) (T : Tb) (hT : zT T), i + nn = 32 → Ev mX1_leakOf (d + 5) 56 [some (.ref 42), some (.int m), some (.int x), some (.int w), some (.int (p_goodN (fun n => p_taxes (S 14) (S 12) (p_ev (S 16) (S 17) 15 (p_lkN (nI n) (tG S 18) 5))) (fun n => p_wtN (nI n) fl x 5) fl m (i))), some (.int al), some (.int fl), some (.int (nI (i)))] [] (tS S 26 T) L Q := by
  intro nn
  induction nn with
  | zero =>
    intro i T hT hi
    obtain rfl : i = 32 := hi
    refine ev_ild7 dX1_leakOf_56 ?_
    refine ev_bipush (v := 32) dX1_leakOf_58 (by decide) ?_
    refine ev_icmp_ge_t 102 dX1_leakOf_60 (by decide) (by decide) ?_
    exact kk T hT
  | succ nn ih =>
    intro i T hT hi
    refine ev_ild7 dX1_leakOf_56 ?_
    refine ev_bipush (v := 32) dX1_leakOf_58 (by decide) ?_
    refine ev_icmp_ge_f 102 dX1_leakOf_60 (by decide) (nI_ge (b := 32) (by omega) (by decide)) ?_
    refine ev_ild7 dX1_leakOf_63 ?_
    refine ev_ild6 dX1_leakOf_65 ?_
    refine ev_iconst (v := (-1)) dX1_leakOf_67 (by decide) ?_
    refine ev_ixor dX1_leakOf_68 ?_
    refine ev_iand dX1_leakOf_69 ?_
    refine ev_if_ne 96 dX1_leakOf_70 (by decide) (fun c_70 => ?_) (fun c_70 => ?_)
    · refine ev_inc7 dX1_leakOf_96 (nI_inc _) ?_
      refine ev_goto 56 dX1_leakOf_99 (by decide) ?_
      have e := ih (i + 1) T hT (by omega)
      simp only [p_goodN, if_neg c_70, ite_self] at e
      exact e
    · refine ev_ald0 dX1_leakOf_73 ?_
      refine ev_ild7 dX1_leakOf_74 ?_
      refine ev_V1i (M' := mX1_taxesByLeaks) dX1_leakOf_76 lk_X1_72 vX1_taxesByLeaks rfl (c_taxesByLeaks d S T hT hy _ L) (Nat.le_refl _) (Nat.le_of_ble_eq_true rfl) ?_
      refine ev_ild1 dX1_leakOf_79 ?_
      refine ev_icmp_lt 96 dX1_leakOf_80 (by decide) (fun c_80 => ?_) (fun c_80 => ?_)
      · refine ev_inc7 dX1_leakOf_96 (nI_inc _) ?_
        refine ev_goto 56 dX1_leakOf_99 (by decide) ?_
        have e := ih (i + 1) (p_ev (S 16) (S 17) 15 (p_lkN (nI i) (tG S 18) 5)) (zT_ev (zT_lk hy 5 (Nat.le_refl 5))) (by omega)
        simp only [p_goodN, if_pos c_70, if_pos c_80, ite_self] at e
        exact e
      · refine ev_ild4 dX1_leakOf_83 ?_
        refine ev_ild7 dX1_leakOf_85 ?_
        refine ev_ild6 dX1_leakOf_87 ?_
        refine ev_ild2 dX1_leakOf_89 ?_
        refine ev_S3i (M' := mX1_weightOf) dX1_leakOf_90 lk_X1_75 sX1_weightOf (c_weightOf (d + 3) _ _ _ _ L) (Nat.le_refl _) (Nat.le_of_ble_eq_true rfl) ?_
        refine ev_iadd dX1_leakOf_93 ?_
        refine ev_ist4 dX1_leakOf_94 ?_
        refine ev_inc7 dX1_leakOf_96 (nI_inc _) ?_
        refine ev_goto 56 dX1_leakOf_99 (by decide) ?_
        have e := ih (i + 1) (p_ev (S 16) (S 17) 15 (p_lkN (nI i) (tG S 18) 5)) (zT_ev (zT_lk hy 5 (Nat.le_refl 5))) (by omega)
        simp only [p_goodN, if_pos c_70, if_neg c_80, ite_self] at e
        exact e
set_option maxRecDepth 10000 in
theorem c_leakOf (d : Nat) (S : gx_S) (T : Tb) (hz : zT T) (hy : zT (tG S 18)) (m x w : Int32) {u v : Nat} (hu : (if 0 ≤ p_goodN (fun n => p_taxes (S 14) (S 12) (p_ev (S 16) (S 17) 15 (p_lkN (nI n) (tG S 18) 5))) (fun n => p_wtN (nI n) (p_fl (S 19) 5) x 5) (p_fl (S 19) 5) m 32 then p_goodN (fun n => p_taxes (S 14) (S 12) (p_ev (S 16) (S 17) 15 (p_lkN (nI n) (tG S 18) 5))) (fun n => p_wtN (nI n) (p_fl (S 19) 5) x 5) (p_fl (S 19) 5) m 32 else 0 - p_goodN (fun n => p_taxes (S 14) (S 12) (p_ev (S 16) (S 17) 15 (p_lkN (nI n) (tG S 18) 5))) (fun n => p_wtN (nI n) (p_fl (S 19) 5) x 5) (p_fl (S 19) 5) m 32) = nI u) (hu1 : u < 2 ^ 31) (hv : p_al (S 19) 5 = nI v) (hv1 : v < 2 ^ 31) (hv0 : 0 < v) (L : gx_L) : Ci (d + 5) mX1_leakOf [.ref 42, .int m, .int x, .int w] (tS S 26 T) L (fun r S1 L1 => r = p_frac (p_goodN (fun n => p_taxes (S 14) (S 12) (p_ev (S 16) (S 17) 15 (p_lkN (nI n) (tG S 18) 5))) (fun n => p_wtN (nI n) (p_fl (S 19) 5) x 5) (p_fl (S 19) 5) m 32) u v w ∧ (∃ T1, zT T1 ∧ S1 = tS S 26 T1) ∧ L1 = L) := by
  refine ct_intro (loc := [some (.ref 42), some (.int m), some (.int x), some (.int w), none, none, none, none]) (by decide) (Nat.le_of_ble_eq_true rfl) rfl ?_
  refine ev_iconst (v := 0) dX1_leakOf_0 (by decide) ?_
  refine ev_ist4 dX1_leakOf_1 ?_
  refine ev_iconst (v := 1) dX1_leakOf_3 (by decide) ?_
  refine ev_ist5 dX1_leakOf_4 ?_
  refine ev_iconst (v := 0) dX1_leakOf_6 (by decide) ?_
  refine ev_ist6 dX1_leakOf_7 ?_
  refine ev_iconst (v := 0) dX1_leakOf_9 (by decide) ?_
  refine ev_ist7 dX1_leakOf_10 ?_
  refine l_leak1 d S T m x w L ?_ 5 0 rfl
  refine ev_iconst (v := 0) dX1_leakOf_53 (by decide) ?_
  refine ev_ist7 dX1_leakOf_54 ?_
  refine l_leak2 d S hy m x w _ _ L ?_ 32 0 T hz rfl
  intro T1 hT1
  rw [hv]
  refine ev_ild4 dX1_leakOf_102 ?_
  refine ev_ild5 dX1_leakOf_104 ?_
  refine ev_ild3 dX1_leakOf_106 ?_
  refine ev_S3i (M' := mX10_fractionSide) dX1_leakOf_107 lk_X1_47 sX10_fractionSide (c_frac (d + 2) _ L hu hu1 hv1 hv0 w) (Nat.le_refl _) (Nat.le_of_ble_eq_true rfl) ?_
  refine ev_iret dX1_leakOf_110 ?_
  exact ⟨_, rfl, rfl, ⟨T1, hT1, rfl⟩, rfl⟩
def pS (S : gx_S) (a b fo fi : Int32) : gx_S := gx_up S 43 (upd (upd (upd (upd (S 43) 2 a) 3 b) 4 fo) 5 fi)
theorem pS_o (S : gx_S) (a b fo fi : Int32) {i : Nat} (h : i ≠ 43) : pS S a b fo fi i = S i := gx_up_ne S _ h
theorem pS_2 (S : gx_S) (a b fo fi : Int32) : pS S a b fo fi 43 2 = a := by simp [pS, gx_up, upd]
theorem pS_3 (S : gx_S) (a b fo fi : Int32) : pS S a b fo fi 43 3 = b := by simp [pS, gx_up, upd]
theorem pS_4 (S : gx_S) (a b fo fi : Int32) : pS S a b fo fi 43 4 = fo := by simp [pS, gx_up, upd]
theorem pS_5 (S : gx_S) (a b fo fi : Int32) : pS S a b fo fi 43 5 = fi := by simp [pS, gx_up, upd]
theorem pS_u4 (S : gx_S) (a b fo fi x : Int32) : gx_u2 (pS S a b fo fi) 43 4 x = pS S a b x fi := by
  unfold gx_u2 pS
  rw [gx_up_at, up_up]
  congr 1
  funext j
  unfold upd
  by_cases h5 : j = 5
  · simp [h5]
  · by_cases h4 : j = 4
    · simp [h4]
    · simp [h4, h5]
theorem pS_u5 (S : gx_S) (a b fo fi x : Int32) : gx_u2 (pS S a b fo fi) 43 5 x = pS S a b fo x := by
  unfold gx_u2 pS
  rw [gx_up_at, up_up, upd_upd]
theorem pS_ini (S : gx_S) (a b fo fi : Int32) : gx_u2 (gx_u2 (gx_u2 (gx_u2 S 43 2 a) 43 3 b) 43 4 fo) 43 5 fi = pS S a b fo fi := by
  unfold gx_u2 pS
  simp only [gx_up_at, up_up]
theorem pS_tG (S : gx_S) (a b fo fi : Int32) : tG (pS S a b fo fi) 18 = tG S 18 := by
  unfold tG
  rw [pS_o S a b fo fi (by decide), pS_o S a b fo fi (by decide), pS_o S a b fo fi (by decide), pS_o S a b fo fi (by decide)]
/-- found and first behind the h glasses of the other at the one's g -/
def p_rsH (dk sb : Nat → Int32) (T : Tb) (a b g : Nat) (q : Int32 × Int32) : Nat → Int32 × Int32
  | 0 => q
  | n + 1 => if bt (sb a) g = true then (if bt (sb b) n = true then (if allB (p_rest1 dk sb T a b g n) 5 = true then ((p_rsH dk sb T a b g q n).1 + 1, if (p_rsH dk sb T a b g q n).1 = 0 then 10 * nI g + nI n else (p_rsH dk sb T a b g q n).2) else p_rsH dk sb T a b g q n) else p_rsH dk sb T a b g q n) else p_rsH dk sb T a b g q n
def p_rsG (dk sb : Nat → Int32) (T : Tb) (a b : Nat) : Nat → Int32 × Int32
  | 0 => (0, -9)
  | n + 1 => p_rsH dk sb T a b n (p_rsG dk sb T a b n) 5
theorem c_sitsP (d : Nat) (S : gx_S) {ng : Nat} (hng : S 11 0 = nI ng) (h5 : ng ≤ 5) {nd : Nat} (hnd : S 11 1 = nI nd) (h4 : nd ≤ 4) {dr i : Nat} (hd : dr < nd) (hi : i < 2 ^ 31) (hz : ng ≤ i → bt (S 17 dr) i = false) (a b fo fi : Int32) (L : gx_L) : Cf (d + 1) mX2_sits [.ref 11, .int (nI dr), .int (nI i)] (pS S a b fo fi) L (gx_b (bt (S 17 dr) i)) (pS S a b fo fi) L := by
  have e : ∀ k, k ≠ 43 → pS S a b fo fi k = S k := fun k hk => pS_o S a b fo fi hk
  have h := c_sitsB d (pS S a b fo fi) (by rw [e 11 (by decide)]; exact hng) h5 (by rw [e 11 (by decide)]; exact hnd) h4 hd hi (by rw [e 17 (by decide)]; exact hz) L
  rw [e 17 (by decide)] at h
  exact h
theorem c_isRestP (d : Nat) (S : gx_S) {ng : Nat} (hng : S 11 0 = nI ng) (h5 : ng ≤ 5) {nd : Nat} (hnd : S 11 1 = nI nd) (h4 : nd ≤ 4) {a b : Nat} (had : a < nd) (hbd : b < nd) (hza : ∀ i, ng ≤ i → bt (S 17 a) i = false) (hzb : ∀ i, ng ≤ i → bt (S 17 b) i = false) {g h : Nat} (hg : g < 5) (hh : h < 5) (fo fi : Int32) (L : gx_L) : Cf (d + 2) mX4_isRest [.ref 43, .int (nI g), .int (nI h)] (pS S (nI a) (nI b) fo fi) L (gx_b (allB (p_rest1 (S 16) (S 17) (tG S 18) a b g h) 5)) (pS S (nI a) (nI b) fo fi) L := by
  have e : ∀ k, k ≠ 43 → pS S (nI a) (nI b) fo fi k = S k := fun k hk => pS_o S _ _ fo fi hk
  have h := c_isRest d (pS S (nI a) (nI b) fo fi) (by rw [e 11 (by decide)]; exact hng) h5 (by rw [e 11 (by decide)]; exact hnd) h4 (pS_2 S _ _ fo fi) (pS_3 S _ _ fo fi) had hbd (by rw [e 17 (by decide)]; exact hza) (by rw [e 17 (by decide)]; exact hzb) hg hh L
  rw [e 17 (by decide), e 16 (by decide), pS_tG] at h
  exact h
set_option maxRecDepth 10000 in
theorem l_frH (d : Nat) (S : gx_S) {ng : Nat} (hng : S 11 0 = nI ng) (h5 : ng ≤ 5) {nd : Nat} (hnd : S 11 1 = nI nd) (h4 : nd ≤ 4) {a b : Nat} (had : a < nd) (hbd : b < nd) (hza : ∀ i, ng ≤ i → bt (S 17 a) i = false) (hzb : ∀ i, ng ≤ i → bt (S 17 b) i = false) {g : Nat} (hg : g < 5) (q : Int32 × Int32) (L : gx_L) {Q : Option Value → gx_S → gx_L → Prop}  (kk : Ev mX4_findRests (d + 3) 119 [some (.ref 43), some (.int (nI a)), some (.int (nI b)), some (.int (nI g)), some (.int (nI (5)))] [] (pS S (nI a) (nI b) (p_rsH (S 16) (S 17) (tG S 18) a b g q (5)).1 (p_rsH (S 16) (S 17) (tG S 18) a b g q (5)).2) L Q) : ∀ (nn i : Nat), i + nn = 5 → Ev mX4_findRests (d + 3) 31 [some (.ref 43), some (.int (nI a)), some (.int (nI b)), some (.int (nI g)), some (.int (nI (i)))] [] (pS S (nI a) (nI b) (p_rsH (S 16) (S 17) (tG S 18) a b g q (i)).1 (p_rsH (S 16) (S 17) (tG S 18) a b g q (i)).2) L Q := by
  intro nn
  induction nn with
  | zero =>
    intro i hi
    obtain rfl : i = 5 := hi
    refine ev_ild4 dX4_findRests_31 ?_
    refine ev_iconst (v := 5) dX4_findRests_33 (by decide) ?_
    refine ev_icmp_ge_t 119 dX4_findRests_34 (by decide) (by decide) ?_
    exact kk
  | succ nn ih =>
    intro i hi
    refine ev_ild4 dX4_findRests_31 ?_
    refine ev_iconst (v := 5) dX4_findRests_33 (by decide) ?_
    refine ev_icmp_ge_f 119 dX4_findRests_34 (by decide) (nI_ge (b := 5) (by omega) (by decide)) ?_
    refine ev_ald0 dX4_findRests_37 ?_
    refine ev_getr (r := 11) dX4_findRests_38 fl_X4_9 rfl ?_
    refine ev_ald0 dX4_findRests_41 ?_
    refine ev_geti dX4_findRests_42 fl_X4_19 rfl ?_
    rw [pS_2]
    refine ev_ild3 dX4_findRests_45 ?_
    refine ev_V2i (M' := mX2_sits) dX4_findRests_46 lk_X4_32 vX2_sits rfl (c_sitsP (d + 1) S hng h5 hnd h4 had (by omega) (hza g) _ _ _ _ L) (Nat.le_refl _) (Nat.le_of_ble_eq_true rfl) ?_
    refine ev_if_eq 113 dX4_findRests_49 (by decide) (fun c_49 => ?_) (fun c_49 => ?_)
    · have b_49 := gx_b_n.mp c_49
      refine ev_inc4 dX4_findRests_113 (nI_inc _) ?_
      refine ev_goto 31 dX4_findRests_116 (by decide) ?_
      have e := ih (i + 1) (by omega)
      simp only [p_rsH, if_neg b_49, ite_self] at e
      exact e
    · have b_49 := gx_b_y.mp c_49
      refine ev_ald0 dX4_findRests_52 ?_
      refine ev_getr (r := 11) dX4_findRests_53 fl_X4_9 rfl ?_
      refine ev_ald0 dX4_findRests_56 ?_
      refine ev_geti dX4_findRests_57 fl_X4_23 rfl ?_
      rw [pS_3]
      refine ev_ild4 dX4_findRests_60 ?_
      refine ev_V2i (M' := mX2_sits) dX4_findRests_62 lk_X4_32 vX2_sits rfl (c_sitsP (d + 1) S hng h5 hnd h4 hbd (by omega) (hzb i) _ _ _ _ L) (Nat.le_refl _) (Nat.le_of_ble_eq_true rfl) ?_
      refine ev_if_eq 113 dX4_findRests_65 (by decide) (fun c_65 => ?_) (fun c_65 => ?_)
      · have b_65 := gx_b_n.mp c_65
        refine ev_inc4 dX4_findRests_113 (nI_inc _) ?_
        refine ev_goto 31 dX4_findRests_116 (by decide) ?_
        have e := ih (i + 1) (by omega)
        simp only [p_rsH, if_pos b_49, if_neg b_65, ite_self] at e
        exact e
      · have b_65 := gx_b_y.mp c_65
        refine ev_ald0 dX4_findRests_68 ?_
        refine ev_ild3 dX4_findRests_69 ?_
        refine ev_ild4 dX4_findRests_70 ?_
        refine ev_V2i (M' := mX4_isRest) dX4_findRests_72 lk_X4_38 vX4_isRest rfl (c_isRestP d S hng h5 hnd h4 had hbd hza hzb hg (by omega) _ _ L) (Nat.le_refl _) (Nat.le_of_ble_eq_true rfl) ?_
        refine ev_if_eq 113 dX4_findRests_75 (by decide) (fun c_75 => ?_) (fun c_75 => ?_)
        · have b_75 := gx_b_n.mp c_75
          refine ev_inc4 dX4_findRests_113 (nI_inc _) ?_
          refine ev_goto 31 dX4_findRests_116 (by decide) ?_
          have e := ih (i + 1) (by omega)
          simp only [p_rsH, if_pos b_49, if_pos b_65, if_neg b_75, ite_self] at e
          exact e
        · have b_75 := gx_b_y.mp c_75
          refine ev_ald0 dX4_findRests_78 ?_
          refine ev_ald0 dX4_findRests_79 ?_
          refine ev_geti dX4_findRests_80 fl_X4_26 rfl ?_
          rw [pS_4]
          refine ev_if_ne 96 dX4_findRests_83 (by decide) (fun c_83 => ?_) (fun c_83 => ?_)
          · refine ev_ald0 dX4_findRests_96 ?_
            refine ev_geti dX4_findRests_97 fl_X4_29 rfl ?_
            rw [pS_5]
            refine ev_puti dX4_findRests_100 fp_X4_29 rfl ?_
            rw [pS_u5]
            refine ev_ald0 dX4_findRests_103 ?_
            refine ev_dupr dX4_findRests_104 ?_
            refine ev_geti dX4_findRests_105 fl_X4_26 rfl ?_
            rw [pS_4]
            refine ev_iconst (v := 1) dX4_findRests_108 (by decide) ?_
            refine ev_iadd dX4_findRests_109 ?_
            refine ev_puti dX4_findRests_110 fp_X4_26 rfl ?_
            rw [pS_u4]
            refine ev_inc4 dX4_findRests_113 (nI_inc _) ?_
            refine ev_goto 31 dX4_findRests_116 (by decide) ?_
            have e := ih (i + 1) (by omega)
            simp only [p_rsH, if_pos b_49, if_pos b_65, if_pos b_75, ite_self] at e
            simp only [if_neg c_83] at e
            exact e
          · refine ev_bipush (v := 10) dX4_findRests_86 (by decide) ?_
            refine ev_ild3 dX4_findRests_88 ?_
            refine ev_imul dX4_findRests_89 ?_
            refine ev_ild4 dX4_findRests_90 ?_
            refine ev_iadd dX4_findRests_92 ?_
            refine ev_goto 100 dX4_findRests_93 (by decide) ?_
            refine ev_puti dX4_findRests_100 fp_X4_29 rfl ?_
            rw [pS_u5]
            refine ev_ald0 dX4_findRests_103 ?_
            refine ev_dupr dX4_findRests_104 ?_
            refine ev_geti dX4_findRests_105 fl_X4_26 rfl ?_
            rw [pS_4]
            refine ev_iconst (v := 1) dX4_findRests_108 (by decide) ?_
            refine ev_iadd dX4_findRests_109 ?_
            refine ev_puti dX4_findRests_110 fp_X4_26 rfl ?_
            rw [pS_u4]
            refine ev_inc4 dX4_findRests_113 (nI_inc _) ?_
            refine ev_goto 31 dX4_findRests_116 (by decide) ?_
            have e := ih (i + 1) (by omega)
            simp only [p_rsH, if_pos b_49, if_pos b_65, if_pos b_75, ite_self] at e
            simp only [if_pos c_83] at e
            exact e
set_option maxRecDepth 10000 in
theorem c_findRests (d : Nat) (S : gx_S) {ng : Nat} (hng : S 11 0 = nI ng) (h5 : ng ≤ 5) {nd : Nat} (hnd : S 11 1 = nI nd) (h4 : nd ≤ 4) {a b : Nat} (had : a < nd) (hbd : b < nd) (hza : ∀ i, ng ≤ i → bt (S 17 a) i = false) (hzb : ∀ i, ng ≤ i → bt (S 17 b) i = false) (L : gx_L) : Cw (d + 3) mX4_findRests [.ref 43, .int (nI a), .int (nI b)] S L (pS S (nI a) (nI b) (p_rsG (S 16) (S 17) (tG S 18) a b (5)).1 (p_rsG (S 16) (S 17) (tG S 18) a b (5)).2) L := by
  refine ct_intro (loc := [some (.ref 43), some (.int (nI a)), some (.int (nI b)), none, none]) (by decide) (Nat.le_of_ble_eq_true rfl) rfl ?_
  have loop : ∀ (nn i : Nat) (z : Option Value), i + nn = 5 → Ev mX4_findRests (d + 3) 23 [some (.ref 43), some (.int (nI a)), some (.int (nI b)), some (.int (nI i)), z] [] (pS S (nI a) (nI b) (p_rsG (S 16) (S 17) (tG S 18) a b (i)).1 (p_rsG (S 16) (S 17) (tG S 18) a b (i)).2) L (fun v S' L' => v = none ∧ S' = pS S (nI a) (nI b) (p_rsG (S 16) (S 17) (tG S 18) a b (5)).1 (p_rsG (S 16) (S 17) (tG S 18) a b (5)).2 ∧ L' = L) := by
    intro nn
    induction nn with
    | zero =>
      intro i z hi
      obtain rfl : i = 5 := hi
      refine ev_ild3 dX4_findRests_23 ?_
      refine ev_iconst (v := 5) dX4_findRests_24 (by decide) ?_
      refine ev_icmp_ge_t 125 dX4_findRests_25 (by decide) (by decide) ?_
      refine ev_vret dX4_findRests_125 ?_
      exact ⟨rfl, rfl, rfl⟩
    | succ nn ih =>
      intro i z hi
      refine ev_ild3 dX4_findRests_23 ?_
      refine ev_iconst (v := 5) dX4_findRests_24 (by decide) ?_
      refine ev_icmp_ge_f 125 dX4_findRests_25 (by decide) (nI_ge (b := 5) (by omega) (by decide)) ?_
      refine ev_iconst (v := 0) dX4_findRests_28 (by decide) ?_
      refine ev_ist4 dX4_findRests_29 ?_
      refine l_frH d S hng h5 hnd h4 had hbd hza hzb (g := i) (by omega) (p_rsG (S 16) (S 17) (tG S 18) a b (i)) L ?_ 5 0 rfl
      refine ev_inc3 dX4_findRests_119 (nI_inc _) ?_
      refine ev_goto 23 dX4_findRests_122 (by decide) ?_
      exact ih (i + 1) _ (by omega)
  refine ev_ald0 dX4_findRests_0 ?_
  refine ev_ild1 dX4_findRests_1 ?_
  refine ev_puti dX4_findRests_2 fp_X4_19 rfl ?_
  refine ev_ald0 dX4_findRests_5 ?_
  refine ev_ild2 dX4_findRests_6 ?_
  refine ev_puti dX4_findRests_7 fp_X4_23 rfl ?_
  refine ev_ald0 dX4_findRests_10 ?_
  refine ev_iconst (v := 0) dX4_findRests_11 (by decide) ?_
  refine ev_puti dX4_findRests_12 fp_X4_26 rfl ?_
  refine ev_ald0 dX4_findRests_15 ?_
  refine ev_bipush (v := (-9)) dX4_findRests_16 (by decide) ?_
  refine ev_puti dX4_findRests_18 fp_X4_29 rfl ?_
  rw [pS_ini]
  refine ev_iconst (v := 0) dX4_findRests_21 (by decide) ?_
  refine ev_ist3 dX4_findRests_22 ?_
  exact loop 5 0 none rfl
