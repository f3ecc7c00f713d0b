abbrev Hd : Type := Int32 × Int32 × (Nat → Int32) × (Nat → Int32) × (Nat → Int32) × (Nat → Int32) × (Nat → Int32) × (Nat → Int32)
def hG (S : gx_S) (h : Nat) : Hd := (S h 0, S h 1, S (h + 1), S (h + 2), S (h + 3), S (h + 4), S (h + 5), S (h + 6))
def hS (S : gx_S) (h : Nat) (H : Hd) : gx_S := fun i => if i = h + 1 then H.2.2.1 else if i = h + 2 then H.2.2.2.1 else if i = h + 3 then H.2.2.2.2.1 else if i = h + 4 then H.2.2.2.2.2.1 else if i = h + 5 then H.2.2.2.2.2.2.1 else if i = h + 6 then H.2.2.2.2.2.2.2 else if i = h then upd (upd (S h) 0 H.1) 1 H.2.1 else S i
theorem hS_1 (S : gx_S) (h : Nat) (H : Hd) : hS S h H (h + 1) = H.2.2.1 := by simp [hS]
theorem hS_2 (S : gx_S) (h : Nat) (H : Hd) : hS S h H (h + 2) = H.2.2.2.1 := by simp [hS]
theorem hS_3 (S : gx_S) (h : Nat) (H : Hd) : hS S h H (h + 3) = H.2.2.2.2.1 := by simp [hS]
theorem hS_4 (S : gx_S) (h : Nat) (H : Hd) : hS S h H (h + 4) = H.2.2.2.2.2.1 := by simp [hS]
theorem hS_5 (S : gx_S) (h : Nat) (H : Hd) : hS S h H (h + 5) = H.2.2.2.2.2.2.1 := by simp [hS]
theorem hS_6 (S : gx_S) (h : Nat) (H : Hd) : hS S h H (h + 6) = H.2.2.2.2.2.2.2 := by simp [hS]
theorem hS_g (S : gx_S) (h : Nat) (H : Hd) : hS S h H h 0 = H.1 := by simp [hS, upd]
theorem hS_d (S : gx_S) (h : Nat) (H : Hd) : hS S h H h 1 = H.2.1 := by simp [hS, upd]
theorem hS_o (S : gx_S) {h i : Nat} (H : Hd) (e : i < h ∨ h + 6 < i) : hS S h H i = S i := by
  unfold hS
  rw [if_neg (by omega), if_neg (by omega), if_neg (by omega), if_neg (by omega), if_neg (by omega), if_neg (by omega), if_neg (by omega)]
theorem hG_hS (S : gx_S) (h : Nat) (H : Hd) : hG (hS S h H) h = H := by
  unfold hG
  rw [hS_1, hS_2, hS_3, hS_4, hS_5, hS_6, hS_g, hS_d]
theorem hS_hG (S : gx_S) (h : Nat) : hS S h (hG S h) = S := by
  funext i
  unfold hS hG
  by_cases e1 : i = h + 1
  · subst e1; simp
  · by_cases e2 : i = h + 2
    · subst e2; simp
    · by_cases e3 : i = h + 3
      · subst e3; simp
      · by_cases e4 : i = h + 4
        · subst e4; simp
        · by_cases e5 : i = h + 5
          · subst e5; simp
          · by_cases e6 : i = h + 6
            · subst e6; simp
            · by_cases e0 : i = h
              · subst e0
                simp [upd_self]
              · simp [e0, e1, e2, e3, e4, e5, e6]
theorem hS_hS (S : gx_S) (h : Nat) (H H' : Hd) : hS (hS S h H) h H' = hS S h H' := by
  funext i
  unfold hS
  by_cases e0 : i = h
  · subst e0
    simp
    funext j
    unfold upd
    by_cases j1 : j = 1
    · simp [j1]
    · by_cases j0 : j = 0
      · simp [j0]
      · simp [j0, j1]
  · simp only [if_neg e0]
    repeat' split
    all_goals rfl
theorem hS_u1 (S : gx_S) (h : Nat) (H : Hd) (k : Nat) (x : Int32) : gx_u2 (hS S h H) (h + 1) k x = hS S h (H.1, H.2.1, upd (H.2.2.1) k x, H.2.2.2.1, H.2.2.2.2.1, H.2.2.2.2.2.1, H.2.2.2.2.2.2.1, H.2.2.2.2.2.2.2) := by
  funext i
  unfold gx_u2 gx_up hS
  by_cases e : i = h + 1
  · subst e; simp
  · simp [e]
theorem hS_u2 (S : gx_S) (h : Nat) (H : Hd) (k : Nat) (x : Int32) : gx_u2 (hS S h H) (h + 2) k x = hS S h (H.1, H.2.1, H.2.2.1, upd (H.2.2.2.1) k x, H.2.2.2.2.1, H.2.2.2.2.2.1, H.2.2.2.2.2.2.1, H.2.2.2.2.2.2.2) := by
  funext i
  unfold gx_u2 gx_up hS
  by_cases e : i = h + 2
  · subst e; simp
  · simp [e]
theorem hS_u3 (S : gx_S) (h : Nat) (H : Hd) (k : Nat) (x : Int32) : gx_u2 (hS S h H) (h + 3) k x = hS S h (H.1, H.2.1, H.2.2.1, H.2.2.2.1, upd (H.2.2.2.2.1) k x, H.2.2.2.2.2.1, H.2.2.2.2.2.2.1, H.2.2.2.2.2.2.2) := by
  funext i
  unfold gx_u2 gx_up hS
  by_cases e : i = h + 3
  · subst e; simp
  · simp [e]
theorem hS_u4 (S : gx_S) (h : Nat) (H : Hd) (k : Nat) (x : Int32) : gx_u2 (hS S h H) (h + 4) k x = hS S h (H.1, H.2.1, H.2.2.1, H.2.2.2.1, H.2.2.2.2.1, upd (H.2.2.2.2.2.1) k x, H.2.2.2.2.2.2.1, H.2.2.2.2.2.2.2) := by
  funext i
  unfold gx_u2 gx_up hS
  by_cases e : i = h + 4
  · subst e; simp
  · simp [e]
theorem hS_u5 (S : gx_S) (h : Nat) (H : Hd) (k : Nat) (x : Int32) : gx_u2 (hS S h H) (h + 5) k x = hS S h (H.1, H.2.1, H.2.2.1, H.2.2.2.1, H.2.2.2.2.1, H.2.2.2.2.2.1, upd (H.2.2.2.2.2.2.1) k x, H.2.2.2.2.2.2.2) := by
  funext i
  unfold gx_u2 gx_up hS
  by_cases e : i = h + 5
  · subst e; simp
  · simp [e]
theorem hS_u6 (S : gx_S) (h : Nat) (H : Hd) (k : Nat) (x : Int32) : gx_u2 (hS S h H) (h + 6) k x = hS S h (H.1, H.2.1, H.2.2.1, H.2.2.2.1, H.2.2.2.2.1, H.2.2.2.2.2.1, H.2.2.2.2.2.2.1, upd (H.2.2.2.2.2.2.2) k x) := by
  funext i
  unfold gx_u2 gx_up hS
  by_cases e : i = h + 6
  · subst e; simp
  · simp [e]
theorem hS_ug (S : gx_S) (h : Nat) (H : Hd) (x : Int32) : gx_u2 (hS S h H) h 0 x = hS S h (x, H.2) := by
  funext i
  unfold gx_u2 gx_up hS
  by_cases e : i = h
  · subst e
    simp
    funext j
    unfold upd
    by_cases j0 : j = 0
    · simp [j0]
    · simp [j0]
  · simp [e]
theorem hS_ud (S : gx_S) (h : Nat) (H : Hd) (x : Int32) : gx_u2 (hS S h H) h 1 x = hS S h (H.1, x, H.2.2) := by
  funext i
  unfold gx_u2 gx_up hS
  by_cases e : i = h
  · subst e
    simp [upd_upd]
  · simp [e]
def clr (f : Nat → Int32) (n : Nat) : Nat → Int32 := fun j => if j < n then 0 else f j
theorem clr_s (f : Nat → Int32) (n : Nat) : upd (clr f n) n 0 = clr f (n + 1) := by
  funext j
  unfold upd clr
  by_cases h : j = n
  · subst h; simp
  · by_cases h2 : j < n
    · rw [if_neg h, if_pos h2, if_pos (by omega)]
    · rw [if_neg h, if_neg h2, if_neg (by omega)]
theorem clr_0 (f : Nat → Int32) : clr f 0 = f := by
  funext j
  exact if_neg (by omega)
set_option maxRecDepth 10000 in
theorem l_clear1 (d : Nat) {h : Nat} (he : hh h) (S : gx_S) (L : gx_L) {Q : Option Value → gx_S → gx_L → Prop}  (kk : Ev mX2_clear (d) 44 [some (.ref h), some (.int (nI (5)))] [] (hS S h (0, 0, clr (S (h + 1)) (5), clr (S (h + 2)) (5), clr (S (h + 3)) (5), S (h + 4), S (h + 5), S (h + 6))) L Q) : ∀ (nn i : Nat), i + nn = 5 → Ev mX2_clear (d) 12 [some (.ref h), some (.int (nI (i)))] [] (hS S h (0, 0, clr (S (h + 1)) (i), clr (S (h + 2)) (i), clr (S (h + 3)) (i), S (h + 4), S (h + 5), S (h + 6))) L Q := by
  intro nn
  induction nn with
  | zero =>
    intro i hi
    obtain rfl : i = 5 := hi
    refine ev_ild1 dX2_clear_12 ?_
    refine ev_iconst (v := 5) dX2_clear_13 (by decide) ?_
    refine ev_icmp_ge_t 44 dX2_clear_14 (by decide) (by decide) ?_
    exact kk
  | succ nn ih =>
    intro i hi
    refine ev_ild1 dX2_clear_12 ?_
    refine ev_iconst (v := 5) dX2_clear_13 (by decide) ?_
    refine ev_icmp_ge_f 44 dX2_clear_14 (by decide) (nI_ge (b := 5) (by omega) (by decide)) ?_
    refine ev_ald0 dX2_clear_17 ?_
    refine ev_getr (r := h + 1) dX2_clear_18 fl_X2_9 (tp2_2 he) ?_
    refine ev_ild1 dX2_clear_21 ?_
    refine ev_iconst (v := 0) dX2_clear_22 (by decide) ?_
    refine ev_iast' dX2_clear_23 (ar2_1 he) (by omega) (by decide) ?_
    rw [hS_u1]
    refine ev_ald0 dX2_clear_24 ?_
    refine ev_getr (r := h + 2) dX2_clear_25 fl_X2_15 (tp2_3 he) ?_
    refine ev_ild1 dX2_clear_28 ?_
    refine ev_iconst (v := 0) dX2_clear_29 (by decide) ?_
    refine ev_iast' dX2_clear_30 (ar2_2 he) (by omega) (by decide) ?_
    rw [hS_u2]
    refine ev_ald0 dX2_clear_31 ?_
    refine ev_getr (r := h + 3) dX2_clear_32 fl_X2_18 (tp2_4 he) ?_
    refine ev_ild1 dX2_clear_35 ?_
    refine ev_iconst (v := 0) dX2_clear_36 (by decide) ?_
    refine ev_iast' dX2_clear_37 (ar2_3 he) (by omega) (by decide) ?_
    rw [hS_u3]
    refine ev_inc1 dX2_clear_38 (nI_inc _) ?_
    refine ev_goto 12 dX2_clear_41 (by decide) ?_
    have e := ih (i + 1) (by omega)
    simp only [← clr_s _ i] at e
    exact e
set_option maxRecDepth 10000 in
theorem l_clear2 (d : Nat) {h : Nat} (he : hh h) (S : gx_S) (L : gx_L) {Q : Option Value → gx_S → gx_L → Prop}  (kk : Ev mX2_clear (d) 78 [some (.ref h), some (.int (nI (4)))] [] (hS S h (0, 0, clr (S (h + 1)) 5, clr (S (h + 2)) 5, clr (S (h + 3)) 5, clr (S (h + 4)) (4), clr (S (h + 5)) (4), clr (S (h + 6)) (4))) L Q) : ∀ (nn i : Nat), i + nn = 4 → Ev mX2_clear (d) 46 [some (.ref h), some (.int (nI (i)))] [] (hS S h (0, 0, clr (S (h + 1)) 5, clr (S (h + 2)) 5, clr (S (h + 3)) 5, clr (S (h + 4)) (i), clr (S (h + 5)) (i), clr (S (h + 6)) (i))) L Q := by
  intro nn
  induction nn with
  | zero =>
    intro i hi
    obtain rfl : i = 4 := hi
    refine ev_ild1 dX2_clear_46 ?_
    refine ev_iconst (v := 4) dX2_clear_47 (by decide) ?_
    refine ev_icmp_ge_t 78 dX2_clear_48 (by decide) (by decide) ?_
    exact kk
  | succ nn ih =>
    intro i hi
    refine ev_ild1 dX2_clear_46 ?_
    refine ev_iconst (v := 4) dX2_clear_47 (by decide) ?_
    refine ev_icmp_ge_f 78 dX2_clear_48 (by decide) (nI_ge (b := 4) (by omega) (by decide)) ?_
    refine ev_ald0 dX2_clear_51 ?_
    refine ev_getr (r := h + 4) dX2_clear_52 fl_X2_21 (tp2_5 he) ?_
    refine ev_ild1 dX2_clear_55 ?_
    refine ev_iconst (v := 0) dX2_clear_56 (by decide) ?_
    refine ev_iast' dX2_clear_57 (ar2_4 he) (by omega) (by decide) ?_
    rw [hS_u4]
    refine ev_ald0 dX2_clear_58 ?_
    refine ev_getr (r := h + 5) dX2_clear_59 fl_X2_24 (tp2_6 he) ?_
    refine ev_ild1 dX2_clear_62 ?_
    refine ev_iconst (v := 0) dX2_clear_63 (by decide) ?_
    refine ev_iast' dX2_clear_64 (ar2_5 he) (by omega) (by decide) ?_
    rw [hS_u5]
    refine ev_ald0 dX2_clear_65 ?_
    refine ev_getr (r := h + 6) dX2_clear_66 fl_X2_27 (tp2_7 he) ?_
    refine ev_ild1 dX2_clear_69 ?_
    refine ev_iconst (v := 0) dX2_clear_70 (by decide) ?_
    refine ev_iast' dX2_clear_71 (ar2_6 he) (by omega) (by decide) ?_
    rw [hS_u6]
    refine ev_inc1 dX2_clear_72 (nI_inc _) ?_
    refine ev_goto 46 dX2_clear_75 (by decide) ?_
    have e := ih (i + 1) (by omega)
    simp only [← clr_s _ i] at e
    exact e
set_option maxRecDepth 10000 in
theorem c_clear (d : Nat) {h : Nat} (he : hh h) (S : gx_S) (L : gx_L) : Cw d mX2_clear [.ref h] S L (hS S h (0, 0, clr (S (h + 1)) 5, clr (S (h + 2)) 5, clr (S (h + 3)) 5, clr (S (h + 4)) (4), clr (S (h + 5)) (4), clr (S (h + 6)) (4))) L := by
  refine ct_intro (loc := [some (.ref h), none]) (by decide) (Nat.le_of_ble_eq_true rfl) rfl ?_
  refine ev_mem (hS_hG S h).symm ?_
  refine ev_ald0 dX2_clear_0 ?_
  refine ev_iconst (v := 0) dX2_clear_1 (by decide) ?_
  refine ev_puti dX2_clear_2 fp_X2_30 (tp2_0 he) ?_
  rw [hS_ug]
  refine ev_ald0 dX2_clear_5 ?_
  refine ev_iconst (v := 0) dX2_clear_6 (by decide) ?_
  refine ev_puti dX2_clear_7 fp_X2_34 (tp2_1 he) ?_
  rw [hS_ud]
  refine ev_iconst (v := 0) dX2_clear_10 (by decide) ?_
  refine ev_ist1 dX2_clear_11 ?_
  have l1 := l_clear1 d he S L (Q := fun v S1 L1 => v = none ∧ S1 = hS S h (0, 0, clr (S (h + 1)) 5, clr (S (h + 2)) 5, clr (S (h + 3)) 5, clr (S (h + 4)) (4), clr (S (h + 5)) (4), clr (S (h + 6)) (4)) ∧ L1 = L) ?_ 5 0 rfl
  · rw [clr_0, clr_0, clr_0] at l1
    exact l1
  · refine ev_iconst (v := 0) dX2_clear_44 (by decide) ?_
    refine ev_ist1 dX2_clear_45 ?_
    have l2 := l_clear2 d he S L (Q := fun v S1 L1 => v = none ∧ S1 = hS S h (0, 0, clr (S (h + 1)) 5, clr (S (h + 2)) 5, clr (S (h + 3)) 5, clr (S (h + 4)) (4), clr (S (h + 5)) (4), clr (S (h + 6)) (4)) ∧ L1 = L) ?_ 4 0 rfl
    · rw [clr_0, clr_0, clr_0] at l2
      exact l2
    · refine ev_vret dX2_clear_78 ?_
      exact ⟨rfl, rfl, rfl⟩
/-- a house: nought beyond its places -/
def zH (H : Hd) : Prop := (∀ j, 5 ≤ j → H.2.2.1 j = 0 ∧ H.2.2.2.1 j = 0 ∧ H.2.2.2.2.1 j = 0) ∧ ∀ j, 4 ≤ j → H.2.2.2.2.2.1 j = 0 ∧ H.2.2.2.2.2.2.1 j = 0 ∧ H.2.2.2.2.2.2.2 j = 0
theorem hS_c (S : gx_S) {k : Nat} (h : Nat) (H : Hd) (f : Nat → Int32) : gx_up (hS S h H) (h + 1) f = hS S h (H.1, H.2.1, f, H.2.2.2) ∧ gx_up (hS S h H) (h + 2) f = hS S h (H.1, H.2.1, H.2.2.1, f, H.2.2.2.2) ∧ gx_up (hS S h H) (h + 3) f = hS S h (H.1, H.2.1, H.2.2.1, H.2.2.2.1, f, H.2.2.2.2.2) ∧ gx_up (hS S h H) (h + 4) f = hS S h (H.1, H.2.1, H.2.2.1, H.2.2.2.1, H.2.2.2.2.1, f, H.2.2.2.2.2.2) ∧ gx_up (hS S h H) (h + 5) f = hS S h (H.1, H.2.1, H.2.2.1, H.2.2.2.1, H.2.2.2.2.1, H.2.2.2.2.2.1, f, H.2.2.2.2.2.2.2) ∧ gx_up (hS S h H) (h + 6) f = hS S h (H.1, H.2.1, H.2.2.1, H.2.2.2.1, H.2.2.2.2.1, H.2.2.2.2.2.1, H.2.2.2.2.2.2.1, f) := by
  refine ⟨?_, ?_, ?_, ?_, ?_, ?_⟩ <;>
  · funext i
    unfold gx_up hS
    split
    · rename_i e; subst e; simp
    · rename_i e; simp [e]
set_option maxRecDepth 10000 in
theorem c_copyHouse (d : Nat) (S : gx_S) (hz : zH (hG S 11)) (hy : zH (hG S 4)) (L : gx_L) : Cw (d + 1) mX2_copyFrom [.ref 11, .ref 4] S L (hS S 11 (hG S 4)) L := by
  refine ct_intro (loc := [some (.ref 11), some (.ref 4)]) (by decide) (Nat.le_of_ble_eq_true rfl) rfl ?_
  refine ev_mem (hS_hG S 11).symm ?_
  refine ev_ald0 dX2_copyFrom_0 ?_
  refine ev_ald1 dX2_copyFrom_1 ?_
  refine ev_geti dX2_copyFrom_2 fl_X2_30 rfl ?_
  rw [hS_o S _ (by decide)]
  refine ev_puti dX2_copyFrom_5 fp_X2_30 rfl ?_
  rw [hS_ug]
  refine ev_ald0 dX2_copyFrom_8 ?_
  refine ev_ald1 dX2_copyFrom_9 ?_
  refine ev_geti dX2_copyFrom_10 fl_X2_34 rfl ?_
  rw [hS_o S _ (by decide)]
  refine ev_puti dX2_copyFrom_13 fp_X2_34 rfl ?_
  rw [hS_ud]
  refine ev_ald1 dX2_copyFrom_16 ?_
  refine ev_getr (r := 5) dX2_copyFrom_17 fl_X2_9 rfl ?_
  refine ev_iconst (v := 0) dX2_copyFrom_20 (by decide) ?_
  refine ev_ald0 dX2_copyFrom_21 ?_
  refine ev_getr (r := 12) dX2_copyFrom_22 fl_X2_9 rfl ?_
  refine ev_iconst (v := 0) dX2_copyFrom_25 (by decide) ?_
  refine ev_iconst (v := 5) dX2_copyFrom_26 (by decide) ?_
  refine ev_copy  dX2_copyFrom_27 lk_X2_37 (Nat.le_add_left 1 _) (Nat.le_of_ble_eq_true rfl) rfl rfl rfl rfl rfl (by decide) (by decide) (by decide) (by decide) ?_
  rw [hS_o S _ (show 5 < 11 ∨ 11 + 6 < 5 by decide), hS_1 S 11]
  rw [show va_cpy (S 5) _ 0 0 5 = S 5 from cpy_all (fun j h9 => ((hy.1 j h9).1).trans ((hz.1 j h9).1).symm)]
  rw [(hS_c S (k := 0) 11 _ _).1]
  refine ev_ald1 dX2_copyFrom_30 ?_
  refine ev_getr (r := 6) dX2_copyFrom_31 fl_X2_15 rfl ?_
  refine ev_iconst (v := 0) dX2_copyFrom_34 (by decide) ?_
  refine ev_ald0 dX2_copyFrom_35 ?_
  refine ev_getr (r := 13) dX2_copyFrom_36 fl_X2_15 rfl ?_
  refine ev_iconst (v := 0) dX2_copyFrom_39 (by decide) ?_
  refine ev_iconst (v := 5) dX2_copyFrom_40 (by decide) ?_
  refine ev_copy  dX2_copyFrom_41 lk_X2_37 (Nat.le_add_left 1 _) (Nat.le_of_ble_eq_true rfl) rfl rfl rfl rfl rfl (by decide) (by decide) (by decide) (by decide) ?_
  rw [hS_o S _ (show 6 < 11 ∨ 11 + 6 < 6 by decide), hS_2 S 11]
  rw [show va_cpy (S 6) _ 0 0 5 = S 6 from cpy_all (fun j h9 => ((hy.1 j h9).2.1).trans ((hz.1 j h9).2.1).symm)]
  rw [(hS_c S (k := 0) 11 _ _).2.1]
  refine ev_ald1 dX2_copyFrom_44 ?_
  refine ev_getr (r := 7) dX2_copyFrom_45 fl_X2_18 rfl ?_
  refine ev_iconst (v := 0) dX2_copyFrom_48 (by decide) ?_
  refine ev_ald0 dX2_copyFrom_49 ?_
  refine ev_getr (r := 14) dX2_copyFrom_50 fl_X2_18 rfl ?_
  refine ev_iconst (v := 0) dX2_copyFrom_53 (by decide) ?_
  refine ev_iconst (v := 5) dX2_copyFrom_54 (by decide) ?_
  refine ev_copy  dX2_copyFrom_55 lk_X2_37 (Nat.le_add_left 1 _) (Nat.le_of_ble_eq_true rfl) rfl rfl rfl rfl rfl (by decide) (by decide) (by decide) (by decide) ?_
  rw [hS_o S _ (show 7 < 11 ∨ 11 + 6 < 7 by decide), hS_3 S 11]
  rw [show va_cpy (S 7) _ 0 0 5 = S 7 from cpy_all (fun j h9 => ((hy.1 j h9).2.2).trans ((hz.1 j h9).2.2).symm)]
  rw [(hS_c S (k := 0) 11 _ _).2.2.1]
  refine ev_ald1 dX2_copyFrom_58 ?_
  refine ev_getr (r := 8) dX2_copyFrom_59 fl_X2_21 rfl ?_
  refine ev_iconst (v := 0) dX2_copyFrom_62 (by decide) ?_
  refine ev_ald0 dX2_copyFrom_63 ?_
  refine ev_getr (r := 15) dX2_copyFrom_64 fl_X2_21 rfl ?_
  refine ev_iconst (v := 0) dX2_copyFrom_67 (by decide) ?_
  refine ev_iconst (v := 4) dX2_copyFrom_68 (by decide) ?_
  refine ev_copy  dX2_copyFrom_69 lk_X2_37 (Nat.le_add_left 1 _) (Nat.le_of_ble_eq_true rfl) rfl rfl rfl rfl rfl (by decide) (by decide) (by decide) (by decide) ?_
  rw [hS_o S _ (show 8 < 11 ∨ 11 + 6 < 8 by decide), hS_4 S 11]
  rw [show va_cpy (S 8) _ 0 0 4 = S 8 from cpy_all (fun j h9 => ((hy.2 j h9).1).trans ((hz.2 j h9).1).symm)]
  rw [(hS_c S (k := 0) 11 _ _).2.2.2.1]
  refine ev_ald1 dX2_copyFrom_72 ?_
  refine ev_getr (r := 9) dX2_copyFrom_73 fl_X2_24 rfl ?_
  refine ev_iconst (v := 0) dX2_copyFrom_76 (by decide) ?_
  refine ev_ald0 dX2_copyFrom_77 ?_
  refine ev_getr (r := 16) dX2_copyFrom_78 fl_X2_24 rfl ?_
  refine ev_iconst (v := 0) dX2_copyFrom_81 (by decide) ?_
  refine ev_iconst (v := 4) dX2_copyFrom_82 (by decide) ?_
  refine ev_copy  dX2_copyFrom_83 lk_X2_37 (Nat.le_add_left 1 _) (Nat.le_of_ble_eq_true rfl) rfl rfl rfl rfl rfl (by decide) (by decide) (by decide) (by decide) ?_
  rw [hS_o S _ (show 9 < 11 ∨ 11 + 6 < 9 by decide), hS_5 S 11]
  rw [show va_cpy (S 9) _ 0 0 4 = S 9 from cpy_all (fun j h9 => ((hy.2 j h9).2.1).trans ((hz.2 j h9).2.1).symm)]
  rw [(hS_c S (k := 0) 11 _ _).2.2.2.2.1]
  refine ev_ald1 dX2_copyFrom_86 ?_
  refine ev_getr (r := 10) dX2_copyFrom_87 fl_X2_27 rfl ?_
  refine ev_iconst (v := 0) dX2_copyFrom_90 (by decide) ?_
  refine ev_ald0 dX2_copyFrom_91 ?_
  refine ev_getr (r := 17) dX2_copyFrom_92 fl_X2_27 rfl ?_
  refine ev_iconst (v := 0) dX2_copyFrom_95 (by decide) ?_
  refine ev_iconst (v := 4) dX2_copyFrom_96 (by decide) ?_
  refine ev_copy  dX2_copyFrom_97 lk_X2_37 (Nat.le_add_left 1 _) (Nat.le_of_ble_eq_true rfl) rfl rfl rfl rfl rfl (by decide) (by decide) (by decide) (by decide) ?_
  rw [hS_o S _ (show 10 < 11 ∨ 11 + 6 < 10 by decide), hS_6 S 11]
  rw [show va_cpy (S 10) _ 0 0 4 = S 10 from cpy_all (fun j h9 => ((hy.2 j h9).2.2).trans ((hz.2 j h9).2.2).symm)]
  rw [(hS_c S (k := 0) 11 _ _).2.2.2.2.2]
  refine ev_vret dX2_copyFrom_100 ?_
  exact ⟨rfl, rfl, rfl⟩
