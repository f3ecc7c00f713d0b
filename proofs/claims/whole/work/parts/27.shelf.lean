/-- a shelf, its cells, how many places -/
def sf (s c n : Nat) : Prop := (s = 31 ∧ c = 32 ∧ n = 14) ∨ (s = 33 ∧ c = 34 ∧ n = 2)
theorem sf31 : sf 31 32 14 := Or.inl ⟨rfl, rfl, rfl⟩
theorem sf33 : sf 33 34 2 := Or.inr ⟨rfl, rfl, rfl⟩
theorem tp8_0 {s c n : Nat} (h : sf s c n) : gx_tp s 8 0 = some 0 := by rcases h with ⟨rfl, rfl, rfl⟩ | ⟨rfl, rfl, rfl⟩ <;> rfl
theorem tp8_1 {s c n : Nat} (h : sf s c n) : gx_tp s 8 1 = some (c + 2) := by rcases h with ⟨rfl, rfl, rfl⟩ | ⟨rfl, rfl, rfl⟩ <;> rfl
theorem ar8 {s c n : Nat} (h : sf s c n) : gx_ar c = some (0, 15 * n) := by rcases h with ⟨rfl, rfl, rfl⟩ | ⟨rfl, rfl, rfl⟩ <;> rfl
theorem sf_n {s c n : Nat} (h : sf s c n) : n ≤ 14 := by rcases h with ⟨rfl, rfl, rfl⟩ | ⟨rfl, rfl, rfl⟩ <;> decide
theorem sf_c {s c n : Nat} (h : sf s c n) : 32 ≤ c ∧ 31 ≤ s ∧ s ≤ 33 := by rcases h with ⟨rfl, rfl, rfl⟩ | ⟨rfl, rfl, rfl⟩ <;> decide
def flT (T : Tb) (j : Nat) : Int32 := if j < 5 then T.1 j else if j < 10 then T.2.1 (j - 5) else if j < 14 then T.2.2.1 (j - 10) else T.2.2.2
def layF (f : Nat → Int32) (p : Nat) (T : Tb) : Nat → Int32 := fun j => if 15 * p ≤ j ∧ j < 15 * p + 15 then flT T (j - 15 * p) else f j
def ftT (f : Nat → Int32) (p : Nat) (T : Tb) : Tb := (va_cpy f T.1 (15 * p) 0 5, va_cpy f T.2.1 (15 * p + 5) 0 5, va_cpy f T.2.2.1 (15 * p + 10) 0 4, f (15 * p + 14))
theorem lay_eq (f c a th : Nat → Int32) (hr : Int32) (p : Nat) : upd (va_cpy th (va_cpy a (va_cpy c f 0 (15 * p) 5) 0 (15 * p + 5) 5) 0 (15 * p + 10) 4) (15 * p + 14) hr = layF f p (c, a, th, hr) := by
  funext j
  unfold upd va_cpy layF flT
  dsimp only
  by_cases h0 : 15 * p ≤ j ∧ j < 15 * p + 15
  · obtain ⟨i, rfl⟩ : ∃ i, j = 15 * p + i := ⟨j - 15 * p, by omega⟩
    have hi : i < 15 := by omega
    rw [if_pos h0, show 15 * p + i - 15 * p = i by omega]
    by_cases h1 : i < 5
    · rw [if_neg (by omega), if_neg (by omega), if_neg (by omega), if_pos (by omega), if_pos h1]
      congr 1
      omega
    · by_cases h2 : i < 10
      · rw [if_neg (by omega), if_neg (by omega), if_pos (by omega), if_neg h1, if_pos h2]
        congr 1
        omega
      · by_cases h3 : i < 14
        · rw [if_neg (by omega), if_pos (by omega), if_neg h1, if_neg h2, if_pos h3]
          congr 1
          omega
        · rw [if_pos (by omega), if_neg h1, if_neg h2, if_neg h3]
  · rw [if_neg h0, if_neg (by omega), if_neg (by omega), if_neg (by omega), if_neg (by omega)]
theorem i15 {p : Nat} : nI p * 15 = nI (15 * p) := by
  rw [show (15 : Int32) = nI 15 from rfl, nI_mul, Nat.mul_comm]
theorem iadd_n (a b : Nat) : nI a + nI b = nI (a + b) := nI_add a b
set_option maxRecDepth 10000 in
theorem c_lay (d : Nat) {s c n t p : Nat} (hs : sf s c n) (ht : tb t) (S : gx_S) (hn : S s 0 = nI n) (hp : p < n) (L : gx_L) : Cw (d + 1) mX8_lay [.ref s, .int (nI p), .ref t] S L (gx_up S c (layF (S c) p (tG S t))) L := by
  refine ct_intro (loc := [some (.ref s), some (.int (nI p)), some (.ref t), none]) (by decide) (Nat.le_of_ble_eq_true rfl) rfl ?_
  have hn14 := sf_n hs
  have hc := sf_c hs
  have h9 := tb_ge ht
  have n1 : t + 2 ≠ c := by omega
  have n2 : t + 3 ≠ c := by omega
  have n0 : t ≠ c := by omega
  have m1 : c ≠ t + 1 := by omega
  have m2 : c ≠ t + 2 := by omega
  have m3 : c ≠ t + 3 := by omega
  refine ev_ild1 dX8_lay_0 ?_
  refine ev_if_lt_f 12 dX8_lay_1 (by decide) (nI_pos (by omega)) ?_
  refine ev_ild1 dX8_lay_4 ?_
  refine ev_ald0 dX8_lay_5 ?_
  refine ev_geti dX8_lay_6 fl_X8_15 (tp8_0 hs) ?_
  refine ev_icmp_lt_t 13 dX8_lay_9 (by decide) (by rw [hn]; exact nI_lt hp (by omega)) ?_
  refine ev_ild1 dX8_lay_13 ?_
  refine ev_bipush (v := 15) dX8_lay_14 (by decide) ?_
  refine ev_imul dX8_lay_16 ?_
  rw [i15]
  refine ev_ist3 dX8_lay_17 ?_
  refine ev_ald2 dX8_lay_18 ?_
  refine ev_getr (r := t + 1) dX8_lay_19 fl_X8_25 (tp9_1 ht) ?_
  refine ev_iconst (v := 0) dX8_lay_22 (by decide) ?_
  refine ev_ald0 dX8_lay_23 ?_
  refine ev_getr (r := c) dX8_lay_24 fl_X8_21 (tp8_1 hs) ?_
  refine ev_ild3 dX8_lay_27 ?_
  refine ev_iconst (v := 5) dX8_lay_28 (by decide) ?_
  refine ev_copy (sp := 0) (dp := 15 * p) (n := 5) dX8_lay_29 lk_X8_30 (Nat.le_add_left 1 _) (Nat.le_of_ble_eq_true rfl) (ar9_1 ht) (ar8 hs) rfl rfl rfl (by decide) (by omega) (by decide) (by omega) ?_
  
  refine ev_ald2 dX8_lay_32 ?_
  refine ev_getr (r := t + 2) dX8_lay_33 fl_X8_36 (tp9_2 ht) ?_
  refine ev_iconst (v := 0) dX8_lay_36 (by decide) ?_
  refine ev_ald0 dX8_lay_37 ?_
  refine ev_getr (r := c) dX8_lay_38 fl_X8_21 (tp8_1 hs) ?_
  refine ev_ild3 dX8_lay_41 ?_
  refine ev_iconst (v := 5) dX8_lay_42 (by decide) ?_
  refine ev_iadd dX8_lay_43 ?_
  rw [show nI (15 * p) + 5 = nI (15 * p + 5) from iadd_n _ _]
  refine ev_iconst (v := 5) dX8_lay_44 (by decide) ?_
  refine ev_copy (sp := 0) (dp := 15 * p + 5) (n := 5) dX8_lay_45 lk_X8_30 (Nat.le_add_left 1 _) (Nat.le_of_ble_eq_true rfl) (ar9_2 ht) (ar8 hs) rfl rfl rfl (by decide) (by omega) (by decide) (by omega) ?_
  rw [gx_up_ne S _ n1, gx_up_at, up_up]
  refine ev_ald2 dX8_lay_48 ?_
  refine ev_getr (r := t + 3) dX8_lay_49 fl_X8_39 (tp9_3 ht) ?_
  refine ev_iconst (v := 0) dX8_lay_52 (by decide) ?_
  refine ev_ald0 dX8_lay_53 ?_
  refine ev_getr (r := c) dX8_lay_54 fl_X8_21 (tp8_1 hs) ?_
  refine ev_ild3 dX8_lay_57 ?_
  refine ev_bipush (v := 10) dX8_lay_58 (by decide) ?_
  refine ev_iadd dX8_lay_60 ?_
  rw [show nI (15 * p) + 10 = nI (15 * p + 10) from iadd_n _ _]
  refine ev_iconst (v := 4) dX8_lay_61 (by decide) ?_
  refine ev_copy (sp := 0) (dp := 15 * p + 10) (n := 4) dX8_lay_62 lk_X8_30 (Nat.le_add_left 1 _) (Nat.le_of_ble_eq_true rfl) (ar9_3 ht) (ar8 hs) rfl rfl rfl (by decide) (by omega) (by decide) (by omega) ?_
  rw [gx_up_ne S _ n2, gx_up_at, up_up]
  refine ev_ald0 dX8_lay_65 ?_
  refine ev_getr (r := c) dX8_lay_66 fl_X8_21 (tp8_1 hs) ?_
  refine ev_ild3 dX8_lay_69 ?_
  refine ev_bipush (v := 15) dX8_lay_70 (by decide) ?_
  refine ev_iadd dX8_lay_72 ?_
  refine ev_iconst (v := 1) dX8_lay_73 (by decide) ?_
  refine ev_isub dX8_lay_74 ?_
  rw [show nI (15 * p) + 15 - 1 = nI (15 * p + 14) from by rw [show nI (15 * p) + 15 = nI (15 * p + 15) from iadd_n _ _]; exact nI_pred _]
  refine ev_ald2 dX8_lay_75 ?_
  refine ev_geti dX8_lay_76 fl_X8_42 (tp9_4 ht) ?_
  rw [gx_up_ne S _ n0]
  refine ev_iast2 (j := 15 * p + 14) dX8_lay_79 (ar8 hs) rfl (by omega) (by first | decide | omega) ?_
  refine ev_vret dX8_lay_80 ?_
  exact ⟨rfl, by unfold gx_u2; rw [gx_up_at, up_up, lay_eq]; rfl, rfl⟩
theorem fetch_mem (S : gx_S) (t : Nat) (f1 f2 f3 : Nat → Int32) (x : Int32) : gx_u2 (gx_up (gx_up (gx_up S (t + 1) f1) (t + 2) f2) (t + 3) f3) t 4 x = tS S t (f1, f2, f3, x) := by
  funext i
  unfold gx_u2 gx_up tS
  by_cases h0 : i = t
  · subst h0; simp
  · by_cases h1 : i = t + 1
    · subst h1; simp
    · by_cases h2 : i = t + 2
      · subst h2; simp
      · by_cases h3 : i = t + 3
        · subst h3; simp
        · simp [h0, h1, h2, h3]
set_option maxRecDepth 10000 in
theorem c_fetch (d : Nat) {s c n t p : Nat} (hs : sf s c n) (ht : tb t) (S : gx_S) (hn : S s 0 = nI n) (hp : p < n) (L : gx_L) : Cw (d + 1) mX8_fetch [.ref s, .int (nI p), .ref t] S L (tS S t (ftT (S c) p (tG S t))) L := by
  refine ct_intro (loc := [some (.ref s), some (.int (nI p)), some (.ref t), none]) (by decide) (Nat.le_of_ble_eq_true rfl) rfl ?_
  have hn14 := sf_n hs
  have hc := sf_c hs
  have h9 := tb_ge ht
  have n1 : t + 2 ≠ c := by omega
  have n2 : t + 3 ≠ c := by omega
  have n0 : t ≠ c := by omega
  have m1 : c ≠ t + 1 := by omega
  have m2 : c ≠ t + 2 := by omega
  have m3 : c ≠ t + 3 := by omega
  refine ev_ild1 dX8_fetch_0 ?_
  refine ev_if_lt_f 12 dX8_fetch_1 (by decide) (nI_pos (by omega)) ?_
  refine ev_ild1 dX8_fetch_4 ?_
  refine ev_ald0 dX8_fetch_5 ?_
  refine ev_geti dX8_fetch_6 fl_X8_15 (tp8_0 hs) ?_
  refine ev_icmp_lt_t 13 dX8_fetch_9 (by decide) (by rw [hn]; exact nI_lt hp (by omega)) ?_
  refine ev_ild1 dX8_fetch_13 ?_
  refine ev_bipush (v := 15) dX8_fetch_14 (by decide) ?_
  refine ev_imul dX8_fetch_16 ?_
  rw [i15]
  refine ev_ist3 dX8_fetch_17 ?_
  refine ev_ald0 dX8_fetch_18 ?_
  refine ev_getr (r := c) dX8_fetch_19 fl_X8_21 (tp8_1 hs) ?_
  refine ev_ild3 dX8_fetch_22 ?_
  refine ev_ald2 dX8_fetch_23 ?_
  refine ev_getr (r := t + 1) dX8_fetch_24 fl_X8_25 (tp9_1 ht) ?_
  refine ev_iconst (v := 0) dX8_fetch_27 (by decide) ?_
  refine ev_iconst (v := 5) dX8_fetch_28 (by decide) ?_
  refine ev_copy (sp := 15 * p) (dp := 0) (n := 5) dX8_fetch_29 lk_X8_30 (Nat.le_add_left 1 _) (Nat.le_of_ble_eq_true rfl) (ar8 hs) (ar9_1 ht) rfl rfl rfl (by omega) (by decide) (by omega) (by decide) ?_
  refine ev_ald0 dX8_fetch_32 ?_
  refine ev_getr (r := c) dX8_fetch_33 fl_X8_21 (tp8_1 hs) ?_
  refine ev_ild3 dX8_fetch_36 ?_
  refine ev_iconst (v := 5) dX8_fetch_37 (by decide) ?_
  refine ev_iadd dX8_fetch_38 ?_
  rw [show nI (15 * p) + 5 = nI (15 * p + 5) from iadd_n _ _]
  refine ev_ald2 dX8_fetch_39 ?_
  refine ev_getr (r := t + 2) dX8_fetch_40 fl_X8_36 (tp9_2 ht) ?_
  refine ev_iconst (v := 0) dX8_fetch_43 (by decide) ?_
  refine ev_iconst (v := 5) dX8_fetch_44 (by decide) ?_
  refine ev_copy (sp := 15 * p + 5) (dp := 0) (n := 5) dX8_fetch_45 lk_X8_30 (Nat.le_add_left 1 _) (Nat.le_of_ble_eq_true rfl) (ar8 hs) (ar9_2 ht) rfl rfl rfl (by omega) (by decide) (by omega) (by decide) ?_
  rw [gx_up_ne S _ m1, gx_up_ne S _ (show t + 2 ≠ t + 1 by omega)]
  refine ev_ald0 dX8_fetch_48 ?_
  refine ev_getr (r := c) dX8_fetch_49 fl_X8_21 (tp8_1 hs) ?_
  refine ev_ild3 dX8_fetch_52 ?_
  refine ev_bipush (v := 10) dX8_fetch_53 (by decide) ?_
  refine ev_iadd dX8_fetch_55 ?_
  rw [show nI (15 * p) + 10 = nI (15 * p + 10) from iadd_n _ _]
  refine ev_ald2 dX8_fetch_56 ?_
  refine ev_getr (r := t + 3) dX8_fetch_57 fl_X8_39 (tp9_3 ht) ?_
  refine ev_iconst (v := 0) dX8_fetch_60 (by decide) ?_
  refine ev_iconst (v := 4) dX8_fetch_61 (by decide) ?_
  refine ev_copy (sp := 15 * p + 10) (dp := 0) (n := 4) dX8_fetch_62 lk_X8_30 (Nat.le_add_left 1 _) (Nat.le_of_ble_eq_true rfl) (ar8 hs) (ar9_3 ht) rfl rfl rfl (by omega) (by decide) (by omega) (by decide) ?_
  rw [gx_up_ne _ _ m2, gx_up_ne S _ m1, gx_up_ne _ _ (show t + 3 ≠ t + 2 by omega), gx_up_ne S _ (show t + 3 ≠ t + 1 by omega)]
  refine ev_ald2 dX8_fetch_65 ?_
  refine ev_ald0 dX8_fetch_66 ?_
  refine ev_getr (r := c) dX8_fetch_67 fl_X8_21 (tp8_1 hs) ?_
  refine ev_ild3 dX8_fetch_70 ?_
  refine ev_bipush (v := 15) dX8_fetch_71 (by decide) ?_
  refine ev_iadd dX8_fetch_73 ?_
  refine ev_iconst (v := 1) dX8_fetch_74 (by decide) ?_
  refine ev_isub dX8_fetch_75 ?_
  rw [show nI (15 * p) + 15 - 1 = nI (15 * p + 14) from by rw [show nI (15 * p) + 15 = nI (15 * p + 15) from iadd_n _ _]; exact nI_pred _]
  refine ev_iald2 (j := 15 * p + 14) dX8_fetch_76 (ar8 hs) rfl (by omega) (by first | decide | omega) ?_
  rw [gx_up_ne _ _ m3, gx_up_ne _ _ m2, gx_up_ne S _ m1]
  refine ev_puti dX8_fetch_77 fp_X8_42 (tp9_4 ht) ?_
  refine ev_vret dX8_fetch_80 ?_
  exact ⟨rfl, fetch_mem S t _ _ _ _, rfl⟩
def p_nx (n : Nat) : Nat := (n + 1) % 14
def p_sz (n : Nat) : Nat := if n < 14 then n + 1 else 14
theorem min14 {sz : Nat} (h : sz ≤ 14) : (if nI (sz + 1) < (14 : Int32) then nI (sz + 1) else 14) = nI (p_sz sz) := by
  unfold p_sz
  show (if nI (sz + 1) < nI 14 then nI (sz + 1) else nI 14) = _
  by_cases h1 : sz + 1 < 14
  · rw [if_pos (nI_lt (b := 14) h1 (by decide)), if_pos (by omega)]
  · rw [if_neg (fun h9 => h1 ((nI_ltI (b := 14) (by omega) (by decide)).mp h9))]
    by_cases h2 : sz < 14
    · rw [if_pos h2, show sz + 1 = 14 by omega]
    · rw [if_neg h2]
set_option maxRecDepth 10000 in
theorem c_push (d : Nat) {t : Nat} (ht : tb t) (S : gx_S) {nx sz : Nat} (hx : S 30 1 = nI nx) (h14 : nx < 14) (hz : S 30 2 = nI sz) (hs4 : sz ≤ 14) (hp : S 31 0 = nI 14) (L : gx_L) : Cw (d + 2) mX0_push [.ref 30, .ref t] S L (gx_u2 (gx_u2 (gx_up S 32 (layF (S 32) nx (tG S t))) 30 1 (nI (p_nx nx))) 30 2 (nI (p_sz sz))) L := by
  refine ct_intro (loc := [some (.ref 30), some (.ref t)]) (by decide) (Nat.le_of_ble_eq_true rfl) rfl ?_
  refine ev_ald0 dX0_push_0 ?_
  refine ev_getr (r := 31) dX0_push_1 fl_X0_14 rfl ?_
  refine ev_ald0 dX0_push_4 ?_
  refine ev_geti dX0_push_5 fl_X0_20 rfl ?_
  rw [hx]
  refine ev_ald1 dX0_push_8 ?_
  refine ev_V2v (M' := mX8_lay) dX0_push_9 lk_X0_24 vX8_lay rfl (c_lay d sf31 ht S hp h14 L) (Nat.le_refl _) (Nat.le_of_ble_eq_true rfl) ?_
  refine ev_ald0 dX0_push_12 ?_
  refine ev_ald0 dX0_push_13 ?_
  refine ev_geti dX0_push_14 fl_X0_20 rfl ?_
  rw [gx_up_ne S _ (by decide), hx]
  refine ev_iconst (v := 1) dX0_push_17 (by decide) ?_
  refine ev_iadd dX0_push_18 ?_
  rw [nI_1]
  refine ev_bipush (v := 14) dX0_push_19 (by decide) ?_
  refine ev_irem dX0_push_21 (by decide) ?_
  rw [show nI (nx + 1) - nI (nx + 1) / 14 * 14 = nI ((nx + 1) % 14) from nI_rem (b := 14) (by omega) (by decide)]
  refine ev_puti dX0_push_22 fp_X0_20 rfl ?_
  refine ev_ald0 dX0_push_25 ?_
  refine ev_bipush (v := 14) dX0_push_26 (by decide) ?_
  refine ev_ald0 dX0_push_28 ?_
  refine ev_geti dX0_push_29 fl_X0_28 rfl ?_
  rw [u2_k _ 30 _ (show 2 ≠ 1 by decide), gx_up_ne S _ (show 30 ≠ 32 by decide), hz]
  refine ev_iconst (v := 1) dX0_push_32 (by decide) ?_
  refine ev_iadd dX0_push_33 ?_
  rw [nI_1]
  refine ev_min dX0_push_34 lk_X0_31 (Nat.le_add_left 1 _) (Nat.le_of_ble_eq_true rfl) ?_
  rw [show (if nI (sz + 1) < (14 : Int32) then nI (sz + 1) else 14) = nI (p_sz sz) from min14 hs4]
  refine ev_puti dX0_push_37 fp_X0_28 rfl ?_
  refine ev_vret dX0_push_40 ?_
  exact ⟨rfl, rfl, rfl⟩
theorem pop_c (d : Nat) {t : Nat} (ht : tb t) (S : gx_S) (a b : Int32) (hp : S 31 0 = nI 14) {p : Nat} (h14 : p < 14) (L : gx_L) : Cw (d + 1) mX8_fetch [.ref 31, .int (nI p), .ref t] (gx_u2 (gx_u2 S 30 2 a) 30 1 b) L (tS (gx_u2 (gx_u2 S 30 2 a) 30 1 b) t (ftT (S 32) p (tG S t))) L := by
  have h9 := tb_ge ht
  have h := c_fetch d sf31 ht (gx_u2 (gx_u2 S 30 2 a) 30 1 b) (by rw [u2_o _ _ _ (by decide), u2_o _ _ _ (by decide)]; exact hp) h14 L
  have e : tG (gx_u2 (gx_u2 S 30 2 a) 30 1 b) t = tG S t := by
    unfold tG
    rw [u2_o _ _ _ (show t + 1 ≠ 30 by omega), u2_o _ _ _ (show t + 1 ≠ 30 by omega), u2_o _ _ _ (show t + 2 ≠ 30 by omega), u2_o _ _ _ (show t + 2 ≠ 30 by omega), u2_o _ _ _ (show t + 3 ≠ 30 by omega), u2_o _ _ _ (show t + 3 ≠ 30 by omega), u2_o _ _ _ (show t ≠ 30 by omega), u2_o _ _ _ (show t ≠ 30 by omega)]
  rw [e, u2_o _ _ _ (show 32 ≠ 30 by decide), u2_o _ _ _ (show 32 ≠ 30 by decide)] at h
  exact h
set_option maxRecDepth 10000 in
theorem c_pop (d : Nat) {t : Nat} (ht : tb t) (S : gx_S) {nx sz : Nat} (hx : S 30 1 = nI nx) (h14 : nx < 14) (hz : S 30 2 = nI (sz + 1)) (hs4 : sz + 1 ≤ 14) (hp : S 31 0 = nI 14) (L : gx_L) : Cw (d + 2) mX0_pop [.ref 30, .ref t] S L (tS (gx_u2 (gx_u2 S 30 2 (nI sz)) 30 1 (nI ((nx + 13) % 14))) t (ftT (S 32) ((nx + 13) % 14) (tG S t))) L := by
  refine ct_intro (loc := [some (.ref 30), some (.ref t)]) (by decide) (Nat.le_of_ble_eq_true rfl) rfl ?_
  have h9 := tb_ge ht
  refine ev_ald0 dX0_pop_0 ?_
  refine ev_geti dX0_pop_1 fl_X0_28 rfl ?_
  refine ev_if_le_f 45 dX0_pop_4 (by decide) (by rw [hz]; exact nI_nle (by omega) (by omega)) ?_
  refine ev_ald0 dX0_pop_7 ?_
  refine ev_dupr dX0_pop_8 ?_
  refine ev_geti dX0_pop_9 fl_X0_28 rfl ?_
  rw [hz]
  refine ev_iconst (v := 1) dX0_pop_12 (by decide) ?_
  refine ev_isub dX0_pop_13 ?_
  rw [nI_pred]
  refine ev_puti dX0_pop_14 fp_X0_28 rfl ?_
  refine ev_ald0 dX0_pop_17 ?_
  refine ev_ald0 dX0_pop_18 ?_
  refine ev_geti dX0_pop_19 fl_X0_20 rfl ?_
  rw [u2_k _ 30 _ (show 1 ≠ 2 by decide), hx]
  refine ev_bipush (v := 14) dX0_pop_22 (by decide) ?_
  refine ev_iadd dX0_pop_24 ?_
  refine ev_iconst (v := 1) dX0_pop_25 (by decide) ?_
  refine ev_isub dX0_pop_26 ?_
  rw [show nI nx + 14 - 1 = nI (nx + 13) from by rw [show nI nx + 14 = nI (nx + 14) from iadd_n _ _]; exact nI_pred _]
  refine ev_bipush (v := 14) dX0_pop_27 (by decide) ?_
  refine ev_irem dX0_pop_29 (by decide) ?_
  rw [show nI (nx + 13) - nI (nx + 13) / 14 * 14 = nI ((nx + 13) % 14) from nI_rem (b := 14) (by omega) (by decide)]
  refine ev_puti dX0_pop_30 fp_X0_20 rfl ?_
  refine ev_ald0 dX0_pop_33 ?_
  refine ev_getr (r := 31) dX0_pop_34 fl_X0_14 rfl ?_
  refine ev_ald0 dX0_pop_37 ?_
  refine ev_geti dX0_pop_38 fl_X0_20 rfl ?_
  rw [u2_at]
  refine ev_ald1 dX0_pop_41 ?_
  refine ev_V2v (M' := mX8_fetch) dX0_pop_42 lk_X0_37 vX8_fetch rfl (pop_c d ht S _ _ hp (by omega) L) (Nat.le_refl _) (Nat.le_of_ble_eq_true rfl) ?_
  refine ev_vret dX0_pop_45 ?_
  exact ⟨rfl, rfl, rfl⟩
set_option maxRecDepth 10000 in
theorem c_forgetAll (d : Nat) (S : gx_S) (L : gx_L) : Cw d mX0_forgetAll [.ref 30] S L (gx_u2 S 30 2 0) L := by
  refine ct_intro (loc := [some (.ref 30)]) (by decide) (Nat.le_of_ble_eq_true rfl) rfl ?_
  refine ev_ald0 dX0_forgetAll_0 ?_
  refine ev_iconst (v := 0) dX0_forgetAll_1 (by decide) ?_
  refine ev_puti dX0_forgetAll_2 fp_X0_28 rfl ?_
  refine ev_vret dX0_forgetAll_5 ?_
  exact ⟨rfl, rfl, rfl⟩
