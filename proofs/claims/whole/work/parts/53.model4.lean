theorem cpy_s (f g : Nat → Int32) (sp dp i : Nat) : upd (va_cpy f g sp dp i) (dp + i) (f (sp + i)) = va_cpy f g sp dp (i + 1) := by
  funext j
  unfold upd va_cpy
  by_cases h : j = dp + i
  · subst h
    rw [if_pos rfl, if_pos (by omega)]
    congr 1
    omega
  · rw [if_neg h]
    by_cases h2 : dp ≤ j ∧ j < dp + i
    · rw [if_pos h2, if_pos (by omega)]
    · rw [if_neg h2, if_neg (by omega)]
theorem cpy_0 (f g : Nat → Int32) (sp dp : Nat) : va_cpy f g sp dp 0 = g := by
  funext j
  unfold va_cpy
  rw [if_neg (by omega)]
theorem cpy_lay (f g : Nat → Int32) (q p : Nat) : va_cpy f g (15 * q) (15 * p) 15 = layF g p (mT f q) := by
  funext j
  unfold va_cpy layF
  by_cases h : 15 * p ≤ j ∧ j < 15 * p + 15
  · rw [if_pos h, if_pos h]
    obtain ⟨i, rfl⟩ : ∃ i, j = 15 * p + i := ⟨j - 15 * p, by omega⟩
    rw [show 15 * p + i - 15 * p = i by omega]
    unfold flT mT
    dsimp only
    by_cases h1 : i < 5
    · rw [if_pos h1, if_pos h1]
    · by_cases h2 : i < 10
      · rw [if_neg h1, if_pos h2, if_pos (by omega)]
        congr 1
        omega
      · by_cases h3 : i < 14
        · rw [if_neg h1, if_neg h2, if_pos h3, if_pos (by omega)]
          congr 1
          omega
        · rw [if_neg h1, if_neg h2, if_neg h3]
          congr 1
          omega
  · rw [if_neg h, if_neg h]
theorem up_u2 (S : gx_S) (o k : Nat) (g : Nat → Int32) (x : Int32) : gx_u2 (gx_up S o g) o k x = gx_up S o (upd g k x) := by
  unfold gx_u2
  rw [gx_up_at, up_up]
theorem i15m (p : Nat) : (15 : Int32) * nI p = nI (15 * p) := m15 p
set_option maxRecDepth 10000 in
theorem ml_lay (d : Nat) (S : gx_S) (L : gx_L) {Q : Option Value → gx_S → gx_L → Prop}  (kk : Ev mX11_layTrial (d) 29 [some (.ref 44), some (.int (nI (15)))] [] (gx_up S 49 (va_cpy (S 49) (S 49) 0 15 (15))) L Q) : ∀ (nn i : Nat), i + nn = 15 → Ev mX11_layTrial (d) 2 [some (.ref 44), some (.int (nI (i)))] [] (gx_up S 49 (va_cpy (S 49) (S 49) 0 15 (i))) L Q := by
  intro nn
  induction nn with
  | zero =>
    intro i hi
    obtain rfl : i = 15 := hi
    refine ev_ild1 dX11_layTrial_2 ?_
    refine ev_bipush (v := 15) dX11_layTrial_3 (by decide) ?_
    refine ev_icmp_ge_t 29 dX11_layTrial_5 (by decide) (by decide) ?_
    exact kk
  | succ nn ih =>
    intro i hi
    refine ev_ild1 dX11_layTrial_2 ?_
    refine ev_bipush (v := 15) dX11_layTrial_3 (by decide) ?_
    refine ev_icmp_ge_f 29 dX11_layTrial_5 (by decide) (nI_ge (b := 15) (by omega) (by decide)) ?_
    refine ev_ald0 dX11_layTrial_8 ?_
    refine ev_getr (r := 49) dX11_layTrial_9 fl_X11_22 rfl ?_
    refine ev_bipush (v := 15) dX11_layTrial_12 (by decide) ?_
    refine ev_ild1 dX11_layTrial_14 ?_
    refine ev_iadd dX11_layTrial_15 ?_
    refine ev_ald0 dX11_layTrial_16 ?_
    refine ev_getr (r := 49) dX11_layTrial_17 fl_X11_22 rfl ?_
    refine ev_ild1 dX11_layTrial_20 ?_
    refine ev_iald' dX11_layTrial_21 rfl (by omega) (by decide) ?_
    rw [gx_up_at, show va_cpy (S 49) (S 49) 0 15 i i = S 49 (0 + i) from by unfold va_cpy; rw [if_neg (by omega), Nat.zero_add]]
    refine ev_iast2 (j := 15 + i) dX11_layTrial_22 rfl (ix2 15 _) (by omega) (by first | decide | omega) ?_
    rw [up_u2, cpy_s]
    refine ev_inc1 dX11_layTrial_23 (nI_inc _) ?_
    refine ev_goto 2 dX11_layTrial_26 (by decide) ?_
    exact ih (i + 1) (by omega)
set_option maxRecDepth 10000 in
theorem m_layTrial (d : Nat) (S : gx_S) (L : gx_L) : Cw d mX11_layTrial [.ref 44] S L (nS S 1 (mT (S 49) 0)) L := by
  refine ct_intro (loc := [some (.ref 44), none]) (by decide) (Nat.le_of_ble_eq_true rfl) rfl ?_
  refine ev_iconst (v := 0) dX11_layTrial_0 (by decide) ?_
  refine ev_ist1 dX11_layTrial_1 ?_
  have l9 := ml_lay d S L (Q := fun v S1 L1 => v = none ∧ S1 = nS S 1 (mT (S 49) 0) ∧ L1 = L) ?_ 15 0 rfl
  · rw [cpy_0, up_self] at l9
    exact l9
  · refine ev_vret dX11_layTrial_29 ?_
    exact ⟨rfl, congrArg (gx_up S 49) (cpy_lay (S 49) (S 49) 0 1), rfl⟩
/-- the reference's row of acts behind one more -/
def M_keep (S : gx_S) (nx sz : Nat) : gx_S := gx_u2 (gx_u2 (gx_up S 54 (layF (S 54) nx (mT (S 49) 0))) 44 17 (nI (p_nx nx))) 44 16 (nI (p_sz sz))
set_option maxRecDepth 10000 in
theorem ml_keep (d : Nat) (S : gx_S) {nx sz : Nat} (hx : S 44 17 = nI nx) (h14 : nx < 14) (hs : S 44 16 = nI sz) (hs4 : sz ≤ 14) (L : gx_L) {Q : Option Value → gx_S → gx_L → Prop}  (kk : Ev mX11_keepAct (d) 34 [some (.ref 44), some (.int (nI (15)))] [] (gx_up S 54 (va_cpy (S 49) (S 54) 0 (15 * nx) (15))) L Q) : ∀ (nn i : Nat), i + nn = 15 → Ev mX11_keepAct (d) 2 [some (.ref 44), some (.int (nI (i)))] [] (gx_up S 54 (va_cpy (S 49) (S 54) 0 (15 * nx) (i))) L Q := by
  intro nn
  induction nn with
  | zero =>
    intro i hi
    obtain rfl : i = 15 := hi
    refine ev_ild1 dX11_keepAct_2 ?_
    refine ev_bipush (v := 15) dX11_keepAct_3 (by decide) ?_
    refine ev_icmp_ge_t 34 dX11_keepAct_5 (by decide) (by decide) ?_
    exact kk
  | succ nn ih =>
    intro i hi
    refine ev_ild1 dX11_keepAct_2 ?_
    refine ev_bipush (v := 15) dX11_keepAct_3 (by decide) ?_
    refine ev_icmp_ge_f 34 dX11_keepAct_5 (by decide) (nI_ge (b := 15) (by omega) (by decide)) ?_
    refine ev_ald0 dX11_keepAct_8 ?_
    refine ev_getr (r := 54) dX11_keepAct_9 fl_X11_37 rfl ?_
    refine ev_bipush (v := 15) dX11_keepAct_12 (by decide) ?_
    refine ev_ald0 dX11_keepAct_14 ?_
    refine ev_geti dX11_keepAct_15 fl_X11_139 rfl ?_
    rw [gx_up_ne S _ (by decide), hx]
    refine ev_imul dX11_keepAct_18 ?_
    rw [m15]
    refine ev_ild1 dX11_keepAct_19 ?_
    refine ev_iadd dX11_keepAct_20 ?_
    refine ev_ald0 dX11_keepAct_21 ?_
    refine ev_getr (r := 49) dX11_keepAct_22 fl_X11_22 rfl ?_
    refine ev_ild1 dX11_keepAct_25 ?_
    refine ev_iald' dX11_keepAct_26 rfl (by omega) (by decide) ?_
    rw [gx_up_ne S _ (show 49 ≠ 54 by decide), show S 49 i = S 49 (0 + i) from by rw [Nat.zero_add]]
    refine ev_iast2 (j := 15 * nx + i) dX11_keepAct_27 rfl (ix2 _ _) (by omega) (by first | decide | omega) ?_
    rw [up_u2, cpy_s]
    refine ev_inc1 dX11_keepAct_28 (nI_inc _) ?_
    refine ev_goto 2 dX11_keepAct_31 (by decide) ?_
    exact ih (i + 1) (by omega)
set_option maxRecDepth 10000 in
theorem m_keepAct (d : Nat) (S : gx_S) {nx sz : Nat} (hx : S 44 17 = nI nx) (h14 : nx < 14) (hs : S 44 16 = nI sz) (hs4 : sz ≤ 14) (L : gx_L) : Cw d mX11_keepAct [.ref 44] S L (M_keep S nx sz) L := by
  refine ct_intro (loc := [some (.ref 44), none]) (by decide) (Nat.le_of_ble_eq_true rfl) rfl ?_
  refine ev_iconst (v := 0) dX11_keepAct_0 (by decide) ?_
  refine ev_ist1 dX11_keepAct_1 ?_
  have l9 := ml_keep d S hx h14 hs hs4 L (Q := fun v S1 L1 => v = none ∧ S1 = M_keep S nx sz ∧ L1 = L) ?_ 15 0 rfl
  · rw [cpy_0, up_self] at l9
    exact l9
  · skip
    refine ev_ald0 dX11_keepAct_34 ?_
    refine ev_ald0 dX11_keepAct_35 ?_
    refine ev_geti dX11_keepAct_36 fl_X11_139 rfl ?_
    rw [gx_up_ne S _ (by decide), hx]
    refine ev_iconst (v := 1) dX11_keepAct_39 (by decide) ?_
    refine ev_iadd dX11_keepAct_40 ?_
    rw [nI_1]
    refine ev_bipush (v := 14) dX11_keepAct_41 (by decide) ?_
    refine ev_irem dX11_keepAct_43 (by decide) ?_
    rw [show nI (nx + 1) - nI (nx + 1) / 14 * 14 = nI ((nx + 1) % 14) from nI_rem (b := 14) (by omega) (by decide)]
    refine ev_puti dX11_keepAct_44 fp_X11_139 rfl ?_
    refine ev_ald0 dX11_keepAct_47 ?_
    refine ev_ald0 dX11_keepAct_48 ?_
    refine ev_geti dX11_keepAct_49 fl_X11_108 rfl ?_
    rw [u2_k _ 44 _ (by decide), gx_up_ne S _ (by decide), hs]
    refine ev_bipush (v := 14) dX11_keepAct_52 (by decide) ?_
    refine ev_icmp_ge 66 dX11_keepAct_54 (by decide) (fun c_54 => ?_) (fun c_54 => ?_)
    · refine ev_bipush (v := 14) dX11_keepAct_66 (by decide) ?_
      refine ev_puti dX11_keepAct_68 fp_X11_108 rfl ?_
      refine ev_vret dX11_keepAct_71 ?_
      exact ⟨rfl, by rw [show (14 : Int32) = nI (p_sz sz) from by unfold p_sz; rw [if_neg (fun h9 => absurd c_54 (nI_ge (b := 14) h9 (by decide)))]; rfl]; rw [show va_cpy (S 49) (S 54) 0 (15 * nx) 15 = layF (S 54) nx (mT (S 49) 0) from cpy_lay (S 49) (S 54) 0 nx]; rfl, rfl⟩
    · refine ev_ald0 dX11_keepAct_57 ?_
      refine ev_geti dX11_keepAct_58 fl_X11_108 rfl ?_
      rw [u2_k _ 44 _ (by decide), gx_up_ne S _ (by decide), hs]
      refine ev_iconst (v := 1) dX11_keepAct_61 (by decide) ?_
      refine ev_iadd dX11_keepAct_62 ?_
      rw [nI_1]
      refine ev_goto 68 dX11_keepAct_63 (by decide) ?_
      refine ev_puti dX11_keepAct_68 fp_X11_108 rfl ?_
      refine ev_vret dX11_keepAct_71 ?_
      exact ⟨rfl, by rw [show nI (sz + 1) = nI (p_sz sz) from by unfold p_sz; rw [if_pos (Nat.lt_of_not_le (fun h9 => c_54 (nI_le (a := 14) h9 (by omega))))]]; rw [show va_cpy (S 49) (S 54) 0 (15 * nx) 15 = layF (S 54) nx (mT (S 49) 0) from cpy_lay (S 49) (S 54) 0 nx]; rfl, rfl⟩
set_option maxRecDepth 10000 in
theorem m_undo0 (d : Nat) (S : gx_S) (hs : S 44 16 = nI 0) (L : gx_L) : Cf d mX11_undo [.ref 44] S L (-3) S L := by
  refine ct_intro (loc := [some (.ref 44), none]) (by decide) (Nat.le_of_ble_eq_true rfl) rfl ?_
  refine ev_ald0 dX11_undo_0 ?_
  refine ev_geti dX11_undo_1 fl_X11_108 rfl ?_
  refine ev_if_ne_f 10 dX11_undo_4 (by decide) hs ?_
  refine ev_bipush (v := (-3)) dX11_undo_7 (by decide) ?_
  refine ev_iret dX11_undo_9 ?_
  exact ⟨_, rfl, rfl, rfl, rfl⟩
set_option maxRecDepth 10000 in
theorem ml_undo (d : Nat) (S : gx_S) (nx sz : Nat) (L : gx_L) {Q : Option Value → gx_S → gx_L → Prop}  (kk : Ev mX11_undo (d) 68 [some (.ref 44), some (.int (nI (15)))] [] (gx_up (gx_u2 (gx_u2 S 44 16 (nI sz)) 44 17 (nI ((nx + 13) % 14))) 49 (va_cpy (S 54) (S 49) (15 * ((nx + 13) % 14)) 0 (15))) L Q) : ∀ (nn i : Nat), i + nn = 15 → Ev mX11_undo (d) 36 [some (.ref 44), some (.int (nI (i)))] [] (gx_up (gx_u2 (gx_u2 S 44 16 (nI sz)) 44 17 (nI ((nx + 13) % 14))) 49 (va_cpy (S 54) (S 49) (15 * ((nx + 13) % 14)) 0 (i))) L Q := by
  intro nn
  induction nn with
  | zero =>
    intro i hi
    obtain rfl : i = 15 := hi
    refine ev_ild1 dX11_undo_36 ?_
    refine ev_bipush (v := 15) dX11_undo_37 (by decide) ?_
    refine ev_icmp_ge_t 68 dX11_undo_39 (by decide) (by decide) ?_
    exact kk
  | succ nn ih =>
    intro i hi
    have hmd : (nx + 13) % 14 < 14 := Nat.mod_lt _ (by decide)
    refine ev_ild1 dX11_undo_36 ?_
    refine ev_bipush (v := 15) dX11_undo_37 (by decide) ?_
    refine ev_icmp_ge_f 68 dX11_undo_39 (by decide) (nI_ge (b := 15) (by omega) (by decide)) ?_
    refine ev_ald0 dX11_undo_42 ?_
    refine ev_getr (r := 49) dX11_undo_43 fl_X11_22 rfl ?_
    refine ev_ild1 dX11_undo_46 ?_
    refine ev_ald0 dX11_undo_47 ?_
    refine ev_getr (r := 54) dX11_undo_48 fl_X11_37 rfl ?_
    refine ev_bipush (v := 15) dX11_undo_51 (by decide) ?_
    refine ev_ald0 dX11_undo_53 ?_
    refine ev_geti dX11_undo_54 fl_X11_139 rfl ?_
    rw [gx_up_ne _ _ (by decide), u2_at]
    refine ev_imul dX11_undo_57 ?_
    rw [m15]
    refine ev_ild1 dX11_undo_58 ?_
    refine ev_iadd dX11_undo_59 ?_
    refine ev_iald2 (j := 15 * ((nx + 13) % 14) + i) dX11_undo_60 rfl (ix2 _ _) (by omega) (by first | decide | omega) ?_
    rw [gx_up_ne _ _ (show 54 ≠ 49 by decide), u2_o _ _ _ (show 54 ≠ 44 by decide), u2_o _ _ _ (show 54 ≠ 44 by decide)]
    refine ev_iast' dX11_undo_61 rfl (by omega) (by decide) ?_
    rw [up_u2, show upd (va_cpy (S 54) (S 49) (15 * ((nx + 13) % 14)) 0 i) i (S 54 (15 * ((nx + 13) % 14) + i)) = va_cpy (S 54) (S 49) (15 * ((nx + 13) % 14)) 0 (i + 1) from by have e := cpy_s (S 54) (S 49) (15 * ((nx + 13) % 14)) 0 i; rw [Nat.zero_add] at e; exact e]
    refine ev_inc1 dX11_undo_62 (nI_inc _) ?_
    refine ev_goto 36 dX11_undo_65 (by decide) ?_
    exact ih (i + 1) (by omega)
set_option maxRecDepth 10000 in
theorem m_undo (d : Nat) (S : gx_S) {nx sz : Nat} (hx : S 44 17 = nI nx) (h14 : nx < 14) (hs : S 44 16 = nI (sz + 1)) (hs4 : sz + 1 ≤ 14) (L : gx_L) : Cf d mX11_undo [.ref 44] S L (nI sz) (nS (gx_u2 (gx_u2 S 44 16 (nI sz)) 44 17 (nI ((nx + 13) % 14))) 0 (mT (S 54) ((nx + 13) % 14))) L := by
  refine ct_intro (loc := [some (.ref 44), none]) (by decide) (Nat.le_of_ble_eq_true rfl) rfl ?_
  refine ev_ald0 dX11_undo_0 ?_
  refine ev_geti dX11_undo_1 fl_X11_108 rfl ?_
  refine ev_if_ne_t 10 dX11_undo_4 (by decide) (by rw [hs]; exact nI_ne0 (by omega) (by omega)) ?_
  refine ev_ald0 dX11_undo_10 ?_
  refine ev_dupr dX11_undo_11 ?_
  refine ev_geti dX11_undo_12 fl_X11_108 rfl ?_
  rw [hs]
  refine ev_iconst (v := 1) dX11_undo_15 (by decide) ?_
  refine ev_isub dX11_undo_16 ?_
  rw [nI_pred]
  refine ev_puti dX11_undo_17 fp_X11_108 rfl ?_
  refine ev_ald0 dX11_undo_20 ?_
  refine ev_ald0 dX11_undo_21 ?_
  refine ev_geti dX11_undo_22 fl_X11_139 rfl ?_
  rw [u2_k _ 44 _ (by decide), hx]
  refine ev_bipush (v := 13) dX11_undo_25 (by decide) ?_
  refine ev_iadd dX11_undo_27 ?_
  rw [show nI nx + 13 = nI (nx + 13) from ix2 _ 13]
  refine ev_bipush (v := 14) dX11_undo_28 (by decide) ?_
  refine ev_irem dX11_undo_30 (by decide) ?_
  rw [show nI (nx + 13) - nI (nx + 13) / 14 * 14 = nI ((nx + 13) % 14) from nI_rem (b := 14) (by omega) (by decide)]
  refine ev_puti dX11_undo_31 fp_X11_139 rfl ?_
  refine ev_iconst (v := 0) dX11_undo_34 (by decide) ?_
  refine ev_ist1 dX11_undo_35 ?_
  have l9 := ml_undo d S nx sz L (Q := fun v S1 L1 => ∃ r : Int32, v = some (.int r) ∧ r = nI sz ∧ S1 = nS (gx_u2 (gx_u2 S 44 16 (nI sz)) 44 17 (nI ((nx + 13) % 14))) 0 (mT (S 54) ((nx + 13) % 14)) ∧ L1 = L) ?_ 15 0 rfl
  · rw [cpy_0, show gx_up (gx_u2 (gx_u2 S 44 16 (nI sz)) 44 17 (nI ((nx + 13) % 14))) 49 (S 49) = gx_u2 (gx_u2 S 44 16 (nI sz)) 44 17 (nI ((nx + 13) % 14)) from by conv => lhs; rw [show S 49 = gx_u2 (gx_u2 S 44 16 (nI sz)) 44 17 (nI ((nx + 13) % 14)) 49 from by rw [u2_o _ _ _ (by decide), u2_o _ _ _ (by decide)], up_self]] at l9
    exact l9
  · refine ev_ald0 dX11_undo_68 ?_
    refine ev_geti dX11_undo_69 fl_X11_108 rfl ?_
    rw [gx_up_ne _ _ (by decide), u2_k _ 44 _ (by decide), u2_at]
    refine ev_iret dX11_undo_72 ?_
    refine ⟨_, rfl, rfl, ?_, rfl⟩
    unfold nS
    rw [show va_cpy (S 54) (S 49) (15 * ((nx + 13) % 14)) 0 15 = layF (S 49) 0 (mT (S 54) ((nx + 13) % 14)) from cpy_lay (S 54) (S 49) ((nx + 13) % 14) 0, u2_o _ _ _ (show 49 ≠ 44 by decide), u2_o _ _ _ (show 49 ≠ 44 by decide)]
set_option maxRecDepth 10000 in
theorem m_roomIn (d : Nat) (S : gx_S) {ng nd : Nat} {ms gk dk sb : Nat → Int32} (hm : mH S ng nd ms gk dk sb) {lv g : Nat} (hl : lv ≤ 1) (hg : g < ng) (T : Tb) (L : gx_L) : Cf d mX11_roomIn [.ref 44, .int (nI lv), .int (nI g)] (nS S lv T) L (ms g - T.1 g) (nS S lv T) L := by
  refine ct_intro (loc := [some (.ref 44), some (.int (nI lv)), some (.int (nI g))]) (by decide) (Nat.le_of_ble_eq_true rfl) rfl ?_
  have h59 := hm.2.1
  have hgg := hm.2.2.2.2.1 g hg
  refine ev_ald0 dX11_roomIn_0 ?_
  refine ev_getr (r := 45) dX11_roomIn_1 fl_X11_7 rfl ?_
  refine ev_ild2 dX11_roomIn_4 ?_
  refine ev_iald' dX11_roomIn_5 rfl (by omega) (by decide) ?_
  rw [nS_o S lv T (by decide), hgg.1]
  refine ev_ald0 dX11_roomIn_6 ?_
  refine ev_getr (r := 49) dX11_roomIn_7 fl_X11_22 rfl ?_
  refine ev_bipush (v := 15) dX11_roomIn_10 (by decide) ?_
  refine ev_ild1 dX11_roomIn_12 ?_
  refine ev_imul dX11_roomIn_13 ?_
  rw [m15]
  refine ev_ild2 dX11_roomIn_14 ?_
  refine ev_iadd dX11_roomIn_15 ?_
  refine ev_iald2 (j := 15 * lv + g) dX11_roomIn_16 rfl (ix2 _ _) (by omega) (by first | decide | omega) ?_
  rw [nS_c S lv T (by omega)]
  refine ev_isub dX11_roomIn_17 ?_
  refine ev_iret dX11_roomIn_18 ?_
  exact ⟨_, rfl, rfl, rfl, rfl⟩
theorem mn_eq (r n : Int32) : (if r ≤ n then r else n) = (if r < n then r else n) := by
  by_cases h : r < n
  · rw [if_pos h, if_pos (Int32.le_of_lt h)]
  · rw [if_neg h]
    by_cases h2 : r ≤ n
    · rw [if_pos h2]
      exact Int32.le_antisymm h2 (Int32.not_lt.mp h)
    · rw [if_neg h2]
theorem mx_eq (a b : Int32) : (if a ≤ b then b else a) = (if a < b then b else a) := by
  by_cases h : a < b
  · rw [if_pos h, if_pos (Int32.le_of_lt h)]
  · rw [if_neg h]
    by_cases h2 : a ≤ b
    · rw [if_pos h2]
      exact Int32.le_antisymm (Int32.not_lt.mp h) h2
    · rw [if_neg h2]
def q_w (ms : Nat → Int32) (T : Tb) (g : Nat) (n : Int32) : Int32 := if ms g - T.1 g < n then ms g - T.1 g else n
def q_pourT (ms : Nat → Int32) (T : Tb) (g : Nat) (n : Int32) : Tb := (upd T.1 g (T.1 g + q_w ms T g n), upd T.2.1 g 0, T.2.2)
set_option maxRecDepth 10000 in
theorem m_pourOn (d : Nat) (S : gx_S) {ng nd : Nat} {ms gk dk sb : Nat → Int32} (hm : mH S ng nd ms gk dk sb) {lv g : Nat} (hl : lv ≤ 1) (hg : g < ng) (T : Tb) (n : Int32) (L : gx_L) : Cf (d + 1) mX11_pourOn [.ref 44, .int (nI lv), .int (nI g), .int n] (nS S lv T) L (q_w ms T g n) (nS S lv (q_pourT ms T g n)) L := by
  refine ct_intro (loc := [some (.ref 44), some (.int (nI lv)), some (.int (nI g)), some (.int n), none]) (by decide) (Nat.le_of_ble_eq_true rfl) rfl ?_
  have h59 := hm.2.1
  have e9 : q_w ms T g n = if ms g - T.1 g ≤ n then ms g - T.1 g else n := (mn_eq _ _).symm
  refine ev_ild3 dX11_pourOn_0 ?_
  refine ev_ald0 dX11_pourOn_1 ?_
  refine ev_ild1 dX11_pourOn_2 ?_
  refine ev_ild2 dX11_pourOn_3 ?_
  refine ev_V2i (M' := mX11_roomIn) dX11_pourOn_4 lk_X11_142 vX11_roomIn rfl (m_roomIn d S hm hl hg T L) (Nat.le_refl _) (Nat.le_of_ble_eq_true rfl) ?_
  refine ev_icmp_ge 14 dX11_pourOn_7 (by decide) (fun c_7 => ?_) (fun c_7 => ?_)
  · refine ev_ald0 dX11_pourOn_14 ?_
    refine ev_ild1 dX11_pourOn_15 ?_
    refine ev_ild2 dX11_pourOn_16 ?_
    refine ev_V2i (M' := mX11_roomIn) dX11_pourOn_17 lk_X11_142 vX11_roomIn rfl (m_roomIn d S hm hl hg T L) (Nat.le_refl _) (Nat.le_of_ble_eq_true rfl) ?_
    refine ev_ist4 dX11_pourOn_20 ?_
    refine ev_ald0 dX11_pourOn_22 ?_
    refine ev_getr (r := 49) dX11_pourOn_23 fl_X11_22 rfl ?_
    refine ev_bipush (v := 15) dX11_pourOn_26 (by decide) ?_
    refine ev_ild1 dX11_pourOn_28 ?_
    refine ev_imul dX11_pourOn_29 ?_
    rw [m15]
    refine ev_ild2 dX11_pourOn_30 ?_
    refine ev_iadd dX11_pourOn_31 ?_
    refine ev_dup2 dX11_pourOn_32 ?_
    refine ev_iald2 (j := 15 * lv + g) dX11_pourOn_33 rfl (ix2 _ _) (by omega) (by first | decide | omega) ?_
    rw [nS_c S lv T (by omega)]
    refine ev_ild4 dX11_pourOn_34 ?_
    refine ev_iadd dX11_pourOn_36 ?_
    refine ev_iast2 (j := 15 * lv + g) dX11_pourOn_37 rfl (ix2 _ _) (by omega) (by first | decide | omega) ?_
    rw [nS_uc S lv T (by omega)]
    refine ev_ald0 dX11_pourOn_38 ?_
    refine ev_getr (r := 49) dX11_pourOn_39 fl_X11_22 rfl ?_
    refine ev_bipush (v := 15) dX11_pourOn_42 (by decide) ?_
    refine ev_ild1 dX11_pourOn_44 ?_
    refine ev_imul dX11_pourOn_45 ?_
    rw [m15]
    refine ev_iconst (v := 5) dX11_pourOn_46 (by decide) ?_
    refine ev_iadd dX11_pourOn_47 ?_
    refine ev_ild2 dX11_pourOn_48 ?_
    refine ev_iadd dX11_pourOn_49 ?_
    refine ev_iconst (v := 0) dX11_pourOn_50 (by decide) ?_
    refine ev_iast2 (j := 15 * lv + 5 + g) dX11_pourOn_51 rfl (ix3 _ 5 _) (by omega) (by first | decide | omega) ?_
    rw [nS_ua S lv _ (by omega)]
    refine ev_ild4 dX11_pourOn_52 ?_
    refine ev_iret dX11_pourOn_54 ?_
    rw [if_pos c_7] at e9
    exact ⟨_, rfl, e9.symm, by unfold q_pourT; rw [e9], rfl⟩
  · refine ev_ild3 dX11_pourOn_10 ?_
    refine ev_goto 20 dX11_pourOn_11 (by decide) ?_
    refine ev_ist4 dX11_pourOn_20 ?_
    refine ev_ald0 dX11_pourOn_22 ?_
    refine ev_getr (r := 49) dX11_pourOn_23 fl_X11_22 rfl ?_
    refine ev_bipush (v := 15) dX11_pourOn_26 (by decide) ?_
    refine ev_ild1 dX11_pourOn_28 ?_
    refine ev_imul dX11_pourOn_29 ?_
    rw [m15]
    refine ev_ild2 dX11_pourOn_30 ?_
    refine ev_iadd dX11_pourOn_31 ?_
    refine ev_dup2 dX11_pourOn_32 ?_
    refine ev_iald2 (j := 15 * lv + g) dX11_pourOn_33 rfl (ix2 _ _) (by omega) (by first | decide | omega) ?_
    rw [nS_c S lv T (by omega)]
    refine ev_ild4 dX11_pourOn_34 ?_
    refine ev_iadd dX11_pourOn_36 ?_
    refine ev_iast2 (j := 15 * lv + g) dX11_pourOn_37 rfl (ix2 _ _) (by omega) (by first | decide | omega) ?_
    rw [nS_uc S lv T (by omega)]
    refine ev_ald0 dX11_pourOn_38 ?_
    refine ev_getr (r := 49) dX11_pourOn_39 fl_X11_22 rfl ?_
    refine ev_bipush (v := 15) dX11_pourOn_42 (by decide) ?_
    refine ev_ild1 dX11_pourOn_44 ?_
    refine ev_imul dX11_pourOn_45 ?_
    rw [m15]
    refine ev_iconst (v := 5) dX11_pourOn_46 (by decide) ?_
    refine ev_iadd dX11_pourOn_47 ?_
    refine ev_ild2 dX11_pourOn_48 ?_
    refine ev_iadd dX11_pourOn_49 ?_
    refine ev_iconst (v := 0) dX11_pourOn_50 (by decide) ?_
    refine ev_iast2 (j := 15 * lv + 5 + g) dX11_pourOn_51 rfl (ix3 _ 5 _) (by omega) (by first | decide | omega) ?_
    rw [nS_ua S lv _ (by omega)]
    refine ev_ild4 dX11_pourOn_52 ?_
    refine ev_iret dX11_pourOn_54 ?_
    rw [if_neg c_7] at e9
    exact ⟨_, rfl, e9.symm, by unfold q_pourT; rw [e9], rfl⟩
