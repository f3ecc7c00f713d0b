def rdP (S : gx_S) (R : Int32 × Hd) (L : gx_L) (r : Int32) (S1 : gx_S) (L1 : gx_L) : Prop := r = R.1 ∧ (∃ (p fa g d : Int32) (G D Z : Nat → Int32), S1 = rM S p fa g d G D Z ∧ (r = -9 → ∃ ng nd, g = nI ng ∧ d = nI nd ∧ rH G D Z ng nd R.2)) ∧ L1 = L
theorem rH_0 (G D Z : Nat → Int32) (hz : ∀ i, i < 4 → Z i = 0) : rH G D Z 0 0 H0 := ⟨rfl, rfl, by decide, by decide, fun g hg => absurd hg (Nat.not_lt_zero _), fun g hg => absurd hg (Nat.not_lt_zero _), hz, fun _ => ⟨0, by decide, rfl⟩, fun _ _ => ⟨rfl, rfl, rfl⟩, fun _ _ => ⟨rfl, rfl, rfl⟩⟩
set_option maxRecDepth 10000 in
theorem l_rdF (d : Nat) (S : gx_S) (q : Nat) (hq : q < 64) (p g d9 : Int32) (G D Z : Nat → Int32) (R : Int32 × Hd) (hR : R.1 = nI q) (z : Option Value) (L : gx_L) : Ev mX11_readText (d + 3) 66 [some (.ref 44), z] [] (rM S p (nI q) g d9 G D Z) L (fun v S' L' => ∃ r : Int32, v = some (.int r) ∧ rdP S R L r S' L') := by
  refine ev_ald0 dX11_readText_66 ?_
  refine ev_geti dX11_readText_67 fl_X11_69 rfl ?_
  refine ev_bipush (v := (-9)) dX11_readText_70 (by decide) ?_
  refine ev_icmp_ne_t 102 dX11_readText_72 (by decide) (nI_n9b q hq) ?_
  refine ev_ald0 dX11_readText_102 ?_
  refine ev_geti dX11_readText_103 fl_X11_69 rfl ?_
  rw [rM_fa]
  refine ev_iret dX11_readText_106 ?_
  exact ⟨_, rfl, hR.symm, ⟨_, _, _, _, _, _, _, rfl, fun h9 => absurd h9 (nI_n9b q hq)⟩, rfl⟩
set_option maxRecDepth 10000 in
theorem l_rd (d : Nat) (S : gx_S) {len : Nat} (hlen : S 44 13 = nI len) (h60 : len ≤ 60) (hf : okL (S 53) len) (R : Int32 × Hd) (L : gx_L) : ∀ (n p ng nd : Nat) (G D Z : Nat → Int32) (H : Hd) (z : Option Value), rH G D Z ng nd H → len ≤ p + n → p ≤ len → pz (S 53) len n p ng nd H = R → Ev mX11_readText (d + 3) 66 [some (.ref 44), z] [] (rM S (nI p) (-9) (nI ng) (nI nd) G D Z) L (fun v S' L' => ∃ r : Int32, v = some (.int r) ∧ rdP S R L r S' L') := by
  intro n
  induction n with
  | zero =>
    intro p ng nd G D Z H z hr hn hp hR
    have hpz : pz (S 53) len 0 p ng nd H = (-9, H) := rfl
    refine ev_ald0 dX11_readText_66 ?_
    refine ev_geti dX11_readText_67 fl_X11_69 rfl ?_
    refine ev_bipush (v := (-9)) dX11_readText_70 (by decide) ?_
    refine ev_icmp_ne_f 102 dX11_readText_72 (by decide) rfl ?_
    refine ev_ald0 dX11_readText_75 ?_
    refine ev_geti dX11_readText_76 fl_X11_72 rfl ?_
    refine ev_ald0 dX11_readText_79 ?_
    refine ev_geti dX11_readText_80 fl_X11_66 rfl ?_
    refine ev_icmp_ge_t 102 dX11_readText_83 (by decide) (by rw [r13, hlen]; exact nI_le (by omega) (by omega)) ?_
    refine ev_ald0 dX11_readText_102 ?_
    refine ev_geti dX11_readText_103 fl_X11_69 rfl ?_
    rw [rM_fa]
    refine ev_iret dX11_readText_106 ?_
    exact ⟨_, rfl, by rw [← hR, hpz], ⟨_, _, _, _, _, _, _, rfl, fun _ => ⟨ng, nd, rfl, rfl, by rw [← hR, hpz]; exact hr⟩⟩, rfl⟩
  | succ n ih =>
    intro p ng nd G D Z H z hr hn hp hR
    rcases Nat.lt_or_ge p len with hpl | hpl
    · obtain ⟨p', fa, g, d', G', D', Z', hc, hk⟩ := m_part d S hlen h60 hf hr hpl n L
      refine ev_ald0 dX11_readText_66 ?_
      refine ev_geti dX11_readText_67 fl_X11_69 rfl ?_
      refine ev_bipush (v := (-9)) dX11_readText_70 (by decide) ?_
      refine ev_icmp_ne_f 102 dX11_readText_72 (by decide) rfl ?_
      refine ev_ald0 dX11_readText_75 ?_
      refine ev_geti dX11_readText_76 fl_X11_72 rfl ?_
      refine ev_ald0 dX11_readText_79 ?_
      refine ev_geti dX11_readText_80 fl_X11_66 rfl ?_
      refine ev_icmp_ge_f 102 dX11_readText_83 (by decide) (by rw [r13, hlen]; exact nI_ge hpl (by omega)) ?_
      refine ev_ald0 dX11_readText_86 ?_
      refine ev_ald0 dX11_readText_87 ?_
      refine ev_getr (r := 53) dX11_readText_88 fl_X11_34 rfl ?_
      refine ev_ald0 dX11_readText_91 ?_
      refine ev_geti dX11_readText_92 fl_X11_72 rfl ?_
      refine ev_iald2 (j := p) dX11_readText_95 rfl rfl (by omega) (by first | decide | omega) ?_
      rw [r53]
      refine ev_V1v (M' := mX11_readPart) dX11_readText_96 lk_X11_91 vX11_readPart rfl (hc) (Nat.le_refl _) (Nat.le_of_ble_eq_true rfl) ?_
      refine ev_goto 66 dX11_readText_99 (by decide) ?_
      rcases hk with ⟨q, hq, rfl, e9⟩ | ⟨rfl, p1, ng1, nd1, H1, rfl, h1, h2, rfl, rfl, h3, e9⟩
      · exact l_rdF d S q hq _ _ _ _ _ _ _ (by rw [← hR, e9]) z L
      · exact ih p1 ng1 nd1 _ _ _ H1 z h3 (by omega) (by omega) (by rw [← e9]; exact hR)
    · have hpz : pz (S 53) len (n + 1) p ng nd H = (-9, H) := if_pos hpl
      refine ev_ald0 dX11_readText_66 ?_
      refine ev_geti dX11_readText_67 fl_X11_69 rfl ?_
      refine ev_bipush (v := (-9)) dX11_readText_70 (by decide) ?_
      refine ev_icmp_ne_f 102 dX11_readText_72 (by decide) rfl ?_
      refine ev_ald0 dX11_readText_75 ?_
      refine ev_geti dX11_readText_76 fl_X11_72 rfl ?_
      refine ev_ald0 dX11_readText_79 ?_
      refine ev_geti dX11_readText_80 fl_X11_66 rfl ?_
      refine ev_icmp_ge_t 102 dX11_readText_83 (by decide) (by rw [r13, hlen]; exact nI_le (by omega) (by omega)) ?_
      refine ev_ald0 dX11_readText_102 ?_
      refine ev_geti dX11_readText_103 fl_X11_69 rfl ?_
      rw [rM_fa]
      refine ev_iret dX11_readText_106 ?_
      exact ⟨_, rfl, by rw [← hR, hpz], ⟨_, _, _, _, _, _, _, rfl, fun _ => ⟨ng, nd, rfl, rfl, by rw [← hR, hpz]; exact hr⟩⟩, rfl⟩
def cl4 (f : Nat → Int32) (n : Nat) : Nat → Int32 := fun j => if j < n then 0 else f j
theorem cl4_s (f : Nat → Int32) (n : Nat) : upd (cl4 f n) n 0 = cl4 f (n + 1) := by
  funext j
  unfold upd cl4
  by_cases h : j = n
  · subst h
    rw [if_pos rfl, if_pos (by omega)]
  · rw [if_neg h]
    by_cases h1 : j < n
    · rw [if_pos h1, if_pos (by omega)]
    · rw [if_neg h1, if_neg (by omega)]
theorem cl4_0 (f : Nat → Int32) : cl4 f 0 = f := by
  funext j
  exact if_neg (Nat.not_lt_zero _)
theorem rd_ini (S : gx_S) : gx_u2 (gx_u2 (gx_u2 (gx_u2 S 44 14 0) 44 15 (-9)) 44 10 0) 44 11 0 = rM S 0 (-9) 0 0 (S 50) (S 51) (S 52) := by
  conv => lhs; rw [← rM_self S]
  rw [rM_u14, rM_u15, rM_u10, rM_u11]
set_option maxRecDepth 10000 in
theorem l_cl (d : Nat) (S : gx_S) (L : gx_L) {Q : Option Value → gx_S → gx_L → Prop}  (kk : Ev mX11_readText (d) 41 [some (.ref 44), some (.int (nI (4)))] [] (rM S 0 (-9) 0 0 (S 50) (S 51) (cl4 (S 52) (4))) L Q) : ∀ (nn i : Nat), i + nn = 4 → Ev mX11_readText (d) 23 [some (.ref 44), some (.int (nI (i)))] [] (rM S 0 (-9) 0 0 (S 50) (S 51) (cl4 (S 52) (i))) L Q := by
  intro nn
  induction nn with
  | zero =>
    intro i hi
    obtain rfl : i = 4 := hi
    refine ev_ild1 dX11_readText_23 ?_
    refine ev_iconst (v := 4) dX11_readText_24 (by decide) ?_
    refine ev_icmp_ge_t 41 dX11_readText_25 (by decide) (by decide) ?_
    exact kk
  | succ nn ih =>
    intro i hi
    refine ev_ild1 dX11_readText_23 ?_
    refine ev_iconst (v := 4) dX11_readText_24 (by decide) ?_
    refine ev_icmp_ge_f 41 dX11_readText_25 (by decide) (nI_ge (b := 4) (by omega) (by decide)) ?_
    refine ev_ald0 dX11_readText_28 ?_
    refine ev_getr (r := 52) dX11_readText_29 fl_X11_31 rfl ?_
    refine ev_ild1 dX11_readText_32 ?_
    refine ev_iconst (v := 0) dX11_readText_33 (by decide) ?_
    refine ev_iast' dX11_readText_34 rfl (by omega) (by decide) ?_
    rw [rM_uQ, cl4_s]
    refine ev_inc1 dX11_readText_35 (nI_inc _) ?_
    refine ev_goto 23 dX11_readText_38 (by decide) ?_
    exact ih (i + 1) (by omega)
set_option maxRecDepth 10000 in
theorem m_readText (d : Nat) (S : gx_S) {len : Nat} (hlen : S 44 13 = nI len) (h60 : len ≤ 60) (hf : okL (S 53) len) (L : gx_L) : Ci (d + 3) mX11_readText [.ref 44] S L (rdP S (p_read (S 53) len) L) := by
  refine ct_intro (loc := [some (.ref 44), none]) (by decide) (Nat.le_of_ble_eq_true rfl) rfl ?_
  refine ev_ald0 dX11_readText_0 ?_
  refine ev_iconst (v := 0) dX11_readText_1 (by decide) ?_
  refine ev_puti dX11_readText_2 fp_X11_72 rfl ?_
  refine ev_ald0 dX11_readText_5 ?_
  refine ev_bipush (v := (-9)) dX11_readText_6 (by decide) ?_
  refine ev_puti dX11_readText_8 fp_X11_69 rfl ?_
  refine ev_ald0 dX11_readText_11 ?_
  refine ev_iconst (v := 0) dX11_readText_12 (by decide) ?_
  refine ev_puti dX11_readText_13 fp_X11_81 rfl ?_
  refine ev_ald0 dX11_readText_16 ?_
  refine ev_iconst (v := 0) dX11_readText_17 (by decide) ?_
  refine ev_puti dX11_readText_18 fp_X11_84 rfl ?_
  refine ev_iconst (v := 0) dX11_readText_21 (by decide) ?_
  refine ev_ist1 dX11_readText_22 ?_
  rw [rd_ini]
  have l9 := l_cl (d + 3) S L (Q := fun v S1 L1 => ∃ r : Int32, v = some (.int r) ∧ rdP S (p_read (S 53) len) L r S1 L1) ?_ 4 0 rfl
  · rw [cl4_0] at l9
    exact l9
  · skip
    refine ev_ald0 dX11_readText_41 ?_
    refine ev_geti dX11_readText_42 fl_X11_66 rfl ?_
    rw [r13, hlen]
    refine ev_if_eq 59 dX11_readText_45 (by decide) (fun c_45 => ?_) (fun c_45 => ?_)
    · refine ev_iconst (v := 0) dX11_readText_59 (by decide) ?_
      refine ev_iret dX11_readText_60 ?_
      have eR : p_read (S 53) len = (0, H0) := if_pos ((nI_eq (by omega) (by decide)).mp c_45)
      exact ⟨_, rfl, by rw [eR], ⟨_, _, _, _, _, _, _, rfl, fun h9 => absurd h9 (by decide)⟩, rfl⟩
    · refine ev_ald0 dX11_readText_48 ?_
      refine ev_getr (r := 53) dX11_readText_49 fl_X11_34 rfl ?_
      refine ev_iconst (v := 0) dX11_readText_52 (by decide) ?_
      refine ev_iald2 (j := 0) dX11_readText_53 rfl rfl (by omega) (by first | decide | omega) ?_
      rw [r53]
      refine ev_bipush (v := 71) dX11_readText_54 (by decide) ?_
      refine ev_icmp_eq 61 dX11_readText_56 (by decide) (fun c_56 => ?_) (fun c_56 => ?_)
      · refine ev_ald0 dX11_readText_61 ?_
        refine ev_iconst (v := 1) dX11_readText_62 (by decide) ?_
        refine ev_puti dX11_readText_63 fp_X11_72 rfl ?_
        rw [rM_u14]
        have hl0 : ¬ len = 0 := fun h9 => c_45 (by rw [h9]; rfl)
        have eR : p_read (S 53) len = pz (S 53) len len 1 0 0 H0 := (if_neg hl0).trans (if_pos c_56)
        rw [eR]
        exact l_rd d S hlen h60 hf _ L len 1 0 0 _ _ _ H0 _ (rH_0 _ _ _ (fun i hi => if_pos hi)) (by omega) (by omega) rfl
      · refine ev_iconst (v := 0) dX11_readText_59 (by decide) ?_
        refine ev_iret dX11_readText_60 ?_
        have eR : p_read (S 53) len = (0, H0) := (if_neg (fun h9 => c_45 (by rw [h9]; rfl))).trans (if_neg c_56)
        exact ⟨_, rfl, by rw [eR], ⟨_, _, _, _, _, _, _, rfl, fun h9 => absurd h9 (by decide)⟩, rfl⟩
set_option maxRecDepth 10000 in
theorem m_fault (d : Nat) (S : gx_S) {len : Nat} (hlen : S 44 13 = nI len) (h60 : len ≤ 60) (hf : okL (S 53) len) (L : gx_L) : Ci (d + 4) mX11_fault [.ref 44] S L (rdP S (p_read (S 53) len) L) := by
  refine ct_intro (loc := [some (.ref 44)]) (by decide) (Nat.le_of_ble_eq_true rfl) rfl ?_
  refine ev_ald0 dX11_fault_0 ?_
  refine ev_V0iq (M' := mX11_readText) dX11_fault_1 lk_X11_102 vX11_readText rfl (m_readText d S hlen h60 hf L) (Nat.le_refl _) (Nat.le_of_ble_eq_true rfl) (fun r9 S9 L9 h9 => ?_)
  refine ev_iret dX11_fault_4 ?_
  exact ⟨_, rfl, h9⟩
