/-! ===== the reference lays a new inn ===== -/
def wr (f : Nat → Int32) (q : Nat) (h : Nat → Int32) (n : Nat) : Nat → Int32 := fun j => if q ≤ j ∧ j < q + n then h (j - q) else f j
theorem wr_s (f : Nat → Int32) (q : Nat) (h : Nat → Int32) (n : Nat) : upd (wr f q h n) (q + n) (h n) = wr f q h (n + 1) := by
  funext j
  unfold upd wr
  by_cases e : j = q + n
  · subst e
    rw [if_pos rfl, if_pos (by omega), show q + n - q = n by omega]
  · rw [if_neg e]
    by_cases h1 : q ≤ j ∧ j < q + n
    · rw [if_pos h1, if_pos (by omega)]
    · rw [if_neg h1, if_neg (by omega)]
theorem wr_z (f : Nat → Int32) (h : Nat → Int32) (n : Nat) : upd (wr f 0 h n) n (h n) = wr f 0 h (n + 1) := by
  have e := wr_s f 0 h n
  rw [Nat.zero_add] at e
  exact e
theorem wr_0 (f : Nat → Int32) (q : Nat) (h : Nat → Int32) : wr f q h 0 = f := by
  funext j
  exact if_neg (by omega)
def iM (B : gx_S) (a b c e n : Nat → Int32) : gx_S := fun i => if i = 45 then a else if i = 46 then b else if i = 47 then c else if i = 48 then e else if i = 49 then n else B i
section
variable (B : gx_S) (a b c e n : Nat → Int32)
theorem iM_o {i : Nat} (h : i < 45 ∨ 49 < i) : iM B a b c e n i = B i := by
  unfold iM
  rw [if_neg (by omega), if_neg (by omega), if_neg (by omega), if_neg (by omega), if_neg (by omega)]
theorem iM_45 : iM B a b c e n 45 = a := rfl
theorem iM_46 : iM B a b c e n 46 = b := rfl
theorem iM_47 : iM B a b c e n 47 = c := rfl
theorem iM_48 : iM B a b c e n 48 = e := rfl
theorem iM_49 : iM B a b c e n 49 = n := rfl
theorem iM_self : iM B (B 45) (B 46) (B 47) (B 48) (B 49) = B := by
  funext i
  unfold iM
  by_cases h1 : i = 45
  · subst h1; rfl
  · rw [if_neg h1]
    by_cases h2 : i = 46
    · subst h2; rfl
    · rw [if_neg h2]
      by_cases h3 : i = 47
      · subst h3; rfl
      · rw [if_neg h3]
        by_cases h4 : i = 48
        · subst h4; rfl
        · rw [if_neg h4]
          by_cases h5 : i = 49
          · subst h5; rfl
          · rw [if_neg h5]
theorem iM_u (k : Nat) (f : Nat → Int32) (hk : 45 ≤ k ∧ k ≤ 49) : gx_up (iM B a b c e n) k f = iM B (if k = 45 then f else a) (if k = 46 then f else b) (if k = 47 then f else c) (if k = 48 then f else e) (if k = 49 then f else n) := by
  funext i
  unfold gx_up
  rcases (show k = 45 ∨ k = 46 ∨ k = 47 ∨ k = 48 ∨ k = 49 by omega) with h | h | h | h | h
  · subst h
    by_cases h : i = 45
    · subst h; rfl
    · rw [if_neg h]; unfold iM; simp [h]
  · subst h
    by_cases h : i = 46
    · subst h; rfl
    · rw [if_neg h]; unfold iM; simp [h]
  · subst h
    by_cases h : i = 47
    · subst h; rfl
    · rw [if_neg h]; unfold iM; simp [h]
  · subst h
    by_cases h : i = 48
    · subst h; rfl
    · rw [if_neg h]; unfold iM; simp [h]
  · subst h
    by_cases h : i = 49
    · subst h; rfl
    · rw [if_neg h]; unfold iM; simp [h]
theorem iM_u45 (j : Nat) (x : Int32) : gx_u2 (iM B a b c e n) 45 j x = iM B (upd a j x) b c e n := iM_u B a b c e n 45 _ (by decide)
theorem iM_u46 (j : Nat) (x : Int32) : gx_u2 (iM B a b c e n) 46 j x = iM B a (upd b j x) c e n := iM_u B a b c e n 46 _ (by decide)
theorem iM_u47 (j : Nat) (x : Int32) : gx_u2 (iM B a b c e n) 47 j x = iM B a b (upd c j x) e n := iM_u B a b c e n 47 _ (by decide)
theorem iM_u48 (j : Nat) (x : Int32) : gx_u2 (iM B a b c e n) 48 j x = iM B a b c (upd e j x) n := iM_u B a b c e n 48 _ (by decide)
theorem iM_u49 (j : Nat) (x : Int32) : gx_u2 (iM B a b c e n) 49 j x = iM B a b c e (upd n j x) := iM_u B a b c e n 49 _ (by decide)
end
set_option maxRecDepth 10000 in
theorem l_in1 (d : Nat) (B : gx_S) (L : gx_L) {Q : Option Value → gx_S → gx_L → Prop}  (kk : Ev mX11_inn (d) 49 [some (.ref 44), some (.int (nI (15)))] [] (iM B (B 45) (B 46) (B 47) (B 48) (cl4 (B 49) (15))) L Q) : ∀ (nn i : Nat), i + nn = 15 → Ev mX11_inn (d) 30 [some (.ref 44), some (.int (nI (i)))] [] (iM B (B 45) (B 46) (B 47) (B 48) (cl4 (B 49) (i))) L Q := by
  intro nn
  induction nn with
  | zero =>
    intro i hi
    obtain rfl : i = 15 := hi
    refine ev_ild1 dX11_inn_30 ?_
    refine ev_bipush (v := 15) dX11_inn_31 (by decide) ?_
    refine ev_icmp_ge_t 49 dX11_inn_33 (by decide) (by decide) ?_
    exact kk
  | succ nn ih =>
    intro i hi
    refine ev_ild1 dX11_inn_30 ?_
    refine ev_bipush (v := 15) dX11_inn_31 (by decide) ?_
    refine ev_icmp_ge_f 49 dX11_inn_33 (by decide) (nI_ge (b := 15) (by omega) (by decide)) ?_
    refine ev_ald0 dX11_inn_36 ?_
    refine ev_getr (r := 49) dX11_inn_37 fl_X11_22 rfl ?_
    refine ev_ild1 dX11_inn_40 ?_
    refine ev_iconst (v := 0) dX11_inn_41 (by decide) ?_
    refine ev_iast' dX11_inn_42 rfl (by omega) (by decide) ?_
    rw [iM_u49, cl4_s]
    refine ev_inc1 dX11_inn_43 (nI_inc _) ?_
    refine ev_goto 30 dX11_inn_46 (by decide) ?_
    exact ih (i + 1) (by omega)
set_option maxRecDepth 10000 in
theorem l_in2 (d : Nat) (B : gx_S) {ng : Nat} (hng : B 44 0 = nI ng) (h5 : ng ≤ 5) (n9 : Nat → Int32) (L : gx_L) {Q : Option Value → gx_S → gx_L → Prop}  (kk : Ev mX11_inn (d) 111 [some (.ref 44), some (.int (nI (ng)))] [] (iM B (wr (B 45) 0 (fun g => B 50 (3 * g)) (ng)) (wr (B 46) 0 (fun g => B 50 (3 * g + 2)) (ng)) (B 47) (B 48) (wr n9 0 (fun g => B 50 (3 * g + 1)) (ng))) L Q) : ∀ (nn i : Nat), i + nn = ng → Ev mX11_inn (d) 51 [some (.ref 44), some (.int (nI (i)))] [] (iM B (wr (B 45) 0 (fun g => B 50 (3 * g)) (i)) (wr (B 46) 0 (fun g => B 50 (3 * g + 2)) (i)) (B 47) (B 48) (wr n9 0 (fun g => B 50 (3 * g + 1)) (i))) L Q := by
  intro nn
  induction nn with
  | zero =>
    intro i hi
    obtain rfl : i = ng := hi
    refine ev_ild1 dX11_inn_51 ?_
    refine ev_ald0 dX11_inn_52 ?_
    refine ev_geti dX11_inn_53 fl_X11_56 rfl ?_
    refine ev_icmp_ge_t 111 dX11_inn_56 (by decide) (by rw [iM_o _ _ _ _ _ _ (by decide), hng]; exact nI_le (Nat.le_refl _) (by omega)) ?_
    exact kk
  | succ nn ih =>
    intro i hi
    refine ev_ild1 dX11_inn_51 ?_
    refine ev_ald0 dX11_inn_52 ?_
    refine ev_geti dX11_inn_53 fl_X11_56 rfl ?_
    refine ev_icmp_ge_f 111 dX11_inn_56 (by decide) (by rw [iM_o _ _ _ _ _ _ (by decide), hng]; exact nI_ge (by omega) (by omega)) ?_
    refine ev_ald0 dX11_inn_59 ?_
    refine ev_getr (r := 45) dX11_inn_60 fl_X11_7 rfl ?_
    refine ev_ild1 dX11_inn_63 ?_
    refine ev_ald0 dX11_inn_64 ?_
    refine ev_getr (r := 50) dX11_inn_65 fl_X11_25 rfl ?_
    refine ev_iconst (v := 3) dX11_inn_68 (by decide) ?_
    refine ev_ild1 dX11_inn_69 ?_
    refine ev_imul dX11_inn_70 ?_
    refine ev_iald2 (j := 3 * i) dX11_inn_71 rfl (nI_mul 3 i) (by omega) (by first | decide | omega) ?_
    rw [iM_o _ _ _ _ _ _ (by decide)]
    refine ev_iast2 (j := i) dX11_inn_72 rfl rfl (by omega) (by first | decide | omega) ?_
    rw [iM_u45, show upd (wr (B 45) 0 (fun g => B 50 (3 * g)) i) i (B 50 (3 * i)) = wr (B 45) 0 (fun g => B 50 (3 * g)) (i + 1) from wr_z _ _ _]
    refine ev_ald0 dX11_inn_73 ?_
    refine ev_getr (r := 49) dX11_inn_74 fl_X11_22 rfl ?_
    refine ev_ild1 dX11_inn_77 ?_
    refine ev_ald0 dX11_inn_78 ?_
    refine ev_getr (r := 50) dX11_inn_79 fl_X11_25 rfl ?_
    refine ev_iconst (v := 3) dX11_inn_82 (by decide) ?_
    refine ev_ild1 dX11_inn_83 ?_
    refine ev_imul dX11_inn_84 ?_
    refine ev_iconst (v := 1) dX11_inn_85 (by decide) ?_
    refine ev_iadd dX11_inn_86 ?_
    refine ev_iald2 (j := 3 * i + 1) dX11_inn_87 rfl (by rw [show (3 : Int32) * nI i = nI (3 * i) from nI_mul 3 i]; exact ix2 _ 1) (by omega) (by first | decide | omega) ?_
    rw [iM_o _ _ _ _ _ _ (by decide)]
    refine ev_iast2 (j := i) dX11_inn_88 rfl rfl (by omega) (by first | decide | omega) ?_
    rw [iM_u49, show upd (wr n9 0 (fun g => B 50 (3 * g + 1)) i) i (B 50 (3 * i + 1)) = wr n9 0 (fun g => B 50 (3 * g + 1)) (i + 1) from wr_z _ _ _]
    refine ev_ald0 dX11_inn_89 ?_
    refine ev_getr (r := 46) dX11_inn_90 fl_X11_13 rfl ?_
    refine ev_ild1 dX11_inn_93 ?_
    refine ev_ald0 dX11_inn_94 ?_
    refine ev_getr (r := 50) dX11_inn_95 fl_X11_25 rfl ?_
    refine ev_iconst (v := 3) dX11_inn_98 (by decide) ?_
    refine ev_ild1 dX11_inn_99 ?_
    refine ev_imul dX11_inn_100 ?_
    refine ev_iconst (v := 2) dX11_inn_101 (by decide) ?_
    refine ev_iadd dX11_inn_102 ?_
    refine ev_iald2 (j := 3 * i + 2) dX11_inn_103 rfl (by rw [show (3 : Int32) * nI i = nI (3 * i) from nI_mul 3 i]; exact ix2 _ 2) (by omega) (by first | decide | omega) ?_
    rw [iM_o _ _ _ _ _ _ (by decide)]
    refine ev_iast2 (j := i) dX11_inn_104 rfl rfl (by omega) (by first | decide | omega) ?_
    rw [iM_u46, show upd (wr (B 46) 0 (fun g => B 50 (3 * g + 2)) i) i (B 50 (3 * i + 2)) = wr (B 46) 0 (fun g => B 50 (3 * g + 2)) (i + 1) from wr_z _ _ _]
    refine ev_inc1 dX11_inn_105 (nI_inc _) ?_
    refine ev_goto 51 dX11_inn_108 (by decide) ?_
    exact ih (i + 1) (by omega)
set_option maxRecDepth 10000 in
theorem l_in3 (d : Nat) (B : gx_S) {nd : Nat} (hnd : B 44 1 = nI nd) (h4 : nd ≤ 4) (a9 b9 n9 : Nat → Int32) (L : gx_L) {Q : Option Value → gx_S → gx_L → Prop}  (kk : Ev mX11_inn (d) 172 [some (.ref 44), some (.int (nI (nd)))] [] (iM B a9 b9 (wr (B 47) 0 (fun g => B 51 (2 * g + 1)) (nd)) (wr (B 48) 0 (B 52) (nd)) (wr n9 10 (fun g => B 51 (2 * g)) (nd))) L Q) : ∀ (nn i : Nat), i + nn = nd → Ev mX11_inn (d) 113 [some (.ref 44), some (.int (nI (i)))] [] (iM B a9 b9 (wr (B 47) 0 (fun g => B 51 (2 * g + 1)) (i)) (wr (B 48) 0 (B 52) (i)) (wr n9 10 (fun g => B 51 (2 * g)) (i))) L Q := by
  intro nn
  induction nn with
  | zero =>
    intro i hi
    obtain rfl : i = nd := hi
    refine ev_ild1 dX11_inn_113 ?_
    refine ev_ald0 dX11_inn_114 ?_
    refine ev_geti dX11_inn_115 fl_X11_105 rfl ?_
    refine ev_icmp_ge_t 172 dX11_inn_118 (by decide) (by rw [iM_o _ _ _ _ _ _ (by decide), hnd]; exact nI_le (Nat.le_refl _) (by omega)) ?_
    exact kk
  | succ nn ih =>
    intro i hi
    refine ev_ild1 dX11_inn_113 ?_
    refine ev_ald0 dX11_inn_114 ?_
    refine ev_geti dX11_inn_115 fl_X11_105 rfl ?_
    refine ev_icmp_ge_f 172 dX11_inn_118 (by decide) (by rw [iM_o _ _ _ _ _ _ (by decide), hnd]; exact nI_ge (by omega) (by omega)) ?_
    refine ev_ald0 dX11_inn_121 ?_
    refine ev_getr (r := 49) dX11_inn_122 fl_X11_22 rfl ?_
    refine ev_bipush (v := 10) dX11_inn_125 (by decide) ?_
    refine ev_ild1 dX11_inn_127 ?_
    refine ev_iadd dX11_inn_128 ?_
    refine ev_ald0 dX11_inn_129 ?_
    refine ev_getr (r := 51) dX11_inn_130 fl_X11_28 rfl ?_
    refine ev_iconst (v := 2) dX11_inn_133 (by decide) ?_
    refine ev_ild1 dX11_inn_134 ?_
    refine ev_imul dX11_inn_135 ?_
    refine ev_iald2 (j := 2 * i) dX11_inn_136 rfl (nI_mul 2 i) (by omega) (by first | decide | omega) ?_
    rw [iM_o _ _ _ _ _ _ (by decide)]
    refine ev_iast2 (j := 10 + i) dX11_inn_137 rfl (ix2 10 _) (by omega) (by first | decide | omega) ?_
    rw [iM_u49, show upd (wr n9 10 (fun g => B 51 (2 * g)) i) (10 + i) (B 51 (2 * i)) = wr n9 10 (fun g => B 51 (2 * g)) (i + 1) from wr_s _ _ _ _]
    refine ev_ald0 dX11_inn_138 ?_
    refine ev_getr (r := 47) dX11_inn_139 fl_X11_16 rfl ?_
    refine ev_ild1 dX11_inn_142 ?_
    refine ev_ald0 dX11_inn_143 ?_
    refine ev_getr (r := 51) dX11_inn_144 fl_X11_28 rfl ?_
    refine ev_iconst (v := 2) dX11_inn_147 (by decide) ?_
    refine ev_ild1 dX11_inn_148 ?_
    refine ev_imul dX11_inn_149 ?_
    refine ev_iconst (v := 1) dX11_inn_150 (by decide) ?_
    refine ev_iadd dX11_inn_151 ?_
    refine ev_iald2 (j := 2 * i + 1) dX11_inn_152 rfl (by rw [show (2 : Int32) * nI i = nI (2 * i) from nI_mul 2 i]; exact ix2 _ 1) (by omega) (by first | decide | omega) ?_
    rw [iM_o _ _ _ _ _ _ (by decide)]
    refine ev_iast2 (j := i) dX11_inn_153 rfl rfl (by omega) (by first | decide | omega) ?_
    rw [iM_u47, show upd (wr (B 47) 0 (fun g => B 51 (2 * g + 1)) i) i (B 51 (2 * i + 1)) = wr (B 47) 0 (fun g => B 51 (2 * g + 1)) (i + 1) from wr_z _ _ _]
    refine ev_ald0 dX11_inn_154 ?_
    refine ev_getr (r := 48) dX11_inn_155 fl_X11_19 rfl ?_
    refine ev_ild1 dX11_inn_158 ?_
    refine ev_ald0 dX11_inn_159 ?_
    refine ev_getr (r := 52) dX11_inn_160 fl_X11_31 rfl ?_
    refine ev_ild1 dX11_inn_163 ?_
    refine ev_iald2 (j := i) dX11_inn_164 rfl rfl (by omega) (by first | decide | omega) ?_
    rw [iM_o _ _ _ _ _ _ (by decide)]
    refine ev_iast2 (j := i) dX11_inn_165 rfl rfl (by omega) (by first | decide | omega) ?_
    rw [iM_u48, show upd (wr (B 48) 0 (B 52) i) i (B 52 i) = wr (B 48) 0 (B 52) (i + 1) from wr_z _ _ _]
    refine ev_inc1 dX11_inn_166 (nI_inc _) ?_
    refine ev_goto 113 dX11_inn_169 (by decide) ?_
    exact ih (i + 1) (by omega)
def M_minn (B : gx_S) (ng nd : Nat) : gx_S := gx_u2 (gx_u2 (gx_u2 (iM B (wr (B 45) 0 (fun g => B 50 (3 * g)) ng) (wr (B 46) 0 (fun g => B 50 (3 * g + 2)) ng) (wr (B 47) 0 (fun g => B 51 (2 * g + 1)) nd) (wr (B 48) 0 (B 52) nd) (wr (wr (cl4 (B 49) 15) 0 (fun g => B 50 (3 * g + 1)) ng) 10 (fun g => B 51 (2 * g)) nd)) 44 16 0) 58 0 0) 58 1 0
def q_B (S : gx_S) (ng nd : Nat) : gx_S := gx_u2 (gx_u2 S 44 0 (nI ng)) 44 1 (nI nd)
theorem q_B0 (S : gx_S) (ng nd : Nat) : q_B S ng nd 44 0 = nI ng := by
  unfold q_B
  rw [u2_k _ 44 _ (by decide), u2_at]
theorem q_B1 (S : gx_S) (ng nd : Nat) : q_B S ng nd 44 1 = nI nd := u2_at _ _ _ _
theorem inn_rd (B : gx_S) (a b c e n : Nat → Int32) (j : Nat) (hj : j ≠ 16) : gx_u2 (gx_u2 (gx_u2 (iM B a b c e n) 44 16 0) 58 0 0) 58 1 0 44 j = B 44 j := by
  rw [u2_o _ _ _ (by decide), u2_o _ _ _ (by decide), u2_k _ 44 _ hj, iM_o _ _ _ _ _ _ (by decide)]
set_option maxRecDepth 10000 in
theorem m_inn (d : Nat) (S : gx_S) {len : Nat} (hlen : S 44 13 = nI len) (h60 : len ≤ 60) (hf : okL (S 53) len) (L : gx_L) : Ci (d + 4) mX11_inn [.ref 44] S L (fun r S1 L1 => L1 = L ∧ ((r = -3 ∧ ¬ (p_read (S 53) len).1 = -9 ∧ ∃ (p fa g d : Int32) (G D Z : Nat → Int32), S1 = rM S p fa g d G D Z) ∨ ((p_read (S 53) len).1 = -9 ∧ ∃ (p fa g d : Int32) (G D Z : Nat → Int32) (ng nd : Nat), g = nI ng ∧ d = nI nd ∧ rH G D Z ng nd (p_read (S 53) len).2 ∧ r = 10 * nI ng + nI nd ∧ S1 = M_minn (q_B (rM S p fa g d G D Z) ng nd) ng nd))) := by
  refine ct_intro (loc := [some (.ref 44), none]) (by decide) (Nat.le_of_ble_eq_true rfl) rfl ?_
  refine ev_ald0 dX11_inn_0 ?_
  refine ev_V0iq (M' := mX11_readText) dX11_inn_1 lk_X11_102 vX11_readText rfl (m_readText d S hlen h60 hf L) (Nat.le_refl _) (Nat.le_of_ble_eq_true rfl) (fun r9 S9 L9 h9 => ?_)
  refine ev_bipush (v := (-9)) dX11_inn_4 (by decide) ?_
  refine ev_icmp_eq 12 dX11_inn_6 (by decide) (fun c_6 => ?_) (fun c_6 => ?_)
  · obtain ⟨hr, ⟨p, fa, g, d9, G, D, Z, hS9, hrd⟩, hL9⟩ := h9
    obtain ⟨ng, nd, hg, hd9, hrh⟩ := hrd c_6
    subst hg
    subst hd9
    have hL8 := hL9.symm
    subst hL8
    have hr : (p_read (S 53) len).1 = -9 := hr.symm.trans c_6
    have h5 := hrh.2.2.1
    have h4 := hrh.2.2.2.1
    refine ev_ald0 dX11_inn_12 ?_
    refine ev_ald0 dX11_inn_13 ?_
    refine ev_geti dX11_inn_14 fl_X11_81 rfl ?_
    rw [show S9 44 10 = nI ng from by rw [hS9]; rfl]
    refine ev_puti dX11_inn_17 fp_X11_56 rfl ?_
    refine ev_ald0 dX11_inn_20 ?_
    refine ev_ald0 dX11_inn_21 ?_
    refine ev_geti dX11_inn_22 fl_X11_84 rfl ?_
    rw [u2_k _ 44 _ (by decide), show S9 44 11 = nI nd from by rw [hS9]; rfl]
    refine ev_puti dX11_inn_25 fp_X11_105 rfl ?_
    refine ev_iconst (v := 0) dX11_inn_28 (by decide) ?_
    refine ev_ist1 dX11_inn_29 ?_
    subst hS9
    have l7 := l_in1 (d + 4) (q_B (rM S p fa (nI ng) (nI nd) G D Z) ng nd) L (Q := (fun v S1 L1 => ∃ r : Int32, v = some (.int r) ∧ (fun r S1 L1 => L1 = L ∧ ((r = -3 ∧ ¬ (p_read (S 53) len).1 = -9 ∧ ∃ (p fa g d : Int32) (G D Z : Nat → Int32), S1 = rM S p fa g d G D Z) ∨ ((p_read (S 53) len).1 = -9 ∧ ∃ (p fa g d : Int32) (G D Z : Nat → Int32) (ng nd : Nat), g = nI ng ∧ d = nI nd ∧ rH G D Z ng nd (p_read (S 53) len).2 ∧ r = 10 * nI ng + nI nd ∧ S1 = M_minn (q_B (rM S p fa g d G D Z) ng nd) ng nd))) r S1 L1)) ?_ 15 0 rfl
    · rw [show iM (q_B (rM S p fa (nI ng) (nI nd) G D Z) ng nd) (q_B (rM S p fa (nI ng) (nI nd) G D Z) ng nd 45) (q_B (rM S p fa (nI ng) (nI nd) G D Z) ng nd 46) (q_B (rM S p fa (nI ng) (nI nd) G D Z) ng nd 47) (q_B (rM S p fa (nI ng) (nI nd) G D Z) ng nd 48) (cl4 (q_B (rM S p fa (nI ng) (nI nd) G D Z) ng nd 49) 0) = q_B (rM S p fa (nI ng) (nI nd) G D Z) ng nd from by rw [cl4_0, iM_self]] at l7
      exact l7
    · refine ev_iconst (v := 0) dX11_inn_49 (by decide) ?_
      refine ev_ist1 dX11_inn_50 ?_
      have l8 := l_in2 (d + 4) (q_B (rM S p fa (nI ng) (nI nd) G D Z) ng nd) (q_B0 _ _ _) h5 (cl4 (q_B (rM S p fa (nI ng) (nI nd) G D Z) ng nd 49) 15) L (Q := (fun v S1 L1 => ∃ r : Int32, v = some (.int r) ∧ (fun r S1 L1 => L1 = L ∧ ((r = -3 ∧ ¬ (p_read (S 53) len).1 = -9 ∧ ∃ (p fa g d : Int32) (G D Z : Nat → Int32), S1 = rM S p fa g d G D Z) ∨ ((p_read (S 53) len).1 = -9 ∧ ∃ (p fa g d : Int32) (G D Z : Nat → Int32) (ng nd : Nat), g = nI ng ∧ d = nI nd ∧ rH G D Z ng nd (p_read (S 53) len).2 ∧ r = 10 * nI ng + nI nd ∧ S1 = M_minn (q_B (rM S p fa g d G D Z) ng nd) ng nd))) r S1 L1)) ?_ ng 0 (Nat.zero_add _)
      · rw [wr_0, wr_0, wr_0] at l8
        exact l8
      · refine ev_iconst (v := 0) dX11_inn_111 (by decide) ?_
        refine ev_ist1 dX11_inn_112 ?_
        have l6 := l_in3 (d + 4) (q_B (rM S p fa (nI ng) (nI nd) G D Z) ng nd) (q_B1 _ _ _) h4 (wr ((q_B (rM S p fa (nI ng) (nI nd) G D Z) ng nd) 45) 0 (fun g => (q_B (rM S p fa (nI ng) (nI nd) G D Z) ng nd) 50 (3 * g)) ng) (wr ((q_B (rM S p fa (nI ng) (nI nd) G D Z) ng nd) 46) 0 (fun g => (q_B (rM S p fa (nI ng) (nI nd) G D Z) ng nd) 50 (3 * g + 2)) ng) (wr (cl4 ((q_B (rM S p fa (nI ng) (nI nd) G D Z) ng nd) 49) 15) 0 (fun g => (q_B (rM S p fa (nI ng) (nI nd) G D Z) ng nd) 50 (3 * g + 1)) ng) L (Q := (fun v S1 L1 => ∃ r : Int32, v = some (.int r) ∧ (fun r S1 L1 => L1 = L ∧ ((r = -3 ∧ ¬ (p_read (S 53) len).1 = -9 ∧ ∃ (p fa g d : Int32) (G D Z : Nat → Int32), S1 = rM S p fa g d G D Z) ∨ ((p_read (S 53) len).1 = -9 ∧ ∃ (p fa g d : Int32) (G D Z : Nat → Int32) (ng nd : Nat), g = nI ng ∧ d = nI nd ∧ rH G D Z ng nd (p_read (S 53) len).2 ∧ r = 10 * nI ng + nI nd ∧ S1 = M_minn (q_B (rM S p fa g d G D Z) ng nd) ng nd))) r S1 L1)) ?_ nd 0 (Nat.zero_add _)
        · rw [wr_0, wr_0, wr_0] at l6
          exact l6
        · skip
          refine ev_ald0 dX11_inn_172 ?_
          refine ev_iconst (v := 0) dX11_inn_173 (by decide) ?_
          refine ev_puti dX11_inn_174 fp_X11_108 rfl ?_
          refine ev_ald0 dX11_inn_177 ?_
          refine ev_getr (r := 58) dX11_inn_178 fl_X11_49 rfl ?_
          refine ev_iconst (v := 0) dX11_inn_181 (by decide) ?_
          refine ev_iconst (v := 0) dX11_inn_182 (by decide) ?_
          refine ev_zast2 (j := 0) dX11_inn_183 rfl rfl (by omega) (by first | decide | omega) ?_
          rw [show vp_nar .boolean 0 = 0 from rfl]
          refine ev_ald0 dX11_inn_184 ?_
          refine ev_getr (r := 58) dX11_inn_185 fl_X11_49 rfl ?_
          refine ev_iconst (v := 1) dX11_inn_188 (by decide) ?_
          refine ev_iconst (v := 0) dX11_inn_189 (by decide) ?_
          refine ev_zast2 (j := 1) dX11_inn_190 rfl rfl (by omega) (by first | decide | omega) ?_
          rw [show vp_nar .boolean 0 = 0 from rfl]
          refine ev_bipush (v := 10) dX11_inn_191 (by decide) ?_
          refine ev_ald0 dX11_inn_193 ?_
          refine ev_geti dX11_inn_194 fl_X11_56 rfl ?_
          rw [inn_rd _ _ _ _ _ _ 0 (by decide), q_B0]
          refine ev_imul dX11_inn_197 ?_
          refine ev_ald0 dX11_inn_198 ?_
          refine ev_geti dX11_inn_199 fl_X11_105 rfl ?_
          rw [inn_rd _ _ _ _ _ _ 1 (by decide), q_B1]
          refine ev_iadd dX11_inn_202 ?_
          refine ev_iret dX11_inn_203 ?_
          exact ⟨_, rfl, rfl, Or.inr ⟨hr, _, _, _, _, _, _, _, ng, nd, rfl, rfl, hrh, rfl, rfl⟩⟩
  · obtain ⟨hr, ⟨p, fa, g, d9, G, D, Z, rfl, -⟩, hL9⟩ := h9
    have hS9 : ∃ (p1 fa1 g1 d1 : Int32) (G1 D1 Z1 : Nat → Int32), rM S p fa g d9 G D Z = rM S p1 fa1 g1 d1 G1 D1 Z1 := ⟨_, _, _, _, _, _, _, rfl⟩
    refine ev_bipush (v := (-3)) dX11_inn_9 (by decide) ?_
    refine ev_iret dX11_inn_11 ?_
    exact ⟨_, rfl, hL9, Or.inl ⟨rfl, fun h8 => c_6 (hr.trans h8), hS9⟩⟩
