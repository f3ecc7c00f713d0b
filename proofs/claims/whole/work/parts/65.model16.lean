/-! ===== the reference reads a text ===== -/
def rM (S : gx_S) (p fa g d : Int32) (G D Q : Nat → Int32) : gx_S := fun i => if i = 44 then upd (upd (upd (upd (S 44) 14 p) 15 fa) 10 g) 11 d else if i = 50 then G else if i = 51 then D else if i = 52 then Q else S i
section
variable (S : gx_S) (p fa g d : Int32) (G D Q : Nat → Int32)
theorem rM_o {i : Nat} (h : i ≠ 44 ∧ i ≠ 50 ∧ i ≠ 51 ∧ i ≠ 52) : rM S p fa g d G D Q i = S i := by
  unfold rM
  rw [if_neg h.1, if_neg h.2.1, if_neg h.2.2.1, if_neg h.2.2.2]
theorem rM_44 : rM S p fa g d G D Q 44 = upd (upd (upd (upd (S 44) 14 p) 15 fa) 10 g) 11 d := if_pos rfl
theorem rM_50 : rM S p fa g d G D Q 50 = G := rfl
theorem rM_51 : rM S p fa g d G D Q 51 = D := rfl
theorem rM_52 : rM S p fa g d G D Q 52 = Q := rfl
theorem rM_at : rM S p fa g d G D Q 44 14 = p := rfl
theorem rM_fa : rM S p fa g d G D Q 44 15 = fa := rfl
theorem rM_g : rM S p fa g d G D Q 44 10 = g := rfl
theorem rM_d : rM S p fa g d G D Q 44 11 = d := rfl
theorem rM_k {j : Nat} (h : j ≠ 14 ∧ j ≠ 15 ∧ j ≠ 10 ∧ j ≠ 11) : rM S p fa g d G D Q 44 j = S 44 j := by
  rw [rM_44, upd_ne _ _ h.2.2.2, upd_ne _ _ h.2.2.1, upd_ne _ _ h.2.1, upd_ne _ _ h.1]
theorem rM_c {k : Nat} (hk : k = 50 ∨ k = 51 ∨ k = 52) (f : Nat → Int32) : gx_up (rM S p fa g d G D Q) k f = rM S p fa g d (if k = 50 then f else G) (if k = 51 then f else D) (if k = 52 then f else Q) := by
  funext i
  unfold gx_up
  rcases hk with rfl | rfl | rfl
  · by_cases h : i = 50
    · subst h; rfl
    · rw [if_neg h]
      unfold rM
      simp [h]
  · by_cases h : i = 51
    · subst h; rfl
    · rw [if_neg h]
      unfold rM
      simp [h]
  · by_cases h : i = 52
    · subst h; rfl
    · rw [if_neg h]
      unfold rM
      simp [h]
theorem rM_uG (k : Nat) (x : Int32) : gx_u2 (rM S p fa g d G D Q) 50 k x = rM S p fa g d (upd G k x) D Q := rM_c S p fa g d G D Q (k := 50) (Or.inl rfl) _
theorem rM_uD (k : Nat) (x : Int32) : gx_u2 (rM S p fa g d G D Q) 51 k x = rM S p fa g d G (upd D k x) Q := rM_c S p fa g d G D Q (k := 51) (Or.inr (Or.inl rfl)) _
theorem rM_uQ (k : Nat) (x : Int32) : gx_u2 (rM S p fa g d G D Q) 52 k x = rM S p fa g d G D (upd Q k x) := rM_c S p fa g d G D Q (k := 52) (Or.inr (Or.inr rfl)) _
theorem rM_44e {f : Nat → Int32} {p' fa' g' d' : Int32} (h : f = upd (upd (upd (upd (S 44) 14 p') 15 fa') 10 g') 11 d') : gx_up (rM S p fa g d G D Q) 44 f = rM S p' fa' g' d' G D Q := by
  funext i
  unfold gx_up
  by_cases e : i = 44
  · subst e
    rw [if_pos rfl, h, rM_44]
  · rw [if_neg e]
    unfold rM
    rw [if_neg e, if_neg e]
theorem upd_cm (f : Nat → Int32) {a b : Nat} (x y : Int32) (h : a ≠ b) : upd (upd f a x) b y = upd (upd f b y) a x := by
  funext j
  unfold upd
  by_cases h1 : j = b
  · subst h1
    rw [if_pos rfl, if_neg (fun h9 => h h9.symm), if_pos rfl]
  · rw [if_neg h1, if_neg h1]
theorem rM_u14 (x : Int32) : gx_u2 (rM S p fa g d G D Q) 44 14 x = rM S x fa g d G D Q := rM_44e S p fa g d G D Q (by
  rw [rM_44, upd_cm _ _ _ (show 11 ≠ 14 by decide), upd_cm _ _ _ (show 10 ≠ 14 by decide), upd_cm _ _ _ (show 15 ≠ 14 by decide), upd_upd])
theorem rM_u15 (x : Int32) : gx_u2 (rM S p fa g d G D Q) 44 15 x = rM S p x g d G D Q := rM_44e S p fa g d G D Q (by
  rw [rM_44, upd_cm _ _ _ (show 11 ≠ 15 by decide), upd_cm _ _ _ (show 10 ≠ 15 by decide), upd_upd])
theorem rM_u10 (x : Int32) : gx_u2 (rM S p fa g d G D Q) 44 10 x = rM S p fa x d G D Q := rM_44e S p fa g d G D Q (by
  rw [rM_44, upd_cm _ _ _ (show 11 ≠ 10 by decide), upd_upd])
theorem rM_u11 (x : Int32) : gx_u2 (rM S p fa g d G D Q) 44 11 x = rM S p fa g x G D Q := rM_44e S p fa g d G D Q (by
  rw [rM_44, upd_upd])
theorem rM_self : rM S (S 44 14) (S 44 15) (S 44 10) (S 44 11) (S 50) (S 51) (S 52) = S := by
  funext i
  unfold rM
  by_cases h : i = 44
  · subst h
    rw [if_pos rfl, upd_self, upd_self, upd_self, upd_self]
  · rw [if_neg h]
    by_cases h1 : i = 50
    · subst h1; rfl
    · rw [if_neg h1]
      by_cases h2 : i = 51
      · subst h2; rfl
      · rw [if_neg h2]
        by_cases h3 : i = 52
        · subst h3; rfl
        · rw [if_neg h3]
end
/-- a figure that is allowed -/
def okA (a : Int32) (f : Nat → Int32) (len q : Nat) : Bool := okd f len q && bt a (dv f q).toNatClampNeg
theorem fig_in : ∀ c, c < 256 → (decide (¬ nI c - 48 < 0 ∧ ¬ 9 < nI c - 48)) = (decide (¬ nI c < 48 ∧ ¬ 57 < nI c)) := by decide +kernel
theorem fig_v : ∀ c, c < 256 → ¬ nI c < 48 ∧ ¬ 57 < nI c → ∃ k : Fin 10, nI c - 48 = nI k := by decide +kernel
theorem nI_n9b : ∀ k, k < 64 → ¬ nI k = -9 := by decide +kernel
def okL (f : Nat → Int32) (len : Nat) : Prop := ∀ i, i < len → ∃ c, c < 256 ∧ f i = nI c
theorem okd_v {f : Nat → Int32} {len q : Nat} (hf : okL f len) (h : okd f len q = true) : q < len ∧ ∃ k, k < 10 ∧ dv f q = nI k ∧ (dv f q).toNatClampNeg = k := by
  obtain ⟨h1, h2⟩ := of_decide_eq_true h
  obtain ⟨c, hc, e⟩ := hf q h1
  rw [e] at h2
  obtain ⟨k, hk⟩ := fig_v c hc h2
  have e2 : dv f q = nI k := by unfold dv; rw [e, hk]
  exact ⟨h1, k, k.2, e2, by rw [e2]; exact nI_clamp (by have := k.2; omega)⟩
theorem okd_in {f : Nat → Int32} {len q : Nat} (hf : okL f len) (h : q < len) : inL (f q - 48).toInt64 0 9 = okd f len q := by
  obtain ⟨c, hc, e⟩ := hf q h
  rw [in09, e, fig_in c hc]
  unfold okd
  rw [e]
  by_cases h9 : ¬ nI c < 48 ∧ ¬ 57 < nI c
  · rw [decide_eq_true h9, decide_eq_true ⟨h, h9⟩]
  · rw [decide_eq_false h9, decide_eq_false (fun h8 => h9 h8.2)]
theorem r13 (S : gx_S) (p fa g d : Int32) (G D Q : Nat → Int32) : rM S p fa g d G D Q 44 13 = S 44 13 := rM_k S p fa g d G D Q (by decide)
theorem r53 (S : gx_S) (p fa g d : Int32) (G D Q : Nat → Int32) : rM S p fa g d G D Q 53 = S 53 := rM_o S p fa g d G D Q (by decide)
set_option maxRecDepth 10000 in
theorem m_figF (d : Nat) (S : gx_S) (p : Int32) {q : Nat} (hq : q < 64) (g d9 : Int32) (G D Q : Nat → Int32) (al : Int32) (L : gx_L) : Cf (d + 1) mX11_figureOf [.ref 44, .int al] (rM S p (nI q) g d9 G D Q) L 0 (rM S p (nI q) g d9 G D Q) L := by
  refine ct_intro (loc := [some (.ref 44), some (.int al), none]) (by decide) (Nat.le_of_ble_eq_true rfl) rfl ?_
  refine ev_ald0 dX11_figureOf_0 ?_
  refine ev_geti dX11_figureOf_1 fl_X11_69 rfl ?_
  refine ev_bipush (v := (-9)) dX11_figureOf_4 (by decide) ?_
  refine ev_icmp_ne_t 35 dX11_figureOf_6 (by decide) (nI_n9b q hq) ?_
  refine ev_bipush (v := (-9)) dX11_figureOf_35 (by decide) ?_
  refine ev_ist2 dX11_figureOf_37 ?_
  refine ev_ild2 dX11_figureOf_38 ?_
  refine ev_i2l dX11_figureOf_39 ?_
  refine ev_lconst (v := 0) dX11_figureOf_40 (by decide) ?_
  refine ev_ldc2 dX11_figureOf_41 kc_X11_75 ?_
  refine ev_S3i (M' := mX11_in) dX11_figureOf_44 lk_X11_62 sX11_in (m_in d _ _ _ _ _) (Nat.le_refl _) (Nat.le_of_ble_eq_true rfl) ?_
  refine ev_if_eq_t 58 dX11_figureOf_47 (by decide) (gb_f (by decide)) ?_
  refine ev_ald0 dX11_figureOf_58 ?_
  refine ev_ald0 dX11_figureOf_59 ?_
  refine ev_geti dX11_figureOf_60 fl_X11_69 rfl ?_
  refine ev_bipush (v := (-9)) dX11_figureOf_63 (by decide) ?_
  refine ev_icmp_ne_t 75 dX11_figureOf_65 (by decide) (nI_n9b q hq) ?_
  refine ev_ald0 dX11_figureOf_75 ?_
  refine ev_geti dX11_figureOf_76 fl_X11_69 rfl ?_
  refine ev_puti dX11_figureOf_79 fp_X11_69 rfl ?_
  rw [rM_fa, rM_u15]
  refine ev_iconst (v := 0) dX11_figureOf_82 (by decide) ?_
  refine ev_iret dX11_figureOf_83 ?_
  exact ⟨_, rfl, rfl, rfl, rfl⟩
set_option maxRecDepth 10000 in
theorem m_figT (d : Nat) (S : gx_S) {len : Nat} (hlen : S 44 13 = nI len) (h60 : len ≤ 60) (hf : okL (S 53) len) {p : Nat} (g d9 : Int32) (G D Q : Nat → Int32) {al : Int32} (ho : okA al (S 53) len p = true) (L : gx_L) : Cf (d + 1) mX11_figureOf [.ref 44, .int al] (rM S (nI p) (-9) g d9 G D Q) L (dv (S 53) p) (rM S (nI (p + 1)) (-9) g d9 G D Q) L := by
  refine ct_intro (loc := [some (.ref 44), some (.int al), none]) (by decide) (Nat.le_of_ble_eq_true rfl) rfl ?_
  have hop := Bool.and_eq_true_iff.mp ho
  obtain ⟨hlt, k, hk, ek, ek2⟩ := okd_v hf hop.1
  have e9 : S 53 p - 48 = nI k := ek
  refine ev_ald0 dX11_figureOf_0 ?_
  refine ev_geti dX11_figureOf_1 fl_X11_69 rfl ?_
  refine ev_bipush (v := (-9)) dX11_figureOf_4 (by decide) ?_
  refine ev_icmp_ne_f 35 dX11_figureOf_6 (by decide) rfl ?_
  refine ev_ald0 dX11_figureOf_9 ?_
  refine ev_geti dX11_figureOf_10 fl_X11_72 rfl ?_
  refine ev_ald0 dX11_figureOf_13 ?_
  refine ev_geti dX11_figureOf_14 fl_X11_66 rfl ?_
  refine ev_icmp_ge_f 35 dX11_figureOf_17 (by decide) (by rw [r13, hlen]; exact nI_ge hlt (by omega)) ?_
  refine ev_ald0 dX11_figureOf_20 ?_
  refine ev_getr (r := 53) dX11_figureOf_21 fl_X11_34 rfl ?_
  refine ev_ald0 dX11_figureOf_24 ?_
  refine ev_geti dX11_figureOf_25 fl_X11_72 rfl ?_
  refine ev_iald2 (j := p) dX11_figureOf_28 rfl rfl (by omega) (by first | decide | omega) ?_
  refine ev_bipush (v := 48) dX11_figureOf_29 (by decide) ?_
  refine ev_isub dX11_figureOf_31 ?_
  rw [r53, e9]
  refine ev_goto 37 dX11_figureOf_32 (by decide) ?_
  refine ev_ist2 dX11_figureOf_37 ?_
  refine ev_ild2 dX11_figureOf_38 ?_
  refine ev_i2l dX11_figureOf_39 ?_
  refine ev_lconst (v := 0) dX11_figureOf_40 (by decide) ?_
  refine ev_ldc2 dX11_figureOf_41 kc_X11_75 ?_
  refine ev_S3i (M' := mX11_in) dX11_figureOf_44 lk_X11_62 sX11_in (m_in d _ _ _ _ _) (Nat.le_refl _) (Nat.le_of_ble_eq_true rfl) ?_
  refine ev_if_eq_f 58 dX11_figureOf_47 (by decide) (gb_t (by rw [← e9, okd_in hf hlt]; exact hop.1)) ?_
  refine ev_ild1 dX11_figureOf_50 ?_
  refine ev_ild2 dX11_figureOf_51 ?_
  refine ev_S2i (M' := mX11_has) dX11_figureOf_52 lk_X11_77 sX11_has (m_has d _ _ _ _) (Nat.le_refl _) (Nat.le_of_ble_eq_true rfl) ?_
  refine ev_if_ne_t 84 dX11_figureOf_55 (by decide) (gb_t (by rw [← ek2]; exact hop.2)) ?_
  refine ev_ald0 dX11_figureOf_84 ?_
  refine ev_dupr dX11_figureOf_85 ?_
  refine ev_geti dX11_figureOf_86 fl_X11_72 rfl ?_
  refine ev_iconst (v := 1) dX11_figureOf_89 (by decide) ?_
  refine ev_iadd dX11_figureOf_90 ?_
  rw [rM_at, show nI p + 1 = nI (p + 1) from nI_1 p]
  refine ev_puti dX11_figureOf_91 fp_X11_72 rfl ?_
  rw [rM_u14]
  refine ev_ild2 dX11_figureOf_94 ?_
  refine ev_iret dX11_figureOf_95 ?_
  exact ⟨_, rfl, ek.symm, rfl, rfl⟩
set_option maxRecDepth 10000 in
theorem m_figN (d : Nat) (S : gx_S) {len : Nat} (hlen : S 44 13 = nI len) (h60 : len ≤ 60) (hf : okL (S 53) len) {p : Nat} (hp : p ≤ len) (g d9 : Int32) (G D Q : Nat → Int32) {al : Int32} (ho : okA al (S 53) len p = false) (L : gx_L) : Cf (d + 1) mX11_figureOf [.ref 44, .int al] (rM S (nI p) (-9) g d9 G D Q) L 0 (rM S (nI p) (nI p) g d9 G D Q) L := by
  refine ct_intro (loc := [some (.ref 44), some (.int al), none]) (by decide) (Nat.le_of_ble_eq_true rfl) rfl ?_
  refine ev_ald0 dX11_figureOf_0 ?_
  refine ev_geti dX11_figureOf_1 fl_X11_69 rfl ?_
  refine ev_bipush (v := (-9)) dX11_figureOf_4 (by decide) ?_
  refine ev_icmp_ne_f 35 dX11_figureOf_6 (by decide) rfl ?_
  refine ev_ald0 dX11_figureOf_9 ?_
  refine ev_geti dX11_figureOf_10 fl_X11_72 rfl ?_
  refine ev_ald0 dX11_figureOf_13 ?_
  refine ev_geti dX11_figureOf_14 fl_X11_66 rfl ?_
  refine ev_icmp_ge 35 dX11_figureOf_17 (by decide) (fun c_17 => ?_) (fun c_17 => ?_)
  · refine ev_bipush (v := (-9)) dX11_figureOf_35 (by decide) ?_
    refine ev_ist2 dX11_figureOf_37 ?_
    refine ev_ild2 dX11_figureOf_38 ?_
    refine ev_i2l dX11_figureOf_39 ?_
    refine ev_lconst (v := 0) dX11_figureOf_40 (by decide) ?_
    refine ev_ldc2 dX11_figureOf_41 kc_X11_75 ?_
    refine ev_S3i (M' := mX11_in) dX11_figureOf_44 lk_X11_62 sX11_in (m_in d _ _ _ _ _) (Nat.le_refl _) (Nat.le_of_ble_eq_true rfl) ?_
    refine ev_if_eq 58 dX11_figureOf_47 (by decide) (fun c_47 => ?_) (fun c_47 => ?_)
    · have b_47 := gx_b_n.mp c_47
      refine ev_ald0 dX11_figureOf_58 ?_
      refine ev_ald0 dX11_figureOf_59 ?_
      refine ev_geti dX11_figureOf_60 fl_X11_69 rfl ?_
      refine ev_bipush (v := (-9)) dX11_figureOf_63 (by decide) ?_
      refine ev_icmp_ne_f 75 dX11_figureOf_65 (by decide) rfl ?_
      refine ev_ald0 dX11_figureOf_68 ?_
      refine ev_geti dX11_figureOf_69 fl_X11_72 rfl ?_
      refine ev_goto 79 dX11_figureOf_72 (by decide) ?_
      refine ev_puti dX11_figureOf_79 fp_X11_69 rfl ?_
      rw [rM_at, rM_u15]
      refine ev_iconst (v := 0) dX11_figureOf_82 (by decide) ?_
      refine ev_iret dX11_figureOf_83 ?_
      exact ⟨_, rfl, rfl, rfl, rfl⟩
    · have b_47 := gx_b_y.mp c_47
      exact absurd b_47 (by decide)
  · have hlt : p < len := by
      rcases Nat.lt_or_ge p len with h | h
      · exact h
      · exact absurd (by rw [r13, hlen]; exact nI_le h (by omega)) c_17
    refine ev_ald0 dX11_figureOf_20 ?_
    refine ev_getr (r := 53) dX11_figureOf_21 fl_X11_34 rfl ?_
    refine ev_ald0 dX11_figureOf_24 ?_
    refine ev_geti dX11_figureOf_25 fl_X11_72 rfl ?_
    refine ev_iald2 (j := p) dX11_figureOf_28 rfl rfl (by omega) (by first | decide | omega) ?_
    refine ev_bipush (v := 48) dX11_figureOf_29 (by decide) ?_
    refine ev_isub dX11_figureOf_31 ?_
    rw [r53]
    refine ev_goto 37 dX11_figureOf_32 (by decide) ?_
    refine ev_ist2 dX11_figureOf_37 ?_
    refine ev_ild2 dX11_figureOf_38 ?_
    refine ev_i2l dX11_figureOf_39 ?_
    refine ev_lconst (v := 0) dX11_figureOf_40 (by decide) ?_
    refine ev_ldc2 dX11_figureOf_41 kc_X11_75 ?_
    refine ev_S3i (M' := mX11_in) dX11_figureOf_44 lk_X11_62 sX11_in (m_in d _ _ _ _ _) (Nat.le_refl _) (Nat.le_of_ble_eq_true rfl) ?_
    refine ev_if_eq 58 dX11_figureOf_47 (by decide) (fun c_47 => ?_) (fun c_47 => ?_)
    · have b_47 := gx_b_n.mp c_47
      refine ev_ald0 dX11_figureOf_58 ?_
      refine ev_ald0 dX11_figureOf_59 ?_
      refine ev_geti dX11_figureOf_60 fl_X11_69 rfl ?_
      refine ev_bipush (v := (-9)) dX11_figureOf_63 (by decide) ?_
      refine ev_icmp_ne_f 75 dX11_figureOf_65 (by decide) rfl ?_
      refine ev_ald0 dX11_figureOf_68 ?_
      refine ev_geti dX11_figureOf_69 fl_X11_72 rfl ?_
      refine ev_goto 79 dX11_figureOf_72 (by decide) ?_
      refine ev_puti dX11_figureOf_79 fp_X11_69 rfl ?_
      rw [rM_at, rM_u15]
      refine ev_iconst (v := 0) dX11_figureOf_82 (by decide) ?_
      refine ev_iret dX11_figureOf_83 ?_
      exact ⟨_, rfl, rfl, rfl, rfl⟩
    · have b_47 := gx_b_y.mp c_47
      have hod : okd (S 53) len p = true := by rw [← okd_in hf hlt]; exact b_47
      obtain ⟨hlt9, k, hk, ek, ek2⟩ := okd_v hf hod
      have e9 : S 53 p - 48 = nI k := ek
      have hbt : bt al k = false := by
        unfold okA at ho
        rw [hod, ek2, Bool.true_and] at ho
        exact ho
      rw [e9]
      refine ev_ild1 dX11_figureOf_50 ?_
      refine ev_ild2 dX11_figureOf_51 ?_
      refine ev_S2i (M' := mX11_has) dX11_figureOf_52 lk_X11_77 sX11_has (m_has d _ _ _ _) (Nat.le_refl _) (Nat.le_of_ble_eq_true rfl) ?_
      refine ev_if_ne_f 84 dX11_figureOf_55 (by decide) (gb_f hbt) ?_
      refine ev_ald0 dX11_figureOf_58 ?_
      refine ev_ald0 dX11_figureOf_59 ?_
      refine ev_geti dX11_figureOf_60 fl_X11_69 rfl ?_
      refine ev_bipush (v := (-9)) dX11_figureOf_63 (by decide) ?_
      refine ev_icmp_ne_f 75 dX11_figureOf_65 (by decide) rfl ?_
      refine ev_ald0 dX11_figureOf_68 ?_
      refine ev_geti dX11_figureOf_69 fl_X11_72 rfl ?_
      refine ev_goto 79 dX11_figureOf_72 (by decide) ?_
      refine ev_puti dX11_figureOf_79 fp_X11_69 rfl ?_
      rw [rM_at, rM_u15]
      refine ev_iconst (v := 0) dX11_figureOf_82 (by decide) ?_
      refine ev_iret dX11_figureOf_83 ?_
      exact ⟨_, rfl, rfl, rfl, rfl⟩
