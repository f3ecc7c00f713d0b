def q_free (ng : Nat) (s : Int32) : Int32 := ((1 : Int32) <<< (nI ng &&& 31) - 1) &&& (s ^^^ -1)
def q_flN (fb : Nat → Bool) : Nat → Int32
  | 0 => 0
  | n + 1 => q_flN fb n ||| (if fb n = true then (1 : Int32) <<< (nI n &&& 31) else 0)
theorem free_0 : ∀ (ng : Fin 6) (s : Fin 32), (s : Nat) < 2 ^ (ng : Nat) → (q_free ng (nI s) = 0 ↔ nI s = (1 : Int32) <<< (nI ng &&& 31) - 1) := by decide +kernel
theorem free_b : ∀ (ng : Fin 6) (s : Fin 32) (j : Fin 10), (s : Nat) < 2 ^ (ng : Nat) → bt (q_free ng (nI s)) j = (decide ((j : Nat) < ng) && !bt (nI s) j) := by decide +kernel
def b4 (b0 b1 b2 b3 : Bool) (i : Nat) : Bool := if i = 0 then b0 else if i = 1 then b1 else if i = 2 then b2 else if i = 3 then b3 else false
theorem flN_b : ∀ (b0 b1 b2 b3 : Bool) (n : Fin 5) (j : Fin 10), bt (q_flN (b4 b0 b1 b2 b3) n) j = (decide ((j : Nat) < n) && b4 b0 b1 b2 b3 j) := by decide +kernel
theorem flN_0 : ∀ (b0 b1 b2 b3 : Bool) (n : Fin 5), q_flN (b4 b0 b1 b2 b3) n = 0 ↔ anyB (b4 b0 b1 b2 b3) n = false := by decide +kernel
theorem flN_c {p q : Nat → Bool} : ∀ n, (∀ i, i < n → p i = q i) → q_flN p n = q_flN q n ∧ anyB p n = anyB q n
  | 0, _ => ⟨rfl, rfl⟩
  | n + 1, h => by
    obtain ⟨h1, h2⟩ := flN_c n (fun i hi => h i (by omega))
    constructor
    · show q_flN p n ||| _ = q_flN q n ||| _
      rw [h1, h n (by omega)]
    · show (anyB p n || p n) = (anyB q n || q n)
      rw [h2, h n (by omega)]
theorem b4_eq (p : Nat → Bool) {i : Nat} (h : i < 4) : p i = b4 (p 0) (p 1) (p 2) (p 3) i := by
  rcases (show i = 0 ∨ i = 1 ∨ i = 2 ∨ i = 3 by omega) with rfl | rfl | rfl | rfl <;> rfl
theorem flN_bt (p : Nat → Bool) {n j : Nat} (hn : n ≤ 4) (hj : j < 10) : bt (q_flN p n) j = (decide (j < n) && p j) := by
  have e := (flN_c (p := p) (q := b4 (p 0) (p 1) (p 2) (p 3)) n (fun i hi => b4_eq p (by omega))).1
  have e2 : bt (q_flN (b4 (p 0) (p 1) (p 2) (p 3)) n) j = (decide (j < n) && b4 (p 0) (p 1) (p 2) (p 3) j) := flN_b (p 0) (p 1) (p 2) (p 3) ⟨n, by omega⟩ ⟨j, hj⟩
  rw [e, e2]
  by_cases h : j < n
  · rw [decide_eq_true h, ← b4_eq p (by omega)]
  · rw [decide_eq_false h, Bool.false_and, Bool.false_and]
theorem flN_z (p : Nat → Bool) {n : Nat} (hn : n ≤ 4) : q_flN p n = 0 ↔ anyB p n = false := by
  obtain ⟨e1, e2⟩ := flN_c (p := p) (q := b4 (p 0) (p 1) (p 2) (p 3)) n (fun i hi => b4_eq p (by omega))
  rw [e1, e2]
  exact flN_0 (p 0) (p 1) (p 2) (p 3) ⟨n, by omega⟩
/-- who may still sit -/
def fbQ (ng : Nat) (Q : Nat → Int32) (i : Nat) : Bool := decide (¬ q_free ng (Q i) = 0)
set_option maxRecDepth 10000 in
theorem m_freeOf (d : Nat) (S : gx_S) (p fa d9 : Int32) (ng : Nat) (G D Z : Nat → Int32) {i : Nat} (hi : i < 4) (L : gx_L) : Cf d mX11_freeOf [.ref 44, .int (nI i)] (rM S p fa (nI ng) d9 G D Z) L (q_free ng (Z i)) (rM S p fa (nI ng) d9 G D Z) L := by
  refine ct_intro (loc := [some (.ref 44), some (.int (nI i))]) (by decide) (Nat.le_of_ble_eq_true rfl) rfl ?_
  refine ev_iconst (v := 1) dX11_freeOf_0 (by decide) ?_
  refine ev_ald0 dX11_freeOf_1 ?_
  refine ev_geti dX11_freeOf_2 fl_X11_81 rfl ?_
  rw [rM_g]
  refine ev_ishl dX11_freeOf_5 ?_
  refine ev_iconst (v := 1) dX11_freeOf_6 (by decide) ?_
  refine ev_isub dX11_freeOf_7 ?_
  refine ev_ald0 dX11_freeOf_8 ?_
  refine ev_getr (r := 52) dX11_freeOf_9 fl_X11_31 rfl ?_
  refine ev_ild1 dX11_freeOf_12 ?_
  refine ev_iald' dX11_freeOf_13 rfl (by omega) (by decide) ?_
  rw [rM_52]
  refine ev_iconst (v := (-1)) dX11_freeOf_14 (by decide) ?_
  refine ev_ixor dX11_freeOf_15 ?_
  refine ev_iand dX11_freeOf_16 ?_
  refine ev_iret dX11_freeOf_17 ?_
  exact ⟨_, rfl, rfl, rfl, rfl⟩
set_option maxRecDepth 10000 in
theorem ml_firsts (d : Nat) (S : gx_S) (p fa : Int32) (ng nd : Nat) (h4 : nd ≤ 4) (G D Z : Nat → Int32) (L : gx_L) {Q : Option Value → gx_S → gx_L → Prop}  (kk : Ev mX11_firstsLeft (d + 1) 36 [some (.ref 44), some (.int (q_flN (fbQ ng Z) (nd))), some (.int (nI (nd)))] [] ((rM S p fa (nI ng) (nI nd) G D Z)) L Q) : ∀ (nn i : Nat), i + nn = nd → Ev mX11_firstsLeft (d + 1) 4 [some (.ref 44), some (.int (q_flN (fbQ ng Z) (i))), some (.int (nI (i)))] [] ((rM S p fa (nI ng) (nI nd) G D Z)) L Q := by
  intro nn
  induction nn with
  | zero =>
    intro i hi
    obtain rfl : i = nd := hi
    refine ev_ild2 dX11_firstsLeft_4 ?_
    refine ev_ald0 dX11_firstsLeft_5 ?_
    refine ev_geti dX11_firstsLeft_6 fl_X11_84 rfl ?_
    refine ev_icmp_ge_t 36 dX11_firstsLeft_9 (by decide) (by rw [rM_d]; exact nI_le (Nat.le_refl _) (by omega)) ?_
    exact kk
  | succ nn ih =>
    intro i hi
    refine ev_ild2 dX11_firstsLeft_4 ?_
    refine ev_ald0 dX11_firstsLeft_5 ?_
    refine ev_geti dX11_firstsLeft_6 fl_X11_84 rfl ?_
    refine ev_icmp_ge_f 36 dX11_firstsLeft_9 (by decide) (by rw [rM_d]; exact nI_ge (by omega) (by omega)) ?_
    refine ev_ild1 dX11_firstsLeft_12 ?_
    refine ev_ald0 dX11_firstsLeft_13 ?_
    refine ev_ild2 dX11_firstsLeft_14 ?_
    refine ev_V1i (M' := mX11_freeOf) dX11_firstsLeft_15 lk_X11_87 vX11_freeOf rfl (m_freeOf d S p fa (nI nd) ng G D Z (by omega) L) (Nat.le_refl _) (Nat.le_of_ble_eq_true rfl) ?_
    refine ev_if_eq 27 dX11_firstsLeft_18 (by decide) (fun c_18 => ?_) (fun c_18 => ?_)
    · refine ev_iconst (v := 0) dX11_firstsLeft_27 (by decide) ?_
      refine ev_ior dX11_firstsLeft_28 ?_
      refine ev_ist1 dX11_firstsLeft_29 ?_
      refine ev_inc2 dX11_firstsLeft_30 (nI_inc _) ?_
      refine ev_goto 4 dX11_firstsLeft_33 (by decide) ?_
      have e9 : fbQ ng Z i = false := decide_eq_false (fun h9 => h9 c_18)
      have e := ih (i + 1) (by omega)
      simp only [q_flN, e9] at e
      exact e
    · refine ev_iconst (v := 1) dX11_firstsLeft_21 (by decide) ?_
      refine ev_ild2 dX11_firstsLeft_22 ?_
      refine ev_ishl dX11_firstsLeft_23 ?_
      refine ev_goto 28 dX11_firstsLeft_24 (by decide) ?_
      refine ev_ior dX11_firstsLeft_28 ?_
      refine ev_ist1 dX11_firstsLeft_29 ?_
      refine ev_inc2 dX11_firstsLeft_30 (nI_inc _) ?_
      refine ev_goto 4 dX11_firstsLeft_33 (by decide) ?_
      have e9 : fbQ ng Z i = true := decide_eq_true c_18
      have e := ih (i + 1) (by omega)
      simp only [q_flN, e9] at e
      exact e
set_option maxRecDepth 10000 in
theorem m_firsts (d : Nat) (S : gx_S) (p fa : Int32) (ng nd : Nat) (h4 : nd ≤ 4) (G D Z : Nat → Int32) (L : gx_L) : Cf (d + 1) mX11_firstsLeft [.ref 44] (rM S p fa (nI ng) (nI nd) G D Z) L (q_flN (fbQ ng Z) nd) (rM S p fa (nI ng) (nI nd) G D Z) L := by
  refine ct_intro (loc := [some (.ref 44), none, none]) (by decide) (Nat.le_of_ble_eq_true rfl) rfl ?_
  refine ev_iconst (v := 0) dX11_firstsLeft_0 (by decide) ?_
  refine ev_ist1 dX11_firstsLeft_1 ?_
  refine ev_iconst (v := 0) dX11_firstsLeft_2 (by decide) ?_
  refine ev_ist2 dX11_firstsLeft_3 ?_
  refine ml_firsts d S p fa ng nd h4 G D Z L ?_ nd 0 (Nat.zero_add _)
  refine ev_ild1 dX11_firstsLeft_36 ?_
  refine ev_iret dX11_firstsLeft_37 ?_
  exact ⟨_, rfl, rfl, rfl, rfl⟩
set_option maxRecDepth 10000 in
theorem m_pV0 (d : Nat) (S : gx_S) {len : Nat} (hlen : S 44 13 = nI len) (h60 : len ≤ 60) (hf : okL (S 53) len) {p : Nat} {ng nd : Nat} (h5 : ng ≤ 5) (h4 : nd ≤ 4) (G D Z : Nat → Int32) (hg5 : ng < 5) (hpl : p < len) (h1 : okA (1022) (S 53) len (p + 1) = true) (h2 : okA ((1 : Int32) <<< (((dv (S 53) (p + 1)) + 1) &&& 31) - 1) (S 53) len (p + 2) = true) (h3 : okA (15) (S 53) len (p + 3) = true) (L : gx_L) : Cw (d + 2) mX11_readPart [.ref 44, .int 86] (rM S (nI p) (-9) (nI ng) (nI nd) G D Z) L (rM S (nI (p + 4)) (-9) (nI (ng + 1)) (nI nd) (upd (upd (upd G (3 * ng) (dv (S 53) (p + 1))) (3 * ng + 1) (dv (S 53) (p + 2))) (3 * ng + 2) (dv (S 53) (p + 3))) D Z) L := by
  refine ct_intro (loc := [some (.ref 44), some (.int 86), none, none]) (by decide) (Nat.le_of_ble_eq_true rfl) rfl ?_
  refine ev_ild1 dX11_readPart_0 ?_
  refine ev_bipush (v := 86) dX11_readPart_1 (by decide) ?_
  refine ev_icmp_ne_f 95 dX11_readPart_3 (by decide) rfl ?_
  refine ev_ald0 dX11_readPart_6 ?_
  refine ev_geti dX11_readPart_7 fl_X11_81 rfl ?_
  refine ev_iconst (v := 5) dX11_readPart_10 (by decide) ?_
  refine ev_icmp_ge_f 95 dX11_readPart_11 (by decide) (by rw [rM_g]; exact nI_ge (b := 5) hg5 (by decide)) ?_
  refine ev_ald0 dX11_readPart_14 ?_
  refine ev_dupr dX11_readPart_15 ?_
  refine ev_geti dX11_readPart_16 fl_X11_72 rfl ?_
  refine ev_iconst (v := 1) dX11_readPart_19 (by decide) ?_
  refine ev_iadd dX11_readPart_20 ?_
  rw [rM_at, show nI (p) + 1 = nI (p + 1) from nI_1 _]
  refine ev_puti dX11_readPart_21 fp_X11_72 rfl ?_
  rw [rM_u14]
  refine ev_iconst (v := 3) dX11_readPart_24 (by decide) ?_
  refine ev_ald0 dX11_readPart_25 ?_
  refine ev_geti dX11_readPart_26 fl_X11_81 rfl ?_
  rw [rM_g]
  refine ev_imul dX11_readPart_29 ?_
  rw [show (3 : Int32) * nI ng = nI (3 * ng) from nI_mul 3 ng]
  refine ev_ist2 dX11_readPart_30 ?_
  refine ev_ald0 dX11_readPart_31 ?_
  refine ev_getr (r := 50) dX11_readPart_32 fl_X11_25 rfl ?_
  refine ev_ild2 dX11_readPart_35 ?_
  refine ev_ald0 dX11_readPart_36 ?_
  refine ev_sipush (v := 1022) dX11_readPart_37 (by decide) ?_
  refine ev_V1i (M' := mX11_figureOf) dX11_readPart_40 lk_X11_95 vX11_figureOf rfl (m_figT d S hlen h60 hf (p := p + 1) _ _ _ _ _ h1 L) (Nat.le_refl _) (Nat.le_of_ble_eq_true rfl) ?_
  refine ev_iast2 (j := 3 * ng) dX11_readPart_43 rfl rfl (by omega) (by first | decide | omega) ?_
  rw [rM_uG]
  refine ev_ald0 dX11_readPart_44 ?_
  refine ev_getr (r := 50) dX11_readPart_45 fl_X11_25 rfl ?_
  refine ev_ild2 dX11_readPart_48 ?_
  refine ev_iconst (v := 1) dX11_readPart_49 (by decide) ?_
  refine ev_iadd dX11_readPart_50 ?_
  refine ev_ald0 dX11_readPart_51 ?_
  refine ev_iconst (v := 1) dX11_readPart_52 (by decide) ?_
  refine ev_ald0 dX11_readPart_53 ?_
  refine ev_getr (r := 50) dX11_readPart_54 fl_X11_25 rfl ?_
  refine ev_ild2 dX11_readPart_57 ?_
  refine ev_iald2 (j := 3 * ng) dX11_readPart_58 rfl rfl (by omega) (by first | decide | omega) ?_
  rw [rM_50, upd_at]
  refine ev_iconst (v := 1) dX11_readPart_59 (by decide) ?_
  refine ev_iadd dX11_readPart_60 ?_
  refine ev_ishl dX11_readPart_61 ?_
  refine ev_iconst (v := 1) dX11_readPart_62 (by decide) ?_
  refine ev_isub dX11_readPart_63 ?_
  refine ev_V1i (M' := mX11_figureOf) dX11_readPart_64 lk_X11_95 vX11_figureOf rfl (m_figT d S hlen h60 hf (p := p + 2) _ _ _ _ _ h2 L) (Nat.le_refl _) (Nat.le_of_ble_eq_true rfl) ?_
  refine ev_iast2 (j := 3 * ng + 1) dX11_readPart_67 rfl (ix2 _ 1) (by omega) (by first | decide | omega) ?_
  rw [rM_uG]
  refine ev_ald0 dX11_readPart_68 ?_
  refine ev_getr (r := 50) dX11_readPart_69 fl_X11_25 rfl ?_
  refine ev_ild2 dX11_readPart_72 ?_
  refine ev_iconst (v := 2) dX11_readPart_73 (by decide) ?_
  refine ev_iadd dX11_readPart_74 ?_
  refine ev_ald0 dX11_readPart_75 ?_
  refine ev_bipush (v := 15) dX11_readPart_76 (by decide) ?_
  refine ev_V1i (M' := mX11_figureOf) dX11_readPart_78 lk_X11_95 vX11_figureOf rfl (m_figT d S hlen h60 hf (p := p + 3) _ _ _ _ _ h3 L) (Nat.le_refl _) (Nat.le_of_ble_eq_true rfl) ?_
  refine ev_iast2 (j := 3 * ng + 2) dX11_readPart_81 rfl (ix2 _ 2) (by omega) (by first | decide | omega) ?_
  rw [rM_uG]
  refine ev_ald0 dX11_readPart_82 ?_
  refine ev_dupr dX11_readPart_83 ?_
  refine ev_geti dX11_readPart_84 fl_X11_81 rfl ?_
  refine ev_iconst (v := 1) dX11_readPart_87 (by decide) ?_
  refine ev_iadd dX11_readPart_88 ?_
  rw [rM_g, show nI (ng) + 1 = nI (ng + 1) from nI_1 _]
  refine ev_puti dX11_readPart_89 fp_X11_81 rfl ?_
  rw [rM_u10]
  refine ev_goto 247 dX11_readPart_92 (by decide) ?_
  refine ev_vret dX11_readPart_247 ?_
  exact ⟨rfl, rfl, rfl⟩
set_option maxRecDepth 10000 in
theorem m_pV3 (d : Nat) (S : gx_S) {len : Nat} (hlen : S 44 13 = nI len) (h60 : len ≤ 60) (hf : okL (S 53) len) {p : Nat} {ng nd : Nat} (h5 : ng ≤ 5) (h4 : nd ≤ 4) (G D Z : Nat → Int32) (hg5 : ng < 5) (hpl : p < len) (h1 : okA (1022) (S 53) len (p + 1) = true) (h2 : okA ((1 : Int32) <<< (((dv (S 53) (p + 1)) + 1) &&& 31) - 1) (S 53) len (p + 2) = true) (hp3 : p + 3 ≤ len) (h3 : okA (15) (S 53) len (p + 3) = false) (L : gx_L) : Cw (d + 2) mX11_readPart [.ref 44, .int 86] (rM S (nI p) (-9) (nI ng) (nI nd) G D Z) L (rM S (nI (p + 3)) (nI (p + 3)) (nI (ng + 1)) (nI nd) (upd (upd (upd G (3 * ng) (dv (S 53) (p + 1))) (3 * ng + 1) (dv (S 53) (p + 2))) (3 * ng + 2) 0) D Z) L := by
  refine ct_intro (loc := [some (.ref 44), some (.int 86), none, none]) (by decide) (Nat.le_of_ble_eq_true rfl) rfl ?_
  refine ev_ild1 dX11_readPart_0 ?_
  refine ev_bipush (v := 86) dX11_readPart_1 (by decide) ?_
  refine ev_icmp_ne_f 95 dX11_readPart_3 (by decide) rfl ?_
  refine ev_ald0 dX11_readPart_6 ?_
  refine ev_geti dX11_readPart_7 fl_X11_81 rfl ?_
  refine ev_iconst (v := 5) dX11_readPart_10 (by decide) ?_
  refine ev_icmp_ge_f 95 dX11_readPart_11 (by decide) (by rw [rM_g]; exact nI_ge (b := 5) hg5 (by decide)) ?_
  refine ev_ald0 dX11_readPart_14 ?_
  refine ev_dupr dX11_readPart_15 ?_
  refine ev_geti dX11_readPart_16 fl_X11_72 rfl ?_
  refine ev_iconst (v := 1) dX11_readPart_19 (by decide) ?_
  refine ev_iadd dX11_readPart_20 ?_
  rw [rM_at, show nI (p) + 1 = nI (p + 1) from nI_1 _]
  refine ev_puti dX11_readPart_21 fp_X11_72 rfl ?_
  rw [rM_u14]
  refine ev_iconst (v := 3) dX11_readPart_24 (by decide) ?_
  refine ev_ald0 dX11_readPart_25 ?_
  refine ev_geti dX11_readPart_26 fl_X11_81 rfl ?_
  rw [rM_g]
  refine ev_imul dX11_readPart_29 ?_
  rw [show (3 : Int32) * nI ng = nI (3 * ng) from nI_mul 3 ng]
  refine ev_ist2 dX11_readPart_30 ?_
  refine ev_ald0 dX11_readPart_31 ?_
  refine ev_getr (r := 50) dX11_readPart_32 fl_X11_25 rfl ?_
  refine ev_ild2 dX11_readPart_35 ?_
  refine ev_ald0 dX11_readPart_36 ?_
  refine ev_sipush (v := 1022) dX11_readPart_37 (by decide) ?_
  refine ev_V1i (M' := mX11_figureOf) dX11_readPart_40 lk_X11_95 vX11_figureOf rfl (m_figT d S hlen h60 hf (p := p + 1) _ _ _ _ _ h1 L) (Nat.le_refl _) (Nat.le_of_ble_eq_true rfl) ?_
  refine ev_iast2 (j := 3 * ng) dX11_readPart_43 rfl rfl (by omega) (by first | decide | omega) ?_
  rw [rM_uG]
  refine ev_ald0 dX11_readPart_44 ?_
  refine ev_getr (r := 50) dX11_readPart_45 fl_X11_25 rfl ?_
  refine ev_ild2 dX11_readPart_48 ?_
  refine ev_iconst (v := 1) dX11_readPart_49 (by decide) ?_
  refine ev_iadd dX11_readPart_50 ?_
  refine ev_ald0 dX11_readPart_51 ?_
  refine ev_iconst (v := 1) dX11_readPart_52 (by decide) ?_
  refine ev_ald0 dX11_readPart_53 ?_
  refine ev_getr (r := 50) dX11_readPart_54 fl_X11_25 rfl ?_
  refine ev_ild2 dX11_readPart_57 ?_
  refine ev_iald2 (j := 3 * ng) dX11_readPart_58 rfl rfl (by omega) (by first | decide | omega) ?_
  rw [rM_50, upd_at]
  refine ev_iconst (v := 1) dX11_readPart_59 (by decide) ?_
  refine ev_iadd dX11_readPart_60 ?_
  refine ev_ishl dX11_readPart_61 ?_
  refine ev_iconst (v := 1) dX11_readPart_62 (by decide) ?_
  refine ev_isub dX11_readPart_63 ?_
  refine ev_V1i (M' := mX11_figureOf) dX11_readPart_64 lk_X11_95 vX11_figureOf rfl (m_figT d S hlen h60 hf (p := p + 2) _ _ _ _ _ h2 L) (Nat.le_refl _) (Nat.le_of_ble_eq_true rfl) ?_
  refine ev_iast2 (j := 3 * ng + 1) dX11_readPart_67 rfl (ix2 _ 1) (by omega) (by first | decide | omega) ?_
  rw [rM_uG]
  refine ev_ald0 dX11_readPart_68 ?_
  refine ev_getr (r := 50) dX11_readPart_69 fl_X11_25 rfl ?_
  refine ev_ild2 dX11_readPart_72 ?_
  refine ev_iconst (v := 2) dX11_readPart_73 (by decide) ?_
  refine ev_iadd dX11_readPart_74 ?_
  refine ev_ald0 dX11_readPart_75 ?_
  refine ev_bipush (v := 15) dX11_readPart_76 (by decide) ?_
  refine ev_V1i (M' := mX11_figureOf) dX11_readPart_78 lk_X11_95 vX11_figureOf rfl (m_figN d S hlen h60 hf (p := p + 3) (by omega) _ _ _ _ _ h3 L) (Nat.le_refl _) (Nat.le_of_ble_eq_true rfl) ?_
  refine ev_iast2 (j := 3 * ng + 2) dX11_readPart_81 rfl (ix2 _ 2) (by omega) (by first | decide | omega) ?_
  rw [rM_uG]
  refine ev_ald0 dX11_readPart_82 ?_
  refine ev_dupr dX11_readPart_83 ?_
  refine ev_geti dX11_readPart_84 fl_X11_81 rfl ?_
  refine ev_iconst (v := 1) dX11_readPart_87 (by decide) ?_
  refine ev_iadd dX11_readPart_88 ?_
  rw [rM_g, show nI (ng) + 1 = nI (ng + 1) from nI_1 _]
  refine ev_puti dX11_readPart_89 fp_X11_81 rfl ?_
  rw [rM_u10]
  refine ev_goto 247 dX11_readPart_92 (by decide) ?_
  refine ev_vret dX11_readPart_247 ?_
  exact ⟨rfl, rfl, rfl⟩
set_option maxRecDepth 10000 in
theorem m_pV2 (d : Nat) (S : gx_S) {len : Nat} (hlen : S 44 13 = nI len) (h60 : len ≤ 60) (hf : okL (S 53) len) {p : Nat} {ng nd : Nat} (h5 : ng ≤ 5) (h4 : nd ≤ 4) (G D Z : Nat → Int32) (hg5 : ng < 5) (hpl : p < len) (h1 : okA (1022) (S 53) len (p + 1) = true) (hp2 : p + 2 ≤ len) (h2 : okA ((1 : Int32) <<< (((dv (S 53) (p + 1)) + 1) &&& 31) - 1) (S 53) len (p + 2) = false) (L : gx_L) : Cw (d + 2) mX11_readPart [.ref 44, .int 86] (rM S (nI p) (-9) (nI ng) (nI nd) G D Z) L (rM S (nI (p + 2)) (nI (p + 2)) (nI (ng + 1)) (nI nd) (upd (upd (upd G (3 * ng) (dv (S 53) (p + 1))) (3 * ng + 1) 0) (3 * ng + 2) 0) D Z) L := by
  refine ct_intro (loc := [some (.ref 44), some (.int 86), none, none]) (by decide) (Nat.le_of_ble_eq_true rfl) rfl ?_
  refine ev_ild1 dX11_readPart_0 ?_
  refine ev_bipush (v := 86) dX11_readPart_1 (by decide) ?_
  refine ev_icmp_ne_f 95 dX11_readPart_3 (by decide) rfl ?_
  refine ev_ald0 dX11_readPart_6 ?_
  refine ev_geti dX11_readPart_7 fl_X11_81 rfl ?_
  refine ev_iconst (v := 5) dX11_readPart_10 (by decide) ?_
  refine ev_icmp_ge_f 95 dX11_readPart_11 (by decide) (by rw [rM_g]; exact nI_ge (b := 5) hg5 (by decide)) ?_
  refine ev_ald0 dX11_readPart_14 ?_
  refine ev_dupr dX11_readPart_15 ?_
  refine ev_geti dX11_readPart_16 fl_X11_72 rfl ?_
  refine ev_iconst (v := 1) dX11_readPart_19 (by decide) ?_
  refine ev_iadd dX11_readPart_20 ?_
  rw [rM_at, show nI (p) + 1 = nI (p + 1) from nI_1 _]
  refine ev_puti dX11_readPart_21 fp_X11_72 rfl ?_
  rw [rM_u14]
  refine ev_iconst (v := 3) dX11_readPart_24 (by decide) ?_
  refine ev_ald0 dX11_readPart_25 ?_
  refine ev_geti dX11_readPart_26 fl_X11_81 rfl ?_
  rw [rM_g]
  refine ev_imul dX11_readPart_29 ?_
  rw [show (3 : Int32) * nI ng = nI (3 * ng) from nI_mul 3 ng]
  refine ev_ist2 dX11_readPart_30 ?_
  refine ev_ald0 dX11_readPart_31 ?_
  refine ev_getr (r := 50) dX11_readPart_32 fl_X11_25 rfl ?_
  refine ev_ild2 dX11_readPart_35 ?_
  refine ev_ald0 dX11_readPart_36 ?_
  refine ev_sipush (v := 1022) dX11_readPart_37 (by decide) ?_
  refine ev_V1i (M' := mX11_figureOf) dX11_readPart_40 lk_X11_95 vX11_figureOf rfl (m_figT d S hlen h60 hf (p := p + 1) _ _ _ _ _ h1 L) (Nat.le_refl _) (Nat.le_of_ble_eq_true rfl) ?_
  refine ev_iast2 (j := 3 * ng) dX11_readPart_43 rfl rfl (by omega) (by first | decide | omega) ?_
  rw [rM_uG]
  refine ev_ald0 dX11_readPart_44 ?_
  refine ev_getr (r := 50) dX11_readPart_45 fl_X11_25 rfl ?_
  refine ev_ild2 dX11_readPart_48 ?_
  refine ev_iconst (v := 1) dX11_readPart_49 (by decide) ?_
  refine ev_iadd dX11_readPart_50 ?_
  refine ev_ald0 dX11_readPart_51 ?_
  refine ev_iconst (v := 1) dX11_readPart_52 (by decide) ?_
  refine ev_ald0 dX11_readPart_53 ?_
  refine ev_getr (r := 50) dX11_readPart_54 fl_X11_25 rfl ?_
  refine ev_ild2 dX11_readPart_57 ?_
  refine ev_iald2 (j := 3 * ng) dX11_readPart_58 rfl rfl (by omega) (by first | decide | omega) ?_
  rw [rM_50, upd_at]
  refine ev_iconst (v := 1) dX11_readPart_59 (by decide) ?_
  refine ev_iadd dX11_readPart_60 ?_
  refine ev_ishl dX11_readPart_61 ?_
  refine ev_iconst (v := 1) dX11_readPart_62 (by decide) ?_
  refine ev_isub dX11_readPart_63 ?_
  refine ev_V1i (M' := mX11_figureOf) dX11_readPart_64 lk_X11_95 vX11_figureOf rfl (m_figN d S hlen h60 hf (p := p + 2) (by omega) _ _ _ _ _ h2 L) (Nat.le_refl _) (Nat.le_of_ble_eq_true rfl) ?_
  refine ev_iast2 (j := 3 * ng + 1) dX11_readPart_67 rfl (ix2 _ 1) (by omega) (by first | decide | omega) ?_
  rw [rM_uG]
  refine ev_ald0 dX11_readPart_68 ?_
  refine ev_getr (r := 50) dX11_readPart_69 fl_X11_25 rfl ?_
  refine ev_ild2 dX11_readPart_72 ?_
  refine ev_iconst (v := 2) dX11_readPart_73 (by decide) ?_
  refine ev_iadd dX11_readPart_74 ?_
  refine ev_ald0 dX11_readPart_75 ?_
  refine ev_bipush (v := 15) dX11_readPart_76 (by decide) ?_
  refine ev_V1i (M' := mX11_figureOf) dX11_readPart_78 lk_X11_95 vX11_figureOf rfl (m_figF d S _ (q := p + 2) (by omega) _ _ _ _ _ _ L) (Nat.le_refl _) (Nat.le_of_ble_eq_true rfl) ?_
  refine ev_iast2 (j := 3 * ng + 2) dX11_readPart_81 rfl (ix2 _ 2) (by omega) (by first | decide | omega) ?_
  rw [rM_uG]
  refine ev_ald0 dX11_readPart_82 ?_
  refine ev_dupr dX11_readPart_83 ?_
  refine ev_geti dX11_readPart_84 fl_X11_81 rfl ?_
  refine ev_iconst (v := 1) dX11_readPart_87 (by decide) ?_
  refine ev_iadd dX11_readPart_88 ?_
  rw [rM_g, show nI (ng) + 1 = nI (ng + 1) from nI_1 _]
  refine ev_puti dX11_readPart_89 fp_X11_81 rfl ?_
  rw [rM_u10]
  refine ev_goto 247 dX11_readPart_92 (by decide) ?_
  refine ev_vret dX11_readPart_247 ?_
  exact ⟨rfl, rfl, rfl⟩
set_option maxRecDepth 10000 in
theorem m_pV1 (d : Nat) (S : gx_S) {len : Nat} (hlen : S 44 13 = nI len) (h60 : len ≤ 60) (hf : okL (S 53) len) {p : Nat} {ng nd : Nat} (h5 : ng ≤ 5) (h4 : nd ≤ 4) (G D Z : Nat → Int32) (hg5 : ng < 5) (hpl : p < len) (h1 : okA (1022) (S 53) len (p + 1) = false) (L : gx_L) : Cw (d + 2) mX11_readPart [.ref 44, .int 86] (rM S (nI p) (-9) (nI ng) (nI nd) G D Z) L (rM S (nI (p + 1)) (nI (p + 1)) (nI (ng + 1)) (nI nd) (upd (upd (upd G (3 * ng) 0) (3 * ng + 1) 0) (3 * ng + 2) 0) D Z) L := by
  refine ct_intro (loc := [some (.ref 44), some (.int 86), none, none]) (by decide) (Nat.le_of_ble_eq_true rfl) rfl ?_
  refine ev_ild1 dX11_readPart_0 ?_
  refine ev_bipush (v := 86) dX11_readPart_1 (by decide) ?_
  refine ev_icmp_ne_f 95 dX11_readPart_3 (by decide) rfl ?_
  refine ev_ald0 dX11_readPart_6 ?_
  refine ev_geti dX11_readPart_7 fl_X11_81 rfl ?_
  refine ev_iconst (v := 5) dX11_readPart_10 (by decide) ?_
  refine ev_icmp_ge_f 95 dX11_readPart_11 (by decide) (by rw [rM_g]; exact nI_ge (b := 5) hg5 (by decide)) ?_
  refine ev_ald0 dX11_readPart_14 ?_
  refine ev_dupr dX11_readPart_15 ?_
  refine ev_geti dX11_readPart_16 fl_X11_72 rfl ?_
  refine ev_iconst (v := 1) dX11_readPart_19 (by decide) ?_
  refine ev_iadd dX11_readPart_20 ?_
  rw [rM_at, show nI (p) + 1 = nI (p + 1) from nI_1 _]
  refine ev_puti dX11_readPart_21 fp_X11_72 rfl ?_
  rw [rM_u14]
  refine ev_iconst (v := 3) dX11_readPart_24 (by decide) ?_
  refine ev_ald0 dX11_readPart_25 ?_
  refine ev_geti dX11_readPart_26 fl_X11_81 rfl ?_
  rw [rM_g]
  refine ev_imul dX11_readPart_29 ?_
  rw [show (3 : Int32) * nI ng = nI (3 * ng) from nI_mul 3 ng]
  refine ev_ist2 dX11_readPart_30 ?_
  refine ev_ald0 dX11_readPart_31 ?_
  refine ev_getr (r := 50) dX11_readPart_32 fl_X11_25 rfl ?_
  refine ev_ild2 dX11_readPart_35 ?_
  refine ev_ald0 dX11_readPart_36 ?_
  refine ev_sipush (v := 1022) dX11_readPart_37 (by decide) ?_
  refine ev_V1i (M' := mX11_figureOf) dX11_readPart_40 lk_X11_95 vX11_figureOf rfl (m_figN d S hlen h60 hf (p := p + 1) (by omega) _ _ _ _ _ h1 L) (Nat.le_refl _) (Nat.le_of_ble_eq_true rfl) ?_
  refine ev_iast2 (j := 3 * ng) dX11_readPart_43 rfl rfl (by omega) (by first | decide | omega) ?_
  rw [rM_uG]
  refine ev_ald0 dX11_readPart_44 ?_
  refine ev_getr (r := 50) dX11_readPart_45 fl_X11_25 rfl ?_
  refine ev_ild2 dX11_readPart_48 ?_
  refine ev_iconst (v := 1) dX11_readPart_49 (by decide) ?_
  refine ev_iadd dX11_readPart_50 ?_
  refine ev_ald0 dX11_readPart_51 ?_
  refine ev_iconst (v := 1) dX11_readPart_52 (by decide) ?_
  refine ev_ald0 dX11_readPart_53 ?_
  refine ev_getr (r := 50) dX11_readPart_54 fl_X11_25 rfl ?_
  refine ev_ild2 dX11_readPart_57 ?_
  refine ev_iald2 (j := 3 * ng) dX11_readPart_58 rfl rfl (by omega) (by first | decide | omega) ?_
  rw [rM_50, upd_at]
  refine ev_iconst (v := 1) dX11_readPart_59 (by decide) ?_
  refine ev_iadd dX11_readPart_60 ?_
  refine ev_ishl dX11_readPart_61 ?_
  refine ev_iconst (v := 1) dX11_readPart_62 (by decide) ?_
  refine ev_isub dX11_readPart_63 ?_
  refine ev_V1i (M' := mX11_figureOf) dX11_readPart_64 lk_X11_95 vX11_figureOf rfl (m_figF d S _ (q := p + 1) (by omega) _ _ _ _ _ _ L) (Nat.le_refl _) (Nat.le_of_ble_eq_true rfl) ?_
  refine ev_iast2 (j := 3 * ng + 1) dX11_readPart_67 rfl (ix2 _ 1) (by omega) (by first | decide | omega) ?_
  rw [rM_uG]
  refine ev_ald0 dX11_readPart_68 ?_
  refine ev_getr (r := 50) dX11_readPart_69 fl_X11_25 rfl ?_
  refine ev_ild2 dX11_readPart_72 ?_
  refine ev_iconst (v := 2) dX11_readPart_73 (by decide) ?_
  refine ev_iadd dX11_readPart_74 ?_
  refine ev_ald0 dX11_readPart_75 ?_
  refine ev_bipush (v := 15) dX11_readPart_76 (by decide) ?_
  refine ev_V1i (M' := mX11_figureOf) dX11_readPart_78 lk_X11_95 vX11_figureOf rfl (m_figF d S _ (q := p + 1) (by omega) _ _ _ _ _ _ L) (Nat.le_refl _) (Nat.le_of_ble_eq_true rfl) ?_
  refine ev_iast2 (j := 3 * ng + 2) dX11_readPart_81 rfl (ix2 _ 2) (by omega) (by first | decide | omega) ?_
  rw [rM_uG]
  refine ev_ald0 dX11_readPart_82 ?_
  refine ev_dupr dX11_readPart_83 ?_
  refine ev_geti dX11_readPart_84 fl_X11_81 rfl ?_
  refine ev_iconst (v := 1) dX11_readPart_87 (by decide) ?_
  refine ev_iadd dX11_readPart_88 ?_
  rw [rM_g, show nI (ng) + 1 = nI (ng + 1) from nI_1 _]
  refine ev_puti dX11_readPart_89 fp_X11_81 rfl ?_
  rw [rM_u10]
  refine ev_goto 247 dX11_readPart_92 (by decide) ?_
  refine ev_vret dX11_readPart_247 ?_
  exact ⟨rfl, rfl, rfl⟩
set_option maxRecDepth 10000 in
theorem m_pD0 (d : Nat) (S : gx_S) {len : Nat} (hlen : S 44 13 = nI len) (h60 : len ≤ 60) (hf : okL (S 53) len) {p : Nat} {ng nd : Nat} (h5 : ng ≤ 5) (h4 : nd ≤ 4) (G D Z : Nat → Int32) (hd4 : nd < 4) (hpl : p < len) (h1 : okA (1023) (S 53) len (p + 1) = true) (h2 : okA (15) (S 53) len (p + 2) = true) (L : gx_L) : Cw (d + 2) mX11_readPart [.ref 44, .int 68] (rM S (nI p) (-9) (nI ng) (nI nd) G D Z) L (rM S (nI (p + 3)) (-9) (nI ng) (nI (nd + 1)) G (upd (upd D (2 * nd) (dv (S 53) (p + 1))) (2 * nd + 1) (dv (S 53) (p + 2))) Z) L := by
  refine ct_intro (loc := [some (.ref 44), some (.int 68), none, none]) (by decide) (Nat.le_of_ble_eq_true rfl) rfl ?_
  refine ev_ild1 dX11_readPart_0 ?_
  refine ev_bipush (v := 86) dX11_readPart_1 (by decide) ?_
  refine ev_icmp_ne_t 95 dX11_readPart_3 (by decide) (by decide) ?_
  refine ev_ild1 dX11_readPart_95 ?_
  refine ev_bipush (v := 68) dX11_readPart_96 (by decide) ?_
  refine ev_icmp_ne_f 169 dX11_readPart_98 (by decide) rfl ?_
  refine ev_ald0 dX11_readPart_101 ?_
  refine ev_geti dX11_readPart_102 fl_X11_84 rfl ?_
  refine ev_iconst (v := 4) dX11_readPart_105 (by decide) ?_
  refine ev_icmp_ge_f 169 dX11_readPart_106 (by decide) (by rw [rM_d]; exact nI_ge (b := 4) hd4 (by decide)) ?_
  refine ev_ald0 dX11_readPart_109 ?_
  refine ev_dupr dX11_readPart_110 ?_
  refine ev_geti dX11_readPart_111 fl_X11_72 rfl ?_
  refine ev_iconst (v := 1) dX11_readPart_114 (by decide) ?_
  refine ev_iadd dX11_readPart_115 ?_
  rw [rM_at, show nI (p) + 1 = nI (p + 1) from nI_1 _]
  refine ev_puti dX11_readPart_116 fp_X11_72 rfl ?_
  rw [rM_u14]
  refine ev_ald0 dX11_readPart_119 ?_
  refine ev_getr (r := 51) dX11_readPart_120 fl_X11_28 rfl ?_
  refine ev_iconst (v := 2) dX11_readPart_123 (by decide) ?_
  refine ev_ald0 dX11_readPart_124 ?_
  refine ev_geti dX11_readPart_125 fl_X11_84 rfl ?_
  rw [rM_d]
  refine ev_imul dX11_readPart_128 ?_
  rw [show (2 : Int32) * nI nd = nI (2 * nd) from nI_mul 2 nd]
  refine ev_ald0 dX11_readPart_129 ?_
  refine ev_sipush (v := 1023) dX11_readPart_130 (by decide) ?_
  refine ev_V1i (M' := mX11_figureOf) dX11_readPart_133 lk_X11_95 vX11_figureOf rfl (m_figT d S hlen h60 hf (p := p + 1) _ _ _ _ _ h1 L) (Nat.le_refl _) (Nat.le_of_ble_eq_true rfl) ?_
  refine ev_iast2 (j := 2 * nd) dX11_readPart_136 rfl rfl (by omega) (by first | decide | omega) ?_
  rw [rM_uD]
  refine ev_ald0 dX11_readPart_137 ?_
  refine ev_getr (r := 51) dX11_readPart_138 fl_X11_28 rfl ?_
  refine ev_iconst (v := 2) dX11_readPart_141 (by decide) ?_
  refine ev_ald0 dX11_readPart_142 ?_
  refine ev_geti dX11_readPart_143 fl_X11_84 rfl ?_
  rw [rM_d]
  refine ev_imul dX11_readPart_146 ?_
  rw [show (2 : Int32) * nI nd = nI (2 * nd) from nI_mul 2 nd]
  refine ev_iconst (v := 1) dX11_readPart_147 (by decide) ?_
  refine ev_iadd dX11_readPart_148 ?_
  refine ev_ald0 dX11_readPart_149 ?_
  refine ev_bipush (v := 15) dX11_readPart_150 (by decide) ?_
  refine ev_V1i (M' := mX11_figureOf) dX11_readPart_152 lk_X11_95 vX11_figureOf rfl (m_figT d S hlen h60 hf (p := p + 2) _ _ _ _ _ h2 L) (Nat.le_refl _) (Nat.le_of_ble_eq_true rfl) ?_
  refine ev_iast2 (j := 2 * nd + 1) dX11_readPart_155 rfl (ix2 _ 1) (by omega) (by first | decide | omega) ?_
  rw [rM_uD]
  refine ev_ald0 dX11_readPart_156 ?_
  refine ev_dupr dX11_readPart_157 ?_
  refine ev_geti dX11_readPart_158 fl_X11_84 rfl ?_
  refine ev_iconst (v := 1) dX11_readPart_161 (by decide) ?_
  refine ev_iadd dX11_readPart_162 ?_
  rw [rM_d, show nI (nd) + 1 = nI (nd + 1) from nI_1 _]
  refine ev_puti dX11_readPart_163 fp_X11_84 rfl ?_
  rw [rM_u11]
  refine ev_goto 247 dX11_readPart_166 (by decide) ?_
  refine ev_vret dX11_readPart_247 ?_
  exact ⟨rfl, rfl, rfl⟩
set_option maxRecDepth 10000 in
theorem m_pD2 (d : Nat) (S : gx_S) {len : Nat} (hlen : S 44 13 = nI len) (h60 : len ≤ 60) (hf : okL (S 53) len) {p : Nat} {ng nd : Nat} (h5 : ng ≤ 5) (h4 : nd ≤ 4) (G D Z : Nat → Int32) (hd4 : nd < 4) (hpl : p < len) (h1 : okA (1023) (S 53) len (p + 1) = true) (hp2 : p + 2 ≤ len) (h2 : okA (15) (S 53) len (p + 2) = false) (L : gx_L) : Cw (d + 2) mX11_readPart [.ref 44, .int 68] (rM S (nI p) (-9) (nI ng) (nI nd) G D Z) L (rM S (nI (p + 2)) (nI (p + 2)) (nI ng) (nI (nd + 1)) G (upd (upd D (2 * nd) (dv (S 53) (p + 1))) (2 * nd + 1) 0) Z) L := by
  refine ct_intro (loc := [some (.ref 44), some (.int 68), none, none]) (by decide) (Nat.le_of_ble_eq_true rfl) rfl ?_
  refine ev_ild1 dX11_readPart_0 ?_
  refine ev_bipush (v := 86) dX11_readPart_1 (by decide) ?_
  refine ev_icmp_ne_t 95 dX11_readPart_3 (by decide) (by decide) ?_
  refine ev_ild1 dX11_readPart_95 ?_
  refine ev_bipush (v := 68) dX11_readPart_96 (by decide) ?_
  refine ev_icmp_ne_f 169 dX11_readPart_98 (by decide) rfl ?_
  refine ev_ald0 dX11_readPart_101 ?_
  refine ev_geti dX11_readPart_102 fl_X11_84 rfl ?_
  refine ev_iconst (v := 4) dX11_readPart_105 (by decide) ?_
  refine ev_icmp_ge_f 169 dX11_readPart_106 (by decide) (by rw [rM_d]; exact nI_ge (b := 4) hd4 (by decide)) ?_
  refine ev_ald0 dX11_readPart_109 ?_
  refine ev_dupr dX11_readPart_110 ?_
  refine ev_geti dX11_readPart_111 fl_X11_72 rfl ?_
  refine ev_iconst (v := 1) dX11_readPart_114 (by decide) ?_
  refine ev_iadd dX11_readPart_115 ?_
  rw [rM_at, show nI (p) + 1 = nI (p + 1) from nI_1 _]
  refine ev_puti dX11_readPart_116 fp_X11_72 rfl ?_
  rw [rM_u14]
  refine ev_ald0 dX11_readPart_119 ?_
  refine ev_getr (r := 51) dX11_readPart_120 fl_X11_28 rfl ?_
  refine ev_iconst (v := 2) dX11_readPart_123 (by decide) ?_
  refine ev_ald0 dX11_readPart_124 ?_
  refine ev_geti dX11_readPart_125 fl_X11_84 rfl ?_
  rw [rM_d]
  refine ev_imul dX11_readPart_128 ?_
  rw [show (2 : Int32) * nI nd = nI (2 * nd) from nI_mul 2 nd]
  refine ev_ald0 dX11_readPart_129 ?_
  refine ev_sipush (v := 1023) dX11_readPart_130 (by decide) ?_
  refine ev_V1i (M' := mX11_figureOf) dX11_readPart_133 lk_X11_95 vX11_figureOf rfl (m_figT d S hlen h60 hf (p := p + 1) _ _ _ _ _ h1 L) (Nat.le_refl _) (Nat.le_of_ble_eq_true rfl) ?_
  refine ev_iast2 (j := 2 * nd) dX11_readPart_136 rfl rfl (by omega) (by first | decide | omega) ?_
  rw [rM_uD]
  refine ev_ald0 dX11_readPart_137 ?_
  refine ev_getr (r := 51) dX11_readPart_138 fl_X11_28 rfl ?_
  refine ev_iconst (v := 2) dX11_readPart_141 (by decide) ?_
  refine ev_ald0 dX11_readPart_142 ?_
  refine ev_geti dX11_readPart_143 fl_X11_84 rfl ?_
  rw [rM_d]
  refine ev_imul dX11_readPart_146 ?_
  rw [show (2 : Int32) * nI nd = nI (2 * nd) from nI_mul 2 nd]
  refine ev_iconst (v := 1) dX11_readPart_147 (by decide) ?_
  refine ev_iadd dX11_readPart_148 ?_
  refine ev_ald0 dX11_readPart_149 ?_
  refine ev_bipush (v := 15) dX11_readPart_150 (by decide) ?_
  refine ev_V1i (M' := mX11_figureOf) dX11_readPart_152 lk_X11_95 vX11_figureOf rfl (m_figN d S hlen h60 hf (p := p + 2) (by omega) _ _ _ _ _ h2 L) (Nat.le_refl _) (Nat.le_of_ble_eq_true rfl) ?_
  refine ev_iast2 (j := 2 * nd + 1) dX11_readPart_155 rfl (ix2 _ 1) (by omega) (by first | decide | omega) ?_
  rw [rM_uD]
  refine ev_ald0 dX11_readPart_156 ?_
  refine ev_dupr dX11_readPart_157 ?_
  refine ev_geti dX11_readPart_158 fl_X11_84 rfl ?_
  refine ev_iconst (v := 1) dX11_readPart_161 (by decide) ?_
  refine ev_iadd dX11_readPart_162 ?_
  rw [rM_d, show nI (nd) + 1 = nI (nd + 1) from nI_1 _]
  refine ev_puti dX11_readPart_163 fp_X11_84 rfl ?_
  rw [rM_u11]
  refine ev_goto 247 dX11_readPart_166 (by decide) ?_
  refine ev_vret dX11_readPart_247 ?_
  exact ⟨rfl, rfl, rfl⟩
set_option maxRecDepth 10000 in
theorem m_pD1 (d : Nat) (S : gx_S) {len : Nat} (hlen : S 44 13 = nI len) (h60 : len ≤ 60) (hf : okL (S 53) len) {p : Nat} {ng nd : Nat} (h5 : ng ≤ 5) (h4 : nd ≤ 4) (G D Z : Nat → Int32) (hd4 : nd < 4) (hpl : p < len) (h1 : okA (1023) (S 53) len (p + 1) = false) (L : gx_L) : Cw (d + 2) mX11_readPart [.ref 44, .int 68] (rM S (nI p) (-9) (nI ng) (nI nd) G D Z) L (rM S (nI (p + 1)) (nI (p + 1)) (nI ng) (nI (nd + 1)) G (upd (upd D (2 * nd) 0) (2 * nd + 1) 0) Z) L := by
  refine ct_intro (loc := [some (.ref 44), some (.int 68), none, none]) (by decide) (Nat.le_of_ble_eq_true rfl) rfl ?_
  refine ev_ild1 dX11_readPart_0 ?_
  refine ev_bipush (v := 86) dX11_readPart_1 (by decide) ?_
  refine ev_icmp_ne_t 95 dX11_readPart_3 (by decide) (by decide) ?_
  refine ev_ild1 dX11_readPart_95 ?_
  refine ev_bipush (v := 68) dX11_readPart_96 (by decide) ?_
  refine ev_icmp_ne_f 169 dX11_readPart_98 (by decide) rfl ?_
  refine ev_ald0 dX11_readPart_101 ?_
  refine ev_geti dX11_readPart_102 fl_X11_84 rfl ?_
  refine ev_iconst (v := 4) dX11_readPart_105 (by decide) ?_
  refine ev_icmp_ge_f 169 dX11_readPart_106 (by decide) (by rw [rM_d]; exact nI_ge (b := 4) hd4 (by decide)) ?_
  refine ev_ald0 dX11_readPart_109 ?_
  refine ev_dupr dX11_readPart_110 ?_
  refine ev_geti dX11_readPart_111 fl_X11_72 rfl ?_
  refine ev_iconst (v := 1) dX11_readPart_114 (by decide) ?_
  refine ev_iadd dX11_readPart_115 ?_
  rw [rM_at, show nI (p) + 1 = nI (p + 1) from nI_1 _]
  refine ev_puti dX11_readPart_116 fp_X11_72 rfl ?_
  rw [rM_u14]
  refine ev_ald0 dX11_readPart_119 ?_
  refine ev_getr (r := 51) dX11_readPart_120 fl_X11_28 rfl ?_
  refine ev_iconst (v := 2) dX11_readPart_123 (by decide) ?_
  refine ev_ald0 dX11_readPart_124 ?_
  refine ev_geti dX11_readPart_125 fl_X11_84 rfl ?_
  rw [rM_d]
  refine ev_imul dX11_readPart_128 ?_
  rw [show (2 : Int32) * nI nd = nI (2 * nd) from nI_mul 2 nd]
  refine ev_ald0 dX11_readPart_129 ?_
  refine ev_sipush (v := 1023) dX11_readPart_130 (by decide) ?_
  refine ev_V1i (M' := mX11_figureOf) dX11_readPart_133 lk_X11_95 vX11_figureOf rfl (m_figN d S hlen h60 hf (p := p + 1) (by omega) _ _ _ _ _ h1 L) (Nat.le_refl _) (Nat.le_of_ble_eq_true rfl) ?_
  refine ev_iast2 (j := 2 * nd) dX11_readPart_136 rfl rfl (by omega) (by first | decide | omega) ?_
  rw [rM_uD]
  refine ev_ald0 dX11_readPart_137 ?_
  refine ev_getr (r := 51) dX11_readPart_138 fl_X11_28 rfl ?_
  refine ev_iconst (v := 2) dX11_readPart_141 (by decide) ?_
  refine ev_ald0 dX11_readPart_142 ?_
  refine ev_geti dX11_readPart_143 fl_X11_84 rfl ?_
  rw [rM_d]
  refine ev_imul dX11_readPart_146 ?_
  rw [show (2 : Int32) * nI nd = nI (2 * nd) from nI_mul 2 nd]
  refine ev_iconst (v := 1) dX11_readPart_147 (by decide) ?_
  refine ev_iadd dX11_readPart_148 ?_
  refine ev_ald0 dX11_readPart_149 ?_
  refine ev_bipush (v := 15) dX11_readPart_150 (by decide) ?_
  refine ev_V1i (M' := mX11_figureOf) dX11_readPart_152 lk_X11_95 vX11_figureOf rfl (m_figF d S _ (q := p + 1) (by omega) _ _ _ _ _ _ L) (Nat.le_refl _) (Nat.le_of_ble_eq_true rfl) ?_
  refine ev_iast2 (j := 2 * nd + 1) dX11_readPart_155 rfl (ix2 _ 1) (by omega) (by first | decide | omega) ?_
  rw [rM_uD]
  refine ev_ald0 dX11_readPart_156 ?_
  refine ev_dupr dX11_readPart_157 ?_
  refine ev_geti dX11_readPart_158 fl_X11_84 rfl ?_
  refine ev_iconst (v := 1) dX11_readPart_161 (by decide) ?_
  refine ev_iadd dX11_readPart_162 ?_
  rw [rM_d, show nI (nd) + 1 = nI (nd + 1) from nI_1 _]
  refine ev_puti dX11_readPart_163 fp_X11_84 rfl ?_
  rw [rM_u11]
  refine ev_goto 247 dX11_readPart_166 (by decide) ?_
  refine ev_vret dX11_readPart_247 ?_
  exact ⟨rfl, rfl, rfl⟩
set_option maxRecDepth 10000 in
theorem m_pS0 (d : Nat) (S : gx_S) {len : Nat} (hlen : S 44 13 = nI len) (h60 : len ≤ 60) (hf : okL (S 53) len) {p : Nat} {ng nd : Nat} (h5 : ng ≤ 5) (h4 : nd ≤ 4) (G D Z : Nat → Int32) (hpl : p < len) (hs : ¬ q_flN (fbQ ng Z) nd = 0) (h1 : okA (q_flN (fbQ ng Z) nd) (S 53) len (p + 1) = true) {k : Nat} (hk : k < 4) (ek : (dv (S 53) (p + 1)) = nI k) (h2 : okA (q_free ng (Z k)) (S 53) len (p + 2) = true) (L : gx_L) : Cw (d + 2) mX11_readPart [.ref 44, .int 83] (rM S (nI p) (-9) (nI ng) (nI nd) G D Z) L (rM S (nI (p + 3)) (-9) (nI ng) (nI nd) G D (upd Z (k) (Z k ||| (1 : Int32) <<< (dv (S 53) (p + 2) &&& 31)))) L := by
  refine ct_intro (loc := [some (.ref 44), some (.int 83), none, none]) (by decide) (Nat.le_of_ble_eq_true rfl) rfl ?_
  refine ev_ild1 dX11_readPart_0 ?_
  refine ev_bipush (v := 86) dX11_readPart_1 (by decide) ?_
  refine ev_icmp_ne_t 95 dX11_readPart_3 (by decide) (by decide) ?_
  refine ev_ild1 dX11_readPart_95 ?_
  refine ev_bipush (v := 68) dX11_readPart_96 (by decide) ?_
  refine ev_icmp_ne_t 169 dX11_readPart_98 (by decide) (by decide) ?_
  refine ev_ild1 dX11_readPart_169 ?_
  refine ev_bipush (v := 83) dX11_readPart_170 (by decide) ?_
  refine ev_icmp_ne_f 239 dX11_readPart_172 (by decide) rfl ?_
  refine ev_ald0 dX11_readPart_175 ?_
  refine ev_V0i (M' := mX11_firstsLeft) dX11_readPart_176 lk_X11_98 vX11_firstsLeft rfl (m_firsts d S _ _ ng nd h4 G D Z L) (Nat.le_refl _) (Nat.le_of_ble_eq_true rfl) ?_
  refine ev_if_eq_f 239 dX11_readPart_179 (by decide) hs ?_
  refine ev_ald0 dX11_readPart_182 ?_
  refine ev_dupr dX11_readPart_183 ?_
  refine ev_geti dX11_readPart_184 fl_X11_72 rfl ?_
  refine ev_iconst (v := 1) dX11_readPart_187 (by decide) ?_
  refine ev_iadd dX11_readPart_188 ?_
  rw [rM_at, show nI (p) + 1 = nI (p + 1) from nI_1 _]
  refine ev_puti dX11_readPart_189 fp_X11_72 rfl ?_
  rw [rM_u14]
  refine ev_ald0 dX11_readPart_192 ?_
  refine ev_ald0 dX11_readPart_193 ?_
  refine ev_V0i (M' := mX11_firstsLeft) dX11_readPart_194 lk_X11_98 vX11_firstsLeft rfl (m_firsts d S _ _ ng nd h4 G D Z L) (Nat.le_refl _) (Nat.le_of_ble_eq_true rfl) ?_
  refine ev_V1i (M' := mX11_figureOf) dX11_readPart_197 lk_X11_95 vX11_figureOf rfl (m_figT d S hlen h60 hf (p := p + 1) _ _ _ _ _ h1 L) (Nat.le_refl _) (Nat.le_of_ble_eq_true rfl) ?_
  rw [ek]
  refine ev_ist2 dX11_readPart_200 ?_
  refine ev_ald0 dX11_readPart_201 ?_
  refine ev_ald0 dX11_readPart_202 ?_
  refine ev_ild2 dX11_readPart_203 ?_
  refine ev_V1i (M' := mX11_freeOf) dX11_readPart_204 lk_X11_87 vX11_freeOf rfl (m_freeOf (d + 1) S _ _ _ ng G D Z hk L) (Nat.le_refl _) (Nat.le_of_ble_eq_true rfl) ?_
  refine ev_V1i (M' := mX11_figureOf) dX11_readPart_207 lk_X11_95 vX11_figureOf rfl (m_figT d S hlen h60 hf (p := p + 2) _ _ _ _ _ h2 L) (Nat.le_refl _) (Nat.le_of_ble_eq_true rfl) ?_
  refine ev_ist3 dX11_readPart_210 ?_
  refine ev_ald0 dX11_readPart_211 ?_
  refine ev_getr (r := 52) dX11_readPart_212 fl_X11_31 rfl ?_
  refine ev_ild2 dX11_readPart_215 ?_
  refine ev_dup2 dX11_readPart_216 ?_
  refine ev_iald2 (j := k) dX11_readPart_217 rfl rfl (by omega) (by first | decide | omega) ?_
  rw [rM_52]
  refine ev_ald0 dX11_readPart_218 ?_
  refine ev_geti dX11_readPart_219 fl_X11_69 rfl ?_
  refine ev_bipush (v := (-9)) dX11_readPart_222 (by decide) ?_
  refine ev_icmp_ne_f 233 dX11_readPart_224 (by decide) rfl ?_
  refine ev_iconst (v := 1) dX11_readPart_227 (by decide) ?_
  refine ev_ild3 dX11_readPart_228 ?_
  refine ev_ishl dX11_readPart_229 ?_
  refine ev_goto 234 dX11_readPart_230 (by decide) ?_
  refine ev_ior dX11_readPart_234 ?_
  refine ev_iast2 (j := k) dX11_readPart_235 rfl rfl (by omega) (by first | decide | omega) ?_
  rw [rM_uQ]
  refine ev_goto 247 dX11_readPart_236 (by decide) ?_
  refine ev_vret dX11_readPart_247 ?_
  exact ⟨rfl, rfl, rfl⟩
set_option maxRecDepth 10000 in
theorem m_pS2 (d : Nat) (S : gx_S) {len : Nat} (hlen : S 44 13 = nI len) (h60 : len ≤ 60) (hf : okL (S 53) len) {p : Nat} {ng nd : Nat} (h5 : ng ≤ 5) (h4 : nd ≤ 4) (G D Z : Nat → Int32) (hpl : p < len) (hs : ¬ q_flN (fbQ ng Z) nd = 0) (h1 : okA (q_flN (fbQ ng Z) nd) (S 53) len (p + 1) = true) {k : Nat} (hk : k < 4) (ek : (dv (S 53) (p + 1)) = nI k) (hp2 : p + 2 ≤ len) (h2 : okA (q_free ng (Z k)) (S 53) len (p + 2) = false) (L : gx_L) : Cw (d + 2) mX11_readPart [.ref 44, .int 83] (rM S (nI p) (-9) (nI ng) (nI nd) G D Z) L (rM S (nI (p + 2)) (nI (p + 2)) (nI ng) (nI nd) G D (upd Z (k) (Z k ||| 0))) L := by
  refine ct_intro (loc := [some (.ref 44), some (.int 83), none, none]) (by decide) (Nat.le_of_ble_eq_true rfl) rfl ?_
  refine ev_ild1 dX11_readPart_0 ?_
  refine ev_bipush (v := 86) dX11_readPart_1 (by decide) ?_
  refine ev_icmp_ne_t 95 dX11_readPart_3 (by decide) (by decide) ?_
  refine ev_ild1 dX11_readPart_95 ?_
  refine ev_bipush (v := 68) dX11_readPart_96 (by decide) ?_
  refine ev_icmp_ne_t 169 dX11_readPart_98 (by decide) (by decide) ?_
  refine ev_ild1 dX11_readPart_169 ?_
  refine ev_bipush (v := 83) dX11_readPart_170 (by decide) ?_
  refine ev_icmp_ne_f 239 dX11_readPart_172 (by decide) rfl ?_
  refine ev_ald0 dX11_readPart_175 ?_
  refine ev_V0i (M' := mX11_firstsLeft) dX11_readPart_176 lk_X11_98 vX11_firstsLeft rfl (m_firsts d S _ _ ng nd h4 G D Z L) (Nat.le_refl _) (Nat.le_of_ble_eq_true rfl) ?_
  refine ev_if_eq_f 239 dX11_readPart_179 (by decide) hs ?_
  refine ev_ald0 dX11_readPart_182 ?_
  refine ev_dupr dX11_readPart_183 ?_
  refine ev_geti dX11_readPart_184 fl_X11_72 rfl ?_
  refine ev_iconst (v := 1) dX11_readPart_187 (by decide) ?_
  refine ev_iadd dX11_readPart_188 ?_
  rw [rM_at, show nI (p) + 1 = nI (p + 1) from nI_1 _]
  refine ev_puti dX11_readPart_189 fp_X11_72 rfl ?_
  rw [rM_u14]
  refine ev_ald0 dX11_readPart_192 ?_
  refine ev_ald0 dX11_readPart_193 ?_
  refine ev_V0i (M' := mX11_firstsLeft) dX11_readPart_194 lk_X11_98 vX11_firstsLeft rfl (m_firsts d S _ _ ng nd h4 G D Z L) (Nat.le_refl _) (Nat.le_of_ble_eq_true rfl) ?_
  refine ev_V1i (M' := mX11_figureOf) dX11_readPart_197 lk_X11_95 vX11_figureOf rfl (m_figT d S hlen h60 hf (p := p + 1) _ _ _ _ _ h1 L) (Nat.le_refl _) (Nat.le_of_ble_eq_true rfl) ?_
  rw [ek]
  refine ev_ist2 dX11_readPart_200 ?_
  refine ev_ald0 dX11_readPart_201 ?_
  refine ev_ald0 dX11_readPart_202 ?_
  refine ev_ild2 dX11_readPart_203 ?_
  refine ev_V1i (M' := mX11_freeOf) dX11_readPart_204 lk_X11_87 vX11_freeOf rfl (m_freeOf (d + 1) S _ _ _ ng G D Z hk L) (Nat.le_refl _) (Nat.le_of_ble_eq_true rfl) ?_
  refine ev_V1i (M' := mX11_figureOf) dX11_readPart_207 lk_X11_95 vX11_figureOf rfl (m_figN d S hlen h60 hf (p := p + 2) (by omega) _ _ _ _ _ h2 L) (Nat.le_refl _) (Nat.le_of_ble_eq_true rfl) ?_
  refine ev_ist3 dX11_readPart_210 ?_
  refine ev_ald0 dX11_readPart_211 ?_
  refine ev_getr (r := 52) dX11_readPart_212 fl_X11_31 rfl ?_
  refine ev_ild2 dX11_readPart_215 ?_
  refine ev_dup2 dX11_readPart_216 ?_
  refine ev_iald2 (j := k) dX11_readPart_217 rfl rfl (by omega) (by first | decide | omega) ?_
  rw [rM_52]
  refine ev_ald0 dX11_readPart_218 ?_
  refine ev_geti dX11_readPart_219 fl_X11_69 rfl ?_
  refine ev_bipush (v := (-9)) dX11_readPart_222 (by decide) ?_
  refine ev_icmp_ne_t 233 dX11_readPart_224 (by decide) (nI_n9b _ (by omega)) ?_
  refine ev_iconst (v := 0) dX11_readPart_233 (by decide) ?_
  refine ev_ior dX11_readPart_234 ?_
  refine ev_iast2 (j := k) dX11_readPart_235 rfl rfl (by omega) (by first | decide | omega) ?_
  rw [rM_uQ]
  refine ev_goto 247 dX11_readPart_236 (by decide) ?_
  refine ev_vret dX11_readPart_247 ?_
  exact ⟨rfl, rfl, rfl⟩
set_option maxRecDepth 10000 in
theorem m_pS1 (d : Nat) (S : gx_S) {len : Nat} (hlen : S 44 13 = nI len) (h60 : len ≤ 60) (hf : okL (S 53) len) {p : Nat} {ng nd : Nat} (h5 : ng ≤ 5) (h4 : nd ≤ 4) (G D Z : Nat → Int32) (hpl : p < len) (hs : ¬ q_flN (fbQ ng Z) nd = 0) (h1 : okA (q_flN (fbQ ng Z) nd) (S 53) len (p + 1) = false) {k : Nat} (hk : k = 0) (L : gx_L) : Cw (d + 2) mX11_readPart [.ref 44, .int 83] (rM S (nI p) (-9) (nI ng) (nI nd) G D Z) L (rM S (nI (p + 1)) (nI (p + 1)) (nI ng) (nI nd) G D (upd Z (k) (Z k ||| 0))) L := by
  refine ct_intro (loc := [some (.ref 44), some (.int 83), none, none]) (by decide) (Nat.le_of_ble_eq_true rfl) rfl ?_
  refine ev_ild1 dX11_readPart_0 ?_
  refine ev_bipush (v := 86) dX11_readPart_1 (by decide) ?_
  refine ev_icmp_ne_t 95 dX11_readPart_3 (by decide) (by decide) ?_
  refine ev_ild1 dX11_readPart_95 ?_
  refine ev_bipush (v := 68) dX11_readPart_96 (by decide) ?_
  refine ev_icmp_ne_t 169 dX11_readPart_98 (by decide) (by decide) ?_
  refine ev_ild1 dX11_readPart_169 ?_
  refine ev_bipush (v := 83) dX11_readPart_170 (by decide) ?_
  refine ev_icmp_ne_f 239 dX11_readPart_172 (by decide) rfl ?_
  refine ev_ald0 dX11_readPart_175 ?_
  refine ev_V0i (M' := mX11_firstsLeft) dX11_readPart_176 lk_X11_98 vX11_firstsLeft rfl (m_firsts d S _ _ ng nd h4 G D Z L) (Nat.le_refl _) (Nat.le_of_ble_eq_true rfl) ?_
  refine ev_if_eq_f 239 dX11_readPart_179 (by decide) hs ?_
  refine ev_ald0 dX11_readPart_182 ?_
  refine ev_dupr dX11_readPart_183 ?_
  refine ev_geti dX11_readPart_184 fl_X11_72 rfl ?_
  refine ev_iconst (v := 1) dX11_readPart_187 (by decide) ?_
  refine ev_iadd dX11_readPart_188 ?_
  rw [rM_at, show nI (p) + 1 = nI (p + 1) from nI_1 _]
  refine ev_puti dX11_readPart_189 fp_X11_72 rfl ?_
  rw [rM_u14]
  refine ev_ald0 dX11_readPart_192 ?_
  refine ev_ald0 dX11_readPart_193 ?_
  refine ev_V0i (M' := mX11_firstsLeft) dX11_readPart_194 lk_X11_98 vX11_firstsLeft rfl (m_firsts d S _ _ ng nd h4 G D Z L) (Nat.le_refl _) (Nat.le_of_ble_eq_true rfl) ?_
  refine ev_V1i (M' := mX11_figureOf) dX11_readPart_197 lk_X11_95 vX11_figureOf rfl (m_figN d S hlen h60 hf (p := p + 1) (by omega) _ _ _ _ _ h1 L) (Nat.le_refl _) (Nat.le_of_ble_eq_true rfl) ?_
  refine ev_stk (st' := [.int (nI k)]) (by rw [hk]; rfl) ?_
  refine ev_ist2 dX11_readPart_200 ?_
  refine ev_ald0 dX11_readPart_201 ?_
  refine ev_ald0 dX11_readPart_202 ?_
  refine ev_ild2 dX11_readPart_203 ?_
  refine ev_V1i (M' := mX11_freeOf) dX11_readPart_204 lk_X11_87 vX11_freeOf rfl (m_freeOf (d + 1) S _ _ _ ng G D Z (i := k) (by omega) L) (Nat.le_refl _) (Nat.le_of_ble_eq_true rfl) ?_
  refine ev_V1i (M' := mX11_figureOf) dX11_readPart_207 lk_X11_95 vX11_figureOf rfl (m_figF d S _ (q := p + 1) (by omega) _ _ _ _ _ _ L) (Nat.le_refl _) (Nat.le_of_ble_eq_true rfl) ?_
  refine ev_ist3 dX11_readPart_210 ?_
  refine ev_ald0 dX11_readPart_211 ?_
  refine ev_getr (r := 52) dX11_readPart_212 fl_X11_31 rfl ?_
  refine ev_ild2 dX11_readPart_215 ?_
  refine ev_dup2 dX11_readPart_216 ?_
  refine ev_iald2 (j := k) dX11_readPart_217 rfl rfl (by omega) (by first | decide | omega) ?_
  rw [rM_52]
  refine ev_ald0 dX11_readPart_218 ?_
  refine ev_geti dX11_readPart_219 fl_X11_69 rfl ?_
  refine ev_bipush (v := (-9)) dX11_readPart_222 (by decide) ?_
  refine ev_icmp_ne_t 233 dX11_readPart_224 (by decide) (nI_n9b _ (by omega)) ?_
  refine ev_iconst (v := 0) dX11_readPart_233 (by decide) ?_
  refine ev_ior dX11_readPart_234 ?_
  refine ev_iast2 (j := k) dX11_readPart_235 rfl rfl (by omega) (by first | decide | omega) ?_
  rw [rM_uQ]
  refine ev_goto 247 dX11_readPart_236 (by decide) ?_
  refine ev_vret dX11_readPart_247 ?_
  exact ⟨rfl, rfl, rfl⟩
set_option maxRecDepth 10000 in
theorem m_pXV (d : Nat) (S : gx_S) {len : Nat} (hlen : S 44 13 = nI len) (h60 : len ≤ 60) (hf : okL (S 53) len) {p : Nat} {ng nd : Nat} (h5 : ng ≤ 5) (h4 : nd ≤ 4) (G D Z : Nat → Int32) (hg5 : ng = 5) (L : gx_L) : Cw (d + 2) mX11_readPart [.ref 44, .int 86] (rM S (nI p) (-9) (nI ng) (nI nd) G D Z) L (rM S (nI p) (nI p) (nI ng) (nI nd) G D Z) L := by
  refine ct_intro (loc := [some (.ref 44), some (.int 86), none, none]) (by decide) (Nat.le_of_ble_eq_true rfl) rfl ?_
  refine ev_ild1 dX11_readPart_0 ?_
  refine ev_bipush (v := 86) dX11_readPart_1 (by decide) ?_
  refine ev_icmp_ne_f 95 dX11_readPart_3 (by decide) rfl ?_
  refine ev_ald0 dX11_readPart_6 ?_
  refine ev_geti dX11_readPart_7 fl_X11_81 rfl ?_
  refine ev_iconst (v := 5) dX11_readPart_10 (by decide) ?_
  refine ev_icmp_ge_t 95 dX11_readPart_11 (by decide) (by rw [rM_g, hg5]; decide) ?_
  refine ev_ild1 dX11_readPart_95 ?_
  refine ev_bipush (v := 68) dX11_readPart_96 (by decide) ?_
  refine ev_icmp_ne_t 169 dX11_readPart_98 (by decide) (by decide) ?_
  refine ev_ild1 dX11_readPart_169 ?_
  refine ev_bipush (v := 83) dX11_readPart_170 (by decide) ?_
  refine ev_icmp_ne_t 239 dX11_readPart_172 (by decide) (by decide) ?_
  refine ev_ald0 dX11_readPart_239 ?_
  refine ev_ald0 dX11_readPart_240 ?_
  refine ev_geti dX11_readPart_241 fl_X11_72 rfl ?_
  rw [rM_at]
  refine ev_puti dX11_readPart_244 fp_X11_69 rfl ?_
  rw [rM_u15]
  refine ev_vret dX11_readPart_247 ?_
  exact ⟨rfl, rfl, rfl⟩
set_option maxRecDepth 10000 in
theorem m_pXD (d : Nat) (S : gx_S) {len : Nat} (hlen : S 44 13 = nI len) (h60 : len ≤ 60) (hf : okL (S 53) len) {p : Nat} {ng nd : Nat} (h5 : ng ≤ 5) (h4 : nd ≤ 4) (G D Z : Nat → Int32) (hd4 : nd = 4) (L : gx_L) : Cw (d + 2) mX11_readPart [.ref 44, .int 68] (rM S (nI p) (-9) (nI ng) (nI nd) G D Z) L (rM S (nI p) (nI p) (nI ng) (nI nd) G D Z) L := by
  refine ct_intro (loc := [some (.ref 44), some (.int 68), none, none]) (by decide) (Nat.le_of_ble_eq_true rfl) rfl ?_
  refine ev_ild1 dX11_readPart_0 ?_
  refine ev_bipush (v := 86) dX11_readPart_1 (by decide) ?_
  refine ev_icmp_ne_t 95 dX11_readPart_3 (by decide) (by decide) ?_
  refine ev_ild1 dX11_readPart_95 ?_
  refine ev_bipush (v := 68) dX11_readPart_96 (by decide) ?_
  refine ev_icmp_ne_f 169 dX11_readPart_98 (by decide) rfl ?_
  refine ev_ald0 dX11_readPart_101 ?_
  refine ev_geti dX11_readPart_102 fl_X11_84 rfl ?_
  refine ev_iconst (v := 4) dX11_readPart_105 (by decide) ?_
  refine ev_icmp_ge_t 169 dX11_readPart_106 (by decide) (by rw [rM_d, hd4]; decide) ?_
  refine ev_ild1 dX11_readPart_169 ?_
  refine ev_bipush (v := 83) dX11_readPart_170 (by decide) ?_
  refine ev_icmp_ne_t 239 dX11_readPart_172 (by decide) (by decide) ?_
  refine ev_ald0 dX11_readPart_239 ?_
  refine ev_ald0 dX11_readPart_240 ?_
  refine ev_geti dX11_readPart_241 fl_X11_72 rfl ?_
  rw [rM_at]
  refine ev_puti dX11_readPart_244 fp_X11_69 rfl ?_
  rw [rM_u15]
  refine ev_vret dX11_readPart_247 ?_
  exact ⟨rfl, rfl, rfl⟩
set_option maxRecDepth 10000 in
theorem m_pXS (d : Nat) (S : gx_S) {len : Nat} (hlen : S 44 13 = nI len) (h60 : len ≤ 60) (hf : okL (S 53) len) {p : Nat} {ng nd : Nat} (h5 : ng ≤ 5) (h4 : nd ≤ 4) (G D Z : Nat → Int32) (hs : q_flN (fbQ ng Z) nd = 0) (L : gx_L) : Cw (d + 2) mX11_readPart [.ref 44, .int 83] (rM S (nI p) (-9) (nI ng) (nI nd) G D Z) L (rM S (nI p) (nI p) (nI ng) (nI nd) G D Z) L := by
  refine ct_intro (loc := [some (.ref 44), some (.int 83), none, none]) (by decide) (Nat.le_of_ble_eq_true rfl) rfl ?_
  refine ev_ild1 dX11_readPart_0 ?_
  refine ev_bipush (v := 86) dX11_readPart_1 (by decide) ?_
  refine ev_icmp_ne_t 95 dX11_readPart_3 (by decide) (by decide) ?_
  refine ev_ild1 dX11_readPart_95 ?_
  refine ev_bipush (v := 68) dX11_readPart_96 (by decide) ?_
  refine ev_icmp_ne_t 169 dX11_readPart_98 (by decide) (by decide) ?_
  refine ev_ild1 dX11_readPart_169 ?_
  refine ev_bipush (v := 83) dX11_readPart_170 (by decide) ?_
  refine ev_icmp_ne_f 239 dX11_readPart_172 (by decide) rfl ?_
  refine ev_ald0 dX11_readPart_175 ?_
  refine ev_V0i (M' := mX11_firstsLeft) dX11_readPart_176 lk_X11_98 vX11_firstsLeft rfl (m_firsts d S _ _ ng nd h4 G D Z L) (Nat.le_refl _) (Nat.le_of_ble_eq_true rfl) ?_
  refine ev_if_eq_t 239 dX11_readPart_179 (by decide) hs ?_
  refine ev_ald0 dX11_readPart_239 ?_
  refine ev_ald0 dX11_readPart_240 ?_
  refine ev_geti dX11_readPart_241 fl_X11_72 rfl ?_
  rw [rM_at]
  refine ev_puti dX11_readPart_244 fp_X11_69 rfl ?_
  rw [rM_u15]
  refine ev_vret dX11_readPart_247 ?_
  exact ⟨rfl, rfl, rfl⟩
set_option maxRecDepth 10000 in
theorem m_pX (d : Nat) (S : gx_S) {len : Nat} (hlen : S 44 13 = nI len) (h60 : len ≤ 60) (hf : okL (S 53) len) {p : Nat} {ng nd : Nat} (h5 : ng ≤ 5) (h4 : nd ≤ 4) (G D Z : Nat → Int32) {c : Int32} (hc : ¬ c = 86 ∧ ¬ c = 68 ∧ ¬ c = 83) (L : gx_L) : Cw (d + 2) mX11_readPart [.ref 44, .int c] (rM S (nI p) (-9) (nI ng) (nI nd) G D Z) L (rM S (nI p) (nI p) (nI ng) (nI nd) G D Z) L := by
  refine ct_intro (loc := [some (.ref 44), some (.int c), none, none]) (by decide) (Nat.le_of_ble_eq_true rfl) rfl ?_
  refine ev_ild1 dX11_readPart_0 ?_
  refine ev_bipush (v := 86) dX11_readPart_1 (by decide) ?_
  refine ev_icmp_ne_t 95 dX11_readPart_3 (by decide) hc.1 ?_
  refine ev_ild1 dX11_readPart_95 ?_
  refine ev_bipush (v := 68) dX11_readPart_96 (by decide) ?_
  refine ev_icmp_ne_t 169 dX11_readPart_98 (by decide) hc.2.1 ?_
  refine ev_ild1 dX11_readPart_169 ?_
  refine ev_bipush (v := 83) dX11_readPart_170 (by decide) ?_
  refine ev_icmp_ne_t 239 dX11_readPart_172 (by decide) hc.2.2 ?_
  refine ev_ald0 dX11_readPart_239 ?_
  refine ev_ald0 dX11_readPart_240 ?_
  refine ev_geti dX11_readPart_241 fl_X11_72 rfl ?_
  rw [rM_at]
  refine ev_puti dX11_readPart_244 fp_X11_69 rfl ?_
  rw [rM_u15]
  refine ev_vret dX11_readPart_247 ?_
  exact ⟨rfl, rfl, rfl⟩
