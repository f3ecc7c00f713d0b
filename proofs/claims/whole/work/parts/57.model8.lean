theorem in255 (n : Int32) : inL n.toInt64 0 255 = decide (¬ n < 0 ∧ ¬ 255 < n) := inL_32 n 0 255
theorem in30 (n : Int32) : inL n.toInt64 1 30 = decide (¬ n < 1 ∧ ¬ 30 < n) := inL_32 n 1 30
theorem in0y (n y : Int32) : inL n.toInt64 0 y.toInt64 = decide (¬ n < 0 ∧ ¬ y < n) := inL_32 n 0 y
theorem gb_t {c : Bool} (h : c = true) : ¬ gx_b c = 0 := gx_b_y.mpr h
theorem gb_f {c : Bool} (h : c = false) : gx_b c = 0 := gx_b_z.mpr h
theorem hone44 : ∀ j t', j ≠ 23 → (∃ tm : List Nat, sh_all[44]? = some (.inr (11, tm)) ∧ tm[j]? = some t') → t' ≠ 1 := by
  rintro j t' hj ⟨tm, h1, h2⟩ rfl
  have e : tm = [0,0,47,48,49,50,51,52,53,54,0,0,55,0,0,0,0,0,56,0,57,58,59,1,60,61] := by
    have h3 : sh_all[44]? = some (.inr (11, [0,0,47,48,49,50,51,52,53,54,0,0,55,0,0,0,0,0,56,0,57,58,59,1,60,61])) := rfl
    rw [h3] at h1
    cases h1
    rfl
  subst e
  have hl : j < 26 := (List.getElem?_eq_some_iff.mp h2).1
  have : ∀ j, j < 26 → j ≠ 23 → ([0,0,47,48,49,50,51,52,53,54,0,0,55,0,0,0,0,0,56,0,57,58,59,1,60,61] : List Nat)[j]? ≠ some 1 := by decide +kernel
  exact this j hl hj h2
/-! ===== nobody is thirsty who is not there ===== -/
def zD (nd : Nat) (T : Tb) : Prop := ∀ d, nd ≤ d → T.2.2.1 d = 0
theorem zD_sw {nd : Nat} {dk : Nat → Int32} {T : Tb} {d g : Nat} (h : zD nd T) (hd : d < nd) : zD nd (p_swT dk T d g) := fun j hj => (upd_ne _ _ (by omega)).trans (h j hj)
theorem zD_aroundN {nd : Nat} {dk sb : Nat → Int32} {T : Tb} {d : Nat} (h : zD nd T) (hd : d < nd) : ∀ n, zD nd (p_aroundN dk sb T d n)
  | 0 => h
  | n + 1 => by
    unfold p_aroundN
    split
    · exact zD_sw (zD_aroundN h hd n) hd
    · exact zD_aroundN h hd n
theorem zD_evN {nd : Nat} {dk sb : Nat → Int32} {so : Int32} {T : Tb} (h : zD nd T) (hz : ∀ d g, nd ≤ d → bt (sb d) g = false) : ∀ n, zD nd (p_evN dk sb so T n)
  | 0 => h
  | n + 1 => by
    show zD nd (if bt so n = true then p_around dk sb (p_evN dk sb so T n) n else p_evN dk sb so T n)
    split
    · by_cases hn : n < nd
      · exact zD_aroundN (zD_evN h hz n) hn 5
      · rw [show p_around dk sb (p_evN dk sb so T n) n = p_evN dk sb so T n from around_no (fun g => hz _ g (by omega)) 5]
        exact zD_evN h hz n
    · exact zD_evN h hz n
theorem zD_ev {S : gx_S} {ng nd : Nat} {ms gk dk sb : Nat → Int32} (hm : mH S ng nd ms gk dk sb) {so : Int32} {T : Tb} (h : zD nd T) : zD nd (p_ev dk sb so T) := zD_evN h (fun d g hd => hm.2.2.2.2.2.2.2 d g (Or.inr hd)) 4
theorem ageT_t (gk : Nat → Int32) (T : Tb) (g : Nat) : (p_ageT gk T g).2.2 = T.2.2 := by
  unfold p_ageT
  split
  · rfl
  · split
    · split <;> rfl
    · rfl
theorem hourN_t (gk : Nat → Int32) (T : Tb) : ∀ n, (p_hourN gk T n).2.2 = T.2.2
  | 0 => rfl
  | n + 1 => by
    show (if (p_hourN gk T n).1 n ≤ 0 then p_hourN gk T n else p_ageT gk (p_hourN gk T n) n).2.2 = _
    split
    · exact hourN_t gk T n
    · exact (ageT_t gk _ n).trans (hourN_t gk T n)
theorem zD_hour {nd : Nat} {gk : Nat → Int32} {T : Tb} (h : zD nd T) : zD nd (p_hourT gk T) := fun j hj => by
  have e := hourN_t gk T 5
  unfold p_hourT
  generalize p_hourN gk T 5 = U at e ⊢
  show U.2.2.1 j = 0
  rw [e]
  exact h j hj
theorem okT_hall {ms gk : Nat → Int32} {T : Tb} (h : okT ms T) : ∀ n, okT ms (p_hallN gk T n)
  | 0 => h
  | n + 1 => okT_hour (okT_hall h n)
set_option maxRecDepth 10000 in
theorem m_write0 (d : Nat) (S : gx_S) {x : Int32} (hb : x < 0 ∨ 255 < x) (L : gx_L) : Cf (d + 1) mX11_write [.ref 44, .int x] S L (-2) S L := by
  refine ct_intro (loc := [some (.ref 44), some (.int x)]) (by decide) (Nat.le_of_ble_eq_true rfl) rfl ?_
  refine ev_ild1 dX11_write_0 ?_
  refine ev_i2l dX11_write_1 ?_
  refine ev_lconst (v := 0) dX11_write_2 (by decide) ?_
  refine ev_ldc2 dX11_write_3 kc_X11_60 ?_
  refine ev_S3i (M' := mX11_in) dX11_write_6 lk_X11_62 sX11_in (m_in d _ _ _ _ _) (Nat.le_refl _) (Nat.le_of_ble_eq_true rfl) ?_
  refine ev_if_ne 15 dX11_write_9 (by decide) (fun c_9 => ?_) (fun c_9 => ?_)
  · have b_9 := gx_b_y.mp c_9
    exact absurd hb (fun h9 => h9.elim (of_decide_eq_true ((in255 x).symm.trans b_9)).1 (of_decide_eq_true ((in255 x).symm.trans b_9)).2)
  · have b_9 := gx_b_n.mp c_9
    refine ev_bipush (v := (-2)) dX11_write_12 (by decide) ?_
    refine ev_iret dX11_write_14 ?_
    exact ⟨_, rfl, rfl, rfl, rfl⟩
set_option maxRecDepth 10000 in
theorem m_write1 (d : Nat) (S : gx_S) {x : Int32} (hb : ¬ x < 0 ∧ ¬ 255 < x) (hlen : S 44 13 = nI 60) (L : gx_L) : Cf (d + 1) mX11_write [.ref 44, .int x] S L (-4) S L := by
  refine ct_intro (loc := [some (.ref 44), some (.int x)]) (by decide) (Nat.le_of_ble_eq_true rfl) rfl ?_
  refine ev_ild1 dX11_write_0 ?_
  refine ev_i2l dX11_write_1 ?_
  refine ev_lconst (v := 0) dX11_write_2 (by decide) ?_
  refine ev_ldc2 dX11_write_3 kc_X11_60 ?_
  refine ev_S3i (M' := mX11_in) dX11_write_6 lk_X11_62 sX11_in (m_in d _ _ _ _ _) (Nat.le_refl _) (Nat.le_of_ble_eq_true rfl) ?_
  refine ev_if_ne_t 15 dX11_write_9 (by decide) (gb_t ((in255 x).trans (decide_eq_true hb))) ?_
  refine ev_ald0 dX11_write_15 ?_
  refine ev_geti dX11_write_16 fl_X11_66 rfl ?_
  refine ev_bipush (v := 60) dX11_write_19 (by decide) ?_
  refine ev_icmp_ne_f 27 dX11_write_21 (by decide) (by rw [hlen]; decide) ?_
  refine ev_bipush (v := (-4)) dX11_write_24 (by decide) ?_
  refine ev_iret dX11_write_26 ?_
  exact ⟨_, rfl, rfl, rfl, rfl⟩
set_option maxRecDepth 10000 in
theorem m_write (d : Nat) (S : gx_S) {x : Int32} (hb : ¬ x < 0 ∧ ¬ 255 < x) {len : Nat} (hlen : S 44 13 = nI len) (h60 : len < 60) (L : gx_L) : Cf (d + 1) mX11_write [.ref 44, .int x] S L (nI (len + 1)) (gx_u2 (gx_u2 S 53 len x) 44 13 (nI (len + 1))) L := by
  refine ct_intro (loc := [some (.ref 44), some (.int x)]) (by decide) (Nat.le_of_ble_eq_true rfl) rfl ?_
  refine ev_ild1 dX11_write_0 ?_
  refine ev_i2l dX11_write_1 ?_
  refine ev_lconst (v := 0) dX11_write_2 (by decide) ?_
  refine ev_ldc2 dX11_write_3 kc_X11_60 ?_
  refine ev_S3i (M' := mX11_in) dX11_write_6 lk_X11_62 sX11_in (m_in d _ _ _ _ _) (Nat.le_refl _) (Nat.le_of_ble_eq_true rfl) ?_
  refine ev_if_ne_t 15 dX11_write_9 (by decide) (gb_t ((in255 x).trans (decide_eq_true hb))) ?_
  refine ev_ald0 dX11_write_15 ?_
  refine ev_geti dX11_write_16 fl_X11_66 rfl ?_
  refine ev_bipush (v := 60) dX11_write_19 (by decide) ?_
  refine ev_icmp_ne_t 27 dX11_write_21 (by decide) (fun h9 => absurd ((nI_eq (b := 60) (by omega) (by decide)).mp (hlen.symm.trans h9)) (by omega)) ?_
  refine ev_ald0 dX11_write_27 ?_
  refine ev_getr (r := 53) dX11_write_28 fl_X11_34 rfl ?_
  refine ev_ald0 dX11_write_31 ?_
  refine ev_geti dX11_write_32 fl_X11_66 rfl ?_
  refine ev_ild1 dX11_write_35 ?_
  refine ev_iast2 (j := len) dX11_write_36 rfl hlen (by omega) (by first | decide | omega) ?_
  refine ev_ald0 dX11_write_37 ?_
  refine ev_dupr dX11_write_38 ?_
  refine ev_geti dX11_write_39 fl_X11_66 rfl ?_
  rw [u2_o _ _ _ (by decide), hlen]
  refine ev_iconst (v := 1) dX11_write_42 (by decide) ?_
  refine ev_iadd dX11_write_43 ?_
  rw [show nI len + 1 = nI (len + 1) from nI_1 len]
  refine ev_puti dX11_write_44 fp_X11_66 rfl ?_
  refine ev_ald0 dX11_write_47 ?_
  refine ev_geti dX11_write_48 fl_X11_66 rfl ?_
  rw [u2_at]
  refine ev_iret dX11_write_51 ?_
  exact ⟨_, rfl, rfl, rfl, rfl⟩
set_option maxRecDepth 10000 in
theorem m_wipe (d : Nat) (S : gx_S) {len : Nat} (hlen : S 44 13 = nI len) (L : gx_L) : Cf d mX11_wipe [.ref 44] S L (nI len) (gx_u2 S 44 13 0) L := by
  refine ct_intro (loc := [some (.ref 44), none]) (by decide) (Nat.le_of_ble_eq_true rfl) rfl ?_
  refine ev_ald0 dX11_wipe_0 ?_
  refine ev_geti dX11_wipe_1 fl_X11_66 rfl ?_
  rw [hlen]
  refine ev_ist1 dX11_wipe_4 ?_
  refine ev_ald0 dX11_wipe_5 ?_
  refine ev_iconst (v := 0) dX11_wipe_6 (by decide) ?_
  refine ev_puti dX11_wipe_7 fp_X11_66 rfl ?_
  refine ev_ild1 dX11_wipe_10 ?_
  refine ev_iret dX11_wipe_11 ?_
  exact ⟨_, rfl, rfl, rfl, rfl⟩
set_option maxRecDepth 10000 in
theorem m_see0 (d : Nat) (S : gx_S) {nd : Nat} (hnd : S 44 1 = nI nd) (h4 : nd ≤ 4) {x y z : Int32} (hb : isG (nI nd) x = false) (L : gx_L) : Cf (d + 2) mX11_see [.ref 44, .int x, .int y, .int z] S L (-1) S L := by
  refine ct_intro (loc := [some (.ref 44), some (.int x), some (.int y), some (.int z)]) (by decide) (Nat.le_of_ble_eq_true rfl) rfl ?_
  refine ev_ald0 dX11_see_0 ?_
  refine ev_ild1 dX11_see_1 ?_
  refine ev_V1i (M' := mX11_isDrinker) dX11_see_2 lk_X11_133 vX11_isDrinker rfl (m_isDrinker d S hnd (by omega) _ L) (Nat.le_refl _) (Nat.le_of_ble_eq_true rfl) ?_
  refine ev_if_ne_f 10 dX11_see_5 (by decide) (gb_f hb) ?_
  refine ev_iconst (v := (-1)) dX11_see_8 (by decide) ?_
  refine ev_iret dX11_see_9 ?_
  exact ⟨_, rfl, rfl, rfl, rfl⟩
set_option maxRecDepth 10000 in
theorem m_see1 (d : Nat) (S : gx_S) {nd : Nat} (hnd : S 44 1 = nI nd) (h4 : nd ≤ 4) {x y z : Int32} (hx : isG (nI nd) x = true) (hb : y < 0 ∨ 9 < y ∨ z < 0 ∨ y < z) (L : gx_L) : Cf (d + 2) mX11_see [.ref 44, .int x, .int y, .int z] S L (-2) S L := by
  refine ct_intro (loc := [some (.ref 44), some (.int x), some (.int y), some (.int z)]) (by decide) (Nat.le_of_ble_eq_true rfl) rfl ?_
  refine ev_ald0 dX11_see_0 ?_
  refine ev_ild1 dX11_see_1 ?_
  refine ev_V1i (M' := mX11_isDrinker) dX11_see_2 lk_X11_133 vX11_isDrinker rfl (m_isDrinker d S hnd (by omega) _ L) (Nat.le_refl _) (Nat.le_of_ble_eq_true rfl) ?_
  refine ev_if_ne_t 10 dX11_see_5 (by decide) (gb_t hx) ?_
  refine ev_ild2 dX11_see_10 ?_
  refine ev_i2l dX11_see_11 ?_
  refine ev_lconst (v := 0) dX11_see_12 (by decide) ?_
  refine ev_ldc2 dX11_see_13 kc_X11_75 ?_
  refine ev_S3i (M' := mX11_in) dX11_see_16 lk_X11_62 sX11_in (m_in (d + 1) _ _ _ _ _) (Nat.le_refl _) (Nat.le_of_ble_eq_true rfl) ?_
  refine ev_if_eq 33 dX11_see_19 (by decide) (fun c_19 => ?_) (fun c_19 => ?_)
  · have b_19 := gx_b_n.mp c_19
    refine ev_bipush (v := (-2)) dX11_see_33 (by decide) ?_
    refine ev_iret dX11_see_35 ?_
    exact ⟨_, rfl, rfl, rfl, rfl⟩
  · have b_19 := gx_b_y.mp c_19
    refine ev_ild3 dX11_see_22 ?_
    refine ev_i2l dX11_see_23 ?_
    refine ev_lconst (v := 0) dX11_see_24 (by decide) ?_
    refine ev_ild2 dX11_see_25 ?_
    refine ev_i2l dX11_see_26 ?_
    refine ev_S3i (M' := mX11_in) dX11_see_27 lk_X11_62 sX11_in (m_in (d + 1) _ _ _ _ _) (Nat.le_refl _) (Nat.le_of_ble_eq_true rfl) ?_
    refine ev_if_ne 36 dX11_see_30 (by decide) (fun c_30 => ?_) (fun c_30 => ?_)
    · have b_30 := gx_b_y.mp c_30
      have h1 := of_decide_eq_true ((in09 y).symm.trans b_19)
      have h2 := of_decide_eq_true ((in0y z y).symm.trans b_30)
      exact absurd hb (fun h9 => h9.elim h1.1 (fun h9 => h9.elim h1.2 (fun h9 => h9.elim h2.1 h2.2)))
    · have b_30 := gx_b_n.mp c_30
      refine ev_bipush (v := (-2)) dX11_see_33 (by decide) ?_
      refine ev_iret dX11_see_35 ?_
      exact ⟨_, rfl, rfl, rfl, rfl⟩
set_option maxRecDepth 10000 in
theorem m_see2 (d : Nat) (S : gx_S) {nd : Nat} (hnd : S 44 1 = nI nd) (h4 : nd ≤ 4) {x y z : Int32} (hx : isG (nI nd) x = true) (hb : ¬ y < 0 ∧ ¬ 9 < y ∧ ¬ z < 0 ∧ ¬ y < z) (hn : S 44 19 = nI 6) (L : gx_L) : Cf (d + 2) mX11_see [.ref 44, .int x, .int y, .int z] S L (-4) S L := by
  refine ct_intro (loc := [some (.ref 44), some (.int x), some (.int y), some (.int z)]) (by decide) (Nat.le_of_ble_eq_true rfl) rfl ?_
  refine ev_ald0 dX11_see_0 ?_
  refine ev_ild1 dX11_see_1 ?_
  refine ev_V1i (M' := mX11_isDrinker) dX11_see_2 lk_X11_133 vX11_isDrinker rfl (m_isDrinker d S hnd (by omega) _ L) (Nat.le_refl _) (Nat.le_of_ble_eq_true rfl) ?_
  refine ev_if_ne_t 10 dX11_see_5 (by decide) (gb_t hx) ?_
  refine ev_ild2 dX11_see_10 ?_
  refine ev_i2l dX11_see_11 ?_
  refine ev_lconst (v := 0) dX11_see_12 (by decide) ?_
  refine ev_ldc2 dX11_see_13 kc_X11_75 ?_
  refine ev_S3i (M' := mX11_in) dX11_see_16 lk_X11_62 sX11_in (m_in (d + 1) _ _ _ _ _) (Nat.le_refl _) (Nat.le_of_ble_eq_true rfl) ?_
  refine ev_if_eq_f 33 dX11_see_19 (by decide) (gb_t ((in09 y).trans (decide_eq_true ⟨hb.1, hb.2.1⟩))) ?_
  refine ev_ild3 dX11_see_22 ?_
  refine ev_i2l dX11_see_23 ?_
  refine ev_lconst (v := 0) dX11_see_24 (by decide) ?_
  refine ev_ild2 dX11_see_25 ?_
  refine ev_i2l dX11_see_26 ?_
  refine ev_S3i (M' := mX11_in) dX11_see_27 lk_X11_62 sX11_in (m_in (d + 1) _ _ _ _ _) (Nat.le_refl _) (Nat.le_of_ble_eq_true rfl) ?_
  refine ev_if_ne_t 36 dX11_see_30 (by decide) (gb_t ((in0y z y).trans (decide_eq_true ⟨hb.2.2.1, hb.2.2.2⟩))) ?_
  refine ev_ald0 dX11_see_36 ?_
  refine ev_geti dX11_see_37 fl_X11_200 rfl ?_
  refine ev_bipush (v := 6) dX11_see_40 (by decide) ?_
  refine ev_icmp_ne_f 48 dX11_see_42 (by decide) (by rw [hn]; decide) ?_
  refine ev_bipush (v := (-4)) dX11_see_45 (by decide) ?_
  refine ev_iret dX11_see_47 ?_
  exact ⟨_, rfl, rfl, rfl, rfl⟩
set_option maxRecDepth 10000 in
theorem m_see (d : Nat) (S : gx_S) {nd : Nat} (hnd : S 44 1 = nI nd) (h4 : nd ≤ 4) {x y z : Int32} (hx : isG (nI nd) x = true) (hb : ¬ y < 0 ∧ ¬ 9 < y ∧ ¬ z < 0 ∧ ¬ y < z) {n : Nat} (hn : S 44 19 = nI n) (h6 : n < 6) (L : gx_L) : Cf (d + 2) mX11_see [.ref 44, .int x, .int y, .int z] S L (nI (n + 1)) (gx_u2 (gx_u2 (gx_u2 (gx_u2 S 55 n x) 56 n y) 57 n z) 44 19 (nI (n + 1))) L := by
  refine ct_intro (loc := [some (.ref 44), some (.int x), some (.int y), some (.int z)]) (by decide) (Nat.le_of_ble_eq_true rfl) rfl ?_
  refine ev_ald0 dX11_see_0 ?_
  refine ev_ild1 dX11_see_1 ?_
  refine ev_V1i (M' := mX11_isDrinker) dX11_see_2 lk_X11_133 vX11_isDrinker rfl (m_isDrinker d S hnd (by omega) _ L) (Nat.le_refl _) (Nat.le_of_ble_eq_true rfl) ?_
  refine ev_if_ne_t 10 dX11_see_5 (by decide) (gb_t hx) ?_
  refine ev_ild2 dX11_see_10 ?_
  refine ev_i2l dX11_see_11 ?_
  refine ev_lconst (v := 0) dX11_see_12 (by decide) ?_
  refine ev_ldc2 dX11_see_13 kc_X11_75 ?_
  refine ev_S3i (M' := mX11_in) dX11_see_16 lk_X11_62 sX11_in (m_in (d + 1) _ _ _ _ _) (Nat.le_refl _) (Nat.le_of_ble_eq_true rfl) ?_
  refine ev_if_eq_f 33 dX11_see_19 (by decide) (gb_t ((in09 y).trans (decide_eq_true ⟨hb.1, hb.2.1⟩))) ?_
  refine ev_ild3 dX11_see_22 ?_
  refine ev_i2l dX11_see_23 ?_
  refine ev_lconst (v := 0) dX11_see_24 (by decide) ?_
  refine ev_ild2 dX11_see_25 ?_
  refine ev_i2l dX11_see_26 ?_
  refine ev_S3i (M' := mX11_in) dX11_see_27 lk_X11_62 sX11_in (m_in (d + 1) _ _ _ _ _) (Nat.le_refl _) (Nat.le_of_ble_eq_true rfl) ?_
  refine ev_if_ne_t 36 dX11_see_30 (by decide) (gb_t ((in0y z y).trans (decide_eq_true ⟨hb.2.2.1, hb.2.2.2⟩))) ?_
  refine ev_ald0 dX11_see_36 ?_
  refine ev_geti dX11_see_37 fl_X11_200 rfl ?_
  refine ev_bipush (v := 6) dX11_see_40 (by decide) ?_
  refine ev_icmp_ne_t 48 dX11_see_42 (by decide) (fun h9 => absurd ((nI_eq (b := 6) (by omega) (by decide)).mp (hn.symm.trans h9)) (by omega)) ?_
  refine ev_ald0 dX11_see_48 ?_
  refine ev_getr (r := 55) dX11_see_49 fl_X11_40 rfl ?_
  refine ev_ald0 dX11_see_52 ?_
  refine ev_geti dX11_see_53 fl_X11_200 rfl ?_
  rw [hn]
  refine ev_ild1 dX11_see_56 ?_
  refine ev_iast2 (j := n) dX11_see_57 rfl rfl (by omega) (by first | decide | omega) ?_
  refine ev_ald0 dX11_see_58 ?_
  refine ev_getr (r := 56) dX11_see_59 fl_X11_43 rfl ?_
  refine ev_ald0 dX11_see_62 ?_
  refine ev_geti dX11_see_63 fl_X11_200 rfl ?_
  rw [u2_o _ _ _ (by decide), hn]
  refine ev_ild2 dX11_see_66 ?_
  refine ev_iast2 (j := n) dX11_see_67 rfl rfl (by omega) (by first | decide | omega) ?_
  refine ev_ald0 dX11_see_68 ?_
  refine ev_getr (r := 57) dX11_see_69 fl_X11_46 rfl ?_
  refine ev_ald0 dX11_see_72 ?_
  refine ev_geti dX11_see_73 fl_X11_200 rfl ?_
  rw [u2_o _ _ _ (by decide), u2_o _ _ _ (by decide), hn]
  refine ev_ild3 dX11_see_76 ?_
  refine ev_iast2 (j := n) dX11_see_77 rfl rfl (by omega) (by first | decide | omega) ?_
  refine ev_ald0 dX11_see_78 ?_
  refine ev_dupr dX11_see_79 ?_
  refine ev_geti dX11_see_80 fl_X11_200 rfl ?_
  rw [u2_o _ _ _ (by decide), u2_o _ _ _ (by decide), u2_o _ _ _ (by decide), hn]
  refine ev_iconst (v := 1) dX11_see_83 (by decide) ?_
  refine ev_iadd dX11_see_84 ?_
  rw [show nI n + 1 = nI (n + 1) from nI_1 n]
  refine ev_puti dX11_see_85 fp_X11_200 rfl ?_
  refine ev_ald0 dX11_see_88 ?_
  refine ev_geti dX11_see_89 fl_X11_200 rfl ?_
  rw [u2_at]
  refine ev_iret dX11_see_92 ?_
  exact ⟨_, rfl, rfl, rfl, rfl⟩
set_option maxRecDepth 10000 in
theorem m_unsee (d : Nat) (S : gx_S) {n : Nat} (hn : S 44 19 = nI n) (L : gx_L) : Cf d mX11_unsee [.ref 44] S L (nI n) (gx_u2 S 44 19 0) L := by
  refine ct_intro (loc := [some (.ref 44), none]) (by decide) (Nat.le_of_ble_eq_true rfl) rfl ?_
  refine ev_ald0 dX11_unsee_0 ?_
  refine ev_geti dX11_unsee_1 fl_X11_200 rfl ?_
  rw [hn]
  refine ev_ist1 dX11_unsee_4 ?_
  refine ev_ald0 dX11_unsee_5 ?_
  refine ev_iconst (v := 0) dX11_unsee_6 (by decide) ?_
  refine ev_puti dX11_unsee_7 fp_X11_200 rfl ?_
  refine ev_ild1 dX11_unsee_10 ?_
  refine ev_iret dX11_unsee_11 ?_
  exact ⟨_, rfl, rfl, rfl, rfl⟩
set_option maxRecDepth 10000 in
theorem m_left0 (d : Nat) (S : gx_S) {ng nd : Nat} {ms gk dk sb : Nat → Int32} (hm : mH S ng nd ms gk dk sb) {x : Int32} (hb : isG (nI ng) x = false) (L : gx_L) : Cf (d + 2) mX11_left [.ref 44, .int x] S L (-1) S L := by
  refine ct_intro (loc := [some (.ref 44), some (.int x)]) (by decide) (Nat.le_of_ble_eq_true rfl) rfl ?_
  refine ev_ald0 dX11_left_0 ?_
  refine ev_ild1 dX11_left_1 ?_
  refine ev_V1i (M' := mX11_isGlass) dX11_left_2 lk_X11_126 vX11_isGlass rfl (m_isGlass d S hm.1 hm.2.1 _ L) (Nat.le_refl _) (Nat.le_of_ble_eq_true rfl) ?_
  refine ev_if_ne_f 10 dX11_left_5 (by decide) (gb_f hb) ?_
  refine ev_iconst (v := (-1)) dX11_left_8 (by decide) ?_
  refine ev_iret dX11_left_9 ?_
  exact ⟨_, rfl, rfl, rfl, rfl⟩
set_option maxRecDepth 10000 in
theorem m_left (d : Nat) (S : gx_S) {ng nd : Nat} {ms gk dk sb : Nat → Int32} (hm : mH S ng nd ms gk dk sb) {T : Tb} (h0 : mT (S 49) 0 = T) (hT : okT ms T) {j : Nat} (hj : j < ng) (L : gx_L) : Cf (d + 4) mX11_left [.ref 44, .int (nI j)] S L ((p_ev dk sb 15 T).1 j) (nS S 1 (p_ev dk sb 15 T)) L := by
  refine ct_intro (loc := [some (.ref 44), some (.int (nI j))]) (by decide) (Nat.le_of_ble_eq_true rfl) rfl ?_
  have h59 := hm.2.1
  refine ev_ald0 dX11_left_0 ?_
  refine ev_ild1 dX11_left_1 ?_
  refine ev_V1i (M' := mX11_isGlass) dX11_left_2 lk_X11_126 vX11_isGlass rfl (m_isGlass (d + 2) S hm.1 hm.2.1 _ L) (Nat.le_refl _) (Nat.le_of_ble_eq_true rfl) ?_
  refine ev_if_ne_t 10 dX11_left_5 (by decide) (gb_t (isG_in (by omega) hj)) ?_
  refine ev_ald0 dX11_left_10 ?_
  refine ev_V0v (M' := mX11_layTrial) dX11_left_11 lk_X11_164 vX11_layTrial rfl (m_layTrial (d + 3) S L) (Nat.le_refl _) (Nat.le_of_ble_eq_true rfl) ?_
  rw [h0]
  refine ev_ald0 dX11_left_14 ?_
  refine ev_iconst (v := 1) dX11_left_15 (by decide) ?_
  refine ev_bipush (v := 15) dX11_left_16 (by decide) ?_
  refine ev_V2v (M' := mX11_eveningOn) dX11_left_18 lk_X11_167 vX11_eveningOn rfl (m_eveningOn d S hm (lv := 1) (by decide) 15 T hT L) (Nat.le_refl _) (Nat.le_of_ble_eq_true rfl) ?_
  refine ev_ald0 dX11_left_21 ?_
  refine ev_getr (r := 49) dX11_left_22 fl_X11_22 rfl ?_
  refine ev_bipush (v := 15) dX11_left_25 (by decide) ?_
  refine ev_ild1 dX11_left_27 ?_
  refine ev_iadd dX11_left_28 ?_
  refine ev_iald2 (j := 15 * 1 + j) dX11_left_29 rfl (ix2 15 _) (by omega) (by first | decide | omega) ?_
  rw [nS_c S 1 _ (by omega)]
  refine ev_iret dX11_left_30 ?_
  exact ⟨_, rfl, rfl, rfl, rfl⟩
set_option maxRecDepth 10000 in
theorem m_evening0 (d : Nat) (S : gx_S) {x : Int32} (hb : x < 0 ∨ 1 < x) (L : gx_L) : Cf (d + 1) mX11_evening [.ref 44, .int x] S L (-2) S L := by
  refine ct_intro (loc := [some (.ref 44), some (.int x)]) (by decide) (Nat.le_of_ble_eq_true rfl) rfl ?_
  refine ev_ild1 dX11_evening_0 ?_
  refine ev_i2l dX11_evening_1 ?_
  refine ev_lconst (v := 0) dX11_evening_2 (by decide) ?_
  refine ev_lconst (v := 1) dX11_evening_3 (by decide) ?_
  refine ev_S3i (M' := mX11_in) dX11_evening_4 lk_X11_62 sX11_in (m_in d _ _ _ _ _) (Nat.le_refl _) (Nat.le_of_ble_eq_true rfl) ?_
  refine ev_if_ne 13 dX11_evening_7 (by decide) (fun c_7 => ?_) (fun c_7 => ?_)
  · have b_7 := gx_b_y.mp c_7
    exact absurd hb (fun h9 => h9.elim (of_decide_eq_true ((in01 x).symm.trans b_7)).1 (of_decide_eq_true ((in01 x).symm.trans b_7)).2)
  · have b_7 := gx_b_n.mp c_7
    refine ev_bipush (v := (-2)) dX11_evening_10 (by decide) ?_
    refine ev_iret dX11_evening_12 ?_
    exact ⟨_, rfl, rfl, rfl, rfl⟩
set_option maxRecDepth 10000 in
theorem m_evening (d : Nat) (S : gx_S) {ng nd : Nat} {ms gk dk sb : Nat → Int32} (hm : mH S ng nd ms gk dk sb) {T : Tb} (h0 : mT (S 49) 0 = T) (hT : okT ms T) (hz : zD nd T) {x : Int32} (hb : ¬ x < 0 ∧ ¬ 1 < x) (L : gx_L) : Cf (d + 4) mX11_evening [.ref 44, .int x] S L (if x = 0 then p_taxes gk ms (p_ev dk sb 15 T) else p_thirst (p_ev dk sb 15 T)) (nS S 1 (p_ev dk sb 15 T)) L := by
  refine ct_intro (loc := [some (.ref 44), some (.int x)]) (by decide) (Nat.le_of_ble_eq_true rfl) rfl ?_
  refine ev_ild1 dX11_evening_0 ?_
  refine ev_i2l dX11_evening_1 ?_
  refine ev_lconst (v := 0) dX11_evening_2 (by decide) ?_
  refine ev_lconst (v := 1) dX11_evening_3 (by decide) ?_
  refine ev_S3i (M' := mX11_in) dX11_evening_4 lk_X11_62 sX11_in (m_in (d + 3) _ _ _ _ _) (Nat.le_refl _) (Nat.le_of_ble_eq_true rfl) ?_
  refine ev_if_ne_t 13 dX11_evening_7 (by decide) (gb_t ((in01 x).trans (decide_eq_true hb))) ?_
  refine ev_ald0 dX11_evening_13 ?_
  refine ev_V0v (M' := mX11_layTrial) dX11_evening_14 lk_X11_164 vX11_layTrial rfl (m_layTrial (d + 3) S L) (Nat.le_refl _) (Nat.le_of_ble_eq_true rfl) ?_
  rw [h0]
  refine ev_ald0 dX11_evening_17 ?_
  refine ev_iconst (v := 1) dX11_evening_18 (by decide) ?_
  refine ev_bipush (v := 15) dX11_evening_19 (by decide) ?_
  refine ev_V2v (M' := mX11_eveningOn) dX11_evening_21 lk_X11_167 vX11_eveningOn rfl (m_eveningOn d S hm (lv := 1) (by decide) 15 T hT L) (Nat.le_refl _) (Nat.le_of_ble_eq_true rfl) ?_
  refine ev_ild1 dX11_evening_24 ?_
  refine ev_if_ne 36 dX11_evening_25 (by decide) (fun c_25 => ?_) (fun c_25 => ?_)
  · refine ev_ald0 dX11_evening_36 ?_
    refine ev_iconst (v := 1) dX11_evening_37 (by decide) ?_
    refine ev_iconst (v := 1) dX11_evening_38 (by decide) ?_
    refine ev_V2i (M' := mX11_thirst) dX11_evening_39 lk_X11_170 vX11_thirst rfl (m_thirst1 (d + 3) S hm (lv := 1) (by decide) _ (zD_ev hm hz) L) (Nat.le_refl _) (Nat.le_of_ble_eq_true rfl) ?_
    refine ev_iret dX11_evening_42 ?_
    exact ⟨_, rfl, (if_neg c_25).symm, rfl, rfl⟩
  · refine ev_ald0 dX11_evening_28 ?_
    refine ev_iconst (v := 1) dX11_evening_29 (by decide) ?_
    refine ev_V1i (M' := mX11_taxes) dX11_evening_30 lk_X11_161 vX11_taxes rfl (m_taxes (d + 2) S hm (lv := 1) (by decide) _ (okT_ev hT) L) (Nat.le_refl _) (Nat.le_of_ble_eq_true rfl) ?_
    refine ev_goto 42 dX11_evening_33 (by decide) ?_
    refine ev_iret dX11_evening_42 ?_
    exact ⟨_, rfl, (if_pos c_25).symm, rfl, rfl⟩
set_option maxRecDepth 10000 in
theorem ml_hall (d : Nat) (S : gx_S) {ng nd : Nat} {ms gk dk sb : Nat → Int32} (hm : mH S ng nd ms gk dk sb) (T : Tb) (hT : okT ms T) {k : Nat} (hk : k ≤ 9) (L : gx_L) {Q : Option Value → gx_S → gx_L → Prop}  (kk : Ev mX11_hall (d + 2) 37 [some (.ref 44), some (.int (nI k)), some (.int (nI (k)))] [] (nS S 1 (p_hallN gk T (k))) L Q) : ∀ (nn i : Nat), i + nn = k → Ev mX11_hall (d + 2) 21 [some (.ref 44), some (.int (nI k)), some (.int (nI (i)))] [] (nS S 1 (p_hallN gk T (i))) L Q := by
  intro nn
  induction nn with
  | zero =>
    intro i hi
    obtain rfl : i = k := hi
    refine ev_ild2 dX11_hall_21 ?_
    refine ev_ild1 dX11_hall_22 ?_
    refine ev_icmp_ge_t 37 dX11_hall_23 (by decide) (nI_le (Nat.le_refl _) (by omega)) ?_
    exact kk
  | succ nn ih =>
    intro i hi
    refine ev_ild2 dX11_hall_21 ?_
    refine ev_ild1 dX11_hall_22 ?_
    refine ev_icmp_ge_f 37 dX11_hall_23 (by decide) (nI_ge (by omega) (by omega)) ?_
    refine ev_ald0 dX11_hall_26 ?_
    refine ev_iconst (v := 1) dX11_hall_27 (by decide) ?_
    refine ev_V1v (M' := mX11_passOn) dX11_hall_28 lk_X11_158 vX11_passOn rfl (m_passOn (d + 1) S hm (lv := 1) (by decide) _ (okT_hall hT i) L) (Nat.le_refl _) (Nat.le_of_ble_eq_true rfl) ?_
    refine ev_inc2 dX11_hall_31 (nI_inc _) ?_
    refine ev_goto 21 dX11_hall_34 (by decide) ?_
    exact ih (i + 1) (by omega)
set_option maxRecDepth 10000 in
theorem m_hall0 (d : Nat) (S : gx_S) {x : Int32} (hb : x < 0 ∨ 9 < x) (L : gx_L) : Cf (d + 1) mX11_hall [.ref 44, .int x] S L (-2) S L := by
  refine ct_intro (loc := [some (.ref 44), some (.int x), none]) (by decide) (Nat.le_of_ble_eq_true rfl) rfl ?_
  refine ev_ild1 dX11_hall_0 ?_
  refine ev_i2l dX11_hall_1 ?_
  refine ev_lconst (v := 0) dX11_hall_2 (by decide) ?_
  refine ev_ldc2 dX11_hall_3 kc_X11_75 ?_
  refine ev_S3i (M' := mX11_in) dX11_hall_6 lk_X11_62 sX11_in (m_in d _ _ _ _ _) (Nat.le_refl _) (Nat.le_of_ble_eq_true rfl) ?_
  refine ev_if_ne 15 dX11_hall_9 (by decide) (fun c_9 => ?_) (fun c_9 => ?_)
  · have b_9 := gx_b_y.mp c_9
    exact absurd hb (fun h9 => h9.elim (of_decide_eq_true ((in09 x).symm.trans b_9)).1 (of_decide_eq_true ((in09 x).symm.trans b_9)).2)
  · have b_9 := gx_b_n.mp c_9
    refine ev_bipush (v := (-2)) dX11_hall_12 (by decide) ?_
    refine ev_iret dX11_hall_14 ?_
    exact ⟨_, rfl, rfl, rfl, rfl⟩
set_option maxRecDepth 10000 in
theorem m_hall (d : Nat) (S : gx_S) {ng nd : Nat} {ms gk dk sb : Nat → Int32} (hm : mH S ng nd ms gk dk sb) {T : Tb} (h0 : mT (S 49) 0 = T) (hT : okT ms T) {k : Nat} (hk : k ≤ 9) (L : gx_L) : Cf (d + 2) mX11_hall [.ref 44, .int (nI k)] S L (p_taxes gk ms (p_hallN gk T k)) (nS S 1 (p_hallN gk T k)) L := by
  refine ct_intro (loc := [some (.ref 44), some (.int (nI k)), none]) (by decide) (Nat.le_of_ble_eq_true rfl) rfl ?_
  refine ev_ild1 dX11_hall_0 ?_
  refine ev_i2l dX11_hall_1 ?_
  refine ev_lconst (v := 0) dX11_hall_2 (by decide) ?_
  refine ev_ldc2 dX11_hall_3 kc_X11_75 ?_
  refine ev_S3i (M' := mX11_in) dX11_hall_6 lk_X11_62 sX11_in (m_in (d + 1) _ _ _ _ _) (Nat.le_refl _) (Nat.le_of_ble_eq_true rfl) ?_
  refine ev_if_ne_t 15 dX11_hall_9 (by decide) (gb_t ((in09 _).trans (decide_eq_true ⟨nI_pos (by omega), Int32.not_lt.mpr (nI_le (b := 9) hk (by decide))⟩))) ?_
  refine ev_ald0 dX11_hall_15 ?_
  refine ev_V0v (M' := mX11_layTrial) dX11_hall_16 lk_X11_164 vX11_layTrial rfl (m_layTrial (d + 1) S L) (Nat.le_refl _) (Nat.le_of_ble_eq_true rfl) ?_
  rw [h0]
  refine ev_iconst (v := 0) dX11_hall_19 (by decide) ?_
  refine ev_ist2 dX11_hall_20 ?_
  refine ml_hall d S hm T hT hk L ?_ k 0 (Nat.zero_add _)
  refine ev_ald0 dX11_hall_37 ?_
  refine ev_iconst (v := 1) dX11_hall_38 (by decide) ?_
  refine ev_V1i (M' := mX11_taxes) dX11_hall_39 lk_X11_161 vX11_taxes rfl (m_taxes d S hm (lv := 1) (by decide) _ (okT_hall hT k) L) (Nat.le_refl _) (Nat.le_of_ble_eq_true rfl) ?_
  refine ev_iret dX11_hall_42 ?_
  exact ⟨_, rfl, rfl, rfl, rfl⟩
set_option maxRecDepth 10000 in
theorem m_seed (d : Nat) (S : gx_S) (v : Int64) (L : gx_L) : Cg d mX11_seed [.ref 44, .long v] S L (L 44) S (gx_uL L 44 v) := by
  refine ct_intro (loc := [some (.ref 44), some (.long v), none, none, none]) (by decide) (Nat.le_of_ble_eq_true rfl) rfl ?_
  refine ev_ald0 dX11_seed_0 ?_
  refine ev_getl dX11_seed_1 fl_X11_224 rfl ?_
  refine ev_lst3 dX11_seed_4 ?_
  refine ev_ald0 dX11_seed_5 ?_
  refine ev_lld1 dX11_seed_6 ?_
  refine ev_putl hone44 dX11_seed_7 fp_X11_224 rfl ?_
  refine ev_lld3 dX11_seed_10 ?_
  refine ev_lret dX11_seed_11 ?_
  exact ⟨_, rfl, rfl, rfl, rfl⟩
set_option maxRecDepth 10000 in
theorem m_count (d : Nat) (S : gx_S) {ng nd : Nat} {ms gk dk sb : Nat → Int32} (hm : mH S ng nd ms gk dk sb) {T : Tb} (h0 : mT (S 49) 0 = T) (hT : okT ms T) (hz : zD nd T) (w : Int32) (L : gx_L) : Cf (d + 2) mX11_count [.ref 44, .int w] S L (A_count (S 44 13) (S 44 0) (S 44 1) (p_taxes gk ms T) (p_thirst T) (S 49 14) (S 44 16) (S 44 19) w) S L := by
  refine ct_intro (loc := [some (.ref 44), some (.int w)]) (by decide) (Nat.le_of_ble_eq_true rfl) rfl ?_
  refine ev_ild1 dX11_count_0 ?_
  rcases Decidable.em (w = 0) with hw0 | hw0
  · subst hw0
    refine ev_tsw_in (off := 47) 48 dX11_count_1 (by decide) (by decide) (by decide +kernel) (by decide) ?_
    refine ev_ald0 dX11_count_48 ?_
    refine ev_geti dX11_count_49 fl_X11_66 rfl ?_
    refine ev_iret dX11_count_52 ?_
    exact ⟨_, rfl, by unfold A_count; rw [if_pos rfl], rfl, rfl⟩
  · skip
    rcases Decidable.em (w = 1) with hw1 | hw1
    · subst hw1
      refine ev_tsw_in (off := 52) 53 dX11_count_1 (by decide) (by decide) (by decide +kernel) (by decide) ?_
      refine ev_ald0 dX11_count_53 ?_
      refine ev_geti dX11_count_54 fl_X11_56 rfl ?_
      refine ev_iret dX11_count_57 ?_
      exact ⟨_, rfl, by unfold A_count; rw [if_neg (by decide), if_pos rfl], rfl, rfl⟩
    · skip
      rcases Decidable.em (w = 2) with hw2 | hw2
      · subst hw2
        refine ev_tsw_in (off := 57) 58 dX11_count_1 (by decide) (by decide) (by decide +kernel) (by decide) ?_
        refine ev_ald0 dX11_count_58 ?_
        refine ev_geti dX11_count_59 fl_X11_105 rfl ?_
        refine ev_iret dX11_count_62 ?_
        exact ⟨_, rfl, by unfold A_count; rw [if_neg (by decide), if_neg (by decide), if_pos rfl], rfl, rfl⟩
      · skip
        rcases Decidable.em (w = 3) with hw3 | hw3
        · subst hw3
          refine ev_tsw_in (off := 62) 63 dX11_count_1 (by decide) (by decide) (by decide +kernel) (by decide) ?_
          refine ev_ald0 dX11_count_63 ?_
          refine ev_iconst (v := 0) dX11_count_64 (by decide) ?_
          refine ev_V1i (M' := mX11_taxes) dX11_count_65 lk_X11_161 vX11_taxes rfl (s_taxes d S hm h0 hT L) (Nat.le_refl _) (Nat.le_of_ble_eq_true rfl) ?_
          refine ev_iret dX11_count_68 ?_
          exact ⟨_, rfl, by unfold A_count; rw [if_neg (by decide), if_neg (by decide), if_neg (by decide), if_pos rfl], rfl, rfl⟩
        · skip
          rcases Decidable.em (w = 4) with hw4 | hw4
          · subst hw4
            refine ev_tsw_in (off := 68) 69 dX11_count_1 (by decide) (by decide) (by decide +kernel) (by decide) ?_
            refine ev_ald0 dX11_count_69 ?_
            refine ev_iconst (v := 0) dX11_count_70 (by decide) ?_
            refine ev_iconst (v := 1) dX11_count_71 (by decide) ?_
            refine ev_V2i (M' := mX11_thirst) dX11_count_72 lk_X11_170 vX11_thirst rfl (s_thirst (d + 1) S hm h0 hz L) (Nat.le_refl _) (Nat.le_of_ble_eq_true rfl) ?_
            refine ev_iret dX11_count_75 ?_
            exact ⟨_, rfl, by unfold A_count; rw [if_neg (by decide), if_neg (by decide), if_neg (by decide), if_neg (by decide), if_pos rfl], rfl, rfl⟩
          · skip
            rcases Decidable.em (w = 5) with hw5 | hw5
            · subst hw5
              refine ev_tsw_in (off := 75) 76 dX11_count_1 (by decide) (by decide) (by decide +kernel) (by decide) ?_
              refine ev_ald0 dX11_count_76 ?_
              refine ev_getr (r := 49) dX11_count_77 fl_X11_22 rfl ?_
              refine ev_bipush (v := 14) dX11_count_80 (by decide) ?_
              refine ev_iald2 (j := 14) dX11_count_82 rfl rfl (by omega) (by first | decide | omega) ?_
              refine ev_iret dX11_count_83 ?_
              exact ⟨_, rfl, by unfold A_count; rw [if_neg (by decide), if_neg (by decide), if_neg (by decide), if_neg (by decide), if_neg (by decide), if_pos rfl], rfl, rfl⟩
            · skip
              rcases Decidable.em (w = 6) with hw6 | hw6
              · subst hw6
                refine ev_tsw_in (off := 83) 84 dX11_count_1 (by decide) (by decide) (by decide +kernel) (by decide) ?_
                refine ev_ald0 dX11_count_84 ?_
                refine ev_geti dX11_count_85 fl_X11_108 rfl ?_
                refine ev_iret dX11_count_88 ?_
                exact ⟨_, rfl, by unfold A_count; rw [if_neg (by decide), if_neg (by decide), if_neg (by decide), if_neg (by decide), if_neg (by decide), if_neg (by decide), if_pos rfl], rfl, rfl⟩
              · skip
                rcases Decidable.em (w = 7) with hw7 | hw7
                · subst hw7
                  refine ev_tsw_in (off := 88) 89 dX11_count_1 (by decide) (by decide) (by decide +kernel) (by decide) ?_
                  refine ev_ald0 dX11_count_89 ?_
                  refine ev_geti dX11_count_90 fl_X11_200 rfl ?_
                  refine ev_iret dX11_count_93 ?_
                  exact ⟨_, rfl, by unfold A_count; rw [if_neg (by decide), if_neg (by decide), if_neg (by decide), if_neg (by decide), if_neg (by decide), if_neg (by decide), if_neg (by decide), if_pos rfl], rfl, rfl⟩
                · skip
                  refine ev_tsw_out 94 dX11_count_1 (sw_out8 hw0 hw1 hw2 hw3 hw4 hw5 hw6 hw7) (by decide) ?_
                  refine ev_bipush (v := (-2)) dX11_count_94 (by decide) ?_
                  refine ev_iret dX11_count_96 ?_
                  exact ⟨_, rfl, by unfold A_count; rw [if_neg hw0, if_neg hw1, if_neg hw2, if_neg hw3, if_neg hw4, if_neg hw5, if_neg hw6, if_neg hw7], rfl, rfl⟩
set_option maxRecDepth 10000 in
theorem m_keep0 (d : Nat) (S : gx_S) {x : Int32} (hb : x < 0 ∨ 1 < x) (L : gx_L) : Cf (d + 1) mX11_keep [.ref 44, .int x] S L (-1) S L := by
  refine ct_intro (loc := [some (.ref 44), some (.int x), none]) (by decide) (Nat.le_of_ble_eq_true rfl) rfl ?_
  refine ev_ild1 dX11_keep_0 ?_
  refine ev_i2l dX11_keep_1 ?_
  refine ev_lconst (v := 0) dX11_keep_2 (by decide) ?_
  refine ev_lconst (v := 1) dX11_keep_3 (by decide) ?_
  refine ev_S3i (M' := mX11_in) dX11_keep_4 lk_X11_62 sX11_in (m_in d _ _ _ _ _) (Nat.le_refl _) (Nat.le_of_ble_eq_true rfl) ?_
  refine ev_if_ne 12 dX11_keep_7 (by decide) (fun c_7 => ?_) (fun c_7 => ?_)
  · have b_7 := gx_b_y.mp c_7
    exact absurd hb (fun h9 => h9.elim (of_decide_eq_true ((in01 x).symm.trans b_7)).1 (of_decide_eq_true ((in01 x).symm.trans b_7)).2)
  · have b_7 := gx_b_n.mp c_7
    refine ev_iconst (v := (-1)) dX11_keep_10 (by decide) ?_
    refine ev_iret dX11_keep_11 ?_
    exact ⟨_, rfl, rfl, rfl, rfl⟩
set_option maxRecDepth 10000 in
theorem m_again0 (d : Nat) (S : gx_S) {x : Int32} (hb : x < 0 ∨ 1 < x) (L : gx_L) : Cf (d + 1) mX11_again [.ref 44, .int x] S L (-1) S L := by
  refine ct_intro (loc := [some (.ref 44), some (.int x), none]) (by decide) (Nat.le_of_ble_eq_true rfl) rfl ?_
  refine ev_ild1 dX11_again_0 ?_
  refine ev_i2l dX11_again_1 ?_
  refine ev_lconst (v := 0) dX11_again_2 (by decide) ?_
  refine ev_lconst (v := 1) dX11_again_3 (by decide) ?_
  refine ev_S3i (M' := mX11_in) dX11_again_4 lk_X11_62 sX11_in (m_in d _ _ _ _ _) (Nat.le_refl _) (Nat.le_of_ble_eq_true rfl) ?_
  refine ev_if_ne 12 dX11_again_7 (by decide) (fun c_7 => ?_) (fun c_7 => ?_)
  · have b_7 := gx_b_y.mp c_7
    exact absurd hb (fun h9 => h9.elim (of_decide_eq_true ((in01 x).symm.trans b_7)).1 (of_decide_eq_true ((in01 x).symm.trans b_7)).2)
  · have b_7 := gx_b_n.mp c_7
    refine ev_iconst (v := (-1)) dX11_again_10 (by decide) ?_
    refine ev_iret dX11_again_11 ?_
    exact ⟨_, rfl, rfl, rfl, rfl⟩
set_option maxRecDepth 10000 in
theorem ml_kp (d : Nat) (S : gx_S) {p : Nat} (hp : p ≤ 1) (L : gx_L) {Q : Option Value → gx_S → gx_L → Prop}  (kk : Ev mX11_keep (d) 50 [some (.ref 44), some (.int (nI p)), some (.int (nI (15)))] [] (gx_up (gx_u2 S 58 p 1) 59 (va_cpy (S 49) (S 59) 0 (15 * p) (15))) L Q) : ∀ (nn i : Nat), i + nn = 15 → Ev mX11_keep (d) 21 [some (.ref 44), some (.int (nI p)), some (.int (nI (i)))] [] (gx_up (gx_u2 S 58 p 1) 59 (va_cpy (S 49) (S 59) 0 (15 * p) (i))) L Q := by
  intro nn
  induction nn with
  | zero =>
    intro i hi
    obtain rfl : i = 15 := hi
    refine ev_ild2 dX11_keep_21 ?_
    refine ev_bipush (v := 15) dX11_keep_22 (by decide) ?_
    refine ev_icmp_ge_t 50 dX11_keep_24 (by decide) (by decide) ?_
    exact kk
  | succ nn ih =>
    intro i hi
    refine ev_ild2 dX11_keep_21 ?_
    refine ev_bipush (v := 15) dX11_keep_22 (by decide) ?_
    refine ev_icmp_ge_f 50 dX11_keep_24 (by decide) (nI_ge (b := 15) (by omega) (by decide)) ?_
    refine ev_ald0 dX11_keep_27 ?_
    refine ev_getr (r := 59) dX11_keep_28 fl_X11_53 rfl ?_
    refine ev_bipush (v := 15) dX11_keep_31 (by decide) ?_
    refine ev_ild1 dX11_keep_33 ?_
    refine ev_imul dX11_keep_34 ?_
    rw [m15]
    refine ev_ild2 dX11_keep_35 ?_
    refine ev_iadd dX11_keep_36 ?_
    refine ev_ald0 dX11_keep_37 ?_
    refine ev_getr (r := 49) dX11_keep_38 fl_X11_22 rfl ?_
    refine ev_ild2 dX11_keep_41 ?_
    refine ev_iald' dX11_keep_42 rfl (by omega) (by decide) ?_
    rw [gx_up_ne _ _ (show 49 ≠ 59 by decide), u2_o _ _ _ (show 49 ≠ 58 by decide), show S 49 i = S 49 (0 + i) from by rw [Nat.zero_add]]
    refine ev_iast2 (j := 15 * p + i) dX11_keep_43 rfl (ix2 _ _) (by omega) (by first | decide | omega) ?_
    rw [up_u2, cpy_s]
    refine ev_inc2 dX11_keep_44 (nI_inc _) ?_
    refine ev_goto 21 dX11_keep_47 (by decide) ?_
    exact ih (i + 1) (by omega)
set_option maxRecDepth 10000 in
theorem m_keep (d : Nat) (S : gx_S) {p : Nat} (hp : p ≤ 1) (L : gx_L) : Cf (d + 1) mX11_keep [.ref 44, .int (nI p)] S L (S 49 14) (gx_up (gx_u2 S 58 p 1) 59 (layF (S 59) p (mT (S 49) 0))) L := by
  refine ct_intro (loc := [some (.ref 44), some (.int (nI p)), none]) (by decide) (Nat.le_of_ble_eq_true rfl) rfl ?_
  refine ev_ild1 dX11_keep_0 ?_
  refine ev_i2l dX11_keep_1 ?_
  refine ev_lconst (v := 0) dX11_keep_2 (by decide) ?_
  refine ev_lconst (v := 1) dX11_keep_3 (by decide) ?_
  refine ev_S3i (M' := mX11_in) dX11_keep_4 lk_X11_62 sX11_in (m_in d _ _ _ _ _) (Nat.le_refl _) (Nat.le_of_ble_eq_true rfl) ?_
  refine ev_if_ne_t 12 dX11_keep_7 (by decide) (gb_t ((in01 _).trans (decide_eq_true ⟨nI_pos (by omega), Int32.not_lt.mpr (nI_le (b := 1) hp (by decide))⟩))) ?_
  refine ev_ald0 dX11_keep_12 ?_
  refine ev_getr (r := 58) dX11_keep_13 fl_X11_49 rfl ?_
  refine ev_ild1 dX11_keep_16 ?_
  refine ev_iconst (v := 1) dX11_keep_17 (by decide) ?_
  refine ev_zast2 (j := p) dX11_keep_18 rfl rfl (by omega) (by first | decide | omega) ?_
  rw [show vp_nar .boolean 1 = 1 from rfl]
  refine ev_iconst (v := 0) dX11_keep_19 (by decide) ?_
  refine ev_ist2 dX11_keep_20 ?_
  have l9 := ml_kp (d + 1) S hp L (Q := fun v S1 L1 => ∃ r : Int32, v = some (.int r) ∧ r = S 49 14 ∧ S1 = (gx_up (gx_u2 S 58 p 1) 59 (layF (S 59) p (mT (S 49) 0))) ∧ L1 = L) ?_ 15 0 rfl
  · rw [cpy_0, show gx_up (gx_u2 S 58 p 1) 59 (S 59) = gx_u2 S 58 p 1 from by conv => lhs; rw [show S 59 = gx_u2 S 58 p 1 59 from by rw [u2_o _ _ _ (by decide)], up_self]] at l9
    exact l9
  · rw [show va_cpy (S 49) (S 59) 0 (15 * p) 15 = layF (S 59) p (mT (S 49) 0) from cpy_lay (S 49) (S 59) 0 p]
    refine ev_ald0 dX11_keep_50 ?_
    refine ev_getr (r := 49) dX11_keep_51 fl_X11_22 rfl ?_
    refine ev_bipush (v := 14) dX11_keep_54 (by decide) ?_
    refine ev_iald2 (j := 14) dX11_keep_56 rfl rfl (by omega) (by first | decide | omega) ?_
    rw [gx_up_ne _ _ (show 49 ≠ 59 by decide), u2_o _ _ _ (show 49 ≠ 58 by decide)]
    refine ev_iret dX11_keep_57 ?_
    exact ⟨_, rfl, rfl, rfl, rfl⟩
set_option maxRecDepth 10000 in
theorem m_again1 (d : Nat) (S : gx_S) {p : Nat} (hp : p ≤ 1) (hb : S 58 p = 0) (L : gx_L) : Cf (d + 1) mX11_again [.ref 44, .int (nI p)] S L (-3) S L := by
  refine ct_intro (loc := [some (.ref 44), some (.int (nI p)), none]) (by decide) (Nat.le_of_ble_eq_true rfl) rfl ?_
  refine ev_ild1 dX11_again_0 ?_
  refine ev_i2l dX11_again_1 ?_
  refine ev_lconst (v := 0) dX11_again_2 (by decide) ?_
  refine ev_lconst (v := 1) dX11_again_3 (by decide) ?_
  refine ev_S3i (M' := mX11_in) dX11_again_4 lk_X11_62 sX11_in (m_in d _ _ _ _ _) (Nat.le_refl _) (Nat.le_of_ble_eq_true rfl) ?_
  refine ev_if_ne_t 12 dX11_again_7 (by decide) (gb_t ((in01 _).trans (decide_eq_true ⟨nI_pos (by omega), Int32.not_lt.mpr (nI_le (b := 1) hp (by decide))⟩))) ?_
  refine ev_ald0 dX11_again_12 ?_
  refine ev_getr (r := 58) dX11_again_13 fl_X11_49 rfl ?_
  refine ev_ild1 dX11_again_16 ?_
  refine ev_zald2 (j := p) dX11_again_17 rfl rfl (by omega) (by first | decide | omega) ?_
  refine ev_if_ne_f 24 dX11_again_18 (by decide) hb ?_
  refine ev_bipush (v := (-3)) dX11_again_21 (by decide) ?_
  refine ev_iret dX11_again_23 ?_
  exact ⟨_, rfl, rfl, rfl, rfl⟩
set_option maxRecDepth 10000 in
theorem ml_ag (d : Nat) (S : gx_S) {p : Nat} (hp : p ≤ 1) (L : gx_L) {Q : Option Value → gx_S → gx_L → Prop}  (kk : Ev mX11_again (d) 55 [some (.ref 44), some (.int (nI p)), some (.int (nI (15)))] [] (gx_up S 49 (va_cpy (S 59) (S 49) (15 * p) 0 (15))) L Q) : ∀ (nn i : Nat), i + nn = 15 → Ev mX11_again (d) 26 [some (.ref 44), some (.int (nI p)), some (.int (nI (i)))] [] (gx_up S 49 (va_cpy (S 59) (S 49) (15 * p) 0 (i))) L Q := by
  intro nn
  induction nn with
  | zero =>
    intro i hi
    obtain rfl : i = 15 := hi
    refine ev_ild2 dX11_again_26 ?_
    refine ev_bipush (v := 15) dX11_again_27 (by decide) ?_
    refine ev_icmp_ge_t 55 dX11_again_29 (by decide) (by decide) ?_
    exact kk
  | succ nn ih =>
    intro i hi
    refine ev_ild2 dX11_again_26 ?_
    refine ev_bipush (v := 15) dX11_again_27 (by decide) ?_
    refine ev_icmp_ge_f 55 dX11_again_29 (by decide) (nI_ge (b := 15) (by omega) (by decide)) ?_
    refine ev_ald0 dX11_again_32 ?_
    refine ev_getr (r := 49) dX11_again_33 fl_X11_22 rfl ?_
    refine ev_ild2 dX11_again_36 ?_
    refine ev_ald0 dX11_again_37 ?_
    refine ev_getr (r := 59) dX11_again_38 fl_X11_53 rfl ?_
    refine ev_bipush (v := 15) dX11_again_41 (by decide) ?_
    refine ev_ild1 dX11_again_43 ?_
    refine ev_imul dX11_again_44 ?_
    rw [m15]
    refine ev_ild2 dX11_again_45 ?_
    refine ev_iadd dX11_again_46 ?_
    refine ev_iald2 (j := 15 * p + i) dX11_again_47 rfl (ix2 _ _) (by omega) (by first | decide | omega) ?_
    rw [gx_up_ne _ _ (show 59 ≠ 49 by decide)]
    refine ev_iast' dX11_again_48 rfl (by omega) (by decide) ?_
    rw [up_u2, show upd (va_cpy (S 59) (S 49) (15 * p) 0 i) i (S 59 (15 * p + i)) = va_cpy (S 59) (S 49) (15 * p) 0 (i + 1) from by have e := cpy_s (S 59) (S 49) (15 * p) 0 i; rw [Nat.zero_add] at e; exact e]
    refine ev_inc2 dX11_again_49 (nI_inc _) ?_
    refine ev_goto 26 dX11_again_52 (by decide) ?_
    exact ih (i + 1) (by omega)
set_option maxRecDepth 10000 in
theorem m_again (d : Nat) (S : gx_S) {p : Nat} (hp : p ≤ 1) (hb : ¬ S 58 p = 0) (L : gx_L) : Cf (d + 1) mX11_again [.ref 44, .int (nI p)] S L (mT (S 59) p).2.2.2 (gx_u2 (nS S 0 (mT (S 59) p)) 44 16 0) L := by
  refine ct_intro (loc := [some (.ref 44), some (.int (nI p)), none]) (by decide) (Nat.le_of_ble_eq_true rfl) rfl ?_
  refine ev_ild1 dX11_again_0 ?_
  refine ev_i2l dX11_again_1 ?_
  refine ev_lconst (v := 0) dX11_again_2 (by decide) ?_
  refine ev_lconst (v := 1) dX11_again_3 (by decide) ?_
  refine ev_S3i (M' := mX11_in) dX11_again_4 lk_X11_62 sX11_in (m_in d _ _ _ _ _) (Nat.le_refl _) (Nat.le_of_ble_eq_true rfl) ?_
  refine ev_if_ne_t 12 dX11_again_7 (by decide) (gb_t ((in01 _).trans (decide_eq_true ⟨nI_pos (by omega), Int32.not_lt.mpr (nI_le (b := 1) hp (by decide))⟩))) ?_
  refine ev_ald0 dX11_again_12 ?_
  refine ev_getr (r := 58) dX11_again_13 fl_X11_49 rfl ?_
  refine ev_ild1 dX11_again_16 ?_
  refine ev_zald2 (j := p) dX11_again_17 rfl rfl (by omega) (by first | decide | omega) ?_
  refine ev_if_ne_t 24 dX11_again_18 (by decide) hb ?_
  refine ev_iconst (v := 0) dX11_again_24 (by decide) ?_
  refine ev_ist2 dX11_again_25 ?_
  have l9 := ml_ag (d + 1) S hp L (Q := fun v S1 L1 => ∃ r : Int32, v = some (.int r) ∧ r = (mT (S 59) p).2.2.2 ∧ S1 = (gx_u2 (nS S 0 (mT (S 59) p)) 44 16 0) ∧ L1 = L) ?_ 15 0 rfl
  · rw [cpy_0, up_self] at l9
    exact l9
  · rw [show gx_up S 49 (va_cpy (S 59) (S 49) (15 * p) 0 15) = nS S 0 (mT (S 59) p) from congrArg (gx_up S 49) (cpy_lay (S 59) (S 49) p 0)]
    refine ev_ald0 dX11_again_55 ?_
    refine ev_iconst (v := 0) dX11_again_56 (by decide) ?_
    refine ev_puti dX11_again_57 fp_X11_108 rfl ?_
    refine ev_ald0 dX11_again_60 ?_
    refine ev_getr (r := 49) dX11_again_61 fl_X11_22 rfl ?_
    refine ev_bipush (v := 14) dX11_again_64 (by decide) ?_
    refine ev_iald2 (j := 15 * 0 + 14) dX11_again_66 rfl rfl (by omega) (by first | decide | omega) ?_
    rw [u2_o _ _ _ (show 49 ≠ 44 by decide), nS_h S 0 _]
    refine ev_iret dX11_again_67 ?_
    exact ⟨_, rfl, rfl, rfl, rfl⟩
