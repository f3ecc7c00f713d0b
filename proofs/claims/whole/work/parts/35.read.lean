set_option maxRecDepth 10000 in
theorem c_partV (d : Nat) (S : gx_S) (b c : Int32) (H : Hd) {ng nd : Nat} (hg : H.1 = nI ng) (hd : H.2.1 = nI nd) (h5 : ng ≤ 5) (h4 : nd ≤ 4) (L : gx_L) : Cf (d + 3) mX5_takesPart [.ref 3, .int 86, .ref 4] (mM S 1 b c H) L (gx_b (decide (¬ 5 ≤ H.1))) (mM S 2 b c H) L := by
  refine ct_intro (loc := [some (.ref 3), some (.int 86), some (.ref 4)]) (by decide) (Nat.le_of_ble_eq_true rfl) rfl ?_
  refine ev_ild1 dX5_takesPart_0 ?_
  refine ev_lsw (off := 35) 36 dX5_takesPart_1 (by decide +kernel) (by decide +kernel) (by decide) ?_
  refine ev_ald0 dX5_takesPart_36 ?_
  refine ev_iconst (v := 2) dX5_takesPart_37 (by decide) ?_
  refine ev_puti dX5_takesPart_38 fp_X5_16 rfl ?_
  rw [mM_u0]
  refine ev_ald2 dX5_takesPart_41 ?_
  refine ev_geti dX5_takesPart_42 fl_X5_39 rfl ?_
  rw [mM_g]
  refine ev_iconst (v := 5) dX5_takesPart_45 (by decide) ?_
  refine ev_icmp_ge 53 dX5_takesPart_46 (by decide) (fun c_46 => ?_) (fun c_46 => ?_)
  · refine ev_iconst (v := 0) dX5_takesPart_53 (by decide) ?_
    refine ev_zret dX5_takesPart_54 ?_ ?_
    · first | rfl | exact gx_b_nar _
    · exact ⟨_, rfl, by rw [decide_eq_false (fun h9 => h9 c_46)]; rfl, rfl, rfl⟩
  · refine ev_iconst (v := 1) dX5_takesPart_49 (by decide) ?_
    refine ev_goto 54 dX5_takesPart_50 (by decide) ?_
    refine ev_zret dX5_takesPart_54 ?_ ?_
    · first | rfl | exact gx_b_nar _
    · exact ⟨_, rfl, by rw [decide_eq_true c_46]; rfl, rfl, rfl⟩
set_option maxRecDepth 10000 in
theorem c_tkV (d : Nat) (S : gx_S) (b c : Int32) (H : Hd) {ng nd : Nat} (hg : H.1 = nI ng) (hd : H.2.1 = nI nd) (h5 : ng ≤ 5) (h4 : nd ≤ 4) (L : gx_L) : Cf (d + 4) mX5_takes [.ref 3, .int 86, .ref 4] (mM S 1 b c H) L (gx_b (decide (¬ 5 ≤ H.1))) (mM S 2 b c H) L := by
  refine ct_intro (loc := [some (.ref 3), some (.int 86), some (.ref 4)]) (by decide) (Nat.le_of_ble_eq_true rfl) rfl ?_
  refine ev_ald0 dX5_takes_0 ?_
  refine ev_geti dX5_takes_1 fl_X5_16 rfl ?_
  rw [mM_0]
  refine ev_if_ne_t 24 dX5_takes_4 (by decide) (by decide) ?_
  refine ev_ald0 dX5_takes_24 ?_
  refine ev_geti dX5_takes_25 fl_X5_16 rfl ?_
  rw [mM_0]
  refine ev_iconst (v := 1) dX5_takes_28 (by decide) ?_
  refine ev_icmp_ne_f 39 dX5_takes_29 (by decide) rfl ?_
  refine ev_ald0 dX5_takes_32 ?_
  refine ev_ild1 dX5_takes_33 ?_
  refine ev_ald2 dX5_takes_34 ?_
  refine ev_V2i (M' := mX5_takesPart) dX5_takes_35 lk_X5_33 vX5_takesPart rfl (c_partV d S _ _ H hg hd h5 h4 L) (Nat.le_refl _) (Nat.le_of_ble_eq_true rfl) ?_
  refine ev_zret dX5_takes_38 ?_ ?_
  · exact gx_b_nar _
  · exact ⟨_, rfl, rfl, rfl, rfl⟩
set_option maxRecDepth 10000 in
theorem c_partD (d : Nat) (S : gx_S) (b c : Int32) (H : Hd) {ng nd : Nat} (hg : H.1 = nI ng) (hd : H.2.1 = nI nd) (h5 : ng ≤ 5) (h4 : nd ≤ 4) (L : gx_L) : Cf (d + 3) mX5_takesPart [.ref 3, .int 68, .ref 4] (mM S 1 b c H) L (gx_b (decide (¬ 4 ≤ H.2.1))) (mM S 5 b c H) L := by
  refine ct_intro (loc := [some (.ref 3), some (.int 68), some (.ref 4)]) (by decide) (Nat.le_of_ble_eq_true rfl) rfl ?_
  refine ev_ild1 dX5_takesPart_0 ?_
  refine ev_lsw (off := 54) 55 dX5_takesPart_1 (by decide +kernel) (by decide +kernel) (by decide) ?_
  refine ev_ald0 dX5_takesPart_55 ?_
  refine ev_iconst (v := 5) dX5_takesPart_56 (by decide) ?_
  refine ev_puti dX5_takesPart_57 fp_X5_16 rfl ?_
  rw [mM_u0]
  refine ev_ald2 dX5_takesPart_60 ?_
  refine ev_geti dX5_takesPart_61 fl_X5_42 rfl ?_
  rw [mM_d]
  refine ev_iconst (v := 4) dX5_takesPart_64 (by decide) ?_
  refine ev_icmp_ge 72 dX5_takesPart_65 (by decide) (fun c_65 => ?_) (fun c_65 => ?_)
  · refine ev_iconst (v := 0) dX5_takesPart_72 (by decide) ?_
    refine ev_zret dX5_takesPart_73 ?_ ?_
    · first | rfl | exact gx_b_nar _
    · exact ⟨_, rfl, by rw [decide_eq_false (fun h9 => h9 c_65)]; rfl, rfl, rfl⟩
  · refine ev_iconst (v := 1) dX5_takesPart_68 (by decide) ?_
    refine ev_goto 73 dX5_takesPart_69 (by decide) ?_
    refine ev_zret dX5_takesPart_73 ?_ ?_
    · first | rfl | exact gx_b_nar _
    · exact ⟨_, rfl, by rw [decide_eq_true c_65]; rfl, rfl, rfl⟩
set_option maxRecDepth 10000 in
theorem c_tkD (d : Nat) (S : gx_S) (b c : Int32) (H : Hd) {ng nd : Nat} (hg : H.1 = nI ng) (hd : H.2.1 = nI nd) (h5 : ng ≤ 5) (h4 : nd ≤ 4) (L : gx_L) : Cf (d + 4) mX5_takes [.ref 3, .int 68, .ref 4] (mM S 1 b c H) L (gx_b (decide (¬ 4 ≤ H.2.1))) (mM S 5 b c H) L := by
  refine ct_intro (loc := [some (.ref 3), some (.int 68), some (.ref 4)]) (by decide) (Nat.le_of_ble_eq_true rfl) rfl ?_
  refine ev_ald0 dX5_takes_0 ?_
  refine ev_geti dX5_takes_1 fl_X5_16 rfl ?_
  rw [mM_0]
  refine ev_if_ne_t 24 dX5_takes_4 (by decide) (by decide) ?_
  refine ev_ald0 dX5_takes_24 ?_
  refine ev_geti dX5_takes_25 fl_X5_16 rfl ?_
  rw [mM_0]
  refine ev_iconst (v := 1) dX5_takes_28 (by decide) ?_
  refine ev_icmp_ne_f 39 dX5_takes_29 (by decide) rfl ?_
  refine ev_ald0 dX5_takes_32 ?_
  refine ev_ild1 dX5_takes_33 ?_
  refine ev_ald2 dX5_takes_34 ?_
  refine ev_V2i (M' := mX5_takesPart) dX5_takes_35 lk_X5_33 vX5_takesPart rfl (c_partD d S _ _ H hg hd h5 h4 L) (Nat.le_refl _) (Nat.le_of_ble_eq_true rfl) ?_
  refine ev_zret dX5_takes_38 ?_ ?_
  · exact gx_b_nar _
  · exact ⟨_, rfl, rfl, rfl, rfl⟩
set_option maxRecDepth 10000 in
theorem c_partS (d : Nat) (S : gx_S) (b c : Int32) (H : Hd) {ng nd : Nat} (hg : H.1 = nI ng) (hd : H.2.1 = nI nd) (h5 : ng ≤ 5) (h4 : nd ≤ 4) (L : gx_L) : Cf (d + 3) mX5_takesPart [.ref 3, .int 83, .ref 4] (mM S 1 b c H) L (gx_b (anyB (fun i => p_can H.1 H.2.1 H.2.2.2.2.2.2.2 (nI i)) nd)) (mM S 7 b c H) L := by
  refine ct_intro (loc := [some (.ref 3), some (.int 83), some (.ref 4)]) (by decide) (Nat.le_of_ble_eq_true rfl) rfl ?_
  refine ev_ild1 dX5_takesPart_0 ?_
  refine ev_lsw (off := 73) 74 dX5_takesPart_1 (by decide +kernel) (by decide +kernel) (by decide) ?_
  refine ev_ald0 dX5_takesPart_74 ?_
  refine ev_bipush (v := 7) dX5_takesPart_75 (by decide) ?_
  refine ev_puti dX5_takesPart_77 fp_X5_16 rfl ?_
  rw [mM_u0]
  refine ev_ald2 dX5_takesPart_80 ?_
  refine ev_V0i (M' := mX2_anyCanSit) dX5_takesPart_81 lk_X5_45 vX2_anyCanSit rfl (k_anyCan d S _ _ _ H L hd h4) (Nat.le_refl _) (Nat.le_of_ble_eq_true rfl) ?_
  refine ev_zret dX5_takesPart_84 ?_ ?_
  · first | rfl | exact gx_b_nar _
  · exact ⟨_, rfl, rfl, rfl, rfl⟩
set_option maxRecDepth 10000 in
theorem c_tkS (d : Nat) (S : gx_S) (b c : Int32) (H : Hd) {ng nd : Nat} (hg : H.1 = nI ng) (hd : H.2.1 = nI nd) (h5 : ng ≤ 5) (h4 : nd ≤ 4) (L : gx_L) : Cf (d + 4) mX5_takes [.ref 3, .int 83, .ref 4] (mM S 1 b c H) L (gx_b (anyB (fun i => p_can H.1 H.2.1 H.2.2.2.2.2.2.2 (nI i)) nd)) (mM S 7 b c H) L := by
  refine ct_intro (loc := [some (.ref 3), some (.int 83), some (.ref 4)]) (by decide) (Nat.le_of_ble_eq_true rfl) rfl ?_
  refine ev_ald0 dX5_takes_0 ?_
  refine ev_geti dX5_takes_1 fl_X5_16 rfl ?_
  rw [mM_0]
  refine ev_if_ne_t 24 dX5_takes_4 (by decide) (by decide) ?_
  refine ev_ald0 dX5_takes_24 ?_
  refine ev_geti dX5_takes_25 fl_X5_16 rfl ?_
  rw [mM_0]
  refine ev_iconst (v := 1) dX5_takes_28 (by decide) ?_
  refine ev_icmp_ne_f 39 dX5_takes_29 (by decide) rfl ?_
  refine ev_ald0 dX5_takes_32 ?_
  refine ev_ild1 dX5_takes_33 ?_
  refine ev_ald2 dX5_takes_34 ?_
  refine ev_V2i (M' := mX5_takesPart) dX5_takes_35 lk_X5_33 vX5_takesPart rfl (c_partS d S _ _ H hg hd h5 h4 L) (Nat.le_refl _) (Nat.le_of_ble_eq_true rfl) ?_
  refine ev_zret dX5_takes_38 ?_ ?_
  · exact gx_b_nar _
  · exact ⟨_, rfl, rfl, rfl, rfl⟩
theorem lsw_out {x : Int32} (h86 : ¬ x = 86) (h68 : ¬ x = 68) (h83 : ¬ x = 83) : Op.lookupswitch.offset [(68, 54), (83, 73), (86, 35)] 84 x.toInt = 84 := by
  have t (k : Int32) (h : ¬ x = k) : ¬ k.toInt = x.toInt := fun e => h (Int32.toInt_inj.mp e.symm)
  simp only [Op.lookupswitch.offset]
  rw [if_neg (show ¬ (68 : Int) = x.toInt from t 68 h68), if_neg (show ¬ (83 : Int) = x.toInt from t 83 h83), if_neg (show ¬ (86 : Int) = x.toInt from t 86 h86)]
set_option maxRecDepth 10000 in
theorem c_partX (d : Nat) (S : gx_S) (b c : Int32) (H : Hd) {ng nd : Nat} (hg : H.1 = nI ng) (hd : H.2.1 = nI nd) (h5 : ng ≤ 5) (h4 : nd ≤ 4) {x : Int32} (h86 : ¬ x = 86) (h68 : ¬ x = 68) (h83 : ¬ x = 83) (L : gx_L) : Cf (d + 3) mX5_takesPart [.ref 3, .int x, .ref 4] (mM S 1 b c H) L 0 (mM S 1 b c H) L := by
  refine ct_intro (loc := [some (.ref 3), some (.int x), some (.ref 4)]) (by decide) (Nat.le_of_ble_eq_true rfl) rfl ?_
  refine ev_ild1 dX5_takesPart_0 ?_
  refine ev_lsw (off := 84) 85 dX5_takesPart_1 (by decide +kernel) (lsw_out h86 h68 h83) (by decide) ?_
  refine ev_iconst (v := 0) dX5_takesPart_85 (by decide) ?_
  refine ev_zret dX5_takesPart_86 ?_ ?_
  · rfl
  · exact ⟨_, rfl, rfl, rfl, rfl⟩
set_option maxRecDepth 10000 in
theorem c_tkX (d : Nat) (S : gx_S) (b c : Int32) (H : Hd) {ng nd : Nat} (hg : H.1 = nI ng) (hd : H.2.1 = nI nd) (h5 : ng ≤ 5) (h4 : nd ≤ 4) {x : Int32} (h86 : ¬ x = 86) (h68 : ¬ x = 68) (h83 : ¬ x = 83) (L : gx_L) : Cf (d + 4) mX5_takes [.ref 3, .int x, .ref 4] (mM S 1 b c H) L 0 (mM S 1 b c H) L := by
  refine ct_intro (loc := [some (.ref 3), some (.int x), some (.ref 4)]) (by decide) (Nat.le_of_ble_eq_true rfl) rfl ?_
  refine ev_ald0 dX5_takes_0 ?_
  refine ev_geti dX5_takes_1 fl_X5_16 rfl ?_
  rw [mM_0]
  refine ev_if_ne_t 24 dX5_takes_4 (by decide) (by decide) ?_
  refine ev_ald0 dX5_takes_24 ?_
  refine ev_geti dX5_takes_25 fl_X5_16 rfl ?_
  rw [mM_0]
  refine ev_iconst (v := 1) dX5_takes_28 (by decide) ?_
  refine ev_icmp_ne_f 39 dX5_takes_29 (by decide) rfl ?_
  refine ev_ald0 dX5_takes_32 ?_
  refine ev_ild1 dX5_takes_33 ?_
  refine ev_ald2 dX5_takes_34 ?_
  refine ev_V2i (M' := mX5_takesPart) dX5_takes_35 lk_X5_33 vX5_takesPart rfl (c_partX d S _ _ H hg hd h5 h4 h86 h68 h83 L) (Nat.le_refl _) (Nat.le_of_ble_eq_true rfl) ?_
  refine ev_zret dX5_takes_38 ?_ ?_
  · rfl
  · exact ⟨_, rfl, rfl, rfl, rfl⟩
theorem nI_m9 {k : Nat} (h : k < 100) : ¬ nI k = -9 := by
  have : ∀ k, k < 100 → ¬ nI k = -9 := by decide +kernel
  exact this k h
/-! ===== the text, part by part ===== -/
def okd (f : Nat → Int32) (len q : Nat) : Bool := decide (q < len ∧ ¬ f q < 48 ∧ ¬ 57 < f q)
def dv (f : Nat → Int32) (q : Nat) : Int32 := f q - 48
def sCan (H : Hd) (x : Int32) : Bool := p_can H.1 H.2.1 H.2.2.2.2.2.2.2 x
def pz (f : Nat → Int32) (len : Nat) : Nat → Nat → Nat → Nat → Hd → Int32 × Hd
  | 0, _, _, _, H => (-9, H)
  | n + 1, p, ng, nd, H =>
    if len ≤ p then (-9, H) else
    if f p = 86 ∧ ng < 5 then
      if okd f len (p + 1) = true ∧ ¬ dv f (p + 1) < 1 then
        if okd f len (p + 2) = true ∧ ¬ dv f (p + 1) < dv f (p + 2) then
          if okd f len (p + 3) = true ∧ dv f (p + 3) ≤ 3 then pz f len n (p + 4) (ng + 1) nd (hAG H ng (dv f (p + 1)) (dv f (p + 2)) (dv f (p + 3)))
          else (nI (p + 3), H)
        else (nI (p + 2), H)
      else (nI (p + 1), H)
    else if f p = 68 ∧ nd < 4 then
      if okd f len (p + 1) = true then
        if okd f len (p + 2) = true ∧ dv f (p + 2) ≤ 3 then pz f len n (p + 3) ng (nd + 1) (hAD H nd (dv f (p + 1)) (dv f (p + 2)))
        else (nI (p + 2), H)
      else (nI (p + 1), H)
    else if f p = 83 ∧ anyB (fun i => sCan H (nI i)) nd = true then
      if okd f len (p + 1) = true ∧ sCan H (dv f (p + 1)) = true then
        if okd f len (p + 2) = true ∧ (p_seat H (dv f (p + 1)) (dv f (p + 2))).1 = true then pz f len n (p + 3) ng nd (p_seat H (dv f (p + 1)) (dv f (p + 2))).2
        else (nI (p + 2), H)
      else (nI (p + 1), H)
    else (nI p, H)
def zRd (S : gx_S) (R : Int32 × Hd) (L : gx_L) : Option Value → gx_S → gx_L → Prop := fun v S' L' => ∃ r : Int32, v = some (.int r) ∧ r = R.1 ∧ (∃ (a b c : Int32) (H' : Hd), S' = mM S a b c H' ∧ zH H' ∧ (r = -9 → H' = R.2)) ∧ L' = L
theorem zH_AG {H : Hd} {ng : Nat} (h : zH H) (hn : ng < 5) (m e k : Int32) : zH (hAG H ng m e k) := ⟨fun j hj => ⟨(upd_ne _ _ (by omega)).trans (h.1 j hj).1, (upd_ne _ _ (by omega)).trans (h.1 j hj).2.1, (upd_ne _ _ (by omega)).trans (h.1 j hj).2.2⟩, h.2⟩
theorem zH_AD {H : Hd} {nd : Nat} (h : zH H) (hn : nd < 4) (t k : Int32) : zH (hAD H nd t k) := ⟨h.1, fun j hj => ⟨(upd_ne _ _ (by omega)).trans (h.2 j hj).1, (upd_ne _ _ (by omega)).trans (h.2 j hj).2.1, (h.2 j hj).2.2⟩⟩
theorem zH_seat {H : Hd} {nd : Nat} (h : zH H) (hd : H.2.1 = nI nd) (h4 : nd ≤ 4) (b x : Int32) : zH (p_seat H b x).2 := by
  unfold p_seat
  split
  · rename_i h1
    split
    · split
      · exact h
      · obtain ⟨j, hj, rfl, ej⟩ := isG_of (by omega) (hd ▸ h1)
        exact ⟨h.1, fun i hi => ⟨(h.2 i hi).1, (h.2 i hi).2.1, (upd_ne _ _ (by rw [ej]; omega)).trans (h.2 i hi).2.2⟩⟩
    · exact h
  · exact h
theorem seat_gd (H : Hd) (b x : Int32) : (p_seat H b x).2.1 = H.1 ∧ (p_seat H b x).2.2.1 = H.2.1 := by
  unfold p_seat
  split
  · split
    · split
      · exact ⟨rfl, rfl⟩
      · exact ⟨rfl, rfl⟩
    · exact ⟨rfl, rfl⟩
  · exact ⟨rfl, rfl⟩
set_option maxRecDepth 10000 in
theorem it_end (d : Nat) (S : gx_S) {len : Nat} (hlen : S 1 1 = nI len) (h60 : len ≤ 60) (L : gx_L) (R : Int32 × Hd) {q : Nat} (hq : q = len) (a b c : Int32) (H : Hd) (hz : zH H) (h1 : a = 1 → R = (-9, H)) (h2 : ¬ a = 1 → R.1 = nI q) : Ev mX5_read (d + 5) 11 [some (.ref 3), some (.ref 1), some (.ref 4), some (.int (nI q))] [] (mM S a b c H) L (zRd S R L) := by
  subst hq
  have e1 : mM S a b c H 1 1 = nI q := by rw [mM_o S a b c H (by decide)]; exact hlen
  refine ev_ild3 dX5_read_11 ?_
  refine ev_ald1 dX5_read_12 ?_
  refine ev_geti dX5_read_13 fl_X5_20 rfl ?_
  refine ev_icmp_ge_t 47 dX5_read_16 (by decide) (by rw [e1]; exact nI_le (Nat.le_refl _) (by omega)) ?_
  refine ev_ald0 dX5_read_47 ?_
  refine ev_geti dX5_read_48 fl_X5_16 rfl ?_
  rw [mM_0]
  refine ev_iconst (v := 1) dX5_read_51 (by decide) ?_
  refine ev_icmp_ne 60 dX5_read_52 (by decide) (fun c_52 => ?_) (fun c_52 => ?_)
  · refine ev_ald1 dX5_read_60 ?_
    refine ev_geti dX5_read_61 fl_X5_20 rfl ?_
    rw [e1]
    refine ev_iret dX5_read_64 ?_
    exact ⟨_, rfl, (h2 c_52).symm, ⟨a, b, c, H, rfl, hz, fun h9 => absurd h9 (nI_m9 (by omega))⟩, rfl⟩
  · refine ev_bipush (v := (-9)) dX5_read_55 (by decide) ?_
    refine ev_goto 64 dX5_read_57 (by decide) ?_
    refine ev_iret dX5_read_64 ?_
    exact ⟨_, rfl, by rw [h1 c_52], ⟨a, b, c, H, rfl, hz, fun _ => by rw [h1 c_52]⟩, rfl⟩
set_option maxRecDepth 10000 in
theorem it_step (d : Nat) (S : gx_S) {len : Nat} (hlen : S 1 1 = nI len) (h60 : len ≤ 60) (L : gx_L) (R : Int32 × Hd) {q : Nat} (hq : q < len) (a b c : Int32) (H : Hd) {r : Int32} {M' : gx_S} (hct : Cf (d + 4) mX5_takes [.ref 3, .int (S 2 q), .ref 4] (mM S a b c H) L r M' L) (h0 : r = 0 → zRd S R L (some (.int (nI q))) M' L) (h1 : ¬ r = 0 → Ev mX5_read (d + 5) 11 [some (.ref 3), some (.ref 1), some (.ref 4), some (.int (nI (q + 1)))] [] M' L (zRd S R L)) : Ev mX5_read (d + 5) 11 [some (.ref 3), some (.ref 1), some (.ref 4), some (.int (nI q))] [] (mM S a b c H) L (zRd S R L) := by
  have e1 : mM S a b c H 1 1 = nI len := by rw [mM_o S a b c H (by decide)]; exact hlen
  have e2 : mM S a b c H 2 = S 2 := mM_o S a b c H (by decide)
  refine ev_ild3 dX5_read_11 ?_
  refine ev_ald1 dX5_read_12 ?_
  refine ev_geti dX5_read_13 fl_X5_20 rfl ?_
  refine ev_icmp_ge_f 47 dX5_read_16 (by decide) (by rw [e1]; exact nI_ge hq (by omega)) ?_
  refine ev_ild3 dX5_read_19 ?_
  refine ev_bipush (v := 60) dX5_read_20 (by decide) ?_
  refine ev_icmp_ge_f 47 dX5_read_22 (by decide) (nI_ge (b := 60) (by omega) (by decide)) ?_
  refine ev_ald0 dX5_read_25 ?_
  refine ev_ald1 dX5_read_26 ?_
  refine ev_getr (r := 2) dX5_read_27 fl_X5_25 rfl ?_
  refine ev_ild3 dX5_read_30 ?_
  refine ev_iald' dX5_read_31 rfl (by omega) (by decide) ?_
  rw [e2]
  refine ev_ald2 dX5_read_32 ?_
  refine ev_V2i (M' := mX5_takes) dX5_read_33 lk_X5_29 vX5_takes rfl (hct) (Nat.le_refl _) (Nat.le_of_ble_eq_true rfl) ?_
  refine ev_if_ne 41 dX5_read_36 (by decide) (fun c_36 => ?_) (fun c_36 => ?_)
  · refine ev_inc3 dX5_read_41 (nI_inc _) ?_
    refine ev_goto 11 dX5_read_44 (by decide) ?_
    exact h1 c_36
  · refine ev_ild3 dX5_read_39 ?_
    refine ev_iret dX5_read_40 ?_
    exact h0 c_36
/-- a letter where a figure is awaited (a: 2 to 8), and none comes: the fault is there -/
theorem it_bad (d : Nat) (S : gx_S) {len : Nat} (hlen : S 1 1 = nI len) (h60 : len ≤ 60) (L : gx_L) (R : Int32 × Hd) {q : Nat} (hq : q ≤ len) (hk : okd (S 2) len q = false) (a b c : Int32) (ha : ¬ a = 1) (H : Hd) (hz : zH H) (hR : R.1 = nI q) (hct : ∀ x : Int32, (x < 48 ∨ 57 < x) → Cf (d + 4) mX5_takes [.ref 3, .int x, .ref 4] (mM S a b c H) L 0 (mM S a b c H) L) : Ev mX5_read (d + 5) 11 [some (.ref 3), some (.ref 1), some (.ref 4), some (.int (nI q))] [] (mM S a b c H) L (zRd S R L) := by
  rcases Nat.lt_or_ge q len with h | h
  · have hx : S 2 q < 48 ∨ 57 < S 2 q := by
      have h1 := of_decide_eq_false hk
      rcases Decidable.em (S 2 q < 48) with h2 | h2
      · exact Or.inl h2
      · rcases Decidable.em (57 < S 2 q) with h3 | h3
        · exact Or.inr h3
        · exact absurd ⟨h, h2, h3⟩ h1
    exact it_step d S hlen h60 L R h a b c H (hct _ hx) (fun _ => ⟨_, rfl, hR.symm, ⟨a, b, c, H, rfl, hz, fun h9 => absurd h9 (nI_m9 (by omega))⟩, rfl⟩) (fun h9 => absurd rfl h9)
  · exact it_end d S hlen h60 L R (by omega) a b c H hz (fun h9 => absurd h9 ha) (fun _ => hR)
/-- a figure that is refused: the fault is there -/
theorem it_no (d : Nat) (S : gx_S) {len : Nat} (hlen : S 1 1 = nI len) (h60 : len ≤ 60) (L : gx_L) (R : Int32 × Hd) {q : Nat} (hq : q < len) (a b c : Int32) (H : Hd) (hR : R.1 = nI q) {a' b' c' : Int32} {H' : Hd} (hz : zH H') (hct : Cf (d + 4) mX5_takes [.ref 3, .int (S 2 q), .ref 4] (mM S a b c H) L 0 (mM S a' b' c' H') L) : Ev mX5_read (d + 5) 11 [some (.ref 3), some (.ref 1), some (.ref 4), some (.int (nI q))] [] (mM S a b c H) L (zRd S R L) := by
  exact it_step d S hlen h60 L R hq a b c H hct (fun _ => ⟨_, rfl, hR.symm, ⟨a', b', c', H', rfl, hz, fun h9 => absurd h9 (nI_m9 (by omega))⟩, rfl⟩) (fun h9 => absurd rfl h9)
theorem it_yes (d : Nat) (S : gx_S) {len : Nat} (hlen : S 1 1 = nI len) (h60 : len ≤ 60) (L : gx_L) (R : Int32 × Hd) {q : Nat} (hq : q < len) (a b c : Int32) (H : Hd) {M' : gx_S} (hct : Cf (d + 4) mX5_takes [.ref 3, .int (S 2 q), .ref 4] (mM S a b c H) L 1 M' L) (kk : Ev mX5_read (d + 5) 11 [some (.ref 3), some (.ref 1), some (.ref 4), some (.int (nI (q + 1)))] [] M' L (zRd S R L)) : Ev mX5_read (d + 5) 11 [some (.ref 3), some (.ref 1), some (.ref 4), some (.int (nI q))] [] (mM S a b c H) L (zRd S R L) :=
  it_step d S hlen h60 L R hq a b c H hct (fun h9 => absurd h9 (by decide)) (fun _ => kk)
theorem Cf_r {d : Nat} {M : gx_M} {av : List Value} {S S' S'' : gx_S} {L L' : gx_L} {r r' : Int32} (h : Cf d M av S L r S' L') (e : r = r') (e2 : S' = S'') : Cf d M av S L r' S'' L' := by
  subst e e2
  exact h
theorem okd_spec {f : Nat → Int32} {len q : Nat} (h : okd f len q = true) : q < len ∧ ¬ f q < 48 ∧ ¬ 57 < f q := of_decide_eq_true h
set_option maxRecDepth 10000 in
theorem l_read (d : Nat) (S : gx_S) {len : Nat} (hlen : S 1 1 = nI len) (h60 : len ≤ 60) (L : gx_L) (R : Int32 × Hd) : ∀ (n p ng nd : Nat) (H : Hd) (b c : Int32), H.1 = nI ng → H.2.1 = nI nd → ng ≤ 5 → nd ≤ 4 → zH H → p ≤ len → len ≤ p + n → pz (S 2) len (n + 1) p ng nd H = R → Ev mX5_read (d + 5) 11 [some (.ref 3), some (.ref 1), some (.ref 4), some (.int (nI p))] [] (mM S 1 b c H) L (zRd S R L) := by
  intro n
  induction n with
  | zero =>
    intro p ng nd H b c hg hd h5 h4 hz hp hn hR
    have e : R = (-9, H) := hR.symm.trans (if_pos (by omega))
    exact it_end d S hlen h60 L R (by omega) 1 b c H hz (fun _ => e) (fun h9 => absurd rfl h9)
  | succ n ih =>
    intro p ng nd H b c hg hd h5 h4 hz hp hn hR
    rcases Nat.lt_or_ge p len with hlt | hge
    · unfold pz at hR
      rw [if_neg (by omega)] at hR
      rcases Decidable.em (S 2 p = 86) with e86 | e86
      · rcases Nat.lt_or_ge ng 5 with hn5 | hn5
        · rw [if_pos ⟨e86, hn5⟩] at hR
          refine it_yes d S hlen h60 L R hlt 1 b c H (Cf_r (e86 ▸ c_tkV d S b c H hg hd h5 h4 L) (by rw [decide_eq_true (show ¬ 5 ≤ H.1 from hg ▸ nI_ge (b := 5) hn5 (by decide))]; rfl) rfl) ?_
          rcases Decidable.em (okd (S 2) len (p + 1) = true) with hk | hk
          · obtain ⟨k1, k2, k3⟩ := okd_spec hk
            have t1 := c_tk2 d S b c H hg hd h5 h4 (S 2 (p + 1)) k2 k3 L
            rcases Decidable.em (dv (S 2) (p + 1) < 1) with hv | hv
            · rw [if_neg (fun h9 => h9.2 hv)] at hR
              exact it_no d S hlen h60 L R k1 2 b c H (by rw [← hR]) hz (Cf_r t1 (by rw [decide_eq_false (fun h9 => h9 hv)]; rfl) rfl)
            · rw [if_pos ⟨hk, hv⟩] at hR
              refine it_yes d S hlen h60 L R k1 2 b c H (Cf_r t1 (by rw [decide_eq_true (show ¬ S 2 (p + 1) - 48 < 1 from hv)]; rfl) rfl) ?_
              rcases Decidable.em (okd (S 2) len (p + 2) = true) with hj | hj
              · obtain ⟨j1, j2, j3⟩ := okd_spec hj
                have t2 := c_tk3 d S (dv (S 2) (p + 1)) c H hg hd h5 h4 (S 2 (p + 2)) j2 j3 L
                rcases Decidable.em (dv (S 2) (p + 1) < dv (S 2) (p + 2)) with hw | hw
                · rw [if_neg (fun h9 => h9.2 hw)] at hR
                  exact it_no d S hlen h60 L R j1 3 _ c H (by rw [← hR]) hz (Cf_r t2 (by rw [decide_eq_false (fun h9 => h9 hw)]; rfl) rfl)
                · rw [if_pos ⟨hj, hw⟩] at hR
                  refine it_yes d S hlen h60 L R j1 3 _ c H (Cf_r t2 (by rw [decide_eq_true (show ¬ dv (S 2) (p + 1) < S 2 (p + 2) - 48 from hw)]; rfl) rfl) ?_
                  rcases Decidable.em (okd (S 2) len (p + 3) = true) with hi | hi
                  · obtain ⟨i1, i2, i3⟩ := okd_spec hi
                    have t3 := c_tk4 d S (dv (S 2) (p + 1)) (dv (S 2) (p + 2)) H hg hd h5 h4 (S 2 (p + 3)) i2 i3 L hn5
                    rcases Decidable.em (dv (S 2) (p + 3) ≤ 3) with hu | hu
                    · rw [if_pos ⟨hi, hu⟩] at hR
                      refine it_yes d S hlen h60 L R i1 4 _ _ H (Cf_r t3 (by rw [decide_eq_true (show S 2 (p + 3) - 48 ≤ 3 from hu)]; rfl) (by rw [if_pos (show S 2 (p + 3) - 48 ≤ 3 from hu)])) ?_
                      exact ih (p + 4) (ng + 1) nd _ _ _ rfl hd (by omega) h4 (zH_AG hz hn5 _ _ _) (by omega) (by omega) hR
                    · rw [if_neg (fun h9 => hu h9.2)] at hR
                      exact it_no d S hlen h60 L R i1 4 _ _ H (by rw [← hR]) hz (Cf_r t3 (by rw [decide_eq_false (show ¬ S 2 (p + 3) - 48 ≤ 3 from hu)]; rfl) (by rw [if_neg (show ¬ S 2 (p + 3) - 48 ≤ 3 from hu)]))
                  · rw [if_neg (fun h9 => hi h9.1)] at hR
                    exact it_bad d S hlen h60 L R (q := p + 3) (by omega) (Bool.eq_false_iff.mpr hi) 4 _ _ (by decide) H hz (by rw [← hR]) (fun x hx => c_tn4 d S _ _ H hg hd h5 h4 x hx L)
              · rw [if_neg (fun h9 => hj h9.1)] at hR
                exact it_bad d S hlen h60 L R (q := p + 2) (by omega) (Bool.eq_false_iff.mpr hj) 3 _ _ (by decide) H hz (by rw [← hR]) (fun x hx => c_tn3 d S _ _ H hg hd h5 h4 x hx L)
          · rw [if_neg (fun h9 => hk h9.1)] at hR
            exact it_bad d S hlen h60 L R (q := p + 1) (by omega) (Bool.eq_false_iff.mpr hk) 2 _ _ (by decide) H hz (by rw [← hR]) (fun x hx => c_tn2 d S _ _ H hg hd h5 h4 x hx L)
        · have n68 : ¬ S 2 p = 68 := fun h9 => absurd (e86.symm.trans h9) (by decide)
          have n83 : ¬ S 2 p = 83 := fun h9 => absurd (e86.symm.trans h9) (by decide)
          rw [if_neg (fun h9 => absurd h9.2 (by omega)), if_neg (fun h9 => n68 h9.1), if_neg (fun h9 => n83 h9.1)] at hR
          exact it_no d S hlen h60 L R hlt 1 b c H (by rw [← hR]) hz (Cf_r (e86 ▸ c_tkV d S b c H hg hd h5 h4 L) (by rw [decide_eq_false (fun h9 => h9 (hg ▸ nI_le (a := 5) (by omega) (by omega)))]; rfl) rfl)
      · rw [if_neg (fun h9 => e86 h9.1)] at hR
        rcases Decidable.em (S 2 p = 68) with e68 | e68
        · rcases Nat.lt_or_ge nd 4 with hn4 | hn4
          · rw [if_pos ⟨e68, hn4⟩] at hR
            refine it_yes d S hlen h60 L R hlt 1 b c H (Cf_r (e68 ▸ c_tkD d S b c H hg hd h5 h4 L) (by rw [decide_eq_true (show ¬ 4 ≤ H.2.1 from hd ▸ nI_ge (b := 4) hn4 (by decide))]; rfl) rfl) ?_
            rcases Decidable.em (okd (S 2) len (p + 1) = true) with hk | hk
            · obtain ⟨k1, k2, k3⟩ := okd_spec hk
              rw [if_pos hk] at hR
              refine it_yes d S hlen h60 L R k1 5 b c H (c_tk5 d S b c H hg hd h5 h4 (S 2 (p + 1)) k2 k3 L) ?_
              rcases Decidable.em (okd (S 2) len (p + 2) = true) with hi | hi
              · obtain ⟨i1, i2, i3⟩ := okd_spec hi
                have t3 := c_tk6 d S (dv (S 2) (p + 1)) c H hg hd h5 h4 (S 2 (p + 2)) i2 i3 L hn4
                rcases Decidable.em (dv (S 2) (p + 2) ≤ 3) with hu | hu
                · rw [if_pos ⟨hi, hu⟩] at hR
                  refine it_yes d S hlen h60 L R i1 6 _ _ H (Cf_r t3 (by rw [decide_eq_true (show S 2 (p + 2) - 48 ≤ 3 from hu)]; rfl) (by rw [if_pos (show S 2 (p + 2) - 48 ≤ 3 from hu)])) ?_
                  exact ih (p + 3) ng (nd + 1) _ _ _ hg rfl h5 (by omega) (zH_AD hz hn4 _ _) (by omega) (by omega) hR
                · rw [if_neg (fun h9 => hu h9.2)] at hR
                  exact it_no d S hlen h60 L R i1 6 _ _ H (by rw [← hR]) hz (Cf_r t3 (by rw [decide_eq_false (show ¬ S 2 (p + 2) - 48 ≤ 3 from hu)]; rfl) (by rw [if_neg (show ¬ S 2 (p + 2) - 48 ≤ 3 from hu)]))
              · rw [if_neg (fun h9 => hi h9.1)] at hR
                exact it_bad d S hlen h60 L R (q := p + 2) (by omega) (Bool.eq_false_iff.mpr hi) 6 _ _ (by decide) H hz (by rw [← hR]) (fun x hx => c_tn6 d S _ _ H hg hd h5 h4 x hx L)
            · rw [if_neg hk] at hR
              exact it_bad d S hlen h60 L R (q := p + 1) (by omega) (Bool.eq_false_iff.mpr hk) 5 _ _ (by decide) H hz (by rw [← hR]) (fun x hx => c_tn5 d S _ _ H hg hd h5 h4 x hx L)
          · have n83 : ¬ S 2 p = 83 := fun h9 => absurd (e68.symm.trans h9) (by decide)
            rw [if_neg (fun h9 => absurd h9.2 (by omega)), if_neg (fun h9 => n83 h9.1)] at hR
            exact it_no d S hlen h60 L R hlt 1 b c H (by rw [← hR]) hz (Cf_r (e68 ▸ c_tkD d S b c H hg hd h5 h4 L) (by rw [decide_eq_false (fun h9 => h9 (hd ▸ nI_le (a := 4) (by omega) (by omega)))]; rfl) rfl)
        · rw [if_neg (fun h9 => e68 h9.1)] at hR
          rcases Decidable.em (S 2 p = 83) with e83 | e83
          · rcases Decidable.em (anyB (fun i => sCan H (nI i)) nd = true) with hc | hc
            · rw [if_pos ⟨e83, hc⟩] at hR
              refine it_yes d S hlen h60 L R hlt 1 b c H (Cf_r (e83 ▸ c_tkS d S b c H hg hd h5 h4 L) (by rw [show anyB (fun i => p_can H.1 H.2.1 H.2.2.2.2.2.2.2 (nI i)) nd = true from hc]; rfl) rfl) ?_
              rcases Decidable.em (okd (S 2) len (p + 1) = true) with hk | hk
              · obtain ⟨k1, k2, k3⟩ := okd_spec hk
                have t1 := c_tk7 d S b c H hg hd h5 h4 (S 2 (p + 1)) k2 k3 L
                rcases Decidable.em (sCan H (dv (S 2) (p + 1)) = true) with hv | hv
                · rw [if_pos ⟨hk, hv⟩] at hR
                  refine it_yes d S hlen h60 L R k1 7 b c H (Cf_r t1 (by rw [show p_can H.1 H.2.1 H.2.2.2.2.2.2.2 (S 2 (p + 1) - 48) = true from hv]; rfl) rfl) ?_
                  rcases Decidable.em (okd (S 2) len (p + 2) = true) with hi | hi
                  · obtain ⟨i1, i2, i3⟩ := okd_spec hi
                    have t3 := c_tk8 d S (dv (S 2) (p + 1)) c H hg hd h5 h4 (S 2 (p + 2)) i2 i3 L
                    have sg := seat_gd H (dv (S 2) (p + 1)) (dv (S 2) (p + 2))
                    rcases Decidable.em ((p_seat H (dv (S 2) (p + 1)) (dv (S 2) (p + 2))).1 = true) with hu | hu
                    · rw [if_pos ⟨hi, hu⟩] at hR
                      refine it_yes d S hlen h60 L R i1 8 _ _ H (Cf_r t3 (by rw [show (p_seat H (dv (S 2) (p + 1)) (S 2 (p + 2) - 48)).1 = true from hu]; rfl) rfl) ?_
                      exact ih (p + 3) ng nd _ _ _ (sg.1.trans hg) (sg.2.trans hd) h5 h4 (zH_seat hz hd h4 _ _) (by omega) (by omega) hR
                    · rw [if_neg (fun h9 => hu h9.2)] at hR
                      exact it_no d S hlen h60 L R i1 8 _ _ H (by rw [← hR]) (zH_seat hz hd h4 _ _) (Cf_r t3 (by rw [show (p_seat H (dv (S 2) (p + 1)) (S 2 (p + 2) - 48)).1 = false from Bool.eq_false_iff.mpr hu]; rfl) rfl)
                  · rw [if_neg (fun h9 => hi h9.1)] at hR
                    exact it_bad d S hlen h60 L R (q := p + 2) (by omega) (Bool.eq_false_iff.mpr hi) 8 _ _ (by decide) H hz (by rw [← hR]) (fun x hx => c_tn8 d S _ _ H hg hd h5 h4 x hx L)
                · rw [if_neg (fun h9 => hv h9.2)] at hR
                  exact it_no d S hlen h60 L R k1 7 b c H (by rw [← hR]) hz (Cf_r t1 (by rw [show p_can H.1 H.2.1 H.2.2.2.2.2.2.2 (S 2 (p + 1) - 48) = false from Bool.eq_false_iff.mpr hv]; rfl) rfl)
              · rw [if_neg (fun h9 => hk h9.1)] at hR
                exact it_bad d S hlen h60 L R (q := p + 1) (by omega) (Bool.eq_false_iff.mpr hk) 7 _ _ (by decide) H hz (by rw [← hR]) (fun x hx => c_tn7 d S _ _ H hg hd h5 h4 x hx L)
            · rw [if_neg (fun h9 => hc h9.2)] at hR
              exact it_no d S hlen h60 L R hlt 1 b c H (by rw [← hR]) hz (Cf_r (e83 ▸ c_tkS d S b c H hg hd h5 h4 L) (by rw [show anyB (fun i => p_can H.1 H.2.1 H.2.2.2.2.2.2.2 (nI i)) nd = false from Bool.eq_false_iff.mpr hc]; rfl) rfl)
          · rw [if_neg (fun h9 => e83 h9.1)] at hR
            exact it_no d S hlen h60 L R hlt 1 b c H (by rw [← hR]) hz (c_tkX d S b c H hg hd h5 h4 e86 e68 e83 L)
    · have e : R = (-9, H) := hR.symm.trans (if_pos hge)
      exact it_end d S hlen h60 L R (by omega) 1 b c H hz (fun _ => e) (fun h9 => absurd rfl h9)
