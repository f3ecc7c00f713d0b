/-! ===== the reference: its table of two levels, cell 49 ===== -/
def nS (S : gx_S) (lv : Nat) (T : Tb) : gx_S := gx_up S 49 (layF (S 49) lv T)
theorem nS_o (S : gx_S) (lv : Nat) (T : Tb) {i : Nat} (h : i ≠ 49) : nS S lv T i = S i := gx_up_ne S _ h
theorem nS_r (S : gx_S) (lv : Nat) (T : Tb) {j : Nat} (h : j < 15) : nS S lv T 49 (15 * lv + j) = flT T j := by
  unfold nS
  rw [gx_up_at]
  unfold layF
  rw [if_pos (by omega)]
  congr 1
  omega
theorem nS_c (S : gx_S) (lv : Nat) (T : Tb) {g : Nat} (h : g < 5) : nS S lv T 49 (15 * lv + g) = T.1 g := (nS_r S lv T (by omega)).trans (if_pos h)
theorem nS_a (S : gx_S) (lv : Nat) (T : Tb) {g : Nat} (h : g < 5) : nS S lv T 49 (15 * lv + 5 + g) = T.2.1 g := by
  rw [Nat.add_assoc, nS_r S lv T (by omega)]
  unfold flT
  rw [if_neg (by omega), if_pos (by omega), show 5 + g - 5 = g by omega]
theorem nS_t (S : gx_S) (lv : Nat) (T : Tb) {g : Nat} (h : g < 4) : nS S lv T 49 (15 * lv + 10 + g) = T.2.2.1 g := by
  rw [Nat.add_assoc, nS_r S lv T (by omega)]
  unfold flT
  rw [if_neg (by omega), if_neg (by omega), if_pos (by omega), show 10 + g - 10 = g by omega]
theorem nS_h (S : gx_S) (lv : Nat) (T : Tb) : nS S lv T 49 (15 * lv + 14) = T.2.2.2 := by
  rw [nS_r S lv T (by omega)]
  unfold flT
  rw [if_neg (by omega), if_neg (by omega), if_neg (by omega)]
theorem nS_up (S : gx_S) (lv : Nat) (T T' : Tb) (k : Nat) (x : Int32) (hk : k < 15) (h : ∀ j, j < 15 → flT T' j = if j = k then x else flT T j) : gx_u2 (nS S lv T) 49 (15 * lv + k) x = nS S lv T' := by
  unfold gx_u2 nS
  rw [gx_up_at, up_up]
  congr 1
  funext j
  unfold upd layF
  by_cases h1 : 15 * lv ≤ j ∧ j < 15 * lv + 15
  · rw [if_pos h1, if_pos h1, h _ (by omega)]
    by_cases h2 : j = 15 * lv + k
    · rw [if_pos h2, if_pos (by omega)]
    · rw [if_neg h2, if_neg (by omega)]
  · rw [if_neg h1, if_neg h1, if_neg (by omega)]
theorem nS_uc (S : gx_S) (lv : Nat) (T : Tb) {g : Nat} (h : g < 5) (x : Int32) : gx_u2 (nS S lv T) 49 (15 * lv + g) x = nS S lv (upd T.1 g x, T.2) := by
  refine nS_up S lv T _ g x (by omega) (fun j hj => ?_)
  unfold flT upd
  dsimp only
  by_cases h1 : j < 5
  · rw [if_pos h1, if_pos h1]
  · rw [if_neg h1, if_neg h1, if_neg (show ¬ j = g by omega)]
theorem nS_ua (S : gx_S) (lv : Nat) (T : Tb) {g : Nat} (h : g < 5) (x : Int32) : gx_u2 (nS S lv T) 49 (15 * lv + 5 + g) x = nS S lv (T.1, upd T.2.1 g x, T.2.2) := by
  rw [Nat.add_assoc]
  refine nS_up S lv T _ (5 + g) x (by omega) (fun j hj => ?_)
  unfold flT upd
  dsimp only
  by_cases h1 : j < 5
  · rw [if_pos h1, if_pos h1, if_neg (show ¬ j = 5 + g by omega)]
  · by_cases h2 : j < 10
    · rw [if_neg h1, if_neg h1, if_pos h2, if_pos h2]
      by_cases h3 : j = 5 + g
      · rw [if_pos h3, if_pos (show j - 5 = g by omega)]
      · rw [if_neg h3, if_neg (show ¬ j - 5 = g by omega)]
    · rw [if_neg h1, if_neg h1, if_neg h2, if_neg h2, if_neg (show ¬ j = 5 + g by omega)]
theorem nS_ut (S : gx_S) (lv : Nat) (T : Tb) {g : Nat} (h : g < 4) (x : Int32) : gx_u2 (nS S lv T) 49 (15 * lv + 10 + g) x = nS S lv (T.1, T.2.1, upd T.2.2.1 g x, T.2.2.2) := by
  rw [Nat.add_assoc]
  refine nS_up S lv T _ (10 + g) x (by omega) (fun j hj => ?_)
  unfold flT upd
  dsimp only
  by_cases h1 : j < 5
  · rw [if_pos h1, if_pos h1, if_neg (show ¬ j = 10 + g by omega)]
  · by_cases h2 : j < 10
    · rw [if_neg h1, if_neg h1, if_pos h2, if_pos h2, if_neg (show ¬ j = 10 + g by omega)]
    · by_cases h3 : j < 14
      · rw [if_neg h1, if_neg h1, if_neg h2, if_neg h2, if_pos h3, if_pos h3]
        by_cases h4 : j = 10 + g
        · rw [if_pos h4, if_pos (show j - 10 = g by omega)]
        · rw [if_neg h4, if_neg (show ¬ j - 10 = g by omega)]
      · rw [if_neg h1, if_neg h1, if_neg h2, if_neg h2, if_neg h3, if_neg h3, if_neg (show ¬ j = 10 + g by omega)]
theorem nS_uh (S : gx_S) (lv : Nat) (T : Tb) (x : Int32) : gx_u2 (nS S lv T) 49 (15 * lv + 14) x = nS S lv (T.1, T.2.1, T.2.2.1, x) := by
  refine nS_up S lv T _ 14 x (by omega) (fun j hj => ?_)
  unfold flT
  dsimp only
  by_cases h1 : j < 5
  · rw [if_pos h1, if_pos h1, if_neg (show ¬ j = 14 by omega)]
  · by_cases h2 : j < 10
    · rw [if_neg h1, if_neg h1, if_pos h2, if_pos h2, if_neg (show ¬ j = 14 by omega)]
    · by_cases h3 : j < 14
      · rw [if_neg h1, if_neg h1, if_neg h2, if_neg h2, if_pos h3, if_pos h3, if_neg (show ¬ j = 14 by omega)]
      · rw [if_neg h1, if_neg h1, if_neg h2, if_neg h2, if_neg h3, if_neg h3, if_pos (show j = 14 by omega)]
theorem lay_lay (f : Nat → Int32) (p : Nat) (T T' : Tb) : layF (layF f p T) p T' = layF f p T' := by
  funext j
  unfold layF
  split <;> rfl
theorem nS_nS (S : gx_S) (lv : Nat) (T T' : Tb) : nS (nS S lv T) lv T' = nS S lv T' := by
  unfold nS
  rw [gx_up_at, up_up, lay_lay]
/-- a level as a table -/
def mT (f : Nat → Int32) (lv : Nat) : Tb := (fun j => if j < 5 then f (15 * lv + j) else 0, fun j => if j < 5 then f (15 * lv + 5 + j) else 0, fun j => if j < 4 then f (15 * lv + 10 + j) else 0, f (15 * lv + 14))
theorem mT_z (f : Nat → Int32) (lv : Nat) : zT (mT f lv) := ⟨fun j hj => ⟨if_neg (by omega), if_neg (by omega)⟩, fun j hj => if_neg (by omega)⟩
theorem lay_mT (f : Nat → Int32) (lv : Nat) : layF f lv (mT f lv) = f := by
  funext j
  unfold layF
  split
  · rename_i h
    obtain ⟨i, rfl⟩ : ∃ i, j = 15 * lv + i := ⟨j - 15 * lv, by omega⟩
    rw [show 15 * lv + i - 15 * lv = i by omega]
    unfold flT mT
    dsimp only
    by_cases h1 : i < 5
    · rw [if_pos h1, if_pos h1]
    · by_cases h2 : i < 10
      · rw [if_neg h1, if_pos h2, if_pos (by omega)]
        congr 1
        omega
      · by_cases h3 : i < 14
        · rw [if_neg h1, if_neg h2, if_pos h3, if_pos (by omega)]
          congr 1
          omega
        · rw [if_neg h1, if_neg h2, if_neg h3]
          congr 1
          omega
  · rfl
theorem nS_mT (S : gx_S) (lv : Nat) : nS S lv (mT (S 49) lv) = S := by
  unfold nS
  rw [lay_mT, up_self]
theorem mT_nS (S : gx_S) (lv : Nat) {T : Tb} (hz : zT T) : mT (nS S lv T 49) lv = T := by
  obtain ⟨c, a, th, hr⟩ := T
  unfold mT
  refine Prod.ext ?_ (Prod.ext ?_ (Prod.ext ?_ (nS_h S lv _)))
  · funext j
    show (if j < 5 then _ else _) = c j
    split
    · rename_i h; exact nS_c S lv _ h
    · exact ((hz.1 j (by omega)).1).symm
  · funext j
    show (if j < 5 then _ else _) = a j
    split
    · rename_i h; exact nS_a S lv _ h
    · exact ((hz.1 j (by omega)).2).symm
  · funext j
    show (if j < 4 then _ else _) = th j
    split
    · rename_i h; exact nS_t S lv _ h
    · exact (hz.2 j (by omega)).symm
theorem ix2 (a b : Nat) : nI a + nI b = nI (a + b) := nI_add a b
theorem ix3 (a b c : Nat) : nI a + nI b + nI c = nI (a + b + c) := by rw [nI_add, nI_add]
theorem m15 (lv : Nat) : (15 : Int32) * nI lv = nI (15 * lv) := by rw [show (15 : Int32) = nI 15 from rfl, nI_mul]
theorem and1 (x : Int32) : x &&& 1 = 0 ∨ x &&& 1 = 1 := by
  have h : (x &&& 1).toBitVec.toNat = x.toBitVec.toNat % 2 := by
    rw [Int32.toBitVec_and]
    rw [BitVec.toNat_and]
    exact Nat.and_one_is_mod _
  rcases Nat.mod_two_eq_zero_or_one x.toBitVec.toNat with h0 | h0
  · left
    apply Int32.toBitVec_inj.mp
    apply BitVec.eq_of_toNat_eq
    rw [h, h0]
    rfl
  · right
    apply Int32.toBitVec_inj.mp
    apply BitVec.eq_of_toNat_eq
    rw [h, h0]
    rfl
theorem bt1 (b : Int32) (g : Nat) (hg : g < 32) : decide ((b >>> (nI g &&& 31)) &&& 1 = 1) = bt b g := by
  unfold bt
  rcases and1 (b >>> (nI g &&& 31)) with h | h
  · rw [h]; simp
  · rw [h]; simp [hg]
def inL (v a b : Int64) : Bool := decide (¬ v < a ∧ ¬ b < v)
set_option maxRecDepth 10000 in
theorem m_in (d : Nat) (v a b : Int64) (S : gx_S) (L : gx_L) : Cf d mX11_in [.long v, .long a, .long b] S L (gx_b (inL v a b)) S L := by
  refine ct_intro (loc := [some (.long v), none, some (.long a), none, some (.long b), none]) (by decide) (Nat.le_of_ble_eq_true rfl) rfl ?_
  refine ev_lld0 dX11_in_0 ?_
  refine ev_lld2 dX11_in_1 ?_
  refine ev_lcmp dX11_in_2 ?_
  refine ev_if_lt 17 dX11_in_3 (by decide) (fun c_3 => ?_) (fun c_3 => ?_)
  · refine ev_iconst (v := 0) dX11_in_17 (by decide) ?_
    refine ev_zret dX11_in_18 ?_ ?_
    · rfl
    · exact ⟨_, rfl, by rw [show inL v a b = false from decide_eq_false (fun h9 => h9.1 ((lg_cmp_lt v a).mp c_3))]; rfl, rfl, rfl⟩
  · refine ev_lld0 dX11_in_6 ?_
    refine ev_lld4 dX11_in_7 ?_
    refine ev_lcmp dX11_in_9 ?_
    refine ev_if_gt 17 dX11_in_10 (by decide) (fun c_10 => ?_) (fun c_10 => ?_)
    · refine ev_iconst (v := 0) dX11_in_17 (by decide) ?_
      refine ev_zret dX11_in_18 ?_ ?_
      · rfl
      · exact ⟨_, rfl, by rw [show inL v a b = false from decide_eq_false (fun h9 => h9.2 ((lg_cmp_gt v b).mp c_10))]; rfl, rfl, rfl⟩
    · refine ev_iconst (v := 1) dX11_in_13 (by decide) ?_
      refine ev_goto 18 dX11_in_14 (by decide) ?_
      refine ev_zret dX11_in_18 ?_ ?_
      · rfl
      · exact ⟨_, rfl, by rw [show inL v a b = true from decide_eq_true ⟨fun h9 => c_3 ((lg_cmp_lt v a).mpr h9), fun h9 => c_10 ((lg_cmp_gt v b).mpr h9)⟩]; rfl, rfl, rfl⟩
set_option maxRecDepth 10000 in
theorem m_has (d : Nat) (b : Int32) (g : Nat) (S : gx_S) (L : gx_L) (hg : g < 32 := by omega) : Cf d mX11_has [.int b, .int (nI g)] S L (gx_b (bt b g)) S L := by
  refine ct_intro (loc := [some (.int b), some (.int (nI g))]) (by decide) (Nat.le_of_ble_eq_true rfl) rfl ?_
  refine ev_ild0 dX11_has_0 ?_
  refine ev_ild1 dX11_has_1 ?_
  refine ev_ishr dX11_has_2 ?_
  refine ev_iconst (v := 1) dX11_has_3 (by decide) ?_
  refine ev_iand dX11_has_4 ?_
  refine ev_iconst (v := 1) dX11_has_5 (by decide) ?_
  refine ev_icmp_ne 13 dX11_has_6 (by decide) (fun c_6 => ?_) (fun c_6 => ?_)
  · refine ev_iconst (v := 0) dX11_has_13 (by decide) ?_
    refine ev_zret dX11_has_14 ?_ ?_
    · rfl
    · exact ⟨_, rfl, by rw [← bt1 b g hg, decide_eq_false c_6]; rfl, rfl, rfl⟩
  · refine ev_iconst (v := 1) dX11_has_9 (by decide) ?_
    refine ev_goto 14 dX11_has_10 (by decide) ?_
    refine ev_zret dX11_has_14 ?_ ?_
    · rfl
    · exact ⟨_, rfl, by rw [← bt1 b g hg, decide_eq_true c_6]; rfl, rfl, rfl⟩
theorem inL_G {n : Nat} (hn : n ≤ 5) (g : Int32) : inL g.toInt64 0 (nI n - 1).toInt64 = isG (nI n) g := by
  have e1 : (nI n - 1).toInt = (n : Int) - 1 := by
    have : ∀ n, n ≤ 5 → (nI n - 1).toInt = (n : Int) - 1 := by decide +kernel
    exact this n hn
  have e2 : (nI n).toInt = (n : Int) := nI_toInt (by omega)
  unfold inL isG
  rw [decide_eq_decide]
  rw [Int64.lt_iff_toInt_lt, Int64.lt_iff_toInt_lt, Int32.toInt_toInt64, Int32.toInt_toInt64, e1, Int32.lt_iff_toInt_lt, Int32.le_iff_toInt_le, e2]
  rw [show (0 : Int64).toInt = 0 from rfl, show (0 : Int32).toInt = 0 from rfl]
  omega
theorem inL_32 (g a b : Int32) : inL g.toInt64 a.toInt64 b.toInt64 = decide (¬ g < a ∧ ¬ b < g) := by
  unfold inL
  rw [decide_eq_decide, Int64.lt_iff_toInt_lt, Int64.lt_iff_toInt_lt, Int32.toInt_toInt64, Int32.toInt_toInt64, Int32.toInt_toInt64, Int32.lt_iff_toInt_lt, Int32.lt_iff_toInt_lt]
set_option maxRecDepth 10000 in
theorem m_isGlass (d : Nat) (S : gx_S) {n : Nat} (hn : S 44 0 = nI n) (h5 : n ≤ 5) (g : Int32) (L : gx_L) : Cf (d + 1) mX11_isGlass [.ref 44, .int g] S L (gx_b (isG (nI n) g)) S L := by
  refine ct_intro (loc := [some (.ref 44), some (.int g)]) (by decide) (Nat.le_of_ble_eq_true rfl) rfl ?_
  refine ev_ild1 dX11_isGlass_0 ?_
  refine ev_i2l dX11_isGlass_1 ?_
  refine ev_lconst (v := 0) dX11_isGlass_2 (by decide) ?_
  refine ev_ald0 dX11_isGlass_3 ?_
  refine ev_geti dX11_isGlass_4 fl_X11_56 rfl ?_
  rw [hn]
  refine ev_iconst (v := 1) dX11_isGlass_7 (by decide) ?_
  refine ev_isub dX11_isGlass_8 ?_
  refine ev_i2l dX11_isGlass_9 ?_
  refine ev_S3i (M' := mX11_in) dX11_isGlass_10 lk_X11_62 sX11_in (m_in d _ _ _ _ _) (Nat.le_refl _) (Nat.le_of_ble_eq_true rfl) ?_
  refine ev_zret dX11_isGlass_13 ?_ ?_
  · exact gx_b_nar _
  · exact ⟨_, rfl, by rw [← inL_G h5], rfl, rfl⟩
set_option maxRecDepth 10000 in
theorem m_isDrinker (d : Nat) (S : gx_S) {n : Nat} (hn : S 44 1 = nI n) (h5 : n ≤ 5) (g : Int32) (L : gx_L) : Cf (d + 1) mX11_isDrinker [.ref 44, .int g] S L (gx_b (isG (nI n) g)) S L := by
  refine ct_intro (loc := [some (.ref 44), some (.int g)]) (by decide) (Nat.le_of_ble_eq_true rfl) rfl ?_
  refine ev_ild1 dX11_isDrinker_0 ?_
  refine ev_i2l dX11_isDrinker_1 ?_
  refine ev_lconst (v := 0) dX11_isDrinker_2 (by decide) ?_
  refine ev_ald0 dX11_isDrinker_3 ?_
  refine ev_geti dX11_isDrinker_4 fl_X11_105 rfl ?_
  rw [hn]
  refine ev_iconst (v := 1) dX11_isDrinker_7 (by decide) ?_
  refine ev_isub dX11_isDrinker_8 ?_
  refine ev_i2l dX11_isDrinker_9 ?_
  refine ev_S3i (M' := mX11_in) dX11_isDrinker_10 lk_X11_62 sX11_in (m_in d _ _ _ _ _) (Nat.le_refl _) (Nat.le_of_ble_eq_true rfl) ?_
  refine ev_zret dX11_isDrinker_13 ?_ ?_
  · exact gx_b_nar _
  · exact ⟨_, rfl, by rw [← inL_G h5], rfl, rfl⟩
set_option maxRecDepth 10000 in
theorem m_drinks (d : Nat) (t c k : Int32) (hc : 0 ≤ c) (S : gx_S) (L : gx_L) : Cf d mX11_drinks [.int t, .int c, .int k] S L (p_gulp k t c) S L := by
  refine ct_intro (loc := [some (.int t), some (.int c), some (.int k), none]) (by decide) (Nat.le_of_ble_eq_true rfl) rfl ?_
  refine ev_ild2 dX11_drinks_0 ?_
  refine ev_iconst (v := 3) dX11_drinks_1 (by decide) ?_
  refine ev_icmp_ne 9 dX11_drinks_2 (by decide) (fun c_2 => ?_) (fun c_2 => ?_)
  · refine ev_ild2 dX11_drinks_9 ?_
    refine ev_iconst (v := 2) dX11_drinks_10 (by decide) ?_
    refine ev_icmp_ne 20 dX11_drinks_11 (by decide) (fun c_11 => ?_) (fun c_11 => ?_)
    · refine ev_ild2 dX11_drinks_20 ?_
      refine ev_iconst (v := 1) dX11_drinks_21 (by decide) ?_
      refine ev_icmp_ne 35 dX11_drinks_22 (by decide) (fun c_22 => ?_) (fun c_22 => ?_)
      · refine ev_ild1 dX11_drinks_35 ?_
        refine ev_ist3 dX11_drinks_36 ?_
        refine ev_ild0 dX11_drinks_37 ?_
        refine ev_ild3 dX11_drinks_38 ?_
        refine ev_icmp_ge 46 dX11_drinks_39 (by decide) (fun c_39 => ?_) (fun c_39 => ?_)
        · refine ev_ild3 dX11_drinks_46 ?_
          refine ev_iret dX11_drinks_47 ?_
          exact ⟨_, rfl, by first | (simp only [p_gulp, *]; done) | (simp [p_gulp, *]; done) | (simp_all [p_gulp]; done), rfl, rfl⟩
        · refine ev_ild0 dX11_drinks_42 ?_
          refine ev_goto 47 dX11_drinks_43 (by decide) ?_
          refine ev_iret dX11_drinks_47 ?_
          exact ⟨_, rfl, by first | (simp only [p_gulp, *]; done) | (simp [p_gulp, *]; done) | (simp_all [p_gulp]; done), rfl, rfl⟩
      · refine ev_ild1 dX11_drinks_25 ?_
        refine ev_if_le 35 dX11_drinks_26 (by decide) (fun c_26 => ?_) (fun c_26 => ?_)
        · refine ev_ild1 dX11_drinks_35 ?_
          refine ev_ist3 dX11_drinks_36 ?_
          refine ev_ild0 dX11_drinks_37 ?_
          refine ev_ild3 dX11_drinks_38 ?_
          refine ev_icmp_ge 46 dX11_drinks_39 (by decide) (fun c_39 => ?_) (fun c_39 => ?_)
          · refine ev_ild3 dX11_drinks_46 ?_
            refine ev_iret dX11_drinks_47 ?_
            exact ⟨_, rfl, by have hc0 : c = 0 := Int32.le_antisymm c_26 hc; subst hc0; first | (simp only [p_gulp, *]; done) | (simp [p_gulp, *]; done) | (simp_all [p_gulp]; done), rfl, rfl⟩
          · refine ev_ild0 dX11_drinks_42 ?_
            refine ev_goto 47 dX11_drinks_43 (by decide) ?_
            refine ev_iret dX11_drinks_47 ?_
            exact ⟨_, rfl, by have hc0 : c = 0 := Int32.le_antisymm c_26 hc; subst hc0; first | (simp only [p_gulp, *]; done) | (simp [p_gulp, *]; done) | (simp_all [p_gulp]; done), rfl, rfl⟩
        · refine ev_ild1 dX11_drinks_29 ?_
          refine ev_iconst (v := 1) dX11_drinks_30 (by decide) ?_
          refine ev_isub dX11_drinks_31 ?_
          refine ev_goto 36 dX11_drinks_32 (by decide) ?_
          refine ev_ist3 dX11_drinks_36 ?_
          refine ev_ild0 dX11_drinks_37 ?_
          refine ev_ild3 dX11_drinks_38 ?_
          refine ev_icmp_ge 46 dX11_drinks_39 (by decide) (fun c_39 => ?_) (fun c_39 => ?_)
          · refine ev_ild3 dX11_drinks_46 ?_
            refine ev_iret dX11_drinks_47 ?_
            exact ⟨_, rfl, by first | (simp only [p_gulp, *]; done) | (simp [p_gulp, *]; done) | (simp_all [p_gulp]; done), rfl, rfl⟩
          · refine ev_ild0 dX11_drinks_42 ?_
            refine ev_goto 47 dX11_drinks_43 (by decide) ?_
            refine ev_iret dX11_drinks_47 ?_
            exact ⟨_, rfl, by first | (simp only [p_gulp, *]; done) | (simp [p_gulp, *]; done) | (simp_all [p_gulp]; done), rfl, rfl⟩
    · refine ev_ild1 dX11_drinks_14 ?_
      refine ev_iconst (v := 2) dX11_drinks_15 (by decide) ?_
      refine ev_idiv dX11_drinks_16 (by decide) ?_
      refine ev_goto 36 dX11_drinks_17 (by decide) ?_
      refine ev_ist3 dX11_drinks_36 ?_
      refine ev_ild0 dX11_drinks_37 ?_
      refine ev_ild3 dX11_drinks_38 ?_
      refine ev_icmp_ge 46 dX11_drinks_39 (by decide) (fun c_39 => ?_) (fun c_39 => ?_)
      · refine ev_ild3 dX11_drinks_46 ?_
        refine ev_iret dX11_drinks_47 ?_
        exact ⟨_, rfl, by first | (simp only [p_gulp, *]; done) | (simp [p_gulp, *]; done) | (simp_all [p_gulp]; done), rfl, rfl⟩
      · refine ev_ild0 dX11_drinks_42 ?_
        refine ev_goto 47 dX11_drinks_43 (by decide) ?_
        refine ev_iret dX11_drinks_47 ?_
        exact ⟨_, rfl, by first | (simp only [p_gulp, *]; done) | (simp [p_gulp, *]; done) | (simp_all [p_gulp]; done), rfl, rfl⟩
  · refine ev_iconst (v := 0) dX11_drinks_5 (by decide) ?_
    refine ev_goto 36 dX11_drinks_6 (by decide) ?_
    refine ev_ist3 dX11_drinks_36 ?_
    refine ev_ild0 dX11_drinks_37 ?_
    refine ev_ild3 dX11_drinks_38 ?_
    refine ev_icmp_ge 46 dX11_drinks_39 (by decide) (fun c_39 => ?_) (fun c_39 => ?_)
    · refine ev_ild3 dX11_drinks_46 ?_
      refine ev_iret dX11_drinks_47 ?_
      exact ⟨_, rfl, by first | (simp only [p_gulp, *]; done) | (simp [p_gulp, *]; done) | (simp_all [p_gulp]; done), rfl, rfl⟩
    · refine ev_ild0 dX11_drinks_42 ?_
      refine ev_goto 47 dX11_drinks_43 (by decide) ?_
      refine ev_iret dX11_drinks_47 ?_
      exact ⟨_, rfl, by first | (simp only [p_gulp, *]; done) | (simp [p_gulp, *]; done) | (simp_all [p_gulp]; done), rfl, rfl⟩
set_option maxRecDepth 10000 in
theorem m_drinkOn (d : Nat) {lv dr g : Nat} (hl : lv ≤ 1) (hd : dr < 4) (hg : g < 5) (S : gx_S) (T : Tb) (hc : 0 ≤ T.1 g) (L : gx_L) : Cf (d + 1) mX11_drinkOn [.ref 44, .int (nI lv), .int (nI dr), .int (nI g)] (nS S lv T) L (p_sw (S 47) T dr g) (nS S lv (p_swT (S 47) T dr g)) L := by
  refine ct_intro (loc := [some (.ref 44), some (.int (nI lv)), some (.int (nI dr)), some (.int (nI g)), none, none]) (by decide) (Nat.le_of_ble_eq_true rfl) rfl ?_
  refine ev_bipush (v := 15) dX11_drinkOn_0 (by decide) ?_
  refine ev_ild1 dX11_drinkOn_2 ?_
  refine ev_imul dX11_drinkOn_3 ?_
  rw [m15]
  refine ev_ist4 dX11_drinkOn_4 ?_
  refine ev_ald0 dX11_drinkOn_6 ?_
  refine ev_getr (r := 49) dX11_drinkOn_7 fl_X11_22 rfl ?_
  refine ev_ild4 dX11_drinkOn_10 ?_
  refine ev_bipush (v := 10) dX11_drinkOn_12 (by decide) ?_
  refine ev_iadd dX11_drinkOn_14 ?_
  refine ev_ild2 dX11_drinkOn_15 ?_
  refine ev_iadd dX11_drinkOn_16 ?_
  refine ev_iald2 (j := 15 * lv + 10 + dr) dX11_drinkOn_17 rfl (ix3 _ 10 _) (by omega) (by first | decide | omega) ?_
  rw [nS_t S lv T hd]
  refine ev_ald0 dX11_drinkOn_18 ?_
  refine ev_getr (r := 49) dX11_drinkOn_19 fl_X11_22 rfl ?_
  refine ev_ild4 dX11_drinkOn_22 ?_
  refine ev_ild3 dX11_drinkOn_24 ?_
  refine ev_iadd dX11_drinkOn_25 ?_
  refine ev_iald2 (j := 15 * lv + g) dX11_drinkOn_26 rfl (ix2 _ _) (by omega) (by first | decide | omega) ?_
  rw [nS_c S lv T hg]
  refine ev_ald0 dX11_drinkOn_27 ?_
  refine ev_getr (r := 47) dX11_drinkOn_28 fl_X11_16 rfl ?_
  refine ev_ild2 dX11_drinkOn_31 ?_
  refine ev_iald' dX11_drinkOn_32 rfl (by omega) (by decide) ?_
  rw [nS_o S lv T (by decide)]
  refine ev_S3i (M' := mX11_drinks) dX11_drinkOn_33 lk_X11_111 sX11_drinks (m_drinks d _ _ _ hc _ _) (Nat.le_refl _) (Nat.le_of_ble_eq_true rfl) ?_
  refine ev_ist5 dX11_drinkOn_36 ?_
  refine ev_ald0 dX11_drinkOn_38 ?_
  refine ev_getr (r := 49) dX11_drinkOn_39 fl_X11_22 rfl ?_
  refine ev_ild4 dX11_drinkOn_42 ?_
  refine ev_ild3 dX11_drinkOn_44 ?_
  refine ev_iadd dX11_drinkOn_45 ?_
  refine ev_dup2 dX11_drinkOn_46 ?_
  refine ev_iald2 (j := 15 * lv + g) dX11_drinkOn_47 rfl (ix2 _ _) (by omega) (by first | decide | omega) ?_
  rw [nS_c S lv T hg]
  refine ev_ild5 dX11_drinkOn_48 ?_
  refine ev_isub dX11_drinkOn_50 ?_
  refine ev_iast2 (j := 15 * lv + g) dX11_drinkOn_51 rfl (ix2 _ _) (by omega) (by first | decide | omega) ?_
  rw [nS_uc S lv T hg]
  refine ev_ald0 dX11_drinkOn_52 ?_
  refine ev_getr (r := 49) dX11_drinkOn_53 fl_X11_22 rfl ?_
  refine ev_ild4 dX11_drinkOn_56 ?_
  refine ev_bipush (v := 10) dX11_drinkOn_58 (by decide) ?_
  refine ev_iadd dX11_drinkOn_60 ?_
  refine ev_ild2 dX11_drinkOn_61 ?_
  refine ev_iadd dX11_drinkOn_62 ?_
  refine ev_dup2 dX11_drinkOn_63 ?_
  refine ev_iald2 (j := 15 * lv + 10 + dr) dX11_drinkOn_64 rfl (ix3 _ 10 _) (by omega) (by first | decide | omega) ?_
  rw [nS_t S lv _ hd]
  refine ev_ild5 dX11_drinkOn_65 ?_
  refine ev_isub dX11_drinkOn_67 ?_
  refine ev_iast2 (j := 15 * lv + 10 + dr) dX11_drinkOn_68 rfl (ix3 _ 10 _) (by omega) (by first | decide | omega) ?_
  rw [nS_ut S lv _ hd]
  refine ev_ild5 dX11_drinkOn_69 ?_
  refine ev_iret dX11_drinkOn_71 ?_
  exact ⟨_, rfl, rfl, rfl, rfl⟩
