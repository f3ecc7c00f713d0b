theorem shl1 : ∀ n, n ≤ 5 → (1 : Int32) <<< (nI n &&& 31) = nI (2 ^ n) := by decide +kernel
theorem p2_5 : ∀ n, n ≤ 5 → 2 ^ n ≤ 32 := by decide +kernel
theorem pcn_lt0 : ∀ (nd : Fin 5) (n : Fin 16) (dr : Fin 4), ((n : Nat) < 2 ^ (nd : Nat) ∧ (dr : Nat) < nd ∧ bt (nI n) dr = false) → pcn n < nd := by decide +kernel
theorem pcn_lt (nd : Nat) (h4 : nd ≤ 4) (n : Nat) (hn : n < 16) (dr : Nat) (hd : dr < 4) (h1 : n < 2 ^ nd) (h2 : dr < nd) (h3 : bt (nI n) dr = false) : pcn n < nd := pcn_lt0 ⟨nd, by omega⟩ ⟨n, hn⟩ ⟨dr, hd⟩ ⟨h1, h2, h3⟩
def ordN (j : Nat) : Nat := if j = 0 then 1 else if j = 1 then 1 else if j = 2 then 2 else if j = 3 then 6 else 24
theorem ord_N : ∀ j, j < 5 → gx_ord j = nI (ordN j) := by decide +kernel
theorem ordN_pos : ∀ j, j < 5 → 0 < ordN j ∧ ordN j ≤ 24 := by decide +kernel
def p_shareN (tx : Int32 → Int32) (nd dr : Nat) : Nat → Int32
  | 0 => 0
  | n + 1 => if bt (nI n) dr = true then p_shareN tx nd dr n else p_shareN tx nd dr n + (tx (nI n ||| (1 : Int32) <<< (nI dr &&& 31)) - tx (nI n)) * (gx_ord (pcn n) * gx_ord (nd - pcn n - 1))
set_option maxRecDepth 10000 in
theorem l_share (d : Nat) (S : gx_S) {nd : Nat} (hnd : S 11 1 = nI nd) (h4 : nd ≤ 4) (hy : zT (tG S 18)) {dr : Nat} (hdr : dr < nd) (w : Int32) (L : gx_L) {Q : Option Value → gx_S → gx_L → Prop} (kk : ∀ (T : Tb) (z : Option Value), zT T → Ev mX1_shareOf (d + 5) 68 [some (.ref 42), some (.int (nI dr)), some (.int w), some (.int (p_shareN (fun so => p_taxes (S 14) (S 12) (p_ev (S 16) (S 17) so (tG S 18))) nd dr (2 ^ nd))), some (.int (nI (2 ^ nd))), z] [] (tS S 26 T) L Q) : ∀ (nn i : Nat) (T : Tb) (z : Option Value) (hT : zT T), i + nn = 2 ^ nd → Ev mX1_shareOf (d + 5) 5 [some (.ref 42), some (.int (nI dr)), some (.int w), some (.int (p_shareN (fun so => p_taxes (S 14) (S 12) (p_ev (S 16) (S 17) so (tG S 18))) nd dr (i))), some (.int (nI (i))), z] [] (tS S 26 T) L Q := by
  intro nn
  induction nn with
  | zero =>
    intro i T z hT hi
    obtain rfl : i = 2 ^ nd := hi
    have h16 := p2_5 nd (by omega)
    refine ev_ild4 dX1_shareOf_5 ?_
    refine ev_iconst (v := 1) dX1_shareOf_7 (by decide) ?_
    refine ev_ald0 dX1_shareOf_8 ?_
    refine ev_getr (r := 11) dX1_shareOf_9 fl_X1_9 rfl ?_
    refine ev_geti dX1_shareOf_12 fl_X1_22 rfl ?_
    rw [(tr_o S T).1, hnd]
    refine ev_ishl dX1_shareOf_15 ?_
    refine ev_icmp_ge_t 68 dX1_shareOf_16 (by decide) (by rw [shl1 nd (by omega)]; exact nI_le (Nat.le_refl _) (by omega)) ?_
    exact kk T z hT
  | succ nn ih =>
    intro i T z hT hi
    have h16 := p2_5 nd (by omega)
    refine ev_ild4 dX1_shareOf_5 ?_
    refine ev_iconst (v := 1) dX1_shareOf_7 (by decide) ?_
    refine ev_ald0 dX1_shareOf_8 ?_
    refine ev_getr (r := 11) dX1_shareOf_9 fl_X1_9 rfl ?_
    refine ev_geti dX1_shareOf_12 fl_X1_22 rfl ?_
    rw [(tr_o S T).1, hnd]
    refine ev_ishl dX1_shareOf_15 ?_
    refine ev_icmp_ge_f 68 dX1_shareOf_16 (by decide) (by rw [shl1 nd (by omega)]; exact nI_ge (by omega) (by omega)) ?_
    refine ev_ild4 dX1_shareOf_19 ?_
    refine ev_ild1 dX1_shareOf_21 ?_
    refine ev_S2i (M' := mX10_hasBit) dX1_shareOf_22 lk_X1_28 sX10_hasBit (c_hasBit (d + 4) _ _ _ _) (Nat.le_refl _) (Nat.le_of_ble_eq_true rfl) ?_
    refine ev_if_ne 62 dX1_shareOf_25 (by decide) (fun c_25 => ?_) (fun c_25 => ?_)
    · have b_25 := gx_b_y.mp c_25
      refine ev_inc4 dX1_shareOf_62 (nI_inc _) ?_
      refine ev_goto 5 dX1_shareOf_65 (by decide) ?_
      have e := ih (i + 1) T z hT (by omega)
      simp only [p_shareN, if_pos b_25, ite_self] at e
      exact e
    · have b_25 := gx_b_n.mp c_25
      have hpc : pcn i < nd := pcn_lt nd h4 i (by have := Nat.pow_le_pow_right (show 0 < 2 by decide) h4; omega) dr (by omega) (by omega) hdr (Bool.eq_false_iff.mpr b_25)
      have hnd2 : tS S 26 (p_ev (S 16) (S 17) (nI i) (tG S 18)) 11 1 = nI nd := by rw [(tr_o S _).1]; exact hnd
      refine ev_ald0 dX1_shareOf_28 ?_
      refine ev_ild4 dX1_shareOf_29 ?_
      refine ev_iconst (v := 1) dX1_shareOf_31 (by decide) ?_
      refine ev_ild1 dX1_shareOf_32 ?_
      refine ev_ishl dX1_shareOf_33 ?_
      refine ev_ior dX1_shareOf_34 ?_
      refine ev_V1i (M' := mX1_taxesOf) dX1_shareOf_35 lk_X1_32 vX1_taxesOf rfl (c_taxesOf d S T hT hy _ L) (Nat.le_refl _) (Nat.le_of_ble_eq_true rfl) ?_
      refine ev_ald0 dX1_shareOf_38 ?_
      refine ev_ild4 dX1_shareOf_39 ?_
      refine ev_V1i (M' := mX1_taxesOf) dX1_shareOf_41 lk_X1_32 vX1_taxesOf rfl (c_taxesOf d S _ (zT_ev hy) hy _ L) (Nat.le_refl _) (Nat.le_of_ble_eq_true rfl) ?_
      refine ev_isub dX1_shareOf_44 ?_
      refine ev_ist5 dX1_shareOf_45 ?_
      refine ev_ild3 dX1_shareOf_47 ?_
      refine ev_ild5 dX1_shareOf_48 ?_
      refine ev_ald0 dX1_shareOf_50 ?_
      refine ev_ild4 dX1_shareOf_51 ?_
      refine ev_S1i (M' := mJ6_bitCount_0f7a4) dX1_shareOf_53 lk_X1_36 sJ6_bitCount_0f7a4 (c_bitCount (d + 4) (by omega) _ _) (Nat.le_refl _) (Nat.le_of_ble_eq_true rfl) ?_
      refine ev_V1i (M' := mX1_ordersWith) dX1_shareOf_56 lk_X1_41 vX1_ordersWith rfl (c_ordersWith (d + 3) _ hnd2 h4 hpc L) (Nat.le_refl _) (Nat.le_of_ble_eq_true rfl) ?_
      refine ev_imul dX1_shareOf_59 ?_
      refine ev_iadd dX1_shareOf_60 ?_
      refine ev_ist3 dX1_shareOf_61 ?_
      refine ev_inc4 dX1_shareOf_62 (nI_inc _) ?_
      refine ev_goto 5 dX1_shareOf_65 (by decide) ?_
      have e := fun z9 => ih (i + 1) (p_ev (S 16) (S 17) (nI i) (tG S 18)) z9 (zT_ev hy) (by omega)
      simp only [p_shareN, if_neg b_25, ite_self] at e
      exact e _
set_option maxRecDepth 10000 in
theorem c_shareOf (d : Nat) (S : gx_S) {nd : Nat} (hnd : S 11 1 = nI nd) (h4 : nd ≤ 4) (T : Tb) (hz : zT T) (hy : zT (tG S 18)) {dr : Nat} (hdr : dr < nd) (w : Int32) {x : Nat} (hx : (if 0 ≤ p_shareN (fun so => p_taxes (S 14) (S 12) (p_ev (S 16) (S 17) so (tG S 18))) nd dr (2 ^ nd) then p_shareN (fun so => p_taxes (S 14) (S 12) (p_ev (S 16) (S 17) so (tG S 18))) nd dr (2 ^ nd) else 0 - p_shareN (fun so => p_taxes (S 14) (S 12) (p_ev (S 16) (S 17) so (tG S 18))) nd dr (2 ^ nd)) = nI x) (hx1 : x < 2 ^ 31) (L : gx_L) : Ci (d + 5) mX1_shareOf [.ref 42, .int (nI dr), .int w] (tS S 26 T) L (fun r S1 L1 => r = p_frac (p_shareN (fun so => p_taxes (S 14) (S 12) (p_ev (S 16) (S 17) so (tG S 18))) nd dr (2 ^ nd)) x (ordN nd) w ∧ (∃ T1, zT T1 ∧ S1 = tS S 26 T1) ∧ L1 = L) := by
  refine ct_intro (loc := [some (.ref 42), some (.int (nI dr)), some (.int w), none, none, none]) (by decide) (Nat.le_of_ble_eq_true rfl) rfl ?_
  have ho := ordN_pos nd (by omega)
  refine ev_iconst (v := 0) dX1_shareOf_0 (by decide) ?_
  refine ev_ist3 dX1_shareOf_1 ?_
  refine ev_iconst (v := 0) dX1_shareOf_2 (by decide) ?_
  refine ev_ist4 dX1_shareOf_3 ?_
  refine l_share d S hnd h4 hy hdr w L ?_ (2 ^ nd) 0 T none hz (Nat.zero_add _)
  intro T1 z1 hT1
  refine ev_ild3 dX1_shareOf_68 ?_
  refine ev_ald0 dX1_shareOf_69 ?_
  refine ev_getr (r := 11) dX1_shareOf_70 fl_X1_9 rfl ?_
  refine ev_geti dX1_shareOf_73 fl_X1_22 rfl ?_
  rw [(tr_o S T1).1, hnd]
  refine ev_S1i (M' := mX1_orders) dX1_shareOf_76 lk_X1_44 sX1_orders (c_orders (d + 4) _ L (by omega)) (Nat.le_refl _) (Nat.le_of_ble_eq_true rfl) ?_
  rw [ord_N nd (by omega)]
  refine ev_ild2 dX1_shareOf_79 ?_
  refine ev_S3i (M' := mX10_fractionSide) dX1_shareOf_80 lk_X1_47 sX10_fractionSide (c_frac (d + 2) _ L hx hx1 (by omega) (ordN_pos nd (by omega)).1 w) (Nat.le_refl _) (Nat.le_of_ble_eq_true rfl) ?_
  refine ev_iret dX1_shareOf_83 ?_
  exact ⟨_, rfl, rfl, ⟨T1, hT1, rfl⟩, rfl⟩
def oI (k : Option Nat) : Int32 := match k with
  | none => -9
  | some n => nI n
def wN (en : Nat → Bool) : Nat → Option Nat
  | 0 => none
  | n + 1 => match wN en n with
    | none => if en n = true then some n else none
    | some k => if pcn k ≤ pcn n then some k else if en n = true then some n else some k
theorem wN_lt {en : Nat → Bool} : ∀ {n k : Nat}, wN en n = some k → k < n
  | 0, k, h => by cases h
  | n + 1, k, h => by
    unfold wN at h
    split at h
    · split at h
      · cases h; omega
      · cases h
    · rename_i j hj
      have := wN_lt hj
      split at h
      · cases h; omega
      · split at h
        · cases h; omega
        · cases h; omega
theorem nI_n9 {k : Nat} (h : k < 32) : ¬ nI k = -9 := by
  have : ∀ k, k < 32 → ¬ nI k = -9 := by decide +kernel
  exact this k h
set_option maxRecDepth 10000 in
theorem c_wake0 (d : Nat) (S : gx_S) {ng : Nat} (hng : S 11 0 = nI ng) (h5 : ng ≤ 5) (T : Tb) (hz : zT T) (hy : zT (tG S 18)) (L : gx_L) : Ci (d + 5) mX6_fewestForWake [.ref 39] (tS S 26 T) L (fun r S1 L1 => r = oI (wN (fun b => allB (p_quN (S 16) (p_ev (S 16) (S 17) 15 (p_fillN (S 12) (nI b) (tG S 18) 5)).2.2.1) 4) (2 ^ ng)) ∧ (∃ T1, zT T1 ∧ S1 = tS S 26 T1) ∧ L1 = L) := by
  refine ct_intro (loc := [some (.ref 39), none, none, none]) (by decide) (Nat.le_of_ble_eq_true rfl) rfl ?_
  have h32 := p2_5 ng h5
  have hpcb : ∀ k, k < 32 → pcn k < 6 := by decide +kernel
  have loop : ∀ (nn i : Nat) (T : Tb) (z : Option Value), zT T → i + nn = 2 ^ ng → Ev mX6_fewestForWake (d + 5) 5 [some (.ref 39), some (.int (oI (wN (fun b => allB (p_quN (S 16) (p_ev (S 16) (S 17) 15 (p_fillN (S 12) (nI b) (tG S 18) 5)).2.2.1) 4) (i)))), some (.int (nI (i))), z] [] (tS S 26 T) L (fun v S' L' => ∃ r : Int32, v = some (.int r) ∧ r = oI (wN (fun b => allB (p_quN (S 16) (p_ev (S 16) (S 17) 15 (p_fillN (S 12) (nI b) (tG S 18) 5)).2.2.1) 4) (2 ^ ng)) ∧ (∃ T1, zT T1 ∧ S' = tS S 26 T1) ∧ L' = L) := by
    intro nn
    induction nn with
    | zero =>
      intro i T z hT hi
      obtain rfl : i = 2 ^ ng := hi
      refine ev_ild2 dX6_fewestForWake_5 ?_
      refine ev_iconst (v := 1) dX6_fewestForWake_6 (by decide) ?_
      refine ev_ald0 dX6_fewestForWake_7 ?_
      refine ev_getr (r := 11) dX6_fewestForWake_8 fl_X6_18 rfl ?_
      refine ev_geti dX6_fewestForWake_11 fl_X6_68 rfl ?_
      rw [(tr_o S T).1, hng]
      refine ev_ishl dX6_fewestForWake_14 ?_
      refine ev_icmp_ge_t 61 dX6_fewestForWake_15 (by decide) (by rw [shl1 ng (by omega)]; exact nI_le (Nat.le_refl _) (by omega)) ?_
      refine ev_ild1 dX6_fewestForWake_61 ?_
      refine ev_iret dX6_fewestForWake_62 ?_
      exact ⟨_, rfl, rfl, ⟨T, hT, rfl⟩, rfl⟩
    | succ nn ih =>
      intro i T z hT hi
      cases hw : wN (fun b => allB (p_quN (S 16) (p_ev (S 16) (S 17) 15 (p_fillN (S 12) (nI b) (tG S 18) 5)).2.2.1) 4) i with
      | none =>
        refine ev_ild2 dX6_fewestForWake_5 ?_
        refine ev_iconst (v := 1) dX6_fewestForWake_6 (by decide) ?_
        refine ev_ald0 dX6_fewestForWake_7 ?_
        refine ev_getr (r := 11) dX6_fewestForWake_8 fl_X6_18 rfl ?_
        refine ev_geti dX6_fewestForWake_11 fl_X6_68 rfl ?_
        rw [(tr_o S T).1, hng]
        refine ev_ishl dX6_fewestForWake_14 ?_
        refine ev_icmp_ge_f 61 dX6_fewestForWake_15 (by decide) (by rw [shl1 ng (by omega)]; exact nI_ge (by omega) (by omega)) ?_
        refine ev_ild1 dX6_fewestForWake_18 ?_
        refine ev_bipush (v := (-9)) dX6_fewestForWake_19 (by decide) ?_
        refine ev_icmp_eq_t 35 dX6_fewestForWake_21 (by decide) rfl ?_
        refine ev_iconst (v := 1) dX6_fewestForWake_35 (by decide) ?_
        refine ev_goto 40 dX6_fewestForWake_36 (by decide) ?_
        refine ev_ist3 dX6_fewestForWake_40 ?_
        refine ev_ild3 dX6_fewestForWake_41 ?_
        refine ev_if_eq_f 55 dX6_fewestForWake_42 (by decide) (by decide) ?_
        refine ev_ald0 dX6_fewestForWake_45 ?_
        refine ev_ild2 dX6_fewestForWake_46 ?_
        refine ev_V1i (M' := mX6_isEnough) dX6_fewestForWake_47 lk_X6_94 vX6_isEnough rfl (c_isEnough d S T hT hy _ L) (Nat.le_refl _) (Nat.le_of_ble_eq_true rfl) ?_
        refine ev_if_eq 55 dX6_fewestForWake_50 (by decide) (fun c_50 => ?_) (fun c_50 => ?_)
        · have b_50 := gx_b_n.mp c_50
          refine ev_inc2 dX6_fewestForWake_55 (nI_inc _) ?_
          refine ev_goto 5 dX6_fewestForWake_58 (by decide) ?_
          have e := fun z9 => ih (i + 1) (p_ev (S 16) (S 17) 15 (p_fillN (S 12) (nI i) (tG S 18) 5)) z9 (zT_ev (zT_fill hy 5 (Nat.le_refl 5))) (by omega)
          simp only [wN, hw, if_neg b_50, ite_self] at e
          exact e _
        · have b_50 := gx_b_y.mp c_50
          refine ev_ild2 dX6_fewestForWake_53 ?_
          refine ev_ist1 dX6_fewestForWake_54 ?_
          refine ev_inc2 dX6_fewestForWake_55 (nI_inc _) ?_
          refine ev_goto 5 dX6_fewestForWake_58 (by decide) ?_
          have e := fun z9 => ih (i + 1) (p_ev (S 16) (S 17) 15 (p_fillN (S 12) (nI i) (tG S 18) 5)) z9 (zT_ev (zT_fill hy 5 (Nat.le_refl 5))) (by omega)
          simp only [wN, hw, if_pos b_50, ite_self] at e
          exact e _
      | some k =>
        have hk : k < i := wN_lt hw
        have hp1 := hpcb k (by omega)
        have hp2 := hpcb i (by omega)
        refine ev_ild2 dX6_fewestForWake_5 ?_
        refine ev_iconst (v := 1) dX6_fewestForWake_6 (by decide) ?_
        refine ev_ald0 dX6_fewestForWake_7 ?_
        refine ev_getr (r := 11) dX6_fewestForWake_8 fl_X6_18 rfl ?_
        refine ev_geti dX6_fewestForWake_11 fl_X6_68 rfl ?_
        rw [(tr_o S T).1, hng]
        refine ev_ishl dX6_fewestForWake_14 ?_
        refine ev_icmp_ge_f 61 dX6_fewestForWake_15 (by decide) (by rw [shl1 ng (by omega)]; exact nI_ge (by omega) (by omega)) ?_
        refine ev_ild1 dX6_fewestForWake_18 ?_
        refine ev_bipush (v := (-9)) dX6_fewestForWake_19 (by decide) ?_
        refine ev_icmp_eq_f 35 dX6_fewestForWake_21 (by decide) (nI_n9 (by omega)) ?_
        refine ev_ild2 dX6_fewestForWake_24 ?_
        refine ev_S1i (M' := mJ6_bitCount_0f7a4) dX6_fewestForWake_25 lk_X6_89 sJ6_bitCount_0f7a4 (c_bitCount (d + 4) (by omega) _ _) (Nat.le_refl _) (Nat.le_of_ble_eq_true rfl) ?_
        refine ev_ild1 dX6_fewestForWake_28 ?_
        refine ev_S1i (M' := mJ6_bitCount_0f7a4) dX6_fewestForWake_29 lk_X6_89 sJ6_bitCount_0f7a4 (c_bitCount (d + 4) (by omega) _ _) (Nat.le_refl _) (Nat.le_of_ble_eq_true rfl) ?_
        refine ev_icmp_ge 39 dX6_fewestForWake_32 (by decide) (fun c_32 => ?_) (fun c_32 => ?_)
        · refine ev_iconst (v := 0) dX6_fewestForWake_39 (by decide) ?_
          refine ev_ist3 dX6_fewestForWake_40 ?_
          refine ev_ild3 dX6_fewestForWake_41 ?_
          refine ev_if_eq_t 55 dX6_fewestForWake_42 (by decide) (by decide) ?_
          refine ev_inc2 dX6_fewestForWake_55 (nI_inc _) ?_
          refine ev_goto 5 dX6_fewestForWake_58 (by decide) ?_
          have e := fun z9 => ih (i + 1) T z9 hT (by omega)
          simp only [wN, hw, if_pos ((nI_leI (by omega) (by omega)).mp c_32), ite_self] at e
          exact e _
        · refine ev_iconst (v := 1) dX6_fewestForWake_35 (by decide) ?_
          refine ev_goto 40 dX6_fewestForWake_36 (by decide) ?_
          refine ev_ist3 dX6_fewestForWake_40 ?_
          refine ev_ild3 dX6_fewestForWake_41 ?_
          refine ev_if_eq_f 55 dX6_fewestForWake_42 (by decide) (by decide) ?_
          refine ev_ald0 dX6_fewestForWake_45 ?_
          refine ev_ild2 dX6_fewestForWake_46 ?_
          refine ev_V1i (M' := mX6_isEnough) dX6_fewestForWake_47 lk_X6_94 vX6_isEnough rfl (c_isEnough d S T hT hy _ L) (Nat.le_refl _) (Nat.le_of_ble_eq_true rfl) ?_
          refine ev_if_eq 55 dX6_fewestForWake_50 (by decide) (fun c_50 => ?_) (fun c_50 => ?_)
          · have b_50 := gx_b_n.mp c_50
            refine ev_inc2 dX6_fewestForWake_55 (nI_inc _) ?_
            refine ev_goto 5 dX6_fewestForWake_58 (by decide) ?_
            have e := fun z9 => ih (i + 1) (p_ev (S 16) (S 17) 15 (p_fillN (S 12) (nI i) (tG S 18) 5)) z9 (zT_ev (zT_fill hy 5 (Nat.le_refl 5))) (by omega)
            simp only [wN, hw, if_neg (fun h9 => c_32 (nI_le h9 (by omega))), if_neg b_50, ite_self] at e
            exact e _
          · have b_50 := gx_b_y.mp c_50
            refine ev_ild2 dX6_fewestForWake_53 ?_
            refine ev_ist1 dX6_fewestForWake_54 ?_
            refine ev_inc2 dX6_fewestForWake_55 (nI_inc _) ?_
            refine ev_goto 5 dX6_fewestForWake_58 (by decide) ?_
            have e := fun z9 => ih (i + 1) (p_ev (S 16) (S 17) 15 (p_fillN (S 12) (nI i) (tG S 18) 5)) z9 (zT_ev (zT_fill hy 5 (Nat.le_refl 5))) (by omega)
            simp only [wN, hw, if_neg (fun h9 => c_32 (nI_le h9 (by omega))), if_pos b_50, ite_self] at e
            exact e _
  refine ev_bipush (v := -9) dX6_fewestForWake_0 (by decide) ?_
  refine ev_ist1 dX6_fewestForWake_2 ?_
  refine ev_iconst (v := 0) dX6_fewestForWake_3 (by decide) ?_
  refine ev_ist2 dX6_fewestForWake_4 ?_
  exact loop (2 ^ ng) 0 T none hz (Nat.zero_add _)
