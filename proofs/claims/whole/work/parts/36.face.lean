def z0 : Nat → Int32 := fun _ => 0
def H0 : Hd := (0, 0, z0, z0, z0, z0, z0, z0)
def p_read (f : Nat → Int32) (len : Nat) : Int32 × Hd := if len = 0 then (0, H0) else if f 0 = 71 then pz f len len 1 0 0 H0 else (0, H0)
theorem clr_z {f : Nat → Int32} {n : Nat} (h : ∀ j, n ≤ j → f j = 0) : clr f n = z0 := by
  funext j
  unfold clr z0
  by_cases hj : j < n
  · rw [if_pos hj]
  · rw [if_neg hj]
    exact h j (by omega)
theorem zH0 : zH H0 := ⟨fun _ _ => ⟨rfl, rfl, rfl⟩, fun _ _ => ⟨rfl, rfl, rfl⟩⟩
set_option maxRecDepth 10000 in
theorem c_read (d : Nat) (S : gx_S) {len : Nat} (hlen : S 1 1 = nI len) (h60 : len ≤ 60) (hz : zH (hG S 4)) (L : gx_L) : Ct (d + 5) mX5_read [.ref 3, .ref 1, .ref 4] S L (zRd S (p_read (S 2) len) L) := by
  refine ct_intro (loc := [some (.ref 3), some (.ref 1), some (.ref 4), none]) (by decide) (Nat.le_of_ble_eq_true rfl) rfl ?_
  refine ev_ald2 dX5_read_0 ?_
  refine ev_V0v (M' := mX2_clear) dX5_read_1 lk_X5_9 vX2_clear rfl (c_clear (d + 4) hh4 S L) (Nat.le_refl _) (Nat.le_of_ble_eq_true rfl) ?_
  rw [clr_z (f := S (4 + 1)) (fun j h9 => (hz.1 j h9).1), clr_z (f := S (4 + 2)) (fun j h9 => (hz.1 j h9).2.1), clr_z (f := S (4 + 3)) (fun j h9 => (hz.1 j h9).2.2), clr_z (f := S (4 + 4)) (fun j h9 => (hz.2 j h9).1), clr_z (f := S (4 + 5)) (fun j h9 => (hz.2 j h9).2.1), clr_z (f := S (4 + 6)) (fun j h9 => (hz.2 j h9).2.2)]
  refine ev_mem (rS_self (hS S 4 H0)).symm ?_
  refine ev_ald0 dX5_read_4 ?_
  refine ev_iconst (v := 0) dX5_read_5 (by decide) ?_
  refine ev_puti dX5_read_6 fp_X5_16 rfl ?_
  rw [rS_u0]
  refine ev_iconst (v := 0) dX5_read_9 (by decide) ?_
  refine ev_ist3 dX5_read_10 ?_
  refine ev_mem (show rS (hS S 4 H0) 0 (hS S 4 H0 3 1) (hS S 4 H0 3 2) = mM S 0 (hS S 4 H0 3 1) (hS S 4 H0 3 2) H0 from rfl) ?_
  generalize hS S 4 H0 3 1 = b9
  generalize hS S 4 H0 3 2 = c9
  rcases Nat.eq_zero_or_pos len with h0 | h0
  · have e9 : p_read (S 2) len = (0, H0) := if_pos h0
    rw [e9]
    exact it_end d S hlen h60 L (0, H0) (q := 0) (by omega) 0 b9 c9 H0 zH0 (fun h9 => absurd h9 (by decide)) (fun _ => rfl)
  · rcases Decidable.em (S 2 0 = 71) with h71 | h71
    · have e9 : p_read (S 2) len = pz (S 2) len len 1 0 0 H0 := (if_neg (by omega)).trans (if_pos h71)
      rw [e9]
      refine it_yes d S hlen h60 L _ h0 0 b9 c9 H0 (Cf_r (c_tk0 d S b9 c9 H0 (ng := 0) (nd := 0) rfl rfl (by decide) (by decide) (S 2 0) L) (by rw [decide_eq_true h71]; rfl) rfl) ?_
      obtain ⟨n, rfl⟩ : ∃ n, len = n + 1 := ⟨len - 1, by omega⟩
      exact l_read d S hlen h60 L _ n 1 0 0 H0 b9 c9 rfl rfl (by decide) (by decide) zH0 (by omega) (by omega) rfl
    · have e9 : p_read (S 2) len = (0, H0) := (if_neg (by omega)).trans (if_neg h71)
      rw [e9]
      exact it_no d S hlen h60 L (0, H0) h0 0 b9 c9 H0 rfl zH0 (Cf_r (c_tk0 d S b9 c9 H0 (ng := 0) (nd := 0) rfl rfl (by decide) (by decide) (S 2 0) L) (by rw [decide_eq_false h71]; rfl) rfl)
def A_write (len : Nat) (x : Int32) : Int32 := if x < 0 then -2 else if x ≤ 255 then (if len < 60 then nI (len + 1) else -4) else -2
def M_write (S : gx_S) (len : Nat) (x : Int32) : gx_S := if x < 0 then S else if x ≤ 255 then (if len < 60 then gx_u2 (gx_u2 S 2 len x) 1 1 (nI (len + 1)) else S) else S
set_option maxRecDepth 10000 in
theorem x_write (d : Nat) (S : gx_S) {len : Nat} (hlen : S 1 1 = nI len) (h60 : len ≤ 60) (x : Int32) (L : gx_L) : Cf (d + 1) mX10_write [.ref 0, .int x] S L (A_write len x) (M_write S len x) L := by
  refine ct_intro (loc := [some (.ref 0), some (.int x)]) (by decide) (Nat.le_of_ble_eq_true rfl) rfl ?_
  refine ev_ild1 dX10_write_0 ?_
  refine ev_if_lt 11 dX10_write_1 (by decide) (fun c_1 => ?_) (fun c_1 => ?_)
  · refine ev_bipush (v := (-2)) dX10_write_11 (by decide) ?_
    refine ev_iret dX10_write_13 ?_
    exact ⟨_, rfl, (if_pos c_1).symm, (if_pos c_1).symm, rfl⟩
  · refine ev_ild1 dX10_write_4 ?_
    refine ev_sipush (v := 255) dX10_write_5 (by decide) ?_
    refine ev_icmp_le 14 dX10_write_8 (by decide) (fun c_8 => ?_) (fun c_8 => ?_)
    · refine ev_ald0 dX10_write_14 ?_
      refine ev_getr (r := 1) dX10_write_15 fl_X10_12 rfl ?_
      refine ev_ild1 dX10_write_18 ?_
      refine ev_V1i (M' := mX3_add) dX10_write_19 lk_X10_96 vX3_add rfl (c_add d S hlen h60 _ L) (Nat.le_refl _) (Nat.le_of_ble_eq_true rfl) ?_
      refine ev_iret dX10_write_22 ?_
      exact ⟨_, rfl, ((if_neg c_1).trans (if_pos c_8)).symm, ((if_neg c_1).trans (if_pos c_8)).symm, rfl⟩
    · refine ev_bipush (v := (-2)) dX10_write_11 (by decide) ?_
      refine ev_iret dX10_write_13 ?_
      exact ⟨_, rfl, ((if_neg c_1).trans (if_neg c_8)).symm, ((if_neg c_1).trans (if_neg c_8)).symm, rfl⟩
set_option maxRecDepth 10000 in
theorem x_wipe (d : Nat) (S : gx_S) {len : Nat} (hlen : S 1 1 = nI len) (h60 : len ≤ 60) (L : gx_L) : Cf d mX10_wipe [.ref 0] S L (nI len) (gx_u2 S 1 1 0) L := by
  refine ct_intro (loc := [some (.ref 0), none]) (by decide) (Nat.le_of_ble_eq_true rfl) rfl ?_
  refine ev_ald0 dX10_wipe_0 ?_
  refine ev_getr (r := 1) dX10_wipe_1 fl_X10_12 rfl ?_
  refine ev_geti dX10_wipe_4 fl_X10_100 rfl ?_
  rw [hlen]
  refine ev_ist1 dX10_wipe_7 ?_
  refine ev_ald0 dX10_wipe_8 ?_
  refine ev_getr (r := 1) dX10_wipe_9 fl_X10_12 rfl ?_
  refine ev_iconst (v := 0) dX10_wipe_12 (by decide) ?_
  refine ev_puti dX10_wipe_13 fp_X10_100 rfl ?_
  refine ev_ild1 dX10_wipe_16 ?_
  refine ev_iret dX10_wipe_17 ?_
  exact ⟨_, rfl, rfl, rfl, rfl⟩
theorem c_readq (d : Nat) (S : gx_S) {len : Nat} (hlen : S 1 1 = nI len) (h60 : len ≤ 60) (hz : zH (hG S 4)) (L : gx_L) : Ci (d + 5) mX5_read [.ref 3, .ref 1, .ref 4] S L (fun r S' L' => r = (p_read (S 2) len).1 ∧ (∃ (a b c : Int32) (H' : Hd), S' = mM S a b c H' ∧ zH H' ∧ (r = -9 → H' = (p_read (S 2) len).2)) ∧ L' = L) := c_read d S hlen h60 hz L
set_option maxRecDepth 10000 in
theorem x_fault (d : Nat) (S : gx_S) {len : Nat} (hlen : S 1 1 = nI len) (h60 : len ≤ 60) (hz : zH (hG S 4)) (L : gx_L) : Ci (d + 6) mX10_fault [.ref 0] S L (fun r S' L' => r = (p_read (S 2) len).1 ∧ (∃ (a b c : Int32) (H' : Hd), S' = mM S a b c H' ∧ zH H') ∧ L' = L) := by
  refine ct_intro (loc := [some (.ref 0)]) (by decide) (Nat.le_of_ble_eq_true rfl) rfl ?_
  refine ev_ald0 dX10_fault_0 ?_
  refine ev_getr (r := 3) dX10_fault_1 fl_X10_19 rfl ?_
  refine ev_ald0 dX10_fault_4 ?_
  refine ev_getr (r := 1) dX10_fault_5 fl_X10_12 rfl ?_
  refine ev_ald0 dX10_fault_8 ?_
  refine ev_getr (r := 4) dX10_fault_9 fl_X10_26 rfl ?_
  refine ev_V2iq (M' := mX5_read) dX10_fault_12 lk_X10_104 vX5_read rfl (c_readq d S hlen h60 hz L) (Nat.le_refl _) (Nat.le_of_ble_eq_true rfl) (fun r9 S9 L9 h9 => ?_)
  refine ev_iret dX10_fault_15 ?_
  obtain ⟨h1, ⟨a, b, c, H9, h2, h3, h4⟩, h5⟩ := h9
  exact ⟨_, rfl, h1, ⟨a, b, c, H9, h2, h3⟩, h5⟩
theorem sw_out4 {w : Int32} (h0 : ¬ w = 0) (h1 : ¬ w = 1) (h2 : ¬ w = 2) (h3 : ¬ w = 3) : w.toInt < 0 ∨ 3 < w.toInt := by
  rcases Decidable.em (w.toInt < 0 ∨ 3 < w.toInt) with h | h
  · exact h
  · exfalso
    have t (k : Int32) (hk : ¬ w = k) : ¬ w.toInt = k.toInt := fun e => hk (Int32.toInt_inj.mp e)
    have t0 : ¬ w.toInt = 0 := t 0 h0
    have t1 : ¬ w.toInt = 1 := t 1 h1
    have t2 : ¬ w.toInt = 2 := t 2 h2
    have t3 : ¬ w.toInt = 3 := t 3 h3
    omega
theorem sw_out6 {w : Int32} (h0 : ¬ w = 0) (h1 : ¬ w = 1) (h2 : ¬ w = 2) (h3 : ¬ w = 3) (h4 : ¬ w = 4) (h5 : ¬ w = 5) : w.toInt < 0 ∨ 5 < w.toInt := by
  rcases Decidable.em (w.toInt < 0 ∨ 5 < w.toInt) with h | h
  · exact h
  · exfalso
    have t (k : Int32) (hk : ¬ w = k) : ¬ w.toInt = k.toInt := fun e => hk (Int32.toInt_inj.mp e)
    have t0 : ¬ w.toInt = 0 := t 0 h0
    have t1 : ¬ w.toInt = 1 := t 1 h1
    have t2 : ¬ w.toInt = 2 := t 2 h2
    have t3 : ¬ w.toInt = 3 := t 3 h3
    have t4 : ¬ w.toInt = 4 := t 4 h4
    have t5 : ¬ w.toInt = 5 := t 5 h5
    omega
theorem sw_out8 {w : Int32} (h0 : ¬ w = 0) (h1 : ¬ w = 1) (h2 : ¬ w = 2) (h3 : ¬ w = 3) (h4 : ¬ w = 4) (h5 : ¬ w = 5) (h6 : ¬ w = 6) (h7 : ¬ w = 7) : w.toInt < 0 ∨ 7 < w.toInt := by
  rcases Decidable.em (w.toInt < 0 ∨ 7 < w.toInt) with h | h
  · exact h
  · exfalso
    have t (k : Int32) (hk : ¬ w = k) : ¬ w.toInt = k.toInt := fun e => hk (Int32.toInt_inj.mp e)
    have t0 : ¬ w.toInt = 0 := t 0 h0
    have t1 : ¬ w.toInt = 1 := t 1 h1
    have t2 : ¬ w.toInt = 2 := t 2 h2
    have t3 : ¬ w.toInt = 3 := t 3 h3
    have t4 : ¬ w.toInt = 4 := t 4 h4
    have t5 : ¬ w.toInt = 5 := t 5 h5
    have t6 : ¬ w.toInt = 6 := t 6 h6
    have t7 : ¬ w.toInt = 7 := t 7 h7
    omega
def A_glass (ng nd : Nat) (ms gk sb : Nat → Int32) (T : Tb) (g w : Int32) : Int32 := if isG (nI ng) g = true then (if w = 0 then ms g.toNatClampNeg else if w = 1 then T.1 g.toNatClampNeg else if w = 2 then gk g.toNatClampNeg else if w = 3 then T.2.1 g.toNatClampNeg else if w = 4 then p_tax (gk g.toNatClampNeg) (ms g.toNatClampNeg) (T.1 g.toNatClampNeg) (T.2.1 g.toNatClampNeg) else if w = 5 then p_sitN (nI ng) (nI nd) sb g nd else -2) else -1
def A_drinker (nd : Nat) (dk sb : Nat → Int32) (T : Tb) (g w : Int32) : Int32 := if isG (nI nd) g = true then (if w = 0 then T.2.2.1 g.toNatClampNeg else if w = 1 then dk g.toNatClampNeg else if w = 2 then sb g.toNatClampNeg else if w = 3 then p_firstN dk sb T g.toNatClampNeg 5 else -2) else -1
set_option maxRecDepth 10000 in
theorem x_glass (d : Nat) (S : gx_S) {ng : Nat} (hng : S 11 0 = nI ng) (h5 : ng ≤ 5) {nd : Nat} (hnd : S 11 1 = nI nd) (h4 : nd ≤ 4) (g w : Int32) (L : gx_L) : Cf (d + 3) mX10_glass [.ref 0, .int g, .int w] S L (A_glass ng nd (S 12) (S 14) (S 17) (tG S 18) g w) S L := by
  refine ct_intro (loc := [some (.ref 0), some (.int g), some (.int w)]) (by decide) (Nat.le_of_ble_eq_true rfl) rfl ?_
  have hN := hng
  refine ev_ald0 dX10_glass_0 ?_
  refine ev_getr (r := 11) dX10_glass_1 fl_X10_30 rfl ?_
  refine ev_ild1 dX10_glass_4 ?_
  refine ev_V1i (M' := mX2_hasGlass) dX10_glass_5 lk_X10_126 vX2_hasGlass rfl (c_hasGlass (d + 2) hh11 _ _ _) (Nat.le_refl _) (Nat.le_of_ble_eq_true rfl) ?_
  refine ev_if_ne 13 dX10_glass_8 (by decide) (fun c_8 => ?_) (fun c_8 => ?_)
  · have b_8 := gx_b_y.mp c_8
    obtain ⟨j, hj, rfl, ej⟩ := isG_of (by omega) (hng ▸ b_8)
    refine ev_ild2 dX10_glass_13 ?_
    rcases Decidable.em (w = 0) with hw0 | hw0
    · subst hw0
      refine ev_tsw_in (off := 38) 52 dX10_glass_14 (by decide) (by decide) (by decide +kernel) (by decide) ?_
      refine ev_ald0 dX10_glass_52 ?_
      refine ev_getr (r := 11) dX10_glass_53 fl_X10_30 rfl ?_
      refine ev_getr (r := 12) dX10_glass_56 fl_X10_130 rfl ?_
      refine ev_ild1 dX10_glass_59 ?_
      refine ev_iald' dX10_glass_60 rfl (by omega) (by decide) ?_
      refine ev_iret dX10_glass_61 ?_
      exact ⟨_, rfl, by unfold A_glass; rw [if_pos (hN ▸ b_8), if_pos rfl, ej] <;> rfl, rfl, rfl⟩
    · skip
      rcases Decidable.em (w = 1) with hw1 | hw1
      · subst hw1
        refine ev_tsw_in (off := 48) 62 dX10_glass_14 (by decide) (by decide) (by decide +kernel) (by decide) ?_
        refine ev_ald0 dX10_glass_62 ?_
        refine ev_getr (r := 18) dX10_glass_63 fl_X10_38 rfl ?_
        refine ev_getr (r := 19) dX10_glass_66 fl_X10_134 rfl ?_
        refine ev_ild1 dX10_glass_69 ?_
        refine ev_iald' dX10_glass_70 rfl (by omega) (by decide) ?_
        refine ev_iret dX10_glass_71 ?_
        exact ⟨_, rfl, by unfold A_glass; rw [if_pos (hN ▸ b_8), if_neg (by decide), if_pos rfl, ej] <;> rfl, rfl, rfl⟩
      · skip
        rcases Decidable.em (w = 2) with hw2 | hw2
        · subst hw2
          refine ev_tsw_in (off := 58) 72 dX10_glass_14 (by decide) (by decide) (by decide +kernel) (by decide) ?_
          refine ev_ald0 dX10_glass_72 ?_
          refine ev_getr (r := 11) dX10_glass_73 fl_X10_30 rfl ?_
          refine ev_getr (r := 14) dX10_glass_76 fl_X10_137 rfl ?_
          refine ev_ild1 dX10_glass_79 ?_
          refine ev_iald' dX10_glass_80 rfl (by omega) (by decide) ?_
          refine ev_iret dX10_glass_81 ?_
          exact ⟨_, rfl, by unfold A_glass; rw [if_pos (hN ▸ b_8), if_neg (by decide), if_neg (by decide), if_pos rfl, ej] <;> rfl, rfl, rfl⟩
        · skip
          rcases Decidable.em (w = 3) with hw3 | hw3
          · subst hw3
            refine ev_tsw_in (off := 68) 82 dX10_glass_14 (by decide) (by decide) (by decide +kernel) (by decide) ?_
            refine ev_ald0 dX10_glass_82 ?_
            refine ev_getr (r := 18) dX10_glass_83 fl_X10_38 rfl ?_
            refine ev_getr (r := 20) dX10_glass_86 fl_X10_140 rfl ?_
            refine ev_ild1 dX10_glass_89 ?_
            refine ev_iald' dX10_glass_90 rfl (by omega) (by decide) ?_
            refine ev_iret dX10_glass_91 ?_
            exact ⟨_, rfl, by unfold A_glass; rw [if_pos (hN ▸ b_8), if_neg (by decide), if_neg (by decide), if_neg (by decide), if_pos rfl, ej] <;> rfl, rfl, rfl⟩
          · skip
            rcases Decidable.em (w = 4) with hw4 | hw4
            · subst hw4
              refine ev_tsw_in (off := 78) 92 dX10_glass_14 (by decide) (by decide) (by decide +kernel) (by decide) ?_
              refine ev_ald0 dX10_glass_92 ?_
              refine ev_getr (r := 18) dX10_glass_93 fl_X10_38 rfl ?_
              refine ev_ild1 dX10_glass_96 ?_
              refine ev_V1i (M' := mX9_taxOf) dX10_glass_97 lk_X10_143 vX9_taxOf rfl (c_taxOf (d + 1) tb18 (by omega) S L) (Nat.le_refl _) (Nat.le_of_ble_eq_true rfl) ?_
              refine ev_iret dX10_glass_100 ?_
              exact ⟨_, rfl, by unfold A_glass; rw [if_pos (hN ▸ b_8), if_neg (by decide), if_neg (by decide), if_neg (by decide), if_neg (by decide), if_pos rfl, ej] <;> rfl, rfl, rfl⟩
            · skip
              rcases Decidable.em (w = 5) with hw5 | hw5
              · subst hw5
                refine ev_tsw_in (off := 87) 101 dX10_glass_14 (by decide) (by decide) (by decide +kernel) (by decide) ?_
                refine ev_ald0 dX10_glass_101 ?_
                refine ev_getr (r := 11) dX10_glass_102 fl_X10_30 rfl ?_
                refine ev_ild1 dX10_glass_105 ?_
                refine ev_V1i (M' := mX2_sittersAt) dX10_glass_106 lk_X10_146 vX2_sittersAt rfl (c_sittersAt d hh11 S hng h5 hnd h4 _ L) (Nat.le_refl _) (Nat.le_of_ble_eq_true rfl) ?_
                refine ev_iret dX10_glass_109 ?_
                exact ⟨_, rfl, by unfold A_glass; rw [if_pos (hN ▸ b_8), if_neg (by decide), if_neg (by decide), if_neg (by decide), if_neg (by decide), if_neg (by decide), if_pos rfl]; first | rfl | (rw [hng, hnd]), rfl, rfl⟩
              · skip
                refine ev_tsw_out 110 dX10_glass_14 (sw_out6 hw0 hw1 hw2 hw3 hw4 hw5) (by decide) ?_
                refine ev_bipush (v := (-2)) dX10_glass_110 (by decide) ?_
                refine ev_iret dX10_glass_112 ?_
                exact ⟨_, rfl, by unfold A_glass; rw [if_pos (hN ▸ b_8), if_neg hw0, if_neg hw1, if_neg hw2, if_neg hw3, if_neg hw4, if_neg hw5], rfl, rfl⟩
  · have b_8 := gx_b_n.mp c_8
    refine ev_iconst (v := (-1)) dX10_glass_11 (by decide) ?_
    refine ev_iret dX10_glass_12 ?_
    exact ⟨_, rfl, (if_neg (hN ▸ b_8)).symm, rfl, rfl⟩
set_option maxRecDepth 10000 in
theorem x_drinker (d : Nat) (S : gx_S) {ng : Nat} (hng : S 11 0 = nI ng) (h5 : ng ≤ 5) {nd : Nat} (hnd : S 11 1 = nI nd) (h4 : nd ≤ 4) (hz : ∀ j i, ng ≤ i → bt (S 17 j) i = false) (g w : Int32) (L : gx_L) : Cf (d + 3) mX10_drinker [.ref 0, .int g, .int w] S L (A_drinker nd (S 16) (S 17) (tG S 18) g w) S L := by
  refine ct_intro (loc := [some (.ref 0), some (.int g), some (.int w)]) (by decide) (Nat.le_of_ble_eq_true rfl) rfl ?_
  have hN := hnd
  refine ev_ald0 dX10_drinker_0 ?_
  refine ev_getr (r := 11) dX10_drinker_1 fl_X10_30 rfl ?_
  refine ev_ild1 dX10_drinker_4 ?_
  refine ev_V1i (M' := mX2_hasDrinker) dX10_drinker_5 lk_X10_149 vX2_hasDrinker rfl (c_hasDrinker (d + 2) hh11 _ _ _) (Nat.le_refl _) (Nat.le_of_ble_eq_true rfl) ?_
  refine ev_if_ne 13 dX10_drinker_8 (by decide) (fun c_8 => ?_) (fun c_8 => ?_)
  · have b_8 := gx_b_y.mp c_8
    obtain ⟨j, hj, rfl, ej⟩ := isG_of (by omega) (hnd ▸ b_8)
    refine ev_ild2 dX10_drinker_13 ?_
    rcases Decidable.em (w = 0) with hw0 | hw0
    · subst hw0
      refine ev_tsw_in (off := 30) 44 dX10_drinker_14 (by decide) (by decide) (by decide +kernel) (by decide) ?_
      refine ev_ald0 dX10_drinker_44 ?_
      refine ev_getr (r := 18) dX10_drinker_45 fl_X10_38 rfl ?_
      refine ev_getr (r := 21) dX10_drinker_48 fl_X10_152 rfl ?_
      refine ev_ild1 dX10_drinker_51 ?_
      refine ev_iald' dX10_drinker_52 rfl (by omega) (by decide) ?_
      refine ev_iret dX10_drinker_53 ?_
      exact ⟨_, rfl, by unfold A_drinker; rw [if_pos (hN ▸ b_8), if_pos rfl, ej] <;> rfl, rfl, rfl⟩
    · skip
      rcases Decidable.em (w = 1) with hw1 | hw1
      · subst hw1
        refine ev_tsw_in (off := 40) 54 dX10_drinker_14 (by decide) (by decide) (by decide +kernel) (by decide) ?_
        refine ev_ald0 dX10_drinker_54 ?_
        refine ev_getr (r := 11) dX10_drinker_55 fl_X10_30 rfl ?_
        refine ev_getr (r := 16) dX10_drinker_58 fl_X10_155 rfl ?_
        refine ev_ild1 dX10_drinker_61 ?_
        refine ev_iald' dX10_drinker_62 rfl (by omega) (by decide) ?_
        refine ev_iret dX10_drinker_63 ?_
        exact ⟨_, rfl, by unfold A_drinker; rw [if_pos (hN ▸ b_8), if_neg (by decide), if_pos rfl, ej] <;> rfl, rfl, rfl⟩
      · skip
        rcases Decidable.em (w = 2) with hw2 | hw2
        · subst hw2
          refine ev_tsw_in (off := 50) 64 dX10_drinker_14 (by decide) (by decide) (by decide +kernel) (by decide) ?_
          refine ev_ald0 dX10_drinker_64 ?_
          refine ev_getr (r := 11) dX10_drinker_65 fl_X10_30 rfl ?_
          refine ev_getr (r := 17) dX10_drinker_68 fl_X10_158 rfl ?_
          refine ev_ild1 dX10_drinker_71 ?_
          refine ev_iald' dX10_drinker_72 rfl (by omega) (by decide) ?_
          refine ev_iret dX10_drinker_73 ?_
          exact ⟨_, rfl, by unfold A_drinker; rw [if_pos (hN ▸ b_8), if_neg (by decide), if_neg (by decide), if_pos rfl, ej] <;> rfl, rfl, rfl⟩
        · skip
          rcases Decidable.em (w = 3) with hw3 | hw3
          · subst hw3
            refine ev_tsw_in (off := 60) 74 dX10_drinker_14 (by decide) (by decide) (by decide +kernel) (by decide) ?_
            refine ev_ald0 dX10_drinker_74 ?_
            refine ev_getr (r := 18) dX10_drinker_75 fl_X10_38 rfl ?_
            refine ev_ild1 dX10_drinker_78 ?_
            refine ev_V1i (M' := mX9_firstGulp) dX10_drinker_79 lk_X10_161 vX9_firstGulp rfl (c_firstGulp d tb18 S hng h5 hnd h4 hj (hz j) L) (Nat.le_refl _) (Nat.le_of_ble_eq_true rfl) ?_
            refine ev_iret dX10_drinker_82 ?_
            exact ⟨_, rfl, by unfold A_drinker; rw [if_pos (hN ▸ b_8), if_neg (by decide), if_neg (by decide), if_neg (by decide), if_pos rfl, ej] <;> rfl, rfl, rfl⟩
          · skip
            refine ev_tsw_out 83 dX10_drinker_14 (sw_out4 hw0 hw1 hw2 hw3) (by decide) ?_
            refine ev_bipush (v := (-2)) dX10_drinker_83 (by decide) ?_
            refine ev_iret dX10_drinker_85 ?_
            exact ⟨_, rfl, by unfold A_drinker; rw [if_pos (hN ▸ b_8), if_neg hw0, if_neg hw1, if_neg hw2, if_neg hw3], rfl, rfl⟩
  · have b_8 := gx_b_n.mp c_8
    refine ev_iconst (v := (-1)) dX10_drinker_11 (by decide) ?_
    refine ev_iret dX10_drinker_12 ?_
    exact ⟨_, rfl, (if_neg (hN ▸ b_8)).symm, rfl, rfl⟩
