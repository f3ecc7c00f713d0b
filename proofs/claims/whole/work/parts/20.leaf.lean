def p_gulp (k t c : Int32) : Int32 := if (if k = 1 then (if c ≤ 0 then 0 else c - 1) else if k = 2 then c / 2 else if k = 3 then 0 else c) ≤ t then (if k = 1 then (if c ≤ 0 then 0 else c - 1) else if k = 2 then c / 2 else if k = 3 then 0 else c) else t
def isG (n g : Int32) : Bool := decide (¬ g < 0 ∧ ¬ n ≤ g)
def bt (b : Int32) (g : Nat) : Bool := decide (g < 32 ∧ ¬ ((b >>> (nI g &&& 31)) &&& 1 = 0))
set_option maxRecDepth 10000 in
theorem c_gulp (d : Nat) (k t c : Int32) (S : gx_S) (L : gx_L) : Cf d mX10_gulp [.int k, .int t, .int c] S L (p_gulp k t c) S L := by
  refine ct_intro (loc := [some (.int k), some (.int t), some (.int c), none]) (by decide) (Nat.le_of_ble_eq_true rfl) rfl ?_
  refine ev_ild2 dX10_gulp_0 ?_
  refine ev_ist3 dX10_gulp_1 ?_
  refine ev_ild0 dX10_gulp_2 ?_
  refine ev_iconst (v := 1) dX10_gulp_3 (by decide) ?_
  refine ev_icmp_ne 22 dX10_gulp_4 (by decide) (fun c_4 => ?_) (fun c_4 => ?_)
  · refine ev_ild0 dX10_gulp_22 ?_
    refine ev_iconst (v := 2) dX10_gulp_23 (by decide) ?_
    refine ev_icmp_ne 34 dX10_gulp_24 (by decide) (fun c_24 => ?_) (fun c_24 => ?_)
    · refine ev_ild0 dX10_gulp_34 ?_
      refine ev_iconst (v := 3) dX10_gulp_35 (by decide) ?_
      refine ev_icmp_ne 41 dX10_gulp_36 (by decide) (fun c_36 => ?_) (fun c_36 => ?_)
      · refine ev_ild1 dX10_gulp_41 ?_
        refine ev_ild3 dX10_gulp_42 ?_
        refine ev_icmp_ge 50 dX10_gulp_43 (by decide) (fun c_43 => ?_) (fun c_43 => ?_)
        · refine ev_ild3 dX10_gulp_50 ?_
          refine ev_iret dX10_gulp_51 ?_
          exact ⟨_, rfl, by first | (simp [p_gulp, *]; done) | simp_all [p_gulp], rfl, rfl⟩
        · refine ev_ild1 dX10_gulp_46 ?_
          refine ev_goto 51 dX10_gulp_47 (by decide) ?_
          refine ev_iret dX10_gulp_51 ?_
          exact ⟨_, rfl, by first | (simp [p_gulp, *]; done) | simp_all [p_gulp], rfl, rfl⟩
      · refine ev_iconst (v := 0) dX10_gulp_39 (by decide) ?_
        refine ev_ist3 dX10_gulp_40 ?_
        refine ev_ild1 dX10_gulp_41 ?_
        refine ev_ild3 dX10_gulp_42 ?_
        refine ev_icmp_ge 50 dX10_gulp_43 (by decide) (fun c_43 => ?_) (fun c_43 => ?_)
        · refine ev_ild3 dX10_gulp_50 ?_
          refine ev_iret dX10_gulp_51 ?_
          exact ⟨_, rfl, by first | (simp [p_gulp, *]; done) | simp_all [p_gulp], rfl, rfl⟩
        · refine ev_ild1 dX10_gulp_46 ?_
          refine ev_goto 51 dX10_gulp_47 (by decide) ?_
          refine ev_iret dX10_gulp_51 ?_
          exact ⟨_, rfl, by first | (simp [p_gulp, *]; done) | simp_all [p_gulp], rfl, rfl⟩
    · refine ev_ild2 dX10_gulp_27 ?_
      refine ev_iconst (v := 2) dX10_gulp_28 (by decide) ?_
      refine ev_idiv dX10_gulp_29 (by decide) ?_
      refine ev_ist3 dX10_gulp_30 ?_
      refine ev_goto 41 dX10_gulp_31 (by decide) ?_
      refine ev_ild1 dX10_gulp_41 ?_
      refine ev_ild3 dX10_gulp_42 ?_
      refine ev_icmp_ge 50 dX10_gulp_43 (by decide) (fun c_43 => ?_) (fun c_43 => ?_)
      · refine ev_ild3 dX10_gulp_50 ?_
        refine ev_iret dX10_gulp_51 ?_
        exact ⟨_, rfl, by first | (simp [p_gulp, *]; done) | simp_all [p_gulp], rfl, rfl⟩
      · refine ev_ild1 dX10_gulp_46 ?_
        refine ev_goto 51 dX10_gulp_47 (by decide) ?_
        refine ev_iret dX10_gulp_51 ?_
        exact ⟨_, rfl, by first | (simp [p_gulp, *]; done) | simp_all [p_gulp], rfl, rfl⟩
  · refine ev_ild2 dX10_gulp_7 ?_
    refine ev_if_le 17 dX10_gulp_8 (by decide) (fun c_8 => ?_) (fun c_8 => ?_)
    · refine ev_iconst (v := 0) dX10_gulp_17 (by decide) ?_
      refine ev_ist3 dX10_gulp_18 ?_
      refine ev_goto 41 dX10_gulp_19 (by decide) ?_
      refine ev_ild1 dX10_gulp_41 ?_
      refine ev_ild3 dX10_gulp_42 ?_
      refine ev_icmp_ge 50 dX10_gulp_43 (by decide) (fun c_43 => ?_) (fun c_43 => ?_)
      · refine ev_ild3 dX10_gulp_50 ?_
        refine ev_iret dX10_gulp_51 ?_
        exact ⟨_, rfl, by first | (simp [p_gulp, *]; done) | simp_all [p_gulp], rfl, rfl⟩
      · refine ev_ild1 dX10_gulp_46 ?_
        refine ev_goto 51 dX10_gulp_47 (by decide) ?_
        refine ev_iret dX10_gulp_51 ?_
        exact ⟨_, rfl, by first | (simp [p_gulp, *]; done) | simp_all [p_gulp], rfl, rfl⟩
    · refine ev_ild2 dX10_gulp_11 ?_
      refine ev_iconst (v := 1) dX10_gulp_12 (by decide) ?_
      refine ev_isub dX10_gulp_13 ?_
      refine ev_goto 18 dX10_gulp_14 (by decide) ?_
      refine ev_ist3 dX10_gulp_18 ?_
      refine ev_goto 41 dX10_gulp_19 (by decide) ?_
      refine ev_ild1 dX10_gulp_41 ?_
      refine ev_ild3 dX10_gulp_42 ?_
      refine ev_icmp_ge 50 dX10_gulp_43 (by decide) (fun c_43 => ?_) (fun c_43 => ?_)
      · refine ev_ild3 dX10_gulp_50 ?_
        refine ev_iret dX10_gulp_51 ?_
        exact ⟨_, rfl, by first | (simp [p_gulp, *]; done) | simp_all [p_gulp], rfl, rfl⟩
      · refine ev_ild1 dX10_gulp_46 ?_
        refine ev_goto 51 dX10_gulp_47 (by decide) ?_
        refine ev_iret dX10_gulp_51 ?_
        exact ⟨_, rfl, by first | (simp [p_gulp, *]; done) | simp_all [p_gulp], rfl, rfl⟩
set_option maxRecDepth 10000 in
theorem c_hasBit (d : Nat) (b : Int32) (g : Nat) (S : gx_S) (L : gx_L) (hg : g < 32 := by omega) : Cf d mX10_hasBit [.int b, .int (nI g)] S L (gx_b (bt b g)) S L := by
  refine ct_intro (loc := [some (.int b), some (.int (nI g))]) (by decide) (Nat.le_of_ble_eq_true rfl) rfl ?_
  refine ev_ild0 dX10_hasBit_0 ?_
  refine ev_ild1 dX10_hasBit_1 ?_
  refine ev_ishr dX10_hasBit_2 ?_
  refine ev_iconst (v := 1) dX10_hasBit_3 (by decide) ?_
  refine ev_iand dX10_hasBit_4 ?_
  refine ev_if_eq 12 dX10_hasBit_5 (by decide) (fun c_5 => ?_) (fun c_5 => ?_)
  · refine ev_iconst (v := 0) dX10_hasBit_12 (by decide) ?_
    refine ev_zret dX10_hasBit_13 ?_ ?_
    · rfl
    · exact ⟨_, rfl, by first | (simp [gx_b, bt, *]; done) | simp_all [gx_b, bt], rfl, rfl⟩
  · refine ev_iconst (v := 1) dX10_hasBit_8 (by decide) ?_
    refine ev_goto 13 dX10_hasBit_9 (by decide) ?_
    refine ev_zret dX10_hasBit_13 ?_ ?_
    · rfl
    · exact ⟨_, rfl, by first | (simp [gx_b, bt, *]; done) | simp_all [gx_b, bt], rfl, rfl⟩
set_option maxRecDepth 10000 in
theorem c_hasGlass (d : Nat) {h : Nat} (he : hh h) (g : Int32) (S : gx_S) (L : gx_L) : Cf d mX2_hasGlass [.ref h, .int g] S L (gx_b (isG (S h 0) g)) S L := by
  refine ct_intro (loc := [some (.ref h), some (.int g)]) (by decide) (Nat.le_of_ble_eq_true rfl) rfl ?_
  refine ev_ild1 dX2_hasGlass_0 ?_
  refine ev_if_lt 16 dX2_hasGlass_1 (by decide) (fun c_1 => ?_) (fun c_1 => ?_)
  · refine ev_iconst (v := 0) dX2_hasGlass_16 (by decide) ?_
    refine ev_zret dX2_hasGlass_17 ?_ ?_
    · rfl
    · exact ⟨_, rfl, by first | (simp [gx_b, isG, *]; done) | simp_all [gx_b, isG], rfl, rfl⟩
  · refine ev_ild1 dX2_hasGlass_4 ?_
    refine ev_ald0 dX2_hasGlass_5 ?_
    refine ev_geti dX2_hasGlass_6 fl_X2_30 (tp2_0 he) ?_
    refine ev_icmp_ge 16 dX2_hasGlass_9 (by decide) (fun c_9 => ?_) (fun c_9 => ?_)
    · refine ev_iconst (v := 0) dX2_hasGlass_16 (by decide) ?_
      refine ev_zret dX2_hasGlass_17 ?_ ?_
      · rfl
      · exact ⟨_, rfl, by first | (simp [gx_b, isG, *]; done) | simp_all [gx_b, isG], rfl, rfl⟩
    · refine ev_iconst (v := 1) dX2_hasGlass_12 (by decide) ?_
      refine ev_goto 17 dX2_hasGlass_13 (by decide) ?_
      refine ev_zret dX2_hasGlass_17 ?_ ?_
      · rfl
      · exact ⟨_, rfl, by first | (simp [gx_b, isG, *]; done) | simp_all [gx_b, isG], rfl, rfl⟩
set_option maxRecDepth 10000 in
theorem c_hasDrinker (d : Nat) {h : Nat} (he : hh h) (g : Int32) (S : gx_S) (L : gx_L) : Cf d mX2_hasDrinker [.ref h, .int g] S L (gx_b (isG (S h 1) g)) S L := by
  refine ct_intro (loc := [some (.ref h), some (.int g)]) (by decide) (Nat.le_of_ble_eq_true rfl) rfl ?_
  refine ev_ild1 dX2_hasDrinker_0 ?_
  refine ev_if_lt 16 dX2_hasDrinker_1 (by decide) (fun c_1 => ?_) (fun c_1 => ?_)
  · refine ev_iconst (v := 0) dX2_hasDrinker_16 (by decide) ?_
    refine ev_zret dX2_hasDrinker_17 ?_ ?_
    · rfl
    · exact ⟨_, rfl, by first | (simp [gx_b, isG, *]; done) | simp_all [gx_b, isG], rfl, rfl⟩
  · refine ev_ild1 dX2_hasDrinker_4 ?_
    refine ev_ald0 dX2_hasDrinker_5 ?_
    refine ev_geti dX2_hasDrinker_6 fl_X2_34 (tp2_1 he) ?_
    refine ev_icmp_ge 16 dX2_hasDrinker_9 (by decide) (fun c_9 => ?_) (fun c_9 => ?_)
    · refine ev_iconst (v := 0) dX2_hasDrinker_16 (by decide) ?_
      refine ev_zret dX2_hasDrinker_17 ?_ ?_
      · rfl
      · exact ⟨_, rfl, by first | (simp [gx_b, isG, *]; done) | simp_all [gx_b, isG], rfl, rfl⟩
    · refine ev_iconst (v := 1) dX2_hasDrinker_12 (by decide) ?_
      refine ev_goto 17 dX2_hasDrinker_13 (by decide) ?_
      refine ev_zret dX2_hasDrinker_17 ?_ ?_
      · rfl
      · exact ⟨_, rfl, by first | (simp [gx_b, isG, *]; done) | simp_all [gx_b, isG], rfl, rfl⟩
def p_tax (kind measure content age : Int32) : Int32 := 
  let tax0 : Int32 := if age < 3 then content else 0
  let tax : Int32 := if kind = 3 then (if 0 < tax0 - 2 then tax0 - 2 else 0) else tax0
  if ¬ tax ≤ 0 ∧ ¬ 2 * content < measure then tax + 2 else tax
set_option maxRecDepth 10000 in
theorem c_taxOf (d : Nat) {t g : Nat} (ht : tb t) (hg : g < 5) (S : gx_S) (L : gx_L) : Cf (d + 1) mX9_taxOf [.ref t, .int (nI g)] S L (p_tax (S 14 g) (S 12 g) (S (t + 1) g) (S (t + 2) g)) S L := by
  refine ct_intro (loc := [some (.ref t), some (.int (nI g)), none, none, none]) (by decide) (Nat.le_of_ble_eq_true rfl) rfl ?_
  refine ev_ald0 dX9_taxOf_0 ?_
  refine ev_getr (r := t + 1) dX9_taxOf_1 fl_X9_9 (tp9_1 ht) ?_
  refine ev_ild1 dX9_taxOf_4 ?_
  refine ev_iald' dX9_taxOf_5 (ar9_1 ht) (by omega) (by decide) ?_
  refine ev_ist2 dX9_taxOf_6 ?_
  refine ev_ald0 dX9_taxOf_7 ?_
  refine ev_getr (r := t + 2) dX9_taxOf_8 fl_X9_15 (tp9_2 ht) ?_
  refine ev_ild1 dX9_taxOf_11 ?_
  refine ev_iald' dX9_taxOf_12 (ar9_2 ht) (by omega) (by decide) ?_
  refine ev_iconst (v := 3) dX9_taxOf_13 (by decide) ?_
  refine ev_icmp_lt 21 dX9_taxOf_14 (by decide) (fun c_14 => ?_) (fun c_14 => ?_)
  · refine ev_ild2 dX9_taxOf_21 ?_
    refine ev_ist3 dX9_taxOf_22 ?_
    refine ev_ald0 dX9_taxOf_23 ?_
    refine ev_getr (r := 11) dX9_taxOf_24 fl_X9_21 (tp9_0 ht) ?_
    refine ev_getr (r := 14) dX9_taxOf_27 fl_X9_43 rfl ?_
    refine ev_ild1 dX9_taxOf_30 ?_
    refine ev_iald' dX9_taxOf_31 rfl (by omega) (by decide) ?_
    refine ev_iconst (v := 3) dX9_taxOf_32 (by decide) ?_
    refine ev_icmp_ne 44 dX9_taxOf_33 (by decide) (fun c_33 => ?_) (fun c_33 => ?_)
    · refine ev_iconst (v := 2) dX9_taxOf_44 (by decide) ?_
      refine ev_ild2 dX9_taxOf_45 ?_
      refine ev_imul dX9_taxOf_46 ?_
      refine ev_ald0 dX9_taxOf_47 ?_
      refine ev_getr (r := 11) dX9_taxOf_48 fl_X9_21 (tp9_0 ht) ?_
      refine ev_getr (r := 12) dX9_taxOf_51 fl_X9_52 rfl ?_
      refine ev_ild1 dX9_taxOf_54 ?_
      refine ev_iald' dX9_taxOf_55 rfl (by omega) (by decide) ?_
      refine ev_icmp_lt 63 dX9_taxOf_56 (by decide) (fun c_56 => ?_) (fun c_56 => ?_)
      · refine ev_iconst (v := 0) dX9_taxOf_63 (by decide) ?_
        refine ev_ist4 dX9_taxOf_64 ?_
        refine ev_ild3 dX9_taxOf_66 ?_
        refine ev_if_le 81 dX9_taxOf_67 (by decide) (fun c_67 => ?_) (fun c_67 => ?_)
        · refine ev_ild3 dX9_taxOf_81 ?_
          refine ev_iret dX9_taxOf_82 ?_
          exact ⟨_, rfl, by first | (simp [p_tax, *]; done) | simp_all [p_tax], rfl, rfl⟩
        · refine ev_ild4 dX9_taxOf_70 ?_
          refine ev_if_eq_t 81 dX9_taxOf_72 (by decide) (by decide) ?_
          refine ev_ild3 dX9_taxOf_81 ?_
          refine ev_iret dX9_taxOf_82 ?_
          exact ⟨_, rfl, by first | (simp [p_tax, *]; done) | simp_all [p_tax], rfl, rfl⟩
      · refine ev_iconst (v := 1) dX9_taxOf_59 (by decide) ?_
        refine ev_goto 64 dX9_taxOf_60 (by decide) ?_
        refine ev_ist4 dX9_taxOf_64 ?_
        refine ev_ild3 dX9_taxOf_66 ?_
        refine ev_if_le 81 dX9_taxOf_67 (by decide) (fun c_67 => ?_) (fun c_67 => ?_)
        · refine ev_ild3 dX9_taxOf_81 ?_
          refine ev_iret dX9_taxOf_82 ?_
          exact ⟨_, rfl, by first | (simp [p_tax, *]; done) | simp_all [p_tax], rfl, rfl⟩
        · refine ev_ild4 dX9_taxOf_70 ?_
          refine ev_if_eq_f 81 dX9_taxOf_72 (by decide) (by decide) ?_
          refine ev_ild3 dX9_taxOf_75 ?_
          refine ev_iconst (v := 2) dX9_taxOf_76 (by decide) ?_
          refine ev_iadd dX9_taxOf_77 ?_
          refine ev_goto 82 dX9_taxOf_78 (by decide) ?_
          refine ev_iret dX9_taxOf_82 ?_
          exact ⟨_, rfl, by first | (simp [p_tax, *]; done) | simp_all [p_tax], rfl, rfl⟩
    · refine ev_iconst (v := 0) dX9_taxOf_36 (by decide) ?_
      refine ev_ild3 dX9_taxOf_37 ?_
      refine ev_iconst (v := 2) dX9_taxOf_38 (by decide) ?_
      refine ev_isub dX9_taxOf_39 ?_
      refine ev_max dX9_taxOf_40 lk_X9_46 (Nat.le_add_left 1 _) (Nat.le_of_ble_eq_true rfl) ?_
      refine ev_ist3 dX9_taxOf_43 ?_
      refine ev_iconst (v := 2) dX9_taxOf_44 (by decide) ?_
      refine ev_ild2 dX9_taxOf_45 ?_
      refine ev_imul dX9_taxOf_46 ?_
      refine ev_ald0 dX9_taxOf_47 ?_
      refine ev_getr (r := 11) dX9_taxOf_48 fl_X9_21 (tp9_0 ht) ?_
      refine ev_getr (r := 12) dX9_taxOf_51 fl_X9_52 rfl ?_
      refine ev_ild1 dX9_taxOf_54 ?_
      refine ev_iald' dX9_taxOf_55 rfl (by omega) (by decide) ?_
      refine ev_icmp_lt 63 dX9_taxOf_56 (by decide) (fun c_56 => ?_) (fun c_56 => ?_)
      · refine ev_iconst (v := 0) dX9_taxOf_63 (by decide) ?_
        refine ev_ist4 dX9_taxOf_64 ?_
        refine ev_ild3 dX9_taxOf_66 ?_
        refine ev_if_le 81 dX9_taxOf_67 (by decide) (fun c_67 => ?_) (fun c_67 => ?_)
        · refine ev_ild3 dX9_taxOf_81 ?_
          refine ev_iret dX9_taxOf_82 ?_
          exact ⟨_, rfl, by first | (simp [p_tax, *]; done) | simp_all [p_tax], rfl, rfl⟩
        · refine ev_ild4 dX9_taxOf_70 ?_
          refine ev_if_eq_t 81 dX9_taxOf_72 (by decide) (by decide) ?_
          refine ev_ild3 dX9_taxOf_81 ?_
          refine ev_iret dX9_taxOf_82 ?_
          exact ⟨_, rfl, by first | (simp [p_tax, *]; done) | simp_all [p_tax], rfl, rfl⟩
      · refine ev_iconst (v := 1) dX9_taxOf_59 (by decide) ?_
        refine ev_goto 64 dX9_taxOf_60 (by decide) ?_
        refine ev_ist4 dX9_taxOf_64 ?_
        refine ev_ild3 dX9_taxOf_66 ?_
        refine ev_if_le 81 dX9_taxOf_67 (by decide) (fun c_67 => ?_) (fun c_67 => ?_)
        · refine ev_ild3 dX9_taxOf_81 ?_
          refine ev_iret dX9_taxOf_82 ?_
          exact ⟨_, rfl, by first | (simp [p_tax, *]; done) | simp_all [p_tax], rfl, rfl⟩
        · refine ev_ild4 dX9_taxOf_70 ?_
          refine ev_if_eq_f 81 dX9_taxOf_72 (by decide) (by decide) ?_
          refine ev_ild3 dX9_taxOf_75 ?_
          refine ev_iconst (v := 2) dX9_taxOf_76 (by decide) ?_
          refine ev_iadd dX9_taxOf_77 ?_
          refine ev_goto 82 dX9_taxOf_78 (by decide) ?_
          refine ev_iret dX9_taxOf_82 ?_
          exact ⟨_, rfl, by first | (simp [p_tax, *]; done) | simp_all [p_tax], rfl, rfl⟩
  · refine ev_iconst (v := 0) dX9_taxOf_17 (by decide) ?_
    refine ev_goto 22 dX9_taxOf_18 (by decide) ?_
    refine ev_ist3 dX9_taxOf_22 ?_
    refine ev_ald0 dX9_taxOf_23 ?_
    refine ev_getr (r := 11) dX9_taxOf_24 fl_X9_21 (tp9_0 ht) ?_
    refine ev_getr (r := 14) dX9_taxOf_27 fl_X9_43 rfl ?_
    refine ev_ild1 dX9_taxOf_30 ?_
    refine ev_iald' dX9_taxOf_31 rfl (by omega) (by decide) ?_
    refine ev_iconst (v := 3) dX9_taxOf_32 (by decide) ?_
    refine ev_icmp_ne 44 dX9_taxOf_33 (by decide) (fun c_33 => ?_) (fun c_33 => ?_)
    · refine ev_iconst (v := 2) dX9_taxOf_44 (by decide) ?_
      refine ev_ild2 dX9_taxOf_45 ?_
      refine ev_imul dX9_taxOf_46 ?_
      refine ev_ald0 dX9_taxOf_47 ?_
      refine ev_getr (r := 11) dX9_taxOf_48 fl_X9_21 (tp9_0 ht) ?_
      refine ev_getr (r := 12) dX9_taxOf_51 fl_X9_52 rfl ?_
      refine ev_ild1 dX9_taxOf_54 ?_
      refine ev_iald' dX9_taxOf_55 rfl (by omega) (by decide) ?_
      refine ev_icmp_lt 63 dX9_taxOf_56 (by decide) (fun c_56 => ?_) (fun c_56 => ?_)
      · refine ev_iconst (v := 0) dX9_taxOf_63 (by decide) ?_
        refine ev_ist4 dX9_taxOf_64 ?_
        refine ev_ild3 dX9_taxOf_66 ?_
        refine ev_if_le_t 81 dX9_taxOf_67 (by decide) (by decide) ?_
        refine ev_ild3 dX9_taxOf_81 ?_
        refine ev_iret dX9_taxOf_82 ?_
        exact ⟨_, rfl, by first | (simp [p_tax, *]; done) | simp_all [p_tax], rfl, rfl⟩
      · refine ev_iconst (v := 1) dX9_taxOf_59 (by decide) ?_
        refine ev_goto 64 dX9_taxOf_60 (by decide) ?_
        refine ev_ist4 dX9_taxOf_64 ?_
        refine ev_ild3 dX9_taxOf_66 ?_
        refine ev_if_le_t 81 dX9_taxOf_67 (by decide) (by decide) ?_
        refine ev_ild3 dX9_taxOf_81 ?_
        refine ev_iret dX9_taxOf_82 ?_
        exact ⟨_, rfl, by first | (simp [p_tax, *]; done) | simp_all [p_tax], rfl, rfl⟩
    · refine ev_iconst (v := 0) dX9_taxOf_36 (by decide) ?_
      refine ev_ild3 dX9_taxOf_37 ?_
      refine ev_iconst (v := 2) dX9_taxOf_38 (by decide) ?_
      refine ev_isub dX9_taxOf_39 ?_
      refine ev_max dX9_taxOf_40 lk_X9_46 (Nat.le_add_left 1 _) (Nat.le_of_ble_eq_true rfl) ?_
      refine ev_ist3 dX9_taxOf_43 ?_
      refine ev_iconst (v := 2) dX9_taxOf_44 (by decide) ?_
      refine ev_ild2 dX9_taxOf_45 ?_
      refine ev_imul dX9_taxOf_46 ?_
      refine ev_ald0 dX9_taxOf_47 ?_
      refine ev_getr (r := 11) dX9_taxOf_48 fl_X9_21 (tp9_0 ht) ?_
      refine ev_getr (r := 12) dX9_taxOf_51 fl_X9_52 rfl ?_
      refine ev_ild1 dX9_taxOf_54 ?_
      refine ev_iald' dX9_taxOf_55 rfl (by omega) (by decide) ?_
      refine ev_icmp_lt 63 dX9_taxOf_56 (by decide) (fun c_56 => ?_) (fun c_56 => ?_)
      · refine ev_iconst (v := 0) dX9_taxOf_63 (by decide) ?_
        refine ev_ist4 dX9_taxOf_64 ?_
        refine ev_ild3 dX9_taxOf_66 ?_
        refine ev_if_le 81 dX9_taxOf_67 (by decide) (fun c_67 => ?_) (fun c_67 => ?_)
        · refine ev_ild3 dX9_taxOf_81 ?_
          refine ev_iret dX9_taxOf_82 ?_
          exact ⟨_, rfl, by first | (simp [p_tax, *]; done) | simp_all [p_tax], rfl, rfl⟩
        · refine ev_ild4 dX9_taxOf_70 ?_
          refine ev_if_eq_t 81 dX9_taxOf_72 (by decide) (by decide) ?_
          refine ev_ild3 dX9_taxOf_81 ?_
          refine ev_iret dX9_taxOf_82 ?_
          exact ⟨_, rfl, by first | (simp [p_tax, *]; done) | simp_all [p_tax], rfl, rfl⟩
      · refine ev_iconst (v := 1) dX9_taxOf_59 (by decide) ?_
        refine ev_goto 64 dX9_taxOf_60 (by decide) ?_
        refine ev_ist4 dX9_taxOf_64 ?_
        refine ev_ild3 dX9_taxOf_66 ?_
        refine ev_if_le 81 dX9_taxOf_67 (by decide) (fun c_67 => ?_) (fun c_67 => ?_)
        · refine ev_ild3 dX9_taxOf_81 ?_
          refine ev_iret dX9_taxOf_82 ?_
          exact ⟨_, rfl, by first | (simp [p_tax, *]; done) | simp_all [p_tax], rfl, rfl⟩
        · refine ev_ild4 dX9_taxOf_70 ?_
          refine ev_if_eq_f 81 dX9_taxOf_72 (by decide) (by decide) ?_
          refine ev_ild3 dX9_taxOf_75 ?_
          refine ev_iconst (v := 2) dX9_taxOf_76 (by decide) ?_
          refine ev_iadd dX9_taxOf_77 ?_
          refine ev_goto 82 dX9_taxOf_78 (by decide) ?_
          refine ev_iret dX9_taxOf_82 ?_
          exact ⟨_, rfl, by first | (simp [p_tax, *]; done) | simp_all [p_tax], rfl, rfl⟩
set_option maxRecDepth 10000 in
theorem c_roomIn (d : Nat) {t g : Nat} (ht : tb t) (hg : g < 5) (S : gx_S) (L : gx_L) : Cf d mX9_roomIn [.ref t, .int (nI g)] S L (S 12 g - S (t + 1) g) S L := by
  refine ct_intro (loc := [some (.ref t), some (.int (nI g))]) (by decide) (Nat.le_of_ble_eq_true rfl) rfl ?_
  refine ev_ald0 dX9_roomIn_0 ?_
  refine ev_getr (r := 11) dX9_roomIn_1 fl_X9_21 (tp9_0 ht) ?_
  refine ev_getr (r := 12) dX9_roomIn_4 fl_X9_52 rfl ?_
  refine ev_ild1 dX9_roomIn_7 ?_
  refine ev_iald' dX9_roomIn_8 rfl (by omega) (by decide) ?_
  refine ev_ald0 dX9_roomIn_9 ?_
  refine ev_getr (r := t + 1) dX9_roomIn_10 fl_X9_9 (tp9_1 ht) ?_
  refine ev_ild1 dX9_roomIn_13 ?_
  refine ev_iald' dX9_roomIn_14 (ar9_1 ht) (by omega) (by decide) ?_
  refine ev_isub dX9_roomIn_15 ?_
  refine ev_iret dX9_roomIn_16 ?_
  exact ⟨_, rfl, rfl, rfl, rfl⟩
theorem isG_of {n : Nat} {g : Int32} (hn : n < 2 ^ 31) (h : isG (nI n) g = true) : ∃ j, j < n ∧ g = nI j ∧ (nI j).toNatClampNeg = j := by
  have h1 := of_decide_eq_true h
  obtain ⟨j, hj, rfl⟩ := nI_of h1.1
  refine ⟨j, ?_, rfl, nI_clamp hj⟩
  rcases Nat.lt_or_ge j n with h2 | h2
  · exact h2
  · exact absurd (nI_le h2 hj) h1.2
theorem isG_in {n j : Nat} (hn : n < 2 ^ 31) (hj : j < n) : isG (nI n) (nI j) = true := decide_eq_true ⟨nI_pos (by omega), nI_ge hj hn⟩
theorem isG_out {n j : Nat} (hj : j < 2 ^ 31) (h : n ≤ j) : isG (nI n) (nI j) = false := decide_eq_false (fun h9 => h9.2 (nI_le h hj))
