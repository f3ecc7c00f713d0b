/-! ===== helpers of the walks ===== -/
section GXH
variable {M : gx_M} {d pc : Nat} {loc : List (Option Value)} {st : List Value} {S : gx_S} {L : gx_L} {Q : Option Value → gx_S → gx_L → Prop}
theorem ev_iald2 {o n : Nat} (j : Nat) {i : Int32} (hd : decode M.2.1 pc = .ok (.iaload, 1)) (ha : gx_ar o = some (0, n)) (hi : i = nI j) (hj : j < n) (hn : n < 2 ^ 31) (kk : Ev M d (pc + 1) loc (.int (S o j) :: st) S L Q) : Ev M d pc loc (.int i :: .ref o :: st) S L Q := by
  subst hi
  exact ev_iald' hd ha hj hn kk
theorem ev_iast2 {o n : Nat} (j : Nat) {i x : Int32} (hd : decode M.2.1 pc = .ok (.iastore, 1)) (ha : gx_ar o = some (0, n)) (hi : i = nI j) (hj : j < n) (hn : n < 2 ^ 31) (kk : Ev M d (pc + 1) loc st (gx_u2 S o j x) L Q) : Ev M d pc loc (.int x :: .int i :: .ref o :: st) S L Q := by
  subst hi
  exact ev_iast' hd ha hj hn kk
theorem ev_zald2 {o n : Nat} (j : Nat) {i : Int32} (hd : decode M.2.1 pc = .ok (.baload, 1)) (ha : gx_ar o = some (1, n)) (hi : i = nI j) (hj : j < n) (hn : n < 2 ^ 31) (kk : Ev M d (pc + 1) loc (.int (S o j) :: st) S L Q) : Ev M d pc loc (.int i :: .ref o :: st) S L Q := by
  subst hi
  refine ev_zald hd ha (vp_in_nI hj hn) ?_
  rw [nI_clamp (Nat.lt_trans hj hn)]
  exact kk
theorem ev_zast2 {o n : Nat} (j : Nat) {i x : Int32} (hd : decode M.2.1 pc = .ok (.bastore, 1)) (ha : gx_ar o = some (1, n)) (hi : i = nI j) (hj : j < n) (hn : n < 2 ^ 31) (kk : Ev M d (pc + 1) loc st (gx_u2 S o j (vp_nar .boolean x)) L Q) : Ev M d pc loc (.int x :: .int i :: .ref o :: st) S L Q := by
  subst hi
  refine ev_zast hd ha (vp_in_nI hj hn) ?_
  rw [nI_clamp (Nat.lt_trans hj hn)]
  exact kk
/-- the same walk from an equal memory -/
theorem ev_mem {S' : gx_S} (h : S = S') (kk : Ev M d pc loc st S' L Q) : Ev M d pc loc st S L Q := h ▸ kk
theorem ev_loc {loc' : List (Option Value)} (h : loc = loc') (kk : Ev M d pc loc' st S L Q) : Ev M d pc loc st S L Q := h ▸ kk
theorem ev_stk {st' : List Value} (h : st = st') (kk : Ev M d pc loc st' S L Q) : Ev M d pc loc st S L Q := h ▸ kk
end GXH
def gx_b (c : Bool) : Int32 := if c = true then 1 else 0
theorem gx_b_t : gx_b true = 1 := rfl
theorem gx_b_f : gx_b false = 0 := rfl
theorem gx_b_z {c : Bool} : gx_b c = 0 ↔ c = false := by cases c <;> decide
theorem gx_b_nz {c : Bool} : ¬ gx_b c = 0 ↔ c = true := by cases c <;> decide
theorem gx_b_n {c : Bool} : gx_b c = 0 ↔ ¬ c = true := by cases c <;> decide
theorem gx_b_y {c : Bool} : ¬ gx_b c = 0 ↔ c = true := by cases c <;> decide
theorem gx_b_nar (c : Bool) : narrow .boolean (.int (gx_b c)) = .int (gx_b c) := by cases c <;> rfl
theorem u2_at (S : gx_S) (o k : Nat) (x : Int32) : gx_u2 S o k x o k = x := by
  unfold gx_u2
  rw [gx_up_at]
  unfold upd
  rw [if_pos rfl]
theorem u2_k (S : gx_S) (o : Nat) {k j : Nat} (x : Int32) (h : j ≠ k) : gx_u2 S o k x o j = S o j := by
  unfold gx_u2
  rw [gx_up_at]
  unfold upd
  rw [if_neg h]
theorem u2_o (S : gx_S) {o i : Nat} (k : Nat) (x : Int32) (h : i ≠ o) : gx_u2 S o k x i = S i := gx_up_ne S _ h
theorem u2_row (S : gx_S) (o k : Nat) (x : Int32) : gx_u2 S o k x o = upd (S o) k x := gx_up_at S o _
theorem upd_at (f : Nat → Int32) (k : Nat) (x : Int32) : upd f k x k = x := if_pos rfl
theorem upd_ne (f : Nat → Int32) {k j : Nat} (x : Int32) (h : j ≠ k) : upd f k x j = f j := if_neg h
theorem upd_self (f : Nat → Int32) (k : Nat) : upd f k (f k) = f := by
  funext j
  unfold upd
  split
  · rename_i h; rw [h]
  · rfl
theorem upd_upd (f : Nat → Int32) (k : Nat) (x y : Int32) : upd (upd f k x) k y = upd f k y := by
  funext j
  unfold upd
  split <;> rfl
theorem up_up (S : gx_S) (k : Nat) (f g : Nat → Int32) : gx_up (gx_up S k f) k g = gx_up S k g := by
  funext i
  unfold gx_up
  split <;> rfl
theorem up_self (S : gx_S) (k : Nat) : gx_up S k (S k) = S := by
  funext i
  unfold gx_up
  split
  · rename_i h; rw [h]
  · rfl
theorem up_comm (S : gx_S) {k i : Nat} (f g : Nat → Int32) (h : k ≠ i) : gx_up (gx_up S k f) i g = gx_up (gx_up S i g) k f := by
  funext j
  unfold gx_up
  by_cases h1 : j = i
  · subst h1
    rw [if_pos rfl, if_neg (Ne.symm h), if_pos rfl]
  · by_cases h2 : j = k
    · subst h2
      rw [if_neg h1, if_pos rfl, if_pos rfl]
    · rw [if_neg h1, if_neg h2, if_neg h2, if_neg h1]
/-! ===== which cells are tables, houses, shelves ===== -/
def tb (t : Nat) : Prop := t = 18 ∨ t = 22 ∨ t = 26
def hh (h : Nat) : Prop := h = 4 ∨ h = 11
theorem tb18 : tb 18 := Or.inl rfl
theorem tb22 : tb 22 := Or.inr (Or.inl rfl)
theorem tb26 : tb 26 := Or.inr (Or.inr rfl)
theorem hh4 : hh 4 := Or.inl rfl
theorem hh11 : hh 11 := Or.inr rfl
theorem tp9_0 {t : Nat} (h : tb t) : gx_tp t 9 0 = some (11 + 2) := by rcases h with rfl | rfl | rfl <;> rfl
theorem tp9_1 {t : Nat} (h : tb t) : gx_tp t 9 1 = some (t + 1 + 2) := by rcases h with rfl | rfl | rfl <;> rfl
theorem tp9_2 {t : Nat} (h : tb t) : gx_tp t 9 2 = some (t + 2 + 2) := by rcases h with rfl | rfl | rfl <;> rfl
theorem tp9_3 {t : Nat} (h : tb t) : gx_tp t 9 3 = some (t + 3 + 2) := by rcases h with rfl | rfl | rfl <;> rfl
theorem tp9_4 {t : Nat} (h : tb t) : gx_tp t 9 4 = some 0 := by rcases h with rfl | rfl | rfl <;> rfl
theorem ar9_1 {t : Nat} (h : tb t) : gx_ar (t + 1) = some (0, 5) := by rcases h with rfl | rfl | rfl <;> rfl
theorem ar9_2 {t : Nat} (h : tb t) : gx_ar (t + 2) = some (0, 5) := by rcases h with rfl | rfl | rfl <;> rfl
theorem ar9_3 {t : Nat} (h : tb t) : gx_ar (t + 3) = some (0, 4) := by rcases h with rfl | rfl | rfl <;> rfl
theorem cl9 {t : Nat} (h : tb t) : gx_cl t = some 9 := by rcases h with rfl | rfl | rfl <;> rfl
theorem tb_ge {t : Nat} (h : tb t) : 18 ≤ t ∧ t ≤ 26 := by rcases h with rfl | rfl | rfl <;> decide
theorem tp2_0 {h : Nat} (e : hh h) : gx_tp h 2 0 = some 0 := by rcases e with rfl | rfl <;> rfl
theorem tp2_1 {h : Nat} (e : hh h) : gx_tp h 2 1 = some 0 := by rcases e with rfl | rfl <;> rfl
theorem tp2_2 {h : Nat} (e : hh h) : gx_tp h 2 2 = some (h + 1 + 2) := by rcases e with rfl | rfl <;> rfl
theorem tp2_3 {h : Nat} (e : hh h) : gx_tp h 2 3 = some (h + 2 + 2) := by rcases e with rfl | rfl <;> rfl
theorem tp2_4 {h : Nat} (e : hh h) : gx_tp h 2 4 = some (h + 3 + 2) := by rcases e with rfl | rfl <;> rfl
theorem tp2_5 {h : Nat} (e : hh h) : gx_tp h 2 5 = some (h + 4 + 2) := by rcases e with rfl | rfl <;> rfl
theorem tp2_6 {h : Nat} (e : hh h) : gx_tp h 2 6 = some (h + 5 + 2) := by rcases e with rfl | rfl <;> rfl
theorem tp2_7 {h : Nat} (e : hh h) : gx_tp h 2 7 = some (h + 6 + 2) := by rcases e with rfl | rfl <;> rfl
theorem ar2_1 {h : Nat} (e : hh h) : gx_ar (h + 1) = some (0, 5) := by rcases e with rfl | rfl <;> rfl
theorem ar2_2 {h : Nat} (e : hh h) : gx_ar (h + 2) = some (0, 5) := by rcases e with rfl | rfl <;> rfl
theorem ar2_3 {h : Nat} (e : hh h) : gx_ar (h + 3) = some (0, 5) := by rcases e with rfl | rfl <;> rfl
theorem ar2_4 {h : Nat} (e : hh h) : gx_ar (h + 4) = some (0, 4) := by rcases e with rfl | rfl <;> rfl
theorem ar2_5 {h : Nat} (e : hh h) : gx_ar (h + 5) = some (0, 4) := by rcases e with rfl | rfl <;> rfl
theorem ar2_6 {h : Nat} (e : hh h) : gx_ar (h + 6) = some (0, 4) := by rcases e with rfl | rfl <;> rfl
theorem cl2 {h : Nat} (e : hh h) : gx_cl h = some 2 := by rcases e with rfl | rfl <;> rfl
/-! ===== a table: contents, ages, thirsts, the hour ===== -/
abbrev Tb : Type := (Nat → Int32) × (Nat → Int32) × (Nat → Int32) × Int32
def tG (S : gx_S) (t : Nat) : Tb := (S (t + 1), S (t + 2), S (t + 3), S t 4)
def tS (S : gx_S) (t : Nat) (T : Tb) : gx_S := fun i => if i = t + 1 then T.1 else if i = t + 2 then T.2.1 else if i = t + 3 then T.2.2.1 else if i = t then upd (S t) 4 T.2.2.2 else S i
theorem tS_1 (S : gx_S) (t : Nat) (T : Tb) : tS S t T (t + 1) = T.1 := if_pos rfl
theorem tS_2 (S : gx_S) (t : Nat) (T : Tb) : tS S t T (t + 2) = T.2.1 := by simp [tS]
theorem tS_3 (S : gx_S) (t : Nat) (T : Tb) : tS S t T (t + 3) = T.2.2.1 := by simp [tS]
theorem tS_4 (S : gx_S) (t : Nat) (T : Tb) : tS S t T t 4 = T.2.2.2 := by simp [tS, upd]
theorem tS_o (S : gx_S) {t i : Nat} (T : Tb) (h : i < t ∨ t + 3 < i) : tS S t T i = S i := by
  unfold tS
  rw [if_neg (by omega), if_neg (by omega), if_neg (by omega), if_neg (by omega)]
theorem tS_tG (S : gx_S) (t : Nat) : tS S t (tG S t) = S := by
  funext i
  unfold tS tG
  split
  · rename_i h; rw [h]
  · split
    · rename_i h; rw [h]
    · split
      · rename_i h; rw [h]
      · split
        · rename_i h; rw [h, upd_self]
        · rfl
theorem tS_id (S : gx_S) (t : Nat) : tS S t (S (t + 1), S (t + 2), S (t + 3), S t 4) = S := tS_tG S t
theorem tG_tS (S : gx_S) (t : Nat) (T : Tb) : tG (tS S t T) t = T := by
  unfold tG
  rw [tS_1, tS_2, tS_3, tS_4]
theorem tS_tS (S : gx_S) (t : Nat) (T T' : Tb) : tS (tS S t T) t T' = tS S t T' := by
  funext i
  unfold tS
  split
  · rfl
  · split
    · rfl
    · split
      · rfl
      · split
        · rename_i h3 h2 h1 h0
          subst h0
          simp [upd_upd]
        · rfl
theorem tS_u1 (S : gx_S) (t : Nat) (T : Tb) (k : Nat) (x : Int32) : gx_u2 (tS S t T) (t + 1) k x = tS S t (upd T.1 k x, T.2) := by
  funext i
  unfold gx_u2 gx_up tS
  by_cases h : i = t + 1
  · subst h; simp
  · simp [h]
theorem tS_u2 (S : gx_S) (t : Nat) (T : Tb) (k : Nat) (x : Int32) : gx_u2 (tS S t T) (t + 2) k x = tS S t (T.1, upd T.2.1 k x, T.2.2) := by
  funext i
  unfold gx_u2 gx_up tS
  by_cases h : i = t + 2
  · subst h; simp
  · simp [h]
theorem tS_u3 (S : gx_S) (t : Nat) (T : Tb) (k : Nat) (x : Int32) : gx_u2 (tS S t T) (t + 3) k x = tS S t (T.1, T.2.1, upd T.2.2.1 k x, T.2.2.2) := by
  funext i
  unfold gx_u2 gx_up tS
  by_cases h : i = t + 3
  · subst h; simp
  · simp [h]
theorem tS_u4 (S : gx_S) (t : Nat) (T : Tb) (x : Int32) : gx_u2 (tS S t T) t 4 x = tS S t (T.1, T.2.1, T.2.2.1, x) := by
  funext i
  unfold gx_u2 gx_up tS
  by_cases h : i = t
  · subst h; simp [upd_upd]
  · simp [h]
