/-! ===== the best of many names: a fold over the names in their order ===== -/
def kl (q : Option (Nat × Nat)) (w k : Nat) : Option (Nat × Nat) := match q with
  | none => some (w, k)
  | some p => if w < p.1 then some (w, k) else some p
def kv (va : Nat → Option Nat) (q : Option (Nat × Nat)) (k : Nat) : Option (Nat × Nat) := match va k with
  | none => q
  | some w => kl q w k
def fo (va : Nat → Option Nat) (a : Nat) (q : Option (Nat × Nat)) : Nat → Option (Nat × Nat)
  | 0 => q
  | n + 1 => kv va (fo va a q n) (a + n)
theorem fo_add (va : Nat → Option Nat) (a : Nat) (q : Option (Nat × Nat)) (n : Nat) : ∀ m, fo va a q (n + m) = fo va (a + n) (fo va a q n) m
  | 0 => rfl
  | m + 1 => by
    show kv va (fo va a q (n + m)) (a + (n + m)) = kv va (fo va (a + n) (fo va a q n) m) (a + n + m)
    rw [fo_add va a q n m, Nat.add_assoc]
theorem kv_n {va : Nat → Option Nat} {q : Option (Nat × Nat)} {k : Nat} (h : va k = none) : kv va q k = q := by
  simp only [kv, h]
theorem kv_s {va : Nat → Option Nat} {q : Option (Nat × Nat)} {k w : Nat} (h : va k = some w) : kv va q k = kl q w k := by
  simp only [kv, h]
theorem fo_no {va : Nat → Option Nat} {a : Nat} {q : Option (Nat × Nat)} : ∀ n, (∀ i, i < n → va (a + i) = none) → fo va a q n = q
  | 0, _ => rfl
  | n + 1, h => by
    show kv va (fo va a q n) (a + n) = q
    rw [kv_n (h n (by omega)), fo_no n (fun i hi => h i (by omega))]
def okq (q : Option (Nat × Nat)) : Prop := ∀ p, q = some p → p.1 < 100 ∧ p.2 < 100000
theorem okq_n : okq none := fun _ h => by cases h
theorem okq_kl {q : Option (Nat × Nat)} {w k : Nat} (h : okq q) (hw : w < 100) (hk : k < 100000) : okq (kl q w k) := by
  intro p hp
  cases q with
  | none => cases hp; exact ⟨hw, hk⟩
  | some r =>
    by_cases c : w < r.1
    · simp only [kl, if_pos c] at hp
      cases hp
      exact ⟨hw, hk⟩
    · simp only [kl, if_neg c] at hp
      exact h p hp
theorem okq_kv {va : Nat → Option Nat} {q : Option (Nat × Nat)} {k : Nat} (h : okq q) (hv : ∀ w, va k = some w → w < 100 ∧ k < 100000) : okq (kv va q k) := by
  cases e : va k with
  | none => rw [kv_n e]; exact h
  | some w => rw [kv_s e]; exact okq_kl h (hv w e).1 (hv w e).2
theorem okq_fo {va : Nat → Option Nat} {a : Nat} {q : Option (Nat × Nat)} (h : okq q) (hv : ∀ k w, va k = some w → w < 100 ∧ k < 100000) : ∀ n, okq (fo va a q n)
  | 0 => h
  | n + 1 => okq_kv (okq_fo h hv n) (hv (a + n))
def leI (q : Option (Nat × Nat)) : Int32 := match q with
  | none => -9
  | some p => nI p.1
def fdI (q : Option (Nat × Nat)) : Int32 := match q with
  | none => -9
  | some p => nI p.2
theorem nI_not9 {k : Nat} (h : k < 2 ^ 31) : ¬ nI k = -9 := fun e => by
  have h1 := congrArg Int32.toInt e
  rw [nI_toInt h] at h1
  have h2 : (-9 : Int32).toInt = -9 := by decide
  omega
/-! ===== names of ten figures a place ===== -/
theorem p10 (m : Nat) : 0 < 10 ^ m := Nat.pow_pos (by decide)
theorem dv_in {x m i : Nat} (h : i < 10 ^ m) : (x * 10 ^ m + i) / 10 ^ m = x := by
  rw [Nat.add_comm, Nat.add_mul_div_right _ _ (p10 m), Nat.div_eq_of_lt h, Nat.zero_add]
theorem dv_up (k m : Nat) : k / 10 ^ (m + 1) = k / 10 ^ m / 10 := by
  rw [Nat.pow_succ, Nat.div_div_eq_div_mul]
theorem ix_up (w m c : Nat) : w * 10 ^ (m + 1) + c * 10 ^ m = (10 * w + c) * 10 ^ m := by
  have e1 : w * (10 ^ m * 10) = w * 10 ^ m * 10 := (Nat.mul_assoc _ _ _).symm
  have e2 : 10 * w * 10 ^ m = 10 * (w * 10 ^ m) := Nat.mul_assoc _ _ _
  rw [Nat.pow_succ, e1, Nat.add_mul, e2]
  omega
theorem fo_dig (va : Nat → Option Nat) (w m : Nat) (q : Option (Nat × Nat)) (c : Nat) : fo va (w * 10 ^ (m + 1)) q ((c + 1) * 10 ^ m) = fo va ((10 * w + c) * 10 ^ m) (fo va (w * 10 ^ (m + 1)) q (c * 10 ^ m)) (10 ^ m) := by
  rw [Nat.succ_mul, fo_add, ix_up]
theorem ten_m (m : Nat) : 10 * 10 ^ m = 10 ^ (m + 1) := by rw [Nat.pow_succ, Nat.mul_comm]
theorem fo_skip {va : Nat → Option Nat} {x m : Nat} {q : Option (Nat × Nat)} (h : ∀ k, k / 10 ^ m = x → va k = none) : fo va (x * 10 ^ m) q (10 ^ m) = q := fo_no _ (fun _ hi => h _ (dv_in hi))
theorem fo_lo {va : Nat → Option Nat} {w m : Nat} {q : Option (Nat × Nat)} : ∀ c, (∀ x, x < c → ∀ k, k / 10 ^ m = 10 * w + x → va k = none) → fo va (w * 10 ^ (m + 1)) q (c * 10 ^ m) = q
  | 0, _ => by rw [Nat.zero_mul]; rfl
  | c + 1, h => by
    rw [fo_dig, fo_skip (h c (by omega)), fo_lo c (fun x hx => h x (by omega))]
theorem fo_hi {va : Nat → Option Nat} {w m : Nat} {q : Option (Nat × Nat)} : ∀ j c, (∀ x, c ≤ x → x < c + j → ∀ k, k / 10 ^ m = 10 * w + x → va k = none) → fo va (w * 10 ^ (m + 1)) q ((c + j) * 10 ^ m) = fo va (w * 10 ^ (m + 1)) q (c * 10 ^ m)
  | 0, _, _ => rfl
  | j + 1, c, h => by
    rw [← Nat.add_assoc, fo_dig, fo_skip (h (c + j) (by omega) (by omega)), fo_hi j c (fun x h1 h2 => h x h1 (by omega))]
/-! ===== ways to pour ===== -/
def vp (rm : Nat → Nat) : Nat → Nat → Nat → Nat → Bool
  | 0, _, rest, _ => decide (rest = 0)
  | m + 1, g, rest, k => decide (k / 10 ^ m % 10 ≤ rest) && (decide (k / 10 ^ m % 10 ≤ rm g) && vp rm m (g + 1) (rest - k / 10 ^ m % 10) k)
def ds : Nat → Nat → Nat
  | 0, _ => 0
  | m + 1, k => k / 10 ^ m % 10 + ds m k
def rsm (rm : Nat → Nat) (g : Nat) : Nat → Nat
  | 0 => 0
  | m + 1 => rsm rm g m + rm (g + m)
theorem rsm_f (rm : Nat → Nat) (g : Nat) : ∀ m, rsm rm g (m + 1) = rm g + rsm rm (g + 1) m
  | 0 => by show 0 + rm (g + 0) = rm g + 0; rw [Nat.zero_add, Nat.add_zero, Nat.add_zero]
  | m + 1 => by
    have e : rsm rm g (m + 1 + 1) = rsm rm g (m + 1) + rm (g + (m + 1)) := rfl
    have e2 : rsm rm (g + 1) (m + 1) = rsm rm (g + 1) m + rm (g + 1 + m) := rfl
    rw [e, e2, rsm_f rm g m, show g + (m + 1) = g + 1 + m from by omega]
    omega
theorem vp_iff (rm : Nat → Nat) : ∀ m g rest k, vp rm m g rest k = true ↔ (ds m k = rest ∧ ∀ j, j < m → k / 10 ^ (m - 1 - j) % 10 ≤ rm (g + j))
  | 0, g, rest, k => by
    have e : vp rm 0 g rest k = decide (rest = 0) := rfl
    rw [e, decide_eq_true_iff]
    exact ⟨fun h => ⟨h.symm, fun j hj => absurd hj (Nat.not_lt_zero j)⟩, fun h => h.1.symm⟩
  | m + 1, g, rest, k => by
    have e : vp rm (m + 1) g rest k = (decide (k / 10 ^ m % 10 ≤ rest) && (decide (k / 10 ^ m % 10 ≤ rm g) && vp rm m (g + 1) (rest - k / 10 ^ m % 10) k)) := rfl
    have e2 : ds (m + 1) k = k / 10 ^ m % 10 + ds m k := rfl
    rw [e, Bool.and_eq_true_iff, Bool.and_eq_true_iff, decide_eq_true_iff, decide_eq_true_iff, vp_iff rm m, e2]
    constructor
    · rintro ⟨h1, h2, h3, h4⟩
      refine ⟨by omega, fun j hj => ?_⟩
      match j, hj with
      | 0, _ => exact h2
      | j + 1, hj =>
        have h5 := h4 j (by omega)
        rw [show m + 1 - 1 - (j + 1) = m - 1 - j from by omega, show g + (j + 1) = g + 1 + j from by omega]
        exact h5
    · rintro ⟨h1, h2⟩
      refine ⟨by omega, h2 0 (by omega), by omega, fun j hj => ?_⟩
      have h5 := h2 (j + 1) (by omega)
      rw [show m + 1 - 1 - (j + 1) = m - 1 - j from by omega, show g + (j + 1) = g + 1 + j from by omega] at h5
      exact h5
theorem vp_rest (rm : Nat → Nat) : ∀ m g rest k, vp rm m g rest k = true → rest ≤ rsm rm g m
  | 0, g, rest, k, h => by
    have h1 : rest = 0 := of_decide_eq_true h
    omega
  | m + 1, g, rest, k, h => by
    have e : vp rm (m + 1) g rest k = (decide (k / 10 ^ m % 10 ≤ rest) && (decide (k / 10 ^ m % 10 ≤ rm g) && vp rm m (g + 1) (rest - k / 10 ^ m % 10) k)) := rfl
    rw [e, Bool.and_eq_true_iff, Bool.and_eq_true_iff, decide_eq_true_iff, decide_eq_true_iff] at h
    have h1 := vp_rest rm m _ _ _ h.2.2
    have h2 := h.2.1
    have h3 := h.1
    rw [rsm_f]
    omega
def vaP (rm wt : Nat → Nat) (ng n k : Nat) : Option Nat := if k / 10 ^ ng = 0 ∧ vp rm ng 0 n k = true then some (wt k) else none
def ndP (va : Nat → Option Nat) (rm wt : Nat → Nat) (m g rest w : Nat) : Prop := ∀ k, k / 10 ^ m = w → va k = if vp rm m g rest k = true then some (wt k) else none
theorem ndP_0 (rm wt : Nat → Nat) (ng n : Nat) : ndP (vaP rm wt ng n) rm wt ng 0 n 0 := by
  intro k hk
  unfold vaP
  by_cases h : vp rm ng 0 n k = true
  · rw [if_pos h, if_pos ⟨hk, h⟩]
  · rw [if_neg h, if_neg (fun h9 => h h9.2)]
theorem vp_s (rm : Nat → Nat) {m g rest k w c : Nat} (hk : k / 10 ^ m = 10 * w + c) (hc : c < 10) : k / 10 ^ (m + 1) = w ∧ vp rm (m + 1) g rest k = (decide (c ≤ rest) && (decide (c ≤ rm g) && vp rm m (g + 1) (rest - c) k)) := by
  refine ⟨by rw [dv_up, hk]; omega, ?_⟩
  have e : vp rm (m + 1) g rest k = (decide (k / 10 ^ m % 10 ≤ rest) && (decide (k / 10 ^ m % 10 ≤ rm g) && vp rm m (g + 1) (rest - k / 10 ^ m % 10) k)) := rfl
  rw [e, show k / 10 ^ m % 10 = c from by omega]
theorem ndP_s {va : Nat → Option Nat} {rm wt : Nat → Nat} {m g rest w c : Nat} (h : ndP va rm wt (m + 1) g rest w) (hc : c < 10) (h1 : c ≤ rest) (h2 : c ≤ rm g) : ndP va rm wt m (g + 1) (rest - c) (10 * w + c) := by
  intro k hk
  obtain ⟨e1, e2⟩ := vp_s rm (g := g) (rest := rest) hk hc
  rw [h k e1, e2, decide_eq_true h1, decide_eq_true h2, Bool.true_and, Bool.true_and]
theorem ndP_no {va : Nat → Option Nat} {rm wt : Nat → Nat} {m g rest w c : Nat} (h : ndP va rm wt (m + 1) g rest w) (hc : c < 10) (hx : ¬ (c ≤ rest ∧ c ≤ rm g ∧ rest - c ≤ rsm rm (g + 1) m)) : ∀ k, k / 10 ^ m = 10 * w + c → va k = none := by
  intro k hk
  obtain ⟨e1, e2⟩ := vp_s rm (g := g) (rest := rest) hk hc
  rw [h k e1, if_neg]
  intro h9
  rw [e2, Bool.and_eq_true_iff, Bool.and_eq_true_iff, decide_eq_true_iff, decide_eq_true_iff] at h9
  exact hx ⟨h9.1, h9.2.1, vp_rest rm _ _ _ _ h9.2.2⟩
/-- the figures of a number, from its end -/
def fs : Nat → Nat → Nat
  | 0, _ => 0
  | f + 1, v => v % 10 + fs f (v / 10)
theorem ds_low : ∀ m k, ds (m + 1) k = k % 10 + ds m (k / 10)
  | 0, k => by show k / 10 ^ 0 % 10 + 0 = k % 10 + 0; rw [Nat.pow_zero, Nat.div_one]
  | m + 1, k => by
    have e : ds (m + 1 + 1) k = k / 10 ^ (m + 1) % 10 + ds (m + 1) k := rfl
    have e2 : ds (m + 1) (k / 10) = k / 10 / 10 ^ m % 10 + ds m (k / 10) := rfl
    have e3 : k / 10 ^ (m + 1) = k / 10 / 10 ^ m := by
      rw [Nat.div_div_eq_div_mul, Nat.pow_succ, Nat.mul_comm]
    rw [e, e2, ds_low m k, e3]
    omega
theorem fs_ds : ∀ m k, fs m k = ds m k
  | 0, _ => rfl
  | m + 1, k => by
    show k % 10 + fs m (k / 10) = ds (m + 1) k
    rw [fs_ds m, ds_low]
theorem dv_lt {m v : Nat} (h : v < 10 ^ (m + 1)) : v / 10 < 10 ^ m := by
  rw [Nat.pow_succ] at h
  omega
theorem fs_9 : ∀ m v, v < 10 ^ m → fs m v % 9 = v % 9 ∧ fs m v ≤ v
  | 0, v, h => by
    have h1 : v = 0 := by rw [Nat.pow_zero] at h; omega
    subst h1
    exact ⟨rfl, Nat.le_refl _⟩
  | m + 1, v, h => by
    have h1 := fs_9 m (v / 10) (dv_lt h)
    show (v % 10 + fs m (v / 10)) % 9 = v % 9 ∧ v % 10 + fs m (v / 10) ≤ v
    omega
theorem vaP_9 {rm wt : Nat → Nat} {ng n k : Nat} (h : ¬ vaP rm wt ng n k = none) : k < 10 ^ ng ∧ k % 9 = n % 9 ∧ n ≤ k ∧ ds ng k = n := by
  unfold vaP at h
  by_cases c : k / 10 ^ ng = 0 ∧ vp rm ng 0 n k = true
  · have h1 := ((vp_iff rm ng 0 n k).mp c.2).1
    have h2 := Nat.lt_of_div_eq_zero (p10 ng) c.1
    have h3 := fs_9 ng k h2
    rw [fs_ds, h1] at h3
    exact ⟨h2, h3.1.symm, h3.2, h1⟩
  · rw [if_neg c] at h
    exact absurd rfl h
theorem fo_9 (rm wt : Nat → Nat) (ng n i : Nat) : fo (vaP rm wt ng n) 0 none (n + 9 * (i + 1)) = kv (vaP rm wt ng n) (fo (vaP rm wt ng n) 0 none (n + 9 * i)) (n + 9 * i) := by
  have e : n + 9 * (i + 1) = n + 9 * i + 1 + 8 := by omega
  rw [e, fo_add, fo_no 8 (fun j hj => ?_)]
  · show kv _ _ (0 + (n + 9 * i)) = _
    rw [Nat.zero_add]
  · refine Classical.byContradiction (fun h => ?_)
    have h1 := (vaP_9 h).2.1
    omega
theorem fo_90 (rm wt : Nat → Nat) (ng n : Nat) : fo (vaP rm wt ng n) 0 none n = none := fo_no n (fun j hj => Classical.byContradiction (fun h => by
  have h1 := (vaP_9 h).2.2.1
  omega))
theorem fo_9e (rm wt : Nat → Nat) {ng n x : Nat} (h : 10 ^ ng ≤ x) : fo (vaP rm wt ng n) 0 none x = fo (vaP rm wt ng n) 0 none (10 ^ ng) := by
  have e : x = 10 ^ ng + (x - 10 ^ ng) := by omega
  rw [e, fo_add]
  refine fo_no _ (fun j hj => Classical.byContradiction (fun h9 => ?_))
  have h1 := (vaP_9 h9).1
  omega
/-- what is in the glasses from lo on, below hi, when f has been poured -/
def pT (T : Tb) (f : Nat → Nat) (lo hi : Nat) : Tb := (fun g => if lo ≤ g ∧ g < hi then T.1 g + nI (f g) else T.1 g, fun g => if lo ≤ g ∧ g < hi ∧ 0 < f g then 0 else T.2.1 g, T.2.2)
def rmN (ms : Nat → Int32) (T : Tb) (g : Nat) : Nat := (ms g - T.1 g).toNatClampNeg
theorem rmN_eq {ms : Nat → Int32} {T : Tb} (h : okT ms T) {g : Nat} (hg : g < 5) : ms g - T.1 g = nI (rmN ms T g) ∧ rmN ms T g ≤ 9 ∧ ∃ a m, T.1 g = nI a ∧ ms g = nI m ∧ a + rmN ms T g = m ∧ m ≤ 9 := by
  obtain ⟨⟨a, m, h1, h2, h3, h4⟩, -⟩ := h.1 g hg
  have e : ms g - T.1 g = nI (m - a) := by rw [h1, h2, nI_sub h3]
  have e2 : rmN ms T g = m - a := by unfold rmN; rw [e, nI_clamp (by omega)]
  rw [e2]
  exact ⟨e, by omega, a, m, h1, h2, by omega, h4⟩
theorem pT_0 (T : Tb) (f : Nat → Nat) (x : Nat) : pT T f x x = T := by
  unfold pT
  refine Prod.ext (funext fun g => if_neg (by omega)) (Prod.ext (funext fun g => if_neg (by omega)) rfl)
theorem pT_n1 {T : Tb} {f : Nat → Nat} {i : Nat} (lo : Nat) (h : f i = 0) : pT T f lo (i + 1) = pT T f lo i := by
  unfold pT
  refine Prod.ext (funext fun g => ?_) (Prod.ext (funext fun g => ?_) rfl)
  · show (if lo ≤ g ∧ g < i + 1 then T.1 g + nI (f g) else T.1 g) = if lo ≤ g ∧ g < i then T.1 g + nI (f g) else T.1 g
    by_cases c : lo ≤ g ∧ g < i
    · rw [if_pos c, if_pos (by omega)]
    · rw [if_neg c]
      by_cases e : g = i
      · subst e
        rw [h, nI_0, Int32.add_zero, ite_self]
      · rw [if_neg (by omega)]
  · show (if lo ≤ g ∧ g < i + 1 ∧ 0 < f g then 0 else T.2.1 g) = if lo ≤ g ∧ g < i ∧ 0 < f g then 0 else T.2.1 g
    by_cases e : g = i
    · subst e
      rw [if_neg (by omega), if_neg (by omega)]
    · by_cases c : lo ≤ g ∧ g < i ∧ 0 < f g
      · rw [if_pos c, if_pos (by omega)]
      · rw [if_neg c, if_neg (by omega)]
theorem pT_n0 {T : Tb} {f : Nat → Nat} {i : Nat} (hi : Nat) (h : f i = 0) : pT T f i hi = pT T f (i + 1) hi := by
  unfold pT
  refine Prod.ext (funext fun g => ?_) (Prod.ext (funext fun g => ?_) rfl)
  · show (if i ≤ g ∧ g < hi then T.1 g + nI (f g) else T.1 g) = if i + 1 ≤ g ∧ g < hi then T.1 g + nI (f g) else T.1 g
    by_cases c : i + 1 ≤ g ∧ g < hi
    · rw [if_pos c, if_pos (by omega)]
    · rw [if_neg c]
      by_cases e : g = i
      · subst e
        rw [h, nI_0, Int32.add_zero, ite_self]
      · rw [if_neg (by omega)]
  · show (if i ≤ g ∧ g < hi ∧ 0 < f g then 0 else T.2.1 g) = if i + 1 ≤ g ∧ g < hi ∧ 0 < f g then 0 else T.2.1 g
    by_cases e : g = i
    · subst e
      rw [if_neg (by omega), if_neg (by omega)]
    · by_cases c : i + 1 ≤ g ∧ g < hi ∧ 0 < f g
      · rw [if_pos c, if_pos (by omega)]
      · rw [if_neg c, if_neg (by omega)]
theorem pT_s1 {T : Tb} {f : Nat → Nat} {i lo : Nat} (hl : lo ≤ i) (h : 0 < f i) : ((upd (pT T f lo i).1 i ((pT T f lo i).1 i + nI (f i)), upd (pT T f lo i).2.1 i 0, (pT T f lo i).2.2) : Tb) = pT T f lo (i + 1) := by
  unfold pT
  refine Prod.ext (funext fun g => ?_) (Prod.ext (funext fun g => ?_) rfl)
  · show upd (fun g => if lo ≤ g ∧ g < i then T.1 g + nI (f g) else T.1 g) i ((if lo ≤ i ∧ i < i then T.1 i + nI (f i) else T.1 i) + nI (f i)) g = if lo ≤ g ∧ g < i + 1 then T.1 g + nI (f g) else T.1 g
    by_cases e : g = i
    · subst e
      rw [upd_at, if_neg (by omega), if_pos (by omega)]
    · rw [upd_ne _ _ e]
      by_cases c : lo ≤ g ∧ g < i
      · rw [if_pos c, if_pos (by omega)]
      · rw [if_neg c, if_neg (by omega)]
  · show upd (fun g => if lo ≤ g ∧ g < i ∧ 0 < f g then 0 else T.2.1 g) i 0 g = if lo ≤ g ∧ g < i + 1 ∧ 0 < f g then 0 else T.2.1 g
    by_cases e : g = i
    · subst e
      rw [upd_at, if_pos (by omega)]
    · rw [upd_ne _ _ e]
      by_cases c : lo ≤ g ∧ g < i ∧ 0 < f g
      · rw [if_pos c, if_pos (by omega)]
      · rw [if_neg c, if_neg (by omega)]
theorem pT_s0 {T : Tb} {f : Nat → Nat} {i hi : Nat} (hl : i < hi) (h : 0 < f i) : ((upd (pT T f (i + 1) hi).1 i ((pT T f (i + 1) hi).1 i + nI (f i)), upd (pT T f (i + 1) hi).2.1 i 0, (pT T f (i + 1) hi).2.2) : Tb) = pT T f i hi := by
  unfold pT
  refine Prod.ext (funext fun g => ?_) (Prod.ext (funext fun g => ?_) rfl)
  · show upd (fun g => if i + 1 ≤ g ∧ g < hi then T.1 g + nI (f g) else T.1 g) i ((if i + 1 ≤ i ∧ i < hi then T.1 i + nI (f i) else T.1 i) + nI (f i)) g = if i ≤ g ∧ g < hi then T.1 g + nI (f g) else T.1 g
    by_cases e : g = i
    · subst e
      rw [upd_at, if_neg (by omega), if_pos (by omega)]
    · rw [upd_ne _ _ e]
      by_cases c : i + 1 ≤ g ∧ g < hi
      · rw [if_pos c, if_pos (by omega)]
      · rw [if_neg c, if_neg (by omega)]
  · show upd (fun g => if i + 1 ≤ g ∧ g < hi ∧ 0 < f g then 0 else T.2.1 g) i 0 g = if i ≤ g ∧ g < hi ∧ 0 < f g then 0 else T.2.1 g
    by_cases e : g = i
    · subst e
      rw [upd_at, if_pos (by omega)]
    · rw [upd_ne _ _ e]
      by_cases c : i + 1 ≤ g ∧ g < hi ∧ 0 < f g
      · rw [if_pos c, if_pos (by omega)]
      · rw [if_neg c, if_neg (by omega)]
theorem okT_pT {ms : Nat → Int32} {T : Tb} (h : okT ms T) {f : Nat → Nat} {lo hi : Nat} (hf : ∀ g, lo ≤ g → g < hi → g < 5 → f g ≤ rmN ms T g) : okT ms (pT T f lo hi) := by
  refine ⟨fun g hg => ⟨?_, ?_⟩, h.2⟩
  · obtain ⟨-, -, a, m, h1, h2, h3, h4⟩ := rmN_eq h hg
    show ∃ a m, (if lo ≤ g ∧ g < hi then T.1 g + nI (f g) else T.1 g) = nI a ∧ _
    by_cases c : lo ≤ g ∧ g < hi
    · have := hf g c.1 c.2 hg
      rw [if_pos c, h1, nI_add]
      exact ⟨a + f g, m, rfl, h2, by omega, h4⟩
    · rw [if_neg c]
      exact ⟨a, m, h1, h2, by omega, h4⟩
  · obtain ⟨-, b, h1, h2⟩ := h.1 g hg
    show ∃ b, (if lo ≤ g ∧ g < hi ∧ 0 < f g then 0 else T.2.1 g) = nI b ∧ b ≤ 9
    by_cases c : lo ≤ g ∧ g < hi ∧ 0 < f g
    · rw [if_pos c]
      exact ⟨0, nI_0.symm, by decide⟩
    · rw [if_neg c]
      exact ⟨b, h1, h2⟩
theorem zT_pT {T : Tb} (h : zT T) {f : Nat → Nat} {lo hi : Nat} (h5 : hi ≤ 5) : zT (pT T f lo hi) := by
  refine ⟨fun j hj => ⟨?_, ?_⟩, h.2⟩
  · show (if lo ≤ j ∧ j < hi then T.1 j + nI (f j) else T.1 j) = 0
    rw [if_neg (by omega)]
    exact (h.1 j hj).1
  · show (if lo ≤ j ∧ j < hi ∧ 0 < f j then 0 else T.2.1 j) = 0
    rw [if_neg (by omega)]
    exact (h.1 j hj).2
theorem pT_c {T : Tb} {f : Nat → Nat} {lo hi g : Nat} (h : ¬ (lo ≤ g ∧ g < hi)) : (pT T f lo hi).1 g = T.1 g := if_neg h
theorem pT_f {T : Tb} {f f' : Nat → Nat} {lo hi : Nat} (h : ∀ g, lo ≤ g → g < hi → f g = f' g) : pT T f lo hi = pT T f' lo hi := by
  unfold pT
  refine Prod.ext (funext fun g => ?_) (Prod.ext (funext fun g => ?_) rfl)
  · show (if lo ≤ g ∧ g < hi then T.1 g + nI (f g) else T.1 g) = if lo ≤ g ∧ g < hi then T.1 g + nI (f' g) else T.1 g
    by_cases c : lo ≤ g ∧ g < hi
    · rw [if_pos c, if_pos c, h g c.1 c.2]
    · rw [if_neg c, if_neg c]
  · show (if lo ≤ g ∧ g < hi ∧ 0 < f g then 0 else T.2.1 g) = if lo ≤ g ∧ g < hi ∧ 0 < f' g then 0 else T.2.1 g
    by_cases c : lo ≤ g ∧ g < hi
    · rw [h g c.1 c.2]
    · rw [if_neg (fun h9 => c ⟨h9.1, h9.2.1⟩), if_neg (fun h9 => c ⟨h9.1, h9.2.1⟩)]
/-- one pour of the class -/
theorem pour_s {ms : Nat → Int32} {T : Tb} (h : okT ms T) {f : Nat → Nat} {ng i : Nat} (h5 : ng ≤ 5) (hi : i < ng) (hf : f i ≤ rmN ms T i) (h0 : 0 < f i) : (p_pour (nI ng) ms (pT T f 0 i) (nI i) (nI (f i))).2 = pT T f 0 (i + 1) := by
  obtain ⟨e1, e2, -⟩ := rmN_eq h (show i < 5 by omega)
  have e3 : (pT T f 0 i).1 i = T.1 i := pT_c (by omega)
  unfold p_pour
  rw [if_pos (isG_in (by omega) hi), if_neg (show ¬ nI (f i) < 1 from nI_nlt (b := 1) h0 (by omega)), if_pos (show nI (f i) ≤ 9 from nI_le (b := 9) (by omega) (by decide)), nI_clamp (show i < 2 ^ 31 by omega)]
  show (if 0 < (if ms i - (pT T f 0 i).1 i < nI (f i) then ms i - (pT T f 0 i).1 i else nI (f i)) then _ else _ : Int32 × Tb).2 = _
  rw [e3, e1, if_neg (show ¬ nI (rmN ms T i) < nI (f i) from nI_nlt hf (by omega)), if_pos (show (0 : Int32) < nI (f i) from nI_lt (a := 0) h0 (by omega))]
  show ((upd (pT T f 0 i).1 i (T.1 i + nI (f i)), upd (pT T f 0 i).2.1 i 0, (pT T f 0 i).2.2) : Tb) = _
  rw [← e3]
  exact pT_s1 (Nat.zero_le i) h0
/-- one pour of the reference -/
theorem pour_m {ms : Nat → Int32} {T : Tb} (h : okT ms T) {f : Nat → Nat} {ng i : Nat} (h5 : ng ≤ 5) (hi : i < ng) (hf : f i ≤ rmN ms T i) (h0 : 0 < f i) : q_pourT ms (pT T f (i + 1) ng) i (nI (f i)) = pT T f i ng := by
  obtain ⟨e1, e2, -⟩ := rmN_eq h (show i < 5 by omega)
  have e3 : (pT T f (i + 1) ng).1 i = T.1 i := pT_c (by omega)
  have e4 : q_w ms (pT T f (i + 1) ng) i (nI (f i)) = nI (f i) := by
    unfold q_w
    rw [e3, e1, if_neg (show ¬ nI (rmN ms T i) < nI (f i) from nI_nlt hf (by omega))]
  unfold q_pourT
  rw [e4]
  exact pT_s0 hi h0
def dg (ng k g : Nat) : Nat := k / 10 ^ (ng - 1 - g) % 10
theorem dg_9 (ng k g : Nat) : dg ng k g ≤ 9 := by unfold dg; omega
def wtT (dk sb : Nat → Int32) (T : Tb) (ng k : Nat) : Tb := p_ev dk sb 15 (pT T (dg ng k) 0 ng)
def wtP (gk ms dk sb : Nat → Int32) (T : Tb) (ng k : Nat) : Nat := (p_taxes gk ms (wtT dk sb T ng k)).toNatClampNeg
theorem wtP_eq {gk ms dk sb : Nat → Int32} {T : Tb} (h : okT ms T) {ng k : Nat} (hf : ∀ g, g < ng → dg ng k g ≤ rmN ms T g) : p_taxes gk ms (wtT dk sb T ng k) = nI (wtP gk ms dk sb T ng k) ∧ wtP gk ms dk sb T ng k ≤ 55 := by
  obtain ⟨v, h1, h2⟩ := taxes_b gk (okT_ev (dk := dk) (sb := sb) (so := 15) (okT_pT h (f := dg ng k) (lo := 0) (hi := ng) (fun g _ h2 _ => hf g h2)))
  have h2' : p_taxes gk ms (wtT dk sb T ng k) = nI v := h2
  unfold wtP
  rw [h2', nI_clamp (by omega)]
  exact ⟨rfl, h1⟩
theorem vaP_w {gk ms dk sb : Nat → Int32} {T : Tb} (h : okT ms T) {ng n : Nat} (h5 : ng ≤ 5) : ∀ k w, vaP (rmN ms T) (wtP gk ms dk sb T ng) ng n k = some w → w < 100 ∧ k < 100000 := by
  intro k w hw
  have h1 := vaP_9 (rm := rmN ms T) (wt := wtP gk ms dk sb T ng) (ng := ng) (n := n) (k := k) (by rw [hw]; exact fun h9 => by cases h9)
  unfold vaP at hw
  by_cases c : k / 10 ^ ng = 0 ∧ vp (rmN ms T) ng 0 n k = true
  · rw [if_pos c] at hw
    cases hw
    have h2 := (wtP_eq (gk := gk) (dk := dk) (sb := sb) h (ng := ng) (k := k) (fun g hg => by
      have h3 := ((vp_iff _ _ _ _ _).mp c.2).2 g hg
      rw [Nat.zero_add] at h3
      exact h3)).2
    have h4 : 10 ^ ng ≤ 10 ^ 5 := Nat.pow_le_pow_right (by decide) h5
    exact ⟨by omega, by omega⟩
  · rw [if_neg c] at hw
    cases hw
/-! ===== orders in which to drink ===== -/
def tO (dk sb : Nat → Int32) (nd : Nat) : Nat → Int32 → Tb → Nat → Option Nat
  | 0, _, T, _ => some (p_thirst T).toNatClampNeg
  | m + 1, come, T, k => if 1 ≤ k / 10 ^ m % 10 ∧ k / 10 ^ m % 10 ≤ nd ∧ bt come (k / 10 ^ m % 10 - 1) = false then tO dk sb nd m (come ||| (1 : Int32) <<< (nI (k / 10 ^ m % 10 - 1) &&& 31)) (p_around dk sb T (k / 10 ^ m % 10 - 1)) k else none
def vaO (dk sb : Nat → Int32) (nd : Nat) (T : Tb) (k : Nat) : Option Nat := if k / 10 ^ nd = 0 then tO dk sb nd nd 0 T k else none
def ndO (va : Nat → Option Nat) (dk sb : Nat → Int32) (nd m : Nat) (come : Int32) (T : Tb) (w : Nat) : Prop := ∀ k, k / 10 ^ m = w → va k = tO dk sb nd m come T k
theorem ndO_0 (dk sb : Nat → Int32) (nd : Nat) (T : Tb) : ndO (vaO dk sb nd T) dk sb nd nd 0 T 0 := fun k hk => if_pos hk
theorem tO_s (dk sb : Nat → Int32) (nd : Nat) (come : Int32) (T : Tb) {m k w c : Nat} (hk : k / 10 ^ m = 10 * w + c) (hc : c < 10) : k / 10 ^ (m + 1) = w ∧ tO dk sb nd (m + 1) come T k = if 1 ≤ c ∧ c ≤ nd ∧ bt come (c - 1) = false then tO dk sb nd m (come ||| (1 : Int32) <<< (nI (c - 1) &&& 31)) (p_around dk sb T (c - 1)) k else none := by
  refine ⟨by rw [dv_up, hk]; omega, ?_⟩
  have e : k / 10 ^ m % 10 = c := by omega
  show (if 1 ≤ k / 10 ^ m % 10 ∧ k / 10 ^ m % 10 ≤ nd ∧ bt come (k / 10 ^ m % 10 - 1) = false then tO dk sb nd m (come ||| (1 : Int32) <<< (nI (k / 10 ^ m % 10 - 1) &&& 31)) (p_around dk sb T (k / 10 ^ m % 10 - 1)) k else none) = _
  rw [e]
theorem ndO_s {va : Nat → Option Nat} {dk sb : Nat → Int32} {nd m i w : Nat} {come : Int32} {T : Tb} (h : ndO va dk sb nd (m + 1) come T w) (h4 : nd ≤ 4) (hi : i < nd) (hb : bt come i = false) : ndO va dk sb nd m (come ||| (1 : Int32) <<< (nI i &&& 31)) (p_around dk sb T i) (10 * w + (i + 1)) := by
  intro k hk
  obtain ⟨e1, e2⟩ := tO_s dk sb nd come T hk (show i + 1 < 10 by omega)
  rw [h k e1, e2, if_pos ⟨by omega, by omega, hb⟩]
  rfl
theorem ndO_no {va : Nat → Option Nat} {dk sb : Nat → Int32} {nd m c w : Nat} {come : Int32} {T : Tb} (h : ndO va dk sb nd (m + 1) come T w) (hc : c < 10) (hx : ¬ (1 ≤ c ∧ c ≤ nd ∧ bt come (c - 1) = false)) : ∀ k, k / 10 ^ m = 10 * w + c → va k = none := by
  intro k hk
  obtain ⟨e1, e2⟩ := tO_s dk sb nd come T hk hc
  rw [h k e1, e2, if_neg hx]
theorem thN_b {ms : Nat → Int32} {T : Tb} (h : okT ms T) : ∀ n, n ≤ 4 → ∃ v, v ≤ 9 * n ∧ p_thN T.2.2.1 n = nI v
  | 0, _ => ⟨0, Nat.le_refl _, rfl⟩
  | n + 1, hn => by
    obtain ⟨v, h1, h2⟩ := thN_b h n (by omega)
    obtain ⟨a, h3, h4⟩ := h.2 n (by omega)
    refine ⟨v + a, by omega, ?_⟩
    show p_thN T.2.2.1 n + T.2.2.1 n = nI (v + a)
    rw [h2, h3, nI_add]
theorem th_b {ms : Nat → Int32} {T : Tb} (h : okT ms T) : p_thirst T = nI (p_thirst T).toNatClampNeg ∧ (p_thirst T).toNatClampNeg ≤ 36 := by
  obtain ⟨v, h1, h2⟩ := thN_b h 4 (Nat.le_refl 4)
  have h3 : p_thirst T = nI v := h2
  rw [h3, nI_clamp (by omega)]
  exact ⟨rfl, h1⟩
theorem okT_around {ms dk sb : Nat → Int32} {T : Tb} (h : okT ms T) {d : Nat} (hd : d < 4) : okT ms (p_around dk sb T d) := okT_aroundN h hd 5 (Nat.le_refl 5)
theorem tO_w {ms dk sb : Nat → Int32} {nd : Nat} (h4 : nd ≤ 4) : ∀ m come T k w, okT ms T → tO dk sb nd m come T k = some w → w ≤ 36
  | 0, come, T, k, w, h, e => by
    have e1 : (p_thirst T).toNatClampNeg = w := Option.some.inj e
    rw [← e1]
    exact (th_b h).2
  | m + 1, come, T, k, w, h, e => by
    have e1 : (if 1 ≤ k / 10 ^ m % 10 ∧ k / 10 ^ m % 10 ≤ nd ∧ bt come (k / 10 ^ m % 10 - 1) = false then tO dk sb nd m (come ||| (1 : Int32) <<< (nI (k / 10 ^ m % 10 - 1) &&& 31)) (p_around dk sb T (k / 10 ^ m % 10 - 1)) k else none) = some w := e
    by_cases c : 1 ≤ k / 10 ^ m % 10 ∧ k / 10 ^ m % 10 ≤ nd ∧ bt come (k / 10 ^ m % 10 - 1) = false
    · rw [if_pos c] at e1
      exact tO_w h4 m _ _ _ _ (okT_around h (by omega)) e1
    · rw [if_neg c] at e1
      cases e1
theorem vaO_w {ms dk sb : Nat → Int32} {nd : Nat} (h4 : nd ≤ 4) {T : Tb} (h : okT ms T) : ∀ k w, vaO dk sb nd T k = some w → w < 100 ∧ k < 100000 := by
  intro k w hw
  unfold vaO at hw
  by_cases c : k / 10 ^ nd = 0
  · rw [if_pos c] at hw
    have h1 := tO_w h4 _ _ _ _ _ h hw
    have h2 := Nat.lt_of_div_eq_zero (p10 nd) c
    have h3 : 10 ^ nd ≤ 10 ^ 4 := Nat.pow_le_pow_right (by decide) h4
    exact ⟨by omega, by omega⟩
  · rw [if_neg c] at hw
    cases hw
def trN (dk sb : Nat → Int32) (T : Tb) (u : Nat → Nat) : Nat → Tb
  | 0 => T
  | n + 1 => p_around dk sb (trN dk sb T u n) (u n)
theorem trN_c {dk sb : Nat → Int32} {T : Tb} {u u' : Nat → Nat} : ∀ n, (∀ j, j < n → u j = u' j) → trN dk sb T u n = trN dk sb T u' n
  | 0, _ => rfl
  | n + 1, h => by
    show p_around dk sb (trN dk sb T u n) (u n) = p_around dk sb (trN dk sb T u' n) (u' n)
    rw [trN_c n (fun j hj => h j (by omega)), h n (by omega)]
theorem okT_tr {ms dk sb : Nat → Int32} {T : Tb} (h : okT ms T) {u : Nat → Nat} : ∀ n, (∀ j, j < n → u j < 4) → okT ms (trN dk sb T u n)
  | 0, _ => h
  | n + 1, hu => okT_around (okT_tr h n (fun j hj => hu j (by omega))) (hu n (by omega))
theorem zT_tr {dk sb : Nat → Int32} {T : Tb} (h : zT T) {u : Nat → Nat} : ∀ n, (∀ j, j < n → u j < 4) → zT (trN dk sb T u n)
  | 0, _ => h
  | n + 1, hu => zT_around (zT_tr h n (fun j hj => hu j (by omega))) (hu n (by omega))
