/-! ===== leaks: the sums of both sides ===== -/
def sg (f : Nat → Nat) : Nat → Nat
  | 0 => 0
  | n + 1 => sg f n + f n
theorem sg_c {f g : Nat → Nat} : ∀ n, (∀ i, i < n → f i = g i) → sg f n = sg g n
  | 0, _ => rfl
  | n + 1, h => by
    show sg f n + f n = sg g n + g n
    rw [sg_c n (fun i hi => h i (by omega)), h n (by omega)]
theorem sg_add (f : Nat → Nat) (a : Nat) : ∀ n, sg f (a + n) = sg f a + sg (fun i => f (a + i)) n
  | 0 => rfl
  | n + 1 => by
    show sg f (a + n) + f (a + n) = sg f a + (sg (fun i => f (a + i)) n + f (a + n))
    rw [sg_add f a n, Nat.add_assoc]
theorem sg_mul (f : Nat → Nat) (c : Nat) : ∀ n, sg (fun i => f i * c) n = sg f n * c
  | 0 => (Nat.zero_mul c).symm
  | n + 1 => by
    show sg (fun i => f i * c) n + f n * c = (sg f n + f n) * c
    rw [sg_mul f c n, Nat.add_mul]
theorem sg_0 {f : Nat → Nat} : ∀ n, (∀ i, i < n → f i = 0) → sg f n = 0
  | 0, _ => rfl
  | n + 1, h => by
    show sg f n + f n = 0
    rw [sg_0 n (fun i hi => h i (by omega)), h n (by omega)]
def lW (X n : Nat) : Nat → Nat
  | 0 => 1
  | g + 1 => lW X n g * (if n.testBit g = true then X else 10 - X)
def lC (b : Nat → Bool) (X n : Nat) : Nat → Nat
  | 0 => 1
  | g + 1 => if b g = true then lC b X n g * (if n.testBit g = true then X else 10 - X) else lC b X n g
def F5 (b : Nat → Bool) : Nat → Nat
  | 0 => 0
  | n + 1 => F5 b n + (if b n = true then 2 ^ n else 0)
def mS (b : Nat → Bool) (X : Nat) (Pr : Nat → Bool) : Nat → Nat → Nat
  | 0, acc => if Pr acc = true then 1 else 0
  | k + 1, acc => mS b X Pr k acc * (10 - X) + mS b X Pr k (acc + (if b k = true then 2 ^ k else 0)) * X
def cS (b : Nat → Bool) (X : Nat) (Pr : Nat → Bool) : Nat → Nat → Nat
  | 0, acc => if Pr acc = true then 1 else 0
  | k + 1, acc => if b k = true then cS b X Pr k acc * (10 - X) + cS b X Pr k (acc + 2 ^ k) * X else cS b X Pr k acc
theorem lW_hi (X k i : Nat) : ∀ g, g ≤ k → lW X (2 ^ k + i) g = lW X i g
  | 0, _ => rfl
  | g + 1, h => by
    show lW X (2 ^ k + i) g * (if (2 ^ k + i).testBit g = true then X else 10 - X) = lW X i g * (if i.testBit g = true then X else 10 - X)
    rw [lW_hi X k i g (by omega), Nat.testBit_two_pow_add_gt (by omega)]
theorem lC_hi (b : Nat → Bool) (X k i : Nat) : ∀ g, g ≤ k → lC b X (2 ^ k + i) g = lC b X i g
  | 0, _ => rfl
  | g + 1, h => by
    show (if b g = true then lC b X (2 ^ k + i) g * (if (2 ^ k + i).testBit g = true then X else 10 - X) else lC b X (2 ^ k + i) g) = (if b g = true then lC b X i g * (if i.testBit g = true then X else 10 - X) else lC b X i g)
    rw [lC_hi b X k i g (by omega), Nat.testBit_two_pow_add_gt (by omega)]
theorem tb_k {k i : Nat} (h : i < 2 ^ k) : (2 ^ k + i).testBit k = true := by
  rw [Nat.testBit_two_pow_add_eq, Nat.testBit_lt_two_pow h]
  rfl
theorem and_f0 : ∀ (k : Fin 5) (i : Fin 16) (F : Fin 32), (i : Nat) < 2 ^ (k : Nat) → (2 ^ (k : Nat) + (i : Nat)) &&& (F : Nat) = ((i : Nat) &&& (F : Nat)) + (if (F : Nat).testBit k = true then 2 ^ (k : Nat) else 0) := by decide +kernel
theorem p2k {k : Nat} (h : k < 5) : 2 ^ k ≤ 16 := Nat.pow_le_pow_right (n := 2) (j := 4) (by decide) (by omega)
theorem and_f {k i F : Nat} (hk : k < 5) (hF : F < 32) (hi : i < 2 ^ k) : (2 ^ k + i) &&& F = (i &&& F) + (if F.testBit k = true then 2 ^ k else 0) := and_f0 ⟨k, hk⟩ ⟨i, by have := p2k hk; omega⟩ ⟨F, hF⟩ hi
theorem ite_m0 (p : Bool) (a c : Nat) : (if p = true then a * c else 0) = (if p = true then a else 0) * c := by
  cases p
  · rw [if_neg (by decide), if_neg (by decide), Nat.zero_mul]
  · rw [if_pos rfl, if_pos rfl]
theorem mS_eq {b : Nat → Bool} {X : Nat} {Pr : Nat → Bool} {F : Nat} (hF : F < 32) (hb : ∀ g, g < 5 → F.testBit g = b g) : ∀ k, k ≤ 5 → ∀ acc, sg (fun n => if Pr ((n &&& F) + acc) = true then lW X n k else 0) (2 ^ k) = mS b X Pr k acc
  | 0, _, acc => by
    show 0 + (if Pr ((0 &&& F) + acc) = true then 1 else 0) = if Pr acc = true then 1 else 0
    rw [Nat.zero_add, Nat.zero_and, Nat.zero_add]
  | k + 1, hk, acc => by
    rw [show 2 ^ (k + 1) = 2 ^ k + 2 ^ k from by rw [Nat.pow_succ]; omega, sg_add]
    have h1 : sg (fun n => if Pr ((n &&& F) + acc) = true then lW X n (k + 1) else 0) (2 ^ k) = sg (fun n => if Pr ((n &&& F) + acc) = true then lW X n k else 0) (2 ^ k) * (10 - X) := by
      rw [← sg_mul]
      refine sg_c _ (fun n hn => ?_)
      show (if Pr ((n &&& F) + acc) = true then lW X n k * (if n.testBit k = true then X else 10 - X) else 0) = (if Pr ((n &&& F) + acc) = true then lW X n k else 0) * (10 - X)
      rw [Nat.testBit_lt_two_pow hn, if_neg (show ¬ false = true by decide), ite_m0]
    have h2 : sg (fun i => (fun n => if Pr ((n &&& F) + acc) = true then lW X n (k + 1) else 0) (2 ^ k + i)) (2 ^ k) = sg (fun n => if Pr ((n &&& F) + (acc + (if b k = true then 2 ^ k else 0))) = true then lW X n k else 0) (2 ^ k) * X := by
      rw [← sg_mul]
      refine sg_c _ (fun n hn => ?_)
      show (if Pr (((2 ^ k + n) &&& F) + acc) = true then lW X (2 ^ k + n) k * (if (2 ^ k + n).testBit k = true then X else 10 - X) else 0) = (if Pr ((n &&& F) + (acc + (if b k = true then 2 ^ k else 0))) = true then lW X n k else 0) * X
      rw [tb_k hn, if_pos rfl, lW_hi X k n k (Nat.le_refl k), and_f (by omega) hF hn, hb k (by omega), Nat.add_assoc, Nat.add_comm (if b k = true then 2 ^ k else 0) acc, ite_m0]
    rw [h1, h2, mS_eq hF hb k (by omega), mS_eq hF hb k (by omega)]
    rfl
theorem cS_eq {b : Nat → Bool} {X : Nat} {Pr : Nat → Bool} {F : Nat} (hF : F < 32) (hb : ∀ g, g < 5 → F.testBit g = b g) : ∀ k, k ≤ 5 → ∀ acc, sg (fun n => if n &&& F = n then (if Pr (n + acc) = true then lC b X n k else 0) else 0) (2 ^ k) = cS b X Pr k acc
  | 0, _, acc => by
    show 0 + (if 0 &&& F = 0 then (if Pr (0 + acc) = true then 1 else 0) else 0) = if Pr acc = true then 1 else 0
    rw [Nat.zero_add, Nat.zero_and, if_pos rfl, Nat.zero_add]
  | k + 1, hk, acc => by
    rw [show 2 ^ (k + 1) = 2 ^ k + 2 ^ k from by rw [Nat.pow_succ]; omega, sg_add]
    have hp : 0 < 2 ^ k := Nat.pow_pos (by decide)
    by_cases hbk : b k = true
    · have h1 : sg (fun n => if n &&& F = n then (if Pr (n + acc) = true then lC b X n (k + 1) else 0) else 0) (2 ^ k) = sg (fun n => if n &&& F = n then (if Pr (n + acc) = true then lC b X n k else 0) else 0) (2 ^ k) * (10 - X) := by
        rw [← sg_mul]
        refine sg_c _ (fun n hn => ?_)
        show (if n &&& F = n then (if Pr (n + acc) = true then (if b k = true then lC b X n k * (if n.testBit k = true then X else 10 - X) else lC b X n k) else 0) else 0) = (if n &&& F = n then (if Pr (n + acc) = true then lC b X n k else 0) else 0) * (10 - X)
        rw [Nat.testBit_lt_two_pow hn, if_neg (show ¬ false = true by decide), if_pos hbk]
        split
        · split
          · rfl
          · rw [Nat.zero_mul]
        · rw [Nat.zero_mul]
      have h2 : sg (fun i => (fun n => if n &&& F = n then (if Pr (n + acc) = true then lC b X n (k + 1) else 0) else 0) (2 ^ k + i)) (2 ^ k) = sg (fun n => if n &&& F = n then (if Pr (n + (acc + 2 ^ k)) = true then lC b X n k else 0) else 0) (2 ^ k) * X := by
        rw [← sg_mul]
        refine sg_c _ (fun n hn => ?_)
        show (if (2 ^ k + n) &&& F = 2 ^ k + n then (if Pr (2 ^ k + n + acc) = true then (if b k = true then lC b X (2 ^ k + n) k * (if (2 ^ k + n).testBit k = true then X else 10 - X) else lC b X (2 ^ k + n) k) else 0) else 0) = (if n &&& F = n then (if Pr (n + (acc + 2 ^ k)) = true then lC b X n k else 0) else 0) * X
        rw [tb_k hn, if_pos (show true = true from rfl), if_pos hbk, lC_hi b X k n k (Nat.le_refl k), and_f (by omega) hF hn, hb k (by omega), if_pos hbk, show 2 ^ k + n + acc = n + (acc + 2 ^ k) from by omega]
        by_cases c : n &&& F = n
        · rw [if_pos c, if_pos (by omega)]
          split
          · rfl
          · rw [Nat.zero_mul]
        · rw [if_neg c, if_neg (by omega), Nat.zero_mul]
      rw [h1, h2, cS_eq hF hb k (by omega), cS_eq hF hb k (by omega)]
      show _ = if b k = true then cS b X Pr k acc * (10 - X) + cS b X Pr k (acc + 2 ^ k) * X else cS b X Pr k acc
      rw [if_pos hbk]
    · have h1 : sg (fun n => if n &&& F = n then (if Pr (n + acc) = true then lC b X n (k + 1) else 0) else 0) (2 ^ k) = sg (fun n => if n &&& F = n then (if Pr (n + acc) = true then lC b X n k else 0) else 0) (2 ^ k) := by
        refine sg_c _ (fun n hn => ?_)
        show (if n &&& F = n then (if Pr (n + acc) = true then (if b k = true then lC b X n k * (if n.testBit k = true then X else 10 - X) else lC b X n k) else 0) else 0) = (if n &&& F = n then (if Pr (n + acc) = true then lC b X n k else 0) else 0)
        rw [if_neg hbk]
      have h2 : sg (fun i => (fun n => if n &&& F = n then (if Pr (n + acc) = true then lC b X n (k + 1) else 0) else 0) (2 ^ k + i)) (2 ^ k) = 0 := by
        refine sg_0 _ (fun n hn => ?_)
        show (if (2 ^ k + n) &&& F = 2 ^ k + n then (if Pr (2 ^ k + n + acc) = true then lC b X (2 ^ k + n) (k + 1) else 0) else 0) = 0
        have h3 := Nat.and_le_left (n := n) (m := F)
        rw [and_f (by omega) hF hn, hb k (by omega), if_neg hbk, if_neg (by omega)]
      rw [h1, h2, cS_eq hF hb k (by omega), Nat.add_zero]
      show _ = if b k = true then cS b X Pr k acc * (10 - X) + cS b X Pr k (acc + 2 ^ k) * X else cS b X Pr k acc
      rw [if_neg hbk]
def E10 (b : Nat → Bool) : Nat → Nat
  | 0 => 1
  | n + 1 => if b n = true then E10 b n else E10 b n * 10
def A10 (b : Nat → Bool) : Nat → Nat
  | 0 => 1
  | n + 1 => if b n = true then A10 b n * 10 else A10 b n
theorem E10_s (b : Nat → Bool) (n : Nat) : E10 b (n + 1) = if b n = true then E10 b n else E10 b n * 10 := rfl
theorem A10_s (b : Nat → Bool) (n : Nat) : A10 b (n + 1) = if b n = true then A10 b n * 10 else A10 b n := rfl
theorem AE (b : Nat → Bool) : ∀ n, A10 b n * E10 b n = 10 ^ n
  | 0 => rfl
  | n + 1 => by
    rw [E10_s, A10_s, Nat.pow_succ, ← AE b n]
    by_cases h : b n = true
    · rw [if_pos h, if_pos h, Nat.mul_right_comm]
    · rw [if_neg h, if_neg h, Nat.mul_assoc]
theorem E10_p (b : Nat → Bool) : ∀ n, 0 < E10 b n
  | 0 => Nat.zero_lt_one
  | n + 1 => by
    have := E10_p b n
    rw [E10_s]
    split <;> omega
theorem A10_p (b : Nat → Bool) : ∀ n, 0 < A10 b n
  | 0 => Nat.zero_lt_one
  | n + 1 => by
    have := A10_p b n
    rw [A10_s]
    split <;> omega
theorem mS_cS {b : Nat → Bool} {X : Nat} {Pr : Nat → Bool} (hX : X ≤ 10) : ∀ k acc, mS b X Pr k acc = cS b X Pr k acc * E10 b k
  | 0, acc => (Nat.mul_one _).symm
  | k + 1, acc => by
    show mS b X Pr k acc * (10 - X) + mS b X Pr k (acc + (if b k = true then 2 ^ k else 0)) * X = (if b k = true then cS b X Pr k acc * (10 - X) + cS b X Pr k (acc + 2 ^ k) * X else cS b X Pr k acc) * (if b k = true then E10 b k else E10 b k * 10)
    by_cases h : b k = true
    · rw [if_pos h, if_pos h, if_pos h, mS_cS hX k, mS_cS hX k, Nat.add_mul, Nat.mul_right_comm, Nat.mul_right_comm (cS b X Pr k (acc + 2 ^ k))]
    · rw [if_neg h, if_neg h, if_neg h, Nat.add_zero, ← Nat.mul_add, Nat.sub_add_cancel hX, mS_cS hX k, Nat.mul_assoc]
theorem mS_b {b : Nat → Bool} {X : Nat} {Pr : Nat → Bool} (hX : X ≤ 10) : ∀ k acc, mS b X Pr k acc ≤ 10 ^ k
  | 0, acc => by
    show (if Pr acc = true then 1 else 0) ≤ 1
    split <;> omega
  | k + 1, acc => by
    show mS b X Pr k acc * (10 - X) + mS b X Pr k (acc + (if b k = true then 2 ^ k else 0)) * X ≤ 10 ^ (k + 1)
    have h1 := Nat.mul_le_mul_right (10 - X) (mS_b (b := b) (Pr := Pr) hX k acc)
    have h2 := Nat.mul_le_mul_right X (mS_b (b := b) (Pr := Pr) hX k (acc + (if b k = true then 2 ^ k else 0)))
    have h3 : 10 ^ (k + 1) = 10 ^ k * (10 - X) + 10 ^ k * X := by rw [← Nat.mul_add, Nat.sub_add_cancel hX, Nat.pow_succ]
    omega
theorem mS_t {b : Nat → Bool} {X : Nat} (hX : X ≤ 10) : ∀ k acc, mS b X (fun _ => true) k acc = 10 ^ k
  | 0, acc => rfl
  | k + 1, acc => by
    show mS b X (fun _ => true) k acc * (10 - X) + mS b X (fun _ => true) k (acc + (if b k = true then 2 ^ k else 0)) * X = 10 ^ (k + 1)
    rw [mS_t hX k, mS_t hX k, ← Nat.mul_add, Nat.sub_add_cancel hX, Nat.pow_succ]
theorem cS_hi {b : Nat → Bool} {X : Nat} {Pr : Nat → Bool} {ng : Nat} (h : ∀ g, ng ≤ g → b g = false) (acc : Nat) : ∀ j, cS b X Pr (ng + j) acc = cS b X Pr ng acc
  | 0 => rfl
  | j + 1 => by
    show (if b (ng + j) = true then cS b X Pr (ng + j) acc * (10 - X) + cS b X Pr (ng + j) (acc + 2 ^ (ng + j)) * X else cS b X Pr (ng + j) acc) = _
    rw [h (ng + j) (by omega), if_neg (by decide), cS_hi h acc j]
theorem A10_hi {b : Nat → Bool} {ng : Nat} (h : ∀ g, ng ≤ g → b g = false) : ∀ j, A10 b (ng + j) = A10 b ng
  | 0 => rfl
  | j + 1 => by
    show (if b (ng + j) = true then A10 b (ng + j) * 10 else A10 b (ng + j)) = _
    rw [h (ng + j) (by omega), if_neg (by decide), A10_hi h j]
/-! ===== the numbers of the machine ===== -/
theorem bt_tb0 : ∀ (n : Fin 32) (g : Fin 5), bt (nI n) g = (n : Nat).testBit g := by decide +kernel
theorem bt_tb {n g : Nat} (hn : n < 32) (hg : g < 5) : bt (nI n) g = n.testBit g := bt_tb0 ⟨n, hn⟩ ⟨g, hg⟩
theorem fl_or0 : ∀ (n : Fin 5) (a : Fin 16), (a : Nat) < 2 ^ (n : Nat) → nI a ||| (1 : Int32) <<< (nI n &&& 31) = nI (a + 2 ^ (n : Nat)) := by decide +kernel
theorem sub_0 : ∀ (n F : Fin 32), (nI n &&& (nI F ^^^ -1) = 0) ↔ ((n : Nat) &&& (F : Nat) = n) := by decide +kernel
theorem bt_and0 : ∀ (n F : Fin 32) (g : Fin 5), bt (nI ((n : Nat) &&& (F : Nat))) g = (bt (nI n) g && bt (nI F) g) := by decide +kernel
def b5 (b0 b1 b2 b3 b4 : Bool) (i : Nat) : Bool := if i = 0 then b0 else if i = 1 then b1 else if i = 2 then b2 else if i = 3 then b3 else if i = 4 then b4 else false
theorem F5_t0 : ∀ (b0 b1 b2 b3 b4 : Bool) (g : Fin 5), (F5 (b5 b0 b1 b2 b3 b4) 5).testBit g = b5 b0 b1 b2 b3 b4 g := by decide +kernel
theorem F5_c {b b' : Nat → Bool} : ∀ n, (∀ i, i < n → b i = b' i) → F5 b n = F5 b' n
  | 0, _ => rfl
  | n + 1, h => by
    show F5 b n + (if b n = true then 2 ^ n else 0) = F5 b' n + (if b' n = true then 2 ^ n else 0)
    rw [F5_c n (fun i hi => h i (by omega)), h n (by omega)]
theorem b5_eq (b : Nat → Bool) {i : Nat} (h : i < 5) : b i = b5 (b 0) (b 1) (b 2) (b 3) (b 4) i := by
  match i, h with
  | 0, _ => rfl
  | 1, _ => rfl
  | 2, _ => rfl
  | 3, _ => rfl
  | 4, _ => rfl
theorem F5_t (b : Nat → Bool) : ∀ g, g < 5 → (F5 b 5).testBit g = b g := by
  intro g hg
  rw [F5_c 5 (fun i hi => b5_eq b hi), b5_eq b hg]
  exact F5_t0 _ _ _ _ _ ⟨g, hg⟩
theorem F5_lt (b : Nat → Bool) : ∀ n, F5 b n < 2 ^ n
  | 0 => Nat.zero_lt_one
  | n + 1 => by
    have := F5_lt b n
    show F5 b n + (if b n = true then 2 ^ n else 0) < 2 ^ (n + 1)
    rw [Nat.pow_succ]
    split <;> omega
def bF (c : Nat → Int32) (g : Nat) : Bool := decide (¬ c g ≤ 0)
theorem fl_eq (c : Nat → Int32) : ∀ n, n ≤ 5 → p_fl c n = nI (F5 (bF c) n)
  | 0, _ => rfl
  | n + 1, h => by
    show (if c n ≤ 0 then p_fl c n else p_fl c n ||| (1 : Int32) <<< (nI n &&& 31)) = nI (F5 (bF c) n + (if bF c n = true then 2 ^ n else 0))
    rw [fl_eq c n (by omega)]
    by_cases e : c n ≤ 0
    · rw [if_pos e, if_neg (show ¬ bF c n = true from fun h9 => of_decide_eq_true h9 e), Nat.add_zero]
    · have h1 := F5_lt (bF c) n
      have h2 := p2k (show n < 5 by omega)
      rw [if_neg e, if_pos (show bF c n = true from decide_eq_true e)]
      exact fl_or0 ⟨n, by omega⟩ ⟨F5 (bF c) n, by omega⟩ h1
theorem al_eq (c : Nat → Int32) : ∀ n, p_al c n = nI (A10 (bF c) n)
  | 0 => rfl
  | n + 1 => by
    show (if c n ≤ 0 then p_al c n else p_al c n * 10) = nI (A10 (bF c) (n + 1))
    rw [al_eq c n, A10_s]
    by_cases e : c n ≤ 0
    · rw [if_pos e, if_neg (show ¬ bF c n = true from fun h9 => of_decide_eq_true h9 e)]
    · rw [if_neg e, if_pos (show bF c n = true from decide_eq_true e), n10]
theorem sub10 {X : Nat} (h : X ≤ 10) : (10 : Int32) - nI X = nI (10 - X) := nI_sub (a := 10) h
theorem wf_eq {X i k : Nat} (hX : X ≤ 10) (hi : i < 32) (hk : k < 5) : (if bt (nI i) k = true then nI X else 10 - nI X) = nI (if i.testBit k = true then X else 10 - X) := by
  rw [bt_tb hi hk, sub10 hX]
  split <;> rfl
theorem qwt_eq {X i : Nat} (hX : X ≤ 10) (hi : i < 32) : ∀ k, k ≤ 5 → q_wt (nI i) (nI X) k = nI (lW X i k)
  | 0, _ => rfl
  | k + 1, h => by
    show q_wt (nI i) (nI X) k * (if bt (nI i) k = true then nI X else 10 - nI X) = nI (lW X i k * (if i.testBit k = true then X else 10 - X))
    rw [qwt_eq hX hi k (by omega), wf_eq hX hi (by omega), nI_mul]
theorem pwt_eq {b : Nat → Bool} {F X i : Nat} (hF : F < 32) (hb : ∀ g, g < 5 → F.testBit g = b g) (hX : X ≤ 10) (hi : i < 32) : ∀ k, k ≤ 5 → p_wtN (nI i) (nI F) (nI X) k = nI (lC b X i k)
  | 0, _ => rfl
  | k + 1, h => by
    show (if bt (nI F) k = true then p_wtN (nI i) (nI F) (nI X) k * (if bt (nI i) k = true then nI X else 10 - nI X) else p_wtN (nI i) (nI F) (nI X) k) = nI (if b k = true then lC b X i k * (if i.testBit k = true then X else 10 - X) else lC b X i k)
    rw [pwt_eq hF hb hX hi k (by omega), wf_eq hX hi (by omega), nI_mul, bt_tb hF (by omega), hb k (by omega)]
    split <;> rfl
theorem all_eq {X ng : Nat} (hX : X ≤ 10) (h5 : ng ≤ 5) : ∀ n, n ≤ 32 → q_all (nI X) ng n = nI (sg (fun i => lW X i ng) n)
  | 0, _ => rfl
  | n + 1, h => by
    show q_all (nI X) ng n + q_wt (nI n) (nI X) ng = nI (sg (fun i => lW X i ng) n + lW X n ng)
    rw [all_eq hX h5 n (by omega), qwt_eq hX (by omega) ng h5, nI_add]
theorem som_eq {tl : Nat → Int32} {m : Int32} {X ng : Nat} (hX : X ≤ 10) (h5 : ng ≤ 5) : ∀ n, n ≤ 32 → q_som tl m (nI X) ng n = nI (sg (fun i => if decide (¬ tl i < m) = true then lW X i ng else 0) n)
  | 0, _ => rfl
  | n + 1, h => by
    show q_som tl m (nI X) ng n + (if tl n < m then 0 else q_wt (nI n) (nI X) ng) = nI (sg (fun i => if decide (¬ tl i < m) = true then lW X i ng else 0) n + (if decide (¬ tl n < m) = true then lW X n ng else 0))
    rw [som_eq hX h5 n (by omega), qwt_eq hX (by omega) ng h5, ← nI_add]
    by_cases e : tl n < m
    · rw [if_pos e, if_neg (show ¬ decide (¬ tl n < m) = true from fun h9 => of_decide_eq_true h9 e), nI_0]
    · rw [if_neg e, if_pos (decide_eq_true e)]
theorem good_eq {tl wt : Nat → Int32} {m : Int32} {F : Nat} {w : Nat → Nat} (hF : F < 32) (hw : ∀ i, i < 32 → wt i = nI (w i)) : ∀ n, n ≤ 32 → p_goodN tl wt (nI F) m n = nI (sg (fun i => if i &&& F = i then (if decide (¬ tl i < m) = true then w i else 0) else 0) n)
  | 0, _ => rfl
  | n + 1, h => by
    show (if nI n &&& (nI F ^^^ -1) = 0 then (if tl n < m then p_goodN tl wt (nI F) m n else p_goodN tl wt (nI F) m n + wt n) else p_goodN tl wt (nI F) m n) = nI (sg (fun i => if i &&& F = i then (if decide (¬ tl i < m) = true then w i else 0) else 0) n + (if n &&& F = n then (if decide (¬ tl n < m) = true then w n else 0) else 0))
    rw [good_eq hF hw n (by omega), hw n (by omega)]
    by_cases c : n &&& F = n
    · rw [if_pos ((sub_0 ⟨n, by omega⟩ ⟨F, hF⟩).mpr c), if_pos c]
      by_cases e : tl n < m
      · rw [if_pos e, if_neg (show ¬ decide (¬ tl n < m) = true from fun h9 => of_decide_eq_true h9 e), Nat.add_zero]
      · rw [if_neg e, if_pos (decide_eq_true e), nI_add]
    · rw [if_neg (fun h9 => c ((sub_0 ⟨n, by omega⟩ ⟨F, hF⟩).mp h9)), if_neg c, Nat.add_zero]
/-! ===== the tables of both sides ===== -/
theorem qlk_r (s : Int32) (T : Tb) : ∀ k, (q_lkN s T k).2 = T.2
  | 0 => rfl
  | k + 1 => qlk_r s T k
theorem plk_r (s : Int32) (T : Tb) : ∀ k, (p_lkN s T k).2 = T.2
  | 0 => rfl
  | k + 1 => by
    show (if bt s k = true then (upd (p_lkN s T k).1 k ((p_lkN s T k).1 k - 1), (p_lkN s T k).2) else p_lkN s T k).2 = T.2
    split
    · exact plk_r s T k
    · exact plk_r s T k
theorem qlk_at (s : Int32) (T : Tb) (j : Nat) : ∀ k, (q_lkN s T k).1 j = if j < k then T.1 j - (if bt s j = true then (if T.1 j ≤ 0 then 0 else 1) else 0) else T.1 j
  | 0 => rfl
  | k + 1 => by
    show upd (q_lkN s T k).1 k ((q_lkN s T k).1 k - (if bt s k = true then (if (q_lkN s T k).1 k ≤ 0 then 0 else 1) else 0)) j = _
    by_cases e : j = k
    · subst e
      rw [upd_at, qlk_at s T j j, if_neg (Nat.lt_irrefl j), if_pos (Nat.lt_succ_self j)]
    · rw [upd_ne _ _ e, qlk_at s T j k]
      by_cases c : j < k
      · rw [if_pos c, if_pos (show j < k + 1 by omega)]
      · rw [if_neg c, if_neg (show ¬ j < k + 1 by omega)]
theorem plk_at (s : Int32) (T : Tb) (j : Nat) : ∀ k, (p_lkN s T k).1 j = if j < k ∧ bt s j = true then T.1 j - 1 else T.1 j
  | 0 => (if_neg (fun h => Nat.not_lt_zero j h.1)).symm
  | k + 1 => by
    show (if bt s k = true then (upd (p_lkN s T k).1 k ((p_lkN s T k).1 k - 1), (p_lkN s T k).2) else p_lkN s T k).1 j = _
    by_cases e : j = k
    · subst e
      by_cases c : bt s j = true
      · rw [if_pos c, if_pos ⟨Nat.lt_succ_self j, c⟩]
        show upd (p_lkN s T j).1 j ((p_lkN s T j).1 j - 1) j = _
        rw [upd_at, plk_at s T j j, if_neg (fun h9 => Nat.lt_irrefl j h9.1)]
      · rw [if_neg c, if_neg (fun h9 => c h9.2), plk_at s T j j, if_neg (fun h9 => c h9.2)]
    · have h1 : (if bt s k = true then (upd (p_lkN s T k).1 k ((p_lkN s T k).1 k - 1), (p_lkN s T k).2) else p_lkN s T k).1 j = (p_lkN s T k).1 j := by
        split
        · exact upd_ne _ _ e
        · rfl
      rw [h1, plk_at s T j k]
      by_cases c : j < k ∧ bt s j = true
      · rw [if_pos c, if_pos ⟨by omega, c.2⟩]
      · rw [if_neg c, if_neg (fun h9 => c ⟨by omega, h9.2⟩)]
theorem lk_eq {T : Tb} {ng n : Nat} (h5 : ng ≤ 5) (hz : ∀ g, ng ≤ g → T.1 g ≤ 0) (hn : n < 32) : q_lkN (nI n) T ng = p_lkN (nI (n &&& F5 (bF T.1) 5)) T 5 := by
  refine Prod.ext (funext fun j => ?_) ((qlk_r _ _ _).trans (plk_r _ _ _).symm)
  have hF : F5 (bF T.1) 5 < 32 := F5_lt _ 5
  rw [qlk_at, plk_at]
  by_cases c5 : j < 5
  · have e := bt_and0 ⟨n, hn⟩ ⟨F5 (bF T.1) 5, hF⟩ ⟨j, c5⟩
    have e2 : bt (nI (F5 (bF T.1) 5)) j = bF T.1 j := (bt_tb hF c5).trans (F5_t _ j c5)
    rw [show bt (nI (n &&& F5 (bF T.1) 5)) j = (bt (nI n) j && bF T.1 j) from e.trans (congrArg (fun z => bt (nI n) j && z) e2)]
    by_cases cb : T.1 j ≤ 0
    · rw [show bF T.1 j = false from decide_eq_false (fun h9 => h9 cb), Bool.and_false, if_pos cb, ite_self, Int32.sub_zero, ite_self, if_neg (show ¬ (j < 5 ∧ false = true) from fun h9 => Bool.noConfusion h9.2)]
    · have hj : j < ng := Nat.lt_of_not_le (fun h9 => cb (hz j h9))
      rw [show bF T.1 j = true from decide_eq_true cb, Bool.and_true, if_pos hj, if_neg cb]
      by_cases ct : bt (nI n) j = true
      · rw [if_pos ct, if_pos ⟨c5, ct⟩]
      · rw [if_neg ct, if_neg (fun h9 => ct h9.2), Int32.sub_zero]
  · rw [if_neg (by omega), if_neg (fun h9 => c5 h9.1)]
theorem frac_E {E A C : Nat} (w : Int32) (hE : 0 < E) (hA0 : 0 < A) (hA : A * E < 2 ^ 31) (hC : C * E < 2 ^ 31) : p_frac (nI (C * E)) (C * E) (A * E) w = p_frac (nI C) C A w := by
  have hg := Nat.gcd_pos_of_pos_right C hA0
  have hgl := Nat.gcd_le_right C hA0
  have h1 : Nat.gcd C A * E ≤ A * E := Nat.mul_le_mul_right E hgl
  have h2 : A ≤ A * E := Nat.le_mul_of_pos_right A hE
  have h3 : C ≤ C * E := Nat.le_mul_of_pos_right C hE
  unfold p_frac
  rw [Nat.gcd_mul_right, nI_div hA (by omega), nI_div hC (by omega), nI_div (by omega) (by omega), nI_div (by omega) (by omega), Nat.mul_div_mul_right _ _ hE, Nat.mul_div_mul_right _ _ hE]
theorem ab_n {x : Nat} (h : x < 2 ^ 31) : (if (0 : Int32) ≤ nI x then nI x else 0 - nI x) = nI x := if_pos (nI_pos' h)
/-- both sides of a leak -/
theorem leak_eq {gk ms dk sb : Nat → Int32} {T : Tb} {ng : Nat} (h5 : ng ≤ 5) (hz : ∀ g, ng ≤ g → T.1 g ≤ 0) (m : Int32) {X : Nat} (hX : X ≤ 10) (w : Int32) : ∃ C A E : Nat, p_goodN (fun n => p_taxes gk ms (p_ev dk sb 15 (p_lkN (nI n) T 5))) (fun n => p_wtN (nI n) (p_fl T.1 5) (nI X) 5) (p_fl T.1 5) m 32 = nI C ∧ p_al T.1 5 = nI A ∧ q_som (fun n => p_taxes gk ms (p_ev dk sb 15 (q_lkN (nI n) T ng))) m (nI X) ng (2 ^ ng) = nI (C * E) ∧ q_all (nI X) ng (2 ^ ng) = nI (A * E) ∧ C * E < 2 ^ 31 ∧ A * E < 2 ^ 31 ∧ C < 2 ^ 31 ∧ A < 2 ^ 31 ∧ 0 < A ∧ 0 < E ∧ p_frac (nI (C * E)) (C * E) (A * E) w = p_frac (nI C) C A w := by
  have hF : F5 (bF T.1) 5 < 32 := F5_lt _ 5
  have hb := F5_t (bF T.1)
  have hn : ∀ g, ng ≤ g → bF T.1 g = false := fun g hg => decide_eq_false (fun h9 => h9 (hz g hg))
  have e5 : ng + (5 - ng) = 5 := by omega
  have hA5 : A10 (bF T.1) 5 = A10 (bF T.1) ng := by
    have e := A10_hi hn (5 - ng)
    rw [e5] at e
    exact e
  have h2 : 2 ^ ng ≤ 32 := p2_5 ng h5
  have h10 := p105 h5
  have hAE := AE (bF T.1) ng
  have hEp := E10_p (bF T.1) ng
  have hAp := A10_p (bF T.1) ng
  have hC5 : ∀ Pr acc, cS (bF T.1) X Pr 5 acc = cS (bF T.1) X Pr ng acc := by
    intro Pr acc
    have e := cS_hi (X := X) (Pr := Pr) hn acc (5 - ng)
    rw [e5] at e
    exact e
  refine ⟨cS (bF T.1) X (fun n => decide (¬ p_taxes gk ms (p_ev dk sb 15 (p_lkN (nI n) T 5)) < m)) ng 0, A10 (bF T.1) ng, E10 (bF T.1) ng, ?_, ?_, ?_, ?_, ?_⟩
  · rw [fl_eq T.1 5 (Nat.le_refl 5), good_eq (w := fun n => lC (bF T.1) X n 5) hF (fun i hi => pwt_eq hF hb hX hi 5 (Nat.le_refl 5)) 32 (Nat.le_refl 32), ← hC5]
    have e := cS_eq (X := X) (Pr := fun n => decide (¬ p_taxes gk ms (p_ev dk sb 15 (p_lkN (nI n) T 5)) < m)) hF hb 5 (Nat.le_refl 5) 0
    rw [show (2 : Nat) ^ 5 = 32 from by decide] at e
    rw [← e]
    refine congrArg nI (sg_c _ (fun i _ => ?_))
    show (if i &&& F5 (bF T.1) 5 = i then (if decide (¬ p_taxes gk ms (p_ev dk sb 15 (p_lkN (nI i) T 5)) < m) = true then lC (bF T.1) X i 5 else 0) else 0) = (if i &&& F5 (bF T.1) 5 = i then (if decide (¬ p_taxes gk ms (p_ev dk sb 15 (p_lkN (nI (i + 0)) T 5)) < m) = true then lC (bF T.1) X i 5 else 0) else 0)
    rw [Nat.add_zero]
  · rw [al_eq, hA5]
  · rw [som_eq hX h5 _ h2, ← mS_cS hX]
    have e := mS_eq (X := X) (Pr := fun n => decide (¬ p_taxes gk ms (p_ev dk sb 15 (p_lkN (nI n) T 5)) < m)) hF hb ng h5 0
    rw [← e]
    refine congrArg nI (sg_c _ (fun i hi => ?_))
    show (if decide (¬ p_taxes gk ms (p_ev dk sb 15 (q_lkN (nI i) T ng)) < m) = true then lW X i ng else 0) = (if decide (¬ p_taxes gk ms (p_ev dk sb 15 (p_lkN (nI ((i &&& F5 (bF T.1) 5) + 0)) T 5)) < m) = true then lW X i ng else 0)
    rw [lk_eq h5 hz (by omega), Nat.add_zero]
  · rw [all_eq hX h5 _ h2, hAE, ← mS_t (b := bF T.1) hX ng 0, ← mS_eq (X := X) (Pr := fun _ => true) hF hb ng h5 0]
    exact congrArg nI (sg_c _ (fun i _ => (if_pos rfl).symm))
  · have hM := mS_b (b := bF T.1) (X := X) (Pr := fun n => decide (¬ p_taxes gk ms (p_ev dk sb 15 (p_lkN (nI n) T 5)) < m)) hX ng 0
    rw [mS_cS hX] at hM
    have h3 := Nat.le_mul_of_pos_right (cS (bF T.1) X (fun n => decide (¬ p_taxes gk ms (p_ev dk sb 15 (p_lkN (nI n) T 5)) < m)) ng 0) hEp
    have h4 := Nat.le_mul_of_pos_right (A10 (bF T.1) ng) hEp
    exact ⟨by omega, by omega, by omega, by omega, hAp, hEp, frac_E w hEp hAp (by omega) (by omega)⟩
