/-! pure rows: large numbers in limbs of 10^9 -/
def lb : Nat := 1000000000
def lval (a : Nat → Nat) : Nat → Nat
  | 0 => 0
  | k + 1 => lval a k + a k * lb ^ k
theorem lval_s (a : Nat → Nat) (k : Nat) : lval a (k + 1) = lval a k + a k * lb ^ k := rfl
theorem lval_lt (a : Nat → Nat) : ∀ k, (∀ i, i < k → a i < lb) → lval a k < lb ^ k
  | 0, _ => Nat.lt_succ_self 0
  | k + 1, h => by
    have h1 := lval_lt a k (fun i hi => h i (by omega))
    have h2 : a k + 1 ≤ lb := h k (Nat.lt_succ_self k)
    rw [lval_s, Nat.pow_succ]
    have h3 : (a k + 1) * lb ^ k ≤ lb * lb ^ k := Nat.mul_le_mul_right _ h2
    rw [Nat.add_mul, Nat.one_mul] at h3
    rw [Nat.mul_comm (lb ^ k) lb]
    omega
theorem lval_eq (a b : Nat → Nat) : ∀ k, (∀ i, i < k → a i = b i) → lval a k = lval b k
  | 0, _ => rfl
  | k + 1, h => by rw [lval_s, lval_s, lval_eq a b k (fun i hi => h i (by omega)), h k (Nat.lt_succ_self k)]
/-- the limb j of the whole -/
theorem lval_at (a : Nat → Nat) : ∀ k, (∀ i, i < k → a i < lb) → ∀ j, j < k → lval a k / lb ^ j % lb = a j
  | 0, _, j, hj => absurd hj (Nat.not_lt_zero j)
  | k + 1, h, j, hj => by
    have hp : 0 < lb ^ j := Nat.pow_pos (by decide)
    rw [lval_s]
    by_cases hjk : j = k
    · subst hjk
      rw [Nat.add_mul_div_right _ _ hp, Nat.div_eq_of_lt (lval_lt a j (fun i hi => h i (by omega))), Nat.zero_add]
      exact Nat.mod_eq_of_lt (h j (Nat.lt_succ_self j))
    · obtain ⟨t, rfl⟩ : ∃ t, k = j + 1 + t := ⟨k - (j + 1), by omega⟩
      have e1 : a (j + 1 + t) * lb ^ (j + 1 + t) = (a (j + 1 + t) * lb ^ t * lb) * lb ^ j := by
        rw [Nat.pow_add, Nat.pow_add, Nat.pow_one]
        simp only [Nat.mul_assoc, Nat.mul_comm, Nat.mul_left_comm]
      rw [e1, Nat.add_mul_div_right _ _ hp, Nat.add_mul_mod_self_right]
      exact lval_at a (j + 1 + t) (fun i hi => h i (by omega)) j (by omega)
/-- a digit of the whole by its limb -/
theorem lval_dig (a : Nat → Nat) (k : Nat) (h : ∀ i, i < k → a i < lb) (i : Nat) (hi : i / 9 < k) : lval a k / 10 ^ i % 10 = a (i / 9) / 10 ^ (i % 9) % 10 := by
  have e1 : 10 ^ i = lb ^ (i / 9) * 10 ^ (i % 9) := by
    rw [show lb = 10 ^ 9 from rfl, ← Nat.pow_mul, ← Nat.pow_add, Nat.div_add_mod]
  rw [e1, ← Nat.div_div_eq_div_mul]
  have e2 := lval_at a k h (i / 9) hi
  rw [← e2]
  generalize lval a k / lb ^ (i / 9) = x
  have h9 : i % 9 < 9 := Nat.mod_lt _ (by decide)
  generalize i % 9 = r at h9
  have e3 : lb = 10 ^ r * (10 ^ (8 - r) * 10) := by
    rw [show lb = 10 ^ 9 from rfl, ← Nat.pow_succ, ← Nat.pow_add]
    congr 1
    omega
  rw [e3, Nat.mod_mul_right_div_self, Nat.mod_mul_left_mod]
/-- the decimal digits of N: n of them, the highest first -/
def dgs (N n : Nat) (i : Nat) : Nat := N / 10 ^ (n - 1 - i) % 10
def isN (N n : Nat) : Prop := 0 < n ∧ 10 ^ (n - 1) ≤ N ∧ N < 10 ^ n
theorem isN_eq {N a b : Nat} (h1 : isN N a) (h2 : isN N b) : a = b := by
  rcases Nat.lt_trichotomy a b with h | h | h
  · have : 10 ^ a ≤ 10 ^ (b - 1) := Nat.pow_le_pow_right (by decide) (by omega)
    have := h1.2.2; have := h2.2.1; omega
  · exact h
  · have : 10 ^ b ≤ 10 ^ (a - 1) := Nat.pow_le_pow_right (by decide) (by omega)
    have := h2.2.2; have := h1.2.1; omega
/-- how many digits a limb has -/
def dg10 : Nat → Nat → Nat
  | 0, _ => 0
  | k + 1, x => if x = 0 then 0 else 1 + dg10 k (x / 10)
theorem dg10_s (k x : Nat) : dg10 (k + 1) x = if x = 0 then 0 else 1 + dg10 k (x / 10) := rfl
theorem dg10_is : ∀ (k x : Nat), 0 < x → x < 10 ^ k → isN x (dg10 k x)
  | 0, x, h1, h2 => by have : x < 1 := h2; omega
  | k + 1, x, h1, h2 => by
    rw [dg10_s, if_neg (by omega)]
    by_cases hx : x < 10
    · have e : x / 10 = 0 := Nat.div_eq_of_lt hx
      have e2 : dg10 k (x / 10) = 0 := by rw [e]; cases k <;> rfl
      rw [e2]
      exact ⟨by decide, by show 10 ^ 0 ≤ x; exact h1, by show x < 10 ^ 1; omega⟩
    · have h3 : x / 10 < 10 ^ k := by rw [Nat.div_lt_iff_lt_mul (by decide)]; rw [Nat.pow_succ] at h2; exact h2
      obtain ⟨g1, g2, g3⟩ := dg10_is k (x / 10) (by omega) h3
      generalize dg10 k (x / 10) = q at *
      refine ⟨by omega, ?_, ?_⟩
      · obtain ⟨t, rfl⟩ : ∃ t, q = t + 1 := ⟨q - 1, by omega⟩
        rw [show 1 + (t + 1) - 1 = t + 1 by omega, Nat.pow_succ]
        rw [show t + 1 - 1 = t by omega] at g2
        omega
      · rw [Nat.add_comm 1 q, Nat.pow_succ]
        omega
/-- the whole's digits out of the top limb's -/
theorem isN_lval (a : Nat → Nat) (k t : Nat) (h : ∀ i, i < k + 1 → a i < lb) (ht : isN (a k) t) : isN (lval a (k + 1)) (9 * k + t) := by
  obtain ⟨h1, h2, h3⟩ := ht
  have hl := lval_lt a k (fun i hi => h i (by omega))
  have e0 : lb ^ k = 10 ^ (9 * k) := by rw [show lb = 10 ^ 9 from rfl, ← Nat.pow_mul]
  rw [lval_s, e0]
  rw [e0] at hl
  refine ⟨by omega, ?_, ?_⟩
  · rw [show 9 * k + t - 1 = (t - 1) + 9 * k by omega, Nat.pow_add]
    have := Nat.mul_le_mul_right (10 ^ (9 * k)) h2
    omega
  · rw [Nat.add_comm (9 * k) t, Nat.pow_add]
    have : (a k + 1) * 10 ^ (9 * k) ≤ 10 ^ t * 10 ^ (9 * k) := Nat.mul_le_mul_right _ h3
    rw [Nat.add_mul, Nat.one_mul] at this
    omega
def lm_is (lm : Nat → Int64) (k : Nat) (a : Nat → Nat) : Prop := ∀ i, i < k → lm i = lN (a i) ∧ a i < lb
