/-! pure rows for become -/
def bB : Nat := lb ^ 86
theorem min_nI {a r : Nat} (ha : a < 2 ^ 31) (hr : r < 2 ^ 31) : (if nI a < nI r then nI a else nI r) = nI (min r a) := by
  by_cases hq : a < r
  · rw [if_pos (nI_lt hq hr), Nat.min_eq_right (by omega)]
  · rw [if_neg (nI_nlt (by omega) ha), Nat.min_eq_left (by omega)]
theorem pw_le2 {b x r m B : Nat} (hb : 0 < b) (h : x * b ^ r < B) : b ^ min r m * x < B := by
  have h1 : b ^ min r m ≤ b ^ r := Nat.pow_le_pow_right hb (Nat.min_le_left _ _)
  rw [Nat.mul_comm]
  exact Nat.lt_of_le_of_lt (Nat.mul_le_mul_left _ h1) h
theorem pw_next (b x r m : Nat) : b ^ min r m * x * b ^ (r - min r m) = x * b ^ r := by
  rw [Nat.mul_comm (b ^ min r m) x, Nat.mul_assoc, ← Nat.pow_add]
  congr 2
  omega
/-- the whole number whose digits are the number's -/
def tgt (s0 : Nat) (e : Int) : Nat := s0 * 2 ^ e.toNat * 5 ^ (-e).toNat
theorem tgt_lt {s0 : Nat} {e : Int} (hs : s0 < 2 ^ 53) (h1 : -1074 ≤ e) (h2 : e ≤ 971) : tgt s0 e < bB := by
  unfold tgt
  by_cases h : e ≤ 0
  · rw [show e.toNat = 0 by omega, Nat.pow_zero, Nat.mul_one]
    have a1 : 5 ^ (-e).toNat ≤ 5 ^ 1074 := Nat.pow_le_pow_right (by decide) (by omega)
    have a2 : s0 * 5 ^ (-e).toNat ≤ 2 ^ 53 * 5 ^ 1074 := Nat.mul_le_mul (by omega) a1
    exact Nat.lt_of_le_of_lt a2 (by decide +kernel)
  · rw [show (-e).toNat = 0 by omega, Nat.pow_zero, Nat.mul_one]
    have a1 : 2 ^ e.toNat ≤ 2 ^ 971 := Nat.pow_le_pow_right (by decide) (by omega)
    have a2 : s0 * 2 ^ e.toNat ≤ 2 ^ 53 * 2 ^ 971 := Nat.mul_le_mul (by omega) a1
    exact Nat.lt_of_le_of_lt a2 (by decide +kernel)
theorem shl_one : ∀ m, m ≤ 29 → (1 : Int64) <<< ((nI m).toInt64 &&& 63) = lN (2 ^ m) := by decide +kernel
theorem two_le : ∀ m, m ≤ 29 → 0 < 2 ^ m ∧ 2 ^ m ≤ 536870912 := by decide +kernel
theorem five_le : ∀ m, m ≤ 12 → 0 < 5 ^ m ∧ 5 ^ m ≤ 536870912 := by decide +kernel
theorem tgt_eq (s0 : Nat) (e : Int) : tgt s0 e = s0 * 2 ^ e.toNat * 5 ^ (-e).toNat := rfl
theorem m12 : (-12 : Int32).toInt = -12 := by decide +kernel
theorem m29 : (-29 : Int32).toInt = -29 := by decide +kernel
theorem q12a {r j : Nat} (h : (r : Int) ≤ 12 * ((j + 1 : Nat) : Int)) : (r : Int) - 12 ≤ 12 * (j : Int) := by omega
theorem q12b (r : Nat) : -2000 ≤ (r : Int) - 12 := by omega
theorem q12c {r : Nat} (h : (r : Int) ≤ 2000) : (r : Int) - 12 ≤ 2000 := by omega
theorem q12d (r : Nat) : ((r : Int) - 12).toNat = r - min r 12 := by omega
theorem q29a {r j : Nat} (h : (r : Int) ≤ 29 * ((j + 1 : Nat) : Int)) : (r : Int) - 29 ≤ 29 * (j : Int) := by omega
theorem q29b (r : Nat) : -2000 ≤ (r : Int) - 29 := by omega
theorem q29c {r : Nat} (h : (r : Int) ≤ 2000) : (r : Int) - 29 ≤ 2000 := by omega
theorem q29d (r : Nat) : ((r : Int) - 29).toNat = r - min r 29 := by omega
