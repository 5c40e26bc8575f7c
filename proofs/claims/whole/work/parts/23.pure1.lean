/-! pure rows: octets of a long -/
/-- the octet i of a word, the highest first -/
def oc (w : Int64) (i : Nat) : Nat := w.toBitVec.toNat / 2 ^ (56 - 8 * i) % 256
theorem oc_lt (w : Int64) (i : Nat) : oc w i < 256 := Nat.mod_lt _ (by decide)
theorem l2i_nat (x : Int64) : x.toInt32.toBitVec.toNat = x.toBitVec.toNat % 2 ^ 32 := by
  rw [Int64.toBitVec_toInt32, BitVec.signExtend_eq_setWidth_of_le _ (by decide), BitVec.toNat_setWidth]
theorem ush_nat (w : Int64) (z : UInt64) : (w.toUInt64 >>> z).toInt64.toBitVec.toNat = w.toBitVec.toNat / 2 ^ (z.toNat % 64) := by
  show (w.toUInt64 >>> z).toNat = _
  rw [UInt64.toNat_shiftRight, Nat.shiftRight_eq_div_pow]
  rfl
theorem oc_row (w : Int64) (k : Nat) (z : UInt64) (hz : z.toNat % 64 = k) : ((w.toUInt64 >>> z).toInt64.toInt32 &&& 255) = nI (w.toBitVec.toNat / 2 ^ k % 256) := by
  rw [pk_and _ 8 (by decide), l2i_nat, ush_nat, hz]
  congr 1
  omega
theorem oc_i (w : Int64) (i : Nat) (hi : i < 8) : ((w.toUInt64 >>> ((56 - 8 * nI i : Int32).toInt64.toUInt64 &&& Int64.toUInt64 63)).toInt64.toInt32 &&& 255) = nI (oc w i) := by
  rcases (show i = 0 ∨ i = 1 ∨ i = 2 ∨ i = 3 ∨ i = 4 ∨ i = 5 ∨ i = 6 ∨ i = 7 by omega) with rfl | rfl | rfl | rfl | rfl | rfl | rfl | rfl <;> exact oc_row w _ _ (by decide)
/-- how many octets stand before the first 0 -/
def ocs (w : Int64) (i : Nat) : Nat → Nat
  | 0 => i
  | k + 1 => if oc w i = 0 then i else ocs w (i + 1) k
def octs (w : Int64) : Nat := ocs w 0 8
theorem ocs_le (w : Int64) : ∀ (k i : Nat), i ≤ ocs w i k ∧ ocs w i k ≤ i + k
  | 0, i => ⟨Nat.le_refl _, Nat.le_refl _⟩
  | k + 1, i => by
    unfold ocs
    by_cases h : oc w i = 0
    · rw [if_pos h]; omega
    · rw [if_neg h]
      have := ocs_le w k (i + 1)
      omega
theorem octs_le (w : Int64) : octs w ≤ 8 := by have := (ocs_le w 8 0).2; exact Nat.le_trans this (by decide)
theorem ocs_ne (w : Int64) : ∀ (k i j : Nat), i ≤ j → j < ocs w i k → oc w j ≠ 0
  | 0, i, j, h1, h2 => by unfold ocs at h2; omega
  | k + 1, i, j, h1, h2 => by
    unfold ocs at h2
    by_cases h : oc w i = 0
    · rw [if_pos h] at h2; omega
    · rw [if_neg h] at h2
      by_cases hij : j = i
      · rw [hij]; exact h
      · exact ocs_ne w k (i + 1) j (by omega) h2
/-- a byte out of a small int -/
theorem by_nI {n : Nat} (h : n < 128) : (nI n).toInt8.toInt32 = nI n := by
  have : ∀ n, n < 128 → (nI n).toInt8.toInt32 = nI n := by decide +kernel
  exact this n h
theorem by_and {n : Nat} (h : n < 256) : (nI n).toInt8.toInt32 &&& 255 = nI n := sc_k8 n h
