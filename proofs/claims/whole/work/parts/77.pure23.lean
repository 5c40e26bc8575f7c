/-! pure rows: division without sign -/
theorem du_r {U b : Nat} (hb : 0 < b) : U / 2 / b * 2 * b ≤ U ∧ U - U / 2 / b * 2 * b < 2 * b ∧ (U - U / 2 / b * 2 * b) % b = U % b ∧ U / 2 / b * 2 + (if b ≤ U - U / 2 / b * 2 * b then 1 else 0) = U / b := by
  have h1 := Nat.div_add_mod (U / 2) b
  have h2 := Nat.mod_lt (U / 2) hb
  have h3 : U / 2 / b * 2 * b = 2 * (b * (U / 2 / b)) := by rw [Nat.mul_comm _ 2, Nat.mul_assoc, Nat.mul_comm b]
  generalize hq : U / 2 / b = q at *
  generalize U / 2 % b = r at *
  rw [h3]
  have h4 : U = 2 * (b * q) + (2 * r + U % 2) := by omega
  have h5 : U - 2 * (b * q) = 2 * r + U % 2 := by omega
  have h6 : 2 * r + U % 2 < 2 * b := by omega
  have h7 : 2 * (b * q) = b * (q * 2) := by rw [Nat.mul_left_comm, Nat.mul_comm 2 q]
  refine ⟨by omega, by omega, ?_, ?_⟩
  · rw [h5]
    conv => rhs; rw [h4, h7, Nat.mul_add_mod]
  · rw [h5]
    have e : U / b = q * 2 + (2 * r + U % 2) / b := by
      conv => lhs; rw [h4, h7, Nat.mul_add_div hb]
    rw [e]
    congr 1
    split
    · rename_i hle
      exact (Nat.div_eq_of_lt_le (by omega) (by omega)).symm
    · rename_i hlt
      exact (Nat.div_eq_of_lt (by omega)).symm
theorem du_d : ∀ b, b = 8 ∨ b = 10 ∨ b = 16 → ∀ r, r < 32 → ((lN r ||| ((lN r - lN b) ^^^ (-1))).toUInt64 >>> ((63 : Int32).toInt64.toUInt64 &&& Int64.toUInt64 63)).toInt64 = lN (if b ≤ r then 1 else 0) := by
  intro b hb
  rcases hb with rfl | rfl | rfl <;> decide +kernel
theorem du_m : ∀ b, b = 8 ∨ b = 10 ∨ b = 16 → ∀ r, r < 2 * b → lN r - ((((lN r - lN b) ^^^ (-1)) >>> ((63 : Int32).toInt64 &&& 63)) &&& lN b) = lN (r % b) := by
  intro b hb
  rcases hb with rfl | rfl | rfl <;> decide +kernel
