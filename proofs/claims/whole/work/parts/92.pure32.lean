/-! pure rows: a run's answer -/
def rnS (c : Nat → Nat) (n : Nat) (ar : Nat → Int64) (na : Nat) : Int32 × List Nat × Nat × Nat := if wrA c n = -1 then (match pua (lt c n) n ar na (n + 1) 0 [] 0 0 with
  | none => (2, [], 0, 0)
  | some (os, t, d) => (0, os, t, d)) else (1, [], 0, 0)
theorem rnS_w {c : Nat → Nat} {n : Nat} {ar : Nat → Int64} {na : Nat} (h : ¬ wrA c n = -1) : rnS c n ar na = (1, [], 0, 0) := by unfold rnS; rw [if_neg h]
theorem rnS_n {c : Nat → Nat} {n : Nat} {ar : Nat → Int64} {na : Nat} (h : wrA c n = -1) (hp : pua (lt c n) n ar na (n + 1) 0 [] 0 0 = none) : rnS c n ar na = (2, [], 0, 0) := by unfold rnS; rw [if_pos h, hp]
theorem rnS_s {c : Nat → Nat} {n : Nat} {ar : Nat → Int64} {na : Nat} {os : List Nat} {t d : Nat} (h : wrA c n = -1) (hp : pua (lt c n) n ar na (n + 1) 0 [] 0 0 = some (os, t, d)) : rnS c n ar na = (0, os, t, d) := by unfold rnS; rw [if_pos h, hp]
theorem m1lt0 : (-1 : Int32) < 0 := by decide
theorem nIn0 {i : Nat} (h : i < 2 ^ 30) : ¬ nI i < 0 := by
  rw [i32_lt, nI_toInt (by omega), show (0 : Int32).toInt = 0 from rfl]; omega
theorem lim_i (v : Int64) : (Int32.ofInt (lim v)).toInt = lim v := by have := lim_b v; exact ofInt_toInt (by omega) (by omega)
theorem lim_n {v : Int64} (h : 0 ≤ lim v) : Int32.ofInt (lim v) = nI (lim v).toNat := by
  have := lim_b v
  apply i32_eq; rw [lim_i, nI_toInt (by omega)]; omega
theorem lim_a {v : Int64} (h : 0 ≤ lim v) : Int32.ofInt (lim v) = nI (lim v).natAbs := by
  have := lim_b v
  apply i32_eq; rw [lim_i, nI_toInt (by omega)]; omega
theorem lim_m {v : Int64} (h : lim v < 0) : -Int32.ofInt (lim v) = nI (lim v).natAbs := by
  have := lim_b v
  apply i32_eq; rw [i32_neg _ (by rw [lim_i]; omega), lim_i, nI_toInt (by omega)]; omega
