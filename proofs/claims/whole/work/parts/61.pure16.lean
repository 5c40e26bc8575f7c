/-! pure rows: how the model reads a directive -/
def nW (L : Nat → Nat) (i : Nat) : Int32 := if 200 < (dgt L 3 i 0).1 then nI i else if (48 ≤ L (dgt L 3 i 0).2 ∧ L (dgt L 3 i 0).2 ≤ 57) ∧ (dgt L 3 i 0).2 = i + 3 then nI (dgt L 3 i 0).2 else -1
theorem dg_row {v x : Nat} (h1 : 48 ≤ x) : 10 * nI v + nI x - 48 = nI (10 * v + (x - 48)) := by
  rw [show (10 : Int32) = nI 10 from rfl, show nI 10 * nI v = nI (10 * v) from (pk_mul 10 v), nI_add, show (48 : Int32) = nI 48 from rfl, pk_sub (by omega)]
  congr 1
  omega
/-- behind the flags -/
theorem flg_end {c : Nat → Nat} {n : Nat} : ∀ (k i : Nat) (a1 a2 a3 a4 a5 : Bool), n ≤ k + i → ∀ j, (flg (lt c n) k i a1 a2 a3 a4 a5).2.2.2.2.2 = j → ¬ lt c n j = 45 ∧ ¬ lt c n j = 43 ∧ ¬ lt c n j = 32 ∧ ¬ lt c n j = 35 ∧ ¬ lt c n j = 48
  | 0, i, a1, a2, a3, a4, a5, h, j, hj => by
    have e : i = j := hj
    have : lt c n j = 0 := if_neg (by omega)
    rw [this]; decide
  | k + 1, i, a1, a2, a3, a4, a5, h, j, hj => by
    rw [flg_s] at hj
    split at hj
    · exact flg_end k (i + 1) _ _ _ _ _ (by omega) j hj
    split at hj
    · exact flg_end k (i + 1) _ _ _ _ _ (by omega) j hj
    split at hj
    · exact flg_end k (i + 1) _ _ _ _ _ (by omega) j hj
    split at hj
    · exact flg_end k (i + 1) _ _ _ _ _ (by omega) j hj
    split at hj
    · exact flg_end k (i + 1) _ _ _ _ _ (by omega) j hj
    · have e : i = j := hj
      subst e
      exact ⟨by assumption, by assumption, by assumption, by assumption, by assumption⟩
theorem kd_M : ∀ x, x < 256 → (isK x = true ↔ ∃ k, k < 16 ∧ (st_wd 5).getD k 0 = x) := by decide +kernel
theorem kd_dig : ∀ x, x < 256 → (48 ≤ x ∧ x ≤ 57) → isK x = false := by decide +kernel
theorem m1lt : (-1 : Int32) < 0 := by decide
