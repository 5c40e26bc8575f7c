/-! pure rows: whole numbers as the model writes them -/
def gd (gr : Bool) (x : Nat) : Nat := if gr then up x else x
theorem up_lt {x : Nat} (h : x < 128) : up x < 128 := by unfold up; split <;> omega
theorem gd_lt {gr : Bool} {x : Nat} (h : x < 128) : gd gr x < 128 := by unfold gd; split; exact up_lt h; exact h
def wT (U b M : Nat) (gr : Bool) : List Nat := (wl U b M).map (gd gr)
theorem wT_len (U b M : Nat) (gr : Bool) : (wT U b M gr).length = M := by unfold wT; rw [List.length_map, wl_len]
theorem wT_at {U b M : Nat} {gr : Bool} {j : Nat} (h : j < M) : (wT U b M gr).getD j 0 = gd gr (hx (U / b ^ (M - 1 - j) % b)) := by
  have h1 := wl_at U b M j h
  unfold wT
  rw [List.getD_eq_getElem?_getD, List.getElem?_map]
  rw [List.getD_eq_getElem?_getD] at h1
  rw [List.getElem?_eq_getElem (by rw [wl_len]; exact h)] at h1 ⊢
  show gd gr _ = _
  rw [show (wl U b M)[j]'(by rw [wl_len]; exact h) = hx (U / b ^ (M - 1 - j) % b) from h1]
theorem dgf_0 (b : Nat) : ∀ k, dgf b k 0 = 0
  | 0 => rfl
  | k + 1 => by rw [dgf_s, if_pos rfl]
theorem dgf_up {b U : Nat} (hb : 1 < b) : ∀ k, U < b ^ k → U < b ^ dgf b k U
  | 0, h => h
  | k + 1, h => by
    rw [dgf_s]
    split
    · rename_i h0; rw [h0]; exact Nat.one_pos
    · have h1 : U / b < b ^ k := by rw [Nat.div_lt_iff_lt_mul (by omega), ← Nat.pow_succ]; exact h
      have h2 := dgf_up (U := U / b) hb k h1
      rw [Nat.add_comm, Nat.pow_succ]
      exact (Nat.div_lt_iff_lt_mul (by omega)).mp h2
theorem gd48 (gr : Bool) : gd gr 48 = 48 := by cases gr <;> decide
theorem wT_0 {U b M n : Nat} {gr : Bool} {j : Nat} (hb : 1 < b) (hU : U < b ^ n) (h : j < M) (hj : n ≤ M - 1 - j) : (wT U b M gr).getD j 0 = 48 := by
  rw [wT_at h, Nat.div_eq_of_lt (Nat.lt_of_lt_of_le hU (Nat.pow_le_pow_right (by omega) hj)), Nat.zero_mod]
  exact gd48 gr
theorem dgf_lo {b : Nat} (hb : 1 < b) : ∀ k U, 0 < dgf b k U → b ^ (dgf b k U - 1) ≤ U
  | 0, U, h => absurd h (Nat.lt_irrefl 0)
  | k + 1, U, h => by
    rw [dgf_s] at h ⊢
    split
    · rename_i h0; rw [if_pos h0] at h; exact absurd h (Nat.lt_irrefl 0)
    · rename_i h0
      rcases Nat.eq_zero_or_pos (dgf b k (U / b)) with z | z
      · rw [z]; exact Nat.pos_of_ne_zero h0
      · have ih := dgf_lo hb k (U / b) z
        rw [show 1 + dgf b k (U / b) - 1 = dgf b k (U / b) - 1 + 1 by omega, Nat.pow_succ]
        exact (Nat.le_div_iff_mul_le (by omega)).mp ih
theorem top_d {b U n : Nat} (hb : 1 < b) (h1 : b ^ (n - 1) ≤ U) (h2 : U < b ^ n) (hn : 0 < n) : 0 < U / b ^ (n - 1) % b := by
  have hP : 0 < b ^ (n - 1) := Nat.pow_pos (by omega)
  have h3 : U / b ^ (n - 1) < b := by
    rw [Nat.div_lt_iff_lt_mul hP, Nat.mul_comm, ← Nat.pow_succ, show (n - 1).succ = n by omega]; exact h2
  rw [Nat.mod_eq_of_lt h3]
  exact Nat.div_pos h1 hP
theorem gd0 (x : Nat) (l : List Nat) : (x :: l).getD 0 0 = x := rfl
theorem gdS (x : Nat) (l : List Nat) (i : Nat) : (x :: l).getD (i + 1) 0 = l.getD i 0 := rfl
theorem wT_s {U b M : Nat} {gr : Bool} (hb : 1 < b) (hU : U < b ^ M) : wT U b (M + 1) gr = 48 :: wT U b M gr := by
  unfold wT wl
  rw [List.range_succ_eq_map, List.map_cons, List.map_cons]
  congr 1
  · rw [show M + 1 - 1 - 0 = M by omega, Nat.div_eq_of_lt hU, Nat.zero_mod]; exact gd48 gr
  · simp only [List.map_map]
    refine List.map_congr_left (fun j _ => ?_)
    show gd gr (hx (U / b ^ (M + 1 - 1 - (j + 1)) % b)) = gd gr (hx (U / b ^ (M - 1 - j) % b))
    rw [show M + 1 - 1 - (j + 1) = M - 1 - j by omega]
