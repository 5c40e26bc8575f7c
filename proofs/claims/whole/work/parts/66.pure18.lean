/-! pure rows: digits, the lowest first -/
def isZ (V n : Nat) : Prop := V < 10 ^ n ∧ (0 < n → 10 ^ (n - 1) ≤ V)
def lo_is (f : Nat → Int32) (n V : Nat) : Prop := ∀ i, i < n → f i = nI (V / 10 ^ i % 10)
theorem d10 (V i : Nat) : V / 10 ^ i % 10 < 10 := Nat.mod_lt _ (by decide)
theorem mst (V b k : Nat) : (b * (V / 10 ^ k % 10) + b * (V % 10 ^ k) / 10 ^ k) % 10 = b * V / 10 ^ k % 10 ∧ (b * (V / 10 ^ k % 10) + b * (V % 10 ^ k) / 10 ^ k) / 10 = b * (V % 10 ^ (k + 1)) / 10 ^ (k + 1) := by
  have hP : 0 < 10 ^ k := Nat.pow_pos (by decide)
  rw [Nat.pow_succ]
  generalize 10 ^ k = P at hP
  have e1 : b * (V % (P * 10)) = b * (V % P) + P * (b * (V / P % 10)) := by
    rw [Nat.mod_mul, Nat.mul_add, Nat.mul_left_comm]
  have e2 : b * (V % (P * 10)) / P = b * (V % P) / P + b * (V / P % 10) := by
    rw [e1, Nat.add_mul_div_left _ _ hP]
  refine ⟨?_, ?_⟩
  · have e3 : b * V = b * (V % (P * 10)) + P * (10 * (b * (V / (P * 10)))) := by
      have := Nat.mod_add_div V (P * 10)
      rw [show P * (10 * (b * (V / (P * 10)))) = b * (P * 10 * (V / (P * 10))) by
        rw [Nat.mul_left_comm b, ← Nat.mul_assoc P 10], ← Nat.mul_add, this]
    rw [e3, Nat.add_mul_div_left _ _ hP, e2, Nat.add_mul_mod_self_left, Nat.add_comm]
  · rw [← Nat.div_div_eq_div_mul, e2, Nat.add_comm]
theorem car_lt {V b k : Nat} (hb : 0 < b) : b * (V % 10 ^ k) / 10 ^ k < b := by
  have hP : 0 < 10 ^ k := Nat.pow_pos (by decide)
  rw [Nat.div_lt_iff_lt_mul hP]
  exact Nat.mul_lt_mul_of_pos_left (Nat.mod_lt _ hP) hb
theorem isZ_no {V b n : Nat} (h : isZ V n) (hb : 0 < b) (hc : b * V / 10 ^ n = 0) : isZ (b * V) n := by
  have hP : 0 < 10 ^ n := Nat.pow_pos (by decide)
  refine ⟨?_, fun hn => Nat.le_trans (h.2 hn) (Nat.le_mul_of_pos_left _ hb)⟩
  rcases Nat.lt_or_ge (b * V) (10 ^ n) with q | q
  · exact q
  · have := Nat.div_pos q hP; omega
theorem isZ_up {V b n : Nat} (h : isZ V n) (hb : b ≤ 5) (hc : 0 < b * V / 10 ^ n) : isZ (b * V) (n + 1) ∧ b * V / 10 ^ n % 10 = b * V / 10 ^ n := by
  have hP : 0 < 10 ^ n := Nat.pow_pos (by decide)
  have h1 : 10 ^ n ≤ b * V := by
    rcases Nat.lt_or_ge (b * V) (10 ^ n) with q | q
    · rw [Nat.div_eq_of_lt q] at hc; omega
    · exact q
  have h2 : b * V < 10 * 10 ^ n := by
    have a1 : b * V ≤ 5 * V := Nat.mul_le_mul_right _ hb
    have := h.1
    generalize 10 ^ n = P at *
    omega
  refine ⟨⟨by rw [Nat.pow_succ, Nat.mul_comm (10 ^ n)]; exact h2, fun _ => h1⟩, Nat.mod_eq_of_lt ?_⟩
  rw [Nat.div_lt_iff_lt_mul hP]
  exact h2
theorem isZ_le {V n k : Nat} (h : isZ V n) (hV : V < 10 ^ k) : n ≤ k := by
  rcases Nat.lt_or_ge k n with q | q
  · have h1 := h.2 (by omega)
    have h2 : 10 ^ k ≤ 10 ^ (n - 1) := Nat.pow_le_pow_right (by decide) (by omega)
    exact absurd (Nat.lt_of_lt_of_le hV (Nat.le_trans h2 h1)) (Nat.lt_irrefl _)
  · exact q
theorem isZ_N {V n : Nat} (h : isZ V n) (hV : 0 < V) : isN V n := by
  have hn : 0 < n := by
    rcases Nat.eq_zero_or_pos n with q | q
    · have := h.1; rw [q] at this; have : V < 1 := this; omega
    · exact q
  exact ⟨hn, h.2 hn, h.1⟩
theorem isZ_0 {n : Nat} (h : isZ 0 n) : n = 0 := by
  rcases Nat.eq_zero_or_pos n with q | q
  · exact q
  · have h1 := h.2 q
    have h2 : 0 < 10 ^ (n - 1) := Nat.pow_pos (by decide)
    omega
theorem isZ_end {W n : Nat} (h : ∀ k, k < n → W / 10 ^ k ≠ 0) (h0 : W / 10 ^ n = 0) : isZ W n := by
  have hP : 0 < 10 ^ n := Nat.pow_pos (by decide)
  refine ⟨?_, fun hn => ?_⟩
  · rcases Nat.lt_or_ge W (10 ^ n) with q | q
    · exact q
    · have := Nat.div_pos q hP; omega
  · rcases Nat.lt_or_ge W (10 ^ (n - 1)) with q | q
    · exact absurd (Nat.div_eq_of_lt q) (h (n - 1) (by omega))
    · exact q
theorem nN_Z {s0 : Nat} {e : Int} {n : Nat} (hs : s0 < 2 ^ 53) (h1 : -1074 ≤ e) (h2 : e ≤ 971) (h : isZ (tgt s0 e) n) : n = nN s0 e := by
  rcases Nat.eq_zero_or_pos s0 with z | z
  · have e0 : tgt s0 e = 0 := by rw [z, tgt_eq, Nat.zero_mul, Nat.zero_mul]
    rw [e0] at h
    rw [isZ_0 h]; unfold nN; rw [if_pos z]
  · exact isN_eq (isZ_N h (tgt_pos z)) (nN_is z hs h1 h2)
theorem mul_le_tgt {s0 b t T : Nat} (hb : 0 < b) (h : t ≤ T) : s0 * b ^ t ≤ s0 * b ^ T := Nat.mul_le_mul_left _ (Nat.pow_le_pow_right hb h)
