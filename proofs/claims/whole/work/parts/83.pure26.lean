/-! pure rows: great letters, numbers -/
theorem expo_lo (z : Int) (two : Bool) (h : z.natAbs < 10000) : ∀ x ∈ expo z two, x < 97 := by
  intro x hx
  unfold expo at hx
  rw [List.mem_cons, List.mem_append, List.mem_append, List.mem_append, List.mem_singleton] at hx
  rcases hx with h1 | h1 | h1 | h1 | h1
  · rw [h1]; split <;> decide
  · split at h1
    · rw [List.mem_singleton] at h1; omega
    · exact absurd h1 List.not_mem_nil
  · split at h1
    · rw [List.mem_singleton] at h1; omega
    · exact absurd h1 List.not_mem_nil
  · split at h1
    · rw [List.mem_singleton] at h1; omega
    · exact absurd h1 List.not_mem_nil
  · omega
theorem ptd_lo {d : Nat → Nat} {n : Nat} (hd : ∀ i, dAt d n i < 10) (pt : Int) (b : Nat) (ha : Bool) : ∀ x ∈ ptd d n pt b ha, x < 97 := by
  intro x hx
  unfold ptd dgI dgB at hx
  rw [List.mem_append, List.mem_append, List.mem_map, List.mem_map] at hx
  rcases hx with ⟨i, -, h1⟩ | h1 | ⟨i, -, h1⟩
  · have := hd ((i : Int) + min 0 (pt - 1)); omega
  · exact pnt_lo b ha x h1
  · have := hd (pt + (i : Int)); omega
