/-! pure rows: great letters -/
theorem pcG_map (gr : Bool) (bs : List Nat) : pcG gr bs = bs.map (gd gr) := by
  unfold pcG
  cases gr with
  | true => rfl
  | false => exact (List.map_id' bs).symm
theorem pcG_app (gr : Bool) (a b : List Nat) : pcG gr (a ++ b) = pcG gr a ++ pcG gr b := by rw [pcG_map, pcG_map, pcG_map, List.map_append]
theorem gd_lo {gr : Bool} {x : Nat} (h : x < 97) : gd gr x = x := by
  unfold gd
  split
  · unfold up; rw [if_neg (by omega)]
  · rfl
theorem pcG_lo {gr : Bool} {bs : List Nat} (h : ∀ x ∈ bs, x < 97) : pcG gr bs = bs := by
  rw [pcG_map]
  conv => rhs; rw [← List.map_id' bs]
  exact List.map_congr_left (fun x hx => gd_lo (h x hx))
theorem sgn_lo (a b c : Bool) : ∀ x ∈ sgn a b c, x < 97 := by unfold sgn; cases a <;> cases b <;> cases c <;> decide
theorem pnt_lo (b : Nat) (ha : Bool) : ∀ x ∈ pnt b ha, x < 97 := by
  unfold pnt
  split
  · intro x hx; rw [List.mem_singleton] at hx; omega
  · intro x hx; exact absurd hx List.not_mem_nil
theorem pcG_wT (gr : Bool) (U b M : Nat) : pcG gr (wl U b M) = wT U b M gr := pcG_map gr _
