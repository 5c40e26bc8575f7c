/-! pure rows: rows that grow -/
theorem tk_s {bs : List Nat} {i : Nat} (h : i < bs.length) : bs.take (i + 1) = bs.take i ++ [bs.getD i 0] := by
  rw [List.take_succ, List.getD_eq_getElem?_getD, List.getElem?_eq_getElem h]; rfl
theorem dr_s {bs : List Nat} {p j : Nat} (h : p + j < bs.length) : (bs.drop p).take (j + 1) = (bs.drop p).take j ++ [bs.getD (p + j) 0] := by
  rw [tk_s (by rw [List.length_drop]; omega)]
  congr 2
  rw [List.getD_eq_getElem?_getD, List.getD_eq_getElem?_getD, List.getElem?_drop]
theorem dr_all (bs : List Nat) (p : Nat) : (bs.drop p).take (bs.length - p) = bs.drop p := List.take_of_length_le (by rw [List.length_drop]; omega)
theorem rp_s (j c : Nat) : List.replicate (j + 1) c = List.replicate j c ++ [c] := List.replicate_succ'
theorem pi_at {f : Nat → Int32} {bs : List Nat} (h : pi_is f bs) {i : Nat} (hi : i < bs.length) : bs.getD i 0 < 128 := (h i hi).2
theorem prI_is {z : Option Nat} (h : ∀ k, z = some k → k ≤ 600) : (prI z = -1) ↔ z = none := by
  cases z with
  | none => exact ⟨fun _ => rfl, fun _ => rfl⟩
  | some k =>
    have hk := h k rfl
    refine ⟨fun q => ?_, fun q => by cases q⟩
    have : (nI k).toInt = (-1 : Int32).toInt := congrArg Int32.toInt q
    rw [nI_toInt (by omega), show (-1 : Int32).toInt = -1 by decide +kernel] at this
    omega
theorem miss_row {w n : Nat} (hw : w ≤ 200) (hn : n ≤ 520) : (if (0 : Int32) < nI w - nI n then nI w - nI n else 0) = nI (w - n) := by
  by_cases h : n < w
  · rw [pk_sub (by omega), if_pos (by show nI 0 < _; exact nI_lt (by omega) (by omega))]
  · rw [if_neg, show w - n = 0 by omega]; rfl
    rw [i32_lt, pk_sub_toInt (by omega) (by omega)]
    show ¬ (0 : Int) < _
    omega
