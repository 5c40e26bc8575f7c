/-! pure rows: what the writer puts -/
abbrev pc_Wr : ax_H := [(6, .inr (4, [.ref 7, .ref 9]))]
def pnt (b : Nat) (hash : Bool) : List Nat := if 0 < b ∨ hash = true then [46] else []
def expo (z : Int) (two : Bool) : List Nat := (if z < 0 then 45 else 43) :: ((if 1000 ≤ z.natAbs then [48 + z.natAbs / 1000] else []) ++ ((if 100 ≤ z.natAbs then [48 + z.natAbs / 100 % 10] else []) ++ ((if 10 ≤ z.natAbs ∨ two = true then [48 + z.natAbs / 10 % 10] else []) ++ [48 + z.natAbs % 10])))
theorem expo_len (z : Int) (two : Bool) : (expo z two).length ≤ 5 := by
  unfold expo
  rw [List.length_cons, List.length_append, List.length_append, List.length_append]
  split <;> split <;> split <;> simp
def dAt (d : Nat → Nat) (n : Nat) (i : Int) : Nat := if 0 ≤ i ∧ i < (n : Int) then d i.toNat else 0
theorem dAt_lt {dg : Nat → Int32} {n : Nat} {d : Nat → Nat} (h : de_is dg n d) (i : Int) : dAt d n i < 10 := by
  unfold dAt
  split
  · exact (h i.toNat (by omega)).2
  · decide
/-- digitAt's answer -/
theorem dAt_row {dg : Nat → Int32} {n : Nat} {d : Nat → Nat} (h : de_is dg n d) (hn : n ≤ 774) (x : Int32) : (if ¬ x < 0 ∧ x < nI n then dg x.toNatClampNeg else 0) = nI (dAt d n x.toInt) := by
  unfold dAt
  have e1 : (¬ x < 0) ↔ 0 ≤ x.toInt := by rw [i32_lt]; exact Int.not_lt
  have e2 : (x < nI n) ↔ x.toInt < (n : Int) := by rw [i32_lt, nI_toInt (by omega)]
  by_cases hq : 0 ≤ x.toInt ∧ x.toInt < (n : Int)
  · rw [if_pos hq, if_pos ⟨e1.mpr hq.1, e2.mpr hq.2⟩]
    exact (h x.toInt.toNat (by omega)).1
  · rw [if_neg hq, if_neg (fun z => hq ⟨e1.mp z.1, e2.mp z.2⟩)]
    rfl
/-- the digits before the point (one at least), the point, those behind it -/
def dgI (d : Nat → Nat) (n : Nat) (pt : Int) : List Nat := (List.range (max pt 1).toNat).map (fun i : Nat => 48 + dAt d n ((i : Int) + min 0 (pt - 1)))
def dgB (d : Nat → Nat) (n : Nat) (pt : Int) (b : Nat) : List Nat := (List.range b).map (fun i : Nat => 48 + dAt d n (pt + (i : Int)))
def ptd (d : Nat → Nat) (n : Nat) (pt : Int) (b : Nat) (hash : Bool) : List Nat := dgI d n pt ++ (pnt b hash ++ dgB d n pt b)
theorem dgI_len (d : Nat → Nat) (n : Nat) (pt : Int) : (dgI d n pt).length = (max pt 1).toNat := by unfold dgI; rw [List.length_map, List.length_range]
theorem dgB_len (d : Nat → Nat) (n : Nat) (pt : Int) (b : Nat) : (dgB d n pt b).length = b := by unfold dgB; rw [List.length_map, List.length_range]
theorem pnt_len (b : Nat) (hash : Bool) : (pnt b hash).length ≤ 1 := by unfold pnt; split <;> simp
theorem rg_s (g : Nat → Nat) (k : Nat) : (List.range (k + 1)).map g = (List.range k).map g ++ [g k] := by rw [List.range_succ, List.map_append]; rfl
def prI (q : Option Nat) : Int32 := match q with
  | none => -1
  | some k => nI k
theorem prI_m1 {q : Option Nat} (h : ∀ k, q = some k → k ≤ 200) : (prI q = -1) ↔ q = none := by
  cases q with
  | none => exact ⟨fun _ => rfl, fun _ => rfl⟩
  | some k =>
    have hk := h k rfl
    refine ⟨fun z => ?_, fun z => by cases z⟩
    have : (nI k).toInt = (-1 : Int32).toInt := congrArg Int32.toInt z
    rw [nI_toInt (by omega), show (-1 : Int32).toInt = -1 by decide +kernel] at this
    omega
def prN (q : Option Nat) (kk : Nat) : Nat := match q with
  | none => 6
  | some k => if kk = 103 then max k 1 else k
theorem prN_le {q : Option Nat} {kk : Nat} (h : ∀ k, q = some k → k ≤ 200) : prN q kk ≤ 200 := by
  cases q with
  | none => exact Nat.le_of_ble_eq_true rfl
  | some k => have := h k rfl; show (if kk = 103 then max k 1 else k) ≤ 200; split <;> omega
