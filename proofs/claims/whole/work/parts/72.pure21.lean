/-! pure rows: scientific -/
def xpo (d : Nat → Nat) (ct : Nat) (po : Int32) (p : Nat) : Int32 := if ct = 0 then 0 else (if cutM d ct ((p : Int) + 1) then po + 1 else po) - 1
theorem cD_lt {d : Nat → Nat} {ct : Nat} (hd : ∀ i, i < ct → d i < 10) (po : Int32) (z : Int) (i : Nat) : cD d ct po z i < 10 := rnd_lt hd po z i
theorem cD_00 (d : Nat → Nat) (po : Int32) (p i : Nat) : cD d 0 po ((p : Int) + 1) i = 0 := by
  unfold cD rnd
  rw [if_pos (by omega)]
  exact dAt_0 d i
def sciM (g : Nat → Nat) (p : Nat) (ha gr : Bool) (x : Int) : List Nat := [48 + g 0] ++ pnt p ha ++ (List.range p).map (fun i => 48 + g (i + 1)) ++ [if gr then 69 else 101] ++ expo x true
theorem xpo_b {d : Nat → Nat} {ct : Nat} {po : Int32} {p : Nat} (h : -1200 ≤ po.toInt ∧ po.toInt ≤ 310) : -1201 ≤ (xpo d ct po p).toInt ∧ (xpo d ct po p).toInt ≤ 310 := by
  have h1 : (1 : Int32).toInt = 1 := rfl
  unfold xpo
  split
  · decide
  split
  · rw [i32_sub _ _ (by rw [i32_add _ _ (by omega) (by rw [h1]; omega), h1]; omega) (by rw [h1]; omega), i32_add _ _ (by omega) (by rw [h1]; omega), h1]; omega
  · rw [i32_sub _ _ (by omega) (by rw [h1]; omega), h1]; omega
