/-! pure rows: decimal floating-point numbers as the writer puts them -/
theorem rnd_pt (d : Nat → Nat) (n : Nat) (pt : Int32) (z : Int) : (rnd d n pt z).2.2 = pt ∨ (rnd d n pt z).2.2 = pt + 1 ∨ (rnd d n pt z).2.2 = 1 := by
  unfold rnd
  split
  · exact Or.inl rfl
  split
  · exact Or.inr (Or.inr rfl)
  split
  · show (if _ then pt + 1 else pt) = pt ∨ (if _ then pt + 1 else pt) = pt + 1 ∨ _
    split
    · exact Or.inr (Or.inl rfl)
    · exact Or.inl rfl
  split
  · exact Or.inr (Or.inr rfl)
  · exact Or.inl rfl
theorem rnd_ptb (d : Nat → Nat) (n : Nat) (pt : Int32) (z lo : Int) (h1 : lo ≤ pt.toInt) (h2 : pt.toInt ≤ 310) (h3 : lo ≤ 1) (h4 : -2000 ≤ lo) : lo ≤ (rnd d n pt z).2.2.toInt ∧ (rnd d n pt z).2.2.toInt ≤ 311 := by
  have e1 : (1 : Int32).toInt = 1 := rfl
  rcases rnd_pt d n pt z with h | h | h <;> rw [h]
  · omega
  · rw [i32_add _ _ (by omega) (by rw [e1]; omega), e1]; omega
  · rw [e1]; omega
theorem rnd_f (d : Nat → Nat) (n : Nat) (pt : Int32) (k : Nat) (h1 : -1100 ≤ pt.toInt) (h2 : pt.toInt ≤ 310) (hk : k ≤ 200) : -200 ≤ (rnd d n pt (pt.toInt + k)).2.2.toInt ∧ (rnd d n pt (pt.toInt + k)).2.2.toInt ≤ 311 := by
  by_cases hz : pt.toInt + (k : Int) < 0
  · have e1 : (1 : Int32).toInt = 1 := rfl
    have : rnd d n pt (pt.toInt + k) = (d, 0, 1) := by unfold rnd; rw [if_neg (by omega), if_pos hz]
    rw [this]
    show -200 ≤ (1 : Int32).toInt ∧ (1 : Int32).toInt ≤ 311
    omega
  · exact rnd_ptb d n pt _ (-200) (by omega) h2 (by decide) (by decide)
/-- g's choice -/
def gfx (pt : Int) (k : Nat) : Bool := decide (-4 ≤ pt - 1 ∧ pt - 1 < (k : Int))
def gz (pt : Int) (k : Nat) : Int := if gfx pt k then pt else 1
def gb (d : Nat → Nat) (n : Nat) (pt : Int) (k : Nat) (ha : Bool) : Nat := if ha then ((k : Int) - gz pt k).toNat else min ((k : Int) - gz pt k).toNat (nf d n (gz pt k))
def sciS (d : Nat → Nat) (n : Nat) (pt : Int) (b : Nat) (ha : Bool) : List Nat := ptd d n 1 b ha ++ (101 :: expo (pt - 1) true)
def gS (d : Nat → Nat) (n : Nat) (pt : Int) (k : Nat) (ha : Bool) : List Nat := if gfx pt k then ptd d n pt (gb d n pt k ha) ha else sciS d n pt (gb d n pt k ha) ha
/-- what e (101), f (102), g put: digits d (n of them), the point, the precision -/
def decS (d : Nat → Nat) (n : Nat) (pt : Int32) (k : Nat) (ha : Bool) (kk : Nat) : List Nat :=
  if kk = 102 then ptd (rnd d n pt (pt.toInt + k)).1 (rnd d n pt (pt.toInt + k)).2.1 (rnd d n pt (pt.toInt + k)).2.2.toInt k ha
  else if kk = 101 then sciS (rnd d n pt (k + 1)).1 (rnd d n pt (k + 1)).2.1 (rnd d n pt (k + 1)).2.2.toInt k ha
  else gS (rnd d n pt k).1 (rnd d n pt k).2.1 (rnd d n pt k).2.2.toInt k ha
theorem nf_le (d : Nat → Nat) (n : Nat) (z : Int) (hz : -300 ≤ z) (hn : n ≤ 774) : nf d n z ≤ 1100 := by
  have := lnz_le d n
  unfold nf
  split <;> omega
