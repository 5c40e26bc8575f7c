/-! pure rows: rows of digits, rounding -/
def de_is (dg : Nat → Int32) (n : Nat) (d : Nat → Nat) : Prop := ∀ i, i < n → dg i = nI (d i) ∧ d i < 10
/-- the place behind the last digit that isn't 0 -/
def lnz (d : Nat → Nat) : Nat → Nat
  | 0 => 0
  | k + 1 => if d k = 0 then lnz d k else k + 1
theorem lnz_s (d : Nat → Nat) (k : Nat) : lnz d (k + 1) = if d k = 0 then lnz d k else k + 1 := rfl
theorem lnz_le (d : Nat → Nat) : ∀ k, lnz d k ≤ k
  | 0 => Nat.le_refl _
  | k + 1 => by rw [lnz_s]; have := lnz_le d k; split <;> omega
/-- how many digits from place z on are needed -/
def nf (d : Nat → Nat) (n : Nat) (z : Int) : Nat := if lnz d n = 0 ∨ (lnz d n : Int) ≤ z then 0 else ((lnz d n : Int) - z).toNat
/-- the place behind the last digit that isn't 9 -/
def ln9 (d : Nat → Nat) : Nat → Nat
  | 0 => 0
  | k + 1 => if d k < 9 then k + 1 else ln9 d k
theorem ln9_s (d : Nat → Nat) (k : Nat) : ln9 d (k + 1) = if d k < 9 then k + 1 else ln9 d k := rfl
theorem ln9_le (d : Nat → Nat) : ∀ k, ln9 d k ≤ k
  | 0 => Nat.le_refl _
  | k + 1 => by rw [ln9_s]; have := ln9_le d k; split <;> omega
theorem ln9_at (d : Nat → Nat) : ∀ k, 0 < ln9 d k → d (ln9 d k - 1) < 9
  | 0, h => absurd h (Nat.lt_irrefl 0)
  | k + 1, h => by
    rw [ln9_s] at h ⊢
    split
    · rename_i q; exact q
    · rename_i q; rw [if_neg q] at h; exact ln9_at d k h
def upN (d : Nat → Nat) (k x : Nat) : Nat → Nat := fun i => if i = k then x else d i
/-- one more in the last place of k digits: digits, how many, one place more before the point -/
def inc (d : Nat → Nat) (k : Nat) : (Nat → Nat) × Nat × Bool := if ln9 d k = 0 then (upN d 0 1, 1, true) else (upN d (ln9 d k - 1) (d (ln9 d k - 1) + 1), ln9 d k, false)
def ups (d : Nat → Nat) (n k : Nat) : Bool := if d k = 5 ∧ lnz d n ≤ k + 1 then decide (0 < k ∧ d (k - 1) % 2 = 1) else decide (5 ≤ d k)
/-- rounded to z digits: digits, how many, the point -/
def rnd (d : Nat → Nat) (n : Nat) (pt : Int32) (z : Int) : (Nat → Nat) × Nat × Int32 :=
  if (n : Int) ≤ z then (d, n, pt) else if z < 0 then (d, 0, 1) else if ups d n z.toNat then ((inc d z.toNat).1, (inc d z.toNat).2.1, if (inc d z.toNat).2.2 then pt + 1 else pt) else if z = 0 then (d, 0, 1) else (d, z.toNat, pt)
theorem i32_le (a b : Int32) : a ≤ b ↔ a.toInt ≤ b.toInt := Int32.le_iff_toInt_le
theorem i32_lt (a b : Int32) : a < b ↔ a.toInt < b.toInt := Int32.lt_iff_toInt_lt
theorem nIm1 (n : Nat) (h : n < 2 ^ 30) : (nI n - 1).toInt = (n : Int) - 1 := by
  rw [show nI n - 1 = nI n - nI 1 from rfl, pk_sub_toInt h (by decide)]
  rfl
/-- sums and differences of small ints -/
theorem i32_add (a b : Int32) (h1 : -1000000 ≤ a.toInt ∧ a.toInt ≤ 1000000) (h2 : -1000000 ≤ b.toInt ∧ b.toInt ≤ 1000000) : (a + b).toInt = a.toInt + b.toInt := by
  rw [Int32.toInt_add, Int.bmod_eq_of_le (by omega) (by omega)]
theorem i32_sub (a b : Int32) (h1 : -1000000 ≤ a.toInt ∧ a.toInt ≤ 1000000) (h2 : -1000000 ≤ b.toInt ∧ b.toInt ≤ 1000000) : (a - b).toInt = a.toInt - b.toInt := by
  rw [Int32.toInt_sub, Int.bmod_eq_of_le (by omega) (by omega)]
theorem i32_neg (a : Int32) (h1 : -1000000 ≤ a.toInt ∧ a.toInt ≤ 1000000) : (-a).toInt = -a.toInt := by
  rw [Int32.toInt_neg, Int.bmod_eq_of_le (by omega) (by omega)]
theorem i32_eq {a b : Int32} (h : a.toInt = b.toInt) : a = b := Int32.toInt_inj.mp h
