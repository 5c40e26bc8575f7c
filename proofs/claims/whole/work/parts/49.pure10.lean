/-! pure rows: floating-point numbers, pieces -/
def fE (v : Int64) : Nat := ul v / 2 ^ 52 % 2048
def fF (v : Int64) : Nat := ul v % 2 ^ 52
def fS (v : Int64) : Nat := if fE v = 0 then fF v else fF v + 2 ^ 52
def fX (v : Int64) : Int := ((max (fE v) 1 : Nat) : Int) - 1023
theorem fE_lt (v : Int64) : fE v < 2048 := Nat.mod_lt _ (by decide)
theorem fF_lt (v : Int64) : fF v < 2 ^ 52 := Nat.mod_lt _ (by decide)
theorem fS_lt (v : Int64) : fS v < 2 ^ 53 := by have := fF_lt v; unfold fS; split <;> omega
def nN (s0 : Nat) (e : Int) : Nat := if s0 = 0 then 0 else dg10 800 (tgt s0 e)
def ptN (s0 : Nat) (e : Int) : Int32 := if s0 = 0 then 1 else Int32.ofInt ((nN s0 e : Int) + min e 0)
theorem tgt_pos {s0 : Nat} {e : Int} (h : 0 < s0) : 0 < tgt s0 e := Nat.mul_pos (Nat.mul_pos h (Nat.pow_pos (by decide))) (Nat.pow_pos (by decide))
theorem bB_le : bB ≤ 10 ^ 800 := by decide +kernel
theorem nN_is {s0 : Nat} {e : Int} (h : 0 < s0) (hs : s0 < 2 ^ 53) (h1 : -1074 ≤ e) (h2 : e ≤ 971) : isN (tgt s0 e) (nN s0 e) := by
  unfold nN
  rw [if_neg (Nat.ne_of_gt h)]
  exact dg10_is 800 _ (tgt_pos h) (Nat.lt_of_lt_of_le (tgt_lt hs h1 h2) bB_le)
theorem pow_lt_of {a b : Nat} (h : 10 ^ a < 10 ^ b) : a < b := (Nat.pow_lt_pow_iff_right (by decide)).mp h
theorem nN_up {s0 : Nat} {e : Int} (h : 0 < s0) (hs : s0 < 2 ^ 53) (h1 : -1074 ≤ e) (h2 : e ≤ 971) : (nN s0 e : Int) + min e 0 ≤ 310 := by
  obtain ⟨g1, g2, -⟩ := nN_is h hs h1 h2
  generalize nN s0 e = n at g1 g2
  by_cases he : e ≤ 0
  · have a1 : tgt s0 e < 10 ^ (16 + (-e).toNat) := by
      rw [tgt_eq, show e.toNat = 0 by omega, Nat.pow_zero, Nat.mul_one, Nat.pow_add]
      have b1 : 5 ^ (-e).toNat ≤ 10 ^ (-e).toNat := Nat.pow_le_pow_left (by decide) _
      have b2 : s0 * 5 ^ (-e).toNat ≤ s0 * 10 ^ (-e).toNat := Nat.mul_le_mul_left _ b1
      have b3 : s0 * 10 ^ (-e).toNat < 10 ^ 16 * 10 ^ (-e).toNat := Nat.mul_lt_mul_of_pos_right (Nat.lt_trans hs (by decide)) (Nat.pow_pos (by decide))
      exact Nat.lt_of_le_of_lt b2 b3
    have a2 := pow_lt_of (Nat.lt_of_le_of_lt g2 a1)
    omega
  · have a1 : tgt s0 e < 10 ^ 309 := by
      rw [tgt_eq, show (-e).toNat = 0 by omega, Nat.pow_zero, Nat.mul_one]
      have b1 : 2 ^ e.toNat ≤ 2 ^ 971 := Nat.pow_le_pow_right (by decide) (by omega)
      have b2 : s0 * 2 ^ e.toNat ≤ 2 ^ 53 * 2 ^ 971 := Nat.mul_le_mul (Nat.le_of_lt hs) b1
      exact Nat.lt_of_le_of_lt b2 (by decide +kernel)
    have a2 := pow_lt_of (Nat.lt_of_le_of_lt g2 a1)
    omega
theorem ofInt_toInt {z : Int} (h1 : -1000000 ≤ z) (h2 : z ≤ 1000000) : (Int32.ofInt z).toInt = z := by
  rw [Int32.toInt_ofInt, show Int32.size = 4294967296 from rfl, Int.bmod_eq_of_le (by omega) (by omega)]
/-- what e, f, g, a put -/
def flt (pl bl ha : Bool) (q : Option Nat) (kk : Nat) (v : Int64) : List Nat × Option Nat :=
  if fE v = 2047 then (sgn (decide (v < 0)) pl bl ++ (if fF v = 0 then [105, 110, 102] else [110, 97, 110]), none)
  else if kk = 97 then (sgn (decide (v < 0)) pl bl ++ ([48, 120] ++ hexS (fS v) (fX v) q ha), some ((sgn (decide (v < 0)) pl bl).length + 2))
  else (sgn (decide (v < 0)) pl bl ++ decS (dgs (tgt (fS v) (fX v - 52)) (nN (fS v) (fX v - 52))) (nN (fS v) (fX v - 52)) (ptN (fS v) (fX v - 52)) (prN q kk) ha kk, some (sgn (decide (v < 0)) pl bl).length)
/-- a directive's piece, before it is made great -/
def pcs (pl bl ha : Bool) (q : Option Nat) (kk : Nat) (v : Int64) : List Nat × Option Nat :=
  if kk = 37 then ([37], none)
  else if kk = 99 then ([ltr (ul v % 128)], none)
  else if kk = 100 ∨ kk = 105 then (sgn (decide (v < 0)) pl bl ++ wl (ul (if v < 0 then -v else v)) 10 (ndg (ul (if v < 0 then -v else v)) 10 q ha), if q = none then some (sgn (decide (v < 0)) pl bl).length else none)
  else if kk = 117 then (pre0x 10 ha (ul v) ++ wl (ul v) 10 (ndg (ul v) 10 q ha), if q = none then some (pre0x 10 ha (ul v)).length else none)
  else if kk = 111 then (pre0x 8 ha (ul v) ++ wl (ul v) 8 (ndg (ul v) 8 q ha), if q = none then some (pre0x 8 ha (ul v)).length else none)
  else if kk = 120 then (pre0x 16 ha (ul v) ++ wl (ul v) 16 (ndg (ul v) 16 q ha), if q = none then some (pre0x 16 ha (ul v)).length else none)
  else flt pl bl ha q kk v
theorem sgn_len (a b c : Bool) : (sgn a b c).length ≤ 1 := by unfold sgn; cases a <;> cases b <;> cases c <;> decide
theorem prI_if (q : Option Nat) (n : Nat) : (if q = none then nI n else (-1 : Int32)) = prI (if q = none then some n else none) := by
  cases q with
  | none => rfl
  | some k => rfl
