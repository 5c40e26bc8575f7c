/-! pure rows: taking arguments, putting out -/
abbrev pc_Fd (ac oc wa tk dd : Int32) (ar : Nat → Int64) (o : Nat → Int32) : ax_H := [(0, .inr (5, [.ref 1, .ref 3, .int ac, .ref 4, .int oc, .int wa, .int tk, .int dd, .ref 5, .ref 6])), (3, .inl (2, 60, .inr (.inl ar))), (4, .inl (1, 4000, .inl o))]
def tkv (ar : Nat → Int64) (na t : Nat) : Int64 := if t < na then ar t else 0
def tkn (na t : Nat) : Nat := if t < na then t + 1 else t
theorem tkn_le {na t : Nat} (h : t ≤ na) : tkn na t ≤ na := by unfold tkn; split <;> omega
def lim (v : Int64) : Int := max (-200) (min 200 v.toInt)
theorem lim_b (v : Int64) : -200 ≤ lim v ∧ lim v ≤ 200 := by unfold lim; omega
theorem l2i_small (w : Int64) (h1 : -1000 ≤ w.toInt) (h2 : w.toInt ≤ 1000) : w.toInt32 = Int32.ofInt w.toInt := by
  apply i32_eq
  rw [ofInt_toInt (by omega) (by omega), Int64.toInt_toInt32, Int.bmod_eq_of_le (by omega) (by omega)]
theorem lim_row (v : Int64) : (if (if v < 200 then v else 200) < -200 then (-200 : Int64) else (if v < 200 then v else 200)).toInt32 = Int32.ofInt (lim v) := by
  have e1 : (200 : Int64).toInt = 200 := by decide +kernel
  have e2 : (-200 : Int64).toInt = -200 := by decide +kernel
  by_cases h1 : v < 200
  · have g1 := Int64.lt_iff_toInt_lt.mp h1
    rw [if_pos h1]
    by_cases h2 : v < -200
    · have g2 := Int64.lt_iff_toInt_lt.mp h2
      rw [if_pos h2, l2i_small _ (by rw [e2]; decide) (by rw [e2]; decide), e2]
      congr 1
      unfold lim; omega
    · have g2 : ¬ v.toInt < (-200 : Int64).toInt := fun z => h2 (Int64.lt_iff_toInt_lt.mpr z)
      rw [if_neg h2, l2i_small _ (by omega) (by omega)]
      congr 1
      unfold lim; omega
  · have g1 : ¬ v.toInt < (200 : Int64).toInt := fun z => h1 (Int64.lt_iff_toInt_lt.mpr z)
    rw [if_neg h1, if_neg (by decide), l2i_small _ (by rw [e1]; decide) (by rw [e1]; decide), e1]
    congr 1
    unfold lim; omega
theorem ofI_lt {z : Int} (h1 : -200 ≤ z) (h2 : z ≤ 200) : (Int32.ofInt z < 0) ↔ z < 0 := by
  rw [i32_lt, ofInt_toInt (by omega) (by omega)]; exact Iff.rfl
theorem ofI_abs {z : Int} (h1 : -200 ≤ z) (h2 : z ≤ 200) : (if Int32.ofInt z < 0 then - Int32.ofInt z else Int32.ofInt z) = nI z.natAbs := by
  have e := ofInt_toInt (z := z) (by omega) (by omega)
  by_cases h : z < 0
  · rw [if_pos ((ofI_lt h1 h2).mpr h)]
    apply i32_eq
    rw [i32_neg _ (by omega), e, nI_toInt (by omega)]; omega
  · rw [if_neg (fun q => h ((ofI_lt h1 h2).mp q))]
    apply i32_eq
    rw [e, nI_toInt (by omega)]; omega
theorem ofI_pr {z : Int} (h1 : -200 ≤ z) (h2 : z ≤ 200) : (if Int32.ofInt z < 0 then -1 else Int32.ofInt z) = prI (if z < 0 then none else some z.toNat) := by
  by_cases h : z < 0
  · rw [if_pos ((ofI_lt h1 h2).mpr h), if_pos h]; rfl
  · rw [if_neg (fun q => h ((ofI_lt h1 h2).mp q)), if_neg h]
    apply i32_eq
    rw [ofInt_toInt (by omega) (by omega)]
    show z = (nI z.toNat).toInt
    rw [nI_toInt (by omega)]; omega
def sW (wt lf : Bool) (w : Nat) (v : Int64) : Bool × Nat := if wt then (lf || decide (lim v < 0), (lim v).natAbs) else (lf, w)
def sP (pt : Bool) (q : Option Nat) (v : Int64) : Option Nat := if pt then (if lim v < 0 then none else some (lim v).toNat) else q
def sT (b : Bool) (na t : Nat) : Nat := if b then tkn na t else t
theorem sT_le {b : Bool} {na t : Nat} (h : t ≤ na) : sT b na t ≤ na := by unfold sT; split; exact tkn_le h; exact h
theorem sW_le {wt lf : Bool} {w : Nat} {v : Int64} (h : w ≤ 200) : (sW wt lf w v).2 ≤ 200 := by
  have := lim_b v
  unfold sW; split
  · show (lim v).natAbs ≤ 200; omega
  · exact h
theorem sP_le {pt : Bool} {q : Option Nat} {v : Int64} (h : ∀ k, q = some k → k ≤ 200) : ∀ k, sP pt q v = some k → k ≤ 200 := by
  have := lim_b v
  unfold sP
  intro k hk
  split at hk
  · split at hk
    · cases hk
    · injection hk with hk; omega
  · exact h k hk
/-- a field: the letters of a piece, filled up -/
def fpl (lf zs : Bool) (z : Option Nat) (n : Nat) : Nat := if lf then n else if zs then z.getD 0 else 0
def fzs (lf ze : Bool) (z : Option Nat) : Bool := ze && !lf && z.isSome
def fld (lf ze : Bool) (w : Nat) (bs : List Nat) (z : Option Nat) : List Nat := bs.take (fpl lf (fzs lf ze z) z bs.length) ++ (List.replicate (w - bs.length) (if fzs lf ze z then 48 else 32) ++ bs.drop (fpl lf (fzs lf ze z) z bs.length))
theorem fld_len (lf ze : Bool) (w : Nat) (bs : List Nat) (z : Option Nat) : (fld lf ze w bs z).length = bs.length + (w - bs.length) := by
  unfold fld
  rw [List.length_append, List.length_append, List.length_replicate, List.length_take, List.length_drop]
  omega
