/-! pure rows: the model's text, letters -/
theorem oc_l (w : Int64) (i : Nat) (hi : i < 8) : (w.toUInt64 >>> ((56 - 8 * nI i : Int32).toInt64.toUInt64 &&& Int64.toUInt64 63)).toInt64 &&& 255 = uw (oc w i) := by
  rw [l_mask _ 255 8 (by decide +kernel)]
  congr 1
  unfold ul
  have hz : ∀ i, i < 8 → (((56 - 8 * nI i : Int32).toInt64.toUInt64 &&& Int64.toUInt64 63) : UInt64).toNat % 64 = 56 - 8 * i := by decide +kernel
  rw [ush_nat, hz i hi]
  rfl
theorem uw_z {n : Nat} (h : n < 256) : (lg_cmp (uw n) 0 = 0) ↔ n = 0 := by rw [lg_cmp_eq, ul_0, ul_uw (by omega)]
/-- eight letters in a long -/
def pk8 (g : Nat → Nat) : Nat → Int64
  | 0 => 0
  | j + 1 => (pk8 g j <<< ((8 : Int32).toInt64 &&& 63)) ||| (nI (g j)).toInt64
theorem pk8_s (g : Nat → Nat) (j : Nat) : pk8 g (j + 1) = (pk8 g j <<< ((8 : Int32).toInt64 &&& 63)) ||| (nI (g j)).toInt64 := rfl
def ltn (os : List Nat) (k i : Nat) : Nat := if 8 * k + i < os.length then os.getD (8 * k + i) 0 else 0
