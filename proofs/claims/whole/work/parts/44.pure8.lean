/-! pure rows: bits of a long, whole numbers, hexadecimal -/
theorem ul_and (a b : Int64) : ul (a &&& b) = ul a &&& ul b := by unfold ul; rw [Int64.toBitVec_and, BitVec.toNat_and]
theorem ul_or (a b : Int64) : ul (a ||| b) = ul a ||| ul b := by unfold ul; rw [Int64.toBitVec_or, BitVec.toNat_or]
theorem l_mask (w m : Int64) (k : Nat) (hm : ul m = 2 ^ k - 1) : w &&& m = uw (ul w % 2 ^ k) := by
  apply ul_inj
  rw [ul_and, hm, Nat.and_two_pow_sub_one_eq_mod, ul_uw (Nat.lt_of_le_of_lt (Nat.mod_le _ _) (ul_lt w))]
theorem sh_z : ∀ m, m < 64 → ((((nI m).toInt64 &&& 63) : Int64).toBitVec.smod 64).toNat = m := by decide +kernel
theorem ush_z : ∀ m, m < 64 → (((nI m).toInt64.toUInt64 &&& Int64.toUInt64 63) : UInt64).toNat % 64 = m := by decide +kernel
theorem l_shl (a m : Nat) (hm : m < 64) (h : a * 2 ^ m < 2 ^ 64) : uw a <<< ((nI m).toInt64 &&& 63) = uw (a * 2 ^ m) := by
  have ha : a < 2 ^ 64 := Nat.lt_of_le_of_lt (Nat.le_mul_of_pos_right _ (Nat.pow_pos (by decide))) h
  apply ul_inj
  rw [ul_uw h]
  show (uw a <<< ((nI m).toInt64 &&& 63)).toBitVec.toNat = _
  rw [Int64.toBitVec_shiftLeft, BitVec.shiftLeft_eq', sh_z m hm, BitVec.toNat_shiftLeft, show (uw a).toBitVec.toNat = a from ul_uw ha, Nat.shiftLeft_eq, Nat.mod_eq_of_lt h]
theorem l_ushr (a m : Nat) (ha : a < 2 ^ 64) (hm : m < 64) : ((uw a).toUInt64 >>> ((nI m).toInt64.toUInt64 &&& Int64.toUInt64 63)).toInt64 = uw (a / 2 ^ m) := uw_ush a m ha _ (ush_z m hm)
theorem l_hid (a : Nat) (ha : a < 2 ^ 52) : uw a ||| uw (2 ^ 52) = uw (a + 2 ^ 52) := by
  apply ul_inj
  rw [ul_or, ul_uw (by omega), ul_uw (by decide), ul_uw (by omega), Nat.or_comm, Nat.add_comm]
  have := Nat.two_pow_add_eq_or_of_lt (i := 52) ha 1
  rw [Nat.mul_one] at this
  exact this.symm
/-- how many of the 13 digits stay -/
def hxd (s0 : Nat) : Nat → Nat
  | 0 => 0
  | k + 1 => if s0 / 2 ^ (52 - 4 * (k + 1)) % 16 = 0 then hxd s0 k else k + 1
theorem hxd_s (s0 k : Nat) : hxd s0 (k + 1) = if s0 / 2 ^ (52 - 4 * (k + 1)) % 16 = 0 then hxd s0 k else k + 1 := rfl
theorem hxd_le (s0 : Nat) : ∀ k, hxd s0 k ≤ k
  | 0 => Nat.le_refl _
  | k + 1 => by rw [hxd_s]; have := hxd_le s0 k; split <;> omega
/-- rounded to d hexadecimal digits behind the point -/
def rdx (s0 d : Nat) : Nat := if 13 ≤ d then s0 else (s0 / 2 ^ (4 * (13 - d)) + (if 2 ^ (4 * (13 - d) - 1) < s0 % 2 ^ (4 * (13 - d)) ∨ (s0 % 2 ^ (4 * (13 - d)) = 2 ^ (4 * (13 - d) - 1) ∧ s0 / 2 ^ (4 * (13 - d)) % 2 = 1) then 1 else 0)) * 2 ^ (4 * (13 - d))
theorem rdx_lt {s0 : Nat} (h : s0 < 2 ^ 53) (d : Nat) : rdx s0 d < 2 ^ 54 := by
  unfold rdx
  split
  · omega
  · have h1 : s0 / 2 ^ (4 * (13 - d)) * 2 ^ (4 * (13 - d)) ≤ s0 := Nat.div_mul_le_self _ _
    have h2 : 2 ^ (4 * (13 - d)) ≤ 2 ^ 52 := Nat.pow_le_pow_right (by decide) (by omega)
    rw [Nat.add_mul]
    have h3 : (if 2 ^ (4 * (13 - d) - 1) < s0 % 2 ^ (4 * (13 - d)) ∨ (s0 % 2 ^ (4 * (13 - d)) = 2 ^ (4 * (13 - d) - 1) ∧ s0 / 2 ^ (4 * (13 - d)) % 2 = 1) then 1 else 0) * 2 ^ (4 * (13 - d)) ≤ 2 ^ 52 := by
      split
      · rw [Nat.one_mul]; exact h2
      · rw [Nat.zero_mul]; exact Nat.zero_le _
    omega
/-- the letter that c puts -/
def ltr (x : Nat) : Nat := if x < 32 ∨ 126 < x then 63 else x
/-- how many digits whole numbers get -/
def ndg (U b : Nat) (q : Option Nat) (hash : Bool) : Nat :=
  if b = 8 ∧ hash = true ∧ max (dgf b 22 U) (q.getD 1) = dgf b 22 U then max (dgf b 22 U) (q.getD 1) + 1 else max (dgf b 22 U) (q.getD 1)
theorem dgf_le (b : Nat) : ∀ k U, dgf b k U ≤ k
  | 0, _ => Nat.le_refl _
  | k + 1, U => by rw [dgf_s]; have := dgf_le b k (U / b); split <;> omega
theorem ndg_le (U b : Nat) (q : Option Nat) (hash : Bool) (h : ∀ k, q = some k → k ≤ 200) : ndg U b q hash ≤ 201 := by
  have h1 := dgf_le b 22 U
  have h2 : q.getD 1 ≤ 200 := by cases q with
    | none => decide
    | some k => exact h k rfl
  unfold ndg
  split <;> omega
/-- the digits of a hexadecimal floating-point number, the exponent behind them -/
def hxb (s0 : Nat) (q : Option Nat) : Nat := match q with
  | none => hxd s0 13
  | some k => k
def hxl (r b : Nat) : List Nat := (List.range b).map (fun i => hx (if i + 1 ≤ 13 then r / 2 ^ (52 - 4 * (i + 1)) % 16 else 0))
theorem hxl_len (r b : Nat) : (hxl r b).length = b := by unfold hxl; rw [List.length_map, List.length_range]
def hexS (s0 : Nat) (x : Int) (q : Option Nat) (ha : Bool) : List Nat := hx (rdx s0 (hxb s0 q) / 2 ^ 52 % 16) :: (pnt (hxb s0 q) ha ++ (hxl (rdx s0 (hxb s0 q)) (hxb s0 q) ++ (112 :: expo (if s0 = 0 then 0 else x) false)))
theorem ul_i (v : Int64) : v.toInt32.toBitVec.toNat % 16 = ul v % 16 := by
  rw [l2i_nat]
  unfold ul
  omega
