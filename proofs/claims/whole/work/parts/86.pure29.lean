/-! pure rows: hexadecimal, the model's side -/
theorem hxd_mod (s0 : Nat) : ∀ k, k ≤ 13 → s0 % 2 ^ (52 - 4 * k) = 0 → s0 % 2 ^ (52 - 4 * hxd s0 k) = 0
  | 0, _, h => h
  | k + 1, hk, h => by
    rw [hxd_s]
    split
    · rename_i h0
      refine hxd_mod s0 k (by omega) ?_
      rw [show 52 - 4 * k = (52 - 4 * (k + 1)) + 4 by omega, Nat.pow_add, Nat.mod_mul, h, Nat.zero_add, show (2 : Nat) ^ 4 = 16 from rfl, h0, Nat.mul_zero]
    · exact h
theorem rdx_hxd (s0 : Nat) : rdx s0 (hxd s0 13) = s0 := by
  have h1 := hxd_le s0 13
  have h2 := hxd_mod s0 13 (Nat.le_refl _) (by show s0 % 1 = 0; exact Nat.mod_one _)
  generalize hxd s0 13 = B at h1 h2
  unfold rdx
  split
  · rfl
  · rename_i h3
    rw [show 52 - 4 * B = 4 * (13 - B) by omega] at h2
    have hq : 0 < 2 ^ (4 * (13 - B) - 1) := Nat.pow_pos (by decide)
    rw [h2, if_neg (by
      intro z
      rcases z with z | z
      · exact absurd z (Nat.not_lt_zero _)
      · exact absurd z.1 (Nat.ne_of_lt hq)), Nat.add_zero]
    exact Nat.div_mul_cancel (Nat.dvd_of_mod_eq_zero h2)
theorem expo_f (z : Int) : expo z false = [if z < 0 then 45 else 43] ++ ((if 1000 ≤ z.natAbs then [48 + z.natAbs / 1000] else []) ++ ((if 100 ≤ z.natAbs then [48 + z.natAbs / 100 % 10] else []) ++ ((if 10 ≤ z.natAbs then [48 + z.natAbs / 10 % 10] else []) ++ [48 + z.natAbs % 10]))) := by
  unfold expo
  simp only [Bool.false_eq_true, or_false]
  rfl
theorem nab {z : Int} (h : -2000 ≤ z ∧ z ≤ 2000) : z.natAbs < 10000 := by omega
theorem fX_b (v : Int64) : -1022 ≤ fX v ∧ fX v ≤ 1024 := by have := fE_lt v; unfold fX; omega
theorem hx_lt10 {k : Nat} (h : k < 10) : hx k = 48 + k := by unfold hx; rw [if_pos h]
theorem hexG {s0 : Nat} (x : Int) (q : Option Nat) (ha gr : Bool) (hs : s0 < 2 ^ 53) (hX : x.natAbs < 10000) : pcG gr (hexS s0 x q ha) = [48 + rdx s0 (hxb s0 q) / 2 ^ 52] ++ pnt (hxb s0 q) ha ++ (List.range (hxb s0 q)).map (fun i => gd gr (hx (if i + 1 ≤ 13 then rdx s0 (hxb s0 q) / 2 ^ (52 - 4 * (i + 1)) % 16 else 0))) ++ [if gr then 80 else 112] ++ expo (if s0 = 0 then 0 else x) false := by
  have hR := rdx_lt hs (hxb s0 q)
  unfold hexS hxl
  generalize hxb s0 q = B at *
  generalize rdx s0 B = r at *
  have h4 : r / 2 ^ 52 < 4 := by rw [Nat.div_lt_iff_lt_mul (by decide)]; exact Nat.lt_of_lt_of_le hR (by decide)
  have hy : (if s0 = 0 then (0 : Int) else x).natAbs < 10000 := by split; decide; exact hX
  generalize (if s0 = 0 then (0 : Int) else x) = y at *
  rw [show r / 2 ^ 52 % 16 = r / 2 ^ 52 from Nat.mod_eq_of_lt (by omega), hx_lt10 (by omega)]
  generalize r / 2 ^ 52 = a at h4 ⊢
  generalize hf : (fun i => hx (if i + 1 ≤ 13 then r / 2 ^ (52 - 4 * (i + 1)) % 16 else 0)) = f
  have e1 : (fun i => gd gr (hx (if i + 1 ≤ 13 then r / 2 ^ (52 - 4 * (i + 1)) % 16 else 0))) = gd gr ∘ f := by rw [← hf]; rfl
  rw [e1]
  have e2 : (48 + a) :: (pnt B ha ++ ((List.range B).map f ++ (112 :: expo y false))) = [48 + a] ++ pnt B ha ++ (List.range B).map f ++ [112] ++ expo y false := by simp
  rw [e2, pcG_app, pcG_app, pcG_app, pcG_app, pcG_lo (expo_lo y false hy), pcG_lo (pnt_lo B ha), pcG_lo (bs := [48 + a]) (by intro z hz; rw [List.mem_singleton] at hz; omega), pcG_map gr ((List.range B).map f), List.map_map, show pcG gr [112] = [if gr then 80 else 112] by cases gr <;> rfl]
theorem fS_z (v : Int64) : (ul v % 2 ^ 63 = 0) ↔ fS v = 0 := by
  have h1 : ul v % 2 ^ 63 = fF v + 2 ^ 52 * fE v := by
    rw [show (2 : Nat) ^ 63 = 2 ^ 52 * 2048 by decide, Nat.mod_mul]; rfl
  rw [h1]
  unfold fS
  split
  · rename_i h; rw [h, Nat.mul_zero, Nat.add_zero]
  · constructor
    · intro h; omega
    · intro h; omega
theorem fX_0 {v : Int64} (h : fE v = 0) : fX v = -1022 := by unfold fX; rw [h]; rfl
theorem fX_1 {v : Int64} (h : ¬ fE v = 0) : fX v = (fE v : Int) - 1023 := by unfold fX; rw [Nat.max_eq_left (by omega)]
theorem fS_n {v : Int64} (h : ¬ fE v = 0) : ¬ fS v = 0 := by unfold fS; rw [if_neg h]; omega
