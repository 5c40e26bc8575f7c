/-! pure rows: how long a piece is -/
theorem hexS_len (s0 : Nat) (x : Int) (q : Option Nat) (ha : Bool) (h : ∀ k, q = some k → k ≤ 200) : (hexS s0 x q ha).length ≤ 210 := by
  have h1 : hxb s0 q ≤ 200 := by
    cases q with
    | none => have := hxd_le s0 13; show hxd s0 13 ≤ 200; omega
    | some k => exact h k rfl
  have h2 := pnt_len (hxb s0 q) ha
  have h3 := expo_len (if s0 = 0 then 0 else x) false
  unfold hexS
  rw [List.length_cons, List.length_append, List.length_append, List.length_cons, hxl_len]
  omega
theorem ptd_len (d : Nat → Nat) (n : Nat) (pt : Int) (b : Nat) (ha : Bool) : (ptd d n pt b ha).length ≤ (max pt 1).toNat + b + 1 := by
  have := pnt_len b ha
  unfold ptd
  rw [List.length_append, List.length_append, dgI_len, dgB_len]
  omega
theorem sciS_len (d : Nat → Nat) (n : Nat) (pt : Int) (b : Nat) (ha : Bool) : (sciS d n pt b ha).length ≤ b + 8 := by
  have h1 := ptd_len d n 1 b ha
  have h2 := expo_len (pt - 1) true
  unfold sciS
  rw [List.length_append, List.length_cons]
  have : (max (1 : Int) 1).toNat = 1 := rfl
  omega
theorem gb_le (d : Nat → Nat) (n : Nat) (pt : Int) (k : Nat) (ha : Bool) : gb d n pt k ha ≤ ((k : Int) - gz pt k).toNat := by
  unfold gb
  split
  · exact Nat.le_refl _
  · exact Nat.min_le_left _ _
theorem gS_len (d : Nat → Nat) (n : Nat) (pt : Int) (k : Nat) (ha : Bool) (hk : k ≤ 200) : (gS d n pt k ha).length ≤ 512 := by
  have h1 := gb_le d n pt k ha
  unfold gS
  by_cases hg : gfx pt k = true
  · rw [if_pos hg]
    have h2 := ptd_len d n pt (gb d n pt k ha) ha
    have h3 : gz pt k = pt := by unfold gz; rw [if_pos hg]
    have h4 : -4 ≤ pt - 1 ∧ pt - 1 < (k : Int) := of_decide_eq_true hg
    rw [h3] at h1
    generalize gb d n pt k ha = z at *
    omega
  · rw [if_neg hg]
    have h2 := sciS_len d n pt (gb d n pt k ha) ha
    have h3 : gz pt k = 1 := by unfold gz; rw [if_neg hg]
    rw [h3] at h1
    generalize gb d n pt k ha = z at *
    omega
theorem decS_len (d : Nat → Nat) (n : Nat) (pt : Int32) (k : Nat) (ha : Bool) (kk : Nat) (h1 : -1100 ≤ pt.toInt) (h2 : pt.toInt ≤ 310) (hk : k ≤ 200) : (decS d n pt k ha kk).length ≤ 513 := by
  unfold decS
  split
  · have := rnd_f d n pt k h1 h2 hk
    have h3 := ptd_len (rnd d n pt (pt.toInt + k)).1 (rnd d n pt (pt.toInt + k)).2.1 (rnd d n pt (pt.toInt + k)).2.2.toInt k ha
    generalize rnd d n pt (pt.toInt + k) = R at *
    omega
  split
  · exact Nat.le_trans (sciS_len _ _ _ k ha) (by omega)
  · exact Nat.le_trans (gS_len _ _ _ k ha hk) (by omega)
theorem ptN_b {s0 : Nat} {e : Int} (hs : s0 < 2 ^ 53) (h1 : -1074 ≤ e) (h2 : e ≤ 971) : -1100 ≤ (ptN s0 e).toInt ∧ (ptN s0 e).toInt ≤ 310 := by
  unfold ptN
  split
  · decide
  · rename_i hz
    have := nN_up (Nat.pos_of_ne_zero hz) hs h1 h2
    rw [ofInt_toInt (by omega) (by omega)]
    omega
theorem flt_len (pl bl ha : Bool) (q : Option Nat) (kk : Nat) (v : Int64) (hq : ∀ k, q = some k → k ≤ 200) : (flt pl bl ha q kk v).1.length ≤ 520 := by
  have h1 := sgn_len (decide (v < 0)) pl bl
  have hE := fE_lt v
  have hX : -1022 ≤ fX v ∧ (¬ fE v = 2047 → fX v ≤ 1023) := by unfold fX; omega
  unfold flt
  split
  · show (_ ++ _ : List Nat).length ≤ 520
    rw [List.length_append]
    have : (if fF v = 0 then [105, 110, 102] else [110, 97, 110] : List Nat).length = 3 := by split <;> rfl
    omega
  rename_i h7
  split
  · show (_ ++ _ : List Nat).length ≤ 520
    rw [List.length_append, List.length_append]
    have := hexS_len (fS v) (fX v) q ha hq
    show _ + (2 + _) ≤ 520
    omega
  · show (_ ++ _ : List Nat).length ≤ 520
    rw [List.length_append]
    have hp := ptN_b (fS_lt v) (e := fX v - 52) (by omega) (by have := hX.2 h7; omega)
    have := decS_len (dgs (tgt (fS v) (fX v - 52)) (nN (fS v) (fX v - 52))) (nN (fS v) (fX v - 52)) (ptN (fS v) (fX v - 52)) (prN q kk) ha kk hp.1 hp.2 (prN_le hq)
    generalize (decS (dgs (tgt (fS v) (fX v - 52)) (nN (fS v) (fX v - 52))) (nN (fS v) (fX v - 52)) (ptN (fS v) (fX v - 52)) (prN q kk) ha kk).length = z at *
    omega
theorem pre_len (b : Nat) (ha : Bool) (U : Nat) : (pre0x b ha U).length ≤ 2 := by unfold pre0x; split <;> decide
theorem pcs_len (pl bl ha : Bool) (q : Option Nat) (kk : Nat) (v : Int64) (hq : ∀ k, q = some k → k ≤ 200) : (pcs pl bl ha q kk v).1.length ≤ 520 := by
  have h1 := sgn_len (decide (v < 0)) pl bl
  unfold pcs
  split
  · decide
  split
  · show (1 : Nat) ≤ 520; decide
  split
  · show (_ ++ _ : List Nat).length ≤ 520
    rw [List.length_append, wl_len]
    have := ndg_le (ul (if v < 0 then -v else v)) 10 q ha hq
    omega
  split
  · show (_ ++ _ : List Nat).length ≤ 520
    rw [List.length_append, wl_len]
    have := ndg_le (ul v) 10 q ha hq
    have := pre_len 10 ha (ul v)
    omega
  split
  · show (_ ++ _ : List Nat).length ≤ 520
    rw [List.length_append, wl_len]
    have := ndg_le (ul v) 8 q ha hq
    have := pre_len 8 ha (ul v)
    omega
  split
  · show (_ ++ _ : List Nat).length ≤ 520
    rw [List.length_append, wl_len]
    have := ndg_le (ul v) 16 q ha hq
    have := pre_len 16 ha (ul v)
    omega
  · exact flt_len pl bl ha q kk v hq
/-- a directive's piece -/
def pcG (gr : Bool) (bs : List Nat) : List Nat := if gr then bs.map up else bs
theorem pcG_len (gr : Bool) (bs : List Nat) : (pcG gr bs).length = bs.length := by unfold pcG; split <;> simp
/-- a kind's small letter -/
def isS (kk : Nat) : Prop := kk = 37 ∨ kk = 99 ∨ kk = 100 ∨ kk = 105 ∨ kk = 111 ∨ kk = 117 ∨ kk = 120 ∨ kk = 97 ∨ kk = 101 ∨ kk = 102 ∨ kk = 103
