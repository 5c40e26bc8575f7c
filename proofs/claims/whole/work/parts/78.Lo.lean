/-! Long: divideUnsigned, remainderUnsigned -/
set_option maxRecDepth 20000 in
set_option maxHeartbeats 1000000 in
theorem ct_Lo_divideUnsigned (l : Launch) (U b : Nat) (hU : U < 2 ^ 64) (hb : b = 8 ∨ b = 10 ∨ b = 16) : ax_CT l y_Lo_divideUnsigned c_Lo_divideUnsigned 8 (some .long) 0 [.long (lN U), .long (lN b)] [] (fun r h => r = some (.long (lN (U / b))) ∧ h = []) := by
  refine ax_ofV (by decide) (Nat.le_of_ble_eq_true rfl) ?_
  intro p e s m args below meth c D cid ad A Qc G hr E
  obtain ⟨g1, g2, g3, g4⟩ := du_r (U := U) (b := b) (by omega)
  have hdd := du_d b hb
  have hb2 : b < 2 ^ 63 := by omega
  have hsh : U / 2 ^ 1 / b * 2 ^ 1 < 2 ^ 64 := Nat.lt_of_le_of_lt (Nat.le_trans (Nat.mul_le_mul_right _ (Nat.div_le_self _ _)) (Nat.div_mul_le_self _ _)) hU
  have hb0 : ¬ lN b = 0 := fun q => by have := (pk_lEQ (b := 0) hb2 (by decide)).mp q; omega
  have hr32 : U - U / 2 / b * 2 * b < 32 := by omega
  refine ax_lload_n G d_Lo_divideUnsigned_0 rfl rfl ?_
  refine ax_lconst (v := 0) G d_Lo_divideUnsigned_1 (by decide) ?_
  refine ax_lcmp G d_Lo_divideUnsigned_2 ?_
  refine ax_if_lt (tgt := 41) G d_Lo_divideUnsigned_3 (by decide) (fun c_3 => ?_) (fun c_3 => ?_)
  · exfalso
    have := (lg_cmp_lt (lN b) 0).mp c_3
    rw [show (0 : Int64) = lN 0 from rfl, pk_lLT hb2 (by decide)] at this
    exact Nat.not_lt_zero _ this
  · refine ax_lload_n G d_Lo_divideUnsigned_6 rfl rfl ?_
    refine ax_iconst (v := 1) G d_Lo_divideUnsigned_7 (by decide) ?_
    rw [show (1 : Int32) = nI 1 from rfl]
    refine ax_lushr G d_Lo_divideUnsigned_8 ?_
    rw [← uw_lN U, l_ushr U 1 hU (by decide)]
    refine ax_lload_n G d_Lo_divideUnsigned_9 rfl rfl ?_
    refine ax_ldiv G d_Lo_divideUnsigned_10 hb0 ?_
    rw [uw_lN U, uw_lN (U / 2 ^ 1), pk_lDiv (by omega) (by omega) hb2]
    refine ax_iconst (v := 1) G d_Lo_divideUnsigned_11 (by decide) ?_
    rw [show (1 : Int32) = nI 1 from rfl]
    refine ax_lshl G d_Lo_divideUnsigned_12 ?_
    rw [← uw_lN (U / 2 ^ 1 / b), l_shl (U / 2 ^ 1 / b) 1 (by decide) hsh, uw_lN, show U / 2 ^ 1 / b * 2 ^ 1 = U / 2 / b * 2 from rfl]
    refine ax_lstore G d_Lo_divideUnsigned_13 (by decide) ?_
    refine ax_lload_n G d_Lo_divideUnsigned_15 rfl rfl ?_
    refine ax_lload G d_Lo_divideUnsigned_16 rfl ?_
    refine ax_lload_n G d_Lo_divideUnsigned_18 rfl rfl ?_
    refine ax_lmul G d_Lo_divideUnsigned_19 ?_
    rw [lN_mul]
    refine ax_lsub G d_Lo_divideUnsigned_20 ?_
    rw [lN_sub g1]
    refine ax_lstore G d_Lo_divideUnsigned_21 (by decide) ?_
    refine ax_lload G d_Lo_divideUnsigned_23 rfl ?_
    refine ax_lload G d_Lo_divideUnsigned_25 rfl ?_
    refine ax_lload G d_Lo_divideUnsigned_27 rfl ?_
    refine ax_lload_n G d_Lo_divideUnsigned_29 rfl rfl ?_
    refine ax_lsub G d_Lo_divideUnsigned_30 ?_
    refine ax_ldc2 G d_Lo_divideUnsigned_31 k_Lo_306 ?_
    refine ax_lxor G d_Lo_divideUnsigned_34 ?_
    refine ax_lor G d_Lo_divideUnsigned_35 ?_
    refine ax_bipush (v := 63) G d_Lo_divideUnsigned_36 (by decide) ?_
    refine ax_lushr G d_Lo_divideUnsigned_38 ?_
    rw [hdd _ hr32]
    refine ax_ladd G d_Lo_divideUnsigned_39 ?_
    rw [lN_add, g4]
    exact ax_lret G hr E d_Lo_divideUnsigned_40 rfl ⟨rfl, rfl⟩
set_option maxRecDepth 20000 in
set_option maxHeartbeats 1000000 in
theorem ct_Lo_remainderUnsigned (l : Launch) (U b : Nat) (hU : U < 2 ^ 64) (hb : b = 8 ∨ b = 10 ∨ b = 16) : ax_CT l y_Lo_remainderUnsigned c_Lo_remainderUnsigned 8 (some .long) 0 [.long (lN U), .long (lN b)] [] (fun r h => r = some (.long (lN (U % b))) ∧ h = []) := by
  refine ax_ofV (by decide) (Nat.le_of_ble_eq_true rfl) ?_
  intro p e s m args below meth c D cid ad A Qc G hr E
  obtain ⟨g1, g2, g3, g4⟩ := du_r (U := U) (b := b) (by omega)
  have hdm := du_m b hb
  have hb2 : b < 2 ^ 63 := by omega
  have hsh : U / 2 ^ 1 / b * 2 ^ 1 < 2 ^ 64 := Nat.lt_of_le_of_lt (Nat.le_trans (Nat.mul_le_mul_right _ (Nat.div_le_self _ _)) (Nat.div_mul_le_self _ _)) hU
  have hb0 : ¬ lN b = 0 := fun q => by have := (pk_lEQ (b := 0) hb2 (by decide)).mp q; omega
  refine ax_lload_n G d_Lo_remainderUnsigned_0 rfl rfl ?_
  refine ax_lconst (v := 0) G d_Lo_remainderUnsigned_1 (by decide) ?_
  refine ax_lcmp G d_Lo_remainderUnsigned_2 ?_
  refine ax_if_lt (tgt := 40) G d_Lo_remainderUnsigned_3 (by decide) (fun c_3 => ?_) (fun c_3 => ?_)
  · exfalso
    have := (lg_cmp_lt (lN b) 0).mp c_3
    rw [show (0 : Int64) = lN 0 from rfl, pk_lLT hb2 (by decide)] at this
    exact Nat.not_lt_zero _ this
  · refine ax_lload_n G d_Lo_remainderUnsigned_6 rfl rfl ?_
    refine ax_iconst (v := 1) G d_Lo_remainderUnsigned_7 (by decide) ?_
    rw [show (1 : Int32) = nI 1 from rfl]
    refine ax_lushr G d_Lo_remainderUnsigned_8 ?_
    rw [← uw_lN U, l_ushr U 1 hU (by decide)]
    refine ax_lload_n G d_Lo_remainderUnsigned_9 rfl rfl ?_
    refine ax_ldiv G d_Lo_remainderUnsigned_10 hb0 ?_
    rw [uw_lN U, uw_lN (U / 2 ^ 1), pk_lDiv (by omega) (by omega) hb2]
    refine ax_iconst (v := 1) G d_Lo_remainderUnsigned_11 (by decide) ?_
    rw [show (1 : Int32) = nI 1 from rfl]
    refine ax_lshl G d_Lo_remainderUnsigned_12 ?_
    rw [← uw_lN (U / 2 ^ 1 / b), l_shl (U / 2 ^ 1 / b) 1 (by decide) hsh, uw_lN, show U / 2 ^ 1 / b * 2 ^ 1 = U / 2 / b * 2 from rfl]
    refine ax_lstore G d_Lo_remainderUnsigned_13 (by decide) ?_
    refine ax_lload_n G d_Lo_remainderUnsigned_15 rfl rfl ?_
    refine ax_lload G d_Lo_remainderUnsigned_16 rfl ?_
    refine ax_lload_n G d_Lo_remainderUnsigned_18 rfl rfl ?_
    refine ax_lmul G d_Lo_remainderUnsigned_19 ?_
    rw [lN_mul]
    refine ax_lsub G d_Lo_remainderUnsigned_20 ?_
    rw [lN_sub g1]
    refine ax_lstore G d_Lo_remainderUnsigned_21 (by decide) ?_
    refine ax_lload G d_Lo_remainderUnsigned_23 rfl ?_
    refine ax_lload G d_Lo_remainderUnsigned_25 rfl ?_
    refine ax_lload_n G d_Lo_remainderUnsigned_27 rfl rfl ?_
    refine ax_lsub G d_Lo_remainderUnsigned_28 ?_
    refine ax_ldc2 G d_Lo_remainderUnsigned_29 k_Lo_306 ?_
    refine ax_lxor G d_Lo_remainderUnsigned_32 ?_
    refine ax_bipush (v := 63) G d_Lo_remainderUnsigned_33 (by decide) ?_
    refine ax_lshr G d_Lo_remainderUnsigned_35 ?_
    refine ax_lload_n G d_Lo_remainderUnsigned_36 rfl rfl ?_
    refine ax_land G d_Lo_remainderUnsigned_37 ?_
    refine ax_lsub G d_Lo_remainderUnsigned_38 ?_
    rw [hdm _ g2, g3]
    exact ax_lret G hr E d_Lo_remainderUnsigned_39 rfl ⟨rfl, rfl⟩

