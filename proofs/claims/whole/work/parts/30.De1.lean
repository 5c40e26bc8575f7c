/-! FormatDesk$Decimal: digitAt, becomeZero -/
set_option maxRecDepth 20000 in
set_option maxHeartbeats 1000000 in
/-- digitAt(i): the digit at i, 0 where there is none -/
theorem ct_De_digitAt (l : Launch) (lc pt i : Int32) (n : Nat) (lm : Nat → Int64) (dg : Nat → Int32) (hn : n ≤ 774) : ax_CT l y_De_digitAt c_De_digitAt 2 (some .int) 0 [.ref 9, .int i] (pc_De lc (nI n) pt lm dg) (fun r h => r = some (.int (if ¬ i < 0 ∧ i < nI n then dg i.toNatClampNeg else 0)) ∧ h = pc_De lc (nI n) pt lm dg) := by
  refine ax_ofV (by decide) (Nat.le_of_ble_eq_true rfl) ?_
  intro p e s m args below meth c D cid ad A Qc G hr E
  refine ax_iload_n G d_De_digitAt_0 rfl rfl ?_
  refine ax_if_lt (tgt := 21) G d_De_digitAt_1 (by decide) (fun c_1 => ?_) (fun c_1 => ?_)
  · refine ax_iconst (v := 0) G d_De_digitAt_21 (by decide) ?_
    exact ax_iret G hr E d_De_digitAt_22 rfl ⟨by rw [if_neg (fun z => z.1 c_1)], rfl⟩
  · refine ax_iload_n G d_De_digitAt_4 rfl rfl ?_
    refine ax_aload_n G d_De_digitAt_5 rfl rfl ?_
    refine ax_get (ci := 0) (j := 3) G d_De_digitAt_6 rfl rfl (by decide) k_De_21 rfl ?_
    refine ax_icmp_ge (tgt := 21) G d_De_digitAt_9 (by decide) (fun c_9 => ?_) (fun c_9 => ?_)
    · refine ax_iconst (v := 0) G d_De_digitAt_21 (by decide) ?_
      exact ax_iret G hr E d_De_digitAt_22 rfl ⟨by rw [if_neg (fun z => absurd c_9 (Int32.not_le.mpr z.2))], rfl⟩
    · have hlt : i < nI n := Int32.not_le.mp c_9
      obtain ⟨j, hj, rfl⟩ := nI_of c_1
      have hjn : j < n := (nI_ltI hj (by omega)).mp hlt
      refine ax_aload_n G d_De_digitAt_12 rfl rfl ?_
      refine ax_get (ci := 0) (j := 2) G d_De_digitAt_13 rfl rfl (by decide) k_De_17 rfl ?_
      refine ax_iload_n G d_De_digitAt_16 rfl rfl ?_
      refine ax_bald G d_De_digitAt_17 rfl (vp_in_nI (by omega) (by omega)) ?_
      refine ax_goto (tgt := 22) G d_De_digitAt_18 (by decide) ?_
      exact ax_iret G hr E d_De_digitAt_22 rfl ⟨by rw [if_pos ⟨c_1, hlt⟩], rfl⟩
set_option maxRecDepth 20000 in
set_option maxHeartbeats 1000000 in
/-- becomeZero(): no digits, one before the point -/
theorem ct_De_becomeZero (l : Launch) (lc dc pt : Int32) (lm : Nat → Int64) (dg : Nat → Int32) : ax_CT l y_De_becomeZero c_De_becomeZero 1 none 0 [.ref 9] (pc_De lc dc pt lm dg) (fun r h => r = none ∧ h = pc_De lc 0 1 lm dg) := by
  refine ax_ofV (by decide) (Nat.le_of_ble_eq_true rfl) ?_
  intro p e s m args below meth c D cid ad A Qc G hr E
  refine ax_aload_n G d_De_becomeZero_0 rfl rfl ?_
  refine ax_iconst (v := 0) G d_De_becomeZero_1 (by decide) ?_
  refine ax_put (ci := 0) (j := 3) G d_De_becomeZero_2 rfl rfl (by decide) k_De_21 rfl rfl rfl (Nat.le_of_ble_eq_true rfl) ?_
  refine ax_aload_n G d_De_becomeZero_5 rfl rfl ?_
  refine ax_iconst (v := 1) G d_De_becomeZero_6 (by decide) ?_
  refine ax_put (ci := 0) (j := 4) G d_De_becomeZero_7 rfl rfl (by decide) k_De_24 rfl rfl rfl (Nat.le_of_ble_eq_true rfl) ?_
  exact ax_vret G hr E d_De_becomeZero_10 rfl ⟨rfl, rfl⟩

