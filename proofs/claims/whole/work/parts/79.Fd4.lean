/-! FormatDesk: clear, wrong -/
set_option maxRecDepth 20000 in
set_option maxHeartbeats 1000000 in
theorem ct_Fd_clear (l : Launch) (ac oc wa tk dd : Int32) (ar : Nat → Int64) (o : Nat → Int32) (n : Int32) (f : Nat → Int32) : ax_CT l y_Fd_clear c_Fd_clear 1 none 0 [.ref 0] (pc_Fd ac oc wa tk dd ar o ++ pc_Fo n f) (fun r h => r = none ∧ h = pc_Fd 0 oc wa tk dd ar o ++ pc_Fo 0 f) := by
  refine ax_ofV (by decide) (Nat.le_of_ble_eq_true rfl) ?_
  intro p e s m args below meth c D cid ad A Qc G hr E
  refine ax_aload_n G d_Fd_clear_0 rfl rfl ?_
  refine ax_get (ci := 5) (j := 0) G d_Fd_clear_1 rfl rfl (by decide) k_Fd_10 rfl ?_
  refine ax_iconst (v := 0) G d_Fd_clear_4 (by decide) ?_
  refine ax_putN (ci := 2) (j := 1) G d_Fd_clear_5 rfl rfl (by decide) k_Fd_58 rfl rfl rfl (Nat.le_of_ble_eq_true rfl) ?_
  refine ax_aload_n G d_Fd_clear_8 rfl rfl ?_
  refine ax_iconst (v := 0) G d_Fd_clear_9 (by decide) ?_
  refine ax_put (ci := 5) (j := 2) G d_Fd_clear_10 rfl rfl (by decide) k_Fd_20 rfl rfl rfl (Nat.le_of_ble_eq_true rfl) ?_
  exact ax_vret G hr E d_Fd_clear_13 rfl ⟨rfl, rfl⟩
set_option maxRecDepth 20000 in
set_option maxHeartbeats 1000000 in
theorem ct_Fd_wrong (l : Launch) (ac oc wa tk dd : Int32) (ar : Nat → Int64) (o : Nat → Int32) : ax_CT l y_Fd_wrong c_Fd_wrong 1 (some .int) 0 [.ref 0] (pc_Fd ac oc wa tk dd ar o) (fun r h => r = some (.int wa) ∧ h = pc_Fd ac oc wa tk dd ar o) := by
  refine ax_ofV (by decide) (Nat.le_of_ble_eq_true rfl) ?_
  intro p e s m args below meth c D cid ad A Qc G hr E
  refine ax_aload_n G d_Fd_wrong_0 rfl rfl ?_
  refine ax_get (ci := 5) (j := 5) G d_Fd_wrong_1 rfl rfl (by decide) k_Fd_31 rfl ?_
  exact ax_iret G hr E d_Fd_wrong_4 rfl ⟨rfl, rfl⟩

