/-! constructors -/
abbrev z32 : Nat → Int32 := fun _ => 0
abbrev z64 : Nat → Int64 := fun _ => 0
set_option maxRecDepth 20000 in
set_option maxHeartbeats 1000000 in
theorem ct_Fo_init (l : Launch) : ax_CN l y_Fo_init c_Fo_init 1 none 1 1 400 [.ref 1] [(1, .inr (2, [.null, .int 0]))] [2] (fun r h => r = none ∧ h = pc_Fo 0 z32) := by
  refine ax_ofN (by decide) (Nat.le_of_ble_eq_true rfl) rfl ?_
  intro p e s m args below meth c D cid ad A Qc G hr hi E
  refine ax_aload_n G d_Fo_init_0 rfl rfl ?_
  refine ax_obj G d_Fo_init_1 ⟨k_Fo_3, wo_i, wo_c⟩ ⟨Nat.le_of_ble_eq_true rfl, Nat.le_of_ble_eq_true rfl⟩ ?_
  refine ax_aload_n G d_Fo_init_4 rfl rfl ?_
  refine ax_sipush (v := 400) G d_Fo_init_5 (by decide) ?_
  refine ax_newa (k := 2) (t := 1) (N' := 400) (a0 := (400, .inl fun _ => 0)) G d_Fo_init_8 rfl rfl wa_byte (fun _ => rfl) (by decide) (by decide) (by decide) (by decide) ⟨rfl, rfl, rfl⟩ ⟨Nat.le_of_ble_eq_true rfl, Nat.le_of_ble_eq_true rfl⟩ (fun ad_8 g_8 G => ?_)
  refine ax_putF (ci := 2) (j := 0) G hi d_Fo_init_10 rfl rfl (by decide) k_Fo_9 rfl rfl rfl rfl (Nat.le_of_ble_eq_true rfl) ?_
  refine ax_aload_n G d_Fo_init_13 rfl rfl ?_
  refine ax_iconst (v := 0) G d_Fo_init_14 (by decide) ?_
  refine ax_put (ci := 2) (j := 1) G d_Fo_init_15 rfl rfl (by decide) k_Fo_15 rfl rfl rfl (Nat.le_of_ble_eq_true rfl) ?_
  exact ax_vretN G hr E g_8 d_Fo_init_18 rfl ⟨rfl, rfl⟩ ⟨by decide, by decide⟩
set_option maxRecDepth 20000 in
set_option maxHeartbeats 1000000 in
theorem ct_Di_init (l : Launch) : ax_CN l y_Di_init c_Di_init 1 none 1 0 0 [.ref 5] (pc_Di false false false false false 0 false 0 false 0 false 0) [] (fun r h => r = none ∧ h = pc_Di false false false false false 0 false 0 false 0 false 0) := by
  refine ax_ofN (by decide) (Nat.le_of_ble_eq_true rfl) rfl ?_
  intro p e s m args below meth c D cid ad A Qc G hr hi E
  refine ax_aload_n G d_Di_init_0 rfl rfl ?_
  refine ax_obj G d_Di_init_1 ⟨k_Di_3, wo_i, wo_c⟩ ⟨Nat.le_of_ble_eq_true rfl, Nat.le_of_ble_eq_true rfl⟩ ?_
  exact ax_vretN G hr E (ax_ag_refl _ _) d_Di_init_4 rfl ⟨rfl, rfl⟩ ⟨by decide, by decide⟩
set_option maxRecDepth 20000 in
set_option maxHeartbeats 1000000 in
theorem ct_Pi_init (l : Launch) : ax_CN l y_Pi_init c_Pi_init 1 none 1 1 520 [.ref 7] [(7, .inr (3, [.null, .int 0, .int 0]))] [8] (fun r h => r = none ∧ h = pc_Pi 0 (-1) z32) := by
  refine ax_ofN (by decide) (Nat.le_of_ble_eq_true rfl) rfl ?_
  intro p e s m args below meth c D cid ad A Qc G hr hi E
  refine ax_aload_n G d_Pi_init_0 rfl rfl ?_
  refine ax_obj G d_Pi_init_1 ⟨k_Pi_3, wo_i, wo_c⟩ ⟨Nat.le_of_ble_eq_true rfl, Nat.le_of_ble_eq_true rfl⟩ ?_
  refine ax_aload_n G d_Pi_init_4 rfl rfl ?_
  refine ax_sipush (v := 520) G d_Pi_init_5 (by decide) ?_
  refine ax_newa (k := 8) (t := 1) (N' := 520) (a0 := (520, .inl fun _ => 0)) G d_Pi_init_8 rfl rfl wa_byte (fun _ => rfl) (by decide) (by decide) (by decide) (by decide) ⟨rfl, rfl, rfl⟩ ⟨Nat.le_of_ble_eq_true rfl, Nat.le_of_ble_eq_true rfl⟩ (fun ad_8 g_8 G => ?_)
  refine ax_putF (ci := 3) (j := 0) G hi d_Pi_init_10 rfl rfl (by decide) k_Pi_11 rfl rfl rfl rfl (Nat.le_of_ble_eq_true rfl) ?_
  refine ax_aload_n G d_Pi_init_13 rfl rfl ?_
  refine ax_iconst (v := 0) G d_Pi_init_14 (by decide) ?_
  refine ax_put (ci := 3) (j := 1) G d_Pi_init_15 rfl rfl (by decide) k_Pi_15 rfl rfl rfl (Nat.le_of_ble_eq_true rfl) ?_
  refine ax_aload_n G d_Pi_init_18 rfl rfl ?_
  refine ax_iconst (v := (-1)) G d_Pi_init_19 (by decide) ?_
  refine ax_put (ci := 3) (j := 2) G d_Pi_init_20 rfl rfl (by decide) k_Pi_19 rfl rfl rfl (Nat.le_of_ble_eq_true rfl) ?_
  exact ax_vretN G hr E g_8 d_Pi_init_23 rfl ⟨rfl, rfl⟩ ⟨by decide, by decide⟩
set_option maxRecDepth 20000 in
set_option maxHeartbeats 1000000 in
theorem ct_De_init (l : Launch) : ax_CN l y_De_init c_De_init 1 none 1 2 860 [.ref 9] [(9, .inr (0, [.null, .int 0, .null, .int 0, .int 0]))] [10, 11] (fun r h => r = none ∧ h = pc_De 0 0 1 z64 z32) := by
  refine ax_ofN (by decide) (Nat.le_of_ble_eq_true rfl) rfl ?_
  intro p e s m args below meth c D cid ad A Qc G hr hi E
  refine ax_aload_n G d_De_init_0 rfl rfl ?_
  refine ax_obj G d_De_init_1 ⟨k_De_1, wo_i, wo_c⟩ ⟨Nat.le_of_ble_eq_true rfl, Nat.le_of_ble_eq_true rfl⟩ ?_
  refine ax_aload_n G d_De_init_4 rfl rfl ?_
  refine ax_bipush (v := 86) G d_De_init_5 (by decide) ?_
  refine ax_newa (k := 10) (t := 2) (N' := 86) (a0 := (86, .inr (.inl fun _ => 0))) G d_De_init_7 rfl rfl wa_long (fun _ => rfl) (by decide) (by decide) (by decide) (by decide) ⟨rfl, rfl, rfl⟩ ⟨Nat.le_of_ble_eq_true rfl, Nat.le_of_ble_eq_true rfl⟩ (fun ad_7 g_7 G => ?_)
  refine ax_putF (ci := 0) (j := 0) G hi d_De_init_9 rfl rfl (by decide) k_De_9 rfl rfl rfl rfl (Nat.le_of_ble_eq_true rfl) ?_
  refine ax_aload_n G d_De_init_12 rfl rfl ?_
  refine ax_iconst (v := 0) G d_De_init_13 (by decide) ?_
  refine ax_put (ci := 0) (j := 1) G d_De_init_14 rfl rfl (by decide) k_De_13 rfl rfl rfl (Nat.le_of_ble_eq_true rfl) ?_
  refine ax_aload_n G d_De_init_17 rfl rfl ?_
  refine ax_sipush (v := 774) G d_De_init_18 (by decide) ?_
  refine ax_newa (k := 11) (t := 1) (N' := 774) (a0 := (774, .inl fun _ => 0)) G d_De_init_21 rfl rfl wa_byte (fun _ => rfl) (by decide) (by decide) (by decide) (by decide) ⟨rfl, rfl, rfl⟩ ⟨Nat.le_of_ble_eq_true rfl, Nat.le_of_ble_eq_true rfl⟩ (fun ad_21 g_21 G => ?_)
  refine ax_putF (ci := 0) (j := 2) G hi d_De_init_23 rfl rfl (by decide) k_De_17 rfl rfl rfl rfl (Nat.le_of_ble_eq_true rfl) ?_
  refine ax_aload_n G d_De_init_26 rfl rfl ?_
  refine ax_iconst (v := 0) G d_De_init_27 (by decide) ?_
  refine ax_put (ci := 0) (j := 3) G d_De_init_28 rfl rfl (by decide) k_De_21 rfl rfl rfl (Nat.le_of_ble_eq_true rfl) ?_
  refine ax_aload_n G d_De_init_31 rfl rfl ?_
  refine ax_iconst (v := 1) G d_De_init_32 (by decide) ?_
  refine ax_put (ci := 0) (j := 4) G d_De_init_33 rfl rfl (by decide) k_De_24 rfl rfl rfl (Nat.le_of_ble_eq_true rfl) ?_
  exact ax_vretN G hr E (ax_ag_tr g_7 g_21) d_De_init_36 rfl ⟨rfl, rfl⟩ ⟨by decide, by decide⟩
set_option maxRecDepth 20000 in
set_option maxHeartbeats 1000000 in
theorem ct_Wr_init (l : Launch) : ax_CN l y_Wr_init c_Wr_init 1 none 2 5 1388 [.ref 6] [(6, .inr (4, [.null, .null]))] [7, 8, 9, 10, 11] (fun r h => r = none ∧ h = pc_Wr ++ pc_Pi 0 (-1) z32 ++ pc_De 0 0 1 z64 z32) := by
  refine ax_ofN (by decide) (Nat.le_of_ble_eq_true rfl) rfl ?_
  intro p e s m args below meth c D cid ad A Qc G hr hi E
  refine ax_aload_n G d_Wr_init_0 rfl rfl ?_
  refine ax_obj G d_Wr_init_1 ⟨k_Wr_5, wo_i, wo_c⟩ ⟨Nat.le_of_ble_eq_true rfl, Nat.le_of_ble_eq_true rfl⟩ ?_
  refine ax_aload_n G d_Wr_init_4 rfl rfl ?_
  refine ax_new (k := 7) (ci := 3) (fs := [.null, .int 0, .int 0]) G d_Wr_init_5 ⟨k_Wr_11, wi_Pi, kk_Pi⟩ rfl (by decide +kernel) rfl (by decide) ⟨rfl, rfl, rfl⟩ ⟨Nat.le_of_ble_eq_true rfl, Nat.le_of_ble_eq_true rfl⟩ (fun ad_5 g_5 G => ?_)
  refine ax_dup G d_Wr_init_8 rfl ?_
  refine ax_callIN G (ct_Pi_init l) d_Wr_init_9 ⟨rfl, trivial⟩ rfl ⟨rfl, rfl, rfl⟩ (ax_kn rfl) (fun _ _ z => z.1) kc_Pi_init ⟨k_Wr_13, ki_Pi_init, kk_Pi⟩ rfl (by decide +kernel) ⟨by decide, by decide⟩ (Nat.le_of_ble_eq_true rfl) ⟨by decide, by decide⟩ (fun hc_ ad_9 g_9 G hq => ?_)
  obtain ⟨-, rfl⟩ := hq
  refine ax_putF (ci := 4) (j := 0) G hi d_Wr_init_12 rfl rfl (by decide) k_Wr_14 rfl rfl rfl rfl (Nat.le_of_ble_eq_true rfl) ?_
  refine ax_aload_n G d_Wr_init_15 rfl rfl ?_
  refine ax_new (k := 9) (ci := 0) (fs := [.null, .int 0, .null, .int 0, .int 0]) G d_Wr_init_16 ⟨k_Wr_18, wi_De, kk_De⟩ rfl (by decide +kernel) rfl (by decide) ⟨rfl, rfl, rfl⟩ ⟨Nat.le_of_ble_eq_true rfl, Nat.le_of_ble_eq_true rfl⟩ (fun ad_16 g_16 G => ?_)
  refine ax_dup G d_Wr_init_19 rfl ?_
  refine ax_callIN G (ct_De_init l) d_Wr_init_20 ⟨rfl, trivial⟩ rfl ⟨rfl, rfl, rfl⟩ (ax_kn rfl) (fun _ _ z => z.1) kc_De_init ⟨k_Wr_20, ki_De_init, kk_De⟩ rfl (by decide +kernel) ⟨by decide, by decide⟩ (Nat.le_of_ble_eq_true rfl) ⟨by decide, by decide⟩ (fun hc_ ad_20 g_20 G hq => ?_)
  obtain ⟨-, rfl⟩ := hq
  refine ax_putF (ci := 4) (j := 1) G hi d_Wr_init_23 rfl rfl (by decide) k_Wr_21 rfl rfl rfl rfl (Nat.le_of_ble_eq_true rfl) ?_
  exact ax_vretN G hr E (ax_ag_tr g_5 (ax_ag_tr g_9 (ax_ag_tr g_16 g_20))) d_Wr_init_26 rfl ⟨rfl, rfl⟩ ⟨by decide, by decide⟩
/-- the class's cells, in the order in which they are made -/
abbrev pcX (ac oc wa tk dd : Int32) (ar : Nat → Int64) (o : Nat → Int32) (n : Int32) (f : Nat → Int32) (lf pl bl ha ze : Bool) (w : Int32) (wt : Bool) (pr : Int32) (pt : Bool) (kd : Int32) (gr : Bool) (pa sz zp : Int32) (pf : Nat → Int32) (lc dc pt0 : Int32) (lm : Nat → Int64) (dg : Nat → Int32) : ax_H :=
  [(0, .inr (5, [.ref 1, .ref 3, .int ac, .ref 4, .int oc, .int wa, .int tk, .int dd, .ref 5, .ref 6])), (1, .inr (2, [.ref 2, .int n])), (2, .inl (1, 400, .inl f)), (3, .inl (2, 60, .inr (.inl ar))), (4, .inl (1, 4000, .inl o)), (5, .inr (1, [.int (zb lf), .int (zb pl), .int (zb bl), .int (zb ha), .int (zb ze), .int w, .int (zb wt), .int pr, .int (zb pt), .int kd, .int (zb gr), .int pa])), (6, .inr (4, [.ref 7, .ref 9])), (7, .inr (3, [.ref 8, .int sz, .int zp])), (8, .inl (1, 520, .inl pf)), (9, .inr (0, [.ref 10, .int lc, .ref 11, .int dc, .int pt0])), (10, .inl (2, 86, .inr (.inl lm))), (11, .inl (1, 774, .inl dg))]
set_option maxRecDepth 20000 in
set_option maxHeartbeats 1000000 in
theorem ct_Fd_init (l : Launch) : ax_CN l y_Fd_init c_Fd_init 1 none 3 11 5864 [.ref 0] [(0, .inr (5, [.null, .null, .int 0, .null, .int 0, .int 0, .int 0, .int 0, .null, .null]))] [1, 2, 3, 4, 5, 6, 7, 8, 9, 10, 11] (fun r h => r = none ∧ h = pcX 0 0 (-1) 0 0 z64 z32 0 z32 false false false false false 0 false 0 false 0 false 0 0 (-1) z32 0 0 1 z64 z32) := by
  refine ax_ofN (by decide) (Nat.le_of_ble_eq_true rfl) rfl ?_
  intro p e s m args below meth c D cid ad A Qc G hr hi E
  refine ax_aload_n G d_Fd_init_0 rfl rfl ?_
  refine ax_obj G d_Fd_init_1 ⟨k_Fd_1, wo_i, wo_c⟩ ⟨Nat.le_of_ble_eq_true rfl, Nat.le_of_ble_eq_true rfl⟩ ?_
  refine ax_aload_n G d_Fd_init_4 rfl rfl ?_
  refine ax_new (k := 1) (ci := 2) (fs := [.null, .int 0]) G d_Fd_init_5 ⟨k_Fd_7, wi_Fo, kk_Fo⟩ rfl (by decide +kernel) rfl (by decide) ⟨rfl, rfl, rfl⟩ ⟨Nat.le_of_ble_eq_true rfl, Nat.le_of_ble_eq_true rfl⟩ (fun ad_5 g_5 G => ?_)
  refine ax_dup G d_Fd_init_8 rfl ?_
  refine ax_callIN G (ct_Fo_init l) d_Fd_init_9 ⟨rfl, trivial⟩ rfl ⟨rfl, rfl, rfl⟩ (ax_kn rfl) (fun _ _ z => z.1) kc_Fo_init ⟨k_Fd_9, ki_Fo_init, kk_Fo⟩ rfl (by decide +kernel) ⟨by decide, by decide⟩ (Nat.le_of_ble_eq_true rfl) ⟨by decide, by decide⟩ (fun hc_ ad_9 g_9 G hq => ?_)
  obtain ⟨-, rfl⟩ := hq
  refine ax_putF (ci := 5) (j := 0) G hi d_Fd_init_12 rfl rfl (by decide) k_Fd_10 rfl rfl rfl rfl (Nat.le_of_ble_eq_true rfl) ?_
  refine ax_aload_n G d_Fd_init_15 rfl rfl ?_
  refine ax_bipush (v := 60) G d_Fd_init_16 (by decide) ?_
  refine ax_newa (k := 3) (t := 2) (N' := 60) (a0 := (60, .inr (.inl fun _ => 0))) G d_Fd_init_18 rfl rfl wa_long (fun _ => rfl) (by decide) (by decide) (by decide) (by decide) ⟨rfl, rfl, rfl⟩ ⟨Nat.le_of_ble_eq_true rfl, Nat.le_of_ble_eq_true rfl⟩ (fun ad_18 g_18 G => ?_)
  refine ax_putF (ci := 5) (j := 1) G hi d_Fd_init_20 rfl rfl (by decide) k_Fd_16 rfl rfl rfl rfl (Nat.le_of_ble_eq_true rfl) ?_
  refine ax_aload_n G d_Fd_init_23 rfl rfl ?_
  refine ax_iconst (v := 0) G d_Fd_init_24 (by decide) ?_
  refine ax_put (ci := 5) (j := 2) G d_Fd_init_25 rfl rfl (by decide) k_Fd_20 rfl rfl rfl (Nat.le_of_ble_eq_true rfl) ?_
  refine ax_aload_n G d_Fd_init_28 rfl rfl ?_
  refine ax_sipush (v := 4000) G d_Fd_init_29 (by decide) ?_
  refine ax_newa (k := 4) (t := 1) (N' := 4000) (a0 := (4000, .inl fun _ => 0)) G d_Fd_init_32 rfl rfl wa_byte (fun _ => rfl) (by decide) (by decide) (by decide) (by decide) ⟨rfl, rfl, rfl⟩ ⟨Nat.le_of_ble_eq_true rfl, Nat.le_of_ble_eq_true rfl⟩ (fun ad_32 g_32 G => ?_)
  refine ax_putF (ci := 5) (j := 3) G hi d_Fd_init_34 rfl rfl (by decide) k_Fd_24 rfl rfl rfl rfl (Nat.le_of_ble_eq_true rfl) ?_
  refine ax_aload_n G d_Fd_init_37 rfl rfl ?_
  refine ax_iconst (v := 0) G d_Fd_init_38 (by decide) ?_
  refine ax_put (ci := 5) (j := 4) G d_Fd_init_39 rfl rfl (by decide) k_Fd_28 rfl rfl rfl (Nat.le_of_ble_eq_true rfl) ?_
  refine ax_aload_n G d_Fd_init_42 rfl rfl ?_
  refine ax_iconst (v := (-1)) G d_Fd_init_43 (by decide) ?_
  refine ax_put (ci := 5) (j := 5) G d_Fd_init_44 rfl rfl (by decide) k_Fd_31 rfl rfl rfl (Nat.le_of_ble_eq_true rfl) ?_
  refine ax_aload_n G d_Fd_init_47 rfl rfl ?_
  refine ax_iconst (v := 0) G d_Fd_init_48 (by decide) ?_
  refine ax_put (ci := 5) (j := 6) G d_Fd_init_49 rfl rfl (by decide) k_Fd_34 rfl rfl rfl (Nat.le_of_ble_eq_true rfl) ?_
  refine ax_aload_n G d_Fd_init_52 rfl rfl ?_
  refine ax_iconst (v := 0) G d_Fd_init_53 (by decide) ?_
  refine ax_put (ci := 5) (j := 7) G d_Fd_init_54 rfl rfl (by decide) k_Fd_37 rfl rfl rfl (Nat.le_of_ble_eq_true rfl) ?_
  refine ax_aload_n G d_Fd_init_57 rfl rfl ?_
  refine ax_new (k := 5) (ci := 1) (fs := [.int 0, .int 0, .int 0, .int 0, .int 0, .int 0, .int 0, .int 0, .int 0, .int 0, .int 0, .int 0]) G d_Fd_init_58 ⟨k_Fd_40, wi_Di, kk_Di⟩ rfl (by decide +kernel) rfl (by decide) ⟨rfl, rfl, rfl⟩ ⟨Nat.le_of_ble_eq_true rfl, Nat.le_of_ble_eq_true rfl⟩ (fun ad_58 g_58 G => ?_)
  refine ax_dup G d_Fd_init_61 rfl ?_
  refine ax_callIN G (ct_Di_init l) d_Fd_init_62 ⟨rfl, trivial⟩ rfl ⟨rfl, rfl, rfl⟩ (ax_kn rfl) (fun _ _ z => z.1) kc_Di_init ⟨k_Fd_42, ki_Di_init, kk_Di⟩ rfl (by decide +kernel) ⟨by decide, by decide⟩ (Nat.le_of_ble_eq_true rfl) ⟨by decide, by decide⟩ (fun hc_ ad_62 g_62 G hq => ?_)
  obtain ⟨-, rfl⟩ := hq
  refine ax_putF (ci := 5) (j := 8) G hi d_Fd_init_65 rfl rfl (by decide) k_Fd_43 rfl rfl rfl rfl (Nat.le_of_ble_eq_true rfl) ?_
  refine ax_aload_n G d_Fd_init_68 rfl rfl ?_
  refine ax_new (k := 6) (ci := 4) (fs := [.null, .null]) G d_Fd_init_69 ⟨k_Fd_47, wi_Wr, kk_Wr⟩ rfl (by decide +kernel) rfl (by decide) ⟨rfl, rfl, rfl⟩ ⟨Nat.le_of_ble_eq_true rfl, Nat.le_of_ble_eq_true rfl⟩ (fun ad_69 g_69 G => ?_)
  refine ax_dup G d_Fd_init_72 rfl ?_
  refine ax_callIN G (ct_Wr_init l) d_Fd_init_73 ⟨rfl, trivial⟩ rfl ⟨rfl, rfl, rfl⟩ (ax_kn rfl) (fun _ _ z => z.1) kc_Wr_init ⟨k_Fd_49, ki_Wr_init, kk_Wr⟩ rfl (by decide +kernel) ⟨by decide, by decide⟩ (Nat.le_of_ble_eq_true rfl) ⟨by decide, by decide⟩ (fun hc_ ad_73 g_73 G hq => ?_)
  obtain ⟨-, rfl⟩ := hq
  refine ax_putF (ci := 5) (j := 9) G hi d_Fd_init_76 rfl rfl (by decide) k_Fd_50 rfl rfl rfl rfl (Nat.le_of_ble_eq_true rfl) ?_
  exact ax_vretN G hr E (ax_ag_tr g_5 (ax_ag_tr g_9 (ax_ag_tr g_18 (ax_ag_tr g_32 (ax_ag_tr g_58 (ax_ag_tr g_62 (ax_ag_tr g_69 g_73))))))) d_Fd_init_79 rfl ⟨rfl, rfl⟩ ⟨by decide, by decide⟩
set_option maxRecDepth 20000 in
set_option maxHeartbeats 1000000 in
theorem ct_Mo_init (l : Launch) : ax_CN l y_Mo_init c_Mo_init 1 none 1 8 9544 [.ref 20] [(20, .inr (6, [.int 0, .int 0, .int 0, .int 0, .int 0, .int 0, .int 0, .null, .null, .null, .int 0, .int 0, .int 0, .int 0, .int 0, .int 0, .int 0, .int 0, .int 0, .int 0, .null, .null, .int 0, .int 0, .int 0, .null, .null, .null, .int 0, .int 0]))] [21, 22, 23, 24, 25, 26, 27, 28] (fun r h => r = none ∧ h = pc_Mo 0 0 0 0 0 0 (-1) 0 0 0 false false false false false false false 0 0 false 0 0 ++ pcF z32 ++ pcU z32 ++ pcA z64 ++ pcT z32 ++ pcB z32 ++ pcR z32 ++ pcD z32 ++ pcO z32) := by
  refine ax_ofN (by decide) (Nat.le_of_ble_eq_true rfl) rfl ?_
  intro p e s m args below meth c D cid ad A Qc G hr hi E
  refine ax_aload_n G d_Mo_init_0 rfl rfl ?_
  refine ax_obj G d_Mo_init_1 ⟨k_Mo_1, wo_i, wo_c⟩ ⟨Nat.le_of_ble_eq_true rfl, Nat.le_of_ble_eq_true rfl⟩ ?_
  refine ax_aload_n G d_Mo_init_4 rfl rfl ?_
  refine ax_iconst (v := (-1)) G d_Mo_init_5 (by decide) ?_
  refine ax_put (ci := 6) (j := 6) G d_Mo_init_6 rfl rfl (by decide) k_Mo_7 rfl rfl rfl (Nat.le_of_ble_eq_true rfl) ?_
  refine ax_aload_n G d_Mo_init_9 rfl rfl ?_
  refine ax_sipush (v := 400) G d_Mo_init_10 (by decide) ?_
  refine ax_newa (k := 21) (t := 0) (N' := 400) (a0 := (400, .inl fun _ => 0)) G d_Mo_init_13 rfl rfl wa_int (fun _ => rfl) (by decide) (by decide) (by decide) (by decide) ⟨rfl, rfl, rfl⟩ ⟨Nat.le_of_ble_eq_true rfl, Nat.le_of_ble_eq_true rfl⟩ (fun ad_13 g_13 G => ?_)
  refine ax_putF (ci := 6) (j := 7) G hi d_Mo_init_15 rfl rfl (by decide) k_Mo_13 rfl rfl rfl rfl (Nat.le_of_ble_eq_true rfl) ?_
  refine ax_aload_n G d_Mo_init_18 rfl rfl ?_
  refine ax_sipush (v := 4000) G d_Mo_init_19 (by decide) ?_
  refine ax_newa (k := 22) (t := 0) (N' := 4000) (a0 := (4000, .inl fun _ => 0)) G d_Mo_init_22 rfl rfl wa_int (fun _ => rfl) (by decide) (by decide) (by decide) (by decide) ⟨rfl, rfl, rfl⟩ ⟨Nat.le_of_ble_eq_true rfl, Nat.le_of_ble_eq_true rfl⟩ (fun ad_22 g_22 G => ?_)
  refine ax_putF (ci := 6) (j := 8) G hi d_Mo_init_24 rfl rfl (by decide) k_Mo_17 rfl rfl rfl rfl (Nat.le_of_ble_eq_true rfl) ?_
  refine ax_aload_n G d_Mo_init_27 rfl rfl ?_
  refine ax_bipush (v := 60) G d_Mo_init_28 (by decide) ?_
  refine ax_newa (k := 23) (t := 2) (N' := 60) (a0 := (60, .inr (.inl fun _ => 0))) G d_Mo_init_30 rfl rfl wa_long (fun _ => rfl) (by decide) (by decide) (by decide) (by decide) ⟨rfl, rfl, rfl⟩ ⟨Nat.le_of_ble_eq_true rfl, Nat.le_of_ble_eq_true rfl⟩ (fun ad_30 g_30 G => ?_)
  refine ax_putF (ci := 6) (j := 9) G hi d_Mo_init_32 rfl rfl (by decide) k_Mo_20 rfl rfl rfl rfl (Nat.le_of_ble_eq_true rfl) ?_
  refine ax_aload_n G d_Mo_init_35 rfl rfl ?_
  refine ax_iconst (v := 4) G d_Mo_init_36 (by decide) ?_
  refine ax_newa (k := 24) (t := 0) (N' := 4) (a0 := (4, .inl fun _ => 0)) G d_Mo_init_37 rfl rfl wa_int (fun _ => rfl) (by decide) (by decide) (by decide) (by decide) ⟨rfl, rfl, rfl⟩ ⟨Nat.le_of_ble_eq_true rfl, Nat.le_of_ble_eq_true rfl⟩ (fun ad_37 g_37 G => ?_)
  refine ax_putF (ci := 6) (j := 20) G hi d_Mo_init_39 rfl rfl (by decide) k_Mo_24 rfl rfl rfl rfl (Nat.le_of_ble_eq_true rfl) ?_
  refine ax_aload_n G d_Mo_init_42 rfl rfl ?_
  refine ax_sipush (v := 2600) G d_Mo_init_43 (by decide) ?_
  refine ax_newa (k := 25) (t := 0) (N' := 2600) (a0 := (2600, .inl fun _ => 0)) G d_Mo_init_46 rfl rfl wa_int (fun _ => rfl) (by decide) (by decide) (by decide) (by decide) ⟨rfl, rfl, rfl⟩ ⟨Nat.le_of_ble_eq_true rfl, Nat.le_of_ble_eq_true rfl⟩ (fun ad_46 g_46 G => ?_)
  refine ax_putF (ci := 6) (j := 21) G hi d_Mo_init_48 rfl rfl (by decide) k_Mo_27 rfl rfl rfl rfl (Nat.le_of_ble_eq_true rfl) ?_
  refine ax_aload_n G d_Mo_init_51 rfl rfl ?_
  refine ax_bipush (v := 80) G d_Mo_init_52 (by decide) ?_
  refine ax_newa (k := 26) (t := 0) (N' := 80) (a0 := (80, .inl fun _ => 0)) G d_Mo_init_54 rfl rfl wa_int (fun _ => rfl) (by decide) (by decide) (by decide) (by decide) ⟨rfl, rfl, rfl⟩ ⟨Nat.le_of_ble_eq_true rfl, Nat.le_of_ble_eq_true rfl⟩ (fun ad_54 g_54 G => ?_)
  refine ax_putF (ci := 6) (j := 25) G hi d_Mo_init_56 rfl rfl (by decide) k_Mo_30 rfl rfl rfl rfl (Nat.le_of_ble_eq_true rfl) ?_
  refine ax_aload_n G d_Mo_init_59 rfl rfl ?_
  refine ax_sipush (v := 1200) G d_Mo_init_60 (by decide) ?_
  refine ax_newa (k := 27) (t := 0) (N' := 1200) (a0 := (1200, .inl fun _ => 0)) G d_Mo_init_63 rfl rfl wa_int (fun _ => rfl) (by decide) (by decide) (by decide) (by decide) ⟨rfl, rfl, rfl⟩ ⟨Nat.le_of_ble_eq_true rfl, Nat.le_of_ble_eq_true rfl⟩ (fun ad_63 g_63 G => ?_)
  refine ax_putF (ci := 6) (j := 26) G hi d_Mo_init_65 rfl rfl (by decide) k_Mo_33 rfl rfl rfl rfl (Nat.le_of_ble_eq_true rfl) ?_
  refine ax_aload_n G d_Mo_init_68 rfl rfl ?_
  refine ax_sipush (v := 1200) G d_Mo_init_69 (by decide) ?_
  refine ax_newa (k := 28) (t := 0) (N' := 1200) (a0 := (1200, .inl fun _ => 0)) G d_Mo_init_72 rfl rfl wa_int (fun _ => rfl) (by decide) (by decide) (by decide) (by decide) ⟨rfl, rfl, rfl⟩ ⟨Nat.le_of_ble_eq_true rfl, Nat.le_of_ble_eq_true rfl⟩ (fun ad_72 g_72 G => ?_)
  refine ax_putF (ci := 6) (j := 27) G hi d_Mo_init_74 rfl rfl (by decide) k_Mo_36 rfl rfl rfl rfl (Nat.le_of_ble_eq_true rfl) ?_
  exact ax_vretN G hr E (ax_ag_tr g_13 (ax_ag_tr g_22 (ax_ag_tr g_30 (ax_ag_tr g_37 (ax_ag_tr g_46 (ax_ag_tr g_54 (ax_ag_tr g_63 g_72))))))) d_Mo_init_77 rfl ⟨rfl, rfl⟩ ⟨by decide, by decide⟩

