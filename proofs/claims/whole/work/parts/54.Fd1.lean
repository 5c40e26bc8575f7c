/-! FormatDesk: small ones -/
set_option maxRecDepth 20000 in
set_option maxHeartbeats 1000000 in
theorem ct_Fd_forgetLatestRun (l : Launch) (ac oc wa tk dd : Int32) (ar : Nat → Int64) (o : Nat → Int32) : ax_CT l y_Fd_forgetLatestRun c_Fd_forgetLatestRun 1 none 0 [.ref 0] (pc_Fd ac oc wa tk dd ar o) (fun r h => r = none ∧ h = pc_Fd ac 0 (-1) 0 0 ar o) := by
  refine ax_ofV (by decide) (Nat.le_of_ble_eq_true rfl) ?_
  intro p e s m args below meth c D cid ad A Qc G hr E
  refine ax_aload_n G d_Fd_forgetLatestRun_0 rfl rfl ?_
  refine ax_iconst (v := 0) G d_Fd_forgetLatestRun_1 (by decide) ?_
  refine ax_put (ci := 5) (j := 4) G d_Fd_forgetLatestRun_2 rfl rfl (by decide) k_Fd_28 rfl rfl rfl (Nat.le_of_ble_eq_true rfl) ?_
  refine ax_aload_n G d_Fd_forgetLatestRun_5 rfl rfl ?_
  refine ax_iconst (v := (-1)) G d_Fd_forgetLatestRun_6 (by decide) ?_
  refine ax_put (ci := 5) (j := 5) G d_Fd_forgetLatestRun_7 rfl rfl (by decide) k_Fd_31 rfl rfl rfl (Nat.le_of_ble_eq_true rfl) ?_
  refine ax_aload_n G d_Fd_forgetLatestRun_10 rfl rfl ?_
  refine ax_iconst (v := 0) G d_Fd_forgetLatestRun_11 (by decide) ?_
  refine ax_put (ci := 5) (j := 6) G d_Fd_forgetLatestRun_12 rfl rfl (by decide) k_Fd_34 rfl rfl rfl (Nat.le_of_ble_eq_true rfl) ?_
  refine ax_aload_n G d_Fd_forgetLatestRun_15 rfl rfl ?_
  refine ax_iconst (v := 0) G d_Fd_forgetLatestRun_16 (by decide) ?_
  refine ax_put (ci := 5) (j := 7) G d_Fd_forgetLatestRun_17 rfl rfl (by decide) k_Fd_37 rfl rfl rfl (Nat.le_of_ble_eq_true rfl) ?_
  exact ax_vret G hr E d_Fd_forgetLatestRun_20 rfl ⟨rfl, rfl⟩
set_option maxRecDepth 20000 in
set_option maxHeartbeats 1000000 in
theorem ct_Fd_take (l : Launch) (na t : Nat) (oc wa dd : Int32) (ar : Nat → Int64) (o : Nat → Int32) (hn : na ≤ 60) (ht : t ≤ na) : ax_CT l y_Fd_take c_Fd_take 3 (some .long) 0 [.ref 0] (pc_Fd (nI na) oc wa (nI t) dd ar o) (fun r h => r = some (.long (tkv ar na t)) ∧ h = pc_Fd (nI na) oc wa (nI (tkn na t)) dd ar o) := by
  refine ax_ofV (by decide) (Nat.le_of_ble_eq_true rfl) ?_
  intro p e s m args below meth c D cid ad A Qc G hr E
  refine ax_aload_n G d_Fd_take_0 rfl rfl ?_
  refine ax_get (ci := 5) (j := 6) G d_Fd_take_1 rfl rfl (by decide) k_Fd_34 rfl ?_
  refine ax_aload_n G d_Fd_take_4 rfl rfl ?_
  refine ax_get (ci := 5) (j := 2) G d_Fd_take_5 rfl rfl (by decide) k_Fd_20 rfl ?_
  refine ax_icmp_lt (tgt := 13) G d_Fd_take_8 (by decide) (fun c_8 => ?_) (fun c_8 => ?_)
  · have hlt : t < na := (nI_ltI (by omega) (by omega)).mp c_8
    have e1 : tkv ar na t = ar t := if_pos hlt
    have e2 : tkn na t = t + 1 := if_pos hlt
    refine ax_aload_n G d_Fd_take_13 rfl rfl ?_
    refine ax_get (ci := 5) (j := 1) G d_Fd_take_14 rfl rfl (by decide) k_Fd_16 rfl ?_
    refine ax_aload_n G d_Fd_take_17 rfl rfl ?_
    refine ax_get (ci := 5) (j := 6) G d_Fd_take_18 rfl rfl (by decide) k_Fd_34 rfl ?_
    refine ax_lald G d_Fd_take_21 rfl (vp_in_nI (by omega) (by decide)) ?_
    rw [nI_clamp (by omega)]
    refine ax_lstore_n G d_Fd_take_22 rfl (by decide) ?_
    refine ax_aload_n G d_Fd_take_23 rfl rfl ?_
    refine ax_dup G d_Fd_take_24 rfl ?_
    refine ax_get (ci := 5) (j := 6) G d_Fd_take_25 rfl rfl (by decide) k_Fd_34 rfl ?_
    refine ax_iconst (v := 1) G d_Fd_take_28 (by decide) ?_
    refine ax_iadd G d_Fd_take_29 ?_
    refine ax_put (ci := 5) (j := 6) G d_Fd_take_30 rfl rfl (by decide) k_Fd_34 rfl rfl rfl (Nat.le_of_ble_eq_true rfl) ?_
    rw [nI_1]
    refine ax_lload_n G d_Fd_take_33 rfl rfl ?_
    exact ax_lret G hr E d_Fd_take_34 rfl ⟨by rw [e1], by rw [e2]; rfl⟩
  · have hge : ¬ t < na := fun z => c_8 ((nI_ltI (by omega) (by omega)).mpr z)
    have e1 : tkv ar na t = 0 := if_neg hge
    have e2 : tkn na t = t := if_neg hge
    refine ax_lconst (v := 0) G d_Fd_take_11 (by decide) ?_
    exact ax_lret G hr E d_Fd_take_12 rfl ⟨by rw [e1], by rw [e2]⟩
set_option maxRecDepth 20000 in
set_option maxHeartbeats 1000000 in
theorem ct_Fd_takeForStar (l : Launch) (na t : Nat) (oc wa dd : Int32) (ar : Nat → Int64) (o : Nat → Int32) (hn : na ≤ 60) (ht : t ≤ na) : ax_CT l y_Fd_takeForStar c_Fd_takeForStar 1 (some .int) 1 [.ref 0] (pc_Fd (nI na) oc wa (nI t) dd ar o) (fun r h => r = some (.int (Int32.ofInt (lim (tkv ar na t)))) ∧ h = pc_Fd (nI na) oc wa (nI (tkn na t)) dd ar o) := by
  refine ax_ofV (by decide) (Nat.le_of_ble_eq_true rfl) ?_
  intro p e s m args below meth c D cid ad A Qc G hr E
  refine ax_ldc2 G d_Fd_takeForStar_0 k_Fd_148 ?_
  refine ax_ldc2 G d_Fd_takeForStar_3 k_Fd_150 ?_
  refine ax_aload_n G d_Fd_takeForStar_6 rfl rfl ?_
  refine ax_callV (n := 0) G (ct_Fd_take l na t oc wa dd ar o hn ht) d_Fd_takeForStar_7 rfl ⟨rfl, rfl, rfl, trivial⟩ rfl rfl rfl kc_Fd_take ⟨k_Fd_111, ki_Fd_take, ks_Fd_take, kk_Fd⟩ (by decide +kernel) rfl ⟨by decide, by decide⟩ (Nat.le_of_ble_eq_true rfl) ⟨by decide, by decide⟩ (fun r hc_ hq hk_ => ?_)
  obtain ⟨rfl, rfl⟩ := hq
  refine ax_mminl G d_Fd_takeForStar_10 k_Fd_152 ⟨by decide, by decide⟩ (Nat.le_of_ble_eq_true rfl) ⟨by decide, by decide⟩ ?_
  refine ax_mmaxl G d_Fd_takeForStar_13 k_Fd_156 ⟨by decide, by decide⟩ (Nat.le_of_ble_eq_true rfl) ⟨by decide, by decide⟩ ?_
  refine ax_l2i G d_Fd_takeForStar_16 ?_
  rw [lim_row]
  exact ax_iret G hr E d_Fd_takeForStar_17 rfl ⟨rfl, rfl⟩
set_option maxRecDepth 20000 in
set_option maxHeartbeats 1000000 in
theorem ct_Fd_takeStars (l : Launch) (na t : Nat) (oc wa dd : Int32) (ar : Nat → Int64) (o : Nat → Int32) (lf pl bl ha ze : Bool) (w : Nat) (wt : Bool) (q : Option Nat) (pt : Bool) (kd : Int32) (gr : Bool) (pa : Int32) (hn : na ≤ 60) (ht : t ≤ na) : ax_CT l y_Fd_takeStars c_Fd_takeStars 1 none 2 [.ref 0] (pc_Fd (nI na) oc wa (nI t) dd ar o ++ pc_Di lf pl bl ha ze (nI w) wt (prI q) pt kd gr pa) (fun r h => r = none ∧ h = pc_Fd (nI na) oc wa (nI (sT pt na (sT wt na t))) dd ar o ++ pc_Di (sW wt lf w (tkv ar na t)).1 pl bl ha ze (nI (sW wt lf w (tkv ar na t)).2) wt (prI (sP pt q (tkv ar na (sT wt na t)))) pt kd gr pa) := by
  refine ax_ofV (by decide) (Nat.le_of_ble_eq_true rfl) ?_
  intro p e s m args below meth c D cid ad A Qc G hr E
  have snd : ∀ (t1 w1 : Nat) (lf1 : Bool), t1 = sT wt na t → (lf1, w1) = sW wt lf w (tkv ar na t) → ax_V p l e (ax_rm 2) s m args below meth c D cid ad A 1 0 0 (MQ below Qc args s 0 0 A) 21 [(0, .ref 0)] [] (pc_Fd (nI na) oc wa (nI t1) dd ar o ++ pc_Di lf1 pl bl ha ze (nI w1) wt (prI q) pt kd gr pa) := by
    intro t1 w1 lf1 e1 e2
    have ht1 : t1 ≤ na := by rw [e1]; exact sT_le ht
    rw [← e1, ← e2] at E
    cases pt with
    | false =>
      refine ax_aload_n G d_Fd_takeStars_21 rfl rfl ?_
      refine ax_get (ci := 5) (j := 8) G d_Fd_takeStars_22 rfl rfl (by decide) k_Fd_43 rfl ?_
      refine ax_getN (ci := 1) (j := 8) G d_Fd_takeStars_25 rfl rfl (by decide) k_Fd_142 rfl ?_
      refine ax_if_eq (tgt := 42) G d_Fd_takeStars_28 (by decide) (fun c_28 => ?_) (fun c_28 => ?_)
      · exact ax_vret G hr E d_Fd_takeStars_42 rfl ⟨rfl, rfl⟩
      · exact absurd rfl c_28
    | true =>
      have hb := lim_b (tkv ar na t1)
      refine ax_aload_n G d_Fd_takeStars_21 rfl rfl ?_
      refine ax_get (ci := 5) (j := 8) G d_Fd_takeStars_22 rfl rfl (by decide) k_Fd_43 rfl ?_
      refine ax_getN (ci := 1) (j := 8) G d_Fd_takeStars_25 rfl rfl (by decide) k_Fd_142 rfl ?_
      refine ax_if_eq (tgt := 42) G d_Fd_takeStars_28 (by decide) (fun c_28 => ?_) (fun c_28 => ?_)
      · exact absurd c_28 (by decide)
      · refine ax_aload_n G d_Fd_takeStars_31 rfl rfl ?_
        refine ax_get (ci := 5) (j := 8) G d_Fd_takeStars_32 rfl rfl (by decide) k_Fd_43 rfl ?_
        refine ax_aload_n G d_Fd_takeStars_35 rfl rfl ?_
        refine ax_callV (n := 0) G (ct_Fd_takeForStar l na t1 oc wa dd ar o hn ht1) d_Fd_takeStars_36 rfl ⟨rfl, rfl, rfl, trivial⟩ rfl rfl rfl kc_Fd_takeForStar ⟨k_Fd_135, ki_Fd_takeForStar, ks_Fd_takeForStar, kk_Fd⟩ (by decide +kernel) rfl ⟨by decide, by decide⟩ (Nat.le_of_ble_eq_true rfl) ⟨by decide, by decide⟩ (fun r hc_ hq hk_ => ?_)
        obtain ⟨rfl, rfl⟩ := hq
        refine ax_callV (n := 1) G (ct_Di_useTakenPrecision l (Int32.ofInt (lim (tkv ar na t1))) lf1 pl bl ha ze (nI w1) wt (prI q) true kd gr pa) d_Fd_takeStars_39 rfl ⟨rfl, trivial⟩ rfl rfl rfl kc_Di_useTakenPrecision ⟨k_Fd_145, ki_Di_useTakenPrecision, ks_Di_useTakenPrecision, kk_Di⟩ (by decide +kernel) rfl ⟨by decide, by decide⟩ (Nat.le_of_ble_eq_true rfl) ⟨by decide, by decide⟩ (fun r hc_ hq hk_ => ?_)
        obtain ⟨rfl, rfl⟩ := hq
        rw [ofI_pr hb.1 hb.2]
        exact ax_vret G hr E d_Fd_takeStars_42 rfl ⟨rfl, rfl⟩
  cases wt with
  | false =>
    refine ax_aload_n G d_Fd_takeStars_0 rfl rfl ?_
    refine ax_get (ci := 5) (j := 8) G d_Fd_takeStars_1 rfl rfl (by decide) k_Fd_43 rfl ?_
    refine ax_getN (ci := 1) (j := 6) G d_Fd_takeStars_4 rfl rfl (by decide) k_Fd_131 rfl ?_
    refine ax_if_eq (tgt := 21) G d_Fd_takeStars_7 (by decide) (fun c_7 => ?_) (fun c_7 => ?_)
    · exact snd t w lf rfl rfl
    · exact absurd rfl c_7
  | true =>
    have hb := lim_b (tkv ar na t)
    refine ax_aload_n G d_Fd_takeStars_0 rfl rfl ?_
    refine ax_get (ci := 5) (j := 8) G d_Fd_takeStars_1 rfl rfl (by decide) k_Fd_43 rfl ?_
    refine ax_getN (ci := 1) (j := 6) G d_Fd_takeStars_4 rfl rfl (by decide) k_Fd_131 rfl ?_
    refine ax_if_eq (tgt := 21) G d_Fd_takeStars_7 (by decide) (fun c_7 => ?_) (fun c_7 => ?_)
    · exact absurd c_7 (by decide)
    · refine ax_aload_n G d_Fd_takeStars_10 rfl rfl ?_
      refine ax_get (ci := 5) (j := 8) G d_Fd_takeStars_11 rfl rfl (by decide) k_Fd_43 rfl ?_
      refine ax_aload_n G d_Fd_takeStars_14 rfl rfl ?_
      refine ax_callV (n := 0) G (ct_Fd_takeForStar l na t oc wa dd ar o hn ht) d_Fd_takeStars_15 rfl ⟨rfl, rfl, rfl, trivial⟩ rfl rfl rfl kc_Fd_takeForStar ⟨k_Fd_135, ki_Fd_takeForStar, ks_Fd_takeForStar, kk_Fd⟩ (by decide +kernel) rfl ⟨by decide, by decide⟩ (Nat.le_of_ble_eq_true rfl) ⟨by decide, by decide⟩ (fun r hc_ hq hk_ => ?_)
      obtain ⟨rfl, rfl⟩ := hq
      refine ax_callV (n := 1) G (ct_Di_useTakenWidth l (Int32.ofInt (lim (tkv ar na t))) lf pl bl ha ze (nI w) true (prI q) pt kd gr pa) d_Fd_takeStars_18 rfl ⟨rfl, trivial⟩ rfl rfl rfl kc_Di_useTakenWidth ⟨k_Fd_138, ki_Di_useTakenWidth, ks_Di_useTakenWidth, kk_Di⟩ (by decide +kernel) rfl ⟨by decide, by decide⟩ (Nat.le_of_ble_eq_true rfl) ⟨by decide, by decide⟩ (fun r hc_ hq hk_ => ?_)
      obtain ⟨rfl, rfl⟩ := hq
      rw [ofI_abs hb.1 hb.2, show (if Int32.ofInt (lim (tkv ar na t)) < 0 then true else lf) = (lf || decide (lim (tkv ar na t) < 0)) by
        by_cases hz : lim (tkv ar na t) < 0
        · rw [if_pos ((ofI_lt hb.1 hb.2).mpr hz), decide_eq_true hz, Bool.or_true]
        · rw [if_neg (fun z => hz ((ofI_lt hb.1 hb.2).mp z)), decide_eq_false hz, Bool.or_false]]
      exact snd (tkn na t) _ _ rfl rfl
set_option maxRecDepth 20000 in
set_option maxHeartbeats 1000000 in
theorem ct_Fd_putOut (l : Launch) (os : List Nat) (c0 : Nat) (ac wa tk dd : Int32) (ar : Nat → Int64) (o : Nat → Int32) (ho : pi_is o os) (hl : os.length < 4000) (hc : c0 < 128) : ax_CT l y_Fd_putOut c_Fd_putOut 2 (some .boolean) 0 [.ref 0, .int (nI c0)] (pc_Fd ac (nI os.length) wa tk dd ar o) (fun r h => r = some (.int 1) ∧ ∃ o', h = pc_Fd ac (nI (os ++ [c0]).length) wa tk dd ar o' ∧ pi_is o' (os ++ [c0])) := by
  refine ax_ofV (by decide) (Nat.le_of_ble_eq_true rfl) ?_
  intro p e s m args below meth c D cid ad A Qc G hr E
  refine ax_aload_n G d_Fd_putOut_0 rfl rfl ?_
  refine ax_get (ci := 5) (j := 4) G d_Fd_putOut_1 rfl rfl (by decide) k_Fd_28 rfl ?_
  refine ax_sipush (v := 4000) G d_Fd_putOut_4 (by decide) ?_
  refine ax_icmp_lt (tgt := 12) G d_Fd_putOut_7 (by decide) (fun c_7 => ?_) (fun c_7 => ?_)
  · refine ax_aload_n G d_Fd_putOut_12 rfl rfl ?_
    refine ax_get (ci := 5) (j := 3) G d_Fd_putOut_13 rfl rfl (by decide) k_Fd_24 rfl ?_
    refine ax_aload_n G d_Fd_putOut_16 rfl rfl ?_
    refine ax_get (ci := 5) (j := 4) G d_Fd_putOut_17 rfl rfl (by decide) k_Fd_28 rfl ?_
    refine ax_iload_n G d_Fd_putOut_20 rfl rfl ?_
    refine ax_i2b G d_Fd_putOut_21 ?_
    refine ax_bast G d_Fd_putOut_22 rfl (vp_in_nI hl (by decide)) ?_
    rw [nI_clamp (by omega)]
    refine ax_aload_n G d_Fd_putOut_23 rfl rfl ?_
    refine ax_dup G d_Fd_putOut_24 rfl ?_
    refine ax_get (ci := 5) (j := 4) G d_Fd_putOut_25 rfl rfl (by decide) k_Fd_28 rfl ?_
    refine ax_iconst (v := 1) G d_Fd_putOut_28 (by decide) ?_
    refine ax_iadd G d_Fd_putOut_29 ?_
    refine ax_put (ci := 5) (j := 4) G d_Fd_putOut_30 rfl rfl (by decide) k_Fd_28 rfl rfl rfl (Nat.le_of_ble_eq_true rfl) ?_
    rw [nI_1]
    refine ax_iconst (v := 1) G d_Fd_putOut_33 (by decide) ?_
    exact ax_zret G hr E rfl d_Fd_putOut_34 rfl ⟨rfl, _, by rw [List.length_append]; rfl, pi_put ho hc⟩
  · exact absurd ((nI_ltI (b := 4000) (by omega) (by decide)).mpr hl) c_7
set_option maxRecDepth 20000 in
set_option maxHeartbeats 1000000 in
theorem ct_Fd_putOutF (l : Launch) (c0 : Int32) (ac wa tk dd : Int32) (ar : Nat → Int64) (o : Nat → Int32) : ax_CT l y_Fd_putOut c_Fd_putOut 2 (some .boolean) 0 [.ref 0, .int c0] (pc_Fd ac (nI 4000) wa tk dd ar o) (fun r h => r = some (.int 0) ∧ h = pc_Fd ac (nI 4000) wa tk dd ar o) := by
  refine ax_ofV (by decide) (Nat.le_of_ble_eq_true rfl) ?_
  intro p e s m args below meth c D cid ad A Qc G hr E
  refine ax_aload_n G d_Fd_putOut_0 rfl rfl ?_
  refine ax_get (ci := 5) (j := 4) G d_Fd_putOut_1 rfl rfl (by decide) k_Fd_28 rfl ?_
  refine ax_sipush (v := 4000) G d_Fd_putOut_4 (by decide) ?_
  refine ax_icmp_lt (tgt := 12) G d_Fd_putOut_7 (by decide) (fun c_7 => ?_) (fun c_7 => ?_)
  · exact absurd c_7 (by decide)
  · refine ax_iconst (v := 0) G d_Fd_putOut_10 (by decide) ?_
    exact ax_zret G hr E rfl d_Fd_putOut_11 rfl ⟨rfl, rfl⟩

