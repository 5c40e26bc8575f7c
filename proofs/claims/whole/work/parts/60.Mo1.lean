/-! FormatDeskModel: small ones -/
set_option maxRecDepth 20000 in
set_option maxHeartbeats 1000000 in
theorem ct_Mo_in (l : Launch) (x a b : Int32) : ax_CT l y_Mo_in c_Mo_in 3 (some .boolean) 0 [.int x, .int a, .int b] [] (fun r h => r = some (.int (zb (decide (a ≤ x ∧ x ≤ b)))) ∧ h = []) := by
  refine ax_ofV (by decide) (Nat.le_of_ble_eq_true rfl) ?_
  intro p e s m args below meth c D cid ad A Qc G hr E
  refine ax_iload_n G d_Mo_in_0 rfl rfl ?_
  refine ax_iload_n G d_Mo_in_1 rfl rfl ?_
  refine ax_icmp_lt (tgt := 14) G d_Mo_in_2 (by decide) (fun c_2 => ?_) (fun c_2 => ?_)
  · rw [decide_eq_false (fun q => absurd c_2 (Int32.not_lt.mpr q.1))] at E
    refine ax_iconst (v := 0) G d_Mo_in_14 (by decide) ?_
    exact ax_zret G hr E rfl d_Mo_in_15 rfl ⟨rfl, rfl⟩
  · refine ax_iload_n G d_Mo_in_5 rfl rfl ?_
    refine ax_iload_n G d_Mo_in_6 rfl rfl ?_
    refine ax_icmp_gt (tgt := 14) G d_Mo_in_7 (by decide) (fun c_7 => ?_) (fun c_7 => ?_)
    · rw [decide_eq_false (fun q => absurd c_7 (Int32.not_lt.mpr q.2))] at E
      refine ax_iconst (v := 0) G d_Mo_in_14 (by decide) ?_
      exact ax_zret G hr E rfl d_Mo_in_15 rfl ⟨rfl, rfl⟩
    · rw [decide_eq_true ⟨Int32.not_lt.mp c_2, Int32.not_lt.mp c_7⟩] at E
      refine ax_iconst (v := 1) G d_Mo_in_10 (by decide) ?_
      refine ax_goto (tgt := 15) G d_Mo_in_11 (by decide) ?_
      exact ax_zret G hr E rfl d_Mo_in_15 rfl ⟨rfl, rfl⟩
set_option maxRecDepth 20000 in
set_option maxHeartbeats 1000000 in
theorem ct_Mo_fails (l : Launch) (b : Bool) (x : Int32) (hx : ¬ x = 0) (le : Int32) (ma : Int32) (ou : Int32) (ta : Int32) (di : Int32) (wr : Int32) (at0 : Int32) (wi : Int32) (pr : Int32) (lf : Bool) (pl : Bool) (bl : Bool) (ha : Bool) (ze : Bool) (wt : Bool) (pt : Bool) (fr : Int32) (si : Int32) (zs : Bool) (ct : Int32) (po : Int32) : ax_CT l y_Mo_fails c_Mo_fails 3 (some .boolean) 0 [.ref 20, .int (zb b), .int x] (pc_Mo 0 le ma ou ta di wr at0 wi pr lf pl bl ha ze wt pt fr si zs ct po) (fun r h => r = some (.int (zb b)) ∧ h = pc_Mo (if b then x else 0) le ma ou ta di wr at0 wi pr lf pl bl ha ze wt pt fr si zs ct po) := by
  refine ax_ofV (by decide) (Nat.le_of_ble_eq_true rfl) ?_
  intro p e s m args below meth c D cid ad A Qc G hr E
  cases b with
  | false =>
    refine ax_iload_n G d_Mo_fails_0 rfl rfl ?_
    refine ax_if_eq (tgt := 16) G d_Mo_fails_1 (by decide) (fun c_1 => ?_) (fun c_1 => ?_)
    · refine ax_aload_n G d_Mo_fails_16 rfl rfl ?_
      refine ax_get (ci := 6) (j := 0) G d_Mo_fails_17 rfl rfl (by decide) k_Mo_39 rfl ?_
      refine ax_if_eq (tgt := 27) G d_Mo_fails_20 (by decide) (fun c_20 => ?_) (fun c_20 => ?_)
      · refine ax_iconst (v := 0) G d_Mo_fails_27 (by decide) ?_
        exact ax_zret G hr E rfl d_Mo_fails_28 rfl ⟨rfl, rfl⟩
      · exact absurd rfl c_20
    · exact absurd rfl c_1
  | true =>
    refine ax_iload_n G d_Mo_fails_0 rfl rfl ?_
    refine ax_if_eq (tgt := 16) G d_Mo_fails_1 (by decide) (fun c_1 => ?_) (fun c_1 => ?_)
    · exact absurd c_1 (by decide)
    · refine ax_aload_n G d_Mo_fails_4 rfl rfl ?_
      refine ax_get (ci := 6) (j := 0) G d_Mo_fails_5 rfl rfl (by decide) k_Mo_39 rfl ?_
      refine ax_if_ne (tgt := 16) G d_Mo_fails_8 (by decide) (fun c_8 => ?_) (fun c_8 => ?_)
      · exact absurd rfl c_8
      · refine ax_aload_n G d_Mo_fails_11 rfl rfl ?_
        refine ax_iload_n G d_Mo_fails_12 rfl rfl ?_
        refine ax_put (ci := 6) (j := 0) G d_Mo_fails_13 rfl rfl (by decide) k_Mo_39 rfl rfl rfl (Nat.le_of_ble_eq_true rfl) ?_
        refine ax_aload_n G d_Mo_fails_16 rfl rfl ?_
        refine ax_get (ci := 6) (j := 0) G d_Mo_fails_17 rfl rfl (by decide) k_Mo_39 rfl ?_
        refine ax_if_eq (tgt := 27) G d_Mo_fails_20 (by decide) (fun c_20 => ?_) (fun c_20 => ?_)
        · exact absurd c_20 hx
        · refine ax_iconst (v := 1) G d_Mo_fails_23 (by decide) ?_
          refine ax_goto (tgt := 28) G d_Mo_fails_24 (by decide) ?_
          exact ax_zret G hr E rfl d_Mo_fails_28 rfl ⟨rfl, rfl⟩
set_option maxRecDepth 20000 in
set_option maxHeartbeats 1000000 in
theorem ct_Mo_c (l : Launch) (n i : Nat) (f : Nat → Int32) (c0 : Nat → Nat) (er : Int32) (ma : Int32) (ou : Int32) (ta : Int32) (di : Int32) (wr : Int32) (at0 : Int32) (wi : Int32) (pr : Int32) (lf : Bool) (pl : Bool) (bl : Bool) (ha : Bool) (ze : Bool) (wt : Bool) (pt : Bool) (fr : Int32) (si : Int32) (zs : Bool) (ct : Int32) (po : Int32) (hf : mf_is f n c0) (hn : n ≤ 400) (hi : i < 2 ^ 30) : ax_CT l y_Mo_c c_Mo_c 2 (some .int) 0 [.ref 20, .int (nI i)] (pc_Mo er (nI n) ma ou ta di wr at0 wi pr lf pl bl ha ze wt pt fr si zs ct po ++ pcF f) (fun r h => r = some (.int (lI c0 n i)) ∧ h = pc_Mo er (nI n) ma ou ta di wr at0 wi pr lf pl bl ha ze wt pt fr si zs ct po ++ pcF f) := by
  refine ax_ofV (by decide) (Nat.le_of_ble_eq_true rfl) ?_
  intro p e s m args below meth c D cid ad A Qc G hr E
  unfold lI at E
  refine ax_iload_n G d_Mo_c_0 rfl rfl ?_
  refine ax_aload_n G d_Mo_c_1 rfl rfl ?_
  refine ax_get (ci := 6) (j := 1) G d_Mo_c_2 rfl rfl (by decide) k_Mo_44 rfl ?_
  refine ax_icmp_ge (tgt := 17) G d_Mo_c_5 (by decide) (fun c_5 => ?_) (fun c_5 => ?_)
  · have h1 : ¬ i < n := fun q => nI_ge q (by omega) c_5
    rw [if_neg h1] at E
    refine ax_iconst (v := (-1)) G d_Mo_c_17 (by decide) ?_
    exact ax_iret G hr E d_Mo_c_18 rfl ⟨rfl, rfl⟩
  · have h1 : i < n := by
      rcases Nat.lt_or_ge i n with q | q
      · exact q
      · exact absurd (nI_le q (by omega)) c_5
    rw [if_pos h1] at E
    refine ax_aload_n G d_Mo_c_8 rfl rfl ?_
    refine ax_get (ci := 6) (j := 7) G d_Mo_c_9 rfl rfl (by decide) k_Mo_13 rfl ?_
    refine ax_iload_n G d_Mo_c_12 rfl rfl ?_
    refine ax_iald G d_Mo_c_13 rfl (vp_in_nI (by omega) (by decide)) ?_
    rw [nI_clamp (by omega), (hf i h1).1]
    refine ax_goto (tgt := 18) G d_Mo_c_14 (by decide) ?_
    exact ax_iret G hr E d_Mo_c_18 rfl ⟨rfl, rfl⟩
set_option maxRecDepth 20000 in
set_option maxHeartbeats 1000000 in
theorem ct_Mo_bad (l : Launch) (x : Int32) (er : Int32) (le : Int32) (ma : Int32) (ou : Int32) (ta : Int32) (di : Int32) (wr : Int32) (at0 : Int32) (wi : Int32) (pr : Int32) (lf : Bool) (pl : Bool) (bl : Bool) (ha : Bool) (ze : Bool) (wt : Bool) (pt : Bool) (fr : Int32) (si : Int32) (zs : Bool) (ct : Int32) (po : Int32) : ax_CT l y_Mo_bad c_Mo_bad 2 (some .boolean) 0 [.ref 20, .int x] (pc_Mo er le ma ou ta di wr at0 wi pr lf pl bl ha ze wt pt fr si zs ct po) (fun r h => r = some (.int (zb false)) ∧ h = pc_Mo er le ma ou ta di (if wr < 0 then x else wr) at0 wi pr lf pl bl ha ze wt pt fr si zs ct po) := by
  refine ax_ofV (by decide) (Nat.le_of_ble_eq_true rfl) ?_
  intro p e s m args below meth c D cid ad A Qc G hr E
  by_cases hx : wr < 0
  · rw [if_pos hx] at E
    refine ax_aload_n G d_Mo_bad_0 rfl rfl ?_
    refine ax_get (ci := 6) (j := 6) G d_Mo_bad_1 rfl rfl (by decide) k_Mo_7 rfl ?_
    refine ax_if_ge (tgt := 12) G d_Mo_bad_4 (by decide) (fun c_4 => ?_) (fun c_4 => ?_)
    · exact absurd hx (Int32.not_lt.mpr c_4)
    · refine ax_aload_n G d_Mo_bad_7 rfl rfl ?_
      refine ax_iload_n G d_Mo_bad_8 rfl rfl ?_
      refine ax_put (ci := 6) (j := 6) G d_Mo_bad_9 rfl rfl (by decide) k_Mo_7 rfl rfl rfl (Nat.le_of_ble_eq_true rfl) ?_
      refine ax_iconst (v := 0) G d_Mo_bad_12 (by decide) ?_
      exact ax_zret G hr E rfl d_Mo_bad_13 rfl ⟨rfl, rfl⟩
  · rw [if_neg hx] at E
    refine ax_aload_n G d_Mo_bad_0 rfl rfl ?_
    refine ax_get (ci := 6) (j := 6) G d_Mo_bad_1 rfl rfl (by decide) k_Mo_7 rfl ?_
    refine ax_if_ge (tgt := 12) G d_Mo_bad_4 (by decide) (fun c_4 => ?_) (fun c_4 => ?_)
    · refine ax_iconst (v := 0) G d_Mo_bad_12 (by decide) ?_
      exact ax_zret G hr E rfl d_Mo_bad_13 rfl ⟨rfl, rfl⟩
    · exact absurd (Int32.not_lt.mp hx) c_4
set_option maxRecDepth 20000 in
set_option maxHeartbeats 1000000 in
theorem ct_Mo_next (l : Launch) (na t : Nat) (ar : Nat → Int64) (er : Int32) (le : Int32) (ou : Int32) (di : Int32) (wr : Int32) (at0 : Int32) (wi : Int32) (pr : Int32) (lf : Bool) (pl : Bool) (bl : Bool) (ha : Bool) (ze : Bool) (wt : Bool) (pt : Bool) (fr : Int32) (si : Int32) (zs : Bool) (ct : Int32) (po : Int32) (hn : na ≤ 60) (ht : t ≤ na) : ax_CT l y_Mo_next c_Mo_next 1 (some .long) 0 [.ref 20] (pc_Mo er le (nI na) ou (nI t) di wr at0 wi pr lf pl bl ha ze wt pt fr si zs ct po ++ pcA ar) (fun r h => r = some (.long (tkv ar na t)) ∧ h = pc_Mo er le (nI na) ou (nI (tkn na t)) di wr at0 wi pr lf pl bl ha ze wt pt fr si zs ct po ++ pcA ar) := by
  refine ax_ofV (by decide) (Nat.le_of_ble_eq_true rfl) ?_
  intro p e s m args below meth c D cid ad A Qc G hr E
  refine ax_aload_n G d_Mo_next_0 rfl rfl ?_
  refine ax_get (ci := 6) (j := 4) G d_Mo_next_1 rfl rfl (by decide) k_Mo_112 rfl ?_
  refine ax_aload_n G d_Mo_next_4 rfl rfl ?_
  refine ax_get (ci := 6) (j := 2) G d_Mo_next_5 rfl rfl (by decide) k_Mo_51 rfl ?_
  refine ax_icmp_ge (tgt := 30) G d_Mo_next_8 (by decide) (fun c_8 => ?_) (fun c_8 => ?_)
  · have hge : ¬ t < na := fun z => nI_ge z (by omega) c_8
    have e1 : tkv ar na t = 0 := if_neg hge
    have e2 : tkn na t = t := if_neg hge
    rw [e1, e2] at E
    refine ax_lconst (v := 0) G d_Mo_next_30 (by decide) ?_
    exact ax_lret G hr E d_Mo_next_31 rfl ⟨rfl, rfl⟩
  · have hlt : t < na := by
      rcases Nat.lt_or_ge t na with q | q
      · exact q
      · exact absurd (nI_le q (by omega)) c_8
    have e1 : tkv ar na t = ar t := if_pos hlt
    have e2 : tkn na t = t + 1 := if_pos hlt
    rw [e1, e2] at E
    refine ax_aload_n G d_Mo_next_11 rfl rfl ?_
    refine ax_get (ci := 6) (j := 9) G d_Mo_next_12 rfl rfl (by decide) k_Mo_20 rfl ?_
    refine ax_aload_n G d_Mo_next_15 rfl rfl ?_
    refine ax_dup G d_Mo_next_16 rfl ?_
    refine ax_get (ci := 6) (j := 4) G d_Mo_next_17 rfl rfl (by decide) k_Mo_112 rfl ?_
    refine ax_dup_x1 G d_Mo_next_20 rfl rfl ?_
    refine ax_iconst (v := 1) G d_Mo_next_21 (by decide) ?_
    refine ax_iadd G d_Mo_next_22 ?_
    rw [nI_1]
    refine ax_put (ci := 6) (j := 4) G d_Mo_next_23 rfl rfl (by decide) k_Mo_112 rfl rfl rfl (Nat.le_of_ble_eq_true rfl) ?_
    refine ax_lald G d_Mo_next_26 rfl (vp_in_nI (by omega) (by decide)) ?_
    rw [nI_clamp (by omega)]
    refine ax_goto (tgt := 31) G d_Mo_next_27 (by decide) ?_
    exact ax_lret G hr E d_Mo_next_31 rfl ⟨rfl, rfl⟩
set_option maxRecDepth 20000 in
set_option maxHeartbeats 1000000 in
theorem ct_Mo_limited (l : Launch) (v : Int64) : ax_CT l y_Mo_limited c_Mo_limited 2 (some .int) 0 [.long v] [] (fun r h => r = some (.int (Int32.ofInt (lim v))) ∧ h = []) := by
  refine ax_ofV (by decide) (Nat.le_of_ble_eq_true rfl) ?_
  intro p e s m args below meth c D cid ad A Qc G hr E
  have e1 : (200 : Int64).toInt = 200 := by decide +kernel
  have e2 : (-200 : Int64).toInt = -200 := by decide +kernel
  refine ax_lload_n G d_Mo_limited_0 rfl rfl ?_
  refine ax_ldc2 G d_Mo_limited_1 k_Mo_115 ?_
  refine ax_lcmp G d_Mo_limited_4 ?_
  refine ax_if_ge (tgt := 14) G d_Mo_limited_5 (by decide) (fun c_5 => ?_) (fun c_5 => ?_)
  · have g1 : -200 ≤ v.toInt := by
      have := Int64.le_iff_toInt_le.mp ((lg_cmp_ge v (-200)).mp c_5); omega
    refine ax_lload_n G d_Mo_limited_14 rfl rfl ?_
    refine ax_ldc2 G d_Mo_limited_15 k_Mo_117 ?_
    refine ax_lcmp G d_Mo_limited_18 ?_
    refine ax_if_le (tgt := 28) G d_Mo_limited_19 (by decide) (fun c_19 => ?_) (fun c_19 => ?_)
    · have g2 : v.toInt ≤ 200 := by
        have := Int64.le_iff_toInt_le.mp ((lg_cmp_le v 200).mp c_19); omega
      rw [show lim v = v.toInt by unfold lim; omega, ← l2i_small v (by omega) (by omega)] at E
      refine ax_lload_n G d_Mo_limited_28 rfl rfl ?_
      refine ax_l2i G d_Mo_limited_29 ?_
      exact ax_iret G hr E d_Mo_limited_30 rfl ⟨rfl, rfl⟩
    · have g2 : ¬ v.toInt ≤ 200 := fun q => c_19 ((lg_cmp_le v 200).mpr (Int64.le_iff_toInt_le.mpr (by omega)))
      rw [show lim v = 200 by unfold lim; omega] at E
      refine ax_sipush (v := 200) G d_Mo_limited_22 (by decide) ?_
      refine ax_goto (tgt := 30) G d_Mo_limited_25 (by decide) ?_
      exact ax_iret G hr E d_Mo_limited_30 rfl ⟨rfl, rfl⟩
  · have g1 : ¬ -200 ≤ v.toInt := fun q => c_5 ((lg_cmp_ge v (-200)).mpr (Int64.le_iff_toInt_le.mpr (by omega)))
    rw [show lim v = -200 by unfold lim; omega] at E
    refine ax_sipush (v := (-200)) G d_Mo_limited_8 (by decide) ?_
    refine ax_goto (tgt := 30) G d_Mo_limited_11 (by decide) ?_
    exact ax_iret G hr E d_Mo_limited_30 rfl ⟨rfl, rfl⟩
set_option maxRecDepth 20000 in
set_option maxHeartbeats 1000000 in
theorem ct_Mo_give (l : Launch) (os : List Nat) (c0 : Nat) (u : Nat → Int32) (er : Int32) (le : Int32) (ma : Int32) (ta : Int32) (di : Int32) (wr : Int32) (at0 : Int32) (wi : Int32) (pr : Int32) (lf : Bool) (pl : Bool) (bl : Bool) (ha : Bool) (ze : Bool) (wt : Bool) (pt : Bool) (fr : Int32) (si : Int32) (zs : Bool) (ct : Int32) (po : Int32) (ho : mi_is u os) (hl : os.length < 4000) (hc : c0 < 256) : ax_CT l y_Mo_give c_Mo_give 2 (some .boolean) 0 [.ref 20, .int (nI c0)] (pc_Mo er le ma (nI os.length) ta di wr at0 wi pr lf pl bl ha ze wt pt fr si zs ct po ++ pcU u) (fun r h => r = some (.int (zb true)) ∧ ∃ u', h = pc_Mo er le ma (nI (os ++ [c0]).length) ta di wr at0 wi pr lf pl bl ha ze wt pt fr si zs ct po ++ pcU u' ∧ mi_is u' (os ++ [c0])) := by
  refine ax_ofV (by decide) (Nat.le_of_ble_eq_true rfl) ?_
  intro p e s m args below meth c D cid ad A Qc G hr E
  refine ax_aload_n G d_Mo_give_0 rfl rfl ?_
  refine ax_get (ci := 6) (j := 3) G d_Mo_give_1 rfl rfl (by decide) k_Mo_119 rfl ?_
  refine ax_sipush (v := 4000) G d_Mo_give_4 (by decide) ?_
  refine ax_icmp_ne (tgt := 12) G d_Mo_give_7 (by decide) (fun c_7 => ?_) (fun c_7 => ?_)
  · refine ax_aload_n G d_Mo_give_12 rfl rfl ?_
    refine ax_get (ci := 6) (j := 8) G d_Mo_give_13 rfl rfl (by decide) k_Mo_17 rfl ?_
    refine ax_aload_n G d_Mo_give_16 rfl rfl ?_
    refine ax_dup G d_Mo_give_17 rfl ?_
    refine ax_get (ci := 6) (j := 3) G d_Mo_give_18 rfl rfl (by decide) k_Mo_119 rfl ?_
    refine ax_dup_x1 G d_Mo_give_21 rfl rfl ?_
    refine ax_iconst (v := 1) G d_Mo_give_22 (by decide) ?_
    refine ax_iadd G d_Mo_give_23 ?_
    rw [nI_1]
    refine ax_put (ci := 6) (j := 3) G d_Mo_give_24 rfl rfl (by decide) k_Mo_119 rfl rfl rfl (Nat.le_of_ble_eq_true rfl) ?_
    refine ax_iload_n G d_Mo_give_27 rfl rfl ?_
    refine ax_iast G d_Mo_give_28 rfl (vp_in_nI hl (by decide)) ?_
    rw [nI_clamp (by omega)]
    refine ax_iconst (v := 1) G d_Mo_give_29 (by decide) ?_
    exact ax_zret G hr E rfl d_Mo_give_30 rfl ⟨rfl, _, by rw [List.length_append]; rfl, mi_put ho hc⟩
  · exact absurd ((nI_eq (b := 4000) (by omega) (by decide)).mp c_7) (by omega)
set_option maxRecDepth 20000 in
set_option maxHeartbeats 1000000 in
theorem ct_Mo_giveF (l : Launch) (x : Int32) (u : Nat → Int32) (er : Int32) (le : Int32) (ma : Int32) (ta : Int32) (di : Int32) (wr : Int32) (at0 : Int32) (wi : Int32) (pr : Int32) (lf : Bool) (pl : Bool) (bl : Bool) (ha : Bool) (ze : Bool) (wt : Bool) (pt : Bool) (fr : Int32) (si : Int32) (zs : Bool) (ct : Int32) (po : Int32) : ax_CT l y_Mo_give c_Mo_give 2 (some .boolean) 0 [.ref 20, .int x] (pc_Mo er le ma (nI 4000) ta di wr at0 wi pr lf pl bl ha ze wt pt fr si zs ct po ++ pcU u) (fun r h => r = some (.int (zb false)) ∧ h = pc_Mo er le ma (nI 4000) ta di wr at0 wi pr lf pl bl ha ze wt pt fr si zs ct po ++ pcU u) := by
  refine ax_ofV (by decide) (Nat.le_of_ble_eq_true rfl) ?_
  intro p e s m args below meth c D cid ad A Qc G hr E
  refine ax_aload_n G d_Mo_give_0 rfl rfl ?_
  refine ax_get (ci := 6) (j := 3) G d_Mo_give_1 rfl rfl (by decide) k_Mo_119 rfl ?_
  refine ax_sipush (v := 4000) G d_Mo_give_4 (by decide) ?_
  refine ax_icmp_ne (tgt := 12) G d_Mo_give_7 (by decide) (fun c_7 => ?_) (fun c_7 => ?_)
  · exact absurd rfl c_7
  · refine ax_iconst (v := 0) G d_Mo_give_10 (by decide) ?_
    exact ax_zret G hr E rfl d_Mo_give_11 rfl ⟨rfl, rfl⟩
set_option maxRecDepth 20000 in
set_option maxHeartbeats 1000000 in
theorem ct_Mo_add (l : Launch) (bs : List Nat) (c0 : Nat) (u : Nat → Int32) (er : Int32) (le : Int32) (ma : Int32) (ou : Int32) (ta : Int32) (di : Int32) (wr : Int32) (at0 : Int32) (wi : Int32) (pr : Int32) (lf : Bool) (pl : Bool) (bl : Bool) (ha : Bool) (ze : Bool) (wt : Bool) (pt : Bool) (fr : Int32) (zs : Bool) (ct : Int32) (po : Int32) (ho : mi_is u bs) (hl : bs.length < 2600) (hc : c0 < 256) : ax_CT l y_Mo_add c_Mo_add 2 none 0 [.ref 20, .int (nI c0)] (pc_Mo er le ma ou ta di wr at0 wi pr lf pl bl ha ze wt pt fr (nI bs.length) zs ct po ++ pcB u) (fun r h => r = none ∧ ∃ u', h = pc_Mo er le ma ou ta di wr at0 wi pr lf pl bl ha ze wt pt fr (nI (bs ++ [c0]).length) zs ct po ++ pcB u' ∧ mi_is u' (bs ++ [c0])) := by
  refine ax_ofV (by decide) (Nat.le_of_ble_eq_true rfl) ?_
  intro p e s m args below meth c D cid ad A Qc G hr E
  refine ax_aload_n G d_Mo_add_0 rfl rfl ?_
  refine ax_get (ci := 6) (j := 21) G d_Mo_add_1 rfl rfl (by decide) k_Mo_27 rfl ?_
  refine ax_aload_n G d_Mo_add_4 rfl rfl ?_
  refine ax_dup G d_Mo_add_5 rfl ?_
  refine ax_get (ci := 6) (j := 23) G d_Mo_add_6 rfl rfl (by decide) k_Mo_156 rfl ?_
  refine ax_dup_x1 G d_Mo_add_9 rfl rfl ?_
  refine ax_iconst (v := 1) G d_Mo_add_10 (by decide) ?_
  refine ax_iadd G d_Mo_add_11 ?_
  rw [nI_1]
  refine ax_put (ci := 6) (j := 23) G d_Mo_add_12 rfl rfl (by decide) k_Mo_156 rfl rfl rfl (Nat.le_of_ble_eq_true rfl) ?_
  refine ax_iload_n G d_Mo_add_15 rfl rfl ?_
  refine ax_iast G d_Mo_add_16 rfl (vp_in_nI hl (by decide)) ?_
  rw [nI_clamp (by omega)]
  exact ax_vret G hr E d_Mo_add_17 rfl ⟨rfl, _, by rw [List.length_append]; rfl, mi_put ho hc⟩

