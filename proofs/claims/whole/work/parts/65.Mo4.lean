/-! FormatDeskModel: sign, digit, thrown, wrong, clear, pad -/
set_option maxRecDepth 20000 in
set_option maxHeartbeats 1000000 in
theorem ct_Mo_thrown (l : Launch) (er : Int32) (le : Int32) (ma : Int32) (ou : Int32) (ta : Int32) (di : Int32) (wr : Int32) (at0 : Int32) (wi : Int32) (pr : Int32) (lf : Bool) (pl : Bool) (bl : Bool) (ha : Bool) (ze : Bool) (wt : Bool) (pt : Bool) (fr : Int32) (si : Int32) (zs : Bool) (ct : Int32) (po : Int32) : ax_CT l y_Mo_thrown c_Mo_thrown 1 (some .int) 0 [.ref 20] (pc_Mo er le ma ou ta di wr at0 wi pr lf pl bl ha ze wt pt fr si zs ct po) (fun r h => r = some (.int er) ∧ h = pc_Mo er le ma ou ta di wr at0 wi pr lf pl bl ha ze wt pt fr si zs ct po) := by
  refine ax_ofV (by decide) (Nat.le_of_ble_eq_true rfl) ?_
  intro p e s m args below meth c D cid ad A Qc G hr E
  refine ax_aload_n G d_Mo_thrown_0 rfl rfl ?_
  refine ax_get (ci := 6) (j := 0) G d_Mo_thrown_1 rfl rfl (by decide) k_Mo_39 rfl ?_
  exact ax_iret G hr E d_Mo_thrown_4 rfl ⟨rfl, rfl⟩
set_option maxRecDepth 20000 in
set_option maxHeartbeats 1000000 in
theorem ct_Mo_wrong (l : Launch) (er : Int32) (le : Int32) (ma : Int32) (ou : Int32) (ta : Int32) (di : Int32) (wr : Int32) (at0 : Int32) (wi : Int32) (pr : Int32) (lf : Bool) (pl : Bool) (bl : Bool) (ha : Bool) (ze : Bool) (wt : Bool) (pt : Bool) (fr : Int32) (si : Int32) (zs : Bool) (ct : Int32) (po : Int32) : ax_CT l y_Mo_wrong c_Mo_wrong 1 (some .int) 0 [.ref 20] (pc_Mo er le ma ou ta di wr at0 wi pr lf pl bl ha ze wt pt fr si zs ct po) (fun r h => r = some (.int wr) ∧ h = pc_Mo 0 le ma ou ta di wr at0 wi pr lf pl bl ha ze wt pt fr si zs ct po) := by
  refine ax_ofV (by decide) (Nat.le_of_ble_eq_true rfl) ?_
  intro p e s m args below meth c D cid ad A Qc G hr E
  refine ax_aload_n G d_Mo_wrong_0 rfl rfl ?_
  refine ax_iconst (v := 0) G d_Mo_wrong_1 (by decide) ?_
  refine ax_put (ci := 6) (j := 0) G d_Mo_wrong_2 rfl rfl (by decide) k_Mo_39 rfl rfl rfl (Nat.le_of_ble_eq_true rfl) ?_
  refine ax_aload_n G d_Mo_wrong_5 rfl rfl ?_
  refine ax_get (ci := 6) (j := 6) G d_Mo_wrong_6 rfl rfl (by decide) k_Mo_7 rfl ?_
  exact ax_iret G hr E d_Mo_wrong_9 rfl ⟨rfl, rfl⟩
set_option maxRecDepth 20000 in
set_option maxHeartbeats 1000000 in
theorem ct_Mo_clear (l : Launch) (er : Int32) (le : Int32) (ma : Int32) (ou : Int32) (ta : Int32) (di : Int32) (wr : Int32) (at0 : Int32) (wi : Int32) (pr : Int32) (lf : Bool) (pl : Bool) (bl : Bool) (ha : Bool) (ze : Bool) (wt : Bool) (pt : Bool) (fr : Int32) (si : Int32) (zs : Bool) (ct : Int32) (po : Int32) : ax_CT l y_Mo_clear c_Mo_clear 1 none 0 [.ref 20] (pc_Mo er le ma ou ta di wr at0 wi pr lf pl bl ha ze wt pt fr si zs ct po) (fun r h => r = none ∧ h = pc_Mo 0 0 0 ou ta di wr at0 wi pr lf pl bl ha ze wt pt fr si zs ct po) := by
  refine ax_ofV (by decide) (Nat.le_of_ble_eq_true rfl) ?_
  intro p e s m args below meth c D cid ad A Qc G hr E
  refine ax_aload_n G d_Mo_clear_0 rfl rfl ?_
  refine ax_iconst (v := 0) G d_Mo_clear_1 (by decide) ?_
  refine ax_put (ci := 6) (j := 0) G d_Mo_clear_2 rfl rfl (by decide) k_Mo_39 rfl rfl rfl (Nat.le_of_ble_eq_true rfl) ?_
  refine ax_aload_n G d_Mo_clear_5 rfl rfl ?_
  refine ax_iconst (v := 0) G d_Mo_clear_6 (by decide) ?_
  refine ax_put (ci := 6) (j := 1) G d_Mo_clear_7 rfl rfl (by decide) k_Mo_44 rfl rfl rfl (Nat.le_of_ble_eq_true rfl) ?_
  refine ax_aload_n G d_Mo_clear_10 rfl rfl ?_
  refine ax_iconst (v := 0) G d_Mo_clear_11 (by decide) ?_
  refine ax_put (ci := 6) (j := 2) G d_Mo_clear_12 rfl rfl (by decide) k_Mo_51 rfl rfl rfl (Nat.le_of_ble_eq_true rfl) ?_
  exact ax_vret G hr E d_Mo_clear_15 rfl ⟨rfl, rfl⟩
set_option maxRecDepth 20000 in
set_option maxHeartbeats 1000000 in
theorem ct_Mo_sign (l : Launch) (neg : Bool) (F : List Nat) (tf : Nat → Int32) (er : Int32) (le : Int32) (ma : Int32) (ou : Int32) (ta : Int32) (di : Int32) (wr : Int32) (at0 : Int32) (wi : Int32) (pr : Int32) (lf : Bool) (pl : Bool) (bl : Bool) (ha : Bool) (ze : Bool) (wt : Bool) (pt : Bool) (si : Int32) (zs : Bool) (ct : Int32) (po : Int32) (hF : mi_is tf F) (hl : F.length < 4) : ax_CT l y_Mo_sign c_Mo_sign 2 none 0 [.ref 20, .int (zb neg)] (pc_Mo er le ma ou ta di wr at0 wi pr lf pl bl ha ze wt pt (nI F.length) si zs ct po ++ pcT tf) (fun r h => r = none ∧ ∃ tf', h = pc_Mo er le ma ou ta di wr at0 wi pr lf pl bl ha ze wt pt (nI (F ++ sgn neg pl bl).length) si zs ct po ++ pcT tf' ∧ mi_is tf' (F ++ sgn neg pl bl)) := by
  refine ax_ofV (by decide) (Nat.le_of_ble_eq_true rfl) ?_
  intro p e s m args below meth c D cid ad A Qc G hr E
  cases neg with
  | true =>
    refine ax_iload_n G d_Mo_sign_0 rfl rfl ?_
    refine ax_if_eq (tgt := 25) G d_Mo_sign_1 (by decide) (fun c_1 => ?_) (fun c_1 => ?_)
    · exact absurd c_1 (by decide)
    · refine ax_aload_n G d_Mo_sign_4 rfl rfl ?_
      refine ax_get (ci := 6) (j := 20) G d_Mo_sign_5 rfl rfl (by decide) k_Mo_24 rfl ?_
      refine ax_aload_n G d_Mo_sign_8 rfl rfl ?_
      refine ax_dup G d_Mo_sign_9 rfl ?_
      refine ax_get (ci := 6) (j := 22) G d_Mo_sign_10 rfl rfl (by decide) k_Mo_153 rfl ?_
      refine ax_dup_x1 G d_Mo_sign_13 rfl rfl ?_
      refine ax_iconst (v := 1) G d_Mo_sign_14 (by decide) ?_
      refine ax_iadd G d_Mo_sign_15 ?_
      rw [nI_1]
      refine ax_put (ci := 6) (j := 22) G d_Mo_sign_16 rfl rfl (by decide) k_Mo_153 rfl rfl rfl (Nat.le_of_ble_eq_true rfl) ?_
      refine ax_bipush (v := 45) G d_Mo_sign_19 (by decide) ?_
      refine ax_iast G d_Mo_sign_21 rfl (vp_in_nI hl (by decide)) ?_
      rw [nI_clamp (by omega)]
      refine ax_goto (tgt := 78) G d_Mo_sign_22 (by decide) ?_
      exact ax_vret G hr E d_Mo_sign_78 rfl ⟨rfl, _, by rw [List.length_append]; rfl, mi_put hF (by decide)⟩
  | false =>
    refine ax_iload_n G d_Mo_sign_0 rfl rfl ?_
    refine ax_if_eq (tgt := 25) G d_Mo_sign_1 (by decide) (fun c_1 => ?_) (fun c_1 => ?_)
    · cases pl with
      | true =>
        refine ax_aload_n G d_Mo_sign_25 rfl rfl ?_
        refine ax_get (ci := 6) (j := 14) G d_Mo_sign_26 rfl rfl (by decide) k_Mo_73 rfl ?_
        refine ax_if_eq (tgt := 53) G d_Mo_sign_29 (by decide) (fun c_29 => ?_) (fun c_29 => ?_)
        · exact absurd c_29 (by decide)
        · refine ax_aload_n G d_Mo_sign_32 rfl rfl ?_
          refine ax_get (ci := 6) (j := 20) G d_Mo_sign_33 rfl rfl (by decide) k_Mo_24 rfl ?_
          refine ax_aload_n G d_Mo_sign_36 rfl rfl ?_
          refine ax_dup G d_Mo_sign_37 rfl ?_
          refine ax_get (ci := 6) (j := 22) G d_Mo_sign_38 rfl rfl (by decide) k_Mo_153 rfl ?_
          refine ax_dup_x1 G d_Mo_sign_41 rfl rfl ?_
          refine ax_iconst (v := 1) G d_Mo_sign_42 (by decide) ?_
          refine ax_iadd G d_Mo_sign_43 ?_
          rw [nI_1]
          refine ax_put (ci := 6) (j := 22) G d_Mo_sign_44 rfl rfl (by decide) k_Mo_153 rfl rfl rfl (Nat.le_of_ble_eq_true rfl) ?_
          refine ax_bipush (v := 43) G d_Mo_sign_47 (by decide) ?_
          refine ax_iast G d_Mo_sign_49 rfl (vp_in_nI hl (by decide)) ?_
          rw [nI_clamp (by omega)]
          refine ax_goto (tgt := 78) G d_Mo_sign_50 (by decide) ?_
          exact ax_vret G hr E d_Mo_sign_78 rfl ⟨rfl, _, by rw [List.length_append]; rfl, mi_put hF (by decide)⟩
      | false =>
        refine ax_aload_n G d_Mo_sign_25 rfl rfl ?_
        refine ax_get (ci := 6) (j := 14) G d_Mo_sign_26 rfl rfl (by decide) k_Mo_73 rfl ?_
        refine ax_if_eq (tgt := 53) G d_Mo_sign_29 (by decide) (fun c_29 => ?_) (fun c_29 => ?_)
        · cases bl with
          | true =>
            refine ax_aload_n G d_Mo_sign_53 rfl rfl ?_
            refine ax_get (ci := 6) (j := 15) G d_Mo_sign_54 rfl rfl (by decide) k_Mo_76 rfl ?_
            refine ax_if_eq (tgt := 78) G d_Mo_sign_57 (by decide) (fun c_57 => ?_) (fun c_57 => ?_)
            · exact absurd c_57 (by decide)
            · refine ax_aload_n G d_Mo_sign_60 rfl rfl ?_
              refine ax_get (ci := 6) (j := 20) G d_Mo_sign_61 rfl rfl (by decide) k_Mo_24 rfl ?_
              refine ax_aload_n G d_Mo_sign_64 rfl rfl ?_
              refine ax_dup G d_Mo_sign_65 rfl ?_
              refine ax_get (ci := 6) (j := 22) G d_Mo_sign_66 rfl rfl (by decide) k_Mo_153 rfl ?_
              refine ax_dup_x1 G d_Mo_sign_69 rfl rfl ?_
              refine ax_iconst (v := 1) G d_Mo_sign_70 (by decide) ?_
              refine ax_iadd G d_Mo_sign_71 ?_
              rw [nI_1]
              refine ax_put (ci := 6) (j := 22) G d_Mo_sign_72 rfl rfl (by decide) k_Mo_153 rfl rfl rfl (Nat.le_of_ble_eq_true rfl) ?_
              refine ax_bipush (v := 32) G d_Mo_sign_75 (by decide) ?_
              refine ax_iast G d_Mo_sign_77 rfl (vp_in_nI hl (by decide)) ?_
              rw [nI_clamp (by omega)]
              exact ax_vret G hr E d_Mo_sign_78 rfl ⟨rfl, _, by rw [List.length_append]; rfl, mi_put hF (by decide)⟩
          | false =>
            refine ax_aload_n G d_Mo_sign_53 rfl rfl ?_
            refine ax_get (ci := 6) (j := 15) G d_Mo_sign_54 rfl rfl (by decide) k_Mo_76 rfl ?_
            refine ax_if_eq (tgt := 78) G d_Mo_sign_57 (by decide) (fun c_57 => ?_) (fun c_57 => ?_)
            · exact ax_vret G hr E d_Mo_sign_78 rfl ⟨rfl, tf, by rw [List.length_append]; rfl, by rw [show sgn false false false = [] from rfl, List.append_nil]; exact hF⟩
            · exact absurd rfl c_57
        · exact absurd rfl c_29
    · exact absurd rfl c_1
set_option maxRecDepth 20000 in
set_option maxHeartbeats 1000000 in
theorem ct_Mo_digit (l : Launch) (d : Nat) (gr : Bool) (hd : d < 16) : ax_CT l y_Mo_digit c_Mo_digit 2 (some .int) 0 [.int (nI d), .int (zb gr)] [] (fun r h => r = some (.int (nI (if gr then up (hx d) else hx d))) ∧ h = []) := by
  refine ax_ofV (by decide) (Nat.le_of_ble_eq_true rfl) ?_
  intro p e s m args below meth c D cid ad A Qc G hr E
  refine ax_iload_n G d_Mo_digit_0 rfl rfl ?_
  refine ax_bipush (v := 10) G d_Mo_digit_1 (by decide) ?_
  refine ax_icmp_ge (tgt := 13) G d_Mo_digit_3 (by decide) (fun c_3 => ?_) (fun c_3 => ?_)
  · have h1 : ¬ d < 10 := fun z => nI_ge z (by decide) c_3
    cases gr with
    | true =>
      refine ax_iload_n G d_Mo_digit_13 rfl rfl ?_
      refine ax_if_eq (tgt := 22) G d_Mo_digit_14 (by decide) (fun c_14 => ?_) (fun c_14 => ?_)
      · exact absurd c_14 (by decide)
      · refine ax_bipush (v := 65) G d_Mo_digit_17 (by decide) ?_
        refine ax_goto (tgt := 24) G d_Mo_digit_19 (by decide) ?_
        refine ax_iload_n G d_Mo_digit_24 rfl rfl ?_
        refine ax_iadd G d_Mo_digit_25 ?_
        refine ax_bipush (v := 10) G d_Mo_digit_26 (by decide) ?_
        refine ax_isub G d_Mo_digit_28 ?_
        exact ax_iret G hr E d_Mo_digit_29 rfl ⟨by
          rw [if_pos rfl, show (65 : Int32) = nI 65 from rfl, nI_add, show (10 : Int32) = nI 10 from rfl, pk_sub (by omega)]
          congr 3
          unfold up hx
          rw [if_neg h1, if_pos (by omega)]
          omega, rfl⟩
    | false =>
      refine ax_iload_n G d_Mo_digit_13 rfl rfl ?_
      refine ax_if_eq (tgt := 22) G d_Mo_digit_14 (by decide) (fun c_14 => ?_) (fun c_14 => ?_)
      · refine ax_bipush (v := 97) G d_Mo_digit_22 (by decide) ?_
        refine ax_iload_n G d_Mo_digit_24 rfl rfl ?_
        refine ax_iadd G d_Mo_digit_25 ?_
        refine ax_bipush (v := 10) G d_Mo_digit_26 (by decide) ?_
        refine ax_isub G d_Mo_digit_28 ?_
        exact ax_iret G hr E d_Mo_digit_29 rfl ⟨by
          rw [if_neg (by decide), show (97 : Int32) = nI 97 from rfl, nI_add, show (10 : Int32) = nI 10 from rfl, pk_sub (by omega)]
          congr 3
          unfold hx
          rw [if_neg h1]
          omega, rfl⟩
      · exact absurd rfl c_14
  · have h1 : d < 10 := by
      rcases Nat.lt_or_ge d 10 with q | q
      · exact q
      · exact absurd (nI_le (a := 10) q (by omega)) c_3
    refine ax_bipush (v := 48) G d_Mo_digit_6 (by decide) ?_
    refine ax_iload_n G d_Mo_digit_8 rfl rfl ?_
    refine ax_iadd G d_Mo_digit_9 ?_
    refine ax_goto (tgt := 29) G d_Mo_digit_10 (by decide) ?_
    exact ax_iret G hr E d_Mo_digit_29 rfl ⟨by
      rw [show (48 : Int32) = nI 48 from rfl, nI_add]
      have e1 : hx d = 48 + d := by unfold hx; rw [if_pos h1]
      cases gr with
      | true => rw [if_pos rfl, e1]; congr 3; unfold up; rw [if_neg (by omega)]
      | false => rw [if_neg (by decide), e1], rfl⟩
set_option maxRecDepth 20000 in
set_option maxHeartbeats 1000000 in
theorem ct_Mo_pad (l : Launch) (os F B T : List Nat) (w : Nat) (u tf bf : Nat → Int32) (er : Int32) (le : Int32) (ma : Int32) (ta : Int32) (di : Int32) (wr : Int32) (at0 : Int32) (pr : Int32) (lf : Bool) (pl : Bool) (bl : Bool) (ha : Bool) (ze : Bool) (wt : Bool) (pt : Bool) (zs : Bool) (ct : Int32) (po : Int32) (hu : mi_is u os) (hF : mi_is tf F) (hB : mi_is bf B) (hol : os.length ≤ 4000) (hFl : F.length ≤ 4) (hBl : B.length ≤ 2600) (hw : w ≤ 200) (hT : T = os ++ padS lf zs w F B) : ax_CT l y_Mo_pad c_Mo_pad 3 (some .boolean) 1 [.ref 20] (pc_Mo er le ma (nI os.length) ta di wr at0 (nI w) pr lf pl bl ha ze wt pt (nI F.length) (nI B.length) zs ct po ++ pcU u ++ pcT tf ++ pcB bf) (fun r h => r = some (.int (zb (decide (T.length ≤ 4000)))) ∧ ∃ ou' u', h = pc_Mo er le ma ou' ta di wr at0 (nI w) pr lf pl bl ha ze wt pt (nI F.length) (nI B.length) zs ct po ++ pcU u' ++ pcT tf ++ pcB bf ∧ (T.length ≤ 4000 → ou' = nI T.length ∧ mi_is u' T)) := by
  refine ax_ofV (by decide) (Nat.le_of_ble_eq_true rfl) ?_
  intro p e s m args below meth c D cid ad A Qc G hr E
  unfold padS at hT
  generalize hg : w - (F.length + B.length) = g at hT
  generalize hx : nI w - nI F.length - nI B.length = x
  have hxi : x.toInt = (w : Int) - F.length - B.length := by
    rw [← hx, i32_sub _ _ (by rw [pk_sub_toInt (by omega) (by omega)]; omega) (by rw [nI_toInt (by omega)]; omega), pk_sub_toInt (by omega) (by omega), nI_toInt (by omega)]
  have hxg : ∀ i : Nat, i < 4000 → ((x ≤ nI i) ↔ g ≤ i) := fun i hi => by rw [i32_le, hxi, nI_toInt (by omega)]; omega
  have hgl : g ≤ 200 := by omega
  have done : ∀ (Y : List Nat) (u : Nat → Int32) (lv : List (Nat × Value)), Y.length ≤ 4000 → mi_is u Y → T = Y → ax_V p l e (ax_rm 1) s m args below meth c D cid ad A 3 0 0 (MQ below Qc args s 0 0 A) 184 lv [] (pc_Mo er le ma (nI Y.length) ta di wr at0 (nI w) pr lf pl bl ha ze wt pt (nI F.length) (nI B.length) zs ct po ++ pcU u ++ pcT tf ++ pcB bf) := by
    intro Y u lv hA hu hTA
    rw [hTA, decide_eq_true hA] at E
    refine ax_iconst (v := 1) G d_Mo_pad_184 (by decide) ?_
    exact ax_zret G hr E rfl d_Mo_pad_185 rfl ⟨rfl, _, _, rfl, fun _ => ⟨rfl, hu⟩⟩
  have l5 : ∀ (k i : Nat) (Y : List Nat) (u : Nat → Int32), T = Y ++ List.replicate g 32 → i + k = g → Y.length + i ≤ 4000 → mi_is u (Y ++ (List.replicate g 32).take i) → ax_V p l e (ax_rm 1) s m args below meth c D cid ad A 3 0 0 (MQ below Qc args s 0 0 A) 162 [(0, .ref 20), (1, .int x), (2, .int (nI i))] [] (pc_Mo er le ma (nI (Y ++ (List.replicate g 32).take i).length) ta di wr at0 (nI w) pr lf pl bl ha ze wt pt (nI F.length) (nI B.length) zs ct po ++ pcU u ++ pcT tf ++ pcB bf) := by
    intro k
    induction k with
    | zero =>
      intro i Y u hyp hk hb hu
      have hSl : (List.replicate g 32).length = g := List.length_replicate
      rw [List.take_of_length_le (by omega)] at hu ⊢
      refine ax_iload_n G d_Mo_pad_162 rfl rfl ?_
      refine ax_iload_n G d_Mo_pad_163 rfl rfl ?_
      refine ax_icmp_ge (tgt := 184) G d_Mo_pad_164 (by decide) (fun c_164 => ?_) (fun c_164 => ?_)
      · exact done _ u _ (by rw [List.length_append, hSl]; omega) hu hyp
      · exact absurd ((hxg i (by omega)).mpr (by omega)) c_164
    | succ k ih =>
      intro i Y u hyp hk hb hu
      have hSl : (List.replicate g 32).length = g := List.length_replicate
      have hAl : (Y ++ (List.replicate g 32).take i).length = Y.length + i := by rw [List.length_append, List.length_take]; omega
      refine ax_iload_n G d_Mo_pad_162 rfl rfl ?_
      refine ax_iload_n G d_Mo_pad_163 rfl rfl ?_
      refine ax_icmp_ge (tgt := 184) G d_Mo_pad_164 (by decide) (fun c_164 => ?_) (fun c_164 => ?_)
      · exact absurd c_164 (fun z => absurd ((hxg i (by omega)).mp z) (by omega))
      · skip
        refine ax_aload_n G d_Mo_pad_167 rfl rfl ?_
        refine ax_bipush (v := 32) G d_Mo_pad_168 (by decide) ?_
        by_cases h4 : Y.length + i < 4000
        · refine ax_callV (n := 1) G (ct_Mo_give l (Y ++ (List.replicate g 32).take i) 32 u _ _ _ _ _ _ _ _ _ _ _ _ _ _ _ _ _ _ _ _ _ hu (by omega) (by decide)) d_Mo_pad_170 rfl ⟨rfl, rfl, trivial⟩ rfl rfl rfl kc_Mo_give ⟨k_Mo_129, ki_Mo_give, ks_Mo_give, kk_Mo⟩ (by decide +kernel) rfl ⟨by decide, by decide⟩ (Nat.le_of_ble_eq_true rfl) ⟨by decide, by decide⟩ (fun r hc_ hq hk_ => ?_)
          obtain ⟨rfl, u2, rfl, hu2⟩ := hq
          have e3 : Y ++ (List.replicate g 32).take i ++ [32] = Y ++ (List.replicate g 32).take (i + 1) := by rw [List.append_assoc, tk_s (by omega), rp_at (by omega)]
          rw [e3] at hu2 ⊢
          refine ax_if_ne (tgt := 178) G d_Mo_pad_173 (by decide) (fun c_173 => ?_) (fun c_173 => ?_)
          · refine ax_iincZ (z := 1) G d_Mo_pad_178 rfl (by decide) (by decide) ?_
            refine ax_goto (tgt := 162) G d_Mo_pad_181 (by decide) ?_
            rw [nI_1]
            exact ih (i + 1) Y u2 hyp (by omega) (by omega) hu2
          · exact absurd c_173 (by decide)
        · have e4 : (Y ++ (List.replicate g 32).take i).length = 4000 := by omega
          have hbig : ¬ T.length ≤ 4000 := by rw [hyp, List.length_append]; omega
          rw [e4]
          refine ax_callV (n := 1) G (ct_Mo_giveF l (nI 32) u _ _ _ _ _ _ _ _ _ _ _ _ _ _ _ _ _ _ _ _ _) d_Mo_pad_170 rfl ⟨rfl, rfl, trivial⟩ rfl rfl rfl kc_Mo_give ⟨k_Mo_129, ki_Mo_give, ks_Mo_give, kk_Mo⟩ (by decide +kernel) rfl ⟨by decide, by decide⟩ (Nat.le_of_ble_eq_true rfl) ⟨by decide, by decide⟩ (fun r hc_ hq hk_ => ?_)
          obtain ⟨rfl, rfl⟩ := hq
          rw [decide_eq_false hbig] at E
          refine ax_if_ne (tgt := 178) G d_Mo_pad_173 (by decide) (fun c_173 => ?_) (fun c_173 => ?_)
          · exact absurd rfl c_173
          · refine ax_iconst (v := 0) G d_Mo_pad_176 (by decide) ?_
            exact ax_zret G hr E rfl d_Mo_pad_177 rfl ⟨rfl, _, _, rfl, fun z => absurd z hbig⟩
  have b5 : ∀ (Y : List Nat) (u : Nat → Int32) (lv : Value), Y.length ≤ 4000 → mi_is u Y → T = Y ++ (if lf = true then List.replicate g 32 else []) → ax_V p l e (ax_rm 1) s m args below meth c D cid ad A 3 0 0 (MQ below Qc args s 0 0 A) 153 [(0, .ref 20), (1, .int x), (2, lv)] [] (pc_Mo er le ma (nI Y.length) ta di wr at0 (nI w) pr lf pl bl ha ze wt pt (nI F.length) (nI B.length) zs ct po ++ pcU u ++ pcT tf ++ pcB bf) := by
    intro Y u lv hA hu hTA
    cases lf with
    | true =>
      refine ax_aload_n G d_Mo_pad_153 rfl rfl ?_
      refine ax_get (ci := 6) (j := 13) G d_Mo_pad_154 rfl rfl (by decide) k_Mo_69 rfl ?_
      refine ax_if_eq (tgt := 184) G d_Mo_pad_157 (by decide) (fun c_157 => ?_) (fun c_157 => ?_)
      · exact absurd c_157 (by decide)
      · refine ax_iconst (v := 0) G d_Mo_pad_160 (by decide) ?_
        refine ax_istore_n G d_Mo_pad_161 rfl (by decide) ?_
        have q := l5 g 0 Y u hTA (by omega) (by omega) (by rw [List.take_zero, List.append_nil]; exact hu)
        rw [List.take_zero, List.append_nil] at q
        exact q
    | false =>
      refine ax_aload_n G d_Mo_pad_153 rfl rfl ?_
      refine ax_get (ci := 6) (j := 13) G d_Mo_pad_154 rfl rfl (by decide) k_Mo_69 rfl ?_
      refine ax_if_eq (tgt := 184) G d_Mo_pad_157 (by decide) (fun c_157 => ?_) (fun c_157 => ?_)
      · exact done Y u _ hA hu (by rw [hTA]; exact List.append_nil Y)
      · exact absurd rfl c_157
  have l4 : ∀ (k i : Nat) (Y : List Nat) (u : Nat → Int32), T = Y ++ (B ++ (if lf = true then List.replicate g 32 else [])) → i + k = B.length → Y.length + i ≤ 4000 → mi_is u (Y ++ (B).take i) → ax_V p l e (ax_rm 1) s m args below meth c D cid ad A 3 0 0 (MQ below Qc args s 0 0 A) 124 [(0, .ref 20), (1, .int x), (2, .int (nI i))] [] (pc_Mo er le ma (nI (Y ++ (B).take i).length) ta di wr at0 (nI w) pr lf pl bl ha ze wt pt (nI F.length) (nI B.length) zs ct po ++ pcU u ++ pcT tf ++ pcB bf) := by
    intro k
    induction k with
    | zero =>
      intro i Y u hyp hk hb hu
      have hSl : (B).length = B.length := rfl
      rw [List.take_of_length_le (by omega)] at hu ⊢
      refine ax_iload_n G d_Mo_pad_124 rfl rfl ?_
      refine ax_aload_n G d_Mo_pad_125 rfl rfl ?_
      refine ax_get (ci := 6) (j := 23) G d_Mo_pad_126 rfl rfl (by decide) k_Mo_156 rfl ?_
      refine ax_icmp_ge (tgt := 153) G d_Mo_pad_129 (by decide) (fun c_129 => ?_) (fun c_129 => ?_)
      · exact b5 _ u _ (by rw [List.length_append]; omega) hu (by rw [hyp, List.append_assoc])
      · exact absurd (nI_le (by omega) (by omega)) c_129
    | succ k ih =>
      intro i Y u hyp hk hb hu
      have hSl : (B).length = B.length := rfl
      have hAl : (Y ++ (B).take i).length = Y.length + i := by rw [List.length_append, List.length_take]; omega
      refine ax_iload_n G d_Mo_pad_124 rfl rfl ?_
      refine ax_aload_n G d_Mo_pad_125 rfl rfl ?_
      refine ax_get (ci := 6) (j := 23) G d_Mo_pad_126 rfl rfl (by decide) k_Mo_156 rfl ?_
      refine ax_icmp_ge (tgt := 153) G d_Mo_pad_129 (by decide) (fun c_129 => ?_) (fun c_129 => ?_)
      · exact absurd c_129 (nI_ge (by omega) (by omega))
      · skip
        refine ax_aload_n G d_Mo_pad_132 rfl rfl ?_
        refine ax_aload_n G d_Mo_pad_133 rfl rfl ?_
        refine ax_get (ci := 6) (j := 21) G d_Mo_pad_134 rfl rfl (by decide) k_Mo_27 rfl ?_
        refine ax_iload_n G d_Mo_pad_137 rfl rfl ?_
        refine ax_iald G d_Mo_pad_138 rfl (vp_in_nI (by omega) (by decide)) ?_
        rw [nI_clamp (by omega), mi_at hB (by omega)]
        by_cases h4 : Y.length + i < 4000
        · refine ax_callV (n := 1) G (ct_Mo_give l (Y ++ (B).take i) (B.getD i 0) u _ _ _ _ _ _ _ _ _ _ _ _ _ _ _ _ _ _ _ _ _ hu (by omega) (mi_lt hB (by omega))) d_Mo_pad_139 rfl ⟨rfl, rfl, trivial⟩ rfl rfl rfl kc_Mo_give ⟨k_Mo_129, ki_Mo_give, ks_Mo_give, kk_Mo⟩ (by decide +kernel) rfl ⟨by decide, by decide⟩ (Nat.le_of_ble_eq_true rfl) ⟨by decide, by decide⟩ (fun r hc_ hq hk_ => ?_)
          obtain ⟨rfl, u2, rfl, hu2⟩ := hq
          have e3 : Y ++ (B).take i ++ [(B.getD i 0)] = Y ++ (B).take (i + 1) := by rw [List.append_assoc, tk_s (by omega)]
          rw [e3] at hu2 ⊢
          refine ax_if_ne (tgt := 147) G d_Mo_pad_142 (by decide) (fun c_142 => ?_) (fun c_142 => ?_)
          · refine ax_iincZ (z := 1) G d_Mo_pad_147 rfl (by decide) (by decide) ?_
            refine ax_goto (tgt := 124) G d_Mo_pad_150 (by decide) ?_
            rw [nI_1]
            exact ih (i + 1) Y u2 hyp (by omega) (by omega) hu2
          · exact absurd c_142 (by decide)
        · have e4 : (Y ++ (B).take i).length = 4000 := by omega
          have hbig : ¬ T.length ≤ 4000 := by rw [hyp, List.length_append, List.length_append]; omega
          rw [e4]
          refine ax_callV (n := 1) G (ct_Mo_giveF l (nI (B.getD i 0)) u _ _ _ _ _ _ _ _ _ _ _ _ _ _ _ _ _ _ _ _ _) d_Mo_pad_139 rfl ⟨rfl, rfl, trivial⟩ rfl rfl rfl kc_Mo_give ⟨k_Mo_129, ki_Mo_give, ks_Mo_give, kk_Mo⟩ (by decide +kernel) rfl ⟨by decide, by decide⟩ (Nat.le_of_ble_eq_true rfl) ⟨by decide, by decide⟩ (fun r hc_ hq hk_ => ?_)
          obtain ⟨rfl, rfl⟩ := hq
          rw [decide_eq_false hbig] at E
          refine ax_if_ne (tgt := 147) G d_Mo_pad_142 (by decide) (fun c_142 => ?_) (fun c_142 => ?_)
          · exact absurd rfl c_142
          · refine ax_iconst (v := 0) G d_Mo_pad_145 (by decide) ?_
            exact ax_zret G hr E rfl d_Mo_pad_146 rfl ⟨rfl, _, _, rfl, fun z => absurd z hbig⟩
  have b4 : ∀ (Y : List Nat) (u : Nat → Int32) (lv : Value), Y.length ≤ 4000 → mi_is u Y → T = Y ++ (B ++ (if lf = true then List.replicate g 32 else [])) → ax_V p l e (ax_rm 1) s m args below meth c D cid ad A 3 0 0 (MQ below Qc args s 0 0 A) 122 [(0, .ref 20), (1, .int x), (2, lv)] [] (pc_Mo er le ma (nI Y.length) ta di wr at0 (nI w) pr lf pl bl ha ze wt pt (nI F.length) (nI B.length) zs ct po ++ pcU u ++ pcT tf ++ pcB bf) := by
    intro Y u lv hA hu hTA
    refine ax_iconst (v := 0) G d_Mo_pad_122 (by decide) ?_
    refine ax_istore_n G d_Mo_pad_123 rfl (by decide) ?_
    have q := l4 B.length 0 Y u hTA (by omega) (by omega) (by rw [List.take_zero, List.append_nil]; exact hu)
    rw [List.take_zero, List.append_nil] at q
    exact q
  have l3 : ∀ (k i : Nat) (Y : List Nat) (u : Nat → Int32), T = Y ++ (List.replicate g 48 ++ (B ++ (if lf = true then List.replicate g 32 else []))) → i + k = g → Y.length + i ≤ 4000 → mi_is u (Y ++ (List.replicate g 48).take i) → ax_V p l e (ax_rm 1) s m args below meth c D cid ad A 3 0 0 (MQ below Qc args s 0 0 A) 100 [(0, .ref 20), (1, .int x), (2, .int (nI i))] [] (pc_Mo er le ma (nI (Y ++ (List.replicate g 48).take i).length) ta di wr at0 (nI w) pr lf pl bl ha ze wt pt (nI F.length) (nI B.length) zs ct po ++ pcU u ++ pcT tf ++ pcB bf) := by
    intro k
    induction k with
    | zero =>
      intro i Y u hyp hk hb hu
      have hSl : (List.replicate g 48).length = g := List.length_replicate
      rw [List.take_of_length_le (by omega)] at hu ⊢
      refine ax_iload_n G d_Mo_pad_100 rfl rfl ?_
      refine ax_iload_n G d_Mo_pad_101 rfl rfl ?_
      refine ax_icmp_ge (tgt := 122) G d_Mo_pad_102 (by decide) (fun c_102 => ?_) (fun c_102 => ?_)
      · exact b4 _ u _ (by rw [List.length_append, hSl]; omega) hu (by rw [hyp, List.append_assoc])
      · exact absurd ((hxg i (by omega)).mpr (by omega)) c_102
    | succ k ih =>
      intro i Y u hyp hk hb hu
      have hSl : (List.replicate g 48).length = g := List.length_replicate
      have hAl : (Y ++ (List.replicate g 48).take i).length = Y.length + i := by rw [List.length_append, List.length_take]; omega
      refine ax_iload_n G d_Mo_pad_100 rfl rfl ?_
      refine ax_iload_n G d_Mo_pad_101 rfl rfl ?_
      refine ax_icmp_ge (tgt := 122) G d_Mo_pad_102 (by decide) (fun c_102 => ?_) (fun c_102 => ?_)
      · exact absurd c_102 (fun z => absurd ((hxg i (by omega)).mp z) (by omega))
      · skip
        refine ax_aload_n G d_Mo_pad_105 rfl rfl ?_
        refine ax_bipush (v := 48) G d_Mo_pad_106 (by decide) ?_
        by_cases h4 : Y.length + i < 4000
        · refine ax_callV (n := 1) G (ct_Mo_give l (Y ++ (List.replicate g 48).take i) 48 u _ _ _ _ _ _ _ _ _ _ _ _ _ _ _ _ _ _ _ _ _ hu (by omega) (by decide)) d_Mo_pad_108 rfl ⟨rfl, rfl, trivial⟩ rfl rfl rfl kc_Mo_give ⟨k_Mo_129, ki_Mo_give, ks_Mo_give, kk_Mo⟩ (by decide +kernel) rfl ⟨by decide, by decide⟩ (Nat.le_of_ble_eq_true rfl) ⟨by decide, by decide⟩ (fun r hc_ hq hk_ => ?_)
          obtain ⟨rfl, u2, rfl, hu2⟩ := hq
          have e3 : Y ++ (List.replicate g 48).take i ++ [48] = Y ++ (List.replicate g 48).take (i + 1) := by rw [List.append_assoc, tk_s (by omega), rp_at (by omega)]
          rw [e3] at hu2 ⊢
          refine ax_if_ne (tgt := 116) G d_Mo_pad_111 (by decide) (fun c_111 => ?_) (fun c_111 => ?_)
          · refine ax_iincZ (z := 1) G d_Mo_pad_116 rfl (by decide) (by decide) ?_
            refine ax_goto (tgt := 100) G d_Mo_pad_119 (by decide) ?_
            rw [nI_1]
            exact ih (i + 1) Y u2 hyp (by omega) (by omega) hu2
          · exact absurd c_111 (by decide)
        · have e4 : (Y ++ (List.replicate g 48).take i).length = 4000 := by omega
          have hbig : ¬ T.length ≤ 4000 := by rw [hyp, List.length_append, List.length_append]; omega
          rw [e4]
          refine ax_callV (n := 1) G (ct_Mo_giveF l (nI 48) u _ _ _ _ _ _ _ _ _ _ _ _ _ _ _ _ _ _ _ _ _) d_Mo_pad_108 rfl ⟨rfl, rfl, trivial⟩ rfl rfl rfl kc_Mo_give ⟨k_Mo_129, ki_Mo_give, ks_Mo_give, kk_Mo⟩ (by decide +kernel) rfl ⟨by decide, by decide⟩ (Nat.le_of_ble_eq_true rfl) ⟨by decide, by decide⟩ (fun r hc_ hq hk_ => ?_)
          obtain ⟨rfl, rfl⟩ := hq
          rw [decide_eq_false hbig] at E
          refine ax_if_ne (tgt := 116) G d_Mo_pad_111 (by decide) (fun c_111 => ?_) (fun c_111 => ?_)
          · exact absurd rfl c_111
          · refine ax_iconst (v := 0) G d_Mo_pad_114 (by decide) ?_
            exact ax_zret G hr E rfl d_Mo_pad_115 rfl ⟨rfl, _, _, rfl, fun z => absurd z hbig⟩
  have b3 : ∀ (Y : List Nat) (u : Nat → Int32) (lv : Value), Y.length ≤ 4000 → mi_is u Y → T = Y ++ ((if (!lf && zs) = true then List.replicate g 48 else []) ++ (B ++ (if lf = true then List.replicate g 32 else []))) → ax_V p l e (ax_rm 1) s m args below meth c D cid ad A 3 0 0 (MQ below Qc args s 0 0 A) 84 [(0, .ref 20), (1, .int x), (2, lv)] [] (pc_Mo er le ma (nI Y.length) ta di wr at0 (nI w) pr lf pl bl ha ze wt pt (nI F.length) (nI B.length) zs ct po ++ pcU u ++ pcT tf ++ pcB bf) := by
    intro Y u lv hA hu hTA
    cases lf with
    | true =>
      refine ax_aload_n G d_Mo_pad_84 rfl rfl ?_
      refine ax_get (ci := 6) (j := 13) G d_Mo_pad_85 rfl rfl (by decide) k_Mo_69 rfl ?_
      refine ax_if_ne (tgt := 122) G d_Mo_pad_88 (by decide) (fun c_88 => ?_) (fun c_88 => ?_)
      · exact b4 Y u _ hA hu hTA
      · exact absurd c_88 (by decide)
    | false =>
      refine ax_aload_n G d_Mo_pad_84 rfl rfl ?_
      refine ax_get (ci := 6) (j := 13) G d_Mo_pad_85 rfl rfl (by decide) k_Mo_69 rfl ?_
      refine ax_if_ne (tgt := 122) G d_Mo_pad_88 (by decide) (fun c_88 => ?_) (fun c_88 => ?_)
      · exact absurd rfl c_88
      · cases zs with
        | true =>
          refine ax_aload_n G d_Mo_pad_91 rfl rfl ?_
          refine ax_get (ci := 6) (j := 24) G d_Mo_pad_92 rfl rfl (by decide) k_Mo_159 rfl ?_
          refine ax_if_eq (tgt := 122) G d_Mo_pad_95 (by decide) (fun c_95 => ?_) (fun c_95 => ?_)
          · exact absurd c_95 (by decide)
          · refine ax_iconst (v := 0) G d_Mo_pad_98 (by decide) ?_
            refine ax_istore_n G d_Mo_pad_99 rfl (by decide) ?_
            have q := l3 g 0 Y u hTA (by omega) (by omega) (by rw [List.take_zero, List.append_nil]; exact hu)
            rw [List.take_zero, List.append_nil] at q
            exact q
        | false =>
          refine ax_aload_n G d_Mo_pad_91 rfl rfl ?_
          refine ax_get (ci := 6) (j := 24) G d_Mo_pad_92 rfl rfl (by decide) k_Mo_159 rfl ?_
          refine ax_if_eq (tgt := 122) G d_Mo_pad_95 (by decide) (fun c_95 => ?_) (fun c_95 => ?_)
          · exact b4 Y u _ hA hu hTA
          · exact absurd rfl c_95
  have l2 : ∀ (k i : Nat) (Y : List Nat) (u : Nat → Int32), T = Y ++ (F ++ ((if (!lf && zs) = true then List.replicate g 48 else []) ++ (B ++ (if lf = true then List.replicate g 32 else [])))) → i + k = F.length → Y.length + i ≤ 4000 → mi_is u (Y ++ (F).take i) → ax_V p l e (ax_rm 1) s m args below meth c D cid ad A 3 0 0 (MQ below Qc args s 0 0 A) 55 [(0, .ref 20), (1, .int x), (2, .int (nI i))] [] (pc_Mo er le ma (nI (Y ++ (F).take i).length) ta di wr at0 (nI w) pr lf pl bl ha ze wt pt (nI F.length) (nI B.length) zs ct po ++ pcU u ++ pcT tf ++ pcB bf) := by
    intro k
    induction k with
    | zero =>
      intro i Y u hyp hk hb hu
      have hSl : (F).length = F.length := rfl
      rw [List.take_of_length_le (by omega)] at hu ⊢
      refine ax_iload_n G d_Mo_pad_55 rfl rfl ?_
      refine ax_aload_n G d_Mo_pad_56 rfl rfl ?_
      refine ax_get (ci := 6) (j := 22) G d_Mo_pad_57 rfl rfl (by decide) k_Mo_153 rfl ?_
      refine ax_icmp_ge (tgt := 84) G d_Mo_pad_60 (by decide) (fun c_60 => ?_) (fun c_60 => ?_)
      · exact b3 _ u _ (by rw [List.length_append]; omega) hu (by rw [hyp, List.append_assoc])
      · exact absurd (nI_le (by omega) (by omega)) c_60
    | succ k ih =>
      intro i Y u hyp hk hb hu
      have hSl : (F).length = F.length := rfl
      have hAl : (Y ++ (F).take i).length = Y.length + i := by rw [List.length_append, List.length_take]; omega
      refine ax_iload_n G d_Mo_pad_55 rfl rfl ?_
      refine ax_aload_n G d_Mo_pad_56 rfl rfl ?_
      refine ax_get (ci := 6) (j := 22) G d_Mo_pad_57 rfl rfl (by decide) k_Mo_153 rfl ?_
      refine ax_icmp_ge (tgt := 84) G d_Mo_pad_60 (by decide) (fun c_60 => ?_) (fun c_60 => ?_)
      · exact absurd c_60 (nI_ge (by omega) (by omega))
      · skip
        refine ax_aload_n G d_Mo_pad_63 rfl rfl ?_
        refine ax_aload_n G d_Mo_pad_64 rfl rfl ?_
        refine ax_get (ci := 6) (j := 20) G d_Mo_pad_65 rfl rfl (by decide) k_Mo_24 rfl ?_
        refine ax_iload_n G d_Mo_pad_68 rfl rfl ?_
        refine ax_iald G d_Mo_pad_69 rfl (vp_in_nI (by omega) (by decide)) ?_
        rw [nI_clamp (by omega), mi_at hF (by omega)]
        by_cases h4 : Y.length + i < 4000
        · refine ax_callV (n := 1) G (ct_Mo_give l (Y ++ (F).take i) (F.getD i 0) u _ _ _ _ _ _ _ _ _ _ _ _ _ _ _ _ _ _ _ _ _ hu (by omega) (mi_lt hF (by omega))) d_Mo_pad_70 rfl ⟨rfl, rfl, trivial⟩ rfl rfl rfl kc_Mo_give ⟨k_Mo_129, ki_Mo_give, ks_Mo_give, kk_Mo⟩ (by decide +kernel) rfl ⟨by decide, by decide⟩ (Nat.le_of_ble_eq_true rfl) ⟨by decide, by decide⟩ (fun r hc_ hq hk_ => ?_)
          obtain ⟨rfl, u2, rfl, hu2⟩ := hq
          have e3 : Y ++ (F).take i ++ [(F.getD i 0)] = Y ++ (F).take (i + 1) := by rw [List.append_assoc, tk_s (by omega)]
          rw [e3] at hu2 ⊢
          refine ax_if_ne (tgt := 78) G d_Mo_pad_73 (by decide) (fun c_73 => ?_) (fun c_73 => ?_)
          · refine ax_iincZ (z := 1) G d_Mo_pad_78 rfl (by decide) (by decide) ?_
            refine ax_goto (tgt := 55) G d_Mo_pad_81 (by decide) ?_
            rw [nI_1]
            exact ih (i + 1) Y u2 hyp (by omega) (by omega) hu2
          · exact absurd c_73 (by decide)
        · have e4 : (Y ++ (F).take i).length = 4000 := by omega
          have hbig : ¬ T.length ≤ 4000 := by rw [hyp, List.length_append, List.length_append]; omega
          rw [e4]
          refine ax_callV (n := 1) G (ct_Mo_giveF l (nI (F.getD i 0)) u _ _ _ _ _ _ _ _ _ _ _ _ _ _ _ _ _ _ _ _ _) d_Mo_pad_70 rfl ⟨rfl, rfl, trivial⟩ rfl rfl rfl kc_Mo_give ⟨k_Mo_129, ki_Mo_give, ks_Mo_give, kk_Mo⟩ (by decide +kernel) rfl ⟨by decide, by decide⟩ (Nat.le_of_ble_eq_true rfl) ⟨by decide, by decide⟩ (fun r hc_ hq hk_ => ?_)
          obtain ⟨rfl, rfl⟩ := hq
          rw [decide_eq_false hbig] at E
          refine ax_if_ne (tgt := 78) G d_Mo_pad_73 (by decide) (fun c_73 => ?_) (fun c_73 => ?_)
          · exact absurd rfl c_73
          · refine ax_iconst (v := 0) G d_Mo_pad_76 (by decide) ?_
            exact ax_zret G hr E rfl d_Mo_pad_77 rfl ⟨rfl, _, _, rfl, fun z => absurd z hbig⟩
  have b2 : ∀ (Y : List Nat) (u : Nat → Int32) (lv : List (Nat × Value)), lv = [(0, .ref 20), (1, .int x)] ∨ (∃ v, lv = [(0, .ref 20), (1, .int x), (2, v)]) → Y.length ≤ 4000 → mi_is u Y → T = Y ++ (F ++ ((if (!lf && zs) = true then List.replicate g 48 else []) ++ (B ++ (if lf = true then List.replicate g 32 else [])))) → ax_V p l e (ax_rm 1) s m args below meth c D cid ad A 3 0 0 (MQ below Qc args s 0 0 A) 53 lv [] (pc_Mo er le ma (nI Y.length) ta di wr at0 (nI w) pr lf pl bl ha ze wt pt (nI F.length) (nI B.length) zs ct po ++ pcU u ++ pcT tf ++ pcB bf) := by
    intro Y u lv hlv hA hu hTA
    have q := l2 F.length 0 Y u hTA (by omega) (by omega) (by rw [List.take_zero, List.append_nil]; exact hu)
    rw [List.take_zero, List.append_nil] at q
    rcases hlv with rfl | ⟨v, rfl⟩
    · refine ax_iconst (v := 0) G d_Mo_pad_53 (by decide) ?_
      refine ax_istore_n G d_Mo_pad_54 rfl (by decide) ?_
      exact q
    · refine ax_iconst (v := 0) G d_Mo_pad_53 (by decide) ?_
      refine ax_istore_n G d_Mo_pad_54 rfl (by decide) ?_
      exact q
  have l1 : ∀ (k i : Nat) (Y : List Nat) (u : Nat → Int32), T = Y ++ (List.replicate g 32 ++ (F ++ ((if (!lf && zs) = true then List.replicate g 48 else []) ++ (B ++ (if lf = true then List.replicate g 32 else []))))) → i + k = g → Y.length + i ≤ 4000 → mi_is u (Y ++ (List.replicate g 32).take i) → ax_V p l e (ax_rm 1) s m args below meth c D cid ad A 3 0 0 (MQ below Qc args s 0 0 A) 31 [(0, .ref 20), (1, .int x), (2, .int (nI i))] [] (pc_Mo er le ma (nI (Y ++ (List.replicate g 32).take i).length) ta di wr at0 (nI w) pr lf pl bl ha ze wt pt (nI F.length) (nI B.length) zs ct po ++ pcU u ++ pcT tf ++ pcB bf) := by
    intro k
    induction k with
    | zero =>
      intro i Y u hyp hk hb hu
      have hSl : (List.replicate g 32).length = g := List.length_replicate
      rw [List.take_of_length_le (by omega)] at hu ⊢
      refine ax_iload_n G d_Mo_pad_31 rfl rfl ?_
      refine ax_iload_n G d_Mo_pad_32 rfl rfl ?_
      refine ax_icmp_ge (tgt := 53) G d_Mo_pad_33 (by decide) (fun c_33 => ?_) (fun c_33 => ?_)
      · exact b2 _ u _ (Or.inr ⟨_, rfl⟩) (by rw [List.length_append, hSl]; omega) hu (by rw [hyp, List.append_assoc])
      · exact absurd ((hxg i (by omega)).mpr (by omega)) c_33
    | succ k ih =>
      intro i Y u hyp hk hb hu
      have hSl : (List.replicate g 32).length = g := List.length_replicate
      have hAl : (Y ++ (List.replicate g 32).take i).length = Y.length + i := by rw [List.length_append, List.length_take]; omega
      refine ax_iload_n G d_Mo_pad_31 rfl rfl ?_
      refine ax_iload_n G d_Mo_pad_32 rfl rfl ?_
      refine ax_icmp_ge (tgt := 53) G d_Mo_pad_33 (by decide) (fun c_33 => ?_) (fun c_33 => ?_)
      · exact absurd c_33 (fun z => absurd ((hxg i (by omega)).mp z) (by omega))
      · skip
        refine ax_aload_n G d_Mo_pad_36 rfl rfl ?_
        refine ax_bipush (v := 32) G d_Mo_pad_37 (by decide) ?_
        by_cases h4 : Y.length + i < 4000
        · refine ax_callV (n := 1) G (ct_Mo_give l (Y ++ (List.replicate g 32).take i) 32 u _ _ _ _ _ _ _ _ _ _ _ _ _ _ _ _ _ _ _ _ _ hu (by omega) (by decide)) d_Mo_pad_39 rfl ⟨rfl, rfl, trivial⟩ rfl rfl rfl kc_Mo_give ⟨k_Mo_129, ki_Mo_give, ks_Mo_give, kk_Mo⟩ (by decide +kernel) rfl ⟨by decide, by decide⟩ (Nat.le_of_ble_eq_true rfl) ⟨by decide, by decide⟩ (fun r hc_ hq hk_ => ?_)
          obtain ⟨rfl, u2, rfl, hu2⟩ := hq
          have e3 : Y ++ (List.replicate g 32).take i ++ [32] = Y ++ (List.replicate g 32).take (i + 1) := by rw [List.append_assoc, tk_s (by omega), rp_at (by omega)]
          rw [e3] at hu2 ⊢
          refine ax_if_ne (tgt := 47) G d_Mo_pad_42 (by decide) (fun c_42 => ?_) (fun c_42 => ?_)
          · refine ax_iincZ (z := 1) G d_Mo_pad_47 rfl (by decide) (by decide) ?_
            refine ax_goto (tgt := 31) G d_Mo_pad_50 (by decide) ?_
            rw [nI_1]
            exact ih (i + 1) Y u2 hyp (by omega) (by omega) hu2
          · exact absurd c_42 (by decide)
        · have e4 : (Y ++ (List.replicate g 32).take i).length = 4000 := by omega
          have hbig : ¬ T.length ≤ 4000 := by rw [hyp, List.length_append, List.length_append]; omega
          rw [e4]
          refine ax_callV (n := 1) G (ct_Mo_giveF l (nI 32) u _ _ _ _ _ _ _ _ _ _ _ _ _ _ _ _ _ _ _ _ _) d_Mo_pad_39 rfl ⟨rfl, rfl, trivial⟩ rfl rfl rfl kc_Mo_give ⟨k_Mo_129, ki_Mo_give, ks_Mo_give, kk_Mo⟩ (by decide +kernel) rfl ⟨by decide, by decide⟩ (Nat.le_of_ble_eq_true rfl) ⟨by decide, by decide⟩ (fun r hc_ hq hk_ => ?_)
          obtain ⟨rfl, rfl⟩ := hq
          rw [decide_eq_false hbig] at E
          refine ax_if_ne (tgt := 47) G d_Mo_pad_42 (by decide) (fun c_42 => ?_) (fun c_42 => ?_)
          · exact absurd rfl c_42
          · refine ax_iconst (v := 0) G d_Mo_pad_45 (by decide) ?_
            exact ax_zret G hr E rfl d_Mo_pad_46 rfl ⟨rfl, _, _, rfl, fun z => absurd z hbig⟩
  refine ax_aload_n G d_Mo_pad_0 rfl rfl ?_
  refine ax_get (ci := 6) (j := 11) G d_Mo_pad_1 rfl rfl (by decide) k_Mo_91 rfl ?_
  refine ax_aload_n G d_Mo_pad_4 rfl rfl ?_
  refine ax_get (ci := 6) (j := 22) G d_Mo_pad_5 rfl rfl (by decide) k_Mo_153 rfl ?_
  refine ax_isub G d_Mo_pad_8 ?_
  refine ax_aload_n G d_Mo_pad_9 rfl rfl ?_
  refine ax_get (ci := 6) (j := 23) G d_Mo_pad_10 rfl rfl (by decide) k_Mo_156 rfl ?_
  refine ax_isub G d_Mo_pad_13 ?_
  rw [hx]
  cases lf with
  | true =>
    refine ax_istore_n G d_Mo_pad_14 rfl (by decide) ?_
    refine ax_aload_n G d_Mo_pad_15 rfl rfl ?_
    refine ax_get (ci := 6) (j := 13) G d_Mo_pad_16 rfl rfl (by decide) k_Mo_69 rfl ?_
    refine ax_if_ne (tgt := 53) G d_Mo_pad_19 (by decide) (fun c_19 => ?_) (fun c_19 => ?_)
    · exact b2 os u _ (Or.inl rfl) hol hu hT
    · exact absurd c_19 (by decide)
  | false =>
    refine ax_istore_n G d_Mo_pad_14 rfl (by decide) ?_
    refine ax_aload_n G d_Mo_pad_15 rfl rfl ?_
    refine ax_get (ci := 6) (j := 13) G d_Mo_pad_16 rfl rfl (by decide) k_Mo_69 rfl ?_
    refine ax_if_ne (tgt := 53) G d_Mo_pad_19 (by decide) (fun c_19 => ?_) (fun c_19 => ?_)
    · exact absurd rfl c_19
    · cases zs with
      | true =>
        refine ax_aload_n G d_Mo_pad_22 rfl rfl ?_
        refine ax_get (ci := 6) (j := 24) G d_Mo_pad_23 rfl rfl (by decide) k_Mo_159 rfl ?_
        refine ax_if_ne (tgt := 53) G d_Mo_pad_26 (by decide) (fun c_26 => ?_) (fun c_26 => ?_)
        · exact b2 os u _ (Or.inl rfl) hol hu hT
        · exact absurd c_26 (by decide)
      | false =>
        refine ax_aload_n G d_Mo_pad_22 rfl rfl ?_
        refine ax_get (ci := 6) (j := 24) G d_Mo_pad_23 rfl rfl (by decide) k_Mo_159 rfl ?_
        refine ax_if_ne (tgt := 53) G d_Mo_pad_26 (by decide) (fun c_26 => ?_) (fun c_26 => ?_)
        · exact absurd rfl c_26
        · refine ax_iconst (v := 0) G d_Mo_pad_29 (by decide) ?_
          refine ax_istore_n G d_Mo_pad_30 rfl (by decide) ?_
          have q := l1 g 0 os u hT (by omega) (by omega) (by rw [List.take_zero, List.append_nil]; exact hu)
          rw [List.take_zero, List.append_nil] at q
          exact q

