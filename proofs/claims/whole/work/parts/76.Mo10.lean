/-! FormatDeskModel: count, letters -/
set_option maxRecDepth 20000 in
set_option maxHeartbeats 1000000 in
theorem ct_Mo_count (l : Launch) (x : Int32) (er : Int32) (le : Int32) (ma : Int32) (ou : Int32) (ta : Int32) (di : Int32) (wr : Int32) (at0 : Int32) (wi : Int32) (pr : Int32) (lf : Bool) (pl : Bool) (bl : Bool) (ha : Bool) (ze : Bool) (wt : Bool) (pt : Bool) (fr : Int32) (si : Int32) (zs : Bool) (ct : Int32) (po : Int32) : ax_CT l y_Mo_count c_Mo_count 2 (some .int) 1 [.ref 20, .int x] (pc_Mo er le ma ou ta di wr at0 wi pr lf pl bl ha ze wt pt fr si zs ct po) (fun r h => (¬ (0 ≤ x ∧ x ≤ 4) → r = some (.int 0) ∧ h = pc_Mo 1 le ma ou ta di wr at0 wi pr lf pl bl ha ze wt pt fr si zs ct po) ∧ ((0 ≤ x ∧ x ≤ 4) → r = some (.int (if x = 0 then le else if x = 1 then ma else if x = 2 then ta else if x = 3 then di else ou)) ∧ h = pc_Mo 0 le ma ou ta di wr at0 wi pr lf pl bl ha ze wt pt fr si zs ct po)) := by
  refine ax_ofV (by decide) (Nat.le_of_ble_eq_true rfl) ?_
  intro p e s m args below meth c D cid ad A Qc G hr E
  refine ax_aload_n G d_Mo_count_0 rfl rfl ?_
  refine ax_iconst (v := 0) G d_Mo_count_1 (by decide) ?_
  refine ax_put (ci := 6) (j := 0) G d_Mo_count_2 rfl rfl (by decide) k_Mo_39 rfl rfl rfl (Nat.le_of_ble_eq_true rfl) ?_
  refine ax_aload_n G d_Mo_count_5 rfl rfl ?_
  refine ax_iload_n G d_Mo_count_6 rfl rfl ?_
  refine ax_iconst (v := 0) G d_Mo_count_7 (by decide) ?_
  refine ax_iconst (v := 4) G d_Mo_count_8 (by decide) ?_
  refine ax_callS (n := 3) G (ct_Mo_in l x 0 4) d_Mo_count_9 rfl trivial rfl kc_Mo_in ⟨k_Mo_61, kt_Mo_in, kk_Mo⟩ (by decide +kernel) rfl ⟨by decide, by decide⟩ (Nat.le_of_ble_eq_true rfl) ⟨by decide, by decide⟩ (fun r hc_ hq hk_ => ?_)
  obtain ⟨rfl, rfl⟩ := hq
  by_cases hx : 0 ≤ x ∧ x ≤ 4
  · rw [decide_eq_true hx]
    refine ax_if_ne (tgt := 19) G d_Mo_count_12 (by decide) (fun c_12 => ?_) (fun c_12 => ?_)
    · refine ax_iconst (v := 0) G d_Mo_count_19 (by decide) ?_
      refine ax_iconst (v := 1) G d_Mo_count_20 (by decide) ?_
      refine ax_callV (n := 2) G (ct_Mo_fails l false 1 (by decide) _ _ _ _ _ _ _ _ _ _ _ _ _ _ _ _ _ _ _ _ _) d_Mo_count_21 rfl ⟨rfl, trivial⟩ rfl rfl rfl kc_Mo_fails ⟨k_Mo_47, ki_Mo_fails, ks_Mo_fails, kk_Mo⟩ (by decide +kernel) rfl ⟨by decide, by decide⟩ (Nat.le_of_ble_eq_true rfl) ⟨by decide, by decide⟩ (fun r hc_ hq hk_ => ?_)
      obtain ⟨rfl, rfl⟩ := hq
      refine ax_if_eq (tgt := 29) G d_Mo_count_24 (by decide) (fun c_24 => ?_) (fun c_24 => ?_)
      · refine ax_iload_n G d_Mo_count_29 rfl rfl ?_
        refine ax_if_ne (tgt := 40) G d_Mo_count_30 (by decide) (fun c_30 => ?_) (fun c_30 => ?_)
        · refine ax_iload_n G d_Mo_count_40 rfl rfl ?_
          refine ax_iconst (v := 1) G d_Mo_count_41 (by decide) ?_
          refine ax_icmp_ne (tgt := 52) G d_Mo_count_42 (by decide) (fun c_42 => ?_) (fun c_42 => ?_)
          · refine ax_iload_n G d_Mo_count_52 rfl rfl ?_
            refine ax_iconst (v := 2) G d_Mo_count_53 (by decide) ?_
            refine ax_icmp_ne (tgt := 64) G d_Mo_count_54 (by decide) (fun c_54 => ?_) (fun c_54 => ?_)
            · refine ax_iload_n G d_Mo_count_64 rfl rfl ?_
              refine ax_iconst (v := 3) G d_Mo_count_65 (by decide) ?_
              refine ax_icmp_ne (tgt := 76) G d_Mo_count_66 (by decide) (fun c_66 => ?_) (fun c_66 => ?_)
              · refine ax_aload_n G d_Mo_count_76 rfl rfl ?_
                refine ax_get (ci := 6) (j := 3) G d_Mo_count_77 rfl rfl (by decide) k_Mo_119 rfl ?_
                exact ax_iret G hr E d_Mo_count_80 rfl ⟨fun z => absurd hx z, fun _ => ⟨by rw [if_neg c_30, if_neg c_42, if_neg c_54, if_neg c_66], rfl⟩⟩
              · refine ax_aload_n G d_Mo_count_69 rfl rfl ?_
                refine ax_get (ci := 6) (j := 5) G d_Mo_count_70 rfl rfl (by decide) k_Mo_122 rfl ?_
                refine ax_goto (tgt := 80) G d_Mo_count_73 (by decide) ?_
                exact ax_iret G hr E d_Mo_count_80 rfl ⟨fun z => absurd hx z, fun _ => ⟨by rw [if_neg c_30, if_neg c_42, if_neg c_54, if_pos c_66], rfl⟩⟩
            · refine ax_aload_n G d_Mo_count_57 rfl rfl ?_
              refine ax_get (ci := 6) (j := 4) G d_Mo_count_58 rfl rfl (by decide) k_Mo_112 rfl ?_
              refine ax_goto (tgt := 80) G d_Mo_count_61 (by decide) ?_
              exact ax_iret G hr E d_Mo_count_80 rfl ⟨fun z => absurd hx z, fun _ => ⟨by rw [if_neg c_30, if_neg c_42, if_pos c_54], rfl⟩⟩
          · refine ax_aload_n G d_Mo_count_45 rfl rfl ?_
            refine ax_get (ci := 6) (j := 2) G d_Mo_count_46 rfl rfl (by decide) k_Mo_51 rfl ?_
            refine ax_goto (tgt := 80) G d_Mo_count_49 (by decide) ?_
            exact ax_iret G hr E d_Mo_count_80 rfl ⟨fun z => absurd hx z, fun _ => ⟨by rw [if_neg c_30, if_pos c_42], rfl⟩⟩
        · refine ax_aload_n G d_Mo_count_33 rfl rfl ?_
          refine ax_get (ci := 6) (j := 1) G d_Mo_count_34 rfl rfl (by decide) k_Mo_44 rfl ?_
          refine ax_goto (tgt := 80) G d_Mo_count_37 (by decide) ?_
          exact ax_iret G hr E d_Mo_count_80 rfl ⟨fun z => absurd hx z, fun _ => ⟨by rw [if_pos c_30], rfl⟩⟩
      · exact absurd rfl c_24
    · exact absurd c_12 (by decide)
  · rw [decide_eq_false hx]
    refine ax_if_ne (tgt := 19) G d_Mo_count_12 (by decide) (fun c_12 => ?_) (fun c_12 => ?_)
    · exact absurd rfl c_12
    · refine ax_iconst (v := 1) G d_Mo_count_15 (by decide) ?_
      refine ax_goto (tgt := 20) G d_Mo_count_16 (by decide) ?_
      refine ax_iconst (v := 1) G d_Mo_count_20 (by decide) ?_
      refine ax_callV (n := 2) G (ct_Mo_fails l true 1 (by decide) _ _ _ _ _ _ _ _ _ _ _ _ _ _ _ _ _ _ _ _ _) d_Mo_count_21 rfl ⟨rfl, trivial⟩ rfl rfl rfl kc_Mo_fails ⟨k_Mo_47, ki_Mo_fails, ks_Mo_fails, kk_Mo⟩ (by decide +kernel) rfl ⟨by decide, by decide⟩ (Nat.le_of_ble_eq_true rfl) ⟨by decide, by decide⟩ (fun r hc_ hq hk_ => ?_)
      obtain ⟨rfl, rfl⟩ := hq
      refine ax_if_eq (tgt := 29) G d_Mo_count_24 (by decide) (fun c_24 => ?_) (fun c_24 => ?_)
      · exact absurd c_24 (by decide)
      · refine ax_iconst (v := 0) G d_Mo_count_27 (by decide) ?_
        exact ax_iret G hr E d_Mo_count_28 rfl ⟨fun _ => ⟨rfl, rfl⟩, fun z => absurd z hx⟩
set_option maxRecDepth 20000 in
set_option maxHeartbeats 1000000 in
theorem ct_Mo_letters (l : Launch) (x : Int32) (os : List Nat) (u : Nat → Int32) (er : Int32) (le : Int32) (ma : Int32) (ta : Int32) (di : Int32) (wr : Int32) (at0 : Int32) (wi : Int32) (pr : Int32) (lf : Bool) (pl : Bool) (bl : Bool) (ha : Bool) (ze : Bool) (wt : Bool) (pt : Bool) (fr : Int32) (si : Int32) (zs : Bool) (ct : Int32) (po : Int32) (hu : mi_is u os) (hol : os.length ≤ 4000) : ax_CT l y_Mo_letters c_Mo_letters 5 (some .long) 1 [.ref 20, .int x] (pc_Mo er le ma (nI os.length) ta di wr at0 wi pr lf pl bl ha ze wt pt fr si zs ct po ++ pcU u) (fun r h => ((x < 0 ∨ nI ((os.length + 7) / 8) ≤ x) → r = some (.long 0) ∧ h = pc_Mo 1 le ma (nI os.length) ta di wr at0 wi pr lf pl bl ha ze wt pt fr si zs ct po ++ pcU u) ∧ (∀ k : Nat, x = nI k → k < (os.length + 7) / 8 → r = some (.long (pk8 (ltn os k) 8)) ∧ h = pc_Mo 0 le ma (nI os.length) ta di wr at0 wi pr lf pl bl ha ze wt pt fr si zs ct po ++ pcU u)) := by
  refine ax_ofV (by decide) (Nat.le_of_ble_eq_true rfl) ?_
  intro p e s m args below meth c D cid ad A Qc G hr E
  have bad : (x < 0 ∨ nI ((os.length + 7) / 8) ≤ x) → ax_V p l e (ax_rm 1) s m args below meth c D cid ad A 5 0 0 (MQ below Qc args s 0 0 A) 24 [(0, .ref 20), (1, .int x)] [.ref 20] (pc_Mo 0 le ma (nI os.length) ta di wr at0 wi pr lf pl bl ha ze wt pt fr si zs ct po ++ pcU u) := by
    intro hb
    have hno : ∀ k : Nat, x = nI k → ¬ k < (os.length + 7) / 8 := by
      intro k hk hk2
      rcases hb with q | q
      · rw [hk] at q; exact nI_pos (by omega) q
      · rw [hk] at q; exact nI_ge hk2 (by omega) q
    refine ax_iconst (v := 1) G d_Mo_letters_24 (by decide) ?_
    refine ax_goto (tgt := 29) G d_Mo_letters_25 (by decide) ?_
    refine ax_iconst (v := 1) G d_Mo_letters_29 (by decide) ?_
    refine ax_callV (n := 2) G (ct_Mo_fails l true 1 (by decide) _ _ _ _ _ _ _ _ _ _ _ _ _ _ _ _ _ _ _ _ _) d_Mo_letters_30 rfl ⟨rfl, trivial⟩ rfl rfl rfl kc_Mo_fails ⟨k_Mo_47, ki_Mo_fails, ks_Mo_fails, kk_Mo⟩ (by decide +kernel) rfl ⟨by decide, by decide⟩ (Nat.le_of_ble_eq_true rfl) ⟨by decide, by decide⟩ (fun r hc_ hq hk_ => ?_)
    obtain ⟨rfl, rfl⟩ := hq
    refine ax_if_eq (tgt := 38) G d_Mo_letters_33 (by decide) (fun c_33 => ?_) (fun c_33 => ?_)
    · exact absurd c_33 (by decide)
    · refine ax_lconst (v := 0) G d_Mo_letters_36 (by decide) ?_
      exact ax_lret G hr E d_Mo_letters_37 rfl ⟨fun _ => ⟨rfl, rfl⟩, fun k h1 h2 => absurd h2 (hno k h1)⟩
  refine ax_aload_n G d_Mo_letters_0 rfl rfl ?_
  refine ax_iconst (v := 0) G d_Mo_letters_1 (by decide) ?_
  refine ax_put (ci := 6) (j := 0) G d_Mo_letters_2 rfl rfl (by decide) k_Mo_39 rfl rfl rfl (Nat.le_of_ble_eq_true rfl) ?_
  refine ax_aload_n G d_Mo_letters_5 rfl rfl ?_
  refine ax_iload_n G d_Mo_letters_6 rfl rfl ?_
  refine ax_if_lt (tgt := 24) G d_Mo_letters_7 (by decide) (fun c_7 => ?_) (fun c_7 => ?_)
  · exact bad (Or.inl c_7)
  · obtain ⟨k, hk31, rfl⟩ := nI_of c_7
    refine ax_iload_n G d_Mo_letters_10 rfl rfl ?_
    refine ax_aload_n G d_Mo_letters_11 rfl rfl ?_
    refine ax_get (ci := 6) (j := 3) G d_Mo_letters_12 rfl rfl (by decide) k_Mo_119 rfl ?_
    refine ax_bipush (v := 7) G d_Mo_letters_15 (by decide) ?_
    refine ax_iadd G d_Mo_letters_17 ?_
    rw [show nI os.length + 7 = nI (os.length + 7) from nI_add _ 7]
    refine ax_bipush (v := 8) G d_Mo_letters_18 (by decide) ?_
    rw [show (8 : Int32) = nI 8 from rfl]
    refine ax_idiv G d_Mo_letters_20 (by decide) ?_
    rw [pk_div (by omega) (by decide) (by decide)]
    refine ax_icmp_lt (tgt := 28) G d_Mo_letters_21 (by decide) (fun c_21 => ?_) (fun c_21 => ?_)
    · have hk : k < (os.length + 7) / 8 := (nI_ltI hk31 (by omega)).mp c_21
      have hkk : ∀ k' : Nat, nI k = nI k' → k' < (os.length + 7) / 8 → k' = k := fun k' h1 h2 => ((nI_eq hk31 (by omega)).mp h1).symm
      have loop : ∀ (q j : Nat), j + q = 8 → ax_V p l e (ax_rm 1) s m args below meth c D cid ad A 5 0 0 (MQ below Qc args s 0 0 A) 43 [(0, .ref 20), (1, .int (nI k)), (2, .long (pk8 (ltn os k) j)), (4, .int (nI j))] [] (pc_Mo 0 le ma (nI os.length) ta di wr at0 wi pr lf pl bl ha ze wt pt fr si zs ct po ++ pcU u) := by
        intro q
        induction q with
        | zero =>
          intro j hj
          have e8 : j = 8 := by omega
          subst e8
          refine ax_iload G d_Mo_letters_43 rfl ?_
          refine ax_bipush (v := 8) G d_Mo_letters_45 (by decide) ?_
          refine ax_icmp_ge (tgt := 93) G d_Mo_letters_47 (by decide) (fun c_47 => ?_) (fun c_47 => ?_)
          · refine ax_lload_n G d_Mo_letters_93 rfl rfl ?_
            exact ax_lret G hr E d_Mo_letters_94 rfl ⟨fun z => by
              rcases z with z | z
              · exact absurd z (nI_pos hk31)
              · exact absurd z (nI_ge hk (by omega)), fun k' h1 h2 => by rw [hkk k' h1 h2]; exact ⟨rfl, rfl⟩⟩
          · exact absurd (by decide) c_47
        | succ q ih =>
          intro j hj
          have hmul : 8 * nI k + nI j = nI (8 * k + j) := by rw [show (8 : Int32) = nI 8 from rfl, pk_mul, nI_add]
          have st2 : ∀ y : Nat, y = ltn os k j → ax_V p l e (ax_rm 1) s m args below meth c D cid ad A 5 0 0 (MQ below Qc args s 0 0 A) 84 [(0, .ref 20), (1, .int (nI k)), (2, .long (pk8 (ltn os k) j)), (4, .int (nI j))] [.int (nI y), .long (pk8 (ltn os k) j <<< ((8 : Int32).toInt64 &&& 63))] (pc_Mo 0 le ma (nI os.length) ta di wr at0 wi pr lf pl bl ha ze wt pt fr si zs ct po ++ pcU u) := by
            intro y hy
            subst hy
            refine ax_i2l G d_Mo_letters_84 ?_
            refine ax_lor G d_Mo_letters_85 ?_
            rw [← pk8_s]
            refine ax_lstore_n G d_Mo_letters_86 rfl (by decide) ?_
            refine ax_iincZ (z := 1) G d_Mo_letters_87 rfl (by decide) (by decide) ?_
            refine ax_goto (tgt := 43) G d_Mo_letters_90 (by decide) ?_
            rw [nI_1]
            exact ih (j + 1) (by omega)
          refine ax_iload G d_Mo_letters_43 rfl ?_
          refine ax_bipush (v := 8) G d_Mo_letters_45 (by decide) ?_
          refine ax_icmp_ge (tgt := 93) G d_Mo_letters_47 (by decide) (fun c_47 => ?_) (fun c_47 => ?_)
          · exact absurd c_47 (nI_ge (b := 8) (by omega) (by decide))
          · refine ax_lload_n G d_Mo_letters_50 rfl rfl ?_
            refine ax_bipush (v := 8) G d_Mo_letters_51 (by decide) ?_
            refine ax_lshl G d_Mo_letters_53 ?_
            refine ax_bipush (v := 8) G d_Mo_letters_54 (by decide) ?_
            refine ax_iload_n G d_Mo_letters_56 rfl rfl ?_
            refine ax_imul G d_Mo_letters_57 ?_
            refine ax_iload G d_Mo_letters_58 rfl ?_
            refine ax_iadd G d_Mo_letters_60 ?_
            rw [hmul]
            refine ax_aload_n G d_Mo_letters_61 rfl rfl ?_
            refine ax_get (ci := 6) (j := 3) G d_Mo_letters_62 rfl rfl (by decide) k_Mo_119 rfl ?_
            refine ax_icmp_ge (tgt := 83) G d_Mo_letters_65 (by decide) (fun c_65 => ?_) (fun c_65 => ?_)
            · have hge : ¬ 8 * k + j < os.length := fun z => nI_ge z (by omega) c_65
              refine ax_iconst (v := 0) G d_Mo_letters_83 (by decide) ?_
              exact st2 0 (by unfold ltn; rw [if_neg hge])
            · have hlt : 8 * k + j < os.length := by
                rcases Nat.lt_or_ge (8 * k + j) os.length with z | z
                · exact z
                · exact absurd (nI_le z (by omega)) c_65
              refine ax_aload_n G d_Mo_letters_68 rfl rfl ?_
              refine ax_get (ci := 6) (j := 8) G d_Mo_letters_69 rfl rfl (by decide) k_Mo_17 rfl ?_
              refine ax_bipush (v := 8) G d_Mo_letters_72 (by decide) ?_
              refine ax_iload_n G d_Mo_letters_74 rfl rfl ?_
              refine ax_imul G d_Mo_letters_75 ?_
              refine ax_iload G d_Mo_letters_76 rfl ?_
              refine ax_iadd G d_Mo_letters_78 ?_
              rw [hmul]
              refine ax_iald G d_Mo_letters_79 rfl (vp_in_nI (by omega) (by decide)) ?_
              rw [nI_clamp (by omega), mi_at hu hlt]
              refine ax_goto (tgt := 84) G d_Mo_letters_80 (by decide) ?_
              exact st2 _ (by unfold ltn; rw [if_pos hlt])
      refine ax_iconst (v := 0) G d_Mo_letters_28 (by decide) ?_
      refine ax_iconst (v := 1) G d_Mo_letters_29 (by decide) ?_
      refine ax_callV (n := 2) G (ct_Mo_fails l false 1 (by decide) _ _ _ _ _ _ _ _ _ _ _ _ _ _ _ _ _ _ _ _ _) d_Mo_letters_30 rfl ⟨rfl, trivial⟩ rfl rfl rfl kc_Mo_fails ⟨k_Mo_47, ki_Mo_fails, ks_Mo_fails, kk_Mo⟩ (by decide +kernel) rfl ⟨by decide, by decide⟩ (Nat.le_of_ble_eq_true rfl) ⟨by decide, by decide⟩ (fun r hc_ hq hk_ => ?_)
      obtain ⟨rfl, rfl⟩ := hq
      refine ax_if_eq (tgt := 38) G d_Mo_letters_33 (by decide) (fun c_33 => ?_) (fun c_33 => ?_)
      · refine ax_lconst (v := 0) G d_Mo_letters_38 (by decide) ?_
        refine ax_lstore_n G d_Mo_letters_39 rfl (by decide) ?_
        refine ax_iconst (v := 0) G d_Mo_letters_40 (by decide) ?_
        refine ax_istore G d_Mo_letters_41 (by decide) ?_
        exact loop 8 0 rfl
      · exact absurd rfl c_33
    · have hge : ¬ k < (os.length + 7) / 8 := fun z => c_21 ((nI_ltI hk31 (by omega)).mpr z)
      exact bad (Or.inr (nI_le (by omega) hk31))

