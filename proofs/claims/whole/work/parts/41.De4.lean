/-! FormatDesk$Decimal: become -/
set_option maxRecDepth 20000 in
set_option maxHeartbeats 1000000 in
theorem ct_De_become (l : Launch) (lc dc pt e0 : Int32) (s0 : Nat) (lm : Nat → Int64) (dg : Nat → Int32) (hs : s0 < 2 ^ 53) (he1 : -1074 ≤ e0.toInt) (he2 : e0.toInt ≤ 971) : ax_CT l y_De_become c_De_become 5 none 1 [.ref 9, .long (lN s0), .int e0] (pc_De lc dc pt lm dg) (fun r h => r = none ∧ ∃ lc' n pt' lm' dg' , h = pc_De lc' (nI n) pt' lm' dg' ∧ n ≤ 774 ∧ (s0 = 0 → n = 0 ∧ pt' = 1) ∧ (0 < s0 → isN (tgt s0 e0.toInt) n ∧ pt'.toInt = (n : Int) + min e0.toInt 0) ∧ de_is dg' n (dgs (tgt s0 e0.toInt) n)) := by
  refine ax_ofV (by decide) (Nat.le_of_ble_eq_true rfl) ?_
  intro p e s m args below meth c D cid ad A Qc G hr E
  have hz : (lg_cmp (lN s0) 0 = 0) ↔ s0 = 0 := by
    rw [lg_cmp_eq, show (0 : Int64) = lN 0 from rfl, pk_lEQ (by omega) (by decide)]
  refine ax_lload_n G d_De_become_0 rfl rfl ?_
  refine ax_lconst (v := 0) G d_De_become_1 (by decide) ?_
  refine ax_lcmp G d_De_become_2 ?_
  refine ax_if_ne (tgt := 11) G d_De_become_3 (by decide) (fun c_3 => ?_) (fun c_3 => ?_)
  · have hs0 : 0 < s0 := Nat.pos_of_ne_zero (fun q => c_3 (hz.mpr q))
    have hbig := tgt_lt hs he1 he2
    -- behind both loops
    have fin : ∀ (k : Nat) (x4 : Int32) (lm2 : Nat → Int64) (a : Nat → Nat), lm_is lm2 k a → (0 < k ∧ k ≤ 86) → 0 < a (k - 1) → lval a k = tgt s0 e0.toInt → ax_V p l e (ax_rm 1) s m args below meth c D cid ad A 5 0 0 (MQ below Qc args s 0 0 A) 110 [(0, .ref 9), (1, .long (lN s0)), (3, .int e0), (4, .int x4)] [] (pc_De (nI k) dc pt lm2 dg) := by
      intro k x4 lm2 a ha hk ht hv
      obtain ⟨j, rfl⟩ : ∃ j, k = j + 1 := ⟨k - 1, by omega⟩
      refine ax_aload_n G d_De_become_110 rfl rfl ?_
      refine ax_callV (n := 0) G (ct_De_spell l dc pt j lm2 dg a ha (by omega) ht) d_De_become_111 rfl ⟨rfl, rfl, rfl, trivial⟩ rfl rfl rfl kc_De_spell ⟨k_De_45, ki_De_spell, ks_De_spell, kk_De⟩ (by decide +kernel) rfl ⟨by decide, by decide⟩ (Nat.le_of_ble_eq_true rfl) ⟨by decide, by decide⟩ (fun r hc_ hq hk_ => ?_)
      obtain ⟨rfl, dg2, n, rfl, hN, hn, hd⟩ := hq
      rw [hv] at hN hd
      refine ax_aload_n G d_De_become_114 rfl rfl ?_
      refine ax_aload_n G d_De_become_115 rfl rfl ?_
      refine ax_get (ci := 0) (j := 3) G d_De_become_116 rfl rfl (by decide) k_De_21 rfl ?_
      refine ax_iload_n G d_De_become_119 rfl rfl ?_
      refine ax_iconst (v := 0) G d_De_become_120 (by decide) ?_
      refine ax_mmin G d_De_become_121 k_De_32 ⟨by decide, by decide⟩ (Nat.le_of_ble_eq_true rfl) ⟨by decide, by decide⟩ ?_
      refine ax_iadd G d_De_become_124 ?_
      refine ax_put (ci := 0) (j := 4) G d_De_become_125 rfl rfl (by decide) k_De_24 rfl rfl rfl (Nat.le_of_ble_eq_true rfl) ?_
      have hp : (nI n + (if 0 < e0 then 0 else e0)).toInt = (n : Int) + min e0.toInt 0 := by
        have h0 : (0 : Int32).toInt = 0 := rfl
        by_cases hq : 0 < e0
        · rw [if_pos hq, i32_add _ _ (by rw [nI_toInt (by omega)]; omega) (by rw [h0]; omega), nI_toInt (by omega), h0]
          rw [i32_lt, h0] at hq
          omega
        · rw [if_neg hq, i32_add _ _ (by rw [nI_toInt (by omega)]; omega) (by omega), nI_toInt (by omega)]
          rw [i32_lt, h0] at hq
          omega
      exact ax_vret G hr E d_De_become_128 rfl ⟨rfl, _, n, _, lm2, dg2, rfl, hn, fun z => by omega, fun _ => ⟨hN, hp⟩, fun i hi => ⟨hd i hi, Nat.mod_lt _ (by decide)⟩⟩
    have loopB : ∀ (j k : Nat) (x4 : Int32) (lm2 : Nat → Int64) (a : Nat → Nat), x4.toInt ≤ 12 * (j : Int) → -2000 ≤ x4.toInt → x4.toInt ≤ 2000 → lm_is lm2 k a → (0 < k ∧ k ≤ 86) → 0 < a (k - 1) → lval a k * 5 ^ x4.toInt.toNat = tgt s0 e0.toInt → ax_V p l e (ax_rm 1) s m args below meth c D cid ad A 5 0 0 (MQ below Qc args s 0 0 A) 84 [(0, .ref 9), (1, .long (lN s0)), (3, .int e0), (4, .int x4)] [] (pc_De (nI k) dc pt lm2 dg) := by
      intro j
      induction j with
      | zero =>
        intro k x4 lm2 a h1 h2 h3 ha hk ht hv
        rw [show x4.toInt.toNat = 0 by omega, Nat.pow_zero, Nat.mul_one] at hv
        refine ax_iload G d_De_become_84 rfl ?_
        refine ax_if_le (tgt := 110) G d_De_become_86 (by decide) (fun c_86 => ?_) (fun c_86 => ?_)
        · exact fin k x4 lm2 a ha hk ht hv
        · refine absurd ?_ c_86
          rw [i32_le]
          show x4.toInt ≤ 0
          omega
      | succ j ih =>
        intro k x4 lm2 a h1 h2 h3 ha hk ht hv
        refine ax_iload G d_De_become_84 rfl ?_
        refine ax_if_le (tgt := 110) G d_De_become_86 (by decide) (fun c_86 => ?_) (fun c_86 => ?_)
        · have : x4.toInt ≤ 0 := by rw [i32_le] at c_86; exact c_86
          rw [show x4.toInt.toNat = 0 by omega, Nat.pow_zero, Nat.mul_one] at hv
          exact fin k x4 lm2 a ha hk ht hv
        · have hpos : 0 < x4.toInt := by rw [i32_le] at c_86; exact Int.not_le.mp c_86
          obtain ⟨r, hr0, rfl⟩ := nI_of (x := x4) (by rw [i32_lt]; show ¬ x4.toInt < 0; omega)
          have er : (nI r).toInt = (r : Int) := nI_toInt hr0
          rw [er] at h1 h2 h3 hv hpos
          rw [Int.toNat_natCast] at hv
          refine ax_aload_n G d_De_become_89 rfl rfl ?_
          refine ax_fives G d_De_become_90 k_De_42 ?_
          refine ax_iload G d_De_become_93 rfl ?_
          refine ax_bipush (v := 12) G d_De_become_95 (by decide) ?_
          refine ax_mmin G d_De_become_97 k_De_32 ⟨by decide, by decide⟩ (Nat.le_of_ble_eq_true rfl) ⟨by decide, by decide⟩ ?_
          rw [show (12 : Int32) = nI 12 from rfl, min_nI (by decide) hr0]
          refine ax_fiveat G d_De_become_100 (vp_in_nI (by omega) (by decide)) ?_
          rw [nI_clamp (by omega), show ax_five (min r 12) = lN (5 ^ min r 12) from rfl]
          refine ax_callV (n := 1) G (ct_De_multiply l dc pt k (5 ^ min r 12) lm2 dg a ha hk (five_le _ (by omega)) ht (pw_le2 (by decide) (by rw [hv]; exact hbig))) d_De_become_101 rfl ⟨rfl, rfl, rfl, trivial⟩ rfl rfl rfl kc_De_multiply ⟨k_De_38, ki_De_multiply, ks_De_multiply, kk_De⟩ (by decide +kernel) rfl ⟨by decide, by decide⟩ (Nat.le_of_ble_eq_true rfl) ⟨by decide, by decide⟩ (fun r hc_ hq hk_ => ?_)
          obtain ⟨rfl, lm3, k3, a3, rfl, g1, g2, g3, g4⟩ := hq
          refine ax_iincZ (z := (-12)) G d_De_become_104 rfl (by decide) (by decide) ?_
          refine ax_goto (tgt := 84) G d_De_become_107 (by decide) ?_
          have e9 : (nI r + (-12)).toInt = (r : Int) - 12 := by
            rw [i32_add _ _ (by rw [er]; omega) (by rw [m12]; omega), er, m12]
            omega
          refine ih k3 (nI r + (-12)) lm3 a3 (by rw [e9]; exact q12a h1) (by rw [e9]; exact q12b r) (by rw [e9]; exact q12c h3) g1 g2 g3 ?_
          rw [g4, e9, ← hv, q12d r, pw_next]
    have loopA : ∀ (j k : Nat) (x4 : Int32) (lm2 : Nat → Int64) (a : Nat → Nat), x4.toInt ≤ 29 * (j : Int) → -2000 ≤ x4.toInt → x4.toInt ≤ 2000 → lm_is lm2 k a → (0 < k ∧ k ≤ 86) → 0 < a (k - 1) → lval a k * 2 ^ x4.toInt.toNat = s0 * 2 ^ e0.toInt.toNat → ax_V p l e (ax_rm 1) s m args below meth c D cid ad A 5 0 0 (MQ below Qc args s 0 0 A) 56 [(0, .ref 9), (1, .long (lN s0)), (3, .int e0), (4, .int x4)] [] (pc_De (nI k) dc pt lm2 dg) := by
      have out : ∀ (k : Nat) (x4 : Int32) (lm2 : Nat → Int64) (a : Nat → Nat), lm_is lm2 k a → (0 < k ∧ k ≤ 86) → 0 < a (k - 1) → lval a k = s0 * 2 ^ e0.toInt.toNat → ax_V p l e (ax_rm 1) s m args below meth c D cid ad A 5 0 0 (MQ below Qc args s 0 0 A) 80 [(0, .ref 9), (1, .long (lN s0)), (3, .int e0), (4, .int x4)] [] (pc_De (nI k) dc pt lm2 dg) := by
        intro k x4 lm2 a ha hk ht hv
        have en : (-e0).toInt = -e0.toInt := i32_neg e0 (by omega)
        refine ax_iload_n G d_De_become_80 rfl rfl ?_
        refine ax_ineg G d_De_become_81 ?_
        refine ax_istore G d_De_become_82 (by decide) ?_
        exact loopB 100 k (-e0) lm2 a (by rw [en]; omega) (by rw [en]; omega) (by rw [en]; omega) ha hk ht (by rw [en, hv, ← tgt_eq])
      intro j
      induction j with
      | zero =>
        intro k x4 lm2 a h1 h2 h3 ha hk ht hv
        rw [show x4.toInt.toNat = 0 by omega, Nat.pow_zero, Nat.mul_one] at hv
        refine ax_iload G d_De_become_56 rfl ?_
        refine ax_if_le (tgt := 80) G d_De_become_58 (by decide) (fun c_58 => ?_) (fun c_58 => ?_)
        · exact out k x4 lm2 a ha hk ht hv
        · refine absurd ?_ c_58
          rw [i32_le]
          show x4.toInt ≤ 0
          omega
      | succ j ih =>
        intro k x4 lm2 a h1 h2 h3 ha hk ht hv
        refine ax_iload G d_De_become_56 rfl ?_
        refine ax_if_le (tgt := 80) G d_De_become_58 (by decide) (fun c_58 => ?_) (fun c_58 => ?_)
        · have : x4.toInt ≤ 0 := by rw [i32_le] at c_58; exact c_58
          rw [show x4.toInt.toNat = 0 by omega, Nat.pow_zero, Nat.mul_one] at hv
          exact out k x4 lm2 a ha hk ht hv
        · have hpos : 0 < x4.toInt := by rw [i32_le] at c_58; exact Int.not_le.mp c_58
          obtain ⟨r, hr0, rfl⟩ := nI_of (x := x4) (by rw [i32_lt]; show ¬ x4.toInt < 0; omega)
          have er : (nI r).toInt = (r : Int) := nI_toInt hr0
          rw [er] at h1 h2 h3 hv hpos
          rw [Int.toNat_natCast] at hv
          refine ax_aload_n G d_De_become_61 rfl rfl ?_
          refine ax_lconst (v := 1) G d_De_become_62 (by decide) ?_
          refine ax_iload G d_De_become_63 rfl ?_
          refine ax_bipush (v := 29) G d_De_become_65 (by decide) ?_
          refine ax_mmin G d_De_become_67 k_De_32 ⟨by decide, by decide⟩ (Nat.le_of_ble_eq_true rfl) ⟨by decide, by decide⟩ ?_
          rw [show (29 : Int32) = nI 29 from rfl, min_nI (by decide) hr0]
          refine ax_lshl G d_De_become_70 ?_
          rw [shl_one _ (by omega)]
          have hbig2 : s0 * 2 ^ e0.toInt.toNat < bB := by
            unfold tgt at hbig
            exact Nat.lt_of_le_of_lt (Nat.le_mul_of_pos_right _ (Nat.pow_pos (by decide))) hbig
          refine ax_callV (n := 1) G (ct_De_multiply l dc pt k (2 ^ min r 29) lm2 dg a ha hk (two_le _ (by omega)) ht (pw_le2 (by decide) (by rw [hv]; exact hbig2))) d_De_become_71 rfl ⟨rfl, rfl, rfl, trivial⟩ rfl rfl rfl kc_De_multiply ⟨k_De_38, ki_De_multiply, ks_De_multiply, kk_De⟩ (by decide +kernel) rfl ⟨by decide, by decide⟩ (Nat.le_of_ble_eq_true rfl) ⟨by decide, by decide⟩ (fun r hc_ hq hk_ => ?_)
          obtain ⟨rfl, lm3, k3, a3, rfl, g1, g2, g3, g4⟩ := hq
          refine ax_iincZ (z := (-29)) G d_De_become_74 rfl (by decide) (by decide) ?_
          refine ax_goto (tgt := 56) G d_De_become_77 (by decide) ?_
          have e9 : (nI r + (-29)).toInt = (r : Int) - 29 := by
            rw [i32_add _ _ (by rw [er]; omega) (by rw [m29]; omega), er, m29]
            omega
          refine ih k3 (nI r + (-29)) lm3 a3 (by rw [e9]; exact q29a h1) (by rw [e9]; exact q29b r) (by rw [e9]; exact q29c h3) g1 g2 g3 ?_
          rw [g4, e9, ← hv, q29d r, pw_next]
    refine ax_aload_n G d_De_become_11 rfl rfl ?_
    refine ax_get (ci := 0) (j := 0) G d_De_become_12 rfl rfl (by decide) k_De_9 rfl ?_
    refine ax_iconst (v := 0) G d_De_become_15 (by decide) ?_
    refine ax_lload_n G d_De_become_16 rfl rfl ?_
    refine ax_ldc2 G d_De_become_17 k_De_30 ?_
    refine ax_lrem G d_De_become_20 (by decide) ?_
    rw [show (1000000000 : Int64) = lN 1000000000 from rfl, pk_lRem (by omega) (by decide) (by decide)]
    refine ax_last G d_De_become_21 rfl (vp_in_nI (n := 0) (by decide) (by decide)) ?_
    refine ax_aload_n G d_De_become_22 rfl rfl ?_
    refine ax_get (ci := 0) (j := 0) G d_De_become_23 rfl rfl (by decide) k_De_9 rfl ?_
    refine ax_iconst (v := 1) G d_De_become_26 (by decide) ?_
    refine ax_lload_n G d_De_become_27 rfl rfl ?_
    refine ax_ldc2 G d_De_become_28 k_De_30 ?_
    refine ax_ldiv G d_De_become_31 (by decide) ?_
    rw [show (1000000000 : Int64) = lN 1000000000 from rfl, pk_lDiv (by omega) (by decide) (by decide)]
    refine ax_last G d_De_become_32 rfl (vp_in_nI (n := 1) (by decide) (by decide)) ?_
    refine ax_aload_n G d_De_become_33 rfl rfl ?_
    refine ax_aload_n G d_De_become_34 rfl rfl ?_
    refine ax_get (ci := 0) (j := 0) G d_De_become_35 rfl rfl (by decide) k_De_9 rfl ?_
    refine ax_iconst (v := 1) G d_De_become_38 (by decide) ?_
    refine ax_lald G d_De_become_39 rfl (vp_in_nI (n := 1) (by decide) (by decide)) ?_
    rw [show vp_updL (vp_updL lm (0 : Int32).toNatClampNeg (lN (s0 % 1000000000))) (1 : Int32).toNatClampNeg (lN (s0 / 1000000000)) (1 : Int32).toNatClampNeg = lN (s0 / 1000000000) from rfl]
    have hq2 : (lg_cmp (lN (s0 / 1000000000)) 0 = 0) ↔ s0 / 1000000000 = 0 := by
      rw [lg_cmp_eq, show (0 : Int64) = lN 0 from rfl, pk_lEQ (by omega) (by decide)]
    have ha2 : lm_is (vp_updL (vp_updL lm 0 (lN (s0 % 1000000000))) 1 (lN (s0 / 1000000000))) 2 (fun i => if i = 0 then s0 % 1000000000 else s0 / 1000000000) := by
      intro i hi
      rcases (show i = 0 ∨ i = 1 by omega) with rfl | rfl
      · exact ⟨rfl, Nat.mod_lt _ (by decide)⟩
      · refine ⟨rfl, ?_⟩
        show s0 / 1000000000 < 1000000000
        omega
    have hv2 : lval (fun i => if i = 0 then s0 % 1000000000 else s0 / 1000000000) 2 = s0 := by
      show 0 + s0 % 1000000000 * lb ^ 0 + s0 / 1000000000 * lb ^ 1 = s0
      rw [Nat.pow_zero, Nat.pow_one]
      unfold lb
      have := Nat.div_add_mod s0 1000000000
      omega
    refine ax_lconst (v := 0) G d_De_become_40 (by decide) ?_
    refine ax_lcmp G d_De_become_41 ?_
    refine ax_if_ne (tgt := 49) G d_De_become_42 (by decide) (fun c_42 => ?_) (fun c_42 => ?_)
    · have h1 : s0 / 1000000000 ≠ 0 := fun q => c_42 (hq2.mpr q)
      refine ax_iconst (v := 2) G d_De_become_49 (by decide) ?_
      refine ax_put (ci := 0) (j := 1) G d_De_become_50 rfl rfl (by decide) k_De_13 rfl rfl rfl (Nat.le_of_ble_eq_true rfl) ?_
      refine ax_iload_n G d_De_become_53 rfl rfl ?_
      refine ax_istore G d_De_become_54 (by decide) ?_
      exact loopA 100 2 e0 _ _ (by omega) (by omega) (by omega) ha2 (by omega) (Nat.pos_of_ne_zero h1) (by rw [hv2])
    · have h1 : s0 / 1000000000 = 0 := hq2.mp c_42
      refine ax_iconst (v := 1) G d_De_become_45 (by decide) ?_
      refine ax_goto (tgt := 50) G d_De_become_46 (by decide) ?_
      refine ax_put (ci := 0) (j := 1) G d_De_become_50 rfl rfl (by decide) k_De_13 rfl rfl rfl (Nat.le_of_ble_eq_true rfl) ?_
      refine ax_iload_n G d_De_become_53 rfl rfl ?_
      refine ax_istore G d_De_become_54 (by decide) ?_
      refine loopA 100 1 e0 _ (fun i => if i = 0 then s0 % 1000000000 else s0 / 1000000000) (by omega) (by omega) (by omega) (fun i hi => ha2 i (by omega)) (by omega) ?_ ?_
      · show 0 < s0 % 1000000000
        omega
      · have hv1 : lval (fun i => if i = 0 then s0 % 1000000000 else s0 / 1000000000) 1 = s0 := by
          show 0 + s0 % 1000000000 * lb ^ 0 = s0
          rw [Nat.pow_zero]
          omega
        rw [hv1]
  · have hs0 := hz.mp c_3
    subst hs0
    refine ax_aload_n G d_De_become_6 rfl rfl ?_
    refine ax_callV (n := 0) G (ct_De_becomeZero l lc dc pt lm dg) d_De_become_7 rfl ⟨rfl, rfl, rfl, trivial⟩ rfl rfl rfl kc_De_becomeZero ⟨k_De_27, ki_De_becomeZero, ks_De_becomeZero, kk_De⟩ (by decide +kernel) rfl ⟨by decide, by decide⟩ (Nat.le_of_ble_eq_true rfl) ⟨by decide, by decide⟩ (fun r hc_ hq hk_ => ?_)
    obtain ⟨rfl, rfl⟩ := hq
    exact ax_vret G hr E d_De_become_10 rfl ⟨rfl, lc, 0, 1, lm, dg, rfl, by decide, fun _ => ⟨rfl, rfl⟩, fun z => absurd z (by decide), fun i hi => absurd hi (Nat.not_lt_zero i)⟩

