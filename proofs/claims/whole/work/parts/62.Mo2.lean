/-! FormatDeskModel: number -/
set_option maxRecDepth 20000 in
set_option maxHeartbeats 1000000 in
theorem ct_Mo_number (l : Launch) (n i0 : Nat) (f : Nat → Int32) (c0 : Nat → Nat) (er : Int32) (ma : Int32) (ou : Int32) (ta : Int32) (di : Int32) (wi : Int32) (pr : Int32) (lf : Bool) (pl : Bool) (bl : Bool) (ha : Bool) (ze : Bool) (wt : Bool) (pt : Bool) (fr : Int32) (si : Int32) (zs : Bool) (ct : Int32) (po : Int32) (hf : mf_is f n c0) (hn : n ≤ 400) (hi0 : i0 ≤ 410) : ax_CT l y_Mo_number c_Mo_number 3 (some .int) 1 [.ref 20] (pc_Mo er (nI n) ma ou ta di (-1) (nI i0) wi pr lf pl bl ha ze wt pt fr si zs ct po ++ pcF f) (fun r h => r = some (.int (nI (dgt (lt c0 n) 3 i0 0).1)) ∧ h = pc_Mo er (nI n) ma ou ta di (nW (lt c0 n) i0) (nI (dgt (lt c0 n) 3 i0 0).2) wi pr lf pl bl ha ze wt pt fr si zs ct po ++ pcF f) := by
  refine ax_ofV (by decide) (Nat.le_of_ble_eq_true rfl) ?_
  intro p e s m args below meth c D cid ad A Qc G hr E
  have hV := dgt_le (lt c0 n) 3 i0 0
  have fin : ∀ (v i : Nat), (v, i) = dgt (lt c0 n) 3 i0 0 → ax_V p l e (ax_rm 1) s m args below meth c D cid ad A 3 0 0 (MQ below Qc args s 0 0 A) 62 [(0, .ref 20), (1, .int (nI i0)), (2, .int (nI v))] [] (pc_Mo er (nI n) ma ou ta di (-1) (nI i) wi pr lf pl bl ha ze wt pt fr si zs ct po ++ pcF f) := by
    intro v i he
    generalize hW : nW (lt c0 n) i0 = W at E
    unfold nW at hW
    rw [← he] at E hV hW
    have hv : v < 1000 := by have : v < (0 + 1) * 10 ^ 3 := hV.2.2; omega
    have hi : i ≤ i0 + 3 := hV.2.1
    have hi2 : i0 ≤ i := hV.1
    have hW2 : (if 200 < v then nI i0 else if (48 ≤ lt c0 n i ∧ lt c0 n i ≤ 57) ∧ i = i0 + 3 then nI i else -1) = W := hW
    clear hW hV
    have hl := mlt_lt hf i
    refine ax_iload_n G d_Mo_number_62 rfl rfl ?_
    refine ax_sipush (v := 200) G d_Mo_number_63 (by decide) ?_
    refine ax_icmp_le (tgt := 78) G d_Mo_number_66 (by decide) (fun c_66 => ?_) (fun c_66 => ?_)
    · have h200 : v ≤ 200 := (nI_leI (b := 200) (by omega) (by decide)).mp c_66
      rw [if_neg (by omega)] at hW2
      refine ax_aload_n G d_Mo_number_78 rfl rfl ?_
      refine ax_aload_n G d_Mo_number_79 rfl rfl ?_
      refine ax_get (ci := 6) (j := 10) G d_Mo_number_80 rfl rfl (by decide) k_Mo_54 rfl ?_
      refine ax_callV (n := 1) G (ct_Mo_c l n i f c0 _ _ _ _ _ _ _ _ _ _ _ _ _ _ _ _ _ _ _ _ _ hf hn (by omega)) d_Mo_number_83 rfl ⟨rfl, rfl, trivial⟩ rfl rfl rfl kc_Mo_c ⟨k_Mo_57, ki_Mo_c, ks_Mo_c, kk_Mo⟩ (by decide +kernel) rfl ⟨by decide, by decide⟩ (Nat.le_of_ble_eq_true rfl) ⟨by decide, by decide⟩ (fun r hc_ hq hk_ => ?_)
      obtain ⟨rfl, rfl⟩ := hq
      refine ax_bipush (v := 48) G d_Mo_number_86 (by decide) ?_
      refine ax_bipush (v := 57) G d_Mo_number_88 (by decide) ?_
      refine ax_callS (n := 3) G (ct_Mo_in l (lI c0 n i) 48 57) d_Mo_number_90 rfl trivial rfl kc_Mo_in ⟨k_Mo_61, kt_Mo_in, kk_Mo⟩ (by decide +kernel) rfl ⟨by decide, by decide⟩ (Nat.le_of_ble_eq_true rfl) ⟨by decide, by decide⟩ (fun r hc_ hq hk_ => ?_)
      obtain ⟨rfl, rfl⟩ := hq
      rw [show decide ((48 : Int32) ≤ lI c0 n i ∧ lI c0 n i ≤ 57) = decide (48 ≤ lt c0 n i ∧ lt c0 n i ≤ 57) from lI_in (a := 48) (b := 57) hl (by decide) (by decide) (by decide)]
      by_cases hd : 48 ≤ lt c0 n i ∧ lt c0 n i ≤ 57
      · rw [decide_eq_true hd]
        refine ax_if_eq (tgt := 115) G d_Mo_number_93 (by decide) (fun c_93 => ?_) (fun c_93 => ?_)
        · exact absurd c_93 (by decide)
        · refine ax_aload_n G d_Mo_number_96 rfl rfl ?_
          refine ax_get (ci := 6) (j := 10) G d_Mo_number_97 rfl rfl (by decide) k_Mo_54 rfl ?_
          refine ax_iload_n G d_Mo_number_100 rfl rfl ?_
          refine ax_iconst (v := 3) G d_Mo_number_101 (by decide) ?_
          refine ax_iadd G d_Mo_number_102 ?_
          rw [show nI i0 + 3 = nI (i0 + 3) from nI_add i0 3]
          refine ax_icmp_ne (tgt := 115) G d_Mo_number_103 (by decide) (fun c_103 => ?_) (fun c_103 => ?_)
          · have h3 : ¬ i = i0 + 3 := fun z => c_103 (by rw [z])
            rw [if_neg (fun z => h3 z.2)] at hW2
            subst hW2
            refine ax_iload_n G d_Mo_number_115 rfl rfl ?_
            exact ax_iret G hr E d_Mo_number_116 rfl ⟨rfl, rfl⟩
          · have h3 : i = i0 + 3 := (nI_eq (by omega) (by omega)).mp c_103
            rw [if_pos ⟨hd, h3⟩] at hW2
            subst hW2
            refine ax_aload_n G d_Mo_number_106 rfl rfl ?_
            refine ax_aload_n G d_Mo_number_107 rfl rfl ?_
            refine ax_get (ci := 6) (j := 10) G d_Mo_number_108 rfl rfl (by decide) k_Mo_54 rfl ?_
            refine ax_callV (n := 1) G (ct_Mo_bad l (nI i) _ _ _ _ _ _ _ _ _ _ _ _ _ _ _ _ _ _ _ _ _ _) d_Mo_number_111 rfl ⟨rfl, trivial⟩ rfl rfl rfl kc_Mo_bad ⟨k_Mo_65, ki_Mo_bad, ks_Mo_bad, kk_Mo⟩ (by decide +kernel) rfl ⟨by decide, by decide⟩ (Nat.le_of_ble_eq_true rfl) ⟨by decide, by decide⟩ (fun r hc_ hq hk_ => ?_)
            obtain ⟨rfl, rfl⟩ := hq
            rw [if_pos m1lt]
            refine ax_pop G d_Mo_number_114 rfl ?_
            refine ax_iload_n G d_Mo_number_115 rfl rfl ?_
            exact ax_iret G hr E d_Mo_number_116 rfl ⟨rfl, rfl⟩
      · rw [decide_eq_false hd]
        rw [if_neg (fun z => hd z.1)] at hW2
        subst hW2
        refine ax_if_eq (tgt := 115) G d_Mo_number_93 (by decide) (fun c_93 => ?_) (fun c_93 => ?_)
        · refine ax_iload_n G d_Mo_number_115 rfl rfl ?_
          exact ax_iret G hr E d_Mo_number_116 rfl ⟨rfl, rfl⟩
        · exact absurd rfl c_93
    · have h200 : ¬ v ≤ 200 := fun q => c_66 ((nI_leI (b := 200) (by omega) (by decide)).mpr q)
      rw [if_pos (by omega)] at hW2
      subst hW2
      refine ax_aload_n G d_Mo_number_69 rfl rfl ?_
      refine ax_iload_n G d_Mo_number_70 rfl rfl ?_
      refine ax_callV (n := 1) G (ct_Mo_bad l (nI i0) _ _ _ _ _ _ _ _ _ _ _ _ _ _ _ _ _ _ _ _ _ _) d_Mo_number_71 rfl ⟨rfl, trivial⟩ rfl rfl rfl kc_Mo_bad ⟨k_Mo_65, ki_Mo_bad, ks_Mo_bad, kk_Mo⟩ (by decide +kernel) rfl ⟨by decide, by decide⟩ (Nat.le_of_ble_eq_true rfl) ⟨by decide, by decide⟩ (fun r hc_ hq hk_ => ?_)
      obtain ⟨rfl, rfl⟩ := hq
      rw [if_pos m1lt]
      refine ax_pop G d_Mo_number_74 rfl ?_
      refine ax_goto (tgt := 115) G d_Mo_number_75 (by decide) ?_
      refine ax_iload_n G d_Mo_number_115 rfl rfl ?_
      exact ax_iret G hr E d_Mo_number_116 rfl ⟨rfl, rfl⟩
  have loop : ∀ (k i v : Nat), i + k = i0 + 3 → i0 ≤ i → v < 10 ^ (3 - k) → dgt (lt c0 n) k i v = dgt (lt c0 n) 3 i0 0 → ax_V p l e (ax_rm 1) s m args below meth c D cid ad A 3 0 0 (MQ below Qc args s 0 0 A) 7 [(0, .ref 20), (1, .int (nI i0)), (2, .int (nI v))] [] (pc_Mo er (nI n) ma ou ta di (-1) (nI i) wi pr lf pl bl ha ze wt pt fr si zs ct po ++ pcF f) := by
    intro k
    induction k with
    | zero =>
      intro i v hk hii hv he
      have hl := mlt_lt hf i
      refine ax_aload_n G d_Mo_number_7 rfl rfl ?_
      refine ax_aload_n G d_Mo_number_8 rfl rfl ?_
      refine ax_get (ci := 6) (j := 10) G d_Mo_number_9 rfl rfl (by decide) k_Mo_54 rfl ?_
      refine ax_callV (n := 1) G (ct_Mo_c l n i f c0 _ _ _ _ _ _ _ _ _ _ _ _ _ _ _ _ _ _ _ _ _ hf hn (by omega)) d_Mo_number_12 rfl ⟨rfl, rfl, trivial⟩ rfl rfl rfl kc_Mo_c ⟨k_Mo_57, ki_Mo_c, ks_Mo_c, kk_Mo⟩ (by decide +kernel) rfl ⟨by decide, by decide⟩ (Nat.le_of_ble_eq_true rfl) ⟨by decide, by decide⟩ (fun r hc_ hq hk_ => ?_)
      obtain ⟨rfl, rfl⟩ := hq
      refine ax_bipush (v := 48) G d_Mo_number_15 (by decide) ?_
      refine ax_bipush (v := 57) G d_Mo_number_17 (by decide) ?_
      refine ax_callS (n := 3) G (ct_Mo_in l (lI c0 n i) 48 57) d_Mo_number_19 rfl trivial rfl kc_Mo_in ⟨k_Mo_61, kt_Mo_in, kk_Mo⟩ (by decide +kernel) rfl ⟨by decide, by decide⟩ (Nat.le_of_ble_eq_true rfl) ⟨by decide, by decide⟩ (fun r hc_ hq hk_ => ?_)
      obtain ⟨rfl, rfl⟩ := hq
      refine ax_if_eq (tgt := 62) G d_Mo_number_22 (by decide) (fun c_22 => ?_) (fun c_22 => ?_)
      · exact fin v i he
      · refine ax_aload_n G d_Mo_number_25 rfl rfl ?_
        refine ax_get (ci := 6) (j := 10) G d_Mo_number_26 rfl rfl (by decide) k_Mo_54 rfl ?_
        refine ax_iload_n G d_Mo_number_29 rfl rfl ?_
        refine ax_iconst (v := 3) G d_Mo_number_30 (by decide) ?_
        refine ax_iadd G d_Mo_number_31 ?_
        rw [show nI i0 + 3 = nI (i0 + 3) from nI_add i0 3]
        refine ax_icmp_ge (tgt := 62) G d_Mo_number_32 (by decide) (fun c_32 => ?_) (fun c_32 => ?_)
        · exact fin v i he
        · exact absurd (nI_le (by omega) (by omega)) c_32
    | succ k ih =>
      intro i v hk hii hv he
      have hl := mlt_lt hf i
      rw [dgt_s] at he
      have hk3 : 3 - k = 3 - (k + 1) + 1 := by omega
      have hvb : v < 100 := Nat.lt_of_lt_of_le hv (Nat.le_trans (Nat.pow_le_pow_right (by decide) (show 3 - (k + 1) ≤ 2 by omega)) (by decide))
      refine ax_aload_n G d_Mo_number_7 rfl rfl ?_
      refine ax_aload_n G d_Mo_number_8 rfl rfl ?_
      refine ax_get (ci := 6) (j := 10) G d_Mo_number_9 rfl rfl (by decide) k_Mo_54 rfl ?_
      refine ax_callV (n := 1) G (ct_Mo_c l n i f c0 _ _ _ _ _ _ _ _ _ _ _ _ _ _ _ _ _ _ _ _ _ hf hn (by omega)) d_Mo_number_12 rfl ⟨rfl, rfl, trivial⟩ rfl rfl rfl kc_Mo_c ⟨k_Mo_57, ki_Mo_c, ks_Mo_c, kk_Mo⟩ (by decide +kernel) rfl ⟨by decide, by decide⟩ (Nat.le_of_ble_eq_true rfl) ⟨by decide, by decide⟩ (fun r hc_ hq hk_ => ?_)
      obtain ⟨rfl, rfl⟩ := hq
      refine ax_bipush (v := 48) G d_Mo_number_15 (by decide) ?_
      refine ax_bipush (v := 57) G d_Mo_number_17 (by decide) ?_
      refine ax_callS (n := 3) G (ct_Mo_in l (lI c0 n i) 48 57) d_Mo_number_19 rfl trivial rfl kc_Mo_in ⟨k_Mo_61, kt_Mo_in, kk_Mo⟩ (by decide +kernel) rfl ⟨by decide, by decide⟩ (Nat.le_of_ble_eq_true rfl) ⟨by decide, by decide⟩ (fun r hc_ hq hk_ => ?_)
      obtain ⟨rfl, rfl⟩ := hq
      rw [show decide ((48 : Int32) ≤ lI c0 n i ∧ lI c0 n i ≤ 57) = decide (48 ≤ lt c0 n i ∧ lt c0 n i ≤ 57) from lI_in (a := 48) (b := 57) hl (by decide) (by decide) (by decide)]
      by_cases hd : 48 ≤ lt c0 n i ∧ lt c0 n i ≤ 57
      · rw [decide_eq_true hd]
        rw [if_pos hd] at he
        have eI : lI c0 n i = nI (lt c0 n i) := by
          have : i < n := by
            rcases Nat.lt_or_ge i n with q | q
            · exact q
            · have : lt c0 n i = 0 := if_neg (by omega)
              omega
          unfold lI lt; rw [if_pos this, if_pos this]
        refine ax_if_eq (tgt := 62) G d_Mo_number_22 (by decide) (fun c_22 => ?_) (fun c_22 => ?_)
        · exact absurd c_22 (by decide)
        · refine ax_aload_n G d_Mo_number_25 rfl rfl ?_
          refine ax_get (ci := 6) (j := 10) G d_Mo_number_26 rfl rfl (by decide) k_Mo_54 rfl ?_
          refine ax_iload_n G d_Mo_number_29 rfl rfl ?_
          refine ax_iconst (v := 3) G d_Mo_number_30 (by decide) ?_
          refine ax_iadd G d_Mo_number_31 ?_
          rw [show nI i0 + 3 = nI (i0 + 3) from nI_add i0 3]
          refine ax_icmp_ge (tgt := 62) G d_Mo_number_32 (by decide) (fun c_32 => ?_) (fun c_32 => ?_)
          · exact absurd c_32 (nI_ge (by omega) (by omega))
          · refine ax_bipush (v := 10) G d_Mo_number_35 (by decide) ?_
            refine ax_iload_n G d_Mo_number_37 rfl rfl ?_
            refine ax_imul G d_Mo_number_38 ?_
            refine ax_aload_n G d_Mo_number_39 rfl rfl ?_
            refine ax_aload_n G d_Mo_number_40 rfl rfl ?_
            refine ax_dup G d_Mo_number_41 rfl ?_
            refine ax_get (ci := 6) (j := 10) G d_Mo_number_42 rfl rfl (by decide) k_Mo_54 rfl ?_
            refine ax_dup_x1 G d_Mo_number_45 rfl rfl ?_
            refine ax_iconst (v := 1) G d_Mo_number_46 (by decide) ?_
            refine ax_iadd G d_Mo_number_47 ?_
            rw [nI_1]
            refine ax_put (ci := 6) (j := 10) G d_Mo_number_48 rfl rfl (by decide) k_Mo_54 rfl rfl rfl (Nat.le_of_ble_eq_true rfl) ?_
            refine ax_callV (n := 1) G (ct_Mo_c l n i f c0 _ _ _ _ _ _ _ _ _ _ _ _ _ _ _ _ _ _ _ _ _ hf hn (by omega)) d_Mo_number_51 rfl ⟨rfl, rfl, trivial⟩ rfl rfl rfl kc_Mo_c ⟨k_Mo_57, ki_Mo_c, ks_Mo_c, kk_Mo⟩ (by decide +kernel) rfl ⟨by decide, by decide⟩ (Nat.le_of_ble_eq_true rfl) ⟨by decide, by decide⟩ (fun r hc_ hq hk_ => ?_)
            obtain ⟨rfl, rfl⟩ := hq
            rw [eI]
            refine ax_iadd G d_Mo_number_54 ?_
            refine ax_bipush (v := 48) G d_Mo_number_55 (by decide) ?_
            refine ax_isub G d_Mo_number_57 ?_
            rw [dg_row hd.1]
            refine ax_istore_n G d_Mo_number_58 rfl (by decide) ?_
            refine ax_goto (tgt := 7) G d_Mo_number_59 (by decide) ?_
            refine ih (i + 1) (10 * v + (lt c0 n i - 48)) (by omega) (by omega) ?_ he
            rw [hk3, Nat.pow_succ]
            omega
      · rw [decide_eq_false hd]
        rw [if_neg hd] at he
        refine ax_if_eq (tgt := 62) G d_Mo_number_22 (by decide) (fun c_22 => ?_) (fun c_22 => ?_)
        · exact fin v i he
        · exact absurd rfl c_22
  refine ax_aload_n G d_Mo_number_0 rfl rfl ?_
  refine ax_get (ci := 6) (j := 10) G d_Mo_number_1 rfl rfl (by decide) k_Mo_54 rfl ?_
  refine ax_istore_n G d_Mo_number_4 rfl (by decide) ?_
  refine ax_iconst (v := 0) G d_Mo_number_5 (by decide) ?_
  refine ax_istore_n G d_Mo_number_6 rfl (by decide) ?_
  exact loop 3 i0 0 rfl (Nat.le_refl _) (by decide) rfl

