/-! FormatDesk$Decimal: neededFrom, addOneAtTheEnd, round -/
set_option maxRecDepth 20000 in
set_option maxHeartbeats 1000000 in
theorem ct_De_neededFrom (l : Launch) (lc pt x : Int32) (n : Nat) (lm : Nat → Int64) (dg : Nat → Int32) (d : Nat → Nat) (hd : de_is dg n d) (hn : n ≤ 774) (hx : -100000 ≤ x.toInt ∧ x.toInt ≤ 100000) : ax_CT l y_De_neededFrom c_De_neededFrom 3 (some .int) 0 [.ref 9, .int x] (pc_De lc (nI n) pt lm dg) (fun r h => r = some (.int (nI (nf d n x.toInt))) ∧ h = pc_De lc (nI n) pt lm dg) := by
  refine ax_ofV (by decide) (Nat.le_of_ble_eq_true rfl) ?_
  intro p e s m args below meth c D cid ad A Qc G hr E
  have loop : ∀ (k : Nat), k ≤ n → lnz d k = lnz d n → ax_V p l e (ax_rm 0) s m args below meth c D cid ad A 3 0 0 (MQ below Qc args s 0 0 A) 7 [(0, .ref 9), (1, .int x), (2, .int (nI k - 1))] [] (pc_De lc (nI n) pt lm dg) := by
    intro k
    induction k with
    | zero =>
      intro hk he
      refine ax_iload_n G d_De_neededFrom_7 rfl rfl ?_
      refine ax_if_lt (tgt := 37) G d_De_neededFrom_8 (by decide) (fun c_8 => ?_) (fun c_8 => ?_)
      · refine ax_iconst (v := 0) G d_De_neededFrom_37 (by decide) ?_
        exact ax_iret G hr E d_De_neededFrom_38 rfl ⟨by have he0 : lnz d n = 0 := he.symm; unfold nf; rw [if_pos (Or.inl he0)]; rfl, rfl⟩
      · exact absurd (by decide) c_8
    | succ k ih =>
      intro hk he
      obtain ⟨e1, e2⟩ := hd k (by omega)
      rw [nI_pred]
      refine ax_iload_n G d_De_neededFrom_7 rfl rfl ?_
      refine ax_if_lt (tgt := 37) G d_De_neededFrom_8 (by decide) (fun c_8 => ?_) (fun c_8 => ?_)
      · exact absurd c_8 (nI_pos (by omega))
      · refine ax_iload_n G d_De_neededFrom_11 rfl rfl ?_
        refine ax_iload_n G d_De_neededFrom_12 rfl rfl ?_
        refine ax_icmp_lt (tgt := 37) G d_De_neededFrom_13 (by decide) (fun c_13 => ?_) (fun c_13 => ?_)
        · have hlt : (k : Int) < x.toInt := by rw [i32_lt, nI_toInt (by omega)] at c_13; exact c_13
          have hl := lnz_le d (k + 1)
          refine ax_iconst (v := 0) G d_De_neededFrom_37 (by decide) ?_
          exact ax_iret G hr E d_De_neededFrom_38 rfl ⟨by unfold nf; rw [if_pos (Or.inr (by rw [← he]; omega))]; rfl, rfl⟩
        · have hge : x.toInt ≤ (k : Int) := by rw [i32_lt, nI_toInt (by omega)] at c_13; omega
          refine ax_aload_n G d_De_neededFrom_16 rfl rfl ?_
          refine ax_get (ci := 0) (j := 2) G d_De_neededFrom_17 rfl rfl (by decide) k_De_17 rfl ?_
          refine ax_iload_n G d_De_neededFrom_20 rfl rfl ?_
          refine ax_bald G d_De_neededFrom_21 rfl (vp_in_nI (by omega) (by omega)) ?_
          rw [nI_clamp (by omega), e1]
          rw [lnz_s] at he
          have hz : nI (d k) = 0 ↔ d k = 0 := by
            have := nI_eq (a := d k) (b := 0) (by omega) (by decide)
            rw [nI_0] at this; exact this
          refine ax_if_eq (tgt := 31) G d_De_neededFrom_22 (by decide) (fun c_22 => ?_) (fun c_22 => ?_)
          · rw [if_pos (hz.mp c_22)] at he
            refine ax_iincZ (z := (-1)) G d_De_neededFrom_31 rfl (by decide) (by decide) ?_
            refine ax_goto (tgt := 7) G d_De_neededFrom_34 (by decide) ?_
            rw [addm1]
            exact ih (by omega) he
          · rw [if_neg (fun q => c_22 (hz.mpr q))] at he
            refine ax_iload_n G d_De_neededFrom_25 rfl rfl ?_
            refine ax_iconst (v := 1) G d_De_neededFrom_26 (by decide) ?_
            refine ax_iadd G d_De_neededFrom_27 ?_
            refine ax_iload_n G d_De_neededFrom_28 rfl rfl ?_
            refine ax_isub G d_De_neededFrom_29 ?_
            have e3 : nI k + 1 - x = nI (nf d n x.toInt) := by
              apply i32_eq
              unfold nf
              rw [← he, if_neg (by omega), nI_1, i32_sub _ _ (by rw [nI_toInt (by omega)]; omega) (by omega), nI_toInt (by omega), nI_toInt (by omega)]
              omega
            rw [e3]
            exact ax_iret G hr E d_De_neededFrom_30 rfl ⟨rfl, rfl⟩
  refine ax_aload_n G d_De_neededFrom_0 rfl rfl ?_
  refine ax_get (ci := 0) (j := 3) G d_De_neededFrom_1 rfl rfl (by decide) k_De_21 rfl ?_
  refine ax_iconst (v := 1) G d_De_neededFrom_4 (by decide) ?_
  refine ax_isub G d_De_neededFrom_5 ?_
  refine ax_istore_n G d_De_neededFrom_6 rfl (by decide) ?_
  exact loop n (Nat.le_refl _) rfl
set_option maxRecDepth 20000 in
set_option maxHeartbeats 1000000 in
theorem ct_De_addOneAtTheEnd (l : Launch) (lc pt : Int32) (n : Nat) (lm : Nat → Int64) (dg : Nat → Int32) (d : Nat → Nat) (hd : de_is dg n d) (hn : n ≤ 774) : ax_CT l y_De_addOneAtTheEnd c_De_addOneAtTheEnd 2 none 0 [.ref 9] (pc_De lc (nI n) pt lm dg) (fun r h => r = none ∧ ∃ dg', h = pc_De lc (nI (inc d n).2.1) (if (inc d n).2.2 then pt + 1 else pt) lm dg' ∧ de_is dg' (inc d n).2.1 (inc d n).1 ∧ (inc d n).2.1 ≤ 774) := by
  refine ax_ofV (by decide) (Nat.le_of_ble_eq_true rfl) ?_
  intro p e s m args below meth c D cid ad A Qc G hr E
  have loop : ∀ (k : Nat), k ≤ n → ln9 d k = ln9 d n → ax_V p l e (ax_rm 0) s m args below meth c D cid ad A 2 0 0 (MQ below Qc args s 0 0 A) 7 [(0, .ref 9), (1, .int (nI k - 1))] [] (pc_De lc (nI n) pt lm dg) := by
    intro k
    induction k with
    | zero =>
      intro hk he
      have e1 : inc d n = (upN d 0 1, 1, true) := by have he0 : ln9 d n = 0 := he.symm; unfold inc; rw [if_pos he0]
      refine ax_iload_n G d_De_addOneAtTheEnd_7 rfl rfl ?_
      refine ax_if_lt (tgt := 47) G d_De_addOneAtTheEnd_8 (by decide) (fun c_8 => ?_) (fun c_8 => ?_)
      · refine ax_aload_n G d_De_addOneAtTheEnd_47 rfl rfl ?_
        refine ax_get (ci := 0) (j := 2) G d_De_addOneAtTheEnd_48 rfl rfl (by decide) k_De_17 rfl ?_
        refine ax_iconst (v := 0) G d_De_addOneAtTheEnd_51 (by decide) ?_
        refine ax_iconst (v := 1) G d_De_addOneAtTheEnd_52 (by decide) ?_
        refine ax_bast G d_De_addOneAtTheEnd_53 rfl (vp_in_nI (n := 0) (by decide) (by decide)) ?_
        refine ax_aload_n G d_De_addOneAtTheEnd_54 rfl rfl ?_
        refine ax_iconst (v := 1) G d_De_addOneAtTheEnd_55 (by decide) ?_
        refine ax_put (ci := 0) (j := 3) G d_De_addOneAtTheEnd_56 rfl rfl (by decide) k_De_21 rfl rfl rfl (Nat.le_of_ble_eq_true rfl) ?_
        refine ax_aload_n G d_De_addOneAtTheEnd_59 rfl rfl ?_
        refine ax_dup G d_De_addOneAtTheEnd_60 rfl ?_
        refine ax_get (ci := 0) (j := 4) G d_De_addOneAtTheEnd_61 rfl rfl (by decide) k_De_24 rfl ?_
        refine ax_iconst (v := 1) G d_De_addOneAtTheEnd_64 (by decide) ?_
        refine ax_iadd G d_De_addOneAtTheEnd_65 ?_
        refine ax_put (ci := 0) (j := 4) G d_De_addOneAtTheEnd_66 rfl rfl (by decide) k_De_24 rfl rfl rfl (Nat.le_of_ble_eq_true rfl) ?_
        refine ax_vret G hr E d_De_addOneAtTheEnd_69 rfl ⟨rfl, _, by rw [e1] <;> rfl, ?_, by rw [e1]; exact Nat.le_of_ble_eq_true rfl⟩
        rw [e1]
        intro i hi
        have e : i = 0 := by have : i < 1 := hi; omega
        subst e
        exact ⟨rfl, show (1 : Nat) < 10 by decide⟩
      · exact absurd (by decide) c_8
    | succ k ih =>
      intro hk he
      obtain ⟨e1, e2⟩ := hd k (by omega)
      rw [ln9_s] at he
      rw [nI_pred]
      refine ax_iload_n G d_De_addOneAtTheEnd_7 rfl rfl ?_
      refine ax_if_lt (tgt := 47) G d_De_addOneAtTheEnd_8 (by decide) (fun c_8 => ?_) (fun c_8 => ?_)
      · exact absurd c_8 (nI_pos (by omega))
      · refine ax_aload_n G d_De_addOneAtTheEnd_11 rfl rfl ?_
        refine ax_get (ci := 0) (j := 2) G d_De_addOneAtTheEnd_12 rfl rfl (by decide) k_De_17 rfl ?_
        refine ax_iload_n G d_De_addOneAtTheEnd_15 rfl rfl ?_
        refine ax_bald G d_De_addOneAtTheEnd_16 rfl (vp_in_nI (by omega) (by omega)) ?_
        rw [nI_clamp (by omega), e1]
        refine ax_bipush (v := 9) G d_De_addOneAtTheEnd_17 (by decide) ?_
        refine ax_icmp_ge (tgt := 41) G d_De_addOneAtTheEnd_19 (by decide) (fun c_19 => ?_) (fun c_19 => ?_)
        · have h9 : ¬ d k < 9 := by have := (nI_leI (a := 9) (by decide) (by omega)).mp c_19; omega
          rw [if_neg h9] at he
          refine ax_iincZ (z := (-1)) G d_De_addOneAtTheEnd_41 rfl (by decide) (by decide) ?_
          refine ax_goto (tgt := 7) G d_De_addOneAtTheEnd_44 (by decide) ?_
          rw [addm1]
          exact ih (by omega) he
        · have h9 : d k < 9 := by
            rcases Nat.lt_or_ge (d k) 9 with q | q
            · exact q
            · exact absurd (nI_le (a := 9) q (by omega)) c_19
          rw [if_pos h9] at he
          have e3 : inc d n = (upN d k (d k + 1), k + 1, false) := by
            unfold inc
            rw [if_neg (by omega), ← he]
            rfl
          refine ax_aload_n G d_De_addOneAtTheEnd_22 rfl rfl ?_
          refine ax_get (ci := 0) (j := 2) G d_De_addOneAtTheEnd_23 rfl rfl (by decide) k_De_17 rfl ?_
          refine ax_iload_n G d_De_addOneAtTheEnd_26 rfl rfl ?_
          refine ax_dup2_11 G d_De_addOneAtTheEnd_27 rfl rfl ?_
          refine ax_bald G d_De_addOneAtTheEnd_28 rfl (vp_in_nI (by omega) (by omega)) ?_
          rw [nI_clamp (by omega), e1]
          refine ax_iconst (v := 1) G d_De_addOneAtTheEnd_29 (by decide) ?_
          refine ax_iadd G d_De_addOneAtTheEnd_30 ?_
          rw [nI_1]
          refine ax_i2b G d_De_addOneAtTheEnd_31 ?_
          refine ax_bast G d_De_addOneAtTheEnd_32 rfl (vp_in_nI (by omega) (by omega)) ?_
          rw [nI_clamp (by omega)]
          refine ax_aload_n G d_De_addOneAtTheEnd_33 rfl rfl ?_
          refine ax_iload_n G d_De_addOneAtTheEnd_34 rfl rfl ?_
          refine ax_iconst (v := 1) G d_De_addOneAtTheEnd_35 (by decide) ?_
          refine ax_iadd G d_De_addOneAtTheEnd_36 ?_
          refine ax_put (ci := 0) (j := 3) G d_De_addOneAtTheEnd_37 rfl rfl (by decide) k_De_21 rfl rfl rfl (Nat.le_of_ble_eq_true rfl) ?_
          rw [nI_1]
          refine ax_vret G hr E d_De_addOneAtTheEnd_40 rfl ⟨rfl, _, by rw [e3] <;> rfl, ?_, by rw [e3]; show k + 1 ≤ 774; omega⟩
          rw [e3]
          intro i hi
          have hi : i < k + 1 := hi
          show upd _ _ _ _ = nI (upN d k (d k + 1) i) ∧ upN d k (d k + 1) i < 10
          by_cases hik : i = k
          · subst hik
            rw [pk_us, pk_vb, by_nI (by omega)]
            unfold upN
            rw [if_pos rfl]
            exact ⟨rfl, by omega⟩
          · rw [pk_un hik]
            unfold upN
            rw [if_neg hik]
            exact hd i (by omega)
  refine ax_aload_n G d_De_addOneAtTheEnd_0 rfl rfl ?_
  refine ax_get (ci := 0) (j := 3) G d_De_addOneAtTheEnd_1 rfl rfl (by decide) k_De_21 rfl ?_
  refine ax_iconst (v := 1) G d_De_addOneAtTheEnd_4 (by decide) ?_
  refine ax_isub G d_De_addOneAtTheEnd_5 ?_
  refine ax_istore_n G d_De_addOneAtTheEnd_6 rfl (by decide) ?_
  exact loop n (Nat.le_refl _) rfl
set_option maxRecDepth 20000 in
set_option maxHeartbeats 1000000 in
theorem ct_De_round (l : Launch) (lc pt x : Int32) (n : Nat) (lm : Nat → Int64) (dg : Nat → Int32) (d : Nat → Nat) (hd : de_is dg n d) (hn : n ≤ 774) (hx : -100000 ≤ x.toInt ∧ x.toInt ≤ 100000) : ax_CT l y_De_round c_De_round 5 none 1 [.ref 9, .int x] (pc_De lc (nI n) pt lm dg) (fun r h => r = none ∧ ∃ dg', h = pc_De lc (nI (rnd d n pt x.toInt).2.1) (rnd d n pt x.toInt).2.2 lm dg' ∧ de_is dg' (rnd d n pt x.toInt).2.1 (rnd d n pt x.toInt).1 ∧ (rnd d n pt x.toInt).2.1 ≤ 774) := by
  refine ax_ofV (by decide) (Nat.le_of_ble_eq_true rfl) ?_
  intro p e s m args below meth c D cid ad A Qc G hr E
  refine ax_iload_n G d_De_round_0 rfl rfl ?_
  refine ax_aload_n G d_De_round_1 rfl rfl ?_
  refine ax_get (ci := 0) (j := 3) G d_De_round_2 rfl rfl (by decide) k_De_21 rfl ?_
  refine ax_icmp_lt (tgt := 9) G d_De_round_5 (by decide) (fun c_5 => ?_) (fun c_5 => ?_)
  · have h1 : ¬ (n : Int) ≤ x.toInt := by rw [i32_lt, nI_toInt (by omega)] at c_5; omega
    refine ax_iload_n G d_De_round_9 rfl rfl ?_
    refine ax_if_ge (tgt := 18) G d_De_round_10 (by decide) (fun c_10 => ?_) (fun c_10 => ?_)
    · have h2 : ¬ x.toInt < 0 := by rw [i32_le] at c_10; exact Int.not_lt.mpr c_10
      obtain ⟨k, hk, rfl⟩ := nI_of (x := x) (by rw [i32_lt]; exact h2)
      have ek : (nI k).toInt = (k : Int) := nI_toInt hk
      rw [ek] at E h1 h2 hx
      have hkn : k < n := by omega
      obtain ⟨e1, e2⟩ := hd k hkn
      have hdk : de_is dg k d := fun i hi => hd i (by omega)
      -- behind the decision
      have tail : ∀ (z : Bool) (x3 : Int32), z = ups d n k → ax_V p l e (ax_rm 1) s m args below meth c D cid ad A 5 0 0 (MQ below Qc args s 0 0 A) 81 [(0, .ref 9), (1, .int (nI k)), (2, .int (nI (d k))), (3, .int x3)] [.int (zb z)] (pc_De lc (nI n) pt lm dg) := by
        intro z x3 hz
        cases z with
        | true =>
          have er : rnd d n pt k = ((inc d k).1, (inc d k).2.1, if (inc d k).2.2 then pt + 1 else pt) := by
            unfold rnd; rw [if_neg h1, if_neg h2, Int.toNat_natCast, ← hz, if_pos rfl]
          refine ax_istore G d_De_round_81 (by decide) ?_
          refine ax_aload_n G d_De_round_83 rfl rfl ?_
          refine ax_iload_n G d_De_round_84 rfl rfl ?_
          refine ax_put (ci := 0) (j := 3) G d_De_round_85 rfl rfl (by decide) k_De_21 rfl rfl rfl (Nat.le_of_ble_eq_true rfl) ?_
          refine ax_iload G d_De_round_88 rfl ?_
          refine ax_if_eq (tgt := 100) G d_De_round_90 (by decide) (fun c_90 => ?_) (fun c_90 => ?_)
          · exact absurd c_90 (by decide)
          · refine ax_aload_n G d_De_round_93 rfl rfl ?_
            refine ax_callV (n := 0) G (ct_De_addOneAtTheEnd l lc pt k lm dg d hdk (by omega)) d_De_round_94 rfl ⟨rfl, rfl, rfl, trivial⟩ rfl rfl rfl kc_De_addOneAtTheEnd ⟨k_De_57, ki_De_addOneAtTheEnd, ks_De_addOneAtTheEnd, kk_De⟩ (by decide +kernel) rfl ⟨by decide, by decide⟩ (Nat.le_of_ble_eq_true rfl) ⟨by decide, by decide⟩ (fun r hc_ hq hk_ => ?_)
            obtain ⟨rfl, dg2, rfl, h3, h4⟩ := hq
            refine ax_goto (tgt := 108) G d_De_round_97 (by decide) ?_
            exact ax_vret G hr E d_De_round_108 rfl ⟨rfl, dg2, by rw [er] <;> rfl, by rw [er]; exact h3, by rw [er]; exact h4⟩
        | false =>
          refine ax_istore G d_De_round_81 (by decide) ?_
          refine ax_aload_n G d_De_round_83 rfl rfl ?_
          refine ax_iload_n G d_De_round_84 rfl rfl ?_
          refine ax_put (ci := 0) (j := 3) G d_De_round_85 rfl rfl (by decide) k_De_21 rfl rfl rfl (Nat.le_of_ble_eq_true rfl) ?_
          refine ax_iload G d_De_round_88 rfl ?_
          refine ax_if_eq (tgt := 100) G d_De_round_90 (by decide) (fun c_90 => ?_) (fun c_90 => ?_)
          · refine ax_iload_n G d_De_round_100 rfl rfl ?_
            refine ax_if_ne (tgt := 108) G d_De_round_101 (by decide) (fun c_101 => ?_) (fun c_101 => ?_)
            · have hk0 : ¬ (k : Int) = 0 := fun q => c_101 (by rw [show k = 0 by omega]; rfl)
              have er : rnd d n pt k = (d, k, pt) := by
                unfold rnd; rw [if_neg h1, if_neg h2, Int.toNat_natCast, ← hz, if_neg (by decide), if_neg hk0]
              exact ax_vret G hr E d_De_round_108 rfl ⟨rfl, dg, by rw [er] <;> rfl, by rw [er]; exact hdk, by rw [er]; show k ≤ 774; omega⟩
            · have hk0 : k = 0 := (nI_eq (a := k) (b := 0) hk (by decide)).mp c_101
              subst hk0
              have er : rnd d n pt (0 : Nat) = (d, 0, 1) := by
                unfold rnd; rw [if_neg h1, if_neg h2, Int.toNat_natCast, ← hz, if_neg (by decide), if_pos (by omega)]
              refine ax_aload_n G d_De_round_104 rfl rfl ?_
              refine ax_callV (n := 0) G (ct_De_becomeZero l lc (nI 0) pt lm dg) d_De_round_105 rfl ⟨rfl, rfl, rfl, trivial⟩ rfl rfl rfl kc_De_becomeZero ⟨k_De_27, ki_De_becomeZero, ks_De_becomeZero, kk_De⟩ (by decide +kernel) rfl ⟨by decide, by decide⟩ (Nat.le_of_ble_eq_true rfl) ⟨by decide, by decide⟩ (fun r hc_ hq hk_ => ?_)
              obtain ⟨rfl, rfl⟩ := hq
              exact ax_vret G hr E d_De_round_108 rfl ⟨rfl, dg, by rw [er] <;> rfl, by rw [er]; exact fun i hi => absurd hi (Nat.not_lt_zero i), by rw [er]; exact Nat.le_of_ble_eq_true rfl⟩
          · exact absurd rfl c_90
      refine ax_aload_n G d_De_round_18 rfl rfl ?_
      refine ax_get (ci := 0) (j := 2) G d_De_round_19 rfl rfl (by decide) k_De_17 rfl ?_
      refine ax_iload_n G d_De_round_22 rfl rfl ?_
      refine ax_bald G d_De_round_23 rfl (vp_in_nI (by omega) (by omega)) ?_
      rw [nI_clamp (by omega), e1]
      have notHalf : ¬ (d k = 5 ∧ lnz d n ≤ k + 1) → ax_V p l e (ax_rm 1) s m args below meth c D cid ad A 5 0 0 (MQ below Qc args s 0 0 A) 44 [(0, .ref 9), (1, .int (nI k)), (2, .int (nI (d k)))] [] (pc_De lc (nI n) pt lm dg) := by
        intro hh
        refine ax_iconst (v := 0) G d_De_round_44 (by decide) ?_
        refine ax_istore_n G d_De_round_45 rfl (by decide) ?_
        refine ax_iload_n G d_De_round_46 rfl rfl ?_
        refine ax_if_eq (tgt := 71) G d_De_round_47 (by decide) (fun c_47 => ?_) (fun c_47 => ?_)
        · refine ax_iload_n G d_De_round_71 rfl rfl ?_
          refine ax_iconst (v := 5) G d_De_round_72 (by decide) ?_
          refine ax_icmp_lt (tgt := 80) G d_De_round_73 (by decide) (fun c_73 => ?_) (fun c_73 => ?_)
          · have h5 : ¬ 5 ≤ d k := by have := (nI_ltI (b := 5) (by omega) (by decide)).mp c_73; omega
            refine ax_iconst (v := 0) G d_De_round_80 (by decide) ?_
            exact tail false _ (by unfold ups; rw [if_neg hh]; exact (decide_eq_false h5).symm)
          · have h5 : 5 ≤ d k := by
              rcases Nat.lt_or_ge (d k) 5 with q | q
              · exact absurd ((nI_ltI (b := 5) (by omega) (by decide)).mpr q) c_73
              · exact q
            refine ax_iconst (v := 1) G d_De_round_76 (by decide) ?_
            refine ax_goto (tgt := 81) G d_De_round_77 (by decide) ?_
            exact tail true _ (by unfold ups; rw [if_neg hh]; exact (decide_eq_true h5).symm)
        · exact absurd rfl c_47
      refine ax_istore_n G d_De_round_24 rfl (by decide) ?_
      refine ax_iload_n G d_De_round_25 rfl rfl ?_
      refine ax_iconst (v := 5) G d_De_round_26 (by decide) ?_
      refine ax_icmp_ne (tgt := 44) G d_De_round_27 (by decide) (fun c_27 => ?_) (fun c_27 => ?_)
      · have h5 : ¬ d k = 5 := fun q => c_27 (by rw [q]; rfl)
        exact notHalf (fun q => h5 q.1)
      · have h5 : d k = 5 := (nI_eq (b := 5) (by omega) (by decide)).mp c_27
        refine ax_aload_n G d_De_round_30 rfl rfl ?_
        refine ax_iload_n G d_De_round_31 rfl rfl ?_
        refine ax_iconst (v := 1) G d_De_round_32 (by decide) ?_
        refine ax_iadd G d_De_round_33 ?_
        rw [nI_1]
        refine ax_callV (n := 1) G (ct_De_neededFrom l lc pt (nI (k + 1)) n lm dg d hd hn (by rw [nI_toInt (by omega)]; omega)) d_De_round_34 rfl ⟨rfl, rfl, rfl, trivial⟩ rfl rfl rfl kc_De_neededFrom ⟨k_De_50, ki_De_neededFrom, ks_De_neededFrom, kk_De⟩ (by decide +kernel) rfl ⟨by decide, by decide⟩ (Nat.le_of_ble_eq_true rfl) ⟨by decide, by decide⟩ (fun r hc_ hq hk_ => ?_)
        obtain ⟨rfl, rfl⟩ := hq
        have hnf : nI (nf d n (nI (k + 1)).toInt) = 0 ↔ lnz d n ≤ k + 1 := by
          rw [nI_toInt (by omega)]
          have hl := lnz_le d n
          have := nI_eq (a := nf d n ((k + 1 : Nat) : Int)) (b := 0) (by unfold nf; split <;> omega) (by decide)
          rw [nI_0] at this
          rw [this]
          unfold nf
          split <;> omega
        refine ax_if_ne (tgt := 44) G d_De_round_37 (by decide) (fun c_37 => ?_) (fun c_37 => ?_)
        · exact notHalf (fun q => c_37 (hnf.mpr q.2))
        · have hh : d k = 5 ∧ lnz d n ≤ k + 1 := ⟨h5, hnf.mp c_37⟩
          refine ax_iconst (v := 1) G d_De_round_40 (by decide) ?_
          refine ax_goto (tgt := 45) G d_De_round_41 (by decide) ?_
          refine ax_istore_n G d_De_round_45 rfl (by decide) ?_
          refine ax_iload_n G d_De_round_46 rfl rfl ?_
          refine ax_if_eq (tgt := 71) G d_De_round_47 (by decide) (fun c_47 => ?_) (fun c_47 => ?_)
          · exact absurd c_47 (by decide)
          · refine ax_aload_n G d_De_round_50 rfl rfl ?_
            refine ax_iload_n G d_De_round_51 rfl rfl ?_
            refine ax_iconst (v := 1) G d_De_round_52 (by decide) ?_
            refine ax_isub G d_De_round_53 ?_
            refine ax_callV (n := 1) G (ct_De_digitAt l lc pt (nI k - 1) n lm dg hn) d_De_round_54 rfl ⟨rfl, rfl, rfl, trivial⟩ rfl rfl rfl kc_De_digitAt ⟨k_De_54, ki_De_digitAt, ks_De_digitAt, kk_De⟩ (by decide +kernel) rfl ⟨by decide, by decide⟩ (Nat.le_of_ble_eq_true rfl) ⟨by decide, by decide⟩ (fun r hc_ hq hk_ => ?_)
            obtain ⟨rfl, rfl⟩ := hq
            refine ax_iconst (v := 2) G d_De_round_57 (by decide) ?_
            refine ax_irem G d_De_round_58 (by decide) ?_
            by_cases hk0 : k = 0
            · subst hk0
              have e7 : (if ¬ nI 0 - 1 < 0 ∧ nI 0 - 1 < nI n then dg (nI 0 - 1).toNatClampNeg else 0) = (0 : Int32) := if_neg (fun q => q.1 (by decide))
              rw [e7]
              refine ax_iconst (v := 1) G d_De_round_59 (by decide) ?_
              refine ax_icmp_ne (tgt := 67) G d_De_round_60 (by decide) (fun c_60 => ?_) (fun c_60 => ?_)
              · refine ax_iconst (v := 0) G d_De_round_67 (by decide) ?_
                refine ax_goto (tgt := 81) G d_De_round_68 (by decide) ?_
                exact tail false _ (by unfold ups; rw [if_pos hh]; rfl)
              · exact absurd c_60 (by decide)
            · obtain ⟨j, rfl⟩ : ∃ j, k = j + 1 := ⟨k - 1, by omega⟩
              obtain ⟨g1, g2⟩ := hd j (by omega)
              have e7 : (if ¬ nI (j + 1) - 1 < 0 ∧ nI (j + 1) - 1 < nI n then dg (nI (j + 1) - 1).toNatClampNeg else 0) = nI (d j) := by
                rw [nI_pred, if_pos ⟨nI_pos (by omega), nI_lt (by omega) (by omega)⟩, nI_clamp (by omega), g1]
              rw [e7]
              have e8 : nI (d j) - nI (d j) / 2 * 2 = nI (d j % 2) := pk_rem (d := 2) (by omega) (by decide) (by decide)
              rw [e8]
              refine ax_iconst (v := 1) G d_De_round_59 (by decide) ?_
              refine ax_icmp_ne (tgt := 67) G d_De_round_60 (by decide) (fun c_60 => ?_) (fun c_60 => ?_)
              · have hne : ¬ d j % 2 = 1 := fun q => c_60 (by rw [q]; rfl)
                refine ax_iconst (v := 0) G d_De_round_67 (by decide) ?_
                refine ax_goto (tgt := 81) G d_De_round_68 (by decide) ?_
                exact tail false _ (by unfold ups; rw [if_pos hh]; exact (decide_eq_false (fun q => hne q.2)).symm)
              · have heq : d j % 2 = 1 := (nI_eq (b := 1) (by omega) (by decide)).mp c_60
                refine ax_iconst (v := 1) G d_De_round_63 (by decide) ?_
                refine ax_goto (tgt := 81) G d_De_round_64 (by decide) ?_
                exact tail true _ (by unfold ups; rw [if_pos hh]; exact (decide_eq_true ⟨by omega, heq⟩).symm)
    · have h2 : x.toInt < 0 := by rw [i32_le] at c_10; exact Int.not_le.mp c_10
      have er : rnd d n pt x.toInt = (d, 0, 1) := by unfold rnd; rw [if_neg h1, if_pos h2]
      refine ax_aload_n G d_De_round_13 rfl rfl ?_
      refine ax_callV (n := 0) G (ct_De_becomeZero l lc (nI n) pt lm dg) d_De_round_14 rfl ⟨rfl, rfl, rfl, trivial⟩ rfl rfl rfl kc_De_becomeZero ⟨k_De_27, ki_De_becomeZero, ks_De_becomeZero, kk_De⟩ (by decide +kernel) rfl ⟨by decide, by decide⟩ (Nat.le_of_ble_eq_true rfl) ⟨by decide, by decide⟩ (fun r hc_ hq hk_ => ?_)
      obtain ⟨rfl, rfl⟩ := hq
      exact ax_vret G hr E d_De_round_17 rfl ⟨rfl, dg, by rw [er] <;> rfl, by rw [er]; exact fun i hi => absurd hi (Nat.not_lt_zero i), by rw [er]; exact Nat.le_of_ble_eq_true rfl⟩
  · have h1 : (n : Int) ≤ x.toInt := by rw [i32_lt, nI_toInt (by omega)] at c_5; omega
    have er : rnd d n pt x.toInt = (d, n, pt) := by unfold rnd; rw [if_pos h1]
    exact ax_vret G hr E d_De_round_8 rfl ⟨rfl, dg, by rw [er] <;> rfl, by rw [er]; exact hd, by rw [er]; exact hn⟩

