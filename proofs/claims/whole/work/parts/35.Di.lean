/-! FormatDesk$Directive -/
set_option maxRecDepth 20000 in
set_option maxHeartbeats 1000000 in
theorem ct_Di_forget (l : Launch) (lf pl bl ha ze : Bool) (w : Int32) (wt : Bool) (pr : Int32) (pt : Bool) (kd : Int32) (gr : Bool) (pa : Int32) : ax_CT l y_Di_forget c_Di_forget 1 none 0 [.ref 5] (pc_Di lf pl bl ha ze w wt pr pt kd gr pa) (fun r h => r = none ∧ h = pc_Di false false false false false 0 false (-1) false 37 false pa) := by
  refine ax_ofV (by decide) (Nat.le_of_ble_eq_true rfl) ?_
  intro p e s m args below meth c D cid ad A Qc G hr E
  refine ax_aload_n G d_Di_forget_0 rfl rfl ?_
  refine ax_iconst (v := 0) G d_Di_forget_1 (by decide) ?_
  refine ax_put (ci := 1) (j := 0) G d_Di_forget_2 rfl rfl (by decide) k_Di_32 rfl rfl rfl (Nat.le_of_ble_eq_true rfl) ?_
  refine ax_aload_n G d_Di_forget_5 rfl rfl ?_
  refine ax_iconst (v := 0) G d_Di_forget_6 (by decide) ?_
  refine ax_put (ci := 1) (j := 1) G d_Di_forget_7 rfl rfl (by decide) k_Di_36 rfl rfl rfl (Nat.le_of_ble_eq_true rfl) ?_
  refine ax_aload_n G d_Di_forget_10 rfl rfl ?_
  refine ax_iconst (v := 0) G d_Di_forget_11 (by decide) ?_
  refine ax_put (ci := 1) (j := 2) G d_Di_forget_12 rfl rfl (by decide) k_Di_39 rfl rfl rfl (Nat.le_of_ble_eq_true rfl) ?_
  refine ax_aload_n G d_Di_forget_15 rfl rfl ?_
  refine ax_iconst (v := 0) G d_Di_forget_16 (by decide) ?_
  refine ax_put (ci := 1) (j := 3) G d_Di_forget_17 rfl rfl (by decide) k_Di_42 rfl rfl rfl (Nat.le_of_ble_eq_true rfl) ?_
  refine ax_aload_n G d_Di_forget_20 rfl rfl ?_
  refine ax_iconst (v := 0) G d_Di_forget_21 (by decide) ?_
  refine ax_put (ci := 1) (j := 4) G d_Di_forget_22 rfl rfl (by decide) k_Di_45 rfl rfl rfl (Nat.le_of_ble_eq_true rfl) ?_
  refine ax_aload_n G d_Di_forget_25 rfl rfl ?_
  refine ax_iconst (v := 0) G d_Di_forget_26 (by decide) ?_
  refine ax_put (ci := 1) (j := 5) G d_Di_forget_27 rfl rfl (by decide) k_Di_48 rfl rfl rfl (Nat.le_of_ble_eq_true rfl) ?_
  refine ax_aload_n G d_Di_forget_30 rfl rfl ?_
  refine ax_iconst (v := 0) G d_Di_forget_31 (by decide) ?_
  refine ax_put (ci := 1) (j := 6) G d_Di_forget_32 rfl rfl (by decide) k_Di_51 rfl rfl rfl (Nat.le_of_ble_eq_true rfl) ?_
  refine ax_aload_n G d_Di_forget_35 rfl rfl ?_
  refine ax_iconst (v := (-1)) G d_Di_forget_36 (by decide) ?_
  refine ax_put (ci := 1) (j := 7) G d_Di_forget_37 rfl rfl (by decide) k_Di_54 rfl rfl rfl (Nat.le_of_ble_eq_true rfl) ?_
  refine ax_aload_n G d_Di_forget_40 rfl rfl ?_
  refine ax_iconst (v := 0) G d_Di_forget_41 (by decide) ?_
  refine ax_put (ci := 1) (j := 8) G d_Di_forget_42 rfl rfl (by decide) k_Di_57 rfl rfl rfl (Nat.le_of_ble_eq_true rfl) ?_
  refine ax_aload_n G d_Di_forget_45 rfl rfl ?_
  refine ax_bipush (v := 37) G d_Di_forget_46 (by decide) ?_
  refine ax_put (ci := 1) (j := 9) G d_Di_forget_48 rfl rfl (by decide) k_Di_60 rfl rfl rfl (Nat.le_of_ble_eq_true rfl) ?_
  refine ax_aload_n G d_Di_forget_51 rfl rfl ?_
  refine ax_iconst (v := 0) G d_Di_forget_52 (by decide) ?_
  refine ax_put (ci := 1) (j := 10) G d_Di_forget_53 rfl rfl (by decide) k_Di_63 rfl rfl rfl (Nat.le_of_ble_eq_true rfl) ?_
  exact ax_vret G hr E d_Di_forget_56 rfl ⟨rfl, rfl⟩
set_option maxRecDepth 20000 in
set_option maxHeartbeats 1000000 in
theorem ct_Di_isDigit (l : Launch) (n : Nat) (hn : n < 2 ^ 31) : ax_CT l y_Di_isDigit c_Di_isDigit 1 (some .boolean) 0 [.int (nI n)] [] (fun r h => r = some (.int (if 48 ≤ n ∧ n ≤ 57 then 1 else 0)) ∧ h = []) := by
  refine ax_ofV (by decide) (Nat.le_of_ble_eq_true rfl) ?_
  intro p e s m args below meth c D cid ad A Qc G hr E
  have e1 : (nI n < 48) ↔ n < 48 := nI_ltI hn (b := 48) (by decide)
  have e2 : (57 < nI n) ↔ 57 < n := nI_ltI (a := 57) (by decide) hn
  refine ax_iload_n G d_Di_isDigit_0 rfl rfl ?_
  refine ax_bipush (v := 48) G d_Di_isDigit_1 (by decide) ?_
  refine ax_icmp_lt (tgt := 16) G d_Di_isDigit_3 (by decide) (fun c_3 => ?_) (fun c_3 => ?_)
  · refine ax_iconst (v := 0) G d_Di_isDigit_16 (by decide) ?_
    exact ax_zret G hr E rfl d_Di_isDigit_17 rfl ⟨by rw [if_neg (by have := e1.mp c_3; omega)], rfl⟩
  · have h1 : ¬ n < 48 := fun q => c_3 (e1.mpr q)
    refine ax_iload_n G d_Di_isDigit_6 rfl rfl ?_
    refine ax_bipush (v := 57) G d_Di_isDigit_7 (by decide) ?_
    refine ax_icmp_gt (tgt := 16) G d_Di_isDigit_9 (by decide) (fun c_9 => ?_) (fun c_9 => ?_)
    · refine ax_iconst (v := 0) G d_Di_isDigit_16 (by decide) ?_
      exact ax_zret G hr E rfl d_Di_isDigit_17 rfl ⟨by rw [if_neg (by have := e2.mp c_9; omega)], rfl⟩
    · have h2 : ¬ 57 < n := fun q => c_9 (e2.mpr q)
      refine ax_iconst (v := 1) G d_Di_isDigit_12 (by decide) ?_
      refine ax_goto (tgt := 17) G d_Di_isDigit_13 (by decide) ?_
      exact ax_zret G hr E rfl d_Di_isDigit_17 rfl ⟨by rw [if_pos (by omega)], rfl⟩
set_option maxRecDepth 20000 in
set_option maxHeartbeats 1000000 in
theorem ct_Di_readIf (l : Launch) (n i x : Nat) (f : Nat → Int32) (c0 : Nat → Nat) (lf pl bl ha ze : Bool) (w : Int32) (wt : Bool) (pr : Int32) (pt : Bool) (kd : Int32) (gr : Bool) (hf : fo_is f n c0) (hn : n ≤ 400) (hi : i ≤ 420) (hx1 : 0 < x) (hx : x < 256) : ax_CT l y_Di_readIf c_Di_readIf 3 (some .boolean) 1 [.ref 5, .ref 1, .int (nI x)] (pc_Fo (nI n) f ++ pc_Di lf pl bl ha ze w wt pr pt kd gr (nI i)) (fun r h => r = some (.int (zb (lt c0 n i == x))) ∧ h = pc_Fo (nI n) f ++ pc_Di lf pl bl ha ze w wt pr pt kd gr (nI (if lt c0 n i = x then i + 1 else i))) := by
  refine ax_ofV (by decide) (Nat.le_of_ble_eq_true rfl) ?_
  intro p e s m args below meth c D cid ad A Qc G hr E
  have hlt := lt_lt hf i
  refine ax_aload_n G d_Di_readIf_0 rfl rfl ?_
  refine ax_aload_n G d_Di_readIf_1 rfl rfl ?_
  refine ax_get (ci := 1) (j := 11) G d_Di_readIf_2 rfl rfl (by decide) k_Di_14 rfl ?_
  refine ax_callV (n := 1) G (ct_Fo_letterAt l n i f c0 hf hn (by omega)) d_Di_readIf_5 rfl ⟨rfl, rfl, trivial⟩ rfl rfl rfl kc_Fo_letterAt ⟨k_Di_71, ki_Fo_letterAt, ks_Fo_letterAt, kk_Fo⟩ (by decide +kernel) rfl ⟨by decide, by decide⟩ (Nat.le_of_ble_eq_true rfl) ⟨by decide, by decide⟩ (fun r hc_ hq hk_ => ?_)
  obtain ⟨rfl, rfl⟩ := hq
  rw [show (if i < n then c0 i else 0) = lt c0 n i from rfl]
  refine ax_iload_n G d_Di_readIf_8 rfl rfl ?_
  refine ax_icmp_eq (tgt := 14) G d_Di_readIf_9 (by decide) (fun c_9 => ?_) (fun c_9 => ?_)
  · have he : lt c0 n i = x := (nI_eq (by omega) (by omega)).mp c_9
    refine ax_aload_n G d_Di_readIf_14 rfl rfl ?_
    refine ax_dup G d_Di_readIf_15 rfl ?_
    refine ax_get (ci := 1) (j := 11) G d_Di_readIf_16 rfl rfl (by decide) k_Di_14 rfl ?_
    refine ax_iconst (v := 1) G d_Di_readIf_19 (by decide) ?_
    refine ax_iadd G d_Di_readIf_20 ?_
    refine ax_put (ci := 1) (j := 11) G d_Di_readIf_21 rfl rfl (by decide) k_Di_14 rfl rfl rfl (Nat.le_of_ble_eq_true rfl) ?_
    rw [nI_1]
    refine ax_iconst (v := 1) G d_Di_readIf_24 (by decide) ?_
    exact ax_zret G hr E rfl d_Di_readIf_25 rfl ⟨by rw [he]; simp [zb], by rw [if_pos he]; rfl⟩
  · have he : ¬ lt c0 n i = x := fun q => c_9 (by rw [q])
    refine ax_iconst (v := 0) G d_Di_readIf_12 (by decide) ?_
    exact ax_zret G hr E rfl d_Di_readIf_13 rfl ⟨by simp [zb, he], by rw [if_neg he]; rfl⟩
set_option maxRecDepth 20000 in
set_option maxHeartbeats 1000000 in
theorem ct_Di_readDigits (l : Launch) (n i0 : Nat) (f : Nat → Int32) (c0 : Nat → Nat) (lf pl bl ha ze : Bool) (w : Int32) (wt : Bool) (pr : Int32) (pt : Bool) (kd : Int32) (gr : Bool) (hf : fo_is f n c0) (hn : n ≤ 400) (hi0 : i0 ≤ 410) : ax_CT l y_Di_readDigits c_Di_readDigits 5 (some .int) 1 [.ref 5, .ref 1] (pc_Fo (nI n) f ++ pc_Di lf pl bl ha ze w wt pr pt kd gr (nI i0)) (fun r h => r = some (.int (nI (dgt (lt c0 n) 3 i0 0).1)) ∧ h = pc_Fo (nI n) f ++ pc_Di lf pl bl ha ze w wt pr pt kd gr (nI (if 200 < (dgt (lt c0 n) 3 i0 0).1 then i0 else (dgt (lt c0 n) 3 i0 0).2))) := by
  refine ax_ofV (by decide) (Nat.le_of_ble_eq_true rfl) ?_
  intro p e s m args below meth c D cid ad A Qc G hr E
  have hV := (dgt_le (lt c0 n) 3 i0 0).2.2
  have fin : ∀ (x4 : Int32) (v i : Nat), (v, i) = dgt (lt c0 n) 3 i0 0 → ax_V p l e (ax_rm 1) s m args below meth c D cid ad A 5 0 0 (MQ below Qc args s 0 0 A) 63 [(0, .ref 5), (1, .ref 1), (2, .int (nI i0)), (3, .int (nI v)), (4, .int x4)] [] (pc_Fo (nI n) f ++ pc_Di lf pl bl ha ze w wt pr pt kd gr (nI i)) := by
    intro x4 v i he
    have e1 : (dgt (lt c0 n) 3 i0 0).1 = v := by rw [← he]
    have e2 : (dgt (lt c0 n) 3 i0 0).2 = i := by rw [← he]
    rw [e1] at hV
    refine ax_iload_n G d_Di_readDigits_63 rfl rfl ?_
    refine ax_sipush (v := 200) G d_Di_readDigits_64 (by decide) ?_
    refine ax_icmp_le (tgt := 75) G d_Di_readDigits_67 (by decide) (fun c_67 => ?_) (fun c_67 => ?_)
    · have hle : v ≤ 200 := (nI_leI (b := 200) (by omega) (by decide)).mp c_67
      refine ax_iload_n G d_Di_readDigits_75 rfl rfl ?_
      exact ax_iret G hr E d_Di_readDigits_76 rfl ⟨by rw [e1], by rw [e1, e2, if_neg (by omega)]⟩
    · have hgt : ¬ v ≤ 200 := fun q => c_67 ((nI_leI (b := 200) (by omega) (by decide)).mpr q)
      refine ax_aload_n G d_Di_readDigits_70 rfl rfl ?_
      refine ax_iload_n G d_Di_readDigits_71 rfl rfl ?_
      refine ax_put (ci := 1) (j := 11) G d_Di_readDigits_72 rfl rfl (by decide) k_Di_14 rfl rfl rfl (Nat.le_of_ble_eq_true rfl) ?_
      refine ax_iload_n G d_Di_readDigits_75 rfl rfl ?_
      exact ax_iret G hr E d_Di_readDigits_76 rfl ⟨by rw [e1], by rw [e1, if_pos (by omega)]; rfl⟩
  have loop : ∀ (k j i v : Nat), k + j = 3 → i ≤ 410 + j → v < 10 ^ j → dgt (lt c0 n) k i v = dgt (lt c0 n) 3 i0 0 → ax_V p l e (ax_rm 1) s m args below meth c D cid ad A 5 0 0 (MQ below Qc args s 0 0 A) 10 [(0, .ref 5), (1, .ref 1), (2, .int (nI i0)), (3, .int (nI v)), (4, .int (nI j))] [] (pc_Fo (nI n) f ++ pc_Di lf pl bl ha ze w wt pr pt kd gr (nI i)) := by
    intro k
    induction k with
    | zero =>
      intro j i v hj hi hv he
      refine ax_iload G d_Di_readDigits_10 rfl ?_
      refine ax_iconst (v := 3) G d_Di_readDigits_12 (by decide) ?_
      refine ax_icmp_ge (tgt := 63) G d_Di_readDigits_13 (by decide) (fun c_13 => ?_) (fun c_13 => ?_)
      · exact fin _ v i he
      · exact absurd (nI_le (a := 3) (by omega) (by omega)) c_13
    | succ k ih =>
      intro j i v hj hi hv he
      have hlt := lt_lt hf i
      have hp : 10 ^ j ≤ 100 := Nat.le_trans (Nat.pow_le_pow_right (by decide) (show j ≤ 2 by omega)) (by decide)
      rw [dgt_s] at he
      refine ax_iload G d_Di_readDigits_10 rfl ?_
      refine ax_iconst (v := 3) G d_Di_readDigits_12 (by decide) ?_
      refine ax_icmp_ge (tgt := 63) G d_Di_readDigits_13 (by decide) (fun c_13 => ?_) (fun c_13 => ?_)
      · exact absurd c_13 (nI_ge (b := 3) (by omega) (by decide))
      · refine ax_aload_n G d_Di_readDigits_16 rfl rfl ?_
        refine ax_aload_n G d_Di_readDigits_17 rfl rfl ?_
        refine ax_get (ci := 1) (j := 11) G d_Di_readDigits_18 rfl rfl (by decide) k_Di_14 rfl ?_
        refine ax_callV (n := 1) G (ct_Fo_letterAt l n i f c0 hf hn (by omega)) d_Di_readDigits_21 rfl ⟨rfl, rfl, trivial⟩ rfl rfl rfl kc_Fo_letterAt ⟨k_Di_71, ki_Fo_letterAt, ks_Fo_letterAt, kk_Fo⟩ (by decide +kernel) rfl ⟨by decide, by decide⟩ (Nat.le_of_ble_eq_true rfl) ⟨by decide, by decide⟩ (fun r hc_ hq hk_ => ?_)
        obtain ⟨rfl, rfl⟩ := hq
        rw [show (if i < n then c0 i else 0) = lt c0 n i from rfl]
        refine ax_callS (n := 1) G (ct_Di_isDigit l (lt c0 n i) (by omega)) d_Di_readDigits_24 rfl trivial rfl kc_Di_isDigit ⟨k_Di_83, kt_Di_isDigit, kk_Di⟩ (by decide +kernel) rfl ⟨by decide, by decide⟩ (Nat.le_of_ble_eq_true rfl) ⟨by decide, by decide⟩ (fun r hc_ hq hk_ => ?_)
        obtain ⟨rfl, rfl⟩ := hq
        by_cases hd : 48 ≤ lt c0 n i ∧ lt c0 n i ≤ 57
        · rw [if_pos hd] at he ⊢
          refine ax_if_eq (tgt := 63) G d_Di_readDigits_27 (by decide) (fun c_27 => ?_) (fun c_27 => ?_)
          · exact absurd c_27 (by decide)
          · refine ax_bipush (v := 10) G d_Di_readDigits_30 (by decide) ?_
            refine ax_iload_n G d_Di_readDigits_32 rfl rfl ?_
            refine ax_imul G d_Di_readDigits_33 ?_
            refine ax_aload_n G d_Di_readDigits_34 rfl rfl ?_
            refine ax_aload_n G d_Di_readDigits_35 rfl rfl ?_
            refine ax_get (ci := 1) (j := 11) G d_Di_readDigits_36 rfl rfl (by decide) k_Di_14 rfl ?_
            refine ax_callV (n := 1) G (ct_Fo_letterAt l n i f c0 hf hn (by omega)) d_Di_readDigits_39 rfl ⟨rfl, rfl, trivial⟩ rfl rfl rfl kc_Fo_letterAt ⟨k_Di_71, ki_Fo_letterAt, ks_Fo_letterAt, kk_Fo⟩ (by decide +kernel) rfl ⟨by decide, by decide⟩ (Nat.le_of_ble_eq_true rfl) ⟨by decide, by decide⟩ (fun r hc_ hq hk_ => ?_)
            obtain ⟨rfl, rfl⟩ := hq
            rw [show (if i < n then c0 i else 0) = lt c0 n i from rfl]
            refine ax_iadd G d_Di_readDigits_42 ?_
            refine ax_bipush (v := 48) G d_Di_readDigits_43 (by decide) ?_
            refine ax_isub G d_Di_readDigits_45 ?_
            rw [show (10 : Int32) * nI v + nI (lt c0 n i) - 48 = nI (10 * v + (lt c0 n i - 48)) by
              rw [show (10 : Int32) = nI 10 from rfl, pk_mul, nI_add, show (48 : Int32) = nI 48 from rfl, pk_sub (by omega)]
              congr 1
              omega]
            refine ax_istore_n G d_Di_readDigits_46 rfl (by decide) ?_
            refine ax_aload_n G d_Di_readDigits_47 rfl rfl ?_
            refine ax_dup G d_Di_readDigits_48 rfl ?_
            refine ax_get (ci := 1) (j := 11) G d_Di_readDigits_49 rfl rfl (by decide) k_Di_14 rfl ?_
            refine ax_iconst (v := 1) G d_Di_readDigits_52 (by decide) ?_
            refine ax_iadd G d_Di_readDigits_53 ?_
            refine ax_put (ci := 1) (j := 11) G d_Di_readDigits_54 rfl rfl (by decide) k_Di_14 rfl rfl rfl (Nat.le_of_ble_eq_true rfl) ?_
            refine ax_iincZ (z := 1) G d_Di_readDigits_57 rfl (by decide) (by decide) ?_
            refine ax_goto (tgt := 10) G d_Di_readDigits_60 (by decide) ?_
            rw [nI_1, nI_1]
            exact ih (j + 1) (i + 1) _ (by omega) (by omega) (by rw [Nat.pow_succ]; omega) he
        · rw [if_neg hd] at he ⊢
          refine ax_if_eq (tgt := 63) G d_Di_readDigits_27 (by decide) (fun c_27 => ?_) (fun c_27 => ?_)
          · exact fin _ v i he
          · exact absurd rfl c_27
  refine ax_aload_n G d_Di_readDigits_0 rfl rfl ?_
  refine ax_get (ci := 1) (j := 11) G d_Di_readDigits_1 rfl rfl (by decide) k_Di_14 rfl ?_
  refine ax_istore_n G d_Di_readDigits_4 rfl (by decide) ?_
  refine ax_iconst (v := 0) G d_Di_readDigits_5 (by decide) ?_
  refine ax_istore_n G d_Di_readDigits_6 rfl (by decide) ?_
  refine ax_iconst (v := 0) G d_Di_readDigits_7 (by decide) ?_
  refine ax_istore G d_Di_readDigits_8 (by decide) ?_
  exact loop 3 0 i0 0 rfl (by omega) (by decide) rfl
set_option maxRecDepth 20000 in
set_option maxHeartbeats 1000000 in
theorem ct_Di_readFlags (l : Launch) (n i0 : Nat) (f : Nat → Int32) (c0 : Nat → Nat) (lf pl bl ha ze : Bool) (w : Int32) (wt : Bool) (pr : Int32) (pt : Bool) (kd : Int32) (gr : Bool) (hf : fo_is f n c0) (hn : n ≤ 400) (hi0 : i0 ≤ n) : ax_CT l y_Di_readFlags c_Di_readFlags 2 none 1 [.ref 5, .ref 1] (pc_Fo (nI n) f ++ pc_Di lf pl bl ha ze w wt pr pt kd gr (nI i0)) (fun r h => r = none ∧ ∃ q, q = flg (lt c0 n) (n - i0) i0 lf pl bl ha ze ∧ h = pc_Fo (nI n) f ++ pc_Di q.1 q.2.1 q.2.2.1 q.2.2.2.1 q.2.2.2.2.1 w wt pr pt kd gr (nI q.2.2.2.2.2)) := by
  refine ax_ofV (by decide) (Nat.le_of_ble_eq_true rfl) ?_
  intro p e s m args below meth c D cid ad A Qc G hr E
  have loop : ∀ (k i : Nat) (a1 a2 a3 a4 a5 : Bool), k + i = n → flg (lt c0 n) k i a1 a2 a3 a4 a5 = flg (lt c0 n) (n - i0) i0 lf pl bl ha ze → ax_V p l e (ax_rm 1) s m args below meth c D cid ad A 2 0 0 (MQ below Qc args s 0 0 A) 0 [(0, .ref 5), (1, .ref 1)] [] (pc_Fo (nI n) f ++ pc_Di a1 a2 a3 a4 a5 w wt pr pt kd gr (nI i)) := by
    intro k
    induction k with
    | zero =>
      intro i a1 a2 a3 a4 a5 hk he
      refine ax_aload_n G d_Di_readFlags_0 rfl rfl ?_
      refine ax_get (ci := 1) (j := 11) G d_Di_readFlags_1 rfl rfl (by decide) k_Di_14 rfl ?_
      refine ax_aload_n G d_Di_readFlags_4 rfl rfl ?_
      refine ax_getN (ci := 2) (j := 1) G d_Di_readFlags_5 rfl rfl (by decide) k_Di_66 rfl ?_
      refine ax_icmp_ge (tgt := 122) G d_Di_readFlags_8 (by decide) (fun c_8 => ?_) (fun c_8 => ?_)
      · exact ax_vret G hr E d_Di_readFlags_122 rfl ⟨rfl, _, rfl, by rw [← he]; rfl⟩
      · exact absurd (nI_le (by omega) (by omega)) c_8
    | succ k ih =>
      intro i a1 a2 a3 a4 a5 hk he
      have hlt := lt_lt hf i
      have next : ∀ (b1 b2 b3 b4 b5 : Bool), flg (lt c0 n) k (i + 1) b1 b2 b3 b4 b5 = flg (lt c0 n) (n - i0) i0 lf pl bl ha ze → ax_V p l e (ax_rm 1) s m args below meth c D cid ad A 2 0 0 (MQ below Qc args s 0 0 A) 109 [(0, .ref 5), (1, .ref 1)] [] (pc_Fo (nI n) f ++ pc_Di b1 b2 b3 b4 b5 w wt pr pt kd gr (nI i)) := by
        intro b1 b2 b3 b4 b5 hb
        refine ax_aload_n G d_Di_readFlags_109 rfl rfl ?_
        refine ax_dup G d_Di_readFlags_110 rfl ?_
        refine ax_get (ci := 1) (j := 11) G d_Di_readFlags_111 rfl rfl (by decide) k_Di_14 rfl ?_
        refine ax_iconst (v := 1) G d_Di_readFlags_114 (by decide) ?_
        refine ax_iadd G d_Di_readFlags_115 ?_
        refine ax_put (ci := 1) (j := 11) G d_Di_readFlags_116 rfl rfl (by decide) k_Di_14 rfl rfl rfl (Nat.le_of_ble_eq_true rfl) ?_
        refine ax_goto (tgt := 0) G d_Di_readFlags_119 (by decide) ?_
        rw [nI_1]
        exact ih (i + 1) b1 b2 b3 b4 b5 (by omega) hb
      rw [flg_s] at he
      refine ax_aload_n G d_Di_readFlags_0 rfl rfl ?_
      refine ax_get (ci := 1) (j := 11) G d_Di_readFlags_1 rfl rfl (by decide) k_Di_14 rfl ?_
      refine ax_aload_n G d_Di_readFlags_4 rfl rfl ?_
      refine ax_getN (ci := 2) (j := 1) G d_Di_readFlags_5 rfl rfl (by decide) k_Di_66 rfl ?_
      refine ax_icmp_ge (tgt := 122) G d_Di_readFlags_8 (by decide) (fun c_8 => ?_) (fun c_8 => ?_)
      · exact absurd c_8 (nI_ge (by omega) (by omega))
      · refine ax_aload_n G d_Di_readFlags_11 rfl rfl ?_
        refine ax_aload_n G d_Di_readFlags_12 rfl rfl ?_
        refine ax_get (ci := 1) (j := 11) G d_Di_readFlags_13 rfl rfl (by decide) k_Di_14 rfl ?_
        refine ax_callV (n := 1) G (ct_Fo_letterAt l n i f c0 hf hn (by omega)) d_Di_readFlags_16 rfl ⟨rfl, rfl, trivial⟩ rfl rfl rfl kc_Fo_letterAt ⟨k_Di_71, ki_Fo_letterAt, ks_Fo_letterAt, kk_Fo⟩ (by decide +kernel) rfl ⟨by decide, by decide⟩ (Nat.le_of_ble_eq_true rfl) ⟨by decide, by decide⟩ (fun r hc_ hq hk_ => ?_)
        obtain ⟨rfl, rfl⟩ := hq
        rw [show (if i < n then c0 i else 0) = lt c0 n i from rfl]
        by_cases h45 : lt c0 n i = 45
        · rw [if_pos h45] at he
          rw [h45]
          refine ax_lookup (tgt := 68) (off := 49) G d_Di_readFlags_19 (by decide) (by decide) (by decide) ?_
          refine ax_aload_n G d_Di_readFlags_68 rfl rfl ?_
          refine ax_iconst (v := 1) G d_Di_readFlags_69 (by decide) ?_
          refine ax_put (ci := 1) (j := 0) G d_Di_readFlags_70 rfl rfl (by decide) k_Di_32 rfl rfl rfl (Nat.le_of_ble_eq_true rfl) ?_
          refine ax_goto (tgt := 109) G d_Di_readFlags_73 (by decide) ?_
          exact next true a2 a3 a4 a5 he
        rw [if_neg h45] at he
        by_cases h43 : lt c0 n i = 43
        · rw [if_pos h43] at he
          rw [h43]
          refine ax_lookup (tgt := 76) (off := 57) G d_Di_readFlags_19 (by decide) (by decide) (by decide) ?_
          refine ax_aload_n G d_Di_readFlags_76 rfl rfl ?_
          refine ax_iconst (v := 1) G d_Di_readFlags_77 (by decide) ?_
          refine ax_put (ci := 1) (j := 1) G d_Di_readFlags_78 rfl rfl (by decide) k_Di_36 rfl rfl rfl (Nat.le_of_ble_eq_true rfl) ?_
          refine ax_goto (tgt := 109) G d_Di_readFlags_81 (by decide) ?_
          exact next a1 true a3 a4 a5 he
        rw [if_neg h43] at he
        by_cases h32 : lt c0 n i = 32
        · rw [if_pos h32] at he
          rw [h32]
          refine ax_lookup (tgt := 84) (off := 65) G d_Di_readFlags_19 (by decide) (by decide) (by decide) ?_
          refine ax_aload_n G d_Di_readFlags_84 rfl rfl ?_
          refine ax_iconst (v := 1) G d_Di_readFlags_85 (by decide) ?_
          refine ax_put (ci := 1) (j := 2) G d_Di_readFlags_86 rfl rfl (by decide) k_Di_39 rfl rfl rfl (Nat.le_of_ble_eq_true rfl) ?_
          refine ax_goto (tgt := 109) G d_Di_readFlags_89 (by decide) ?_
          exact next a1 a2 true a4 a5 he
        rw [if_neg h32] at he
        by_cases h35 : lt c0 n i = 35
        · rw [if_pos h35] at he
          rw [h35]
          refine ax_lookup (tgt := 92) (off := 73) G d_Di_readFlags_19 (by decide) (by decide) (by decide) ?_
          refine ax_aload_n G d_Di_readFlags_92 rfl rfl ?_
          refine ax_iconst (v := 1) G d_Di_readFlags_93 (by decide) ?_
          refine ax_put (ci := 1) (j := 3) G d_Di_readFlags_94 rfl rfl (by decide) k_Di_42 rfl rfl rfl (Nat.le_of_ble_eq_true rfl) ?_
          refine ax_goto (tgt := 109) G d_Di_readFlags_97 (by decide) ?_
          exact next a1 a2 a3 true a5 he
        rw [if_neg h35] at he
        by_cases h48 : lt c0 n i = 48
        · rw [if_pos h48] at he
          rw [h48]
          refine ax_lookup (tgt := 100) (off := 81) G d_Di_readFlags_19 (by decide) (by decide) (by decide) ?_
          refine ax_aload_n G d_Di_readFlags_100 rfl rfl ?_
          refine ax_iconst (v := 1) G d_Di_readFlags_101 (by decide) ?_
          refine ax_put (ci := 1) (j := 4) G d_Di_readFlags_102 rfl rfl (by decide) k_Di_45 rfl rfl rfl (Nat.le_of_ble_eq_true rfl) ?_
          refine ax_goto (tgt := 109) G d_Di_readFlags_105 (by decide) ?_
          exact next a1 a2 a3 a4 true he
        rw [if_neg h48] at he
        have ne : ∀ q : Nat, q < 256 → lt c0 n i ≠ q → ¬ nI (lt c0 n i) = nI q := fun q hq h z => h ((nI_eq (by omega) (by omega)).mp z)
        refine ax_lookup (tgt := 108) (off := 89) G d_Di_readFlags_19 (by decide) ?_ (by decide) ?_
        · show Op.lookupswitch.offset [(32, 65), (35, 73), (43, 57), (45, 49), (48, 81)] 89 _ = 89
          rw [lv_osw (a := 32) (ne 32 (by decide) h32) (by decide), lv_osw (a := 35) (ne 35 (by decide) h35) (by decide), lv_osw (a := 43) (ne 43 (by decide) h43) (by decide), lv_osw (a := 45) (ne 45 (by decide) h45) (by decide), lv_osw (a := 48) (ne 48 (by decide) h48) (by decide)]
          rfl
        · exact ax_vret G hr E d_Di_readFlags_108 rfl ⟨rfl, _, rfl, by rw [← he]; rfl⟩
  exact loop (n - i0) i0 lf pl bl ha ze (by omega) rfl
set_option maxRecDepth 20000 in
set_option maxHeartbeats 1000000 in
theorem ct_Di_readWidth (l : Launch) (n i : Nat) (f : Nat → Int32) (c0 : Nat → Nat) (lf pl bl ha ze : Bool) (wt : Bool) (pr : Int32) (pt : Bool) (kd : Int32) (gr : Bool) (hf : fo_is f n c0) (hn : n ≤ 400) (hi : i ≤ 405) : ax_CT l y_Di_readWidth c_Di_readWidth 2 (some .boolean) 2 [.ref 5, .ref 1] (pc_Fo (nI n) f ++ pc_Di lf pl bl ha ze 0 wt pr pt kd gr (nI i)) (fun r h => r = some (.int (zb (pw (lt c0 n) i).1)) ∧ h = pc_Fo (nI n) f ++ pc_Di lf pl bl ha ze (nI (pw (lt c0 n) i).2.2.2) (pw (lt c0 n) i).2.2.1 pr pt kd gr (nI (pw (lt c0 n) i).2.1)) := by
  refine ax_ofV (by decide) (Nat.le_of_ble_eq_true rfl) ?_
  intro p e s m args below meth c D cid ad A Qc G hr E
  have hV := (dgt_le (lt c0 n) 3 i 0).2.2
  refine ax_aload_n G d_Di_readWidth_0 rfl rfl ?_
  refine ax_aload_n G d_Di_readWidth_1 rfl rfl ?_
  refine ax_aload_n G d_Di_readWidth_2 rfl rfl ?_
  refine ax_bipush (v := 42) G d_Di_readWidth_3 (by decide) ?_
  refine ax_callV (n := 2) G (ct_Di_readIf l n i 42 f c0 lf pl bl ha ze 0 wt pr pt kd gr hf hn (by omega) (by decide) (by decide)) d_Di_readWidth_5 rfl ⟨rfl, rfl, rfl, trivial⟩ rfl rfl rfl kc_Di_readIf ⟨k_Di_75, ki_Di_readIf, ks_Di_readIf, kk_Di⟩ (by decide +kernel) rfl ⟨by decide, by decide⟩ (Nat.le_of_ble_eq_true rfl) ⟨by decide, by decide⟩ (fun r hc_ hq hk_ => ?_)
  obtain ⟨rfl, rfl⟩ := hq
  refine ax_put (ci := 1) (j := 6) G d_Di_readWidth_8 rfl rfl (by decide) k_Di_51 rfl (zb_nar _) (zb_fit _) (Nat.le_of_ble_eq_true rfl) ?_
  refine ax_aload_n G d_Di_readWidth_11 rfl rfl ?_
  refine ax_get (ci := 1) (j := 6) G d_Di_readWidth_12 rfl rfl (by decide) k_Di_51 rfl ?_
  refine ax_if_eq (tgt := 20) G d_Di_readWidth_15 (by decide) (fun c_15 => ?_) (fun c_15 => ?_)
  · have h42 : ¬ lt c0 n i = 42 := fun q => by rw [q] at c_15; exact absurd c_15 (by decide)
    have e0 : (lt c0 n i == 42) = false := by simpa using h42
    rw [if_neg h42, e0]
    refine ax_aload_n G d_Di_readWidth_20 rfl rfl ?_
    refine ax_aload_n G d_Di_readWidth_21 rfl rfl ?_
    refine ax_aload_n G d_Di_readWidth_22 rfl rfl ?_
    refine ax_callV (n := 1) G (ct_Di_readDigits l n i f c0 lf pl bl ha ze 0 false pr pt kd gr hf hn (by omega)) d_Di_readWidth_23 rfl ⟨rfl, rfl, rfl, trivial⟩ rfl rfl rfl kc_Di_readDigits ⟨k_Di_79, ki_Di_readDigits, ks_Di_readDigits, kk_Di⟩ (by decide +kernel) rfl ⟨by decide, by decide⟩ (Nat.le_of_ble_eq_true rfl) ⟨by decide, by decide⟩ (fun r hc_ hq hk_ => ?_)
    obtain ⟨rfl, rfl⟩ := hq
    refine ax_put (ci := 1) (j := 5) G d_Di_readWidth_26 rfl rfl (by decide) k_Di_48 rfl rfl rfl (Nat.le_of_ble_eq_true rfl) ?_
    refine ax_aload_n G d_Di_readWidth_29 rfl rfl ?_
    refine ax_get (ci := 1) (j := 5) G d_Di_readWidth_30 rfl rfl (by decide) k_Di_48 rfl ?_
    refine ax_sipush (v := 200) G d_Di_readWidth_33 (by decide) ?_
    refine ax_icmp_gt (tgt := 43) G d_Di_readWidth_36 (by decide) (fun c_36 => ?_) (fun c_36 => ?_)
    · have hgt : 200 < (dgt (lt c0 n) 3 i 0).1 := (nI_ltI (a := 200) (by decide) (by omega)).mp c_36
      have e1 : pw (lt c0 n) i = (false, i, false, (dgt (lt c0 n) 3 i 0).1) := by unfold pw; rw [if_neg h42, if_pos hgt]
      rw [if_pos hgt]
      refine ax_iconst (v := 0) G d_Di_readWidth_43 (by decide) ?_
      exact ax_zret G hr E rfl d_Di_readWidth_44 rfl ⟨by rw [e1] <;> rfl, by rw [e1] <;> rfl⟩
    · have hle : ¬ 200 < (dgt (lt c0 n) 3 i 0).1 := fun q => c_36 ((nI_ltI (a := 200) (by decide) (by omega)).mpr q)
      have e1 : pw (lt c0 n) i = (true, (dgt (lt c0 n) 3 i 0).2, false, (dgt (lt c0 n) 3 i 0).1) := by unfold pw; rw [if_neg h42, if_neg hle]
      rw [if_neg hle]
      refine ax_iconst (v := 1) G d_Di_readWidth_39 (by decide) ?_
      refine ax_goto (tgt := 44) G d_Di_readWidth_40 (by decide) ?_
      exact ax_zret G hr E rfl d_Di_readWidth_44 rfl ⟨by rw [e1] <;> rfl, by rw [e1] <;> rfl⟩
  · have h42 : lt c0 n i = 42 := by
      by_cases q : lt c0 n i = 42
      · exact q
      · exact absurd (by rw [show (lt c0 n i == 42) = false by simpa using q]; rfl) c_15
    have e1 : pw (lt c0 n) i = (true, i + 1, true, 0) := by unfold pw; rw [if_pos h42]
    have e0 : (lt c0 n i == 42) = true := by simpa using h42
    rw [if_pos h42, e0]
    refine ax_iconst (v := 1) G d_Di_readWidth_18 (by decide) ?_
    exact ax_zret G hr E rfl d_Di_readWidth_19 rfl ⟨by rw [e1] <;> rfl, by rw [e1] <;> rfl⟩
set_option maxRecDepth 20000 in
set_option maxHeartbeats 1000000 in
theorem ct_Di_readPrecision (l : Launch) (n i : Nat) (f : Nat → Int32) (c0 : Nat → Nat) (lf pl bl ha ze : Bool) (w : Int32) (wt : Bool) (kd : Int32) (gr : Bool) (hf : fo_is f n c0) (hn : n ≤ 400) (hi : i ≤ 405) : ax_CT l y_Di_readPrecision c_Di_readPrecision 2 (some .boolean) 2 [.ref 5, .ref 1] (pc_Fo (nI n) f ++ pc_Di lf pl bl ha ze w wt (-1) false kd gr (nI i)) (fun r h => r = some (.int (zb (pp (lt c0 n) i).1)) ∧ h = pc_Fo (nI n) f ++ pc_Di lf pl bl ha ze w wt (pp (lt c0 n) i).2.2.2 (pp (lt c0 n) i).2.2.1 kd gr (nI (pp (lt c0 n) i).2.1)) := by
  refine ax_ofV (by decide) (Nat.le_of_ble_eq_true rfl) ?_
  intro p e s m args below meth c D cid ad A Qc G hr E
  have hV := (dgt_le (lt c0 n) 3 (i + 1) 0).2.2
  refine ax_aload_n G d_Di_readPrecision_0 rfl rfl ?_
  refine ax_aload_n G d_Di_readPrecision_1 rfl rfl ?_
  refine ax_bipush (v := 46) G d_Di_readPrecision_2 (by decide) ?_
  refine ax_callV (n := 2) G (ct_Di_readIf l n i 46 f c0 lf pl bl ha ze w wt (-1) false kd gr hf hn (by omega) (by decide) (by decide)) d_Di_readPrecision_4 rfl ⟨rfl, rfl, rfl, trivial⟩ rfl rfl rfl kc_Di_readIf ⟨k_Di_75, ki_Di_readIf, ks_Di_readIf, kk_Di⟩ (by decide +kernel) rfl ⟨by decide, by decide⟩ (Nat.le_of_ble_eq_true rfl) ⟨by decide, by decide⟩ (fun r hc_ hq hk_ => ?_)
  obtain ⟨rfl, rfl⟩ := hq
  refine ax_if_ne (tgt := 12) G d_Di_readPrecision_7 (by decide) (fun c_7 => ?_) (fun c_7 => ?_)
  · have h46 : lt c0 n i = 46 := by
      by_cases q : lt c0 n i = 46
      · exact q
      · exact absurd (by rw [show (lt c0 n i == 46) = false by simpa using q]; rfl) c_7
    rw [if_pos h46]
    refine ax_aload_n G d_Di_readPrecision_12 rfl rfl ?_
    refine ax_aload_n G d_Di_readPrecision_13 rfl rfl ?_
    refine ax_aload_n G d_Di_readPrecision_14 rfl rfl ?_
    refine ax_bipush (v := 42) G d_Di_readPrecision_15 (by decide) ?_
    refine ax_callV (n := 2) G (ct_Di_readIf l n (i + 1) 42 f c0 lf pl bl ha ze w wt (-1) false kd gr hf hn (by omega) (by decide) (by decide)) d_Di_readPrecision_17 rfl ⟨rfl, rfl, rfl, trivial⟩ rfl rfl rfl kc_Di_readIf ⟨k_Di_75, ki_Di_readIf, ks_Di_readIf, kk_Di⟩ (by decide +kernel) rfl ⟨by decide, by decide⟩ (Nat.le_of_ble_eq_true rfl) ⟨by decide, by decide⟩ (fun r hc_ hq hk_ => ?_)
    obtain ⟨rfl, rfl⟩ := hq
    refine ax_put (ci := 1) (j := 8) G d_Di_readPrecision_20 rfl rfl (by decide) k_Di_57 rfl (zb_nar _) (zb_fit _) (Nat.le_of_ble_eq_true rfl) ?_
    refine ax_aload_n G d_Di_readPrecision_23 rfl rfl ?_
    refine ax_get (ci := 1) (j := 8) G d_Di_readPrecision_24 rfl rfl (by decide) k_Di_57 rfl ?_
    refine ax_if_eq (tgt := 32) G d_Di_readPrecision_27 (by decide) (fun c_27 => ?_) (fun c_27 => ?_)
    · have h42 : ¬ lt c0 n (i + 1) = 42 := fun q => by rw [q] at c_27; exact absurd c_27 (by decide)
      have e0 : (lt c0 n (i + 1) == 42) = false := by simpa using h42
      rw [if_neg h42, e0]
      refine ax_aload_n G d_Di_readPrecision_32 rfl rfl ?_
      refine ax_aload_n G d_Di_readPrecision_33 rfl rfl ?_
      refine ax_aload_n G d_Di_readPrecision_34 rfl rfl ?_
      refine ax_callV (n := 1) G (ct_Di_readDigits l n (i + 1) f c0 lf pl bl ha ze w wt (-1) false kd gr hf hn (by omega)) d_Di_readPrecision_35 rfl ⟨rfl, rfl, rfl, trivial⟩ rfl rfl rfl kc_Di_readDigits ⟨k_Di_79, ki_Di_readDigits, ks_Di_readDigits, kk_Di⟩ (by decide +kernel) rfl ⟨by decide, by decide⟩ (Nat.le_of_ble_eq_true rfl) ⟨by decide, by decide⟩ (fun r hc_ hq hk_ => ?_)
      obtain ⟨rfl, rfl⟩ := hq
      refine ax_put (ci := 1) (j := 7) G d_Di_readPrecision_38 rfl rfl (by decide) k_Di_54 rfl rfl rfl (Nat.le_of_ble_eq_true rfl) ?_
      refine ax_aload_n G d_Di_readPrecision_41 rfl rfl ?_
      refine ax_get (ci := 1) (j := 7) G d_Di_readPrecision_42 rfl rfl (by decide) k_Di_54 rfl ?_
      refine ax_sipush (v := 200) G d_Di_readPrecision_45 (by decide) ?_
      refine ax_icmp_gt (tgt := 55) G d_Di_readPrecision_48 (by decide) (fun c_48 => ?_) (fun c_48 => ?_)
      · have hgt : 200 < (dgt (lt c0 n) 3 (i + 1) 0).1 := (nI_ltI (a := 200) (by decide) (by omega)).mp c_48
        have e1 : pp (lt c0 n) i = (false, i + 1, false, nI (dgt (lt c0 n) 3 (i + 1) 0).1) := by unfold pp; rw [if_pos h46, if_neg h42, if_pos hgt]
        rw [if_pos hgt]
        refine ax_iconst (v := 0) G d_Di_readPrecision_55 (by decide) ?_
        exact ax_zret G hr E rfl d_Di_readPrecision_56 rfl ⟨by rw [e1] <;> rfl, by rw [e1] <;> rfl⟩
      · have hle : ¬ 200 < (dgt (lt c0 n) 3 (i + 1) 0).1 := fun q => c_48 ((nI_ltI (a := 200) (by decide) (by omega)).mpr q)
        have e1 : pp (lt c0 n) i = (true, (dgt (lt c0 n) 3 (i + 1) 0).2, false, nI (dgt (lt c0 n) 3 (i + 1) 0).1) := by unfold pp; rw [if_pos h46, if_neg h42, if_neg hle]
        rw [if_neg hle]
        refine ax_iconst (v := 1) G d_Di_readPrecision_51 (by decide) ?_
        refine ax_goto (tgt := 56) G d_Di_readPrecision_52 (by decide) ?_
        exact ax_zret G hr E rfl d_Di_readPrecision_56 rfl ⟨by rw [e1] <;> rfl, by rw [e1] <;> rfl⟩
    · have h42 : lt c0 n (i + 1) = 42 := by
        by_cases q : lt c0 n (i + 1) = 42
        · exact q
        · exact absurd (by rw [show (lt c0 n (i + 1) == 42) = false by simpa using q]; rfl) c_27
      have e1 : pp (lt c0 n) i = (true, i + 2, true, -1) := by unfold pp; rw [if_pos h46, if_pos h42]
      have e0 : (lt c0 n (i + 1) == 42) = true := by simpa using h42
      rw [if_pos h42, e0]
      refine ax_iconst (v := 1) G d_Di_readPrecision_30 (by decide) ?_
      exact ax_zret G hr E rfl d_Di_readPrecision_31 rfl ⟨by rw [e1] <;> rfl, by rw [e1] <;> rfl⟩
  · have h46 : ¬ lt c0 n i = 46 := fun q => by rw [q] at c_7; exact absurd c_7 (by decide)
    have e1 : pp (lt c0 n) i = (true, i, false, -1) := by unfold pp; rw [if_neg h46]
    rw [if_neg h46]
    refine ax_iconst (v := 1) G d_Di_readPrecision_10 (by decide) ?_
    exact ax_zret G hr E rfl d_Di_readPrecision_11 rfl ⟨by rw [e1] <;> rfl, by rw [e1] <;> rfl⟩
set_option maxRecDepth 20000 in
set_option maxHeartbeats 1000000 in
theorem ct_Di_readKind (l : Launch) (n i : Nat) (f : Nat → Int32) (c0 : Nat → Nat) (lf pl bl ha ze : Bool) (w : Int32) (wt : Bool) (pr : Int32) (pt : Bool) (kd : Int32) (gr : Bool) (hf : fo_is f n c0) (hn : n ≤ 400) (hi : i ≤ 410) : ax_CT l y_Di_readKind c_Di_readKind 3 (some .boolean) 4 [.ref 5, .ref 1] (pc_Fo (nI n) f ++ pc_Di lf pl bl ha ze w wt pr pt kd gr (nI i)) (fun r h => r = some (.int (zb (isK (lt c0 n i)))) ∧ h = pc_Fo (nI n) f ++ pc_Di lf pl bl ha ze w wt pr pt (if isK (lt c0 n i) then nI (sml (lt c0 n i)) else kd) (if isK (lt c0 n i) then grt (lt c0 n i) else gr) (nI i)) := by
  refine ax_ofV (by decide) (Nat.le_of_ble_eq_true rfl) ?_
  intro p e s m args below meth c D cid ad A Qc G hr E
  have hlt := lt_lt hf i
  refine ax_aload_n G d_Di_readKind_0 rfl rfl ?_
  refine ax_aload_n G d_Di_readKind_1 rfl rfl ?_
  refine ax_get (ci := 1) (j := 11) G d_Di_readKind_2 rfl rfl (by decide) k_Di_14 rfl ?_
  refine ax_callV (n := 1) G (ct_Fo_letterAt l n i f c0 hf hn (by omega)) d_Di_readKind_5 rfl ⟨rfl, rfl, trivial⟩ rfl rfl rfl kc_Fo_letterAt ⟨k_Di_71, ki_Fo_letterAt, ks_Fo_letterAt, kk_Fo⟩ (by decide +kernel) rfl ⟨by decide, by decide⟩ (Nat.le_of_ble_eq_true rfl) ⟨by decide, by decide⟩ (fun r hc_ hq hk_ => ?_)
  obtain ⟨rfl, rfl⟩ := hq
  rw [show (if i < n then c0 i else 0) = lt c0 n i from rfl]
  generalize lt c0 n i = x at *
  refine ax_i2c G d_Di_readKind_8 ?_
  rw [pk_char, pk_tn (by omega), Nat.mod_eq_of_lt (by omega)]
  refine ax_istore_n G d_Di_readKind_9 rfl (by decide) ?_
  refine ax_ldcS (tx := "diuoxXceEfFgGaA%") (t := 0) G d_Di_readKind_10 (by decide +kernel) ?_
  refine ax_iload_n G d_Di_readKind_12 rfl rfl ?_
  refine ax_callK (n := 1) G (by decide) (ct_St_indexOf l 0 x (by decide) hlt) d_Di_readKind_13 rfl trivial rfl kc_St_indexOf ⟨k_Di_89, ki_St_indexOf, ks_St_indexOf, kk_St⟩ (by decide +kernel) rfl ⟨by decide, by decide⟩ (Nat.le_of_ble_eq_true rfl) ⟨by decide, by decide⟩ (fun r hc_ hq hk_ => ?_)
  obtain ⟨rfl, rfl⟩ := hq
  have hK := ix_K x hlt
  refine ax_if_ge (tgt := 21) G d_Di_readKind_16 (by decide) (fun c_16 => ?_) (fun c_16 => ?_)
  · have h1 : isK x = true := by
      cases hq : isK x with
      | true => rfl
      | false => exact absurd (hK.mpr hq) (Int32.not_lt.mpr c_16)
    have g1 : (nI x < 65) ↔ x < 65 := nI_ltI (b := 65) (by omega) (by decide)
    have g2 : (90 < nI x) ↔ 90 < x := nI_ltI (a := 90) (by decide) (by omega)
    have smallCase : ¬ (65 ≤ x ∧ x ≤ 90) → ax_V p l e (ax_rm 4) s m args below meth c D cid ad A 3 0 0 (MQ below Qc args s 0 0 A) 39 [(0, .ref 5), (1, .ref 1), (2, .int (nI x))] [.int 0, .ref 5] (pc_Fo (nI n) f ++ pc_Di lf pl bl ha ze w wt pr pt kd gr (nI i)) := by
      intro hs
      have e1 : sml x = x := by unfold sml; rw [if_neg hs]
      have e2 : grt x = false := by unfold grt; exact decide_eq_false hs
      refine ax_put (ci := 1) (j := 10) G d_Di_readKind_39 rfl rfl (by decide) k_Di_63 rfl rfl rfl (Nat.le_of_ble_eq_true rfl) ?_
      refine ax_aload_n G d_Di_readKind_42 rfl rfl ?_
      refine ax_aload_n G d_Di_readKind_43 rfl rfl ?_
      refine ax_get (ci := 1) (j := 10) G d_Di_readKind_44 rfl rfl (by decide) k_Di_63 rfl ?_
      refine ax_if_eq (tgt := 60) G d_Di_readKind_47 (by decide) (fun c_47 => ?_) (fun c_47 => ?_)
      · refine ax_iload_n G d_Di_readKind_60 rfl rfl ?_
        refine ax_put (ci := 1) (j := 9) G d_Di_readKind_61 rfl rfl (by decide) k_Di_60 rfl rfl rfl (Nat.le_of_ble_eq_true rfl) ?_
        refine ax_iconst (v := 1) G d_Di_readKind_64 (by decide) ?_
        exact ax_zret G hr E rfl d_Di_readKind_65 rfl ⟨by rw [h1] <;> rfl, by rw [h1, if_pos rfl, if_pos rfl, e1, e2] <;> rfl⟩
      · exact absurd rfl c_47
    refine ax_aload_n G d_Di_readKind_21 rfl rfl ?_
    refine ax_iload_n G d_Di_readKind_22 rfl rfl ?_
    refine ax_bipush (v := 65) G d_Di_readKind_23 (by decide) ?_
    refine ax_icmp_lt (tgt := 38) G d_Di_readKind_25 (by decide) (fun c_25 => ?_) (fun c_25 => ?_)
    · refine ax_iconst (v := 0) G d_Di_readKind_38 (by decide) ?_
      exact smallCase (by have := g1.mp c_25; omega)
    · have q1 : ¬ x < 65 := fun q => c_25 (g1.mpr q)
      refine ax_iload_n G d_Di_readKind_28 rfl rfl ?_
      refine ax_bipush (v := 90) G d_Di_readKind_29 (by decide) ?_
      refine ax_icmp_gt (tgt := 38) G d_Di_readKind_31 (by decide) (fun c_31 => ?_) (fun c_31 => ?_)
      · refine ax_iconst (v := 0) G d_Di_readKind_38 (by decide) ?_
        exact smallCase (by have := g2.mp c_31; omega)
      · have q2 : ¬ 90 < x := fun q => c_31 (g2.mpr q)
        have e1 : sml x = x + 32 := by unfold sml; rw [if_pos (by omega)]
        have e2 : grt x = true := by unfold grt; exact decide_eq_true (by omega)
        refine ax_iconst (v := 1) G d_Di_readKind_34 (by decide) ?_
        refine ax_goto (tgt := 39) G d_Di_readKind_35 (by decide) ?_
        refine ax_put (ci := 1) (j := 10) G d_Di_readKind_39 rfl rfl (by decide) k_Di_63 rfl rfl rfl (Nat.le_of_ble_eq_true rfl) ?_
        refine ax_aload_n G d_Di_readKind_42 rfl rfl ?_
        refine ax_aload_n G d_Di_readKind_43 rfl rfl ?_
        refine ax_get (ci := 1) (j := 10) G d_Di_readKind_44 rfl rfl (by decide) k_Di_63 rfl ?_
        refine ax_if_eq (tgt := 60) G d_Di_readKind_47 (by decide) (fun c_47 => ?_) (fun c_47 => ?_)
        · exact absurd c_47 (by decide)
        · refine ax_iload_n G d_Di_readKind_50 rfl rfl ?_
          refine ax_bipush (v := 65) G d_Di_readKind_51 (by decide) ?_
          refine ax_isub G d_Di_readKind_53 ?_
          refine ax_bipush (v := 97) G d_Di_readKind_54 (by decide) ?_
          refine ax_iadd G d_Di_readKind_56 ?_
          refine ax_goto (tgt := 61) G d_Di_readKind_57 (by decide) ?_
          rw [show nI x - 65 + 97 = nI (x + 32) by
            rw [show (65 : Int32) = nI 65 from rfl, pk_sub (by omega), show (97 : Int32) = nI 97 from rfl, nI_add]
            congr 1
            omega]
          refine ax_put (ci := 1) (j := 9) G d_Di_readKind_61 rfl rfl (by decide) k_Di_60 rfl rfl rfl (Nat.le_of_ble_eq_true rfl) ?_
          refine ax_iconst (v := 1) G d_Di_readKind_64 (by decide) ?_
          exact ax_zret G hr E rfl d_Di_readKind_65 rfl ⟨by rw [h1] <;> rfl, by rw [h1, if_pos rfl, if_pos rfl, e1, e2] <;> rfl⟩
  · have h1 : isK x = false := hK.mp (Int32.not_le.mp c_16)
    refine ax_iconst (v := 0) G d_Di_readKind_19 (by decide) ?_
    exact ax_zret G hr E rfl d_Di_readKind_20 rfl ⟨by rw [h1] <;> rfl, by rw [h1] <;> rfl⟩
set_option maxRecDepth 20000 in
set_option maxHeartbeats 1000000 in
theorem ct_Di_read (l : Launch) (n i : Nat) (f : Nat → Int32) (c0 : Nat → Nat) (lf pl bl ha ze : Bool) (w : Int32) (wt : Bool) (pr : Int32) (pt : Bool) (kd : Int32) (gr : Bool) (pa : Int32) (hf : fo_is f n c0) (hn : n ≤ 400) (hi : i < n) : ax_CT l y_Di_read c_Di_read 3 (some .boolean) 5 [.ref 5, .ref 1, .int (nI i)] (pc_Fo (nI n) f ++ pc_Di lf pl bl ha ze w wt pr pt kd gr pa) (fun r h => r = some (.int (zb (rdOk (lt c0 n) n i))) ∧ ∃ a1 a2 a3 a4 a5 a6 a7 a8 a9 a10 a11, h = pc_Fo (nI n) f ++ pc_Di a1 a2 a3 a4 a5 a6 a7 a8 a9 a10 a11 (nI (rdAt (lt c0 n) n i)) ∧ (rdOk (lt c0 n) n i = true → (a1, a2, a3, a4, a5) = ((rdF (lt c0 n) n i).1, (rdF (lt c0 n) n i).2.1, (rdF (lt c0 n) n i).2.2.1, (rdF (lt c0 n) n i).2.2.2.1, (rdF (lt c0 n) n i).2.2.2.2.1) ∧ a6 = nI (rdW (lt c0 n) n i).2.2.2 ∧ a7 = (rdW (lt c0 n) n i).2.2.1 ∧ a8 = (rdP (lt c0 n) n i).2.2.2 ∧ a9 = (rdP (lt c0 n) n i).2.2.1 ∧ a10 = nI (sml (lt c0 n (rdAt (lt c0 n) n i))) ∧ a11 = grt (lt c0 n (rdAt (lt c0 n) n i)))) := by
  refine ax_ofV (by decide) (Nat.le_of_ble_eq_true rfl) ?_
  intro p e s m args below meth c D cid ad A Qc G hr E
  have b1 := flg_le (lt c0 n) (n - (i + 1)) (i + 1) false false false false false
  have b2 := pw_le (lt c0 n) (rdF (lt c0 n) n i).2.2.2.2.2
  have b3 := pp_le (lt c0 n) (rdW (lt c0 n) n i).2.1
  have b4 : (rdF (lt c0 n) n i).2.2.2.2.2 ≤ 400 := by unfold rdF; omega
  have b5 : (rdW (lt c0 n) n i).2.1 ≤ 403 := by unfold rdW; omega
  have b6 : (rdP (lt c0 n) n i).2.1 ≤ 407 := by unfold rdP; omega
  refine ax_aload_n G d_Di_read_0 rfl rfl ?_
  refine ax_callV (n := 0) G (ct_Di_forget l lf pl bl ha ze w wt pr pt kd gr pa) d_Di_read_1 rfl ⟨rfl, trivial⟩ rfl rfl rfl kc_Di_forget ⟨k_Di_9, ki_Di_forget, ks_Di_forget, kk_Di⟩ (by decide +kernel) rfl ⟨by decide, by decide⟩ (Nat.le_of_ble_eq_true rfl) ⟨by decide, by decide⟩ (fun r hc_ hq hk_ => ?_)
  obtain ⟨rfl, rfl⟩ := hq
  refine ax_aload_n G d_Di_read_4 rfl rfl ?_
  refine ax_iload_n G d_Di_read_5 rfl rfl ?_
  refine ax_iconst (v := 1) G d_Di_read_6 (by decide) ?_
  refine ax_iadd G d_Di_read_7 ?_
  refine ax_put (ci := 1) (j := 11) G d_Di_read_8 rfl rfl (by decide) k_Di_14 rfl rfl rfl (Nat.le_of_ble_eq_true rfl) ?_
  refine ax_aload_n G d_Di_read_11 rfl rfl ?_
  refine ax_aload_n G d_Di_read_12 rfl rfl ?_
  rw [nI_1]
  refine ax_callV (n := 1) G (ct_Di_readFlags l n (i + 1) f c0 false false false false false 0 false (-1) false 37 false hf hn (by omega)) d_Di_read_13 rfl ⟨rfl, rfl, rfl, trivial⟩ rfl rfl rfl kc_Di_readFlags ⟨k_Di_18, ki_Di_readFlags, ks_Di_readFlags, kk_Di⟩ (by decide +kernel) rfl ⟨by decide, by decide⟩ (Nat.le_of_ble_eq_true rfl) ⟨by decide, by decide⟩ (fun r hc_ hq hk_ => ?_)
  obtain ⟨rfl, q, hq1, rfl⟩ := hq
  have hq2 : q = rdF (lt c0 n) n i := hq1
  rw [hq2]
  clear hq1 hq2 b1
  refine ax_aload_n G d_Di_read_16 rfl rfl ?_
  refine ax_aload_n G d_Di_read_17 rfl rfl ?_
  refine ax_callV (n := 1) G (ct_Di_readWidth l n (rdF (lt c0 n) n i).2.2.2.2.2 f c0 _ _ _ _ _ false (-1) false 37 false hf hn (by omega)) d_Di_read_18 rfl ⟨rfl, rfl, rfl, trivial⟩ rfl rfl rfl kc_Di_readWidth ⟨k_Di_22, ki_Di_readWidth, ks_Di_readWidth, kk_Di⟩ (by decide +kernel) rfl ⟨by decide, by decide⟩ (Nat.le_of_ble_eq_true rfl) ⟨by decide, by decide⟩ (fun r hc_ hq hk_ => ?_)
  obtain ⟨rfl, rfl⟩ := hq
  rw [show pw (lt c0 n) (rdF (lt c0 n) n i).2.2.2.2.2 = rdW (lt c0 n) n i from rfl]
  refine ax_if_eq (tgt := 44) G d_Di_read_21 (by decide) (fun c_21 => ?_) (fun c_21 => ?_)
  · have hw : (rdW (lt c0 n) n i).1 = false := (zb_ne _).mp c_21
    have e1 : rdOk (lt c0 n) n i = false := by unfold rdOk; rw [hw]; rfl
    have e2 : rdAt (lt c0 n) n i = (rdW (lt c0 n) n i).2.1 := by unfold rdAt; rw [hw]; rfl
    refine ax_iconst (v := 0) G d_Di_read_44 (by decide) ?_
    exact ax_zret G hr E rfl d_Di_read_45 rfl ⟨by rw [e1]; rfl, _, _, _, _, _, _, _, _, _, _, _, by rw [e2]; rfl, fun z => by rw [e1] at z; cases z⟩
  · have hw : (rdW (lt c0 n) n i).1 = true := by
      cases hq : (rdW (lt c0 n) n i).1 with
      | true => rfl
      | false => exact absurd ((zb_ne _).mpr hq) c_21
    have e2 : rdAt (lt c0 n) n i = (rdP (lt c0 n) n i).2.1 := by unfold rdAt; rw [hw]; rfl
    refine ax_aload_n G d_Di_read_24 rfl rfl ?_
    refine ax_aload_n G d_Di_read_25 rfl rfl ?_
    refine ax_callV (n := 1) G (ct_Di_readPrecision l n (rdW (lt c0 n) n i).2.1 f c0 _ _ _ _ _ _ _ 37 false hf hn (by omega)) d_Di_read_26 rfl ⟨rfl, rfl, rfl, trivial⟩ rfl rfl rfl kc_Di_readPrecision ⟨k_Di_26, ki_Di_readPrecision, ks_Di_readPrecision, kk_Di⟩ (by decide +kernel) rfl ⟨by decide, by decide⟩ (Nat.le_of_ble_eq_true rfl) ⟨by decide, by decide⟩ (fun r hc_ hq hk_ => ?_)
    obtain ⟨rfl, rfl⟩ := hq
    rw [show pp (lt c0 n) (rdW (lt c0 n) n i).2.1 = rdP (lt c0 n) n i from rfl]
    refine ax_if_eq (tgt := 44) G d_Di_read_29 (by decide) (fun c_29 => ?_) (fun c_29 => ?_)
    · have hp : (rdP (lt c0 n) n i).1 = false := (zb_ne _).mp c_29
      have e1 : rdOk (lt c0 n) n i = false := by unfold rdOk; rw [hp]; simp
      refine ax_iconst (v := 0) G d_Di_read_44 (by decide) ?_
      exact ax_zret G hr E rfl d_Di_read_45 rfl ⟨by rw [e1]; rfl, _, _, _, _, _, _, _, _, _, _, _, by rw [e2]; rfl, fun z => by rw [e1] at z; cases z⟩
    · have hp : (rdP (lt c0 n) n i).1 = true := by
        cases hq : (rdP (lt c0 n) n i).1 with
        | true => rfl
        | false => exact absurd ((zb_ne _).mpr hq) c_29
      have e1 : rdOk (lt c0 n) n i = isK (lt c0 n (rdP (lt c0 n) n i).2.1) := by unfold rdOk; rw [hw, hp]; rfl
      refine ax_aload_n G d_Di_read_32 rfl rfl ?_
      refine ax_aload_n G d_Di_read_33 rfl rfl ?_
      refine ax_callV (n := 1) G (ct_Di_readKind l n (rdP (lt c0 n) n i).2.1 f c0 _ _ _ _ _ _ _ _ _ 37 false hf hn (by omega)) d_Di_read_34 rfl ⟨rfl, rfl, rfl, trivial⟩ rfl rfl rfl kc_Di_readKind ⟨k_Di_29, ki_Di_readKind, ks_Di_readKind, kk_Di⟩ (by decide +kernel) rfl ⟨by decide, by decide⟩ (Nat.le_of_ble_eq_true rfl) ⟨by decide, by decide⟩ (fun r hc_ hq hk_ => ?_)
      obtain ⟨rfl, rfl⟩ := hq
      refine ax_if_eq (tgt := 44) G d_Di_read_37 (by decide) (fun c_37 => ?_) (fun c_37 => ?_)
      · have hk : isK (lt c0 n (rdP (lt c0 n) n i).2.1) = false := (zb_ne _).mp c_37
        rw [hk] at e1
        refine ax_iconst (v := 0) G d_Di_read_44 (by decide) ?_
        exact ax_zret G hr E rfl d_Di_read_45 rfl ⟨by rw [e1]; rfl, _, _, _, _, _, _, _, _, _, _, _, by rw [e2]; rfl, fun z => by rw [e1] at z; cases z⟩
      · have hk : isK (lt c0 n (rdP (lt c0 n) n i).2.1) = true := by
          cases hq : isK (lt c0 n (rdP (lt c0 n) n i).2.1) with
          | true => rfl
          | false => exact absurd ((zb_ne _).mpr hq) c_37
        rw [hk] at e1
        refine ax_iconst (v := 1) G d_Di_read_40 (by decide) ?_
        refine ax_goto (tgt := 45) G d_Di_read_41 (by decide) ?_
        exact ax_zret G hr E rfl d_Di_read_45 rfl ⟨by rw [e1]; rfl, _, _, _, _, _, _, _, _, _, _, _, by rw [e2]; rfl, fun z => ⟨rfl, rfl, rfl, rfl, rfl, by rw [e2, hk]; rfl, by rw [e2, hk]; rfl⟩⟩
set_option maxRecDepth 20000 in
set_option maxHeartbeats 1000000 in
theorem ct_Di_useTakenWidth (l : Launch) (x : Int32) (lf pl bl ha ze : Bool) (w : Int32) (wt : Bool) (pr : Int32) (pt : Bool) (kd : Int32) (gr : Bool) (pa : Int32) : ax_CT l y_Di_useTakenWidth c_Di_useTakenWidth 2 none 0 [.ref 5, .int x] (pc_Di lf pl bl ha ze w wt pr pt kd gr pa) (fun r h => r = none ∧ h = pc_Di (if x < 0 then true else lf) pl bl ha ze (if x < 0 then -x else x) wt pr pt kd gr pa) := by
  by_cases hx : x < 0
  · rw [if_pos hx, if_pos hx]
    refine ax_ofV (by decide) (Nat.le_of_ble_eq_true rfl) ?_
    intro p e s m args below meth c D cid ad A Qc G hr E
    refine ax_iload_n G d_Di_useTakenWidth_0 rfl rfl ?_
    refine ax_if_ge (tgt := 9) G d_Di_useTakenWidth_1 (by decide) (fun c_1 => ?_) (fun c_1 => ?_)
    · exact absurd hx (Int32.not_lt.mpr c_1)
    · refine ax_aload_n G d_Di_useTakenWidth_4 rfl rfl ?_
      refine ax_iconst (v := 1) G d_Di_useTakenWidth_5 (by decide) ?_
      refine ax_put (ci := 1) (j := 0) G d_Di_useTakenWidth_6 rfl rfl (by decide) k_Di_32 rfl rfl rfl (Nat.le_of_ble_eq_true rfl) ?_
      refine ax_aload_n G d_Di_useTakenWidth_9 rfl rfl ?_
      refine ax_iload_n G d_Di_useTakenWidth_10 rfl rfl ?_
      refine ax_if_ge (tgt := 19) G d_Di_useTakenWidth_11 (by decide) (fun c_11 => ?_) (fun c_11 => ?_)
      · exact absurd hx (Int32.not_lt.mpr c_11)
      · refine ax_iload_n G d_Di_useTakenWidth_14 rfl rfl ?_
        refine ax_ineg G d_Di_useTakenWidth_15 ?_
        refine ax_goto (tgt := 20) G d_Di_useTakenWidth_16 (by decide) ?_
        refine ax_put (ci := 1) (j := 5) G d_Di_useTakenWidth_20 rfl rfl (by decide) k_Di_48 rfl rfl rfl (Nat.le_of_ble_eq_true rfl) ?_
        exact ax_vret G hr E d_Di_useTakenWidth_23 rfl ⟨rfl, rfl⟩
  · rw [if_neg hx, if_neg hx]
    refine ax_ofV (by decide) (Nat.le_of_ble_eq_true rfl) ?_
    intro p e s m args below meth c D cid ad A Qc G hr E
    refine ax_iload_n G d_Di_useTakenWidth_0 rfl rfl ?_
    refine ax_if_ge (tgt := 9) G d_Di_useTakenWidth_1 (by decide) (fun c_1 => ?_) (fun c_1 => ?_)
    · refine ax_aload_n G d_Di_useTakenWidth_9 rfl rfl ?_
      refine ax_iload_n G d_Di_useTakenWidth_10 rfl rfl ?_
      refine ax_if_ge (tgt := 19) G d_Di_useTakenWidth_11 (by decide) (fun c_11 => ?_) (fun c_11 => ?_)
      · refine ax_iload_n G d_Di_useTakenWidth_19 rfl rfl ?_
        refine ax_put (ci := 1) (j := 5) G d_Di_useTakenWidth_20 rfl rfl (by decide) k_Di_48 rfl rfl rfl (Nat.le_of_ble_eq_true rfl) ?_
        exact ax_vret G hr E d_Di_useTakenWidth_23 rfl ⟨rfl, rfl⟩
      · exact absurd (Int32.not_lt.mp hx) c_11
    · exact absurd (Int32.not_lt.mp hx) c_1
set_option maxRecDepth 20000 in
set_option maxHeartbeats 1000000 in
theorem ct_Di_useTakenPrecision (l : Launch) (x : Int32) (lf pl bl ha ze : Bool) (w : Int32) (wt : Bool) (pr : Int32) (pt : Bool) (kd : Int32) (gr : Bool) (pa : Int32) : ax_CT l y_Di_useTakenPrecision c_Di_useTakenPrecision 2 none 0 [.ref 5, .int x] (pc_Di lf pl bl ha ze w wt pr pt kd gr pa) (fun r h => r = none ∧ h = pc_Di lf pl bl ha ze w wt (if x < 0 then -1 else x) pt kd gr pa) := by
  by_cases hx : x < 0
  · rw [if_pos hx]
    refine ax_ofV (by decide) (Nat.le_of_ble_eq_true rfl) ?_
    intro p e s m args below meth c D cid ad A Qc G hr E
    refine ax_aload_n G d_Di_useTakenPrecision_0 rfl rfl ?_
    refine ax_iload_n G d_Di_useTakenPrecision_1 rfl rfl ?_
    refine ax_if_ge (tgt := 9) G d_Di_useTakenPrecision_2 (by decide) (fun c_2 => ?_) (fun c_2 => ?_)
    · exact absurd hx (Int32.not_lt.mpr c_2)
    · refine ax_iconst (v := (-1)) G d_Di_useTakenPrecision_5 (by decide) ?_
      refine ax_goto (tgt := 10) G d_Di_useTakenPrecision_6 (by decide) ?_
      refine ax_put (ci := 1) (j := 7) G d_Di_useTakenPrecision_10 rfl rfl (by decide) k_Di_54 rfl rfl rfl (Nat.le_of_ble_eq_true rfl) ?_
      exact ax_vret G hr E d_Di_useTakenPrecision_13 rfl ⟨rfl, rfl⟩
  · rw [if_neg hx]
    refine ax_ofV (by decide) (Nat.le_of_ble_eq_true rfl) ?_
    intro p e s m args below meth c D cid ad A Qc G hr E
    refine ax_aload_n G d_Di_useTakenPrecision_0 rfl rfl ?_
    refine ax_iload_n G d_Di_useTakenPrecision_1 rfl rfl ?_
    refine ax_if_ge (tgt := 9) G d_Di_useTakenPrecision_2 (by decide) (fun c_2 => ?_) (fun c_2 => ?_)
    · refine ax_iload_n G d_Di_useTakenPrecision_9 rfl rfl ?_
      refine ax_put (ci := 1) (j := 7) G d_Di_useTakenPrecision_10 rfl rfl (by decide) k_Di_54 rfl rfl rfl (Nat.le_of_ble_eq_true rfl) ?_
      exact ax_vret G hr E d_Di_useTakenPrecision_13 rfl ⟨rfl, rfl⟩
    · exact absurd (Int32.not_lt.mp hx) c_2

