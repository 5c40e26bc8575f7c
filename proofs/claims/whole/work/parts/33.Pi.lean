/-! FormatDesk$Piece -/
theorem addm1 (x : Int32) : x + (-1) = x - 1 := (Int32.sub_eq_add_neg x 1).symm
set_option maxRecDepth 20000 in
set_option maxHeartbeats 1000000 in
theorem ct_Pi_becomeEmpty (l : Launch) (sz zp : Int32) (f : Nat → Int32) : ax_CT l y_Pi_becomeEmpty c_Pi_becomeEmpty 1 none 0 [.ref 7] (pc_Pi sz zp f) (fun r h => r = none ∧ h = pc_Pi 0 (-1) f) := by
  refine ax_ofV (by decide) (Nat.le_of_ble_eq_true rfl) ?_
  intro p e s m args below meth c D cid ad A Qc G hr E
  refine ax_aload_n G d_Pi_becomeEmpty_0 rfl rfl ?_
  refine ax_iconst (v := 0) G d_Pi_becomeEmpty_1 (by decide) ?_
  refine ax_put (ci := 3) (j := 1) G d_Pi_becomeEmpty_2 rfl rfl (by decide) k_Pi_15 rfl rfl rfl (Nat.le_of_ble_eq_true rfl) ?_
  refine ax_aload_n G d_Pi_becomeEmpty_5 rfl rfl ?_
  refine ax_iconst (v := (-1)) G d_Pi_becomeEmpty_6 (by decide) ?_
  refine ax_put (ci := 3) (j := 2) G d_Pi_becomeEmpty_7 rfl rfl (by decide) k_Pi_19 rfl rfl rfl (Nat.le_of_ble_eq_true rfl) ?_
  exact ax_vret G hr E d_Pi_becomeEmpty_10 rfl ⟨rfl, rfl⟩
set_option maxRecDepth 20000 in
set_option maxHeartbeats 1000000 in
theorem ct_Pi_letZerosComeHere (l : Launch) (sz zp : Int32) (f : Nat → Int32) : ax_CT l y_Pi_letZerosComeHere c_Pi_letZerosComeHere 1 none 0 [.ref 7] (pc_Pi sz zp f) (fun r h => r = none ∧ h = pc_Pi sz sz f) := by
  refine ax_ofV (by decide) (Nat.le_of_ble_eq_true rfl) ?_
  intro p e s m args below meth c D cid ad A Qc G hr E
  refine ax_aload_n G d_Pi_letZerosComeHere_0 rfl rfl ?_
  refine ax_aload_n G d_Pi_letZerosComeHere_1 rfl rfl ?_
  refine ax_get (ci := 3) (j := 1) G d_Pi_letZerosComeHere_2 rfl rfl (by decide) k_Pi_15 rfl ?_
  refine ax_put (ci := 3) (j := 2) G d_Pi_letZerosComeHere_5 rfl rfl (by decide) k_Pi_19 rfl rfl rfl (Nat.le_of_ble_eq_true rfl) ?_
  exact ax_vret G hr E d_Pi_letZerosComeHere_8 rfl ⟨rfl, rfl⟩
set_option maxRecDepth 20000 in
set_option maxHeartbeats 1000000 in
theorem ct_Pi_letterAt (l : Launch) (bs : List Nat) (zp : Int32) (f : Nat → Int32) (i : Nat) (hf : pi_is f bs) (hb : bs.length ≤ 520) (hi : i < bs.length) : ax_CT l y_Pi_letterAt c_Pi_letterAt 2 (some .int) 0 [.ref 7, .int (nI i)] (pc_Pi (nI bs.length) zp f) (fun r h => r = some (.int (nI (bs.getD i 0))) ∧ h = pc_Pi (nI bs.length) zp f) := by
  refine ax_ofV (by decide) (Nat.le_of_ble_eq_true rfl) ?_
  intro p e s m args below meth c D cid ad A Qc G hr E
  refine ax_iload_n G d_Pi_letterAt_0 rfl rfl ?_
  refine ax_if_lt (tgt := 21) G d_Pi_letterAt_1 (by decide) (fun c_1 => ?_) (fun c_1 => ?_)
  · exact absurd c_1 (nI_pos (by omega))
  · refine ax_iload_n G d_Pi_letterAt_4 rfl rfl ?_
    refine ax_aload_n G d_Pi_letterAt_5 rfl rfl ?_
    refine ax_get (ci := 3) (j := 1) G d_Pi_letterAt_6 rfl rfl (by decide) k_Pi_15 rfl ?_
    refine ax_icmp_ge (tgt := 21) G d_Pi_letterAt_9 (by decide) (fun c_9 => ?_) (fun c_9 => ?_)
    · exact absurd c_9 (nI_ge hi (by omega))
    · refine ax_aload_n G d_Pi_letterAt_12 rfl rfl ?_
      refine ax_get (ci := 3) (j := 0) G d_Pi_letterAt_13 rfl rfl (by decide) k_Pi_11 rfl ?_
      refine ax_iload_n G d_Pi_letterAt_16 rfl rfl ?_
      refine ax_bald G d_Pi_letterAt_17 rfl (vp_in_nI (by omega) (by omega)) ?_
      rw [nI_clamp (by omega), (hf i hi).1]
      refine ax_goto (tgt := 23) G d_Pi_letterAt_18 (by decide) ?_
      exact ax_iret G hr E d_Pi_letterAt_23 rfl ⟨rfl, rfl⟩
set_option maxRecDepth 20000 in
set_option maxHeartbeats 1000000 in
theorem ct_Pi_put (l : Launch) (bs : List Nat) (c0 : Nat) (zp : Int32) (f : Nat → Int32) (hf : pi_is f bs) (hb : bs.length < 520) (hc : c0 < 128) : ax_CT l y_Pi_put c_Pi_put 2 none 0 [.ref 7, .int (nI c0)] (pc_Pi (nI bs.length) zp f) (fun r h => r = none ∧ pi_P (bs ++ [c0]) zp h) := by
  refine ax_ofV (by decide) (Nat.le_of_ble_eq_true rfl) ?_
  intro p e s m args below meth c D cid ad A Qc G hr E
  refine ax_aload_n G d_Pi_put_0 rfl rfl ?_
  refine ax_get (ci := 3) (j := 1) G d_Pi_put_1 rfl rfl (by decide) k_Pi_15 rfl ?_
  refine ax_aload_n G d_Pi_put_4 rfl rfl ?_
  refine ax_get (ci := 3) (j := 0) G d_Pi_put_5 rfl rfl (by decide) k_Pi_11 rfl ?_
  refine ax_alen (v := (nI 520)) G d_Pi_put_8 rfl (by decide) rfl ?_
  refine ax_icmp_ge (tgt := 33) G d_Pi_put_9 (by decide) (fun c_9 => ?_) (fun c_9 => ?_)
  · exact absurd c_9 (nI_ge hb (by decide))
  · refine ax_aload_n G d_Pi_put_12 rfl rfl ?_
    refine ax_get (ci := 3) (j := 0) G d_Pi_put_13 rfl rfl (by decide) k_Pi_11 rfl ?_
    refine ax_aload_n G d_Pi_put_16 rfl rfl ?_
    refine ax_get (ci := 3) (j := 1) G d_Pi_put_17 rfl rfl (by decide) k_Pi_15 rfl ?_
    refine ax_iload_n G d_Pi_put_20 rfl rfl ?_
    refine ax_i2b G d_Pi_put_21 ?_
    refine ax_bast G d_Pi_put_22 rfl (vp_in_nI hb (by decide)) ?_
    rw [nI_clamp (by omega)]
    refine ax_aload_n G d_Pi_put_23 rfl rfl ?_
    refine ax_dup G d_Pi_put_24 rfl ?_
    refine ax_get (ci := 3) (j := 1) G d_Pi_put_25 rfl rfl (by decide) k_Pi_15 rfl ?_
    refine ax_iconst (v := 1) G d_Pi_put_28 (by decide) ?_
    refine ax_iadd G d_Pi_put_29 ?_
    refine ax_put (ci := 3) (j := 1) G d_Pi_put_30 rfl rfl (by decide) k_Pi_15 rfl rfl rfl (Nat.le_of_ble_eq_true rfl) ?_
    rw [nI_1]
    exact ax_vret G hr E d_Pi_put_33 rfl ⟨rfl, _, by rw [List.length_append]; rfl, pi_put hf hc⟩
set_option maxRecDepth 20000 in
set_option maxHeartbeats 1000000 in
theorem ct_Pi_putWord (l : Launch) (bs : List Nat) (t : Nat) (zp : Int32) (f : Nat → Int32) (hf : pi_is f bs) (ht : t < 8) (hb : bs.length + ax_len.getD t 0 ≤ 520) : ax_CT l y_Pi_putWord c_Pi_putWord 3 none 4 [.ref 7, .ref (100 + t)] (pc_Pi (nI bs.length) zp f) (fun r h => r = none ∧ pi_P (bs ++ st_wd t) zp h) := by
  refine ax_ofV (by decide) (Nat.le_of_ble_eq_true rfl) ?_
  intro p e s m args below meth c D cid ad A Qc G hr E
  have hL := (st_len t ht).2
  obtain ⟨hw, hwa⟩ := st_wd_at t ht
  have loop : ∀ (k i : Nat) (f' : Nat → Int32), k + i = ax_len.getD t 0 → pi_is f' (bs ++ (st_wd t).take i) → ax_V p l e (ax_rm 4) s m args below meth c D cid ad A 3 0 0 (MQ below Qc args s 0 0 A) 2 [(0, .ref 7), (1, .ref (100 + t)), (2, .int (nI i))] [] (pc_Pi (nI (bs ++ (st_wd t).take i).length) zp f') := by
    intro k
    induction k with
    | zero =>
      intro i f' hi hf'
      refine ax_iload_n G d_Pi_putWord_2 rfl rfl ?_
      refine ax_aload_n G d_Pi_putWord_3 rfl rfl ?_
      refine ax_callK (n := 0) G ht (ct_St_length l t ht) d_Pi_putWord_4 rfl trivial rfl kc_St_length ⟨k_Pi_22, ki_St_length, ks_St_length, kk_St⟩ (by decide +kernel) rfl ⟨by decide, by decide⟩ (Nat.le_of_ble_eq_true rfl) ⟨by decide, by decide⟩ (fun r hc_ hq hk_ => ?_)
      obtain ⟨rfl, rfl⟩ := hq
      refine ax_icmp_ge (tgt := 25) G d_Pi_putWord_7 (by decide) (fun c_7 => ?_) (fun c_7 => ?_)
      · rw [List.take_of_length_le (by omega)] at hf' ⊢
        exact ax_vret G hr E d_Pi_putWord_25 rfl ⟨rfl, f', rfl, hf'⟩
      · exact absurd (nI_le (by omega) (by omega)) c_7
    | succ k ih =>
      intro i f' hi hf'
      refine ax_iload_n G d_Pi_putWord_2 rfl rfl ?_
      refine ax_aload_n G d_Pi_putWord_3 rfl rfl ?_
      refine ax_callK (n := 0) G ht (ct_St_length l t ht) d_Pi_putWord_4 rfl trivial rfl kc_St_length ⟨k_Pi_22, ki_St_length, ks_St_length, kk_St⟩ (by decide +kernel) rfl ⟨by decide, by decide⟩ (Nat.le_of_ble_eq_true rfl) ⟨by decide, by decide⟩ (fun r hc_ hq hk_ => ?_)
      obtain ⟨rfl, rfl⟩ := hq
      refine ax_icmp_ge (tgt := 25) G d_Pi_putWord_7 (by decide) (fun c_7 => ?_) (fun c_7 => ?_)
      · exact absurd c_7 (nI_ge (by omega) (by omega))
      · refine ax_aload_n G d_Pi_putWord_10 rfl rfl ?_
        refine ax_aload_n G d_Pi_putWord_11 rfl rfl ?_
        refine ax_iload_n G d_Pi_putWord_12 rfl rfl ?_
        refine ax_callK (n := 1) G ht (ct_St_charAt l t i ht (by omega)) d_Pi_putWord_13 rfl trivial rfl kc_St_charAt ⟨k_Pi_28, ki_St_charAt, ks_St_charAt, kk_St⟩ (by decide +kernel) rfl ⟨by decide, by decide⟩ (Nat.le_of_ble_eq_true rfl) ⟨by decide, by decide⟩ (fun r hc_ hq hk_ => ?_)
        obtain ⟨rfl, rfl⟩ := hq
        obtain ⟨e1, e2⟩ := hwa i (by omega)
        rw [e1]
        have hlen : (bs ++ (st_wd t).take i).length = bs.length + i := by rw [List.length_append, List.length_take]; omega
        refine ax_callV (n := 1) G (ct_Pi_put l (bs ++ (st_wd t).take i) ((st_wd t).getD i 0) zp f' hf' (by omega) e2) d_Pi_putWord_16 rfl ⟨rfl, rfl, trivial⟩ rfl rfl rfl kc_Pi_put ⟨k_Pi_32, ki_Pi_put, ks_Pi_put, kk_Pi⟩ (by decide +kernel) rfl ⟨by decide, by decide⟩ (Nat.le_of_ble_eq_true rfl) ⟨by decide, by decide⟩ (fun r hc_ hq hk_ => ?_)
        obtain ⟨rfl, f2, rfl, hf2⟩ := hq
        refine ax_iincZ (z := 1) G d_Pi_putWord_19 rfl (by decide) (by decide) ?_
        refine ax_goto (tgt := 2) G d_Pi_putWord_22 (by decide) ?_
        rw [nI_1]
        have e3 : bs ++ (st_wd t).take i ++ [(st_wd t).getD i 0] = bs ++ (st_wd t).take (i + 1) := by
          rw [List.append_assoc, List.take_add_one, List.getD_eq_getElem?_getD, List.getElem?_eq_getElem (by omega)]
          rfl
        rw [e3] at hf2
        have := ih (i + 1) f2 (by omega) hf2
        rw [← e3] at this
        exact this
  refine ax_iconst (v := 0) G d_Pi_putWord_0 (by decide) ?_
  refine ax_istore_n G d_Pi_putWord_1 rfl (by decide) ?_
  have := loop (ax_len.getD t 0) 0 f rfl (by rw [List.take_zero, List.append_nil]; exact hf)
  rw [List.take_zero, List.append_nil] at this
  exact this
set_option maxRecDepth 20000 in
set_option maxHeartbeats 1000000 in
theorem ct_Pi_putSign (l : Launch) (bs : List Nat) (neg : Bool) (zp : Int32) (f : Nat → Int32) (lf pl bl ha ze : Bool) (w : Int32) (wt : Bool) (pr : Int32) (pt : Bool) (kd : Int32) (gr : Bool) (pa : Int32) (hf : pi_is f bs) (hb : bs.length < 520) : ax_CT l y_Pi_putSign c_Pi_putSign 3 none 1 [.ref 7, .int (zb neg), .ref 5] (pc_Pi (nI bs.length) zp f ++ pc_Di lf pl bl ha ze w wt pr pt kd gr pa) (fun r h => r = none ∧ ∃ h1, h = h1 ++ pc_Di lf pl bl ha ze w wt pr pt kd gr pa ∧ pi_P (bs ++ sgn neg pl bl) zp h1) := by
  refine ax_ofV (by decide) (Nat.le_of_ble_eq_true rfl) ?_
  intro p e s m args below meth c D cid ad A Qc G hr E
  refine ax_iload_n G d_Pi_putSign_0 rfl rfl ?_
  refine ax_if_eq (tgt := 13) G d_Pi_putSign_1 (by decide) (fun c_1 => ?_) (fun c_1 => ?_)
  · have hn : neg = false := (zb_ne neg).mp c_1
    subst hn
    refine ax_aload_n G d_Pi_putSign_13 rfl rfl ?_
    refine ax_getN (ci := 1) (j := 1) G d_Pi_putSign_14 rfl rfl (by decide) k_Pi_36 rfl ?_
    refine ax_if_eq (tgt := 29) G d_Pi_putSign_17 (by decide) (fun c_17 => ?_) (fun c_17 => ?_)
    · have hp : pl = false := (zb_ne pl).mp c_17
      subst hp
      refine ax_aload_n G d_Pi_putSign_29 rfl rfl ?_
      refine ax_getN (ci := 1) (j := 2) G d_Pi_putSign_30 rfl rfl (by decide) k_Pi_42 rfl ?_
      refine ax_if_eq (tgt := 42) G d_Pi_putSign_33 (by decide) (fun c_33 => ?_) (fun c_33 => ?_)
      · have hz : bl = false := (zb_ne bl).mp c_33
        subst hz
        exact ax_vret G hr E d_Pi_putSign_42 rfl ⟨rfl, _, rfl, f, by rw [show sgn false false false = [] from rfl, List.append_nil], by rw [show sgn false false false = [] from rfl, List.append_nil]; exact hf⟩
      · have hz : bl = true := by cases bl; exact absurd rfl c_33; rfl
        subst hz
        refine ax_aload_n G d_Pi_putSign_36 rfl rfl ?_
        refine ax_bipush (v := 32) G d_Pi_putSign_37 (by decide) ?_
        refine ax_callV (n := 1) G (ct_Pi_put l bs 32 zp f hf hb (by decide)) d_Pi_putSign_39 rfl ⟨rfl, rfl, trivial⟩ rfl rfl rfl kc_Pi_put ⟨k_Pi_32, ki_Pi_put, ks_Pi_put, kk_Pi⟩ (by decide +kernel) rfl ⟨by decide, by decide⟩ (Nat.le_of_ble_eq_true rfl) ⟨by decide, by decide⟩ (fun r hc_ hq hk_ => ?_)
        obtain ⟨rfl, f2, rfl, hf2⟩ := hq
        exact ax_vret G hr E d_Pi_putSign_42 rfl ⟨rfl, _, rfl, f2, rfl, hf2⟩
    · have hp : pl = true := by cases pl; exact absurd rfl c_17; rfl
      subst hp
      refine ax_aload_n G d_Pi_putSign_20 rfl rfl ?_
      refine ax_bipush (v := 43) G d_Pi_putSign_21 (by decide) ?_
      refine ax_callV (n := 1) G (ct_Pi_put l bs 43 zp f hf hb (by decide)) d_Pi_putSign_23 rfl ⟨rfl, rfl, trivial⟩ rfl rfl rfl kc_Pi_put ⟨k_Pi_32, ki_Pi_put, ks_Pi_put, kk_Pi⟩ (by decide +kernel) rfl ⟨by decide, by decide⟩ (Nat.le_of_ble_eq_true rfl) ⟨by decide, by decide⟩ (fun r hc_ hq hk_ => ?_)
      obtain ⟨rfl, f2, rfl, hf2⟩ := hq
      refine ax_goto (tgt := 42) G d_Pi_putSign_26 (by decide) ?_
      exact ax_vret G hr E d_Pi_putSign_42 rfl ⟨rfl, _, rfl, f2, rfl, hf2⟩
  · have hn : neg = true := by cases neg; exact absurd rfl c_1; rfl
    subst hn
    refine ax_aload_n G d_Pi_putSign_4 rfl rfl ?_
    refine ax_bipush (v := 45) G d_Pi_putSign_5 (by decide) ?_
    refine ax_callV (n := 1) G (ct_Pi_put l bs 45 zp f hf hb (by decide)) d_Pi_putSign_7 rfl ⟨rfl, rfl, trivial⟩ rfl rfl rfl kc_Pi_put ⟨k_Pi_32, ki_Pi_put, ks_Pi_put, kk_Pi⟩ (by decide +kernel) rfl ⟨by decide, by decide⟩ (Nat.le_of_ble_eq_true rfl) ⟨by decide, by decide⟩ (fun r hc_ hq hk_ => ?_)
    obtain ⟨rfl, f2, rfl, hf2⟩ := hq
    refine ax_goto (tgt := 42) G d_Pi_putSign_10 (by decide) ?_
    exact ax_vret G hr E d_Pi_putSign_42 rfl ⟨rfl, _, rfl, f2, rfl, hf2⟩
set_option maxRecDepth 20000 in
set_option maxHeartbeats 1000000 in
theorem ct_Pi_putDigit (l : Launch) (bs : List Nat) (x : Int32) (n : Nat) (zp : Int32) (f : Nat → Int32) (hf : pi_is f bs) (hb : bs.length < 520) (hx0 : x.toBitVec.toNat % 16 = n) : ax_CT l y_Pi_putDigit c_Pi_putDigit 2 none 4 [.ref 7, .int x] (pc_Pi (nI bs.length) zp f) (fun r h => r = none ∧ pi_P (bs ++ [hx n]) zp h) := by
  refine ax_ofV (by decide) (Nat.le_of_ble_eq_true rfl) ?_
  intro p e s m args below meth c D cid ad A Qc G hr E
  have hn : n < 16 := by rw [← hx0]; exact Nat.mod_lt _ (by decide)
  refine ax_aload_n G d_Pi_putDigit_0 rfl rfl ?_
  refine ax_ldcS (tx := "0123456789abcdef") (t := 1) G d_Pi_putDigit_1 (by decide +kernel) ?_
  refine ax_iload_n G d_Pi_putDigit_3 rfl rfl ?_
  refine ax_bipush (v := 15) G d_Pi_putDigit_4 (by decide) ?_
  refine ax_iand G d_Pi_putDigit_6 ?_
  rw [pk_and x 4 (by decide), hx0]
  refine ax_callK (n := 1) G (by decide) (ct_St_charAt l 1 n (by decide) hn) d_Pi_putDigit_7 rfl trivial rfl kc_St_charAt ⟨k_Pi_28, ki_St_charAt, ks_St_charAt, kk_St⟩ (by decide +kernel) rfl ⟨by decide, by decide⟩ (Nat.le_of_ble_eq_true rfl) ⟨by decide, by decide⟩ (fun r hc_ hq hk_ => ?_)
  obtain ⟨rfl, rfl⟩ := hq
  rw [hx_byt n hn]
  refine ax_callV (n := 1) G (ct_Pi_put l bs (hx n) zp f hf hb (hx_lt hn)) d_Pi_putDigit_10 rfl ⟨rfl, rfl, trivial⟩ rfl rfl rfl kc_Pi_put ⟨k_Pi_32, ki_Pi_put, ks_Pi_put, kk_Pi⟩ (by decide +kernel) rfl ⟨by decide, by decide⟩ (Nat.le_of_ble_eq_true rfl) ⟨by decide, by decide⟩ (fun r hc_ hq hk_ => ?_)
  obtain ⟨rfl, f2, rfl, hf2⟩ := hq
  exact ax_vret G hr E d_Pi_putDigit_13 rfl ⟨rfl, f2, rfl, hf2⟩
set_option maxRecDepth 20000 in
set_option maxHeartbeats 1000000 in
theorem ct_Pi_withoutLastDigit (l : Launch) (U b : Nat) (hU : U < 2 ^ 64) (hb : b = 8 ∨ b = 10 ∨ b = 16) : ax_CT l y_Pi_withoutLastDigit c_Pi_withoutLastDigit 3 (some .long) 0 [.long (uw U), .int (nI b)] [] (fun r h => r = some (.long (uw (U / b))) ∧ h = []) := by
  refine ax_ofV (by decide) (Nat.le_of_ble_eq_true rfl) ?_
  intro p e s m args below meth c D cid ad A Qc G hr E
  rcases hb with rfl | rfl | rfl
  · refine ax_iload_n G d_Pi_withoutLastDigit_0 rfl rfl ?_
    refine ax_bipush (v := 8) G d_Pi_withoutLastDigit_1 (by decide) ?_
    refine ax_icmp_ne (tgt := 10) G d_Pi_withoutLastDigit_3 (by decide) (fun c_3 => ?_) (fun c_3 => ?_)
    · exact absurd rfl c_3
    · refine ax_lload_n G d_Pi_withoutLastDigit_6 rfl rfl ?_
      refine ax_iconst (v := 3) G d_Pi_withoutLastDigit_7 (by decide) ?_
      refine ax_lushr G d_Pi_withoutLastDigit_8 ?_
      rw [uw_ush U 3 hU _ (by decide)]
      exact ax_lret G hr E d_Pi_withoutLastDigit_9 rfl ⟨rfl, rfl⟩
  · refine ax_iload_n G d_Pi_withoutLastDigit_0 rfl rfl ?_
    refine ax_bipush (v := 8) G d_Pi_withoutLastDigit_1 (by decide) ?_
    refine ax_icmp_ne (tgt := 10) G d_Pi_withoutLastDigit_3 (by decide) (fun c_3 => ?_) (fun c_3 => ?_)
    · refine ax_iload_n G d_Pi_withoutLastDigit_10 rfl rfl ?_
      refine ax_bipush (v := 16) G d_Pi_withoutLastDigit_11 (by decide) ?_
      refine ax_icmp_ne (tgt := 20) G d_Pi_withoutLastDigit_13 (by decide) (fun c_13 => ?_) (fun c_13 => ?_)
      · refine ax_lload_n G d_Pi_withoutLastDigit_20 rfl rfl ?_
        refine ax_iconst (v := 1) G d_Pi_withoutLastDigit_21 (by decide) ?_
        refine ax_lushr G d_Pi_withoutLastDigit_22 ?_
        rw [uw_ush U 1 hU _ (by decide)]
        refine ax_ldc2 G d_Pi_withoutLastDigit_23 k_Pi_51 ?_
        refine ax_ldiv G d_Pi_withoutLastDigit_26 (by decide) ?_
        exact ax_lret G hr E d_Pi_withoutLastDigit_27 rfl ⟨by rw [uw_lN, show (5 : Int64) = lN 5 from rfl, pk_lDiv (by omega) (by decide) (by decide), Nat.div_div_eq_div_mul]; rfl, rfl⟩
      · exact absurd c_13 (by decide)
    · exact absurd c_3 (by decide)
  · refine ax_iload_n G d_Pi_withoutLastDigit_0 rfl rfl ?_
    refine ax_bipush (v := 8) G d_Pi_withoutLastDigit_1 (by decide) ?_
    refine ax_icmp_ne (tgt := 10) G d_Pi_withoutLastDigit_3 (by decide) (fun c_3 => ?_) (fun c_3 => ?_)
    · refine ax_iload_n G d_Pi_withoutLastDigit_10 rfl rfl ?_
      refine ax_bipush (v := 16) G d_Pi_withoutLastDigit_11 (by decide) ?_
      refine ax_icmp_ne (tgt := 20) G d_Pi_withoutLastDigit_13 (by decide) (fun c_13 => ?_) (fun c_13 => ?_)
      · exact absurd rfl c_13
      · refine ax_lload_n G d_Pi_withoutLastDigit_16 rfl rfl ?_
        refine ax_iconst (v := 4) G d_Pi_withoutLastDigit_17 (by decide) ?_
        refine ax_lushr G d_Pi_withoutLastDigit_18 ?_
        rw [uw_ush U 4 hU _ (by decide)]
        exact ax_lret G hr E d_Pi_withoutLastDigit_19 rfl ⟨rfl, rfl⟩
    · exact absurd c_3 (by decide)
set_option maxRecDepth 20000 in
set_option maxHeartbeats 1000000 in
theorem ct_Pi_digitsOf (l : Launch) (U b : Nat) (hU : U < 2 ^ 64) (hb : b = 8 ∨ b = 10 ∨ b = 16) : ax_CT l y_Pi_digitsOf c_Pi_digitsOf 6 (some .int) 1 [.long (uw U), .int (nI b)] [] (fun r h => r = some (.int (nI (dgf b 22 U))) ∧ h = []) := by
  refine ax_ofV (by decide) (Nat.le_of_ble_eq_true rfl) ?_
  intro p e s m args below meth c D cid ad A Qc G hr E
  have loop : ∀ (k i W : Nat), k + i = 22 → W < 2 ^ 64 → i + dgf b k W = dgf b 22 U → ax_V p l e (ax_rm 1) s m args below meth c D cid ad A 6 0 0 (MQ below Qc args s 0 0 A) 5 [(0, .long (uw U)), (2, .int (nI b)), (3, .long (uw W)), (5, .int (nI i))] [] [] := by
    intro k
    induction k with
    | zero =>
      intro i W hi hW he
      refine ax_iload G d_Pi_digitsOf_5 rfl ?_
      refine ax_bipush (v := 22) G d_Pi_digitsOf_7 (by decide) ?_
      refine ax_icmp_ge (tgt := 33) G d_Pi_digitsOf_9 (by decide) (fun c_9 => ?_) (fun c_9 => ?_)
      · refine ax_bipush (v := 22) G d_Pi_digitsOf_33 (by decide) ?_
        exact ax_iret G hr E d_Pi_digitsOf_35 rfl ⟨by rw [← he, show i = 22 by omega]; rfl, rfl⟩
      · exact absurd (nI_le (a := 22) (by omega) (by omega)) c_9
    | succ k ih =>
      intro i W hi hW he
      refine ax_iload G d_Pi_digitsOf_5 rfl ?_
      refine ax_bipush (v := 22) G d_Pi_digitsOf_7 (by decide) ?_
      refine ax_icmp_ge (tgt := 33) G d_Pi_digitsOf_9 (by decide) (fun c_9 => ?_) (fun c_9 => ?_)
      · exact absurd c_9 (nI_ge (b := 22) (by omega) (by decide))
      · have hz : (lg_cmp (uw W) 0 = 0) ↔ W = 0 := by rw [lg_cmp_eq, ul_0, ul_uw hW]
        rw [dgf_s] at he
        refine ax_lload_n G d_Pi_digitsOf_12 rfl rfl ?_
        refine ax_lconst (v := 0) G d_Pi_digitsOf_13 (by decide) ?_
        refine ax_lcmp G d_Pi_digitsOf_14 ?_
        refine ax_if_ne (tgt := 21) G d_Pi_digitsOf_15 (by decide) (fun c_15 => ?_) (fun c_15 => ?_)
        · rw [if_neg (fun q => c_15 (hz.mpr q))] at he
          refine ax_lload_n G d_Pi_digitsOf_21 rfl rfl ?_
          refine ax_iload_n G d_Pi_digitsOf_22 rfl rfl ?_
          refine ax_callS (n := 2) G (ct_Pi_withoutLastDigit l W b hW hb) d_Pi_digitsOf_23 rfl trivial rfl kc_Pi_withoutLastDigit ⟨k_Pi_47, kt_Pi_withoutLastDigit, kk_Pi⟩ (by decide +kernel) rfl ⟨by decide, by decide⟩ (Nat.le_of_ble_eq_true rfl) ⟨by decide, by decide⟩ (fun r hc_ hq hk_ => ?_)
          obtain ⟨rfl, rfl⟩ := hq
          refine ax_lstore_n G d_Pi_digitsOf_26 rfl (by decide) ?_
          refine ax_iincZ (z := 1) G d_Pi_digitsOf_27 rfl (by decide) (by decide) ?_
          refine ax_goto (tgt := 5) G d_Pi_digitsOf_30 (by decide) ?_
          rw [nI_1]
          exact ih (i + 1) (W / b) (by omega) (Nat.lt_of_le_of_lt (Nat.div_le_self _ _) hW) (by omega)
        · rw [if_pos (hz.mp c_15)] at he
          refine ax_iload G d_Pi_digitsOf_18 rfl ?_
          exact ax_iret G hr E d_Pi_digitsOf_20 rfl ⟨by rw [← he]; rfl, rfl⟩
  refine ax_lload_n G d_Pi_digitsOf_0 rfl rfl ?_
  refine ax_lstore_n G d_Pi_digitsOf_1 rfl (by decide) ?_
  refine ax_iconst (v := 0) G d_Pi_digitsOf_2 (by decide) ?_
  refine ax_istore G d_Pi_digitsOf_3 (by decide) ?_
  exact loop 22 0 U rfl hU (Nat.zero_add _)
set_option maxRecDepth 20000 in
set_option maxHeartbeats 1000000 in
theorem ct_Pi_putWhole (l : Launch) (bs : List Nat) (U b n : Nat) (zp : Int32) (f : Nat → Int32) (hf : pi_is f bs) (hU : U < 2 ^ 64) (hb : b = 8 ∨ b = 10 ∨ b = 16) (hn : bs.length + n ≤ 520) : ax_CT l y_Pi_putWhole c_Pi_putWhole 11 none 4 [.ref 7, .long (uw U), .int (nI b), .int (nI n)] (pc_Pi (nI bs.length) zp f) (fun r h => r = none ∧ pi_P (bs ++ wl U b n) zp h) := by
  refine ax_ofV (by decide) (Nat.le_of_ble_eq_true rfl) ?_
  intro p e s m args below meth c D cid ad A Qc G hr E
  have hb0 : 0 < b ∧ b ≤ 16 := by rcases hb with h | h | h <;> omega
  have loop2 : ∀ (j t : Nat) (f' : Nat → Int32), j + t = n → (∀ q, q < bs.length → f' q = f q) → (∀ q, n ≤ q + t → q < n → f' (bs.length + q) = nI (hx (U / b ^ (n - 1 - q) % b))) → ax_V p l e (ax_rm 4) s m args below meth c D cid ad A 11 0 0 (MQ below Qc args s 0 0 A) 39 [(0, .ref 7), (1, .long (uw U)), (3, .int (nI b)), (4, .int (nI n)), (5, .int (nI bs.length)), (6, .long (uw (U / b ^ t))), (8, .int (nI (bs.length + j) - 1))] [] (pc_Pi (nI (bs.length + n)) zp f') := by
    intro j
    induction j with
    | zero =>
      intro t f' ht h1 h2
      refine ax_iload G d_Pi_putWhole_39 rfl ?_
      refine ax_iload G d_Pi_putWhole_41 rfl ?_
      refine ax_icmp_lt (tgt := 89) G d_Pi_putWhole_43 (by decide) (fun c_43 => ?_) (fun c_43 => ?_)
      · refine ax_vret G hr E d_Pi_putWhole_89 rfl ⟨rfl, f', by rw [List.length_append, wl_len], pi_app (fun i hi => by rw [h1 i hi]; exact hf i hi) (fun i hi => ?_)⟩
        rw [wl_len] at hi
        rw [wl_at _ _ _ _ hi]
        exact ⟨h2 i (by omega) hi, hx_lt (Nat.lt_of_lt_of_le (Nat.mod_lt _ hb0.1) hb0.2)⟩
      · refine absurd ?_ c_43
        rw [Nat.add_zero, Int32.lt_iff_toInt_lt, show nI bs.length - 1 = nI bs.length - nI 1 from rfl, pk_sub_toInt (by omega) (by decide), nI_toInt (by omega)]
        omega
    | succ j ih =>
      intro t f' ht h1 h2
      have hW : U / b ^ t < 2 ^ 64 := Nat.lt_of_le_of_lt (Nat.div_le_self _ _) hU
      rw [show bs.length + (j + 1) = (bs.length + j) + 1 from rfl, nI_pred]
      refine ax_iload G d_Pi_putWhole_39 rfl ?_
      refine ax_iload G d_Pi_putWhole_41 rfl ?_
      refine ax_icmp_lt (tgt := 89) G d_Pi_putWhole_43 (by decide) (fun c_43 => ?_) (fun c_43 => ?_)
      · exact absurd c_43 (nI_nlt (by omega) (by omega))
      · refine ax_lload G d_Pi_putWhole_46 rfl ?_
        refine ax_iload_n G d_Pi_putWhole_48 rfl rfl ?_
        refine ax_callS (n := 2) G (ct_Pi_withoutLastDigit l (U / b ^ t) b hW hb) d_Pi_putWhole_49 rfl trivial rfl kc_Pi_withoutLastDigit ⟨k_Pi_47, kt_Pi_withoutLastDigit, kk_Pi⟩ (by decide +kernel) rfl ⟨by decide, by decide⟩ (Nat.le_of_ble_eq_true rfl) ⟨by decide, by decide⟩ (fun r hc_ hq hk_ => ?_)
        obtain ⟨rfl, rfl⟩ := hq
        refine ax_lstore G d_Pi_putWhole_52 (by decide) ?_
        refine ax_aload_n G d_Pi_putWhole_54 rfl rfl ?_
        refine ax_get (ci := 3) (j := 0) G d_Pi_putWhole_55 rfl rfl (by decide) k_Pi_11 rfl ?_
        refine ax_iload G d_Pi_putWhole_58 rfl ?_
        refine ax_ldcS (tx := "0123456789abcdef") (t := 1) G d_Pi_putWhole_60 (by decide +kernel) ?_
        refine ax_lload G d_Pi_putWhole_62 rfl ?_
        refine ax_iload_n G d_Pi_putWhole_64 rfl rfl ?_
        refine ax_i2l G d_Pi_putWhole_65 ?_
        refine ax_lload G d_Pi_putWhole_66 rfl ?_
        refine ax_lmul G d_Pi_putWhole_68 ?_
        refine ax_lsub G d_Pi_putWhole_69 ?_
        refine ax_l2i G d_Pi_putWhole_70 ?_
        refine ax_bipush (v := 15) G d_Pi_putWhole_71 (by decide) ?_
        refine ax_iand G d_Pi_putWhole_73 ?_
        have e1 : ((uw (U / b ^ t) - (nI b).toInt64 * uw (U / b ^ t / b)).toInt32 &&& 15) = nI (U / b ^ t % b) := by
          rw [nI_l (by omega), uw_lN, uw_lN, lN_mul, lN_sub (Nat.mul_div_le _ _), lN_i, pk_andN (k := 4) ?_ (by decide)]
          · have := Nat.mod_lt (U / b ^ t) hb0.1
            have e2 : U / b ^ t - b * (U / b ^ t / b) = U / b ^ t % b := by
              have := Nat.div_add_mod (U / b ^ t) b
              omega
            rw [e2, Nat.mod_eq_of_lt (by omega)]
          · have := Nat.mod_lt (U / b ^ t) hb0.1
            have := Nat.div_add_mod (U / b ^ t) b
            omega
        rw [e1]
        have hd : U / b ^ t % b < 16 := Nat.lt_of_lt_of_le (Nat.mod_lt _ hb0.1) hb0.2
        refine ax_callK (n := 1) G (by decide) (ct_St_charAt l 1 (U / b ^ t % b) (by decide) hd) d_Pi_putWhole_74 rfl trivial rfl kc_St_charAt ⟨k_Pi_28, ki_St_charAt, ks_St_charAt, kk_St⟩ (by decide +kernel) rfl ⟨by decide, by decide⟩ (Nat.le_of_ble_eq_true rfl) ⟨by decide, by decide⟩ (fun r hc_ hq hk_ => ?_)
        obtain ⟨rfl, rfl⟩ := hq
        rw [hx_byt _ hd]
        refine ax_i2b G d_Pi_putWhole_77 ?_
        refine ax_bast G d_Pi_putWhole_78 rfl (vp_in_nI (by omega) (by omega)) ?_
        rw [nI_clamp (by omega)]
        refine ax_lload G d_Pi_putWhole_79 rfl ?_
        refine ax_lstore G d_Pi_putWhole_81 (by decide) ?_
        refine ax_iincZ (z := (-1)) G d_Pi_putWhole_83 rfl (by decide) (by decide) ?_
        refine ax_goto (tgt := 39) G d_Pi_putWhole_86 (by decide) ?_
        rw [Nat.div_div_eq_div_mul, ← Nat.pow_succ, addm1]
        refine ax_less (ih (t + 1) _ (by omega) (fun q hq => ?_) (fun q hq1 hq2 => ?_)) ⟨rfl, rfl, rfl, rfl, rfl, rfl, rfl, trivial⟩
        · rw [pk_un (by omega)]; exact h1 q hq
        · by_cases hqj : q = j
          · subst hqj
            rw [pk_us, pk_vb, by_nI (hx_lt hd), show n - 1 - q = t by omega]
          · rw [pk_un (by omega)]
            exact h2 q (by omega) hq2
  have loop1 : ∀ (j i : Nat) (f' : Nat → Int32), j + i = n → pi_is f' (bs ++ List.replicate i 48) → ax_V p l e (ax_rm 4) s m args below meth c D cid ad A 11 0 0 (MQ below Qc args s 0 0 A) 9 [(0, .ref 7), (1, .long (uw U)), (3, .int (nI b)), (4, .int (nI n)), (5, .int (nI bs.length)), (6, .int (nI i))] [] (pc_Pi (nI (bs ++ List.replicate i 48).length) zp f') := by
    intro j
    induction j with
    | zero =>
      intro i f' hi hf'
      have e : i = n := by omega
      subst e
      rw [List.length_append, List.length_replicate]
      refine ax_iload G d_Pi_putWhole_9 rfl ?_
      refine ax_iload G d_Pi_putWhole_11 rfl ?_
      refine ax_icmp_ge (tgt := 28) G d_Pi_putWhole_13 (by decide) (fun c_13 => ?_) (fun c_13 => ?_)
      · refine ax_lload_n G d_Pi_putWhole_28 rfl rfl ?_
        refine ax_lstore G d_Pi_putWhole_29 (by decide) ?_
        refine ax_aload_n G d_Pi_putWhole_31 rfl rfl ?_
        refine ax_get (ci := 3) (j := 1) G d_Pi_putWhole_32 rfl rfl (by decide) k_Pi_15 rfl ?_
        refine ax_iconst (v := 1) G d_Pi_putWhole_35 (by decide) ?_
        refine ax_isub G d_Pi_putWhole_36 ?_
        refine ax_istore G d_Pi_putWhole_37 (by decide) ?_
        have := loop2 i 0 f' (by omega) (fun q hq => by rw [(pi_pre hf' q hq).1, (hf q hq).1]) (fun q h1 h2 => by omega)
        rw [Nat.pow_zero, Nat.div_one] at this
        exact this
      · exact absurd (nI_le (Nat.le_refl _) (by omega)) c_13
    | succ j ih =>
      intro i f' hi hf'
      have hlen : (bs ++ List.replicate i 48).length = bs.length + i := by rw [List.length_append, List.length_replicate]
      refine ax_iload G d_Pi_putWhole_9 rfl ?_
      refine ax_iload G d_Pi_putWhole_11 rfl ?_
      refine ax_icmp_ge (tgt := 28) G d_Pi_putWhole_13 (by decide) (fun c_13 => ?_) (fun c_13 => ?_)
      · exact absurd c_13 (nI_ge (by omega) (by omega))
      · refine ax_aload_n G d_Pi_putWhole_16 rfl rfl ?_
        refine ax_bipush (v := 48) G d_Pi_putWhole_17 (by decide) ?_
        refine ax_callV (n := 1) G (ct_Pi_put l (bs ++ List.replicate i 48) 48 zp f' hf' (by omega) (by decide)) d_Pi_putWhole_19 rfl ⟨rfl, rfl, trivial⟩ rfl rfl rfl kc_Pi_put ⟨k_Pi_32, ki_Pi_put, ks_Pi_put, kk_Pi⟩ (by decide +kernel) rfl ⟨by decide, by decide⟩ (Nat.le_of_ble_eq_true rfl) ⟨by decide, by decide⟩ (fun r hc_ hq hk_ => ?_)
        obtain ⟨rfl, f2, rfl, hf2⟩ := hq
        refine ax_iincZ (z := 1) G d_Pi_putWhole_22 rfl (by decide) (by decide) ?_
        refine ax_goto (tgt := 9) G d_Pi_putWhole_25 (by decide) ?_
        rw [nI_1]
        have e3 : bs ++ List.replicate i 48 ++ [48] = bs ++ List.replicate (i + 1) 48 := by rw [List.append_assoc, List.replicate_succ']
        rw [e3] at hf2
        have := ih (i + 1) f2 (by omega) hf2
        rw [← e3] at this
        exact this
  refine ax_aload_n G d_Pi_putWhole_0 rfl rfl ?_
  refine ax_get (ci := 3) (j := 1) G d_Pi_putWhole_1 rfl rfl (by decide) k_Pi_15 rfl ?_
  refine ax_istore G d_Pi_putWhole_4 (by decide) ?_
  refine ax_iconst (v := 0) G d_Pi_putWhole_6 (by decide) ?_
  refine ax_istore G d_Pi_putWhole_7 (by decide) ?_
  have := loop1 n 0 f rfl (by rw [List.replicate_zero, List.append_nil]; exact hf)
  rw [List.replicate_zero, List.append_nil] at this
  exact this
set_option maxRecDepth 20000 in
set_option maxHeartbeats 1000000 in
theorem ct_Pi_becomeGreat (l : Launch) (bs : List Nat) (zp : Int32) (f : Nat → Int32) (hf : pi_is f bs) (hb : bs.length ≤ 520) : ax_CT l y_Pi_becomeGreat c_Pi_becomeGreat 2 none 0 [.ref 7] (pc_Pi (nI bs.length) zp f) (fun r h => r = none ∧ pi_P (bs.map up) zp h) := by
  refine ax_ofV (by decide) (Nat.le_of_ble_eq_true rfl) ?_
  intro p e s m args below meth c D cid ad A Qc G hr E
  have loop : ∀ (j i : Nat) (f' : Nat → Int32), j + i = bs.length → (∀ q, q < i → f' q = nI (up (bs.getD q 0))) → (∀ q, i ≤ q → f' q = f q) → ax_V p l e (ax_rm 0) s m args below meth c D cid ad A 2 0 0 (MQ below Qc args s 0 0 A) 2 [(0, .ref 7), (1, .int (nI i))] [] (pc_Pi (nI bs.length) zp f') := by
    intro j
    induction j with
    | zero =>
      intro i f' hi h1 h2
      refine ax_iload_n G d_Pi_becomeGreat_2 rfl rfl ?_
      refine ax_aload_n G d_Pi_becomeGreat_3 rfl rfl ?_
      refine ax_get (ci := 3) (j := 1) G d_Pi_becomeGreat_4 rfl rfl (by decide) k_Pi_15 rfl ?_
      refine ax_icmp_ge (tgt := 57) G d_Pi_becomeGreat_7 (by decide) (fun c_7 => ?_) (fun c_7 => ?_)
      · refine ax_vret G hr E d_Pi_becomeGreat_57 rfl ⟨rfl, f', by rw [List.length_map], fun q hq => ?_⟩
        rw [List.length_map] at hq
        have e1 : (bs.map up).getD q 0 = up (bs.getD q 0) := by
          rw [List.getD_eq_getElem?_getD, List.getD_eq_getElem?_getD, List.getElem?_map, List.getElem?_eq_getElem hq]; rfl
        rw [e1]
        refine ⟨h1 q (by omega), ?_⟩
        have := (hf q hq).2
        unfold up; split <;> omega
      · exact absurd (nI_le (by omega) (by omega)) c_7
    | succ j ih =>
      intro i f' hi h1 h2
      have hi2 : i < bs.length := by omega
      obtain ⟨e1, e2⟩ := hf i hi2
      have step : ∀ f2 : Nat → Int32, f2 i = nI (up (bs.getD i 0)) → (∀ q, q ≠ i → f2 q = f' q) → ax_V p l e (ax_rm 0) s m args below meth c D cid ad A 2 0 0 (MQ below Qc args s 0 0 A) 51 [(0, .ref 7), (1, .int (nI i))] [] (pc_Pi (nI bs.length) zp f2) := by
        intro f2 g1 g2
        refine ax_iincZ (z := 1) G d_Pi_becomeGreat_51 rfl (by decide) (by decide) ?_
        refine ax_goto (tgt := 2) G d_Pi_becomeGreat_54 (by decide) ?_
        rw [nI_1]
        refine ih (i + 1) f2 (by omega) (fun q hq => ?_) (fun q hq => ?_)
        · by_cases hqi : q = i
          · rw [hqi]; exact g1
          · rw [g2 q hqi]; exact h1 q (by omega)
        · rw [g2 q (by omega)]; exact h2 q (by omega)
      have eq1 : f' i = nI (bs.getD i 0) := by rw [h2 i (Nat.le_refl _)]; exact e1
      refine ax_iload_n G d_Pi_becomeGreat_2 rfl rfl ?_
      refine ax_aload_n G d_Pi_becomeGreat_3 rfl rfl ?_
      refine ax_get (ci := 3) (j := 1) G d_Pi_becomeGreat_4 rfl rfl (by decide) k_Pi_15 rfl ?_
      refine ax_icmp_ge (tgt := 57) G d_Pi_becomeGreat_7 (by decide) (fun c_7 => ?_) (fun c_7 => ?_)
      · exact absurd c_7 (nI_ge hi2 (by omega))
      · refine ax_aload_n G d_Pi_becomeGreat_10 rfl rfl ?_
        refine ax_get (ci := 3) (j := 0) G d_Pi_becomeGreat_11 rfl rfl (by decide) k_Pi_11 rfl ?_
        refine ax_iload_n G d_Pi_becomeGreat_14 rfl rfl ?_
        refine ax_bald G d_Pi_becomeGreat_15 rfl (vp_in_nI (by omega) (by omega)) ?_
        rw [nI_clamp (by omega), eq1]
        refine ax_bipush (v := 97) G d_Pi_becomeGreat_16 (by decide) ?_
        refine ax_icmp_lt (tgt := 51) G d_Pi_becomeGreat_18 (by decide) (fun c_18 => ?_) (fun c_18 => ?_)
        · have hlt : bs.getD i 0 < 97 := (nI_ltI (b := 97) (by omega) (by decide)).mp c_18
          exact step f' (by rw [eq1]; unfold up; rw [if_neg (by omega)]) (fun _ _ => rfl)
        · have hge : ¬ bs.getD i 0 < 97 := fun q => c_18 ((nI_ltI (b := 97) (by omega) (by decide)).mpr q)
          refine ax_aload_n G d_Pi_becomeGreat_21 rfl rfl ?_
          refine ax_get (ci := 3) (j := 0) G d_Pi_becomeGreat_22 rfl rfl (by decide) k_Pi_11 rfl ?_
          refine ax_iload_n G d_Pi_becomeGreat_25 rfl rfl ?_
          refine ax_bald G d_Pi_becomeGreat_26 rfl (vp_in_nI (by omega) (by omega)) ?_
          rw [nI_clamp (by omega), eq1]
          refine ax_bipush (v := 122) G d_Pi_becomeGreat_27 (by decide) ?_
          refine ax_icmp_gt (tgt := 51) G d_Pi_becomeGreat_29 (by decide) (fun c_29 => ?_) (fun c_29 => ?_)
          · have hgt : 122 < bs.getD i 0 := (nI_ltI (a := 122) (by decide) (by omega)).mp c_29
            exact step f' (by rw [eq1]; unfold up; rw [if_neg (by omega)]) (fun _ _ => rfl)
          · have hle : ¬ 122 < bs.getD i 0 := fun q => c_29 ((nI_ltI (a := 122) (by decide) (by omega)).mpr q)
            refine ax_aload_n G d_Pi_becomeGreat_32 rfl rfl ?_
            refine ax_get (ci := 3) (j := 0) G d_Pi_becomeGreat_33 rfl rfl (by decide) k_Pi_11 rfl ?_
            refine ax_iload_n G d_Pi_becomeGreat_36 rfl rfl ?_
            refine ax_aload_n G d_Pi_becomeGreat_37 rfl rfl ?_
            refine ax_get (ci := 3) (j := 0) G d_Pi_becomeGreat_38 rfl rfl (by decide) k_Pi_11 rfl ?_
            refine ax_iload_n G d_Pi_becomeGreat_41 rfl rfl ?_
            refine ax_bald G d_Pi_becomeGreat_42 rfl (vp_in_nI (by omega) (by omega)) ?_
            rw [nI_clamp (by omega), eq1]
            refine ax_bipush (v := 97) G d_Pi_becomeGreat_43 (by decide) ?_
            refine ax_isub G d_Pi_becomeGreat_45 ?_
            refine ax_bipush (v := 65) G d_Pi_becomeGreat_46 (by decide) ?_
            refine ax_iadd G d_Pi_becomeGreat_48 ?_
            have e3 : nI (bs.getD i 0) - 97 + 65 = nI (up (bs.getD i 0)) := by
              unfold up
              rw [if_pos (by omega), show (97 : Int32) = nI 97 from rfl, pk_sub (by omega), show (65 : Int32) = nI 65 from rfl, nI_add]
              congr 1
              omega
            rw [e3]
            have hu : up (bs.getD i 0) < 128 := by unfold up; split <;> omega
            refine ax_i2b G d_Pi_becomeGreat_49 ?_
            refine ax_bast G d_Pi_becomeGreat_50 rfl (vp_in_nI (by omega) (by omega)) ?_
            rw [nI_clamp (by omega)]
            exact step _ (by rw [pk_us, pk_vb, by_nI hu]) (fun q hq => by rw [pk_un hq])
  refine ax_iconst (v := 0) G d_Pi_becomeGreat_0 (by decide) ?_
  refine ax_istore_n G d_Pi_becomeGreat_1 rfl (by decide) ?_
  exact loop bs.length 0 f rfl (fun q hq => absurd hq (Nat.not_lt_zero q)) (fun _ _ => rfl)

