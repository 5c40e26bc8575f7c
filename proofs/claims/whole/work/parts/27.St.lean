/-! java.lang.String and its helpers, on the String constants -/
theorem st_len : ∀ t, t < 8 → ax_len.getD t 0 = (ax_byt.getD t []).length ∧ ax_len.getD t 0 ≤ 16 := by decide +kernel
theorem st_and : ∀ t, t < 8 → ∀ k, k < 16 → (ax_byt.getD t []).getD k 0 &&& 255 = (ax_byt.getD t []).getD k 0 := by decide +kernel
theorem st_chr : ∀ t, t < 8 → ∀ k, k < 16 → ((((ax_byt.getD t []).getD k 0).toUInt32 % 65536).toInt32 = (ax_byt.getD t []).getD k 0 ∧ narrow .char (.int ((ax_byt.getD t []).getD k 0)) = .int ((ax_byt.getD t []).getD k 0)) := by decide +kernel
set_option maxRecDepth 20000 in
set_option maxHeartbeats 1000000 in
theorem ct_Pr_checkIndex (l : Launch) (a b : Nat) (v : Value) (hv : v = .null ∨ v = .ref 121) (hab : a < b) (hb : b < 2 ^ 31) : ax_CT l y_Pr_checkIndex c_Pr_checkIndex 3 (some .int) 0 [.int (nI a), .int (nI b), v] [] (fun r h => r = some (.int (nI a)) ∧ h = []) := by
  refine ax_ofV (by decide) (by rcases hv with rfl | rfl <;> exact Nat.le_of_ble_eq_true rfl) ?_
  intro p e s m args below meth c D cid ad A Qc G hr E
  have e1 : lv_args 0 [.int (nI a), .int (nI b), v] = [(0, .int (nI a)), (1, .int (nI b)), (2, v)] := by rcases hv with rfl | rfl <;> rfl
  rw [e1]
  refine ax_iload_n G d_Pr_checkIndex_0 rfl rfl ?_
  refine ax_if_lt (tgt := 9) G d_Pr_checkIndex_1 (by decide) (fun c_1 => ?_) (fun c_1 => ?_)
  · exact absurd c_1 (nI_pos (by omega))
  · refine ax_iload_n G d_Pr_checkIndex_4 rfl rfl ?_
    refine ax_iload_n G d_Pr_checkIndex_5 rfl rfl ?_
    refine ax_icmp_lt (tgt := 16) G d_Pr_checkIndex_6 (by decide) (fun c_6 => ?_) (fun c_6 => ?_)
    · refine ax_iload_n G d_Pr_checkIndex_16 rfl rfl ?_
      exact ax_iret G hr E d_Pr_checkIndex_17 rfl ⟨rfl, rfl⟩
    · exact absurd (nI_lt hab hb) c_6
set_option maxRecDepth 20000 in
set_option maxHeartbeats 1000000 in
theorem ct_St_checkIndex (l : Launch) (a b : Nat) (hab : a < b) (hb : b < 2 ^ 31) : ax_CT l y_St_checkIndex c_St_checkIndex 2 none 1 [.int (nI a), .int (nI b)] [] (fun r h => r = none ∧ h = []) := by
  refine ax_ofV (by decide) (Nat.le_of_ble_eq_true rfl) ?_
  intro p e s m args below meth c D cid ad A Qc G hr E
  refine ax_iload_n G d_St_checkIndex_0 rfl rfl ?_
  refine ax_iload_n G d_St_checkIndex_1 rfl rfl ?_
  refine ax_sioobe G d_St_checkIndex_2 k_St_1053 (fun v hv => ?_)
  refine ax_callS (n := 3) G (ct_Pr_checkIndex l a b v hv hab hb) d_St_checkIndex_5 rfl trivial rfl kc_Pr_checkIndex ⟨k_St_1059, kt_Pr_checkIndex, kk_Pr⟩ (by decide +kernel) rfl ⟨by decide, by decide⟩ (Nat.le_of_ble_eq_true rfl) ⟨by decide, by decide⟩ (fun r hc_ hq hk_ => ?_)
  obtain ⟨rfl, rfl⟩ := hq
  refine ax_pop G d_St_checkIndex_8 rfl ?_
  exact ax_vret G hr E d_St_checkIndex_9 rfl ⟨rfl, rfl⟩
set_option maxRecDepth 20000 in
set_option maxHeartbeats 1000000 in
theorem ct_Sl_charAt (l : Launch) (t k : Nat) (ht : t < 8) (hk : k < ax_len.getD t 0) : ax_CT l y_Sl_charAt c_Sl_charAt 2 (some .char) 2 [.ref (110 + t), .int (nI k)] [] (fun r h => r = some (.int ((ax_byt.getD t []).getD k 0)) ∧ h = []) := by
  refine ax_ofV (by decide) (Nat.le_of_ble_eq_true rfl) ?_
  intro p e s m args below meth c D cid ad A Qc G hr E
  have hL := (st_len t ht).2
  refine ax_iload_n G d_Sl_charAt_0 rfl rfl ?_
  refine ax_aload_n G d_Sl_charAt_1 rfl rfl ?_
  refine ax_salen G ht d_Sl_charAt_2 ?_
  refine ax_callS (n := 2) G (ct_St_checkIndex l k (ax_len.getD t 0) hk (by omega)) d_Sl_charAt_3 rfl trivial rfl kc_St_checkIndex ⟨k_Sl_9, kt_St_checkIndex, kk_St⟩ (by decide +kernel) rfl ⟨by decide, by decide⟩ (Nat.le_of_ble_eq_true rfl) ⟨by decide, by decide⟩ (fun r hc_ hq hk_ => ?_)
  obtain ⟨rfl, rfl⟩ := hq
  refine ax_aload_n G d_Sl_charAt_6 rfl rfl ?_
  refine ax_iload_n G d_Sl_charAt_7 rfl rfl ?_
  refine ax_sald G ht d_Sl_charAt_8 (vp_in_nI hk (by omega)) ?_
  refine ax_sipush (v := 255) G d_Sl_charAt_9 (by decide) ?_
  refine ax_iand G d_Sl_charAt_12 ?_
  rw [nI_clamp (by omega), st_and t ht k (by omega)]
  refine ax_i2c G d_Sl_charAt_13 ?_
  rw [(st_chr t ht k (by omega)).1]
  exact ax_zret G hr E (st_chr t ht k (by omega)).2 d_Sl_charAt_14 rfl ⟨rfl, rfl⟩
set_option maxRecDepth 20000 in
set_option maxHeartbeats 1000000 in
theorem ct_St_isLatin1 (l : Launch) (t : Nat) (ht : t < 8) : ax_CT l y_St_isLatin1 c_St_isLatin1 1 (some .boolean) 0 [.ref (100 + t)] [] (fun r h => r = some (.int 1) ∧ h = []) := by
  refine ax_ofV (by decide) (Nat.le_of_ble_eq_true rfl) ?_
  intro p e s m args below meth c D cid ad A Qc G hr E
  refine ax_compact G d_St_isLatin1_0 k_St_38 ?_
  refine ax_if_eq (tgt := 17) G d_St_isLatin1_3 (by decide) (fun c_3 => ?_) (fun c_3 => ?_)
  · exact absurd c_3 (by decide)
  · refine ax_aload_n G d_St_isLatin1_6 rfl rfl ?_
    refine ax_scod G ht d_St_isLatin1_7 k_St_15 ?_
    refine ax_if_ne (tgt := 17) G d_St_isLatin1_10 (by decide) (fun c_10 => ?_) (fun c_10 => ?_)
    · exact absurd rfl c_10
    · refine ax_iconst (v := 1) G d_St_isLatin1_13 (by decide) ?_
      refine ax_goto (tgt := 18) G d_St_isLatin1_14 (by decide) ?_
      exact ax_zret G hr E rfl d_St_isLatin1_18 rfl ⟨rfl, rfl⟩
set_option maxRecDepth 20000 in
set_option maxHeartbeats 1000000 in
theorem ct_St_coder (l : Launch) (t : Nat) (ht : t < 8) : ax_CT l y_St_coder c_St_coder 1 (some .byte) 0 [.ref (100 + t)] [] (fun r h => r = some (.int 0) ∧ h = []) := by
  refine ax_ofV (by decide) (Nat.le_of_ble_eq_true rfl) ?_
  intro p e s m args below meth c D cid ad A Qc G hr E
  refine ax_compact G d_St_coder_0 k_St_38 ?_
  refine ax_if_eq (tgt := 13) G d_St_coder_3 (by decide) (fun c_3 => ?_) (fun c_3 => ?_)
  · exact absurd c_3 (by decide)
  · refine ax_aload_n G d_St_coder_6 rfl rfl ?_
    refine ax_scod G ht d_St_coder_7 k_St_15 ?_
    refine ax_goto (tgt := 14) G d_St_coder_10 (by decide) ?_
    exact ax_zret G hr E rfl d_St_coder_14 rfl ⟨rfl, rfl⟩
set_option maxRecDepth 20000 in
set_option maxHeartbeats 1000000 in
theorem ct_St_length (l : Launch) (t : Nat) (ht : t < 8) : ax_CT l y_St_length c_St_length 1 (some .int) 1 [.ref (100 + t)] [] (fun r h => r = some (.int (nI (ax_len.getD t 0))) ∧ h = []) := by
  refine ax_ofV (by decide) (Nat.le_of_ble_eq_true rfl) ?_
  intro p e s m args below meth c D cid ad A Qc G hr E
  refine ax_aload_n G d_St_length_0 rfl rfl ?_
  refine ax_sval G ht d_St_length_1 k_St_9 ?_
  refine ax_salen G ht d_St_length_4 ?_
  refine ax_aload_n G d_St_length_5 rfl rfl ?_
  refine ax_callK (n := 0) G ht (ct_St_coder l t ht) d_St_length_6 rfl trivial rfl kc_St_coder ⟨k_St_335, ki_St_coder, ks_St_coder, kk_St⟩ (by decide +kernel) rfl ⟨by decide, by decide⟩ (Nat.le_of_ble_eq_true rfl) ⟨by decide, by decide⟩ (fun r hc_ hq hk_ => ?_)
  obtain ⟨rfl, rfl⟩ := hq
  refine ax_ishr G d_St_length_9 ?_
  rw [sb_shr0]
  exact ax_iret G hr E d_St_length_10 rfl ⟨rfl, rfl⟩
set_option maxRecDepth 20000 in
set_option maxHeartbeats 1000000 in
theorem ct_St_charAt (l : Launch) (t k : Nat) (ht : t < 8) (hk : k < ax_len.getD t 0) : ax_CT l y_St_charAt c_St_charAt 2 (some .char) 3 [.ref (100 + t), .int (nI k)] [] (fun r h => r = some (.int ((ax_byt.getD t []).getD k 0)) ∧ h = []) := by
  refine ax_ofV (by decide) (Nat.le_of_ble_eq_true rfl) ?_
  intro p e s m args below meth c D cid ad A Qc G hr E
  have hL := (st_len t ht).2
  refine ax_aload_n G d_St_charAt_0 rfl rfl ?_
  refine ax_callK (n := 0) G ht (ct_St_isLatin1 l t ht) d_St_charAt_1 rfl trivial rfl kc_St_isLatin1 ⟨k_St_492, ki_St_isLatin1, ks_St_isLatin1, kk_St⟩ (by decide +kernel) rfl ⟨by decide, by decide⟩ (Nat.le_of_ble_eq_true rfl) ⟨by decide, by decide⟩ (fun r hc_ hq hk_ => ?_)
  obtain ⟨rfl, rfl⟩ := hq
  refine ax_if_eq (tgt := 16) G d_St_charAt_4 (by decide) (fun c_4 => ?_) (fun c_4 => ?_)
  · exact absurd c_4 (by decide)
  · refine ax_aload_n G d_St_charAt_7 rfl rfl ?_
    refine ax_sval G ht d_St_charAt_8 k_St_9 ?_
    refine ax_iload_n G d_St_charAt_11 rfl rfl ?_
    refine ax_callS (n := 2) G (ct_Sl_charAt l t k ht hk) d_St_charAt_12 rfl trivial rfl kc_Sl_charAt ⟨k_St_495, kt_Sl_charAt, kk_Sl⟩ (by decide +kernel) rfl ⟨by decide, by decide⟩ (Nat.le_of_ble_eq_true rfl) ⟨by decide, by decide⟩ (fun r hc_ hq hk_ => ?_)
    obtain ⟨rfl, rfl⟩ := hq
    exact ax_zret G hr E (st_chr t ht k (by omega)).2 d_St_charAt_15 rfl ⟨rfl, rfl⟩
set_option maxRecDepth 20000 in
set_option maxHeartbeats 1000000 in
theorem ct_Sl_canEncode (l : Launch) (n : Nat) (hn : n < 256) : ax_CT l y_Sl_canEncode c_Sl_canEncode 1 (some .boolean) 0 [.int (nI n)] [] (fun r h => r = some (.int 1) ∧ h = []) := by
  refine ax_ofV (by decide) (Nat.le_of_ble_eq_true rfl) ?_
  intro p e s m args below meth c D cid ad A Qc G hr E
  refine ax_iload_n G d_Sl_canEncode_0 rfl rfl ?_
  refine ax_if_lt (tgt := 15) G d_Sl_canEncode_1 (by decide) (fun c_1 => ?_) (fun c_1 => ?_)
  · exact absurd c_1 (nI_pos (by omega))
  · refine ax_iload_n G d_Sl_canEncode_4 rfl rfl ?_
    refine ax_sipush (v := 255) G d_Sl_canEncode_5 (by decide) ?_
    refine ax_icmp_gt (tgt := 15) G d_Sl_canEncode_8 (by decide) (fun c_8 => ?_) (fun c_8 => ?_)
    · exact absurd c_8 (nI_nlt (a := 255) (b := n) (by omega) (by decide))
    · refine ax_iconst (v := 1) G d_Sl_canEncode_11 (by decide) ?_
      refine ax_goto (tgt := 16) G d_Sl_canEncode_12 (by decide) ?_
      exact ax_zret G hr E rfl d_Sl_canEncode_16 rfl ⟨rfl, rfl⟩
/-- the place of c from i on, -1 if it is not there -/
def ixf (bs : List Int32) (c : Int32) (i : Nat) : Nat → Int32
  | 0 => -1
  | k + 1 => if bs.getD i 0 = c then nI i else ixf bs c (i + 1) k
theorem ixf_s (bs : List Int32) (c : Int32) (i k : Nat) : ixf bs c i (k + 1) = if bs.getD i 0 = c then nI i else ixf bs c (i + 1) k := rfl
set_option maxRecDepth 20000 in
set_option maxHeartbeats 1000000 in
theorem ct_Sl_indexOfChar (l : Launch) (t : Nat) (x : Int32) (ht : t < 8) : ax_CT l y_Sl_indexOfChar c_Sl_indexOfChar 6 (some .int) 0 [.ref (110 + t), .int x, .int 0, .int (nI (ax_len.getD t 0))] [] (fun r h => r = some (.int (ixf (ax_byt.getD t []) x.toInt8.toInt32 0 (ax_len.getD t 0))) ∧ h = []) := by
  refine ax_ofV (by decide) (Nat.le_of_ble_eq_true rfl) ?_
  intro p e s m args below meth c D cid ad A Qc G hr E
  have hL := (st_len t ht).2
  generalize hN : ax_len.getD t 0 = N at *
  have loop : ∀ (k i : Nat), k + i = N → ixf (ax_byt.getD t []) x.toInt8.toInt32 i k = ixf (ax_byt.getD t []) x.toInt8.toInt32 0 N → ax_V p l e (ax_rm 0) s m args below meth c D cid ad A 6 0 0 (MQ below Qc args s 0 0 A) 7 [(0, .ref (110 + t)), (1, .int x), (2, .int 0), (3, .int (nI N)), (4, .int x.toInt8.toInt32), (5, .int (nI i))] [] [] := by
    intro k
    induction k with
    | zero =>
      intro i hi he
      refine ax_iload G d_Sl_indexOfChar_7 rfl ?_
      refine ax_iload_n G d_Sl_indexOfChar_9 rfl rfl ?_
      refine ax_icmp_ge (tgt := 31) G d_Sl_indexOfChar_10 (by decide) (fun c_10 => ?_) (fun c_10 => ?_)
      · refine ax_iconst (v := (-1)) G d_Sl_indexOfChar_31 (by decide) ?_
        exact ax_iret G hr E d_Sl_indexOfChar_32 rfl ⟨by rw [← he]; rfl, rfl⟩
      · exact absurd (nI_le (by omega) (by omega)) c_10
    | succ k ih =>
      intro i hi he
      refine ax_iload G d_Sl_indexOfChar_7 rfl ?_
      refine ax_iload_n G d_Sl_indexOfChar_9 rfl rfl ?_
      refine ax_icmp_ge (tgt := 31) G d_Sl_indexOfChar_10 (by decide) (fun c_10 => ?_) (fun c_10 => ?_)
      · exact absurd c_10 (nI_ge (by omega) (by omega))
      · refine ax_aload_n G d_Sl_indexOfChar_13 rfl rfl ?_
        refine ax_iload G d_Sl_indexOfChar_14 rfl ?_
        refine ax_sald G ht d_Sl_indexOfChar_16 (vp_in_nI (by omega) (by omega)) ?_
        rw [nI_clamp (by omega)]
        rw [ixf_s] at he
        refine ax_iload G d_Sl_indexOfChar_17 rfl ?_
        refine ax_icmp_ne (tgt := 25) G d_Sl_indexOfChar_19 (by decide) (fun c_19 => ?_) (fun c_19 => ?_)
        · rw [if_neg c_19] at he
          refine ax_iincZ (z := 1) G d_Sl_indexOfChar_25 rfl (by decide) (by decide) ?_
          refine ax_goto (tgt := 7) G d_Sl_indexOfChar_28 (by decide) ?_
          rw [nI_1]
          exact ih (i + 1) (by omega) he
        · rw [if_pos c_19] at he
          refine ax_iload G d_Sl_indexOfChar_22 rfl ?_
          exact ax_iret G hr E d_Sl_indexOfChar_24 rfl ⟨by rw [he], rfl⟩
  refine ax_iload_n G d_Sl_indexOfChar_0 rfl rfl ?_
  refine ax_i2b G d_Sl_indexOfChar_1 ?_
  refine ax_istore G d_Sl_indexOfChar_2 (by decide) ?_
  refine ax_iload_n G d_Sl_indexOfChar_4 rfl rfl ?_
  refine ax_istore G d_Sl_indexOfChar_5 (by decide) ?_
  exact loop N 0 rfl rfl
set_option maxRecDepth 20000 in
set_option maxHeartbeats 1000000 in
theorem ct_Sl_indexOf (l : Launch) (t n : Nat) (ht : t < 8) (hn : n < 256) : ax_CT l y_Sl_indexOf c_Sl_indexOf 4 (some .int) 1 [.ref (110 + t), .int (nI n), .int 0, .int (nI (ax_len.getD t 0))] [] (fun r h => r = some (.int (ixf (ax_byt.getD t []) (nI n).toInt8.toInt32 0 (ax_len.getD t 0))) ∧ h = []) := by
  refine ax_ofV (by decide) (Nat.le_of_ble_eq_true rfl) ?_
  intro p e s m args below meth c D cid ad A Qc G hr E
  have hL := (st_len t ht).2
  refine ax_iload_n G d_Sl_indexOf_0 rfl rfl ?_
  refine ax_callS (n := 1) G (ct_Sl_canEncode l n hn) d_Sl_indexOf_1 rfl trivial rfl kc_Sl_canEncode ⟨k_Sl_88, kt_Sl_canEncode, kk_Sl⟩ (by decide +kernel) rfl ⟨by decide, by decide⟩ (Nat.le_of_ble_eq_true rfl) ⟨by decide, by decide⟩ (fun r hc_ hq hk_ => ?_)
  obtain ⟨rfl, rfl⟩ := hq
  refine ax_if_ne (tgt := 9) G d_Sl_indexOf_4 (by decide) (fun c_4 => ?_) (fun c_4 => ?_)
  · refine ax_iload_n G d_Sl_indexOf_9 rfl rfl ?_
    refine ax_iconst (v := 0) G d_Sl_indexOf_10 (by decide) ?_
    refine ax_mmax G d_Sl_indexOf_11 k_Sl_92 ⟨by decide, by decide⟩ (Nat.le_of_ble_eq_true rfl) ⟨by decide, by decide⟩ ?_
    rw [show (if (0 : Int32) < 0 then (0 : Int32) else 0) = 0 by rfl]
    refine ax_istore_n G d_Sl_indexOf_14 rfl (by decide) ?_
    refine ax_iload_n G d_Sl_indexOf_15 rfl rfl ?_
    refine ax_aload_n G d_Sl_indexOf_16 rfl rfl ?_
    refine ax_salen G ht d_Sl_indexOf_17 ?_
    refine ax_mmin G d_Sl_indexOf_18 k_Sl_38 ⟨by decide, by decide⟩ (Nat.le_of_ble_eq_true rfl) ⟨by decide, by decide⟩ ?_
    rw [if_neg (nI_nlt (Nat.le_refl _) (by omega))]
    refine ax_istore_n G d_Sl_indexOf_21 rfl (by decide) ?_
    refine ax_iload_n G d_Sl_indexOf_22 rfl rfl ?_
    refine ax_iload_n G d_Sl_indexOf_23 rfl rfl ?_
    refine ax_icmp_lt (tgt := 29) G d_Sl_indexOf_24 (by decide) (fun c_24 => ?_) (fun c_24 => ?_)
    · refine ax_aload_n G d_Sl_indexOf_29 rfl rfl ?_
      refine ax_iload_n G d_Sl_indexOf_30 rfl rfl ?_
      refine ax_iload_n G d_Sl_indexOf_31 rfl rfl ?_
      refine ax_iload_n G d_Sl_indexOf_32 rfl rfl ?_
      refine ax_callS (n := 4) G (ct_Sl_indexOfChar l t (nI n) ht) d_Sl_indexOf_33 rfl trivial rfl kc_Sl_indexOfChar ⟨k_Sl_95, kt_Sl_indexOfChar, kk_Sl⟩ (by decide +kernel) rfl ⟨by decide, by decide⟩ (Nat.le_of_ble_eq_true rfl) ⟨by decide, by decide⟩ (fun r hc_ hq hk_ => ?_)
      obtain ⟨rfl, rfl⟩ := hq
      exact ax_iret G hr E d_Sl_indexOf_36 rfl ⟨rfl, rfl⟩
    · have h0 : ax_len.getD t 0 = 0 := by
        rcases Nat.eq_zero_or_pos (ax_len.getD t 0) with q | q
        · exact q
        · exact absurd (by rw [← nI_0]; exact nI_lt q (by omega)) c_24
      refine ax_iconst (v := (-1)) G d_Sl_indexOf_27 (by decide) ?_
      exact ax_iret G hr E d_Sl_indexOf_28 rfl ⟨by rw [h0]; rfl, rfl⟩
  · exact absurd c_4 (by decide)
set_option maxRecDepth 20000 in
set_option maxHeartbeats 1000000 in
theorem ct_St_indexOf2 (l : Launch) (t n : Nat) (ht : t < 8) (hn : n < 256) : ax_CT l y_St_indexOf2 c_St_indexOf2 3 (some .int) 2 [.ref (100 + t), .int (nI n), .int 0] [] (fun r h => r = some (.int (ixf (ax_byt.getD t []) (nI n).toInt8.toInt32 0 (ax_len.getD t 0))) ∧ h = []) := by
  refine ax_ofV (by decide) (Nat.le_of_ble_eq_true rfl) ?_
  intro p e s m args below meth c D cid ad A Qc G hr E
  refine ax_aload_n G d_St_indexOf2_0 rfl rfl ?_
  refine ax_callK (n := 0) G ht (ct_St_isLatin1 l t ht) d_St_indexOf2_1 rfl trivial rfl kc_St_isLatin1 ⟨k_St_492, ki_St_isLatin1, ks_St_isLatin1, kk_St⟩ (by decide +kernel) rfl ⟨by decide, by decide⟩ (Nat.le_of_ble_eq_true rfl) ⟨by decide, by decide⟩ (fun r hc_ hq hk_ => ?_)
  obtain ⟨rfl, rfl⟩ := hq
  refine ax_if_eq (tgt := 23) G d_St_indexOf2_4 (by decide) (fun c_4 => ?_) (fun c_4 => ?_)
  · exact absurd c_4 (by decide)
  · refine ax_aload_n G d_St_indexOf2_7 rfl rfl ?_
    refine ax_sval G ht d_St_indexOf2_8 k_St_9 ?_
    refine ax_iload_n G d_St_indexOf2_11 rfl rfl ?_
    refine ax_iload_n G d_St_indexOf2_12 rfl rfl ?_
    refine ax_aload_n G d_St_indexOf2_13 rfl rfl ?_
    refine ax_callK (n := 0) G ht (ct_St_length l t ht) d_St_indexOf2_14 rfl trivial rfl kc_St_length ⟨k_St_505, ki_St_length, ks_St_length, kk_St⟩ (by decide +kernel) rfl ⟨by decide, by decide⟩ (Nat.le_of_ble_eq_true rfl) ⟨by decide, by decide⟩ (fun r hc_ hq hk_ => ?_)
    obtain ⟨rfl, rfl⟩ := hq
    refine ax_callS (n := 4) G (ct_Sl_indexOf l t n ht hn) d_St_indexOf2_17 rfl trivial rfl kc_Sl_indexOf ⟨k_St_637, kt_Sl_indexOf, kk_Sl⟩ (by decide +kernel) rfl ⟨by decide, by decide⟩ (Nat.le_of_ble_eq_true rfl) ⟨by decide, by decide⟩ (fun r hc_ hq hk_ => ?_)
    obtain ⟨rfl, rfl⟩ := hq
    refine ax_goto (tgt := 36) G d_St_indexOf2_20 (by decide) ?_
    exact ax_iret G hr E d_St_indexOf2_36 rfl ⟨rfl, rfl⟩
set_option maxRecDepth 20000 in
set_option maxHeartbeats 1000000 in
theorem ct_St_indexOf (l : Launch) (t n : Nat) (ht : t < 8) (hn : n < 256) : ax_CT l y_St_indexOf c_St_indexOf 2 (some .int) 3 [.ref (100 + t), .int (nI n)] [] (fun r h => r = some (.int (ixf (ax_byt.getD t []) (nI n).toInt8.toInt32 0 (ax_len.getD t 0))) ∧ h = []) := by
  refine ax_ofV (by decide) (Nat.le_of_ble_eq_true rfl) ?_
  intro p e s m args below meth c D cid ad A Qc G hr E
  refine ax_aload_n G d_St_indexOf_0 rfl rfl ?_
  refine ax_iload_n G d_St_indexOf_1 rfl rfl ?_
  refine ax_iconst (v := 0) G d_St_indexOf_2 (by decide) ?_
  refine ax_callK (n := 2) G ht (ct_St_indexOf2 l t n ht hn) d_St_indexOf_3 rfl trivial rfl kc_St_indexOf2 ⟨k_St_633, ki_St_indexOf2, ks_St_indexOf2, kk_St⟩ (by decide +kernel) rfl ⟨by decide, by decide⟩ (Nat.le_of_ble_eq_true rfl) ⟨by decide, by decide⟩ (fun r hc_ hq hk_ => ?_)
  obtain ⟨rfl, rfl⟩ := hq
  exact ax_iret G hr E d_St_indexOf_6 rfl ⟨rfl, rfl⟩

