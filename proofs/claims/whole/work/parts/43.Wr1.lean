/-! FormatDesk$Writer: putPoint, putExponent, putDigits, precisionOf -/
set_option maxRecDepth 20000 in
set_option maxHeartbeats 1000000 in
theorem ct_Wr_putPoint (l : Launch) (bs : List Nat) (b : Nat) (hash : Bool) (zp : Int32) (f : Nat → Int32) (hf : pi_is f bs) (hb : bs.length < 520) (hbb : b < 2 ^ 31) : ax_CT l y_Wr_putPoint c_Wr_putPoint 3 none 1 [.ref 6, .int (nI b), .int (zb hash)] (pc_Wr ++ pc_Pi (nI bs.length) zp f) (fun r h => r = none ∧ ∃ f', h = pc_Wr ++ pc_Pi (nI (bs ++ pnt b hash).length) zp f' ∧ pi_is f' (bs ++ pnt b hash)) := by
  refine ax_ofV (by decide) (Nat.le_of_ble_eq_true rfl) ?_
  intro p e s m args below meth c D cid ad A Qc G hr E
  have yes : (0 < b ∨ hash = true) → ax_V p l e (ax_rm 1) s m args below meth c D cid ad A 3 0 0 (MQ below Qc args s 0 0 A) 8 [(0, .ref 6), (1, .int (nI b)), (2, .int (zb hash))] [] (pc_Wr ++ pc_Pi (nI bs.length) zp f) := by
    intro hy
    have e1 : pnt b hash = [46] := by unfold pnt; rw [if_pos hy]
    refine ax_aload_n G d_Wr_putPoint_8 rfl rfl ?_
    refine ax_get (ci := 4) (j := 0) G d_Wr_putPoint_9 rfl rfl (by decide) k_Wr_14 rfl ?_
    refine ax_bipush (v := 46) G d_Wr_putPoint_12 (by decide) ?_
    refine ax_callV (n := 1) G (ct_Pi_put l bs 46 zp f hf hb (by decide)) d_Wr_putPoint_14 rfl ⟨rfl, rfl, trivial⟩ rfl rfl rfl kc_Pi_put ⟨k_Wr_34, ki_Pi_put, ks_Pi_put, kk_Pi⟩ (by decide +kernel) rfl ⟨by decide, by decide⟩ (Nat.le_of_ble_eq_true rfl) ⟨by decide, by decide⟩ (fun r hc_ hq hk_ => ?_)
    obtain ⟨rfl, f2, rfl, hf2⟩ := hq
    exact ax_vret G hr E d_Wr_putPoint_17 rfl ⟨rfl, f2, by rw [e1] <;> rfl, by rw [e1]; exact hf2⟩
  refine ax_iload_n G d_Wr_putPoint_0 rfl rfl ?_
  refine ax_if_gt (tgt := 8) G d_Wr_putPoint_1 (by decide) (fun c_1 => ?_) (fun c_1 => ?_)
  · exact yes (Or.inl ((nI_ltI (a := 0) (by decide) hbb).mp c_1))
  · refine ax_iload_n G d_Wr_putPoint_4 rfl rfl ?_
    refine ax_if_eq (tgt := 17) G d_Wr_putPoint_5 (by decide) (fun c_5 => ?_) (fun c_5 => ?_)
    · have h1 : hash = false := (zb_ne hash).mp c_5
      have h2 : ¬ 0 < b := fun q => c_1 ((nI_ltI (a := 0) (by decide) hbb).mpr q)
      have e1 : pnt b hash = [] := by unfold pnt; rw [if_neg (by rw [h1]; simp; omega)]
      exact ax_vret G hr E d_Wr_putPoint_17 rfl ⟨rfl, f, by rw [e1, List.append_nil] <;> rfl, by rw [e1, List.append_nil]; exact hf⟩
    · have h1 : hash = true := by cases hash; exact absurd rfl c_5; rfl
      exact yes (Or.inr h1)
set_option maxRecDepth 20000 in
set_option maxHeartbeats 1000000 in
theorem ct_Wr_putExponent (l : Launch) (bs : List Nat) (x : Int32) (two : Bool) (zp : Int32) (f : Nat → Int32) (hf : pi_is f bs) (hb : bs.length ≤ 510) (hx : -2000 ≤ x.toInt ∧ x.toInt ≤ 2000) : ax_CT l y_Wr_putExponent c_Wr_putExponent 4 none 1 [.ref 6, .int x, .int (zb two)] (pc_Wr ++ pc_Pi (nI bs.length) zp f) (fun r h => r = none ∧ ∃ f', h = pc_Wr ++ pc_Pi (nI (bs ++ expo x.toInt two).length) zp f' ∧ pi_is f' (bs ++ expo x.toInt two)) := by
  refine ax_ofV (by decide) (Nat.le_of_ble_eq_true rfl) ?_
  intro p e s m args below meth c D cid ad A Qc G hr E
  generalize hT : bs ++ expo x.toInt two = T at E
  unfold expo at hT
  generalize hd : x.toInt.natAbs = d at hT
  have hd2 : d ≤ 2000 := by omega
  have st101 : ∀ (bs' : List Nat) (f' : Nat → Int32), pi_is f' bs' → bs'.length ≤ 514 → bs' ++ [48 + d % 10] = T → ax_V p l e (ax_rm 1) s m args below meth c D cid ad A 4 0 0 (MQ below Qc args s 0 0 A) 101 [(0, .ref 6), (1, .int x), (2, .int (zb two)), (3, .int (nI d))] [] (pc_Wr ++ pc_Pi (nI bs'.length) zp f') := by
    intro bs' f' hf' hb' hT'
    refine ax_aload_n G d_Wr_putExponent_101 rfl rfl ?_
    refine ax_get (ci := 4) (j := 0) G d_Wr_putExponent_102 rfl rfl (by decide) k_Wr_14 rfl ?_
    refine ax_bipush (v := 48) G d_Wr_putExponent_105 (by decide) ?_
    refine ax_iload_n G d_Wr_putExponent_107 rfl rfl ?_
    refine ax_bipush (v := 10) G d_Wr_putExponent_108 (by decide) ?_
    refine ax_irem G d_Wr_putExponent_110 (by decide) ?_
    rw [show (10 : Int32) = nI 10 from rfl, pk_rem (by omega) (by decide) (by decide)]
    refine ax_iadd G d_Wr_putExponent_111 ?_
    rw [show (48 : Int32) = nI 48 from rfl, nI_add]
    refine ax_callV (n := 1) G (ct_Pi_put l bs' (48 + d % 10) zp f' hf' (by omega) (by omega)) d_Wr_putExponent_112 rfl ⟨rfl, rfl, trivial⟩ rfl rfl rfl kc_Pi_put ⟨k_Wr_34, ki_Pi_put, ks_Pi_put, kk_Pi⟩ (by decide +kernel) rfl ⟨by decide, by decide⟩ (Nat.le_of_ble_eq_true rfl) ⟨by decide, by decide⟩ (fun r hc_ hq hk_ => ?_)
    obtain ⟨rfl, f2, rfl, hf2⟩ := hq
    rw [hT'] at hf2
    exact ax_vret G hr E d_Wr_putExponent_115 rfl ⟨rfl, f2, by rw [← hT'] <;> rfl, hf2⟩
  have st74 : ∀ (bs' : List Nat) (f' : Nat → Int32), pi_is f' bs' → bs'.length ≤ 513 → bs' ++ ((if 10 ≤ d ∨ two = true then [48 + d / 10 % 10] else []) ++ [48 + d % 10]) = T → ax_V p l e (ax_rm 1) s m args below meth c D cid ad A 4 0 0 (MQ below Qc args s 0 0 A) 74 [(0, .ref 6), (1, .int x), (2, .int (zb two)), (3, .int (nI d))] [] (pc_Wr ++ pc_Pi (nI bs'.length) zp f') := by
    intro bs' f' hf' hb' hT'
    have yes : (10 ≤ d ∨ two = true) → ax_V p l e (ax_rm 1) s m args below meth c D cid ad A 4 0 0 (MQ below Qc args s 0 0 A) 84 [(0, .ref 6), (1, .int x), (2, .int (zb two)), (3, .int (nI d))] [] (pc_Wr ++ pc_Pi (nI bs'.length) zp f') := by
      intro hy
      rw [if_pos hy] at hT'
      refine ax_aload_n G d_Wr_putExponent_84 rfl rfl ?_
      refine ax_get (ci := 4) (j := 0) G d_Wr_putExponent_85 rfl rfl (by decide) k_Wr_14 rfl ?_
      refine ax_bipush (v := 48) G d_Wr_putExponent_88 (by decide) ?_
      refine ax_iload_n G d_Wr_putExponent_90 rfl rfl ?_
      refine ax_bipush (v := 10) G d_Wr_putExponent_91 (by decide) ?_
      refine ax_idiv G d_Wr_putExponent_93 (by decide) ?_
      rw [show (10 : Int32) = nI 10 from rfl, pk_div (by omega) (by decide) (by decide)]
      refine ax_bipush (v := 10) G d_Wr_putExponent_94 (by decide) ?_
      refine ax_irem G d_Wr_putExponent_96 (by decide) ?_
      rw [show (10 : Int32) = nI 10 from rfl, pk_rem (by omega) (by decide) (by decide)]
      refine ax_iadd G d_Wr_putExponent_97 ?_
      rw [show (48 : Int32) = nI 48 from rfl, nI_add]
      refine ax_callV (n := 1) G (ct_Pi_put l bs' (48 + d / 10 % 10) zp f' hf' (by omega) (by omega)) d_Wr_putExponent_98 rfl ⟨rfl, rfl, trivial⟩ rfl rfl rfl kc_Pi_put ⟨k_Wr_34, ki_Pi_put, ks_Pi_put, kk_Pi⟩ (by decide +kernel) rfl ⟨by decide, by decide⟩ (Nat.le_of_ble_eq_true rfl) ⟨by decide, by decide⟩ (fun r hc_ hq hk_ => ?_)
      obtain ⟨rfl, f2, rfl, hf2⟩ := hq
      exact st101 _ f2 hf2 (by rw [List.length_append]; show bs'.length + 1 ≤ 514; omega) (by rw [List.append_assoc]; exact hT')
    refine ax_iload_n G d_Wr_putExponent_74 rfl rfl ?_
    refine ax_bipush (v := 10) G d_Wr_putExponent_75 (by decide) ?_
    refine ax_icmp_ge (tgt := 84) G d_Wr_putExponent_77 (by decide) (fun c_77 => ?_) (fun c_77 => ?_)
    · exact yes (Or.inl ((nI_leI (a := 10) (by decide) (by omega)).mp c_77))
    · have h1 : ¬ 10 ≤ d := fun q => c_77 ((nI_leI (a := 10) (by decide) (by omega)).mpr q)
      refine ax_iload_n G d_Wr_putExponent_80 rfl rfl ?_
      refine ax_if_eq (tgt := 101) G d_Wr_putExponent_81 (by decide) (fun c_81 => ?_) (fun c_81 => ?_)
      · have h2 : two = false := (zb_ne two).mp c_81
        rw [if_neg (by rw [h2]; simp; omega), List.nil_append] at hT'
        exact st101 bs' f' hf' (by omega) hT'
      · have h2 : two = true := by cases two; exact absurd rfl c_81; rfl
        exact yes (Or.inr h2)
  have st51 : ∀ (bs' : List Nat) (f' : Nat → Int32), pi_is f' bs' → bs'.length ≤ 512 → bs' ++ ((if 100 ≤ d then [48 + d / 100 % 10] else []) ++ ((if 10 ≤ d ∨ two = true then [48 + d / 10 % 10] else []) ++ [48 + d % 10])) = T → ax_V p l e (ax_rm 1) s m args below meth c D cid ad A 4 0 0 (MQ below Qc args s 0 0 A) 51 [(0, .ref 6), (1, .int x), (2, .int (zb two)), (3, .int (nI d))] [] (pc_Wr ++ pc_Pi (nI bs'.length) zp f') := by
    intro bs' f' hf' hb' hT'
    refine ax_iload_n G d_Wr_putExponent_51 rfl rfl ?_
    refine ax_bipush (v := 100) G d_Wr_putExponent_52 (by decide) ?_
    refine ax_icmp_lt (tgt := 74) G d_Wr_putExponent_54 (by decide) (fun c_54 => ?_) (fun c_54 => ?_)
    · have h1 : ¬ 100 ≤ d := by have := (nI_ltI (b := 100) (by omega) (by decide)).mp c_54; omega
      rw [if_neg h1, List.nil_append] at hT'
      exact st74 bs' f' hf' (by omega) hT'
    · have h1 : 100 ≤ d := by
        rcases Nat.lt_or_ge d 100 with q | q
        · exact absurd ((nI_ltI (b := 100) (by omega) (by decide)).mpr q) c_54
        · exact q
      rw [if_pos h1] at hT'
      refine ax_aload_n G d_Wr_putExponent_57 rfl rfl ?_
      refine ax_get (ci := 4) (j := 0) G d_Wr_putExponent_58 rfl rfl (by decide) k_Wr_14 rfl ?_
      refine ax_bipush (v := 48) G d_Wr_putExponent_61 (by decide) ?_
      refine ax_iload_n G d_Wr_putExponent_63 rfl rfl ?_
      refine ax_bipush (v := 100) G d_Wr_putExponent_64 (by decide) ?_
      refine ax_idiv G d_Wr_putExponent_66 (by decide) ?_
      rw [show (100 : Int32) = nI 100 from rfl, pk_div (by omega) (by decide) (by decide)]
      refine ax_bipush (v := 10) G d_Wr_putExponent_67 (by decide) ?_
      refine ax_irem G d_Wr_putExponent_69 (by decide) ?_
      rw [show (10 : Int32) = nI 10 from rfl, pk_rem (by omega) (by decide) (by decide)]
      refine ax_iadd G d_Wr_putExponent_70 ?_
      rw [show (48 : Int32) = nI 48 from rfl, nI_add]
      refine ax_callV (n := 1) G (ct_Pi_put l bs' (48 + d / 100 % 10) zp f' hf' (by omega) (by omega)) d_Wr_putExponent_71 rfl ⟨rfl, rfl, trivial⟩ rfl rfl rfl kc_Pi_put ⟨k_Wr_34, ki_Pi_put, ks_Pi_put, kk_Pi⟩ (by decide +kernel) rfl ⟨by decide, by decide⟩ (Nat.le_of_ble_eq_true rfl) ⟨by decide, by decide⟩ (fun r hc_ hq hk_ => ?_)
      obtain ⟨rfl, f2, rfl, hf2⟩ := hq
      exact st74 _ f2 hf2 (by rw [List.length_append]; show bs'.length + 1 ≤ 513; omega) (by rw [List.append_assoc]; exact hT')
  have st29 : ∀ (bs' : List Nat) (f' : Nat → Int32), pi_is f' bs' → bs'.length ≤ 511 → bs' ++ ((if 1000 ≤ d then [48 + d / 1000] else []) ++ ((if 100 ≤ d then [48 + d / 100 % 10] else []) ++ ((if 10 ≤ d ∨ two = true then [48 + d / 10 % 10] else []) ++ [48 + d % 10]))) = T → ax_V p l e (ax_rm 1) s m args below meth c D cid ad A 4 0 0 (MQ below Qc args s 0 0 A) 29 [(0, .ref 6), (1, .int x), (2, .int (zb two)), (3, .int (nI d))] [] (pc_Wr ++ pc_Pi (nI bs'.length) zp f') := by
    intro bs' f' hf' hb' hT'
    refine ax_iload_n G d_Wr_putExponent_29 rfl rfl ?_
    refine ax_sipush (v := 1000) G d_Wr_putExponent_30 (by decide) ?_
    refine ax_icmp_lt (tgt := 51) G d_Wr_putExponent_33 (by decide) (fun c_33 => ?_) (fun c_33 => ?_)
    · have h1 : ¬ 1000 ≤ d := by have := (nI_ltI (b := 1000) (by omega) (by decide)).mp c_33; omega
      rw [if_neg h1, List.nil_append] at hT'
      exact st51 bs' f' hf' (by omega) hT'
    · have h1 : 1000 ≤ d := by
        rcases Nat.lt_or_ge d 1000 with q | q
        · exact absurd ((nI_ltI (b := 1000) (by omega) (by decide)).mpr q) c_33
        · exact q
      rw [if_pos h1] at hT'
      refine ax_aload_n G d_Wr_putExponent_36 rfl rfl ?_
      refine ax_get (ci := 4) (j := 0) G d_Wr_putExponent_37 rfl rfl (by decide) k_Wr_14 rfl ?_
      refine ax_bipush (v := 48) G d_Wr_putExponent_40 (by decide) ?_
      refine ax_iload_n G d_Wr_putExponent_42 rfl rfl ?_
      refine ax_sipush (v := 1000) G d_Wr_putExponent_43 (by decide) ?_
      refine ax_idiv G d_Wr_putExponent_46 (by decide) ?_
      rw [show (1000 : Int32) = nI 1000 from rfl, pk_div (by omega) (by decide) (by decide)]
      refine ax_iadd G d_Wr_putExponent_47 ?_
      rw [show (48 : Int32) = nI 48 from rfl, nI_add]
      refine ax_callV (n := 1) G (ct_Pi_put l bs' (48 + d / 1000) zp f' hf' (by omega) (by omega)) d_Wr_putExponent_48 rfl ⟨rfl, rfl, trivial⟩ rfl rfl rfl kc_Pi_put ⟨k_Wr_34, ki_Pi_put, ks_Pi_put, kk_Pi⟩ (by decide +kernel) rfl ⟨by decide, by decide⟩ (Nat.le_of_ble_eq_true rfl) ⟨by decide, by decide⟩ (fun r hc_ hq hk_ => ?_)
      obtain ⟨rfl, f2, rfl, hf2⟩ := hq
      exact st51 _ f2 hf2 (by rw [List.length_append]; show bs'.length + 1 ≤ 512; omega) (by rw [List.append_assoc]; exact hT')
  have h0 : (0 : Int32).toInt = 0 := rfl
  by_cases hneg : x.toInt < 0
  · rw [if_pos hneg] at hT
    have e1 : -x = nI d := i32_eq (by rw [i32_neg x (by omega), nI_toInt (by omega)]; omega)
    refine ax_iload_n G d_Wr_putExponent_0 rfl rfl ?_
    refine ax_if_ge (tgt := 9) G d_Wr_putExponent_1 (by decide) (fun c_1 => ?_) (fun c_1 => ?_)
    · rw [i32_le, h0] at c_1; omega
    · refine ax_iload_n G d_Wr_putExponent_4 rfl rfl ?_
      refine ax_ineg G d_Wr_putExponent_5 ?_
      rw [e1]
      refine ax_goto (tgt := 10) G d_Wr_putExponent_6 (by decide) ?_
      refine ax_istore_n G d_Wr_putExponent_10 rfl (by decide) ?_
      refine ax_aload_n G d_Wr_putExponent_11 rfl rfl ?_
      refine ax_get (ci := 4) (j := 0) G d_Wr_putExponent_12 rfl rfl (by decide) k_Wr_14 rfl ?_
      refine ax_iload_n G d_Wr_putExponent_15 rfl rfl ?_
      refine ax_if_ge (tgt := 24) G d_Wr_putExponent_16 (by decide) (fun c_16 => ?_) (fun c_16 => ?_)
      · rw [i32_le, h0] at c_16; omega
      · refine ax_bipush (v := 45) G d_Wr_putExponent_19 (by decide) ?_
        refine ax_goto (tgt := 26) G d_Wr_putExponent_21 (by decide) ?_
        refine ax_callV (n := 1) G (ct_Pi_put l bs 45 zp f hf (by omega) (by decide)) d_Wr_putExponent_26 rfl ⟨rfl, rfl, trivial⟩ rfl rfl rfl kc_Pi_put ⟨k_Wr_34, ki_Pi_put, ks_Pi_put, kk_Pi⟩ (by decide +kernel) rfl ⟨by decide, by decide⟩ (Nat.le_of_ble_eq_true rfl) ⟨by decide, by decide⟩ (fun r hc_ hq hk_ => ?_)
        obtain ⟨rfl, f2, rfl, hf2⟩ := hq
        exact st29 _ f2 hf2 (by rw [List.length_append]; show bs.length + 1 ≤ 511; omega) (by rw [List.append_assoc]; exact hT)
  · rw [if_neg hneg] at hT
    have e1 : x = nI d := i32_eq (by rw [nI_toInt (by omega)]; omega)
    refine ax_iload_n G d_Wr_putExponent_0 rfl rfl ?_
    refine ax_if_ge (tgt := 9) G d_Wr_putExponent_1 (by decide) (fun c_1 => ?_) (fun c_1 => ?_)
    · refine ax_iload_n G d_Wr_putExponent_9 rfl rfl ?_
      refine ax_istore_n G d_Wr_putExponent_10 rfl (by decide) ?_
      refine ax_aload_n G d_Wr_putExponent_11 rfl rfl ?_
      refine ax_get (ci := 4) (j := 0) G d_Wr_putExponent_12 rfl rfl (by decide) k_Wr_14 rfl ?_
      refine ax_iload_n G d_Wr_putExponent_15 rfl rfl ?_
      refine ax_if_ge (tgt := 24) G d_Wr_putExponent_16 (by decide) (fun c_16 => ?_) (fun c_16 => ?_)
      · refine ax_bipush (v := 43) G d_Wr_putExponent_24 (by decide) ?_
        refine ax_callV (n := 1) G (ct_Pi_put l bs 43 zp f hf (by omega) (by decide)) d_Wr_putExponent_26 rfl ⟨rfl, rfl, trivial⟩ rfl rfl rfl kc_Pi_put ⟨k_Wr_34, ki_Pi_put, ks_Pi_put, kk_Pi⟩ (by decide +kernel) rfl ⟨by decide, by decide⟩ (Nat.le_of_ble_eq_true rfl) ⟨by decide, by decide⟩ (fun r hc_ hq hk_ => ?_)
        obtain ⟨rfl, f2, rfl, hf2⟩ := hq
        have := st29 _ f2 hf2 (by rw [List.length_append]; show bs.length + 1 ≤ 511; omega) (by rw [List.append_assoc]; exact hT)
        rw [← e1] at this
        exact this
      · rw [i32_le, h0] at c_16; omega
    · rw [i32_le, h0] at c_1; omega
set_option maxRecDepth 20000 in
set_option maxHeartbeats 1000000 in
theorem ct_Wr_precisionOf (l : Launch) (q : Option Nat) (kk : Nat) (lf pl bl ha ze : Bool) (w : Int32) (wt pt gr : Bool) (pa : Int32) (hq0 : ∀ k, q = some k → k ≤ 200) (hkk : kk < 256) : ax_CT l y_Wr_precisionOf c_Wr_precisionOf 1 (some .int) 1 [.ref 5] (pc_Di lf pl bl ha ze w wt (prI q) pt (nI kk) gr pa) (fun r h => r = some (.int (nI (prN q kk))) ∧ h = pc_Di lf pl bl ha ze w wt (prI q) pt (nI kk) gr pa) := by
  cases q with
  | none =>
    refine ax_ofV (by decide) (Nat.le_of_ble_eq_true rfl) ?_
    intro p e s m args below meth c D cid ad A Qc G hr E
    refine ax_aload_n G d_Wr_precisionOf_0 rfl rfl ?_
    refine ax_getN (ci := 1) (j := 7) G d_Wr_precisionOf_1 rfl rfl (by decide) k_Wr_84 rfl ?_
    refine ax_iconst (v := (-1)) G d_Wr_precisionOf_4 (by decide) ?_
    refine ax_icmp_ne (tgt := 11) G d_Wr_precisionOf_5 (by decide) (fun c_5 => ?_) (fun c_5 => ?_)
    · exact absurd rfl c_5
    · refine ax_bipush (v := 6) G d_Wr_precisionOf_8 (by decide) ?_
      exact ax_iret G hr E d_Wr_precisionOf_10 rfl ⟨rfl, rfl⟩
  | some k =>
    refine ax_ofV (by decide) (Nat.le_of_ble_eq_true rfl) ?_
    intro p e s m args below meth c D cid ad A Qc G hr E
    have hk := hq0 k rfl
    refine ax_aload_n G d_Wr_precisionOf_0 rfl rfl ?_
    refine ax_getN (ci := 1) (j := 7) G d_Wr_precisionOf_1 rfl rfl (by decide) k_Wr_84 rfl ?_
    refine ax_iconst (v := (-1)) G d_Wr_precisionOf_4 (by decide) ?_
    refine ax_icmp_ne (tgt := 11) G d_Wr_precisionOf_5 (by decide) (fun c_5 => ?_) (fun c_5 => ?_)
    · refine ax_aload_n G d_Wr_precisionOf_11 rfl rfl ?_
      refine ax_getN (ci := 1) (j := 9) G d_Wr_precisionOf_12 rfl rfl (by decide) k_Wr_28 rfl ?_
      refine ax_bipush (v := 103) G d_Wr_precisionOf_15 (by decide) ?_
      refine ax_icmp_ne (tgt := 31) G d_Wr_precisionOf_17 (by decide) (fun c_17 => ?_) (fun c_17 => ?_)
      · have h1 : ¬ kk = 103 := fun z => c_17 (by rw [z]; rfl)
        refine ax_aload_n G d_Wr_precisionOf_31 rfl rfl ?_
        refine ax_getN (ci := 1) (j := 7) G d_Wr_precisionOf_32 rfl rfl (by decide) k_Wr_84 rfl ?_
        exact ax_iret G hr E d_Wr_precisionOf_35 rfl ⟨by show _ = some (Value.int (nI (if kk = 103 then max k 1 else k))); rw [if_neg h1] <;> rfl, rfl⟩
      · have h1 : kk = 103 := (nI_eq (b := 103) (by omega) (by decide)).mp c_17
        refine ax_aload_n G d_Wr_precisionOf_20 rfl rfl ?_
        refine ax_getN (ci := 1) (j := 7) G d_Wr_precisionOf_21 rfl rfl (by decide) k_Wr_84 rfl ?_
        refine ax_iconst (v := 1) G d_Wr_precisionOf_24 (by decide) ?_
        refine ax_mmax G d_Wr_precisionOf_25 k_Wr_94 ⟨by decide, by decide⟩ (Nat.le_of_ble_eq_true rfl) ⟨by decide, by decide⟩ ?_
        rw [show (if prI (some k) < 1 then (1 : Int32) else prI (some k)) = nI (max k 1) by
          show (if nI k < nI 1 then nI 1 else nI k) = nI (max k 1)
          by_cases hz : k < 1
          · rw [if_pos (nI_lt hz (by decide)), Nat.max_eq_right (by omega)]
          · rw [if_neg (nI_nlt (by omega) (by omega)), Nat.max_eq_left (by omega)]]
        refine ax_goto (tgt := 35) G d_Wr_precisionOf_28 (by decide) ?_
        exact ax_iret G hr E d_Wr_precisionOf_35 rfl ⟨by show _ = some (Value.int (nI (if kk = 103 then max k 1 else k))); rw [if_pos h1], rfl⟩
    · exact absurd c_5 (fun z => by have := (prI_m1 hq0).mp z; cases this)
set_option maxRecDepth 20000 in
set_option maxHeartbeats 1000000 in
theorem ct_Wr_putDigits (l : Launch) (bs : List Nat) (lc pt x1 : Int32) (n b : Nat) (hash : Bool) (zp : Int32) (f : Nat → Int32) (lm : Nat → Int64) (dg : Nat → Int32) (d : Nat → Nat) (hf : pi_is f bs) (hd : de_is dg n d) (hn : n ≤ 774) (hx : -400 ≤ x1.toInt ∧ x1.toInt ≤ 320) (hbb : b ≤ 600) (hb : bs.length + (max x1.toInt 1).toNat + 1 + b ≤ 519) : ax_CT l y_Wr_putDigits c_Wr_putDigits 5 none 2 [.ref 6, .int x1, .int (nI b), .int (zb hash)] (pc_Wr ++ pc_Pi (nI bs.length) zp f ++ pc_De lc (nI n) pt lm dg) (fun r h => r = none ∧ ∃ f', h = pc_Wr ++ pc_Pi (nI (bs ++ ptd d n x1.toInt b hash).length) zp f' ++ pc_De lc (nI n) pt lm dg ∧ pi_is f' (bs ++ ptd d n x1.toInt b hash)) := by
  refine ax_ofV (by decide) (Nat.le_of_ble_eq_true rfl) ?_
  intro p e s m args below meth c D cid ad A Qc G hr E
  have h0 : (0 : Int32).toInt = 0 := rfl
  have h1 : (1 : Int32).toInt = 1 := rfl
  generalize hT : bs ++ ptd d n x1.toInt b hash = T at E
  unfold ptd at hT
  have loop2 : ∀ (j i : Nat) (bs' : List Nat) (f' : Nat → Int32), j + i = b → pi_is f' (bs' ++ dgB d n x1.toInt i) → bs'.length + b ≤ 519 → bs' ++ dgB d n x1.toInt b = T → ax_V p l e (ax_rm 2) s m args below meth c D cid ad A 5 0 0 (MQ below Qc args s 0 0 A) 49 [(0, .ref 6), (1, .int x1), (2, .int (nI b)), (3, .int (zb hash)), (4, .int (nI i))] [] (pc_Wr ++ pc_Pi (nI (bs' ++ dgB d n x1.toInt i).length) zp f' ++ pc_De lc (nI n) pt lm dg) := by
    intro j
    induction j with
    | zero =>
      intro i bs' f' hj hf' hb' hT'
      have e : i = b := by omega
      subst e
      refine ax_iload G d_Wr_putDigits_49 rfl ?_
      refine ax_iload_n G d_Wr_putDigits_51 rfl rfl ?_
      refine ax_icmp_ge (tgt := 82) G d_Wr_putDigits_52 (by decide) (fun c_52 => ?_) (fun c_52 => ?_)
      · rw [hT'] at hf'
        exact ax_vret G hr E d_Wr_putDigits_82 rfl ⟨rfl, f', by rw [hT'] <;> rfl, hf'⟩
      · exact absurd (nI_le (Nat.le_refl _) (by omega)) c_52
    | succ j ih =>
      intro i bs' f' hj hf' hb' hT'
      have hlen : (bs' ++ dgB d n x1.toInt i).length = bs'.length + i := by rw [List.length_append, dgB_len]
      have ex : (x1 + nI i).toInt = x1.toInt + (i : Int) := by rw [i32_add _ _ (by omega) (by rw [nI_toInt (by omega)]; omega), nI_toInt (by omega)]
      have hdl := dAt_lt hd (x1.toInt + (i : Int))
      refine ax_iload G d_Wr_putDigits_49 rfl ?_
      refine ax_iload_n G d_Wr_putDigits_51 rfl rfl ?_
      refine ax_icmp_ge (tgt := 82) G d_Wr_putDigits_52 (by decide) (fun c_52 => ?_) (fun c_52 => ?_)
      · exact absurd c_52 (nI_ge (by omega) (by omega))
      · refine ax_aload_n G d_Wr_putDigits_55 rfl rfl ?_
        refine ax_get (ci := 4) (j := 0) G d_Wr_putDigits_56 rfl rfl (by decide) k_Wr_14 rfl ?_
        refine ax_bipush (v := 48) G d_Wr_putDigits_59 (by decide) ?_
        refine ax_aload_n G d_Wr_putDigits_61 rfl rfl ?_
        refine ax_get (ci := 4) (j := 1) G d_Wr_putDigits_62 rfl rfl (by decide) k_Wr_21 rfl ?_
        refine ax_iload_n G d_Wr_putDigits_65 rfl rfl ?_
        refine ax_iload G d_Wr_putDigits_66 rfl ?_
        refine ax_iadd G d_Wr_putDigits_68 ?_
        refine ax_callV (n := 1) G (ct_De_digitAt l lc pt (x1 + nI i) n lm dg hn) d_Wr_putDigits_69 rfl ⟨rfl, rfl, rfl, trivial⟩ rfl rfl rfl kc_De_digitAt ⟨k_Wr_148, ki_De_digitAt, ks_De_digitAt, kk_De⟩ (by decide +kernel) rfl ⟨by decide, by decide⟩ (Nat.le_of_ble_eq_true rfl) ⟨by decide, by decide⟩ (fun r hc_ hq hk_ => ?_)
        obtain ⟨rfl, rfl⟩ := hq
        rw [dAt_row hd hn, ex]
        refine ax_iadd G d_Wr_putDigits_72 ?_
        rw [show (48 : Int32) = nI 48 from rfl, nI_add]
        refine ax_callV (n := 1) G (ct_Pi_put l (bs' ++ dgB d n x1.toInt i) (48 + dAt d n (x1.toInt + (i : Int))) zp f' hf' (by omega) (by omega)) d_Wr_putDigits_73 rfl ⟨rfl, rfl, trivial⟩ rfl rfl rfl kc_Pi_put ⟨k_Wr_34, ki_Pi_put, ks_Pi_put, kk_Pi⟩ (by decide +kernel) rfl ⟨by decide, by decide⟩ (Nat.le_of_ble_eq_true rfl) ⟨by decide, by decide⟩ (fun r hc_ hq hk_ => ?_)
        obtain ⟨rfl, f2, rfl, hf2⟩ := hq
        refine ax_iincZ (z := 1) G d_Wr_putDigits_76 rfl (by decide) (by decide) ?_
        refine ax_goto (tgt := 49) G d_Wr_putDigits_79 (by decide) ?_
        rw [nI_1]
        have e3 : bs' ++ dgB d n x1.toInt i ++ [48 + dAt d n (x1.toInt + (i : Int))] = bs' ++ dgB d n x1.toInt (i + 1) := by
          unfold dgB; rw [rg_s, List.append_assoc]
        rw [e3] at hf2
        have := ih (i + 1) bs' f2 (by omega) hf2 hb' hT'
        rw [← e3] at this
        exact this
  have mid : ∀ (x4 : Int32) (f' : Nat → Int32), pi_is f' (bs ++ dgI d n x1.toInt) → ax_V p l e (ax_rm 2) s m args below meth c D cid ad A 5 0 0 (MQ below Qc args s 0 0 A) 40 [(0, .ref 6), (1, .int x1), (2, .int (nI b)), (3, .int (zb hash)), (4, .int x4)] [] (pc_Wr ++ pc_Pi (nI (bs ++ dgI d n x1.toInt).length) zp f' ++ pc_De lc (nI n) pt lm dg) := by
    intro x4 f' hf'
    have hlen : (bs ++ dgI d n x1.toInt).length = bs.length + (max x1.toInt 1).toNat := by rw [List.length_append, dgI_len]
    refine ax_aload_n G d_Wr_putDigits_40 rfl rfl ?_
    refine ax_iload_n G d_Wr_putDigits_41 rfl rfl ?_
    refine ax_iload_n G d_Wr_putDigits_42 rfl rfl ?_
    refine ax_callV (n := 2) G (ct_Wr_putPoint l (bs ++ dgI d n x1.toInt) b hash zp f' hf' (by omega) (by omega)) d_Wr_putDigits_43 rfl ⟨rfl, rfl, rfl, trivial⟩ rfl rfl rfl kc_Wr_putPoint ⟨k_Wr_151, ki_Wr_putPoint, ks_Wr_putPoint, kk_Wr⟩ (by decide +kernel) rfl ⟨by decide, by decide⟩ (Nat.le_of_ble_eq_true rfl) ⟨by decide, by decide⟩ (fun r hc_ hq hk_ => ?_)
    obtain ⟨rfl, f2, rfl, hf2⟩ := hq
    refine ax_iconst (v := 0) G d_Wr_putDigits_46 (by decide) ?_
    refine ax_istore G d_Wr_putDigits_47 (by decide) ?_
    have hpl := pnt_len b hash
    have := loop2 b 0 (bs ++ dgI d n x1.toInt ++ pnt b hash) f2 (by omega) (by show pi_is f2 (_ ++ []); rw [List.append_nil]; exact hf2) (by rw [List.length_append, hlen]; omega) (by rw [List.append_assoc, List.append_assoc]; exact hT)
    rw [show dgB d n x1.toInt 0 = [] from rfl, List.append_nil] at this
    exact this
  have loop1 : ∀ (j i : Nat) (x4 : Int32) (f' : Nat → Int32), j + i = (max x1.toInt 1).toNat → x4.toInt = (i : Int) + min 0 (x1.toInt - 1) → pi_is f' (bs ++ (List.range i).map (fun i : Nat => 48 + dAt d n ((i : Int) + min 0 (x1.toInt - 1)))) → ax_V p l e (ax_rm 2) s m args below meth c D cid ad A 5 0 0 (MQ below Qc args s 0 0 A) 9 [(0, .ref 6), (1, .int x1), (2, .int (nI b)), (3, .int (zb hash)), (4, .int x4)] [] (pc_Wr ++ pc_Pi (nI (bs ++ (List.range i).map (fun i : Nat => 48 + dAt d n ((i : Int) + min 0 (x1.toInt - 1)))).length) zp f' ++ pc_De lc (nI n) pt lm dg) := by
    intro j
    induction j with
    | zero =>
      intro i x4 f' hj hx4 hf'
      have e : i = (max x1.toInt 1).toNat := by omega
      subst e
      refine ax_iload G d_Wr_putDigits_9 rfl ?_
      refine ax_iload_n G d_Wr_putDigits_11 rfl rfl ?_
      refine ax_icmp_ge (tgt := 40) G d_Wr_putDigits_12 (by decide) (fun c_12 => ?_) (fun c_12 => ?_)
      · exact mid x4 f' hf'
      · refine absurd ?_ c_12
        rw [i32_le, hx4]
        omega
    | succ j ih =>
      intro i x4 f' hj hx4 hf'
      have hlen : (bs ++ (List.range i).map (fun i : Nat => 48 + dAt d n ((i : Int) + min 0 (x1.toInt - 1)))).length = bs.length + i := by rw [List.length_append, List.length_map, List.length_range]
      have hdl := dAt_lt hd x4.toInt
      refine ax_iload G d_Wr_putDigits_9 rfl ?_
      refine ax_iload_n G d_Wr_putDigits_11 rfl rfl ?_
      refine ax_icmp_ge (tgt := 40) G d_Wr_putDigits_12 (by decide) (fun c_12 => ?_) (fun c_12 => ?_)
      · rw [i32_le, hx4] at c_12
        omega
      · refine ax_aload_n G d_Wr_putDigits_15 rfl rfl ?_
        refine ax_get (ci := 4) (j := 0) G d_Wr_putDigits_16 rfl rfl (by decide) k_Wr_14 rfl ?_
        refine ax_bipush (v := 48) G d_Wr_putDigits_19 (by decide) ?_
        refine ax_aload_n G d_Wr_putDigits_21 rfl rfl ?_
        refine ax_get (ci := 4) (j := 1) G d_Wr_putDigits_22 rfl rfl (by decide) k_Wr_21 rfl ?_
        refine ax_iload G d_Wr_putDigits_25 rfl ?_
        refine ax_callV (n := 1) G (ct_De_digitAt l lc pt x4 n lm dg hn) d_Wr_putDigits_27 rfl ⟨rfl, rfl, rfl, trivial⟩ rfl rfl rfl kc_De_digitAt ⟨k_Wr_148, ki_De_digitAt, ks_De_digitAt, kk_De⟩ (by decide +kernel) rfl ⟨by decide, by decide⟩ (Nat.le_of_ble_eq_true rfl) ⟨by decide, by decide⟩ (fun r hc_ hq hk_ => ?_)
        obtain ⟨rfl, rfl⟩ := hq
        rw [dAt_row hd hn]
        refine ax_iadd G d_Wr_putDigits_30 ?_
        rw [show (48 : Int32) = nI 48 from rfl, nI_add]
        refine ax_callV (n := 1) G (ct_Pi_put l _ (48 + dAt d n x4.toInt) zp f' hf' (by omega) (by omega)) d_Wr_putDigits_31 rfl ⟨rfl, rfl, trivial⟩ rfl rfl rfl kc_Pi_put ⟨k_Wr_34, ki_Pi_put, ks_Pi_put, kk_Pi⟩ (by decide +kernel) rfl ⟨by decide, by decide⟩ (Nat.le_of_ble_eq_true rfl) ⟨by decide, by decide⟩ (fun r hc_ hq hk_ => ?_)
        obtain ⟨rfl, f2, rfl, hf2⟩ := hq
        refine ax_iincZ (z := 1) G d_Wr_putDigits_34 rfl (by decide) (by decide) ?_
        refine ax_goto (tgt := 9) G d_Wr_putDigits_37 (by decide) ?_
        have e3 : bs ++ (List.range i).map (fun i : Nat => 48 + dAt d n ((i : Int) + min 0 (x1.toInt - 1))) ++ [48 + dAt d n x4.toInt] = bs ++ (List.range (i + 1)).map (fun i : Nat => 48 + dAt d n ((i : Int) + min 0 (x1.toInt - 1))) := by
          rw [rg_s, List.append_assoc, hx4]
        rw [e3] at hf2
        have := ih (i + 1) (x4 + 1) f2 (by omega) (by rw [i32_add _ _ (by omega) (by rw [h1]; omega), hx4, h1]; omega) hf2
        rw [← e3] at this
        exact this
  refine ax_iconst (v := 0) G d_Wr_putDigits_0 (by decide) ?_
  refine ax_iload_n G d_Wr_putDigits_1 rfl rfl ?_
  refine ax_iconst (v := 1) G d_Wr_putDigits_2 (by decide) ?_
  refine ax_isub G d_Wr_putDigits_3 ?_
  refine ax_mmin G d_Wr_putDigits_4 k_Wr_137 ⟨by decide, by decide⟩ (Nat.le_of_ble_eq_true rfl) ⟨by decide, by decide⟩ ?_
  have e4 : (if x1 - 1 < 0 then x1 - 1 else 0).toInt = ((0 : Nat) : Int) + min 0 (x1.toInt - 1) := by
    have e5 : (x1 - 1).toInt = x1.toInt - 1 := by rw [i32_sub _ _ (by omega) (by rw [h1]; omega), h1]
    by_cases hq : x1 - 1 < 0
    · rw [if_pos hq, e5]
      rw [i32_lt, e5, h0] at hq
      omega
    · rw [if_neg hq, h0]
      rw [i32_lt, e5, h0] at hq
      omega
  refine ax_istore G d_Wr_putDigits_7 (by decide) ?_
  have := loop1 (max x1.toInt 1).toNat 0 _ f (by omega) e4 (by show pi_is f (bs ++ []); rw [List.append_nil]; exact hf)
  rw [show (List.range 0).map (fun i : Nat => 48 + dAt d n ((i : Int) + min 0 (x1.toInt - 1))) = [] from rfl, List.append_nil] at this
  exact this

