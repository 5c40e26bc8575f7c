/-! FormatDesk$Writer: hexadecimalDigitsOf, roundHexadecimal, writeLetter, writeDigits, writeSigned, writeUnsigned -/
theorem h524 {k : Nat} (hk : k ≤ 13) : (52 : Int32) - 4 * nI k = nI (52 - 4 * k) := by
  rw [show (4 : Int32) = nI 4 from rfl, pk_mul, show (52 : Int32) = nI 52 from rfl, pk_sub (by omega)]
set_option maxRecDepth 20000 in
set_option maxHeartbeats 1000000 in
theorem ct_Wr_hexadecimalDigitsOf (l : Launch) (s0 : Nat) (hs : s0 < 2 ^ 53) : ax_CT l y_Wr_hexadecimalDigitsOf c_Wr_hexadecimalDigitsOf 3 (some .int) 0 [.long (uw s0)] [] (fun r h => r = some (.int (nI (hxd s0 13))) ∧ h = []) := by
  refine ax_ofV (by decide) (Nat.le_of_ble_eq_true rfl) ?_
  intro p e s m args below meth c D cid ad A Qc G hr E
  have loop : ∀ (k : Nat), k ≤ 13 → hxd s0 k = hxd s0 13 → ax_V p l e (ax_rm 0) s m args below meth c D cid ad A 3 0 0 (MQ below Qc args s 0 0 A) 3 [(0, .long (uw s0)), (2, .int (nI k))] [] [] := by
    intro k
    induction k with
    | zero =>
      intro hk he
      refine ax_iload_n G d_Wr_hexadecimalDigitsOf_3 rfl rfl ?_
      refine ax_if_le (tgt := 32) G d_Wr_hexadecimalDigitsOf_4 (by decide) (fun c_4 => ?_) (fun c_4 => ?_)
      · refine ax_iconst (v := 0) G d_Wr_hexadecimalDigitsOf_32 (by decide) ?_
        exact ax_iret G hr E d_Wr_hexadecimalDigitsOf_33 rfl ⟨by rw [← he]; rfl, rfl⟩
      · exact absurd (by decide) c_4
    | succ k ih =>
      intro hk he
      rw [hxd_s] at he
      refine ax_iload_n G d_Wr_hexadecimalDigitsOf_3 rfl rfl ?_
      refine ax_if_le (tgt := 32) G d_Wr_hexadecimalDigitsOf_4 (by decide) (fun c_4 => ?_) (fun c_4 => ?_)
      · exact absurd c_4 (nI_nle (by omega) (by omega))
      · refine ax_lload_n G d_Wr_hexadecimalDigitsOf_7 rfl rfl ?_
        refine ax_bipush (v := 52) G d_Wr_hexadecimalDigitsOf_8 (by decide) ?_
        refine ax_iconst (v := 4) G d_Wr_hexadecimalDigitsOf_10 (by decide) ?_
        refine ax_iload_n G d_Wr_hexadecimalDigitsOf_11 rfl rfl ?_
        refine ax_imul G d_Wr_hexadecimalDigitsOf_12 ?_
        refine ax_isub G d_Wr_hexadecimalDigitsOf_13 ?_
        rw [h524 (by omega)]
        refine ax_lushr G d_Wr_hexadecimalDigitsOf_14 ?_
        rw [l_ushr s0 _ (by omega) (by omega)]
        refine ax_ldc2 G d_Wr_hexadecimalDigitsOf_15 k_Wr_165 ?_
        refine ax_land G d_Wr_hexadecimalDigitsOf_18 ?_
        have hlt : s0 / 2 ^ (52 - 4 * (k + 1)) < 2 ^ 64 := Nat.lt_of_le_of_lt (Nat.div_le_self _ _) (by omega)
        rw [l_mask _ _ 4 (by decide +kernel), ul_uw hlt]
        have hz : (lg_cmp (uw (s0 / 2 ^ (52 - 4 * (k + 1)) % 2 ^ 4)) 0 = 0) ↔ s0 / 2 ^ (52 - 4 * (k + 1)) % 16 = 0 := by
          rw [lg_cmp_eq, ul_0, ul_uw (Nat.lt_of_le_of_lt (Nat.mod_le _ _) hlt)]
        refine ax_lconst (v := 0) G d_Wr_hexadecimalDigitsOf_19 (by decide) ?_
        refine ax_lcmp G d_Wr_hexadecimalDigitsOf_20 ?_
        refine ax_if_eq (tgt := 26) G d_Wr_hexadecimalDigitsOf_21 (by decide) (fun c_21 => ?_) (fun c_21 => ?_)
        · rw [if_pos (hz.mp c_21)] at he
          refine ax_iincZ (z := (-1)) G d_Wr_hexadecimalDigitsOf_26 rfl (by decide) (by decide) ?_
          refine ax_goto (tgt := 3) G d_Wr_hexadecimalDigitsOf_29 (by decide) ?_
          rw [pk_m1]
          exact ih (by omega) he
        · rw [if_neg (fun q => c_21 (hz.mpr q))] at he
          refine ax_iload_n G d_Wr_hexadecimalDigitsOf_24 rfl rfl ?_
          exact ax_iret G hr E d_Wr_hexadecimalDigitsOf_25 rfl ⟨by rw [← he], rfl⟩
  refine ax_bipush (v := 13) G d_Wr_hexadecimalDigitsOf_0 (by decide) ?_
  refine ax_istore_n G d_Wr_hexadecimalDigitsOf_2 rfl (by decide) ?_
  exact loop 13 (Nat.le_refl _) rfl
set_option maxRecDepth 20000 in
set_option maxHeartbeats 1000000 in
theorem ct_Wr_roundHexadecimal (l : Launch) (s0 d : Nat) (hs : s0 < 2 ^ 53) (hd : d ≤ 200) : ax_CT l y_Wr_roundHexadecimal c_Wr_roundHexadecimal 10 (some .long) 0 [.long (uw s0), .int (nI d)] [] (fun r h => r = some (.long (uw (rdx s0 d))) ∧ h = []) := by
  refine ax_ofV (by decide) (Nat.le_of_ble_eq_true rfl) ?_
  intro p e s m args below meth c D cid ad A Qc G hr E
  refine ax_iload_n G d_Wr_roundHexadecimal_0 rfl rfl ?_
  refine ax_bipush (v := 13) G d_Wr_roundHexadecimal_1 (by decide) ?_
  refine ax_icmp_lt (tgt := 8) G d_Wr_roundHexadecimal_3 (by decide) (fun c_3 => ?_) (fun c_3 => ?_)
  · have h13 : d < 13 := (nI_ltI (b := 13) (by omega) (by decide)).mp c_3
    have hR := rdx_lt hs d
    refine ax_iconst (v := 4) G d_Wr_roundHexadecimal_8 (by decide) ?_
    refine ax_bipush (v := 13) G d_Wr_roundHexadecimal_9 (by decide) ?_
    refine ax_iload_n G d_Wr_roundHexadecimal_11 rfl rfl ?_
    refine ax_isub G d_Wr_roundHexadecimal_12 ?_
    refine ax_imul G d_Wr_roundHexadecimal_13 ?_
    rw [show (4 : Int32) * (13 - nI d) = nI (4 * (13 - d)) by
      rw [show (13 : Int32) = nI 13 from rfl, pk_sub (by omega), show (4 : Int32) = nI 4 from rfl, pk_mul]]
    have hq1 : 4 * (13 - d) ≤ 52 ∧ 4 ≤ 4 * (13 - d) := by omega
    unfold rdx at hR E
    rw [if_neg (by omega)] at hR E
    generalize 4 * (13 - d) = q at hq1 hR E
    have hp : 2 ^ q ≤ 2 ^ 52 := Nat.pow_le_pow_right (by decide) hq1.1
    have hp1 : 2 ^ (q - 1) ≤ 2 ^ 52 := Nat.pow_le_pow_right (by decide) (by omega)
    have hp0 : 0 < 2 ^ q := Nat.pow_pos (by decide)
    refine ax_istore_n G d_Wr_roundHexadecimal_14 rfl (by decide) ?_
    refine ax_lconst (v := 1) G d_Wr_roundHexadecimal_15 (by decide) ?_
    refine ax_iload_n G d_Wr_roundHexadecimal_16 rfl rfl ?_
    refine ax_iconst (v := 1) G d_Wr_roundHexadecimal_17 (by decide) ?_
    refine ax_isub G d_Wr_roundHexadecimal_18 ?_
    rw [show nI q - 1 = nI q - nI 1 from rfl, pk_sub (by omega)]
    refine ax_lshl G d_Wr_roundHexadecimal_19 ?_
    rw [show (1 : Int64) = uw 1 from rfl, l_shl 1 (q - 1) (by omega) (by rw [Nat.one_mul]; omega), Nat.one_mul]
    refine ax_lstore G d_Wr_roundHexadecimal_20 (by decide) ?_
    refine ax_lload_n G d_Wr_roundHexadecimal_22 rfl rfl ?_
    refine ax_lconst (v := 1) G d_Wr_roundHexadecimal_23 (by decide) ?_
    refine ax_iload_n G d_Wr_roundHexadecimal_24 rfl rfl ?_
    refine ax_lshl G d_Wr_roundHexadecimal_25 ?_
    rw [show (1 : Int64) = uw 1 from rfl, l_shl 1 q (by omega) (by rw [Nat.one_mul]; omega), Nat.one_mul]
    refine ax_lconst (v := 1) G d_Wr_roundHexadecimal_26 (by decide) ?_
    refine ax_lsub G d_Wr_roundHexadecimal_27 ?_
    refine ax_land G d_Wr_roundHexadecimal_28 ?_
    have hm : ul (uw (2 ^ q) - 1) = 2 ^ q - 1 := by
      rw [uw_lN, show (1 : Int64) = lN 1 from rfl, lN_sub hp0, ← uw_lN, ul_uw (by omega)]
    rw [l_mask (uw s0) _ q hm, ul_uw (by omega)]
    refine ax_lstore G d_Wr_roundHexadecimal_29 (by decide) ?_
    refine ax_lload_n G d_Wr_roundHexadecimal_31 rfl rfl ?_
    refine ax_iload_n G d_Wr_roundHexadecimal_32 rfl rfl ?_
    refine ax_lushr G d_Wr_roundHexadecimal_33 ?_
    rw [l_ushr s0 q (by omega) (by omega)]
    refine ax_lstore G d_Wr_roundHexadecimal_34 (by decide) ?_
    refine ax_lload G d_Wr_roundHexadecimal_36 rfl ?_
    refine ax_lload G d_Wr_roundHexadecimal_38 rfl ?_
    refine ax_lcmp G d_Wr_roundHexadecimal_40 ?_
    have hr1 : s0 % 2 ^ q < 2 ^ 53 := Nat.lt_of_le_of_lt (Nat.mod_le _ _) hs
    have hk1 : s0 / 2 ^ q < 2 ^ 53 := Nat.lt_of_le_of_lt (Nat.div_le_self _ _) hs
    have hgt : (0 < lg_cmp (uw (s0 % 2 ^ q)) (uw (2 ^ (q - 1)))) ↔ 2 ^ (q - 1) < s0 % 2 ^ q := by
      rw [lg_cmp_gt, uw_lN, uw_lN, pk_lLT (by omega) (by omega)]
    have heq : (lg_cmp (uw (s0 % 2 ^ q)) (uw (2 ^ (q - 1))) = 0) ↔ s0 % 2 ^ q = 2 ^ (q - 1) := by
      rw [lg_cmp_eq, uw_lN, uw_lN, pk_lEQ (by omega) (by omega)]
    have upS : (2 ^ (q - 1) < s0 % 2 ^ q ∨ (s0 % 2 ^ q = 2 ^ (q - 1) ∧ s0 / 2 ^ q % 2 = 1)) → ax_V p l e (ax_rm 0) s m args below meth c D cid ad A 10 0 0 (MQ below Qc args s 0 0 A) 61 [(0, .long (uw s0)), (2, .int (nI d)), (3, .int (nI q)), (4, .long (uw (2 ^ (q - 1)))), (6, .long (uw (s0 % 2 ^ q))), (8, .long (uw (s0 / 2 ^ q)))] [] [] := by
      intro hy
      rw [if_pos hy] at hR E
      refine ax_lload G d_Wr_roundHexadecimal_61 rfl ?_
      refine ax_lconst (v := 1) G d_Wr_roundHexadecimal_63 (by decide) ?_
      refine ax_ladd G d_Wr_roundHexadecimal_64 ?_
      rw [show uw (s0 / 2 ^ q) + 1 = uw (s0 / 2 ^ q + 1) from lN_1 _]
      refine ax_lstore G d_Wr_roundHexadecimal_65 (by decide) ?_
      refine ax_lload G d_Wr_roundHexadecimal_67 rfl ?_
      refine ax_iload_n G d_Wr_roundHexadecimal_69 rfl rfl ?_
      refine ax_lshl G d_Wr_roundHexadecimal_70 ?_
      rw [l_shl _ q (by omega) (by omega)]
      exact ax_lret G hr E d_Wr_roundHexadecimal_71 rfl ⟨rfl, rfl⟩
    have noS : ¬ (2 ^ (q - 1) < s0 % 2 ^ q ∨ (s0 % 2 ^ q = 2 ^ (q - 1) ∧ s0 / 2 ^ q % 2 = 1)) → ax_V p l e (ax_rm 0) s m args below meth c D cid ad A 10 0 0 (MQ below Qc args s 0 0 A) 67 [(0, .long (uw s0)), (2, .int (nI d)), (3, .int (nI q)), (4, .long (uw (2 ^ (q - 1)))), (6, .long (uw (s0 % 2 ^ q))), (8, .long (uw (s0 / 2 ^ q)))] [] [] := by
      intro hy
      rw [if_neg hy, Nat.add_zero] at hR E
      refine ax_lload G d_Wr_roundHexadecimal_67 rfl ?_
      refine ax_iload_n G d_Wr_roundHexadecimal_69 rfl rfl ?_
      refine ax_lshl G d_Wr_roundHexadecimal_70 ?_
      rw [l_shl _ q (by omega) (by omega)]
      exact ax_lret G hr E d_Wr_roundHexadecimal_71 rfl ⟨rfl, rfl⟩
    refine ax_if_gt (tgt := 61) G d_Wr_roundHexadecimal_41 (by decide) (fun c_41 => ?_) (fun c_41 => ?_)
    · exact upS (Or.inl (hgt.mp c_41))
    · have n1 : ¬ 2 ^ (q - 1) < s0 % 2 ^ q := fun z => c_41 (hgt.mpr z)
      refine ax_lload G d_Wr_roundHexadecimal_44 rfl ?_
      refine ax_lload G d_Wr_roundHexadecimal_46 rfl ?_
      refine ax_lcmp G d_Wr_roundHexadecimal_48 ?_
      refine ax_if_ne (tgt := 67) G d_Wr_roundHexadecimal_49 (by decide) (fun c_49 => ?_) (fun c_49 => ?_)
      · have n2 : ¬ s0 % 2 ^ q = 2 ^ (q - 1) := fun z => c_49 (heq.mpr z)
        exact noS (fun z => z.elim n1 (fun y => n2 y.1))
      · have n2 := heq.mp c_49
        refine ax_lload G d_Wr_roundHexadecimal_52 rfl ?_
        refine ax_lconst (v := 1) G d_Wr_roundHexadecimal_54 (by decide) ?_
        refine ax_land G d_Wr_roundHexadecimal_55 ?_
        rw [l_mask _ 1 1 (by decide +kernel), ul_uw (by omega), Nat.pow_one]
        have hodd : (lg_cmp (uw (s0 / 2 ^ q % 2)) 1 = 0) ↔ s0 / 2 ^ q % 2 = 1 := by
          rw [lg_cmp_eq, uw_lN, show (1 : Int64) = lN 1 from rfl, pk_lEQ (by omega) (by decide)]
        refine ax_lconst (v := 1) G d_Wr_roundHexadecimal_56 (by decide) ?_
        refine ax_lcmp G d_Wr_roundHexadecimal_57 ?_
        refine ax_if_ne (tgt := 67) G d_Wr_roundHexadecimal_58 (by decide) (fun c_58 => ?_) (fun c_58 => ?_)
        · exact noS (fun z => z.elim n1 (fun y => c_58 (hodd.mpr y.2)))
        · exact upS (Or.inr ⟨n2, hodd.mp c_58⟩)
  · have h13 : 13 ≤ d := by
      rcases Nat.lt_or_ge d 13 with q | q
      · exact absurd ((nI_ltI (b := 13) (by omega) (by decide)).mpr q) c_3
      · exact q
    refine ax_lload_n G d_Wr_roundHexadecimal_6 rfl rfl ?_
    exact ax_lret G hr E d_Wr_roundHexadecimal_7 rfl ⟨by unfold rdx; rw [if_pos h13], rfl⟩
set_option maxRecDepth 20000 in
set_option maxHeartbeats 1000000 in
theorem ct_Wr_writeLetter (l : Launch) (bs : List Nat) (v : Int64) (zp : Int32) (f : Nat → Int32) (hf : pi_is f bs) (hb : bs.length < 520) : ax_CT l y_Wr_writeLetter c_Wr_writeLetter 4 none 1 [.ref 6, .long v] (pc_Wr ++ pc_Pi (nI bs.length) zp f) (fun r h => r = none ∧ ∃ f', h = pc_Wr ++ pc_Pi (nI (bs ++ [ltr (ul v % 128)]).length) zp f' ∧ pi_is f' (bs ++ [ltr (ul v % 128)])) := by
  refine ax_ofV (by decide) (Nat.le_of_ble_eq_true rfl) ?_
  intro p e s m args below meth c D cid ad A Qc G hr E
  have hx : ul v % 128 < 128 := Nat.mod_lt _ (by decide)
  refine ax_lload_n G d_Wr_writeLetter_0 rfl rfl ?_
  refine ax_ldc2 G d_Wr_writeLetter_1 k_Wr_60 ?_
  refine ax_land G d_Wr_writeLetter_4 ?_
  rw [l_mask v 127 7 (by decide +kernel), show (2 : Nat) ^ 7 = 128 from rfl]
  generalize hX : ul v % 128 = x at *
  refine ax_l2i G d_Wr_writeLetter_5 ?_
  rw [uw_lN, lN_i]
  refine ax_istore_n G d_Wr_writeLetter_6 rfl (by decide) ?_
  refine ax_aload_n G d_Wr_writeLetter_7 rfl rfl ?_
  refine ax_get (ci := 4) (j := 0) G d_Wr_writeLetter_8 rfl rfl (by decide) k_Wr_14 rfl ?_
  refine ax_iload_n G d_Wr_writeLetter_11 rfl rfl ?_
  refine ax_callS (n := 1) G (ct_Fo_isForeign l x (by omega)) d_Wr_writeLetter_12 rfl trivial rfl kc_Fo_isForeign ⟨k_Wr_62, kt_Fo_isForeign, kk_Fo⟩ (by decide +kernel) rfl ⟨by decide, by decide⟩ (Nat.le_of_ble_eq_true rfl) ⟨by decide, by decide⟩ (fun r hc_ hq hk_ => ?_)
  obtain ⟨rfl, rfl⟩ := hq
  by_cases hc : x < 32 ∨ 126 < x
  · have e1 : ltr x = 63 := by unfold ltr; rw [if_pos hc]
    rw [if_pos hc]
    refine ax_if_eq (tgt := 23) G d_Wr_writeLetter_15 (by decide) (fun c_15 => ?_) (fun c_15 => ?_)
    · exact absurd c_15 (by decide)
    · refine ax_bipush (v := 63) G d_Wr_writeLetter_18 (by decide) ?_
      refine ax_goto (tgt := 24) G d_Wr_writeLetter_20 (by decide) ?_
      refine ax_callV (n := 1) G (ct_Pi_put l bs 63 zp f hf hb (by decide)) d_Wr_writeLetter_24 rfl ⟨rfl, rfl, trivial⟩ rfl rfl rfl kc_Pi_put ⟨k_Wr_34, ki_Pi_put, ks_Pi_put, kk_Pi⟩ (by decide +kernel) rfl ⟨by decide, by decide⟩ (Nat.le_of_ble_eq_true rfl) ⟨by decide, by decide⟩ (fun r hc_ hq hk_ => ?_)
      obtain ⟨rfl, f2, rfl, hf2⟩ := hq
      exact ax_vret G hr E d_Wr_writeLetter_27 rfl ⟨rfl, f2, by rw [e1] <;> rfl, by rw [e1]; exact hf2⟩
  · have e1 : ltr x = x := by unfold ltr; rw [if_neg hc]
    rw [if_neg hc]
    refine ax_if_eq (tgt := 23) G d_Wr_writeLetter_15 (by decide) (fun c_15 => ?_) (fun c_15 => ?_)
    · refine ax_iload_n G d_Wr_writeLetter_23 rfl rfl ?_
      refine ax_callV (n := 1) G (ct_Pi_put l bs x zp f hf hb hx) d_Wr_writeLetter_24 rfl ⟨rfl, rfl, trivial⟩ rfl rfl rfl kc_Pi_put ⟨k_Wr_34, ki_Pi_put, ks_Pi_put, kk_Pi⟩ (by decide +kernel) rfl ⟨by decide, by decide⟩ (Nat.le_of_ble_eq_true rfl) ⟨by decide, by decide⟩ (fun r hc_ hq hk_ => ?_)
      obtain ⟨rfl, f2, rfl, hf2⟩ := hq
      exact ax_vret G hr E d_Wr_writeLetter_27 rfl ⟨rfl, f2, by rw [e1] <;> rfl, by rw [e1]; exact hf2⟩
    · exact absurd rfl c_15
set_option maxRecDepth 20000 in
set_option maxHeartbeats 1000000 in
theorem ct_Wr_writeDigits (l : Launch) (bs : List Nat) (U b : Nat) (q : Option Nat) (zp : Int32) (f : Nat → Int32) (lf pl bl ha ze : Bool) (w : Int32) (wt pt gr : Bool) (kd pa : Int32) (hf : pi_is f bs) (hU : U < 2 ^ 64) (hb3 : b = 8 ∨ b = 10 ∨ b = 16) (hq0 : ∀ k, q = some k → k ≤ 200) (hb : bs.length ≤ 10) : ax_CT l y_Wr_writeDigits c_Wr_writeDigits 7 none 5 [.ref 6, .long (uw U), .int (nI b), .ref 5] (pc_Wr ++ pc_Pi (nI bs.length) zp f ++ pc_Di lf pl bl ha ze w wt (prI q) pt kd gr pa) (fun r h => r = none ∧ ∃ f', h = pc_Wr ++ pc_Pi (nI (bs ++ wl U b (ndg U b q ha)).length) (if q = none then nI bs.length else zp) f' ++ pc_Di lf pl bl ha ze w wt (prI q) pt kd gr pa ∧ pi_is f' (bs ++ wl U b (ndg U b q ha))) := by
  refine ax_ofV (by decide) (Nat.le_of_ble_eq_true rfl) ?_
  intro p e s m args below meth c D cid ad A Qc G hr E
  have hN := ndg_le U b q ha hq0
  have hdg := dgf_le b 22 U
  have hb31 : b < 2 ^ 31 := by rcases hb3 with h | h | h <;> omega
  -- behind the width of digits
  have fin : ∀ (z2 : Int32) (x5 : Int32) , ax_V p l e (ax_rm 5) s m args below meth c D cid ad A 7 0 0 (MQ below Qc args s 0 0 A) 72 [(0, .ref 6), (1, .long (uw U)), (3, .int (nI b)), (4, .ref 5), (5, .int x5), (6, .int (nI (ndg U b q ha)))] [] (pc_Wr ++ pc_Pi (nI bs.length) z2 f ++ pc_Di lf pl bl ha ze w wt (prI q) pt kd gr pa) ∨ z2 ≠ (if q = none then nI bs.length else zp) := by
    intro z2 x5
    by_cases hz : z2 = (if q = none then nI bs.length else zp)
    · left
      refine ax_aload_n G d_Wr_writeDigits_72 rfl rfl ?_
      refine ax_get (ci := 4) (j := 0) G d_Wr_writeDigits_73 rfl rfl (by decide) k_Wr_14 rfl ?_
      refine ax_lload_n G d_Wr_writeDigits_76 rfl rfl ?_
      refine ax_iload_n G d_Wr_writeDigits_77 rfl rfl ?_
      refine ax_iload G d_Wr_writeDigits_78 rfl ?_
      refine ax_callV (n := 3) G (ct_Pi_putWhole l bs U b (ndg U b q ha) z2 f hf hU hb3 (by omega)) d_Wr_writeDigits_80 rfl ⟨rfl, rfl, trivial⟩ rfl rfl rfl kc_Pi_putWhole ⟨k_Wr_100, ki_Pi_putWhole, ks_Pi_putWhole, kk_Pi⟩ (by decide +kernel) rfl ⟨by decide, by decide⟩ (Nat.le_of_ble_eq_true rfl) ⟨by decide, by decide⟩ (fun r hc_ hq hk_ => ?_)
      obtain ⟨rfl, f2, rfl, hf2⟩ := hq
      exact ax_vret G hr E d_Wr_writeDigits_83 rfl ⟨rfl, f2, by rw [hz] <;> rfl, hf2⟩
    · exact Or.inr hz
  have mid : ∀ (z2 : Int32), z2 = (if q = none then nI bs.length else zp) → ax_V p l e (ax_rm 5) s m args below meth c D cid ad A 7 0 0 (MQ below Qc args s 0 0 A) 16 [(0, .ref 6), (1, .long (uw U)), (3, .int (nI b)), (4, .ref 5)] [] (pc_Wr ++ pc_Pi (nI bs.length) z2 f ++ pc_Di lf pl bl ha ze w wt (prI q) pt kd gr pa) := by
    intro z2 hz
    have fin2 : ∀ x5 : Int32, ax_V p l e (ax_rm 5) s m args below meth c D cid ad A 7 0 0 (MQ below Qc args s 0 0 A) 72 [(0, .ref 6), (1, .long (uw U)), (3, .int (nI b)), (4, .ref 5), (5, .int x5), (6, .int (nI (ndg U b q ha)))] [] (pc_Wr ++ pc_Pi (nI bs.length) z2 f ++ pc_Di lf pl bl ha ze w wt (prI q) pt kd gr pa) := fun x5 => (fin z2 x5).resolve_right (fun y => y hz)
    have tail : ax_V p l e (ax_rm 5) s m args below meth c D cid ad A 7 0 0 (MQ below Qc args s 0 0 A) 48 [(0, .ref 6), (1, .long (uw U)), (3, .int (nI b)), (4, .ref 5), (5, .int (nI (dgf b 22 U))), (6, .int (nI (max (dgf b 22 U) (q.getD 1))))] [] (pc_Wr ++ pc_Pi (nI bs.length) z2 f ++ pc_Di lf pl bl ha ze w wt (prI q) pt kd gr pa) := by
      have hm : max (dgf b 22 U) (q.getD 1) ≤ 201 := by unfold ndg at hN; split at hN <;> omega
      have no : ¬ (b = 8 ∧ ha = true ∧ max (dgf b 22 U) (q.getD 1) = dgf b 22 U) → ax_V p l e (ax_rm 5) s m args below meth c D cid ad A 7 0 0 (MQ below Qc args s 0 0 A) 72 [(0, .ref 6), (1, .long (uw U)), (3, .int (nI b)), (4, .ref 5), (5, .int (nI (dgf b 22 U))), (6, .int (nI (max (dgf b 22 U) (q.getD 1))))] [] (pc_Wr ++ pc_Pi (nI bs.length) z2 f ++ pc_Di lf pl bl ha ze w wt (prI q) pt kd gr pa) := by
        intro hn
        have e1 : ndg U b q ha = max (dgf b 22 U) (q.getD 1) := by unfold ndg; rw [if_neg hn]
        rw [← e1]
        exact fin2 _
      refine ax_iload_n G d_Wr_writeDigits_48 rfl rfl ?_
      refine ax_bipush (v := 8) G d_Wr_writeDigits_49 (by decide) ?_
      refine ax_icmp_ne (tgt := 72) G d_Wr_writeDigits_51 (by decide) (fun c_51 => ?_) (fun c_51 => ?_)
      · exact no (fun z => c_51 (by rw [z.1]; rfl))
      · have b8 : b = 8 := (nI_eq (b := 8) hb31 (by decide)).mp c_51
        refine ax_aload G d_Wr_writeDigits_54 rfl ?_
        refine ax_getN (ci := 1) (j := 3) G d_Wr_writeDigits_56 rfl rfl (by decide) k_Wr_75 rfl ?_
        refine ax_if_eq (tgt := 72) G d_Wr_writeDigits_59 (by decide) (fun c_59 => ?_) (fun c_59 => ?_)
        · exact no (fun z => by rw [z.2.1] at c_59; exact absurd c_59 (by decide))
        · have h1 : ha = true := by cases ha; exact absurd rfl c_59; rfl
          refine ax_iload G d_Wr_writeDigits_62 rfl ?_
          refine ax_iload G d_Wr_writeDigits_64 rfl ?_
          refine ax_icmp_ne (tgt := 72) G d_Wr_writeDigits_66 (by decide) (fun c_66 => ?_) (fun c_66 => ?_)
          · exact no (fun z => c_66 (by rw [z.2.2]))
          · have h2 : max (dgf b 22 U) (q.getD 1) = dgf b 22 U := (nI_eq (by omega) (by omega)).mp c_66
            refine ax_iincZ (z := 1) G d_Wr_writeDigits_69 rfl (by decide) (by decide) ?_
            rw [nI_1]
            have e1 : ndg U b q ha = max (dgf b 22 U) (q.getD 1) + 1 := by unfold ndg; rw [if_pos ⟨b8, h1, h2⟩]
            have := fin2 (nI (dgf b 22 U))
            rw [e1] at this
            exact this
    refine ax_lload_n G d_Wr_writeDigits_16 rfl rfl ?_
    refine ax_iload_n G d_Wr_writeDigits_17 rfl rfl ?_
    refine ax_callS (n := 2) G (ct_Pi_digitsOf l U b hU hb3) d_Wr_writeDigits_18 rfl trivial rfl kc_Pi_digitsOf ⟨k_Wr_90, kt_Pi_digitsOf, kk_Pi⟩ (by decide +kernel) rfl ⟨by decide, by decide⟩ (Nat.le_of_ble_eq_true rfl) ⟨by decide, by decide⟩ (fun r hc_ hq hk_ => ?_)
    obtain ⟨rfl, rfl⟩ := hq
    refine ax_istore G d_Wr_writeDigits_21 (by decide) ?_
    refine ax_iload G d_Wr_writeDigits_23 rfl ?_
    refine ax_aload G d_Wr_writeDigits_25 rfl ?_
    refine ax_getN (ci := 1) (j := 7) G d_Wr_writeDigits_27 rfl rfl (by decide) k_Wr_84 rfl ?_
    refine ax_iconst (v := (-1)) G d_Wr_writeDigits_30 (by decide) ?_
    refine ax_icmp_ne (tgt := 38) G d_Wr_writeDigits_31 (by decide) (fun c_31 => ?_) (fun c_31 => ?_)
    · have hqs : q ≠ none := fun z => c_31 ((prI_m1 hq0).mpr z)
      cases q with
      | none => exact absurd rfl hqs
      | some k =>
        have hk := hq0 k rfl
        refine ax_aload G d_Wr_writeDigits_38 rfl ?_
        refine ax_getN (ci := 1) (j := 7) G d_Wr_writeDigits_40 rfl rfl (by decide) k_Wr_84 rfl ?_
        refine ax_mmax G d_Wr_writeDigits_43 k_Wr_94 ⟨by decide, by decide⟩ (Nat.le_of_ble_eq_true rfl) ⟨by decide, by decide⟩ ?_
        rw [show (if nI (dgf b 22 U) < prI (some k) then prI (some k) else nI (dgf b 22 U)) = nI (max (dgf b 22 U) k) by
          show (if nI (dgf b 22 U) < nI k then nI k else nI (dgf b 22 U)) = _
          by_cases hz : dgf b 22 U < k
          · rw [if_pos (nI_lt hz (by omega)), Nat.max_eq_right (by omega)]
          · rw [if_neg (nI_nlt (by omega) (by omega)), Nat.max_eq_left (by omega)]]
        refine ax_istore G d_Wr_writeDigits_46 (by decide) ?_
        exact tail
    · have hqn : q = none := (prI_m1 hq0).mp c_31
      subst hqn
      refine ax_iconst (v := 1) G d_Wr_writeDigits_34 (by decide) ?_
      refine ax_goto (tgt := 43) G d_Wr_writeDigits_35 (by decide) ?_
      refine ax_mmax G d_Wr_writeDigits_43 k_Wr_94 ⟨by decide, by decide⟩ (Nat.le_of_ble_eq_true rfl) ⟨by decide, by decide⟩ ?_
      rw [show (if nI (dgf b 22 U) < 1 then (1 : Int32) else nI (dgf b 22 U)) = nI (max (dgf b 22 U) 1) by
        show (if nI (dgf b 22 U) < nI 1 then nI 1 else nI (dgf b 22 U)) = _
        by_cases hz : dgf b 22 U < 1
        · rw [if_pos (nI_lt hz (by decide)), Nat.max_eq_right (by omega)]
        · rw [if_neg (nI_nlt (by omega) (by omega)), Nat.max_eq_left (by omega)]]
      refine ax_istore G d_Wr_writeDigits_46 (by decide) ?_
      exact tail
  refine ax_aload G d_Wr_writeDigits_0 rfl ?_
  refine ax_getN (ci := 1) (j := 7) G d_Wr_writeDigits_2 rfl rfl (by decide) k_Wr_84 rfl ?_
  refine ax_iconst (v := (-1)) G d_Wr_writeDigits_5 (by decide) ?_
  refine ax_icmp_ne (tgt := 16) G d_Wr_writeDigits_6 (by decide) (fun c_6 => ?_) (fun c_6 => ?_)
  · have hqs : q ≠ none := fun z => c_6 ((prI_m1 hq0).mpr z)
    exact mid zp (by rw [if_neg hqs])
  · have hqn : q = none := (prI_m1 hq0).mp c_6
    refine ax_aload_n G d_Wr_writeDigits_9 rfl rfl ?_
    refine ax_get (ci := 4) (j := 0) G d_Wr_writeDigits_10 rfl rfl (by decide) k_Wr_14 rfl ?_
    refine ax_callV (n := 0) G (ct_Pi_letZerosComeHere l (nI bs.length) zp f) d_Wr_writeDigits_13 rfl ⟨rfl, rfl, trivial⟩ rfl rfl rfl kc_Pi_letZerosComeHere ⟨k_Wr_87, ki_Pi_letZerosComeHere, ks_Pi_letZerosComeHere, kk_Pi⟩ (by decide +kernel) rfl ⟨by decide, by decide⟩ (Nat.le_of_ble_eq_true rfl) ⟨by decide, by decide⟩ (fun r hc_ hq hk_ => ?_)
    obtain ⟨rfl, rfl⟩ := hq
    exact mid (nI bs.length) (by rw [if_pos hqn])

