/-! FormatDesk$Writer: writeSigned, writeUnsigned, writeHexadecimal -/
set_option maxRecDepth 20000 in
set_option maxHeartbeats 1000000 in
theorem ct_Wr_writeSigned (l : Launch) (v : Int64) (q : Option Nat) (zp : Int32) (f : Nat → Int32) (lf pl bl ha ze : Bool) (w : Int32) (wt pt gr : Bool) (kd pa : Int32) (hq0 : ∀ k, q = some k → k ≤ 200) : ax_CT l y_Wr_writeSigned c_Wr_writeSigned 4 none 6 [.ref 6, .long v, .ref 5] (pc_Wr ++ pc_Pi (nI 0) zp f ++ pc_Di lf pl bl ha ze w wt (prI q) pt kd gr pa) (fun r h => r = none ∧ ∃ f', h = pc_Wr ++ pc_Pi (nI (sgn (decide (v < 0)) pl bl ++ wl (ul (if v < 0 then -v else v)) 10 (ndg (ul (if v < 0 then -v else v)) 10 q ha)).length) (if q = none then nI (sgn (decide (v < 0)) pl bl).length else zp) f' ++ pc_Di lf pl bl ha ze w wt (prI q) pt kd gr pa ∧ pi_is f' (sgn (decide (v < 0)) pl bl ++ wl (ul (if v < 0 then -v else v)) 10 (ndg (ul (if v < 0 then -v else v)) 10 q ha))) := by
  have hsl : (sgn (decide (v < 0)) pl bl).length ≤ 1 := by unfold sgn; split <;> (try split) <;> (try split) <;> simp
  by_cases hv : v < 0
  · rw [show decide (v < 0) = true from decide_eq_true hv, if_pos hv] at *
    refine ax_ofV (by decide) (Nat.le_of_ble_eq_true rfl) ?_
    intro p e s m args below meth c D cid ad A Qc G hr E
    refine ax_aload_n G d_Wr_writeSigned_0 rfl rfl ?_
    refine ax_get (ci := 4) (j := 0) G d_Wr_writeSigned_1 rfl rfl (by decide) k_Wr_14 rfl ?_
    refine ax_lload_n G d_Wr_writeSigned_4 rfl rfl ?_
    refine ax_lconst (v := 0) G d_Wr_writeSigned_5 (by decide) ?_
    refine ax_lcmp G d_Wr_writeSigned_6 ?_
    refine ax_if_ge (tgt := 14) G d_Wr_writeSigned_7 (by decide) (fun c_7 => ?_) (fun c_7 => ?_)
    · exact absurd hv (Int64.not_lt.mpr ((lg_cmp_ge v 0).mp c_7))
    · refine ax_iconst (v := 1) G d_Wr_writeSigned_10 (by decide) ?_
      refine ax_goto (tgt := 15) G d_Wr_writeSigned_11 (by decide) ?_
      refine ax_aload_n G d_Wr_writeSigned_15 rfl rfl ?_
      refine ax_callV (n := 2) G (ct_Pi_putSign l [] true zp f lf pl bl ha ze w wt (prI q) pt kd gr pa (pi_nil f) (by decide)) d_Wr_writeSigned_16 rfl ⟨rfl, rfl, rfl, trivial⟩ rfl rfl rfl kc_Pi_putSign ⟨k_Wr_68, ki_Pi_putSign, ks_Pi_putSign, kk_Pi⟩ (by decide +kernel) rfl ⟨by decide, by decide⟩ (Nat.le_of_ble_eq_true rfl) ⟨by decide, by decide⟩ (fun r hc_ hq hk_ => ?_)
      obtain ⟨rfl, h1, rfl, f2, rfl, hf2⟩ := hq
      rw [List.nil_append] at hf2
      refine ax_aload_n G d_Wr_writeSigned_19 rfl rfl ?_
      refine ax_lload_n G d_Wr_writeSigned_20 rfl rfl ?_
      refine ax_lconst (v := 0) G d_Wr_writeSigned_21 (by decide) ?_
      refine ax_lcmp G d_Wr_writeSigned_22 ?_
      refine ax_if_ge (tgt := 31) G d_Wr_writeSigned_23 (by decide) (fun c_23 => ?_) (fun c_23 => ?_)
      · exact absurd hv (Int64.not_lt.mpr ((lg_cmp_ge v 0).mp c_23))
      · refine ax_lload_n G d_Wr_writeSigned_26 rfl rfl ?_
        refine ax_lneg G d_Wr_writeSigned_27 ?_
        rw [← uw_ul (-v)]
        refine ax_goto (tgt := 32) G d_Wr_writeSigned_28 (by decide) ?_
        refine ax_bipush (v := 10) G d_Wr_writeSigned_32 (by decide) ?_
        refine ax_aload_n G d_Wr_writeSigned_34 rfl rfl ?_
        refine ax_callV (n := 3) G (ct_Wr_writeDigits l (sgn true pl bl) (ul (-v)) 10 q zp f2 lf pl bl ha ze w wt pt gr kd pa hf2 (ul_lt _) (by decide) hq0 (by omega)) d_Wr_writeSigned_35 rfl ⟨rfl, rfl, rfl, rfl, trivial⟩ rfl rfl rfl kc_Wr_writeDigits ⟨k_Wr_72, ki_Wr_writeDigits, ks_Wr_writeDigits, kk_Wr⟩ (by decide +kernel) rfl ⟨by decide, by decide⟩ (Nat.le_of_ble_eq_true rfl) ⟨by decide, by decide⟩ (fun r hc_ hq hk_ => ?_)
        obtain ⟨rfl, f3, rfl, hf3⟩ := hq
        exact ax_vret G hr E d_Wr_writeSigned_38 rfl ⟨rfl, f3, rfl, hf3⟩
  · rw [show decide (v < 0) = false from decide_eq_false hv, if_neg hv] at *
    refine ax_ofV (by decide) (Nat.le_of_ble_eq_true rfl) ?_
    intro p e s m args below meth c D cid ad A Qc G hr E
    refine ax_aload_n G d_Wr_writeSigned_0 rfl rfl ?_
    refine ax_get (ci := 4) (j := 0) G d_Wr_writeSigned_1 rfl rfl (by decide) k_Wr_14 rfl ?_
    refine ax_lload_n G d_Wr_writeSigned_4 rfl rfl ?_
    refine ax_lconst (v := 0) G d_Wr_writeSigned_5 (by decide) ?_
    refine ax_lcmp G d_Wr_writeSigned_6 ?_
    refine ax_if_ge (tgt := 14) G d_Wr_writeSigned_7 (by decide) (fun c_7 => ?_) (fun c_7 => ?_)
    · refine ax_iconst (v := 0) G d_Wr_writeSigned_14 (by decide) ?_
      refine ax_aload_n G d_Wr_writeSigned_15 rfl rfl ?_
      refine ax_callV (n := 2) G (ct_Pi_putSign l [] false zp f lf pl bl ha ze w wt (prI q) pt kd gr pa (pi_nil f) (by decide)) d_Wr_writeSigned_16 rfl ⟨rfl, rfl, rfl, trivial⟩ rfl rfl rfl kc_Pi_putSign ⟨k_Wr_68, ki_Pi_putSign, ks_Pi_putSign, kk_Pi⟩ (by decide +kernel) rfl ⟨by decide, by decide⟩ (Nat.le_of_ble_eq_true rfl) ⟨by decide, by decide⟩ (fun r hc_ hq hk_ => ?_)
      obtain ⟨rfl, h1, rfl, f2, rfl, hf2⟩ := hq
      rw [List.nil_append] at hf2
      refine ax_aload_n G d_Wr_writeSigned_19 rfl rfl ?_
      refine ax_lload_n G d_Wr_writeSigned_20 rfl rfl ?_
      refine ax_lconst (v := 0) G d_Wr_writeSigned_21 (by decide) ?_
      refine ax_lcmp G d_Wr_writeSigned_22 ?_
      refine ax_if_ge (tgt := 31) G d_Wr_writeSigned_23 (by decide) (fun c_23 => ?_) (fun c_23 => ?_)
      · refine ax_lload_n G d_Wr_writeSigned_31 rfl rfl ?_
        rw [← uw_ul v]
        refine ax_bipush (v := 10) G d_Wr_writeSigned_32 (by decide) ?_
        refine ax_aload_n G d_Wr_writeSigned_34 rfl rfl ?_
        refine ax_callV (n := 3) G (ct_Wr_writeDigits l (sgn false pl bl) (ul v) 10 q zp f2 lf pl bl ha ze w wt pt gr kd pa hf2 (ul_lt _) (by decide) hq0 (by omega)) d_Wr_writeSigned_35 rfl ⟨rfl, rfl, rfl, rfl, trivial⟩ rfl rfl rfl kc_Wr_writeDigits ⟨k_Wr_72, ki_Wr_writeDigits, ks_Wr_writeDigits, kk_Wr⟩ (by decide +kernel) rfl ⟨by decide, by decide⟩ (Nat.le_of_ble_eq_true rfl) ⟨by decide, by decide⟩ (fun r hc_ hq hk_ => ?_)
        obtain ⟨rfl, f3, rfl, hf3⟩ := hq
        exact ax_vret G hr E d_Wr_writeSigned_38 rfl ⟨rfl, f3, rfl, hf3⟩
      · exact absurd ((lg_cmp_ge v 0).mpr (Int64.not_lt.mp hv)) c_23
    · exact absurd ((lg_cmp_ge v 0).mpr (Int64.not_lt.mp hv)) c_7
/-- 0x before a hexadecimal whole number -/
def pre0x (b : Nat) (ha : Bool) (U : Nat) : List Nat := if b = 16 ∧ ha = true ∧ U ≠ 0 then [48, 120] else []
set_option maxRecDepth 20000 in
set_option maxHeartbeats 1000000 in
theorem ct_Wr_writeUnsigned (l : Launch) (U b : Nat) (q : Option Nat) (zp : Int32) (f : Nat → Int32) (lf pl bl ha ze : Bool) (w : Int32) (wt pt gr : Bool) (kd pa : Int32) (hU : U < 2 ^ 64) (hb3 : b = 8 ∨ b = 10 ∨ b = 16) (hq0 : ∀ k, q = some k → k ≤ 200) : ax_CT l y_Wr_writeUnsigned c_Wr_writeUnsigned 5 none 6 [.ref 6, .long (uw U), .int (nI b), .ref 5] (pc_Wr ++ pc_Pi (nI 0) zp f ++ pc_Di lf pl bl ha ze w wt (prI q) pt kd gr pa) (fun r h => r = none ∧ ∃ f', h = pc_Wr ++ pc_Pi (nI (pre0x b ha U ++ wl U b (ndg U b q ha)).length) (if q = none then nI (pre0x b ha U).length else zp) f' ++ pc_Di lf pl bl ha ze w wt (prI q) pt kd gr pa ∧ pi_is f' (pre0x b ha U ++ wl U b (ndg U b q ha))) := by
  refine ax_ofV (by decide) (Nat.le_of_ble_eq_true rfl) ?_
  intro p e s m args below meth c D cid ad A Qc G hr E
  have hb31 : b < 2 ^ 31 := by rcases hb3 with h | h | h <;> omega
  have fin : ∀ (bs : List Nat) (f2 : Nat → Int32), bs = pre0x b ha U → pi_is f2 bs → bs.length ≤ 10 → ax_V p l e (ax_rm 6) s m args below meth c D cid ad A 5 0 0 (MQ below Qc args s 0 0 A) 29 [(0, .ref 6), (1, .long (uw U)), (3, .int (nI b)), (4, .ref 5)] [] (pc_Wr ++ pc_Pi (nI bs.length) zp f2 ++ pc_Di lf pl bl ha ze w wt (prI q) pt kd gr pa) := by
    intro bs f2 hbs hf2 hl
    refine ax_aload_n G d_Wr_writeUnsigned_29 rfl rfl ?_
    refine ax_lload_n G d_Wr_writeUnsigned_30 rfl rfl ?_
    refine ax_iload_n G d_Wr_writeUnsigned_31 rfl rfl ?_
    refine ax_aload G d_Wr_writeUnsigned_32 rfl ?_
    refine ax_callV (n := 3) G (ct_Wr_writeDigits l bs U b q zp f2 lf pl bl ha ze w wt pt gr kd pa hf2 hU hb3 hq0 hl) d_Wr_writeUnsigned_34 rfl ⟨rfl, rfl, rfl, rfl, trivial⟩ rfl rfl rfl kc_Wr_writeDigits ⟨k_Wr_72, ki_Wr_writeDigits, ks_Wr_writeDigits, kk_Wr⟩ (by decide +kernel) rfl ⟨by decide, by decide⟩ (Nat.le_of_ble_eq_true rfl) ⟨by decide, by decide⟩ (fun r hc_ hq hk_ => ?_)
    obtain ⟨rfl, f3, rfl, hf3⟩ := hq
    rw [hbs] at hf3
    exact ax_vret G hr E d_Wr_writeUnsigned_37 rfl ⟨rfl, f3, by rw [hbs] <;> rfl, hf3⟩
  have no : ¬ (b = 16 ∧ ha = true ∧ U ≠ 0) → ax_V p l e (ax_rm 6) s m args below meth c D cid ad A 5 0 0 (MQ below Qc args s 0 0 A) 29 [(0, .ref 6), (1, .long (uw U)), (3, .int (nI b)), (4, .ref 5)] [] (pc_Wr ++ pc_Pi (nI 0) zp f ++ pc_Di lf pl bl ha ze w wt (prI q) pt kd gr pa) := by
    intro hn
    exact fin [] f (by unfold pre0x; rw [if_neg hn]) (pi_nil f) (by decide)
  refine ax_iload_n G d_Wr_writeUnsigned_0 rfl rfl ?_
  refine ax_bipush (v := 16) G d_Wr_writeUnsigned_1 (by decide) ?_
  refine ax_icmp_ne (tgt := 29) G d_Wr_writeUnsigned_3 (by decide) (fun c_3 => ?_) (fun c_3 => ?_)
  · exact no (fun z => c_3 (by rw [z.1]; rfl))
  · have b16 : b = 16 := (nI_eq (b := 16) hb31 (by decide)).mp c_3
    refine ax_aload G d_Wr_writeUnsigned_6 rfl ?_
    refine ax_getN (ci := 1) (j := 3) G d_Wr_writeUnsigned_8 rfl rfl (by decide) k_Wr_75 rfl ?_
    refine ax_if_eq (tgt := 29) G d_Wr_writeUnsigned_11 (by decide) (fun c_11 => ?_) (fun c_11 => ?_)
    · exact no (fun z => by rw [z.2.1] at c_11; exact absurd c_11 (by decide))
    · have h1 : ha = true := by cases ha; exact absurd rfl c_11; rfl
      have hz : (lg_cmp (uw U) 0 = 0) ↔ U = 0 := by rw [lg_cmp_eq, ul_0, ul_uw hU]
      refine ax_lload_n G d_Wr_writeUnsigned_14 rfl rfl ?_
      refine ax_lconst (v := 0) G d_Wr_writeUnsigned_15 (by decide) ?_
      refine ax_lcmp G d_Wr_writeUnsigned_16 ?_
      refine ax_if_eq (tgt := 29) G d_Wr_writeUnsigned_17 (by decide) (fun c_17 => ?_) (fun c_17 => ?_)
      · exact no (fun z => z.2.2 (hz.mp c_17))
      · have hU0 : U ≠ 0 := fun z => c_17 (hz.mpr z)
        refine ax_aload_n G d_Wr_writeUnsigned_20 rfl rfl ?_
        refine ax_get (ci := 4) (j := 0) G d_Wr_writeUnsigned_21 rfl rfl (by decide) k_Wr_14 rfl ?_
        refine ax_ldcS (tx := "0x") (t := 2) G d_Wr_writeUnsigned_24 (by decide +kernel) ?_
        refine ax_callV (n := 1) G (ct_Pi_putWord l [] 2 zp f (pi_nil f) (by decide) (by decide)) d_Wr_writeUnsigned_26 rfl ⟨rfl, rfl, trivial⟩ rfl rfl rfl kc_Pi_putWord ⟨k_Wr_80, ki_Pi_putWord, ks_Pi_putWord, kk_Pi⟩ (by decide +kernel) rfl ⟨by decide, by decide⟩ (Nat.le_of_ble_eq_true rfl) ⟨by decide, by decide⟩ (fun r hc_ hq hk_ => ?_)
        obtain ⟨rfl, f2, rfl, hf2⟩ := hq
        rw [List.nil_append] at hf2
        exact fin (st_wd 2) f2 (by unfold pre0x; rw [if_pos ⟨b16, h1, hU0⟩]; decide) hf2 (by decide)
set_option maxRecDepth 20000 in
set_option maxHeartbeats 1000000 in
theorem ct_Wr_writeHexadecimal (l : Launch) (bs : List Nat) (s0 : Nat) (x : Int32) (q : Option Nat) (zp : Int32) (f : Nat → Int32) (lf pl bl ha ze : Bool) (w : Int32) (wt pt gr : Bool) (kd pa : Int32) (hf : pi_is f bs) (hb : bs.length ≤ 10) (hs : s0 < 2 ^ 53) (hx2 : -2000 ≤ x.toInt ∧ x.toInt ≤ 2000) (hq0 : ∀ k, q = some k → k ≤ 200) : ax_CT l y_Wr_writeHexadecimal c_Wr_writeHexadecimal 9 none 5 [.ref 6, .long (uw s0), .int x, .ref 5] (pc_Wr ++ pc_Pi (nI bs.length) zp f ++ pc_Di lf pl bl ha ze w wt (prI q) pt kd gr pa) (fun r h => r = none ∧ ∃ f', h = pc_Wr ++ pc_Pi (nI (bs ++ ([48, 120] ++ hexS s0 x.toInt q ha)).length) (nI (bs.length + 2)) f' ++ pc_Di lf pl bl ha ze w wt (prI q) pt kd gr pa ∧ pi_is f' (bs ++ ([48, 120] ++ hexS s0 x.toInt q ha))) := by
  refine ax_ofV (by decide) (Nat.le_of_ble_eq_true rfl) ?_
  intro p e s m args below meth c D cid ad A Qc G hr E
  have hB : hxb s0 q ≤ 200 := by
    cases q with
    | none => exact Nat.le_trans (hxd_le s0 13) (by decide)
    | some k => exact hq0 k rfl
  have hR : rdx s0 (hxb s0 q) < 2 ^ 54 := rdx_lt hs _
  generalize hT : bs ++ ([48, 120] ++ hexS s0 x.toInt q ha) = T at E
  unfold hexS at hT
  generalize hb2 : hxb s0 q = B at hB hR hT
  generalize hr2 : rdx s0 B = r at hR hT
  have z0 : (lg_cmp (uw s0) 0 = 0) ↔ s0 = 0 := by rw [lg_cmp_eq, ul_0, ul_uw (by omega)]
  -- behind the digits
  have fin : ∀ (x8 : Int32) (bs' : List Nat) (f2 : Nat → Int32), pi_is f2 bs' → bs'.length ≤ 300 → bs' ++ (112 :: expo (if s0 = 0 then 0 else x.toInt) false) = T → ax_V p l e (ax_rm 5) s m args below meth c D cid ad A 9 0 0 (MQ below Qc args s 0 0 A) 119 [(0, .ref 6), (1, .long (uw s0)), (3, .int x), (4, .ref 5), (5, .int (nI B)), (6, .long (uw r)), (8, .int x8)] [] (pc_Wr ++ pc_Pi (nI bs'.length) (nI (bs.length + 2)) f2 ++ pc_Di lf pl bl ha ze w wt (prI q) pt kd gr pa) := by
    intro x8 bs' f2 hf2 hl hT'
    have ex : ∀ (y : Int32) (f3 : Nat → Int32), y.toInt = (if s0 = 0 then 0 else x.toInt) → pi_is f3 (bs' ++ [112]) → ax_V p l e (ax_rm 5) s m args below meth c D cid ad A 9 0 0 (MQ below Qc args s 0 0 A) 140 [(0, .ref 6), (1, .long (uw s0)), (3, .int x), (4, .ref 5), (5, .int (nI B)), (6, .long (uw r)), (8, .int x8)] [.int y, .ref 6] (pc_Wr ++ pc_Pi (nI (bs' ++ [112]).length) (nI (bs.length + 2)) f3 ++ pc_Di lf pl bl ha ze w wt (prI q) pt kd gr pa) := by
      intro y f3 hy hf3
      have hT2 : bs' ++ [112] ++ expo y.toInt false = T := by rw [hy, List.append_assoc]; exact hT'
      refine ax_iconst (v := 0) G d_Wr_writeHexadecimal_140 (by decide) ?_
      refine ax_callV (n := 2) G (ct_Wr_putExponent l (bs' ++ [112]) y false (nI (bs.length + 2)) f3 hf3 (by rw [List.length_append]; show bs'.length + 1 ≤ 510; omega) (by rw [hy]; split <;> omega)) d_Wr_writeHexadecimal_141 rfl ⟨rfl, rfl, rfl, trivial⟩ rfl rfl rfl kc_Wr_putExponent ⟨k_Wr_144, ki_Wr_putExponent, ks_Wr_putExponent, kk_Wr⟩ (by decide +kernel) rfl ⟨by decide, by decide⟩ (Nat.le_of_ble_eq_true rfl) ⟨by decide, by decide⟩ (fun r hc_ hq hk_ => ?_)
      obtain ⟨rfl, f4, rfl, hf4⟩ := hq
      rw [hT2] at hf4
      exact ax_vret G hr E d_Wr_writeHexadecimal_144 rfl ⟨rfl, f4, by rw [← hT2] <;> rfl, hf4⟩
    refine ax_aload_n G d_Wr_writeHexadecimal_119 rfl rfl ?_
    refine ax_get (ci := 4) (j := 0) G d_Wr_writeHexadecimal_120 rfl rfl (by decide) k_Wr_14 rfl ?_
    refine ax_bipush (v := 112) G d_Wr_writeHexadecimal_123 (by decide) ?_
    refine ax_callV (n := 1) G (ct_Pi_put l bs' 112 (nI (bs.length + 2)) f2 hf2 (by omega) (by decide)) d_Wr_writeHexadecimal_125 rfl ⟨rfl, rfl, trivial⟩ rfl rfl rfl kc_Pi_put ⟨k_Wr_34, ki_Pi_put, ks_Pi_put, kk_Pi⟩ (by decide +kernel) rfl ⟨by decide, by decide⟩ (Nat.le_of_ble_eq_true rfl) ⟨by decide, by decide⟩ (fun r hc_ hq hk_ => ?_)
    obtain ⟨rfl, f3, rfl, hf3⟩ := hq
    refine ax_aload_n G d_Wr_writeHexadecimal_128 rfl rfl ?_
    refine ax_lload_n G d_Wr_writeHexadecimal_129 rfl rfl ?_
    refine ax_lconst (v := 0) G d_Wr_writeHexadecimal_130 (by decide) ?_
    refine ax_lcmp G d_Wr_writeHexadecimal_131 ?_
    refine ax_if_ne (tgt := 139) G d_Wr_writeHexadecimal_132 (by decide) (fun c_132 => ?_) (fun c_132 => ?_)
    · have hn : ¬ s0 = 0 := fun z => c_132 (z0.mpr z)
      refine ax_iload_n G d_Wr_writeHexadecimal_139 rfl rfl ?_
      exact ex x f3 (by rw [if_neg hn]) hf3
    · have hn : s0 = 0 := z0.mp c_132
      refine ax_iconst (v := 0) G d_Wr_writeHexadecimal_135 (by decide) ?_
      refine ax_goto (tgt := 140) G d_Wr_writeHexadecimal_136 (by decide) ?_
      exact ex 0 f3 (by rw [if_pos hn]; rfl) hf3
  have loop : ∀ (j i : Nat) (bs' : List Nat) (f2 : Nat → Int32), j + i = B → pi_is f2 (bs' ++ hxl r i) → bs'.length ≤ 20 → bs' ++ (hxl r B ++ (112 :: expo (if s0 = 0 then 0 else x.toInt) false)) = T → ax_V p l e (ax_rm 5) s m args below meth c D cid ad A 9 0 0 (MQ below Qc args s 0 0 A) 74 [(0, .ref 6), (1, .long (uw s0)), (3, .int x), (4, .ref 5), (5, .int (nI B)), (6, .long (uw r)), (8, .int (nI (i + 1)))] [] (pc_Wr ++ pc_Pi (nI (bs' ++ hxl r i).length) (nI (bs.length + 2)) f2 ++ pc_Di lf pl bl ha ze w wt (prI q) pt kd gr pa) := by
    intro j
    induction j with
    | zero =>
      intro i bs' f2 hj hf2 hl hT'
      have e : i = B := by omega
      subst e
      refine ax_iload G d_Wr_writeHexadecimal_74 rfl ?_
      refine ax_iload G d_Wr_writeHexadecimal_76 rfl ?_
      refine ax_icmp_gt (tgt := 119) G d_Wr_writeHexadecimal_78 (by decide) (fun c_78 => ?_) (fun c_78 => ?_)
      · exact fin _ (bs' ++ hxl r i) f2 hf2 (by rw [List.length_append, hxl_len]; omega) (by rw [List.append_assoc]; exact hT')
      · exact absurd (nI_lt (Nat.lt_succ_self _) (by omega)) c_78
    | succ j ih =>
      intro i bs' f2 hj hf2 hl hT'
      have hlen : (bs' ++ hxl r i).length = bs'.length + i := by rw [List.length_append, hxl_len]
      have put : ∀ (y : Int32), y.toBitVec.toNat % 16 = (if i + 1 ≤ 13 then r / 2 ^ (52 - 4 * (i + 1)) % 16 else 0) → ax_V p l e (ax_rm 5) s m args below meth c D cid ad A 9 0 0 (MQ below Qc args s 0 0 A) 110 [(0, .ref 6), (1, .long (uw s0)), (3, .int x), (4, .ref 5), (5, .int (nI B)), (6, .long (uw r)), (8, .int (nI (i + 1)))] [.int y, .ref 7] (pc_Wr ++ pc_Pi (nI (bs' ++ hxl r i).length) (nI (bs.length + 2)) f2 ++ pc_Di lf pl bl ha ze w wt (prI q) pt kd gr pa) := by
        intro y hy
        refine ax_callV (n := 1) G (ct_Pi_putDigit l (bs' ++ hxl r i) y _ (nI (bs.length + 2)) f2 hf2 (by omega) hy) d_Wr_writeHexadecimal_110 rfl ⟨rfl, rfl, trivial⟩ rfl rfl rfl kc_Pi_putDigit ⟨k_Wr_162, ki_Pi_putDigit, ks_Pi_putDigit, kk_Pi⟩ (by decide +kernel) rfl ⟨by decide, by decide⟩ (Nat.le_of_ble_eq_true rfl) ⟨by decide, by decide⟩ (fun r hc_ hq hk_ => ?_)
        obtain ⟨rfl, f3, rfl, hf3⟩ := hq
        refine ax_iincZ (z := 1) G d_Wr_writeHexadecimal_113 rfl (by decide) (by decide) ?_
        refine ax_goto (tgt := 74) G d_Wr_writeHexadecimal_116 (by decide) ?_
        rw [nI_1]
        have e3 : bs' ++ hxl r i ++ [hx (if i + 1 ≤ 13 then r / 2 ^ (52 - 4 * (i + 1)) % 16 else 0)] = bs' ++ hxl r (i + 1) := by
          unfold hxl; rw [rg_s, List.append_assoc]
        rw [e3] at hf3
        have := ih (i + 1) bs' f3 (by omega) hf3 hl hT'
        rw [← e3] at this
        exact this
      refine ax_iload G d_Wr_writeHexadecimal_74 rfl ?_
      refine ax_iload G d_Wr_writeHexadecimal_76 rfl ?_
      refine ax_icmp_gt (tgt := 119) G d_Wr_writeHexadecimal_78 (by decide) (fun c_78 => ?_) (fun c_78 => ?_)
      · exact absurd c_78 (nI_nlt (by omega) (by omega))
      · refine ax_aload_n G d_Wr_writeHexadecimal_81 rfl rfl ?_
        refine ax_get (ci := 4) (j := 0) G d_Wr_writeHexadecimal_82 rfl rfl (by decide) k_Wr_14 rfl ?_
        refine ax_iload G d_Wr_writeHexadecimal_85 rfl ?_
        refine ax_bipush (v := 13) G d_Wr_writeHexadecimal_87 (by decide) ?_
        refine ax_icmp_gt (tgt := 109) G d_Wr_writeHexadecimal_89 (by decide) (fun c_89 => ?_) (fun c_89 => ?_)
        · have hgt : 13 < i + 1 := (nI_ltI (a := 13) (by decide) (by omega)).mp c_89
          refine ax_iconst (v := 0) G d_Wr_writeHexadecimal_109 (by decide) ?_
          exact put 0 (by rw [if_neg (by omega)]; rfl)
        · have hle : i + 1 ≤ 13 := by
            rcases Nat.lt_or_ge 13 (i + 1) with z | z
            · exact absurd (nI_lt (a := 13) z (by omega)) c_89
            · exact z
          refine ax_lload G d_Wr_writeHexadecimal_92 rfl ?_
          refine ax_bipush (v := 52) G d_Wr_writeHexadecimal_94 (by decide) ?_
          refine ax_iconst (v := 4) G d_Wr_writeHexadecimal_96 (by decide) ?_
          refine ax_iload G d_Wr_writeHexadecimal_97 rfl ?_
          refine ax_imul G d_Wr_writeHexadecimal_99 ?_
          refine ax_isub G d_Wr_writeHexadecimal_100 ?_
          rw [h524 hle]
          refine ax_lushr G d_Wr_writeHexadecimal_101 ?_
          rw [l_ushr r _ (by omega) (by omega)]
          refine ax_l2i G d_Wr_writeHexadecimal_102 ?_
          refine ax_bipush (v := 15) G d_Wr_writeHexadecimal_103 (by decide) ?_
          refine ax_iand G d_Wr_writeHexadecimal_105 ?_
          refine ax_goto (tgt := 110) G d_Wr_writeHexadecimal_106 (by decide) ?_
          refine put _ ?_
          rw [if_pos hle, pk_and _ 4 (by decide)]
          have hlt : r / 2 ^ (52 - 4 * (i + 1)) < 2 ^ 64 := Nat.lt_of_le_of_lt (Nat.div_le_self _ _) (by omega)
          rw [pk_tn (by omega), show (2 : Nat) ^ 4 = 16 from rfl, ul_i, ul_uw hlt, Nat.mod_mod]
  have start2 : ax_V p l e (ax_rm 5) s m args below meth c D cid ad A 9 0 0 (MQ below Qc args s 0 0 A) 23 [(0, .ref 6), (1, .long (uw s0)), (3, .int x), (4, .ref 5), (5, .int (nI B))] [] (pc_Wr ++ pc_Pi (nI bs.length) zp f ++ pc_Di lf pl bl ha ze w wt (prI q) pt kd gr pa) := by
    refine ax_lload_n G d_Wr_writeHexadecimal_23 rfl rfl ?_
    refine ax_iload G d_Wr_writeHexadecimal_24 rfl ?_
    refine ax_callS (n := 2) G (ct_Wr_roundHexadecimal l s0 B hs hB) d_Wr_writeHexadecimal_26 rfl trivial rfl kc_Wr_roundHexadecimal ⟨k_Wr_158, kt_Wr_roundHexadecimal, kk_Wr⟩ (by decide +kernel) rfl ⟨by decide, by decide⟩ (Nat.le_of_ble_eq_true rfl) ⟨by decide, by decide⟩ (fun r hc_ hq hk_ => ?_)
    obtain ⟨rfl, rfl⟩ := hq
    rw [hr2]
    refine ax_lstore G d_Wr_writeHexadecimal_29 (by decide) ?_
    refine ax_aload_n G d_Wr_writeHexadecimal_31 rfl rfl ?_
    refine ax_get (ci := 4) (j := 0) G d_Wr_writeHexadecimal_32 rfl rfl (by decide) k_Wr_14 rfl ?_
    refine ax_ldcS (tx := "0x") (t := 2) G d_Wr_writeHexadecimal_35 (by decide +kernel) ?_
    refine ax_callV (n := 1) G (ct_Pi_putWord l bs 2 zp f hf (by decide) (by show bs.length + 2 ≤ 520; omega)) d_Wr_writeHexadecimal_37 rfl ⟨rfl, rfl, trivial⟩ rfl rfl rfl kc_Pi_putWord ⟨k_Wr_80, ki_Pi_putWord, ks_Pi_putWord, kk_Pi⟩ (by decide +kernel) rfl ⟨by decide, by decide⟩ (Nat.le_of_ble_eq_true rfl) ⟨by decide, by decide⟩ (fun r hc_ hq hk_ => ?_)
    obtain ⟨rfl, f2, rfl, hf2⟩ := hq
    have hl2 : (bs ++ st_wd 2).length = bs.length + 2 := by rw [List.length_append]; rfl
    refine ax_aload_n G d_Wr_writeHexadecimal_40 rfl rfl ?_
    refine ax_get (ci := 4) (j := 0) G d_Wr_writeHexadecimal_41 rfl rfl (by decide) k_Wr_14 rfl ?_
    refine ax_callV (n := 0) G (ct_Pi_letZerosComeHere l _ zp f2) d_Wr_writeHexadecimal_44 rfl ⟨rfl, rfl, trivial⟩ rfl rfl rfl kc_Pi_letZerosComeHere ⟨k_Wr_87, ki_Pi_letZerosComeHere, ks_Pi_letZerosComeHere, kk_Pi⟩ (by decide +kernel) rfl ⟨by decide, by decide⟩ (Nat.le_of_ble_eq_true rfl) ⟨by decide, by decide⟩ (fun r hc_ hq hk_ => ?_)
    obtain ⟨rfl, rfl⟩ := hq
    refine ax_aload_n G d_Wr_writeHexadecimal_47 rfl rfl ?_
    refine ax_get (ci := 4) (j := 0) G d_Wr_writeHexadecimal_48 rfl rfl (by decide) k_Wr_14 rfl ?_
    refine ax_lload G d_Wr_writeHexadecimal_51 rfl ?_
    refine ax_bipush (v := 52) G d_Wr_writeHexadecimal_53 (by decide) ?_
    rw [show (52 : Int32) = nI 52 from rfl]
    refine ax_lushr G d_Wr_writeHexadecimal_55 ?_
    rw [l_ushr r 52 (by omega) (by decide)]
    refine ax_l2i G d_Wr_writeHexadecimal_56 ?_
    refine ax_callV (n := 1) G (ct_Pi_putDigit l (bs ++ st_wd 2) (uw (r / 2 ^ 52)).toInt32 (r / 2 ^ 52 % 16) _ f2 hf2 (by omega) (by rw [ul_i, ul_uw (by omega)])) d_Wr_writeHexadecimal_57 rfl ⟨rfl, rfl, trivial⟩ rfl rfl rfl kc_Pi_putDigit ⟨k_Wr_162, ki_Pi_putDigit, ks_Pi_putDigit, kk_Pi⟩ (by decide +kernel) rfl ⟨by decide, by decide⟩ (Nat.le_of_ble_eq_true rfl) ⟨by decide, by decide⟩ (fun r hc_ hq hk_ => ?_)
    obtain ⟨rfl, f3, rfl, hf3⟩ := hq
    refine ax_aload_n G d_Wr_writeHexadecimal_60 rfl rfl ?_
    refine ax_iload G d_Wr_writeHexadecimal_61 rfl ?_
    refine ax_aload G d_Wr_writeHexadecimal_63 rfl ?_
    refine ax_getN (ci := 1) (j := 3) G d_Wr_writeHexadecimal_65 rfl rfl (by decide) k_Wr_75 rfl ?_
    refine ax_callV (n := 2) G (ct_Wr_putPoint l (bs ++ st_wd 2 ++ [hx (r / 2 ^ 52 % 16)]) B ha _ f3 hf3 (by rw [List.length_append, hl2]; show bs.length + 2 + 1 < 520; omega) (by omega)) d_Wr_writeHexadecimal_68 rfl ⟨rfl, rfl, rfl, trivial⟩ rfl rfl rfl kc_Wr_putPoint ⟨k_Wr_151, ki_Wr_putPoint, ks_Wr_putPoint, kk_Wr⟩ (by decide +kernel) rfl ⟨by decide, by decide⟩ (Nat.le_of_ble_eq_true rfl) ⟨by decide, by decide⟩ (fun r hc_ hq hk_ => ?_)
    obtain ⟨rfl, f4, rfl, hf4⟩ := hq
    refine ax_iconst (v := 1) G d_Wr_writeHexadecimal_71 (by decide) ?_
    refine ax_istore G d_Wr_writeHexadecimal_72 (by decide) ?_
    have hpl := pnt_len B ha
    have := loop B 0 (bs ++ st_wd 2 ++ [hx (r / 2 ^ 52 % 16)] ++ pnt B ha) f4 (by omega) (by show pi_is f4 (_ ++ []); rw [List.append_nil]; exact hf4) (by rw [List.length_append, List.length_append, hl2]; show bs.length + 2 + 1 + _ ≤ 20; omega) (by rw [← hT, List.append_assoc, List.append_assoc, List.append_assoc]; rfl)
    rw [show hxl r 0 = [] from rfl, List.append_nil] at this
    rw [← hl2] at this
    exact this
  refine ax_aload G d_Wr_writeHexadecimal_0 rfl ?_
  refine ax_getN (ci := 1) (j := 7) G d_Wr_writeHexadecimal_2 rfl rfl (by decide) k_Wr_84 rfl ?_
  refine ax_iconst (v := (-1)) G d_Wr_writeHexadecimal_5 (by decide) ?_
  refine ax_icmp_ne (tgt := 16) G d_Wr_writeHexadecimal_6 (by decide) (fun c_6 => ?_) (fun c_6 => ?_)
  · have hqs : q ≠ none := fun z => c_6 ((prI_m1 hq0).mpr z)
    cases q with
    | none => exact absurd rfl hqs
    | some k =>
      have e : k = B := hb2
      subst e
      refine ax_aload G d_Wr_writeHexadecimal_16 rfl ?_
      refine ax_getN (ci := 1) (j := 7) G d_Wr_writeHexadecimal_18 rfl rfl (by decide) k_Wr_84 rfl ?_
      refine ax_istore G d_Wr_writeHexadecimal_21 (by decide) ?_
      exact start2
  · have hqn : q = none := (prI_m1 hq0).mp c_6
    subst hqn
    refine ax_lload_n G d_Wr_writeHexadecimal_9 rfl rfl ?_
    refine ax_callS (n := 1) G (ct_Wr_hexadecimalDigitsOf l s0 hs) d_Wr_writeHexadecimal_10 rfl trivial rfl kc_Wr_hexadecimalDigitsOf ⟨k_Wr_154, kt_Wr_hexadecimalDigitsOf, kk_Wr⟩ (by decide +kernel) rfl ⟨by decide, by decide⟩ (Nat.le_of_ble_eq_true rfl) ⟨by decide, by decide⟩ (fun r hc_ hq hk_ => ?_)
    obtain ⟨rfl, rfl⟩ := hq
    rw [show hxd s0 13 = B from hb2]
    refine ax_goto (tgt := 21) G d_Wr_writeHexadecimal_13 (by decide) ?_
    refine ax_istore G d_Wr_writeHexadecimal_21 (by decide) ?_
    exact start2

