/-! FormatDesk$Writer: writeFloating -/
set_option maxRecDepth 20000 in
set_option maxHeartbeats 1000000 in
theorem ct_Wr_writeFloating (l : Launch) (v : Int64) (kk : Nat) (q : Option Nat) (f : Nat → Int32) (lc dc pt0 : Int32) (lm : Nat → Int64) (dg : Nat → Int32) (lf pl bl ha ze : Bool) (w : Int32) (wt pt gr : Bool) (pa : Int32) (hq0 : ∀ k, q = some k → k ≤ 200) (hkk : kk = 97 ∨ kk = 101 ∨ kk = 102 ∨ kk = 103) : ax_CT l y_Wr_writeFloating c_Wr_writeFloating 10 none 6 [.ref 6, .long v, .ref 5] (pc_Wr ++ pc_Pi (nI 0) (-1) f ++ pc_De lc dc pt0 lm dg ++ pc_Di lf pl bl ha ze w wt (prI q) pt (nI kk) gr pa) (fun r h => r = none ∧ ∃ f' lc' dc' pt' lm' dg', h = pc_Wr ++ pc_Pi (nI (flt pl bl ha q kk v).1.length) (prI (flt pl bl ha q kk v).2) f' ++ pc_De lc' dc' pt' lm' dg' ++ pc_Di lf pl bl ha ze w wt (prI q) pt (nI kk) gr pa ∧ pi_is f' (flt pl bl ha q kk v).1) := by
  refine ax_ofV (by decide) (Nat.le_of_ble_eq_true rfl) ?_
  intro p e s m args below meth c D cid ad A Qc G hr E
  have hE := fE_lt v
  have hF := fF_lt v
  have hS := fS_lt v
  have hU := ul_lt v
  have hsl := sgn_len (decide (v < 0)) pl bl
  have body : ∀ (f2 : Nat → Int32), pi_is f2 (sgn (decide (v < 0)) pl bl) → ax_V p l e (ax_rm 6) s m args below meth c D cid ad A 10 0 0 (MQ below Qc args s 0 0 A) 37 [(0, .ref 6), (1, .long v), (3, .ref 5), (4, .int (nI (fE v))), (5, .long (uw (fF v)))] [] (pc_Wr ++ pc_Pi (nI (sgn (decide (v < 0)) pl bl).length) (-1) f2 ++ pc_De lc dc pt0 lm dg ++ pc_Di lf pl bl ha ze w wt (prI q) pt (nI kk) gr pa) := by
    intro f2 hf2
    unfold flt at E
    generalize sgn (decide (v < 0)) pl bl = sg at *
    refine ax_iload G d_Wr_writeFloating_37 rfl ?_
    refine ax_sipush (v := 2047) G d_Wr_writeFloating_39 (by decide) ?_
    refine ax_icmp_ne (tgt := 67) G d_Wr_writeFloating_42 (by decide) (fun c_42 => ?_) (fun c_42 => ?_)
    · have h7 : ¬ fE v = 2047 := fun z => c_42 (by rw [z]; rfl)
      rw [if_neg h7] at E
      have body2 : ax_V p l e (ax_rm 6) s m args below meth c D cid ad A 10 0 0 (MQ below Qc args s 0 0 A) 83 [(0, .ref 6), (1, .long v), (3, .ref 5), (4, .int (nI (fE v))), (5, .long (uw (fF v)))] [.long (uw (fS v))] (pc_Wr ++ pc_Pi (nI sg.length) (-1) f2 ++ pc_De lc dc pt0 lm dg ++ pc_Di lf pl bl ha ze w wt (prI q) pt (nI kk) gr pa) := by
        refine ax_lstore G d_Wr_writeFloating_83 (by decide) ?_
        refine ax_iload G d_Wr_writeFloating_85 rfl ?_
        refine ax_iconst (v := 1) G d_Wr_writeFloating_87 (by decide) ?_
        refine ax_mmax G d_Wr_writeFloating_88 k_Wr_94 ⟨by decide, by decide⟩ (Nat.le_of_ble_eq_true rfl) ⟨by decide, by decide⟩ ?_
        rw [show (if nI (fE v) < 1 then (1 : Int32) else nI (fE v)) = nI (max (fE v) 1) by
          show (if nI (fE v) < nI 1 then nI 1 else nI (fE v)) = _
          by_cases hz : fE v < 1
          · rw [if_pos (nI_lt hz (by decide)), Nat.max_eq_right (by omega)]
          · rw [if_neg (nI_nlt (by omega) (by omega)), Nat.max_eq_left (by omega)]]
        have eX : (nI (max (fE v) 1) - 1023).toInt = fX v := by
          rw [show (1023 : Int32) = nI 1023 from rfl, pk_sub_toInt (by omega) (by decide)]
          rfl
        have hXb : -1022 ≤ fX v ∧ fX v ≤ 1023 := by unfold fX; omega
        generalize hxx : nI (max (fE v) 1) - 1023 = x at eX
        refine ax_sipush (v := 1023) G d_Wr_writeFloating_91 (by decide) ?_
        refine ax_isub G d_Wr_writeFloating_94 ?_
        rw [hxx]
        refine ax_istore G d_Wr_writeFloating_95 (by decide) ?_
        refine ax_aload_n G d_Wr_writeFloating_97 rfl rfl ?_
        refine ax_getN (ci := 1) (j := 9) G d_Wr_writeFloating_98 rfl rfl (by decide) k_Wr_28 rfl ?_
        refine ax_bipush (v := 97) G d_Wr_writeFloating_101 (by decide) ?_
        refine ax_icmp_ne (tgt := 118) G d_Wr_writeFloating_103 (by decide) (fun c_103 => ?_) (fun c_103 => ?_)
        · have h97 : ¬ kk = 97 := fun z => c_103 (by rw [z]; rfl)
          rw [if_neg h97] at E
          have e52 : (x - 52).toInt = fX v - 52 := by
            rw [i32_sub _ _ (by omega) (by decide), eX]; rfl
          refine ax_aload_n G d_Wr_writeFloating_118 rfl rfl ?_
          refine ax_get (ci := 4) (j := 1) G d_Wr_writeFloating_119 rfl rfl (by decide) k_Wr_21 rfl ?_
          refine ax_lload G d_Wr_writeFloating_122 rfl ?_
          refine ax_iload G d_Wr_writeFloating_124 rfl ?_
          refine ax_bipush (v := 52) G d_Wr_writeFloating_126 (by decide) ?_
          refine ax_isub G d_Wr_writeFloating_128 ?_
          refine ax_callV (n := 2) G (ct_De_become l lc dc pt0 (x - 52) (fS v) lm dg hS (by omega) (by omega)) d_Wr_writeFloating_129 rfl ⟨rfl, rfl, rfl, trivial⟩ rfl rfl rfl kc_De_become ⟨k_Wr_115, ki_De_become, ks_De_become, kk_De⟩ (by decide +kernel) rfl ⟨by decide, by decide⟩ (Nat.le_of_ble_eq_true rfl) ⟨by decide, by decide⟩ (fun r hc_ hq hk_ => ?_)
          obtain ⟨rfl, lc2, n, pt2, lm2, dg2, rfl, hn, hz0, hz1, hd⟩ := hq
          rw [e52] at hz1 hd
          have hnn : n = nN (fS v) (fX v - 52) ∧ pt2 = ptN (fS v) (fX v - 52) ∧ -1100 ≤ pt2.toInt ∧ pt2.toInt ≤ 310 := by
            rcases Nat.eq_zero_or_pos (fS v) with z | z
            · obtain ⟨g1, g2⟩ := hz0 z
              refine ⟨by unfold nN; rw [if_pos z]; exact g1, by unfold ptN; rw [if_pos z]; exact g2, ?_⟩
              rw [g2]; decide
            · obtain ⟨g1, g2⟩ := hz1 z
              have g3 := isN_eq g1 (nN_is z hS (by omega) (by omega))
              have g4 := nN_up z hS (e := fX v - 52) (by omega) (by omega)
              rw [← g3] at g4
              refine ⟨g3, i32_eq ?_, by omega, by omega⟩
              unfold ptN
              rw [if_neg (Nat.ne_of_gt z), ← g3, ofInt_toInt (by omega) (by omega), g2]
          obtain ⟨n1, n2, n3, n4⟩ := hnn
          refine ax_aload_n G d_Wr_writeFloating_132 rfl rfl ?_
          refine ax_aload_n G d_Wr_writeFloating_133 rfl rfl ?_
          refine ax_callV (n := 1) G (ct_Wr_writeDecimal l sg lc2 pt2 n kk q (-1) f2 lm2 dg2 _ lf pl bl ha ze w wt pt gr pa hf2 (by omega) hd hn n3 n4 hq0 (by omega)) d_Wr_writeFloating_134 rfl ⟨rfl, rfl, rfl, rfl, rfl, rfl, rfl, trivial⟩ rfl rfl rfl kc_Wr_writeDecimal ⟨k_Wr_119, ki_Wr_writeDecimal, ks_Wr_writeDecimal, kk_Wr⟩ (by decide +kernel) rfl ⟨by decide, by decide⟩ (Nat.le_of_ble_eq_true rfl) ⟨by decide, by decide⟩ (fun r hc_ hq hk_ => ?_)
          obtain ⟨rfl, f3, lc3, dc3, pt3, lm3, dg3, rfl, hf3⟩ := hq
          subst n1
          subst n2
          exact ax_vret G hr E d_Wr_writeFloating_137 rfl ⟨rfl, f3, lc3, dc3, pt3, lm3, dg3, rfl, hf3⟩
        · have h97 : kk = 97 := (nI_eq (b := 97) (by omega) (by decide)).mp c_103
          rw [if_pos h97] at E
          refine ax_aload_n G d_Wr_writeFloating_106 rfl rfl ?_
          refine ax_lload G d_Wr_writeFloating_107 rfl ?_
          refine ax_iload G d_Wr_writeFloating_109 rfl ?_
          refine ax_aload_n G d_Wr_writeFloating_111 rfl rfl ?_
          refine ax_callV (n := 3) G (ct_Wr_writeHexadecimal l sg (fS v) x q (-1) f2 lf pl bl ha ze w wt pt gr (nI kk) pa hf2 (by omega) hS (by omega) hq0) d_Wr_writeFloating_112 rfl ⟨rfl, rfl, rfl, rfl, trivial⟩ rfl rfl rfl kc_Wr_writeHexadecimal ⟨k_Wr_112, ki_Wr_writeHexadecimal, ks_Wr_writeHexadecimal, kk_Wr⟩ (by decide +kernel) rfl ⟨by decide, by decide⟩ (Nat.le_of_ble_eq_true rfl) ⟨by decide, by decide⟩ (fun r hc_ hq hk_ => ?_)
          obtain ⟨rfl, f3, rfl, hf3⟩ := hq
          rw [eX] at hf3
          refine ax_goto (tgt := 137) G d_Wr_writeFloating_115 (by decide) ?_
          exact ax_vret G hr E d_Wr_writeFloating_137 rfl ⟨rfl, f3, _, _, _, _, _, by rw [eX] <;> rfl, hf3⟩
      have hz : (nI (fE v) = 0) ↔ fE v = 0 := by
        have := nI_eq (a := fE v) (b := 0) (by omega) (by decide)
        rw [nI_0] at this; exact this
      refine ax_iload G d_Wr_writeFloating_67 rfl ?_
      refine ax_if_ne (tgt := 77) G d_Wr_writeFloating_69 (by decide) (fun c_69 => ?_) (fun c_69 => ?_)
      · have h0 : ¬ fE v = 0 := fun z => c_69 (hz.mpr z)
        refine ax_lload G d_Wr_writeFloating_77 rfl ?_
        refine ax_ldc2 G d_Wr_writeFloating_79 k_Wr_110 ?_
        refine ax_lor G d_Wr_writeFloating_82 ?_
        rw [show (4503599627370496 : Int64) = uw (2 ^ 52) from rfl, l_hid _ hF, show fF v + 2 ^ 52 = fS v by unfold fS; rw [if_neg h0]]
        exact body2
      · have h0 : fE v = 0 := hz.mp c_69
        refine ax_lload G d_Wr_writeFloating_72 rfl ?_
        refine ax_goto (tgt := 83) G d_Wr_writeFloating_74 (by decide) ?_
        rw [show uw (fF v) = uw (fS v) by unfold fS; rw [if_pos h0]] at *
        exact body2
    · have h7 : fE v = 2047 := (nI_eq (b := 2047) (by omega) (by decide)).mp c_42
      rw [if_pos h7] at E
      have hz : (lg_cmp (uw (fF v)) 0 = 0) ↔ fF v = 0 := by rw [lg_cmp_eq, ul_0, ul_uw (by omega)]
      refine ax_aload_n G d_Wr_writeFloating_45 rfl rfl ?_
      refine ax_get (ci := 4) (j := 0) G d_Wr_writeFloating_46 rfl rfl (by decide) k_Wr_14 rfl ?_
      refine ax_lload G d_Wr_writeFloating_49 rfl ?_
      refine ax_lconst (v := 0) G d_Wr_writeFloating_51 (by decide) ?_
      refine ax_lcmp G d_Wr_writeFloating_52 ?_
      refine ax_if_ne (tgt := 61) G d_Wr_writeFloating_53 (by decide) (fun c_53 => ?_) (fun c_53 => ?_)
      · have h0 : ¬ fF v = 0 := fun z => c_53 (hz.mpr z)
        rw [if_neg h0] at E
        refine ax_ldcS (tx := "nan") (t := 4) G d_Wr_writeFloating_61 (by decide +kernel) ?_
        refine ax_callV (n := 1) G (ct_Pi_putWord l sg 4 (-1) f2 hf2 (by decide) (by show sg.length + 3 ≤ 520; omega)) d_Wr_writeFloating_63 rfl ⟨rfl, rfl, trivial⟩ rfl rfl rfl kc_Pi_putWord ⟨k_Wr_80, ki_Pi_putWord, ks_Pi_putWord, kk_Pi⟩ (by decide +kernel) rfl ⟨by decide, by decide⟩ (Nat.le_of_ble_eq_true rfl) ⟨by decide, by decide⟩ (fun r hc_ hq hk_ => ?_)
        obtain ⟨rfl, f3, rfl, hf3⟩ := hq
        exact ax_vret G hr E d_Wr_writeFloating_66 rfl ⟨rfl, f3, _, _, _, _, _, rfl, hf3⟩
      · have h0 : fF v = 0 := hz.mp c_53
        rw [if_pos h0] at E
        refine ax_ldcS (tx := "inf") (t := 3) G d_Wr_writeFloating_56 (by decide +kernel) ?_
        refine ax_goto (tgt := 63) G d_Wr_writeFloating_58 (by decide) ?_
        refine ax_callV (n := 1) G (ct_Pi_putWord l sg 3 (-1) f2 hf2 (by decide) (by show sg.length + 3 ≤ 520; omega)) d_Wr_writeFloating_63 rfl ⟨rfl, rfl, trivial⟩ rfl rfl rfl kc_Pi_putWord ⟨k_Wr_80, ki_Pi_putWord, ks_Pi_putWord, kk_Pi⟩ (by decide +kernel) rfl ⟨by decide, by decide⟩ (Nat.le_of_ble_eq_true rfl) ⟨by decide, by decide⟩ (fun r hc_ hq hk_ => ?_)
        obtain ⟨rfl, f3, rfl, hf3⟩ := hq
        exact ax_vret G hr E d_Wr_writeFloating_66 rfl ⟨rfl, f3, _, _, _, _, _, rfl, hf3⟩
  refine ax_lload_n G d_Wr_writeFloating_0 rfl rfl ?_
  refine ax_bipush (v := 52) G d_Wr_writeFloating_1 (by decide) ?_
  rw [show (52 : Int32) = nI 52 from rfl]
  rw [← uw_ul v]
  refine ax_lushr G d_Wr_writeFloating_3 ?_
  rw [l_ushr (ul v) 52 hU (by decide)]
  refine ax_l2i G d_Wr_writeFloating_4 ?_
  rw [show (uw (ul v / 2 ^ 52)).toInt32 = nI (ul v / 2 ^ 52) from by rw [uw_lN, lN_i]]
  refine ax_sipush (v := 2047) G d_Wr_writeFloating_5 (by decide) ?_
  refine ax_iand G d_Wr_writeFloating_8 ?_
  rw [pk_andN (k := 11) (by omega) (by decide), show ul v / 2 ^ 52 % 2 ^ 11 = fE v from rfl]
  rw [uw_ul v]
  refine ax_istore G d_Wr_writeFloating_9 (by decide) ?_
  refine ax_lload_n G d_Wr_writeFloating_11 rfl rfl ?_
  refine ax_ldc2 G d_Wr_writeFloating_12 k_Wr_104 ?_
  refine ax_land G d_Wr_writeFloating_15 ?_
  rw [l_mask v _ 52 (by decide +kernel), show ul v % 2 ^ 52 = fF v from rfl]
  refine ax_lstore G d_Wr_writeFloating_16 (by decide) ?_
  refine ax_aload_n G d_Wr_writeFloating_18 rfl rfl ?_
  refine ax_get (ci := 4) (j := 0) G d_Wr_writeFloating_19 rfl rfl (by decide) k_Wr_14 rfl ?_
  refine ax_lload_n G d_Wr_writeFloating_22 rfl rfl ?_
  refine ax_lconst (v := 0) G d_Wr_writeFloating_23 (by decide) ?_
  refine ax_lcmp G d_Wr_writeFloating_24 ?_
  refine ax_if_ge (tgt := 32) G d_Wr_writeFloating_25 (by decide) (fun c_25 => ?_) (fun c_25 => ?_)
  · have hv : decide (v < 0) = false := decide_eq_false (Int64.not_lt.mpr ((lg_cmp_ge v 0).mp c_25))
    refine ax_iconst (v := 0) G d_Wr_writeFloating_32 (by decide) ?_
    refine ax_aload_n G d_Wr_writeFloating_33 rfl rfl ?_
    refine ax_callV (n := 2) G (ct_Pi_putSign l [] false (-1) f lf pl bl ha ze w wt (prI q) pt (nI kk) gr pa (pi_nil f) (by decide)) d_Wr_writeFloating_34 rfl ⟨rfl, rfl, rfl, trivial⟩ rfl rfl rfl kc_Pi_putSign ⟨k_Wr_68, ki_Pi_putSign, ks_Pi_putSign, kk_Pi⟩ (by decide +kernel) rfl ⟨by decide, by decide⟩ (Nat.le_of_ble_eq_true rfl) ⟨by decide, by decide⟩ (fun r hc_ hq hk_ => ?_)
    obtain ⟨rfl, h1, rfl, f2, rfl, hf2⟩ := hq
    rw [List.nil_append] at hf2
    rw [hv] at body
    exact body f2 hf2
  · have hv : decide (v < 0) = true := decide_eq_true (Int64.not_le.mp (fun z => c_25 ((lg_cmp_ge v 0).mpr z)))
    refine ax_iconst (v := 1) G d_Wr_writeFloating_28 (by decide) ?_
    refine ax_goto (tgt := 33) G d_Wr_writeFloating_29 (by decide) ?_
    refine ax_aload_n G d_Wr_writeFloating_33 rfl rfl ?_
    refine ax_callV (n := 2) G (ct_Pi_putSign l [] true (-1) f lf pl bl ha ze w wt (prI q) pt (nI kk) gr pa (pi_nil f) (by decide)) d_Wr_writeFloating_34 rfl ⟨rfl, rfl, rfl, trivial⟩ rfl rfl rfl kc_Pi_putSign ⟨k_Wr_68, ki_Pi_putSign, ks_Pi_putSign, kk_Pi⟩ (by decide +kernel) rfl ⟨by decide, by decide⟩ (Nat.le_of_ble_eq_true rfl) ⟨by decide, by decide⟩ (fun r hc_ hq hk_ => ?_)
    obtain ⟨rfl, h1, rfl, f2, rfl, hf2⟩ := hq
    rw [List.nil_append] at hf2
    rw [hv] at body
    exact body f2 hf2

