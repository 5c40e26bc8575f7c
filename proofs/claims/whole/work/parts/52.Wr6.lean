/-! FormatDesk$Writer: write -/
set_option maxRecDepth 20000 in
set_option maxHeartbeats 1000000 in
theorem ct_Wr_write (l : Launch) (v : Int64) (kk : Nat) (q : Option Nat) (sz zp : Int32) (f : Nat → Int32) (lc dc pt0 : Int32) (lm : Nat → Int64) (dg : Nat → Int32) (lf pl bl ha ze : Bool) (w : Int32) (wt pt gr : Bool) (pa : Int32) (hq0 : ∀ k, q = some k → k ≤ 200) (hkk : isS kk) : ax_CT l y_Wr_write c_Wr_write 4 none 7 [.ref 6, .long v, .ref 5] (pc_Wr ++ pc_Pi sz zp f ++ pc_De lc dc pt0 lm dg ++ pc_Di lf pl bl ha ze w wt (prI q) pt (nI kk) gr pa) (fun r h => r = none ∧ ∃ f' lc' dc' pt' lm' dg', h = pc_Wr ++ pc_Pi (nI (pcG gr (pcs pl bl ha q kk v).1).length) (prI (pcs pl bl ha q kk v).2) f' ++ pc_De lc' dc' pt' lm' dg' ++ pc_Di lf pl bl ha ze w wt (prI q) pt (nI kk) gr pa ∧ pi_is f' (pcG gr (pcs pl bl ha q kk v).1)) := by
  refine ax_ofV (by decide) (Nat.le_of_ble_eq_true rfl) ?_
  intro p e s m args below meth c D cid ad A Qc G hr E
  have hL := pcs_len pl bl ha q kk v hq0
  have fin : ∀ (lv3 : List (Nat × Value)) (zp2 : Int32) (f2 : Nat → Int32) (lc dc pt0 : Int32) (lm : Nat → Int64) (dg : Nat → Int32), zp2 = prI (pcs pl bl ha q kk v).2 → pi_is f2 (pcs pl bl ha q kk v).1 → ax_V p l e (ax_rm 7) s m args below meth c D cid ad A 4 0 0 (MQ below Qc args s 0 0 A) 144 [(0, .ref 6), (1, .long v), (3, .ref 5)] [] (pc_Wr ++ pc_Pi (nI (pcs pl bl ha q kk v).1.length) zp2 f2 ++ pc_De lc dc pt0 lm dg ++ pc_Di lf pl bl ha ze w wt (prI q) pt (nI kk) gr pa) := by
    intro lv3 zp2 f2 lc dc pt0 lm dg hz hf2
    subst hz
    generalize pcs pl bl ha q kk v = P at *
    cases gr with
    | false =>
      refine ax_aload_n G d_Wr_write_144 rfl rfl ?_
      refine ax_getN (ci := 1) (j := 10) G d_Wr_write_145 rfl rfl (by decide) k_Wr_53 rfl ?_
      refine ax_if_eq (tgt := 158) G d_Wr_write_148 (by decide) (fun c_148 => ?_) (fun c_148 => ?_)
      · exact ax_vret G hr E d_Wr_write_158 rfl ⟨rfl, f2, _, _, _, _, _, rfl, hf2⟩
      · exact absurd rfl c_148
    | true =>
      refine ax_aload_n G d_Wr_write_144 rfl rfl ?_
      refine ax_getN (ci := 1) (j := 10) G d_Wr_write_145 rfl rfl (by decide) k_Wr_53 rfl ?_
      refine ax_if_eq (tgt := 158) G d_Wr_write_148 (by decide) (fun c_148 => ?_) (fun c_148 => ?_)
      · exact absurd c_148 (by decide)
      · refine ax_aload_n G d_Wr_write_151 rfl rfl ?_
        refine ax_get (ci := 4) (j := 0) G d_Wr_write_152 rfl rfl (by decide) k_Wr_14 rfl ?_
        refine ax_callV (n := 0) G (ct_Pi_becomeGreat l P.1 (prI P.2) f2 hf2 hL) d_Wr_write_155 rfl ⟨rfl, rfl, trivial⟩ rfl rfl rfl kc_Pi_becomeGreat ⟨k_Wr_57, ki_Pi_becomeGreat, ks_Pi_becomeGreat, kk_Pi⟩ (by decide +kernel) rfl ⟨by decide, by decide⟩ (Nat.le_of_ble_eq_true rfl) ⟨by decide, by decide⟩ (fun r hc_ hq hk_ => ?_)
        obtain ⟨rfl, f3, rfl, hf3⟩ := hq
        exact ax_vret G hr E d_Wr_write_158 rfl ⟨rfl, f3, _, _, _, _, _, rfl, hf3⟩
  have fl : (kk = 97 ∨ kk = 101 ∨ kk = 102 ∨ kk = 103) → ax_V p l e (ax_rm 7) s m args below meth c D cid ad A 4 0 0 (MQ below Qc args s 0 0 A) 138 [(0, .ref 6), (1, .long v), (3, .ref 5)] [] (pc_Wr ++ pc_Pi 0 (-1) f ++ pc_De lc dc pt0 lm dg ++ pc_Di lf pl bl ha ze w wt (prI q) pt (nI kk) gr pa) := by
    intro h4
    have ep : pcs pl bl ha q kk v = flt pl bl ha q kk v := by
      unfold pcs
      rw [if_neg (by omega), if_neg (by omega), if_neg (by omega), if_neg (by omega), if_neg (by omega), if_neg (by omega)]
    refine ax_aload_n G d_Wr_write_138 rfl rfl ?_
    refine ax_lload_n G d_Wr_write_139 rfl rfl ?_
    refine ax_aload_n G d_Wr_write_140 rfl rfl ?_
    refine ax_callV (n := 2) G (ct_Wr_writeFloating l v kk q f lc dc pt0 lm dg lf pl bl ha ze w wt pt gr pa hq0 h4) d_Wr_write_141 rfl ⟨rfl, rfl, rfl, rfl, rfl, rfl, rfl, trivial⟩ rfl rfl rfl kc_Wr_writeFloating ⟨k_Wr_50, ki_Wr_writeFloating, ks_Wr_writeFloating, kk_Wr⟩ (by decide +kernel) rfl ⟨by decide, by decide⟩ (Nat.le_of_ble_eq_true rfl) ⟨by decide, by decide⟩ (fun r hc_ hq hk_ => ?_)
    obtain ⟨rfl, f2, lc2, dc2, pt2, lm2, dg2, rfl, hf2⟩ := hq
    rw [← ep] at hf2 ⊢
    exact fin [] _ f2 lc2 dc2 pt2 lm2 dg2 rfl hf2
  have us : ∀ b, (b = 8 ∨ b = 10 ∨ b = 16) → pcs pl bl ha q kk v = (pre0x b ha (ul v) ++ wl (ul v) b (ndg (ul v) b q ha), if q = none then some (pre0x b ha (ul v)).length else none) → ∀ f2, pi_is f2 (pre0x b ha (ul v) ++ wl (ul v) b (ndg (ul v) b q ha)) → ax_V p l e (ax_rm 7) s m args below meth c D cid ad A 4 0 0 (MQ below Qc args s 0 0 A) 144 [(0, .ref 6), (1, .long v), (3, .ref 5)] [] (pc_Wr ++ pc_Pi (nI (pre0x b ha (ul v) ++ wl (ul v) b (ndg (ul v) b q ha)).length) (if q = none then nI (pre0x b ha (ul v)).length else -1) f2 ++ pc_De lc dc pt0 lm dg ++ pc_Di lf pl bl ha ze w wt (prI q) pt (nI kk) gr pa) := by
    intro b hb ep f2 hf2
    have := fin [] _ f2 lc dc pt0 lm dg rfl (by rw [ep]; exact hf2)
    rw [ep] at this
    rw [prI_if]
    exact this
  have uns := fun (b k : Nat) (hb : b = 8 ∨ b = 10 ∨ b = 16) => ct_Wr_writeUnsigned l (ul v) b q (-1) f lf pl bl ha ze w wt pt gr (nI k) pa (ul_lt v) hb hq0
  rw [uw_ul] at uns
  refine ax_aload_n G d_Wr_write_0 rfl rfl ?_
  refine ax_get (ci := 4) (j := 0) G d_Wr_write_1 rfl rfl (by decide) k_Wr_14 rfl ?_
  refine ax_callV (n := 0) G (ct_Pi_becomeEmpty l sz zp f) d_Wr_write_4 rfl ⟨rfl, rfl, trivial⟩ rfl rfl rfl kc_Pi_becomeEmpty ⟨k_Wr_25, ki_Pi_becomeEmpty, ks_Pi_becomeEmpty, kk_Pi⟩ (by decide +kernel) rfl ⟨by decide, by decide⟩ (Nat.le_of_ble_eq_true rfl) ⟨by decide, by decide⟩ (fun r hc_ hq hk_ => ?_)
  obtain ⟨rfl, rfl⟩ := hq
  refine ax_aload_n G d_Wr_write_7 rfl rfl ?_
  refine ax_getN (ci := 1) (j := 9) G d_Wr_write_8 rfl rfl (by decide) k_Wr_28 rfl ?_
  rcases hkk with h | h | h | h | h | h | h | h | h | h | h <;> subst h
  · refine ax_lookup (tgt := 76) (off := 65) G d_Wr_write_11 (by decide) (by decide) (by decide) ?_
    refine ax_aload_n G d_Wr_write_76 rfl rfl ?_
    refine ax_get (ci := 4) (j := 0) G d_Wr_write_77 rfl rfl (by decide) k_Wr_14 rfl ?_
    refine ax_bipush (v := 37) G d_Wr_write_80 (by decide) ?_
    refine ax_callV (n := 1) G (ct_Pi_put l [] 37 (-1) f (pi_nil f) (by decide) (by decide)) d_Wr_write_82 rfl ⟨rfl, rfl, trivial⟩ rfl rfl rfl kc_Pi_put ⟨k_Wr_34, ki_Pi_put, ks_Pi_put, kk_Pi⟩ (by decide +kernel) rfl ⟨by decide, by decide⟩ (Nat.le_of_ble_eq_true rfl) ⟨by decide, by decide⟩ (fun r hc_ hq hk_ => ?_)
    obtain ⟨rfl, f2, rfl, hf2⟩ := hq
    refine ax_goto (tgt := 144) G d_Wr_write_85 (by decide) ?_
    exact fin [] _ f2 lc dc pt0 lm dg rfl hf2
  · refine ax_lookup (tgt := 88) (off := 77) G d_Wr_write_11 (by decide) (by decide) (by decide) ?_
    refine ax_aload_n G d_Wr_write_88 rfl rfl ?_
    refine ax_lload_n G d_Wr_write_89 rfl rfl ?_
    refine ax_callV (n := 1) G (ct_Wr_writeLetter l [] v (-1) f (pi_nil f) (by decide)) d_Wr_write_90 rfl ⟨rfl, rfl, rfl, trivial⟩ rfl rfl rfl kc_Wr_writeLetter ⟨k_Wr_38, ki_Wr_writeLetter, ks_Wr_writeLetter, kk_Wr⟩ (by decide +kernel) rfl ⟨by decide, by decide⟩ (Nat.le_of_ble_eq_true rfl) ⟨by decide, by decide⟩ (fun r hc_ hq hk_ => ?_)
    obtain ⟨rfl, f2, rfl, hf2⟩ := hq
    refine ax_goto (tgt := 144) G d_Wr_write_93 (by decide) ?_
    exact fin [] _ f2 lc dc pt0 lm dg rfl hf2
  · have ep : pcs pl bl ha q 100 v = (sgn (decide (v < 0)) pl bl ++ wl (ul (if v < 0 then -v else v)) 10 (ndg (ul (if v < 0 then -v else v)) 10 q ha), if q = none then some (sgn (decide (v < 0)) pl bl).length else none) := rfl
    refine ax_lookup (tgt := 96) (off := 85) G d_Wr_write_11 (by decide) (by decide) (by decide) ?_
    refine ax_aload_n G d_Wr_write_96 rfl rfl ?_
    refine ax_lload_n G d_Wr_write_97 rfl rfl ?_
    refine ax_aload_n G d_Wr_write_98 rfl rfl ?_
    refine ax_callV (n := 2) G (ct_Wr_writeSigned l v q (-1) f lf pl bl ha ze w wt pt gr (nI 100) pa hq0) d_Wr_write_99 rfl ⟨rfl, rfl, rfl, rfl, trivial⟩ rfl rfl rfl kc_Wr_writeSigned ⟨k_Wr_42, ki_Wr_writeSigned, ks_Wr_writeSigned, kk_Wr⟩ (by decide +kernel) rfl ⟨by decide, by decide⟩ (Nat.le_of_ble_eq_true rfl) ⟨by decide, by decide⟩ (fun r hc_ hq hk_ => ?_)
    obtain ⟨rfl, f2, rfl, hf2⟩ := hq
    rw [prI_if]
    refine ax_goto (tgt := 144) G d_Wr_write_102 (by decide) ?_
    exact fin [] _ f2 lc dc pt0 lm dg rfl hf2
  · refine ax_lookup (tgt := 96) (off := 85) G d_Wr_write_11 (by decide) (by decide) (by decide) ?_
    refine ax_aload_n G d_Wr_write_96 rfl rfl ?_
    refine ax_lload_n G d_Wr_write_97 rfl rfl ?_
    refine ax_aload_n G d_Wr_write_98 rfl rfl ?_
    refine ax_callV (n := 2) G (ct_Wr_writeSigned l v q (-1) f lf pl bl ha ze w wt pt gr (nI 105) pa hq0) d_Wr_write_99 rfl ⟨rfl, rfl, rfl, rfl, trivial⟩ rfl rfl rfl kc_Wr_writeSigned ⟨k_Wr_42, ki_Wr_writeSigned, ks_Wr_writeSigned, kk_Wr⟩ (by decide +kernel) rfl ⟨by decide, by decide⟩ (Nat.le_of_ble_eq_true rfl) ⟨by decide, by decide⟩ (fun r hc_ hq hk_ => ?_)
    obtain ⟨rfl, f2, rfl, hf2⟩ := hq
    rw [prI_if]
    refine ax_goto (tgt := 144) G d_Wr_write_102 (by decide) ?_
    exact fin [] _ f2 lc dc pt0 lm dg rfl hf2
  · refine ax_lookup (tgt := 116) (off := 105) G d_Wr_write_11 (by decide) (by decide) (by decide) ?_
    refine ax_aload_n G d_Wr_write_116 rfl rfl ?_
    refine ax_lload_n G d_Wr_write_117 rfl rfl ?_
    refine ax_bipush (v := 8) G d_Wr_write_118 (by decide) ?_
    refine ax_aload_n G d_Wr_write_120 rfl rfl ?_
    refine ax_callV (n := 3) G (uns 8 111 (by decide)) d_Wr_write_121 rfl ⟨rfl, rfl, rfl, rfl, trivial⟩ rfl rfl rfl kc_Wr_writeUnsigned ⟨k_Wr_46, ki_Wr_writeUnsigned, ks_Wr_writeUnsigned, kk_Wr⟩ (by decide +kernel) rfl ⟨by decide, by decide⟩ (Nat.le_of_ble_eq_true rfl) ⟨by decide, by decide⟩ (fun r hc_ hq hk_ => ?_)
    obtain ⟨rfl, f2, rfl, hf2⟩ := hq
    refine ax_goto (tgt := 144) G d_Wr_write_124 (by decide) ?_
    exact us 8 (by decide) rfl f2 hf2
  · refine ax_lookup (tgt := 105) (off := 94) G d_Wr_write_11 (by decide) (by decide) (by decide) ?_
    refine ax_aload_n G d_Wr_write_105 rfl rfl ?_
    refine ax_lload_n G d_Wr_write_106 rfl rfl ?_
    refine ax_bipush (v := 10) G d_Wr_write_107 (by decide) ?_
    refine ax_aload_n G d_Wr_write_109 rfl rfl ?_
    refine ax_callV (n := 3) G (uns 10 117 (by decide)) d_Wr_write_110 rfl ⟨rfl, rfl, rfl, rfl, trivial⟩ rfl rfl rfl kc_Wr_writeUnsigned ⟨k_Wr_46, ki_Wr_writeUnsigned, ks_Wr_writeUnsigned, kk_Wr⟩ (by decide +kernel) rfl ⟨by decide, by decide⟩ (Nat.le_of_ble_eq_true rfl) ⟨by decide, by decide⟩ (fun r hc_ hq hk_ => ?_)
    obtain ⟨rfl, f2, rfl, hf2⟩ := hq
    refine ax_goto (tgt := 144) G d_Wr_write_113 (by decide) ?_
    exact us 10 (by decide) rfl f2 hf2
  · refine ax_lookup (tgt := 127) (off := 116) G d_Wr_write_11 (by decide) (by decide) (by decide) ?_
    refine ax_aload_n G d_Wr_write_127 rfl rfl ?_
    refine ax_lload_n G d_Wr_write_128 rfl rfl ?_
    refine ax_bipush (v := 16) G d_Wr_write_129 (by decide) ?_
    refine ax_aload_n G d_Wr_write_131 rfl rfl ?_
    refine ax_callV (n := 3) G (uns 16 120 (by decide)) d_Wr_write_132 rfl ⟨rfl, rfl, rfl, rfl, trivial⟩ rfl rfl rfl kc_Wr_writeUnsigned ⟨k_Wr_46, ki_Wr_writeUnsigned, ks_Wr_writeUnsigned, kk_Wr⟩ (by decide +kernel) rfl ⟨by decide, by decide⟩ (Nat.le_of_ble_eq_true rfl) ⟨by decide, by decide⟩ (fun r hc_ hq hk_ => ?_)
    obtain ⟨rfl, f2, rfl, hf2⟩ := hq
    refine ax_goto (tgt := 144) G d_Wr_write_135 (by decide) ?_
    exact us 16 (by decide) rfl f2 hf2
  · refine ax_lookup (tgt := 138) (off := 127) G d_Wr_write_11 (by decide) (by decide) (by decide) ?_
    exact fl (by decide)
  · refine ax_lookup (tgt := 138) (off := 127) G d_Wr_write_11 (by decide) (by decide) (by decide) ?_
    exact fl (by decide)
  · refine ax_lookup (tgt := 138) (off := 127) G d_Wr_write_11 (by decide) (by decide) (by decide) ?_
    exact fl (by decide)
  · refine ax_lookup (tgt := 138) (off := 127) G d_Wr_write_11 (by decide) (by decide) (by decide) ?_
    exact fl (by decide)

