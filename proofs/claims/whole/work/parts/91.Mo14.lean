/-! FormatDeskModel: real, piece -/
set_option maxRecDepth 20000 in
set_option maxHeartbeats 1000000 in
theorem ct_Mo_real (l : Launch) (L : Nat) (v : Int64) (q : Option Nat) (tf bf dd oo : Nat → Int32) (er : Int32) (le : Int32) (ma : Int32) (ou : Int32) (ta : Int32) (di : Int32) (wr : Int32) (at0 : Int32) (wi : Int32) (lf : Bool) (pl : Bool) (bl : Bool) (ha : Bool) (ze : Bool) (wt : Bool) (pt : Bool) (ct : Int32) (po : Int32) (hq0 : ∀ k, q = some k → k ≤ 200) (hL : L = 101 ∨ L = 69 ∨ L = 102 ∨ L = 70 ∨ L = 103 ∨ L = 71 ∨ L = 97 ∨ L = 65) : ax_CT l y_Mo_real c_Mo_real 11 none 4 [.ref 20, .int (nI L), .long v] (pc_Mo er le ma ou ta di wr at0 wi (prI q) lf pl bl ha ze wt pt (nI 0) (nI 0) false ct po ++ pcT tf ++ pcB bf ++ pcD dd ++ pcO oo) (fun r h => r = none ∧ ∃ tf' bf' dd' oo' zs' ct' po' F B, h = pc_Mo er le ma ou ta di wr at0 wi (prI q) lf pl bl ha ze wt pt (nI F.length) (nI B.length) zs' ct' po' ++ pcT tf' ++ pcB bf' ++ pcD dd' ++ pcO oo' ∧ mi_is tf' F ∧ mi_is bf' B ∧ F.length ≤ 4 ∧ B.length ≤ 2600 ∧ F ++ B = pcG (grt L) (flt pl bl ha q (sml L) v).1 ∧ zs' = fzs lf ze (flt pl bl ha q (sml L) v).2 ∧ (zs' = true → (flt pl bl ha q (sml L) v).2 = some F.length)) := by
  refine ax_ofV (by decide) (Nat.le_of_ble_eq_true rfl) ?_
  intro p e s m args below meth c D cid ad A Qc G hr E
  have hE := fE_lt v
  have hS := fS_lt v
  have hU := ul_lt v
  have hXb := fX_b v
  have hFl0 := flt_len pl bl ha q (sml L) v hq0
  generalize hFl : flt pl bl ha q (sml L) v = fl at E hFl0
  generalize hgr : grt L = gr at E
  generalize hkk : sml L = kk at hFl
  have hk4 : kk = 97 ∨ kk = 101 ∨ kk = 102 ∨ kk = 103 := by rw [← hkk]; rcases hL with h | h | h | h | h | h | h | h <;> rw [h] <;> decide
  have hsl := sgn_len (decide (v < 0)) pl bl
  have hsg := sgn_lo (decide (v < 0)) pl bl
  unfold flt at hFl
  generalize hsgn : sgn (decide (v < 0)) pl bl = sg at hFl hsl hsg
  have hbl : ∀ F B : List Nat, F ++ B = pcG gr fl.1 → B.length ≤ 2600 := by
    intro F B h
    have := congrArg List.length h
    rw [List.length_append, pcG_len] at this
    omega
  have wrd : ∀ (t : Nat) (W : List Nat) (tf2 : Nat → Int32) (lv : List (Nat × Value)), t < 8 → ax_len.getD t 0 = 3 → W.length = 3 → (∀ i, i < 3 → (ax_byt.getD t []).getD i 0 = nI (W.getD i 0) ∧ W.getD i 0 < 256) → mi_is tf2 sg → fl.2 = none → sg ++ W = pcG gr fl.1 → ax_lsb [(0, .ref 20)] lv → ax_V p l e (ax_rm 4) s m args below meth c D cid ad A 11 0 0 (MQ below Qc args s 0 0 A) 103 lv [.ref (100 + t)] (pc_Mo er le ma ou ta di wr at0 wi (prI q) lf pl bl ha ze wt pt (nI sg.length) (nI 0) false ct po ++ pcT tf2 ++ pcB bf ++ pcD dd ++ pcO oo) := by
    intro t W tf2 lv ht hlen hW hby htf hz hfl hlv
    refine ax_less (lv' := [(0, .ref 20)]) ?_ hlv
    have loop : ∀ (k i : Nat) (b2 : Nat → Int32), i + k = 3 → mi_is b2 (W.take i) → ax_V p l e (ax_rm 4) s m args below meth c D cid ad A 11 0 0 (MQ below Qc args s 0 0 A) 108 [(0, .ref 20), (9, .ref (100 + t)), (10, .int (nI i))] [] (pc_Mo er le ma ou ta di wr at0 wi (prI q) lf pl bl ha ze wt pt (nI sg.length) (nI (W.take i).length) false ct po ++ pcT tf2 ++ pcB b2 ++ pcD dd ++ pcO oo) := by
      intro k
      induction k with
      | zero =>
        intro i b2 hi hb
        have ei : i = 3 := by omega
        subst ei
        rw [List.take_of_length_le (by omega)] at hb ⊢
        refine ax_iload G d_Mo_real_108 rfl ?_
        refine ax_iconst (v := 3) G d_Mo_real_110 (by decide) ?_
        refine ax_icmp_ge (tgt := 131) G d_Mo_real_111 (by decide) (fun c_111 => ?_) (fun c_111 => ?_)
        · exact ax_vret G hr E d_Mo_real_131 rfl ⟨rfl, tf2, b2, dd, oo, false, ct, po, sg, W, rfl, htf, hb, by omega, by omega, hfl, by rw [hz]; exact fzs_0 lf ze, fun z => by cases z⟩
        · exact absurd (nI_le (Nat.le_refl 3) (by decide)) c_111
      | succ k ih =>
        intro i b2 hi hb
        have hl : (W.take i).length = i := by rw [List.length_take]; omega
        refine ax_iload G d_Mo_real_108 rfl ?_
        refine ax_iconst (v := 3) G d_Mo_real_110 (by decide) ?_
        refine ax_icmp_ge (tgt := 131) G d_Mo_real_111 (by decide) (fun c_111 => ?_) (fun c_111 => ?_)
        · exact absurd c_111 (nI_ge (b := 3) (by omega) (by decide))
        · refine ax_aload_n G d_Mo_real_114 rfl rfl ?_
          refine ax_aload G d_Mo_real_115 rfl ?_
          refine ax_iload G d_Mo_real_117 rfl ?_
          refine ax_callK (n := 1) G ht (ct_St_charAt l t i ht (by rw [hlen]; omega)) d_Mo_real_119 rfl trivial rfl kc_St_charAt ⟨k_Mo_108, ki_St_charAt, ks_St_charAt, kk_St⟩ (by decide +kernel) rfl ⟨by decide, by decide⟩ (Nat.le_of_ble_eq_true rfl) ⟨by decide, by decide⟩ (fun r hc_ hq hk_ => ?_)
          obtain ⟨rfl, rfl⟩ := hq
          rw [(hby i (by omega)).1]
          refine ax_callV (n := 1) G (ct_Mo_add l (W.take i) (W.getD i 0) b2 _ _ _ _ _ _ _ _ _ _ _ _ _ _ _ _ _ _ _ _ _ hb (by omega) (hby i (by omega)).2) d_Mo_real_122 rfl ⟨rfl, rfl, trivial⟩ rfl rfl rfl kc_Mo_add ⟨k_Mo_162, ki_Mo_add, ks_Mo_add, kk_Mo⟩ (by decide +kernel) rfl ⟨by decide, by decide⟩ (Nat.le_of_ble_eq_true rfl) ⟨by decide, by decide⟩ (fun r hc_ hq hk_ => ?_)
          obtain ⟨rfl, b3, rfl, hb3⟩ := hq
          rw [← tk_s (by omega)] at hb3 ⊢
          refine ax_iincZ (z := 1) G d_Mo_real_125 rfl (by decide) (by decide) ?_
          refine ax_goto (tgt := 108) G d_Mo_real_128 (by decide) ?_
          rw [nI_1]
          exact ih (i + 1) b3 (by omega) hb3
    refine ax_astore G d_Mo_real_103 (by decide) ?_
    refine ax_iconst (v := 0) G d_Mo_real_105 (by decide) ?_
    refine ax_istore G d_Mo_real_106 (by decide) ?_
    exact loop 3 0 bf rfl (by rw [List.take_zero]; exact mi_nil bf)
  have h0E : (nI (fE v) = 0) ↔ fE v = 0 := by
    have := nI_eq (a := fE v) (b := 0) (by omega) (by decide)
    rw [nI_0] at this; exact this
  -- the decimal kinds
  have dec : fE v ≠ 2047 → kk ≠ 97 → ∀ (tf2 : Nat → Int32), mi_is tf2 sg → ax_V p l e (ax_rm 4) s m args below meth c D cid ad A 11 0 0 (MQ below Qc args s 0 0 A) 174 [(0, .ref 20), (2, .long v), (4, .int (zb gr)), (5, .int (nI kk)), (6, .int (nI (fE v))), (7, .long (uw (fF v)))] [] (pc_Mo er le ma ou ta di wr at0 wi (prI q) lf pl bl ha ze wt pt (nI sg.length) (nI 0) (ze && !lf) ct po ++ pcT tf2 ++ pcB bf ++ pcD dd ++ pcO oo) := by
    intro hE7 hk97 tf2 htf
    rw [if_neg hE7, if_neg hk97] at hFl
    have dc : ∀ (x : Int32) (lv : List (Nat × Value)), x.toInt = fX v - 52 → ax_lsb [(0, .ref 20), (4, .int (zb gr)), (5, .int (nI kk))] lv → ax_V p l e (ax_rm 4) s m args below meth c D cid ad A 11 0 0 (MQ below Qc args s 0 0 A) 208 lv [.int x, .long (uw (fS v)), .ref 20] (pc_Mo er le ma ou ta di wr at0 wi (prI q) lf pl bl ha ze wt pt (nI sg.length) (nI 0) (ze && !lf) ct po ++ pcT tf2 ++ pcB bf ++ pcD dd ++ pcO oo) := by
      intro x lv hx hlv
      refine ax_less (lv' := [(0, .ref 20), (4, .int (zb gr)), (5, .int (nI kk))]) ?_ hlv
      have hXu : fX v ≤ 1023 := by unfold fX; omega
      have hpi := po_is (s0 := fS v) (x := x) hS (by omega) (by omega) (fun z => by
        have hz : fE v = 0 := by
          rcases Nat.eq_zero_or_pos (fE v) with w | w
          · exact w
          · exact absurd z (fS_n (by omega))
        rw [hx, fX_0 hz]; decide)
      refine ax_callV (n := 2) G (ct_Mo_decimal l (fS v) x dd _ _ _ _ _ _ _ _ _ _ _ _ _ _ _ _ _ _ _ _ _ _ hS (by omega) (by omega)) d_Mo_real_208 rfl ⟨rfl, rfl, trivial⟩ rfl rfl rfl kc_Mo_decimal ⟨k_Mo_230, ki_Mo_decimal, ks_Mo_decimal, kk_Mo⟩ (by decide +kernel) rfl ⟨by decide, by decide⟩ (Nat.le_of_ble_eq_true rfl) ⟨by decide, by decide⟩ (fun r hc_ hq hk_ => ?_)
      obtain ⟨rfl, dd2, rfl, hd⟩ := hq
      have hn8 := nN_800 (fS v) x.toInt
      rw [← hx] at hFl
      generalize (if x < 0 then nI (nN (fS v) x.toInt) + x else nI (nN (fS v) x.toInt)) = po2 at *
      generalize dgs (tgt (fS v) x.toInt) (nN (fS v) x.toInt) = d at *
      generalize nN (fS v) x.toInt = n at *
      generalize ptN (fS v) x.toInt = pt2 at *
      have hd10 : ∀ i, i < n → d i < 10 := fun i hi => (hd i hi).2
      have hP : (0 < n ∧ pt2 = po2) ∨ (n = 0 ∧ pt2 = 1) := by
        rcases hpi with h | h
        · exact Or.inl ⟨h.1, h.2.1⟩
        · exact Or.inr ⟨h.1, h.2.1⟩
      have hPb : -1200 ≤ po2.toInt ∧ po2.toInt ≤ 310 := by
        rcases hpi with h | h
        · rw [← h.2.1]; omega
        · omega
      have hP0 : n = 0 → po2.toInt ≤ 1 := by
        intro hz
        rcases hpi with h | h
        · omega
        · omega
      have hP3 : -330 ≤ po2.toInt ∧ po2.toInt ≤ 310 ∨ n = 0 ∧ po2.toInt = -1074 := by
        rcases hpi with h | h
        · left; rw [← h.2.1]; omega
        · right; exact ⟨h.1, h.2.2⟩
      have fin : ∀ (b2 o2 : Nat → Int32) (B : List Nat) (lv : List (Nat × Value)), mi_is b2 B → pcG gr (decS d n pt2 (prN q kk) ha kk) = B → ax_V p l e (ax_rm 4) s m args below meth c D cid ad A 11 0 0 (MQ below Qc args s 0 0 A) 271 lv [] (pc_Mo er le ma ou ta di wr at0 wi (prI q) lf pl bl ha ze wt pt (nI sg.length) (nI B.length) (ze && !lf) (nI n) po2 ++ pcT tf2 ++ pcB b2 ++ pcD dd2 ++ pcO o2) := by
        intro b2 o2 B lv hb hB
        have hfl1 : sg ++ B = pcG gr fl.1 := by
          rw [← hFl]
          show _ = pcG gr (sg ++ _)
          rw [pcG_app, pcG_lo hsg, hB]
        have hfl2 : fl.2 = some sg.length := by rw [← hFl]
        exact ax_vret G hr E d_Mo_real_271 rfl ⟨rfl, tf2, b2, dd2, o2, _, _, _, sg, B, rfl, htf, hb, by omega, hbl _ _ hfl1, hfl1, by rw [hfl2]; exact fzs_s lf ze _, fun _ => hfl2⟩
      have kinds : ∀ (pz : Nat) (lv : List (Nat × Value)), pz ≤ 200 → prN q kk = (if kk = 103 ∧ pz = 0 then 1 else pz) → ax_lsb [(0, .ref 20), (4, .int (zb gr)), (5, .int (nI kk)), (9, .int (nI pz))] lv → ax_V p l e (ax_rm 4) s m args below meth c D cid ad A 11 0 0 (MQ below Qc args s 0 0 A) 229 lv [] (pc_Mo er le ma ou ta di wr at0 wi (prI q) lf pl bl ha ze wt pt (nI sg.length) (nI 0) (ze && !lf) (nI n) po2 ++ pcT tf2 ++ pcB bf ++ pcD dd2 ++ pcO oo) := by
        intro pz lv hpz hpN hlv
        refine ax_less (lv' := [(0, .ref 20), (4, .int (zb gr)), (5, .int (nI kk)), (9, .int (nI pz))]) ?_ hlv
        refine ax_iload G d_Mo_real_229 rfl ?_
        refine ax_bipush (v := 102) G d_Mo_real_231 (by decide) ?_
        refine ax_icmp_ne (tgt := 245) G d_Mo_real_233 (by decide) (fun c_233 => ?_) (fun c_233 => ?_)
        · have n102 : ¬ kk = 102 := fun z => c_233 (by rw [z]; rfl)
          refine ax_iload G d_Mo_real_245 rfl ?_
          refine ax_bipush (v := 101) G d_Mo_real_247 (by decide) ?_
          refine ax_icmp_ne (tgt := 263) G d_Mo_real_249 (by decide) (fun c_249 => ?_) (fun c_249 => ?_)
          · have n101 : ¬ kk = 101 := fun z => c_249 (by rw [z]; rfl)
            have e103 : kk = 103 := by omega
            have hpk : prN q kk = if pz = 0 then 1 else pz := by
              rw [hpN]
              by_cases z : pz = 0
              · rw [if_pos ⟨e103, z⟩, if_pos z]
              · rw [if_neg (fun w => z w.2), if_neg z]
            refine ax_aload_n G d_Mo_real_263 rfl rfl ?_
            refine ax_iload G d_Mo_real_264 rfl ?_
            refine ax_iload G d_Mo_real_266 rfl ?_
            refine ax_callV (n := 2) G (ct_Mo_general l pz n (prN q kk) gr po2 d dd2 oo bf _ _ _ _ _ _ _ _ _ _ _ _ _ _ _ _ _ _ _ hd hn8 hpz hP3 hP0 hpk) d_Mo_real_268 rfl ⟨rfl, rfl, rfl, rfl, trivial⟩ rfl rfl rfl kc_Mo_general ⟨k_Mo_234, ki_Mo_general, ks_Mo_general, kk_Mo⟩ (by decide +kernel) rfl ⟨by decide, by decide⟩ (Nat.le_of_ble_eq_true rfl) ⟨by decide, by decide⟩ (fun r hc_ hq hk_ => ?_)
            obtain ⟨rfl, o2, b2, rfl, hb⟩ := hq
            exact fin b2 o2 _ _ hb (by rw [e103, decG_g hP])
          · have e101 : kk = 101 := (nI_eq (b := 101) (by omega) (by decide)).mp c_249
            have hpk : prN q kk = pz := by rw [hpN, if_neg (fun w => by omega)]
            refine ax_aload_n G d_Mo_real_252 rfl rfl ?_
            refine ax_iload G d_Mo_real_253 rfl ?_
            refine ax_iload G d_Mo_real_255 rfl ?_
            have hx9 : -999 ≤ (xpo d n po2 pz).toInt ∧ (xpo d n po2 pz).toInt ≤ 999 := by
              have h1 : (1 : Int32).toInt = 1 := rfl
              have hx2 := xpo_rz (d := d) (ct := n) (po := po2) (k := pz + 1) (Nat.succ_pos _)
              rw [Nat.add_sub_cancel] at hx2
              have hb2 : -330 ≤ (rz d n po2 (pz + 1)).2.2.toInt ∧ (rz d n po2 (pz + 1)).2.2.toInt ≤ 311 := by
                unfold rz
                split
                · show -330 ≤ (1 : Int32).toInt ∧ (1 : Int32).toInt ≤ 311
                  rw [h1]; omega
                · exact rnd_ptb d n po2 _ (-330) (by omega) (by omega) (by decide) (by decide)
              rw [hx2, i32_sub _ _ (by omega) (by rw [h1]; omega), h1]; omega
            refine ax_callV (n := 2) G (ct_Mo_scientific l pz n gr po2 d dd2 oo bf _ _ _ _ _ _ _ _ _ _ _ _ _ _ _ _ _ _ _ hd hn8 (by omega) hx9) d_Mo_real_257 rfl ⟨rfl, rfl, rfl, rfl, trivial⟩ rfl rfl rfl kc_Mo_scientific ⟨k_Mo_206, ki_Mo_scientific, ks_Mo_scientific, kk_Mo⟩ (by decide +kernel) rfl ⟨by decide, by decide⟩ (Nat.le_of_ble_eq_true rfl) ⟨by decide, by decide⟩ (fun r hc_ hq hk_ => ?_)
            obtain ⟨rfl, o2, b2, rfl, hb⟩ := hq
            refine ax_goto (tgt := 271) G d_Mo_real_260 (by decide) ?_
            exact fin b2 o2 _ _ hb (by rw [hpk, e101]; exact decG_e hd10 hPb hP)
        · have e102 : kk = 102 := (nI_eq (b := 102) (by omega) (by decide)).mp c_233
          have hpk : prN q kk = pz := by rw [hpN, if_neg (fun w => by omega)]
          refine ax_aload_n G d_Mo_real_236 rfl rfl ?_
          refine ax_iload G d_Mo_real_237 rfl ?_
          refine ax_callV (n := 1) G (ct_Mo_fixed l pz n po2 d dd2 oo bf _ _ _ _ _ _ _ _ _ _ _ _ _ _ _ _ _ _ _ hd hn8 (by omega) hPb) d_Mo_real_239 rfl ⟨rfl, rfl, rfl, rfl, trivial⟩ rfl rfl rfl kc_Mo_fixed ⟨k_Mo_203, ki_Mo_fixed, ks_Mo_fixed, kk_Mo⟩ (by decide +kernel) rfl ⟨by decide, by decide⟩ (Nat.le_of_ble_eq_true rfl) ⟨by decide, by decide⟩ (fun r hc_ hq hk_ => ?_)
          obtain ⟨rfl, o2, b2, rfl, hb⟩ := hq
          refine ax_goto (tgt := 271) G d_Mo_real_242 (by decide) ?_
          exact fin b2 o2 _ _ hb (by rw [hpk, e102]; exact decG_f hd10 hP hP0)
      cases hqq : q with
      | none =>
        rw [hqq] at kinds
        refine ax_aload_n G d_Mo_real_211 rfl rfl ?_
        refine ax_get (ci := 6) (j := 12) G d_Mo_real_212 rfl rfl (by decide) k_Mo_94 rfl ?_
        refine ax_if_ge (tgt := 223) G d_Mo_real_215 (by decide) (fun c_215 => ?_) (fun c_215 => ?_)
        · exact absurd c_215 (by decide)
        · refine ax_bipush (v := 6) G d_Mo_real_218 (by decide) ?_
          refine ax_goto (tgt := 227) G d_Mo_real_220 (by decide) ?_
          refine ax_istore G d_Mo_real_227 (by decide) ?_
          exact kinds 6 _ (by decide) (by show (6 : Nat) = _; rw [if_neg (fun w => absurd w.2 (by decide))]) ⟨rfl, rfl, rfl, rfl, trivial⟩
      | some k =>
        have hk := hq0 k hqq
        rw [hqq] at kinds
        refine ax_aload_n G d_Mo_real_211 rfl rfl ?_
        refine ax_get (ci := 6) (j := 12) G d_Mo_real_212 rfl rfl (by decide) k_Mo_94 rfl ?_
        refine ax_if_ge (tgt := 223) G d_Mo_real_215 (by decide) (fun c_215 => ?_) (fun c_215 => ?_)
        · refine ax_aload_n G d_Mo_real_223 rfl rfl ?_
          refine ax_get (ci := 6) (j := 12) G d_Mo_real_224 rfl rfl (by decide) k_Mo_94 rfl ?_
          refine ax_istore G d_Mo_real_227 (by decide) ?_
          refine kinds k _ hk ?_ ⟨rfl, rfl, rfl, rfl, trivial⟩
          show (if kk = 103 then max k 1 else k) = _
          by_cases z : kk = 103
          · rw [if_pos z]
            by_cases w : k = 0
            · rw [if_pos ⟨z, w⟩, w]; rfl
            · rw [if_neg (fun y => w y.2)]; omega
          · rw [if_neg z, if_neg (fun y => z y.1)]
        · exact absurd (nI_le (a := 0) (Nat.zero_le k) (by omega)) c_215
    have dx : ∀ (lv : List (Nat × Value)), ax_lsb [(0, .ref 20), (4, .int (zb gr)), (5, .int (nI kk)), (6, .int (nI (fE v)))] lv → ax_V p l e (ax_rm 4) s m args below meth c D cid ad A 11 0 0 (MQ below Qc args s 0 0 A) 191 lv [.long (uw (fS v)), .ref 20] (pc_Mo er le ma ou ta di wr at0 wi (prI q) lf pl bl ha ze wt pt (nI sg.length) (nI 0) (ze && !lf) ct po ++ pcT tf2 ++ pcB bf ++ pcD dd ++ pcO oo) := by
      intro lv hlv
      refine ax_less (lv' := [(0, .ref 20), (4, .int (zb gr)), (5, .int (nI kk)), (6, .int (nI (fE v)))]) ?_ hlv
      refine ax_iload G d_Mo_real_191 rfl ?_
      refine ax_if_ne (tgt := 202) G d_Mo_real_193 (by decide) (fun c_193 => ?_) (fun c_193 => ?_)
      · have hE0 : ¬ fE v = 0 := fun z => c_193 (h0E.mpr z)
        refine ax_iload G d_Mo_real_202 rfl ?_
        refine ax_sipush (v := 1075) G d_Mo_real_204 (by decide) ?_
        refine ax_isub G d_Mo_real_207 ?_
        exact dc _ _ (by rw [show (1075 : Int32) = nI 1075 from rfl, pk_sub_toInt (by omega) (by decide), fX_1 hE0]; omega) ⟨rfl, rfl, rfl, trivial⟩
      · have hE0 : fE v = 0 := h0E.mp c_193
        refine ax_sipush (v := (-1074)) G d_Mo_real_196 (by decide) ?_
        refine ax_goto (tgt := 208) G d_Mo_real_199 (by decide) ?_
        exact dc _ _ (by rw [fX_0 hE0]; decide) ⟨rfl, rfl, rfl, trivial⟩
    refine ax_aload_n G d_Mo_real_174 rfl rfl ?_
    refine ax_iload G d_Mo_real_175 rfl ?_
    refine ax_if_ne (tgt := 185) G d_Mo_real_177 (by decide) (fun c_177 => ?_) (fun c_177 => ?_)
    · have hE0 : ¬ fE v = 0 := fun z => c_177 (h0E.mpr z)
      refine ax_lload G d_Mo_real_185 rfl ?_
      refine ax_ldc2 G d_Mo_real_187 k_Mo_212 ?_
      refine ax_lor G d_Mo_real_190 ?_
      rw [show (4503599627370496 : Int64) = uw (2 ^ 52) from rfl, l_hid _ (fF_lt v), show fF v + 2 ^ 52 = fS v by unfold fS; rw [if_neg hE0]]
      exact dx _ ⟨rfl, rfl, rfl, rfl, trivial⟩
    · have hE0 : fE v = 0 := h0E.mp c_177
      refine ax_lload G d_Mo_real_180 rfl ?_
      refine ax_goto (tgt := 191) G d_Mo_real_182 (by decide) ?_
      have q := dx [(0, .ref 20), (2, .long v), (4, .int (zb gr)), (5, .int (nI kk)), (6, .int (nI (fE v))), (7, .long (uw (fF v)))] ⟨rfl, rfl, rfl, rfl, trivial⟩
      rw [show fS v = fF v by unfold fS; rw [if_pos hE0]] at q
      exact q
  -- numbers
  have num : fE v ≠ 2047 → ∀ (tf2 : Nat → Int32), mi_is tf2 sg → ax_V p l e (ax_rm 4) s m args below meth c D cid ad A 11 0 0 (MQ below Qc args s 0 0 A) 152 [(0, .ref 20), (2, .long v), (4, .int (zb gr)), (5, .int (nI kk)), (6, .int (nI (fE v))), (7, .long (uw (fF v)))] [.int (zb (ze && !lf)), .ref 20] (pc_Mo er le ma ou ta di wr at0 wi (prI q) lf pl bl ha ze wt pt (nI sg.length) (nI 0) false ct po ++ pcT tf2 ++ pcB bf ++ pcD dd ++ pcO oo) := by
    intro hE7 tf2 htf
    refine ax_put (ci := 6) (j := 24) G d_Mo_real_152 rfl rfl (by decide) k_Mo_159 rfl (zb_nar _) (zb_fit _) (Nat.le_of_ble_eq_true rfl) ?_
    refine ax_iload G d_Mo_real_155 rfl ?_
    refine ax_bipush (v := 97) G d_Mo_real_157 (by decide) ?_
    refine ax_icmp_ne (tgt := 174) G d_Mo_real_159 (by decide) (fun c_159 => ?_) (fun c_159 => ?_)
    · exact dec hE7 (fun z => c_159 (by rw [z]; rfl)) tf2 htf
    · have e97 : kk = 97 := (nI_eq (b := 97) (by omega) (by decide)).mp c_159
      rw [if_neg hE7, if_pos e97] at hFl
      refine ax_aload_n G d_Mo_real_162 rfl rfl ?_
      refine ax_lload_n G d_Mo_real_163 rfl rfl ?_
      refine ax_aload_n G d_Mo_real_164 rfl rfl ?_
      refine ax_get (ci := 6) (j := 12) G d_Mo_real_165 rfl rfl (by decide) k_Mo_94 rfl ?_
      refine ax_iload G d_Mo_real_168 rfl ?_
      refine ax_callV (n := 3) G (ct_Mo_hexadecimal l v q gr sg tf2 bf _ _ _ _ _ _ _ _ _ _ _ _ _ _ _ _ _ _ _ _ htf hsl hq0) d_Mo_real_170 rfl ⟨rfl, rfl, rfl, trivial⟩ rfl rfl rfl kc_Mo_hexadecimal ⟨k_Mo_226, ki_Mo_hexadecimal, ks_Mo_hexadecimal, kk_Mo⟩ (by decide +kernel) rfl ⟨by decide, by decide⟩ (Nat.le_of_ble_eq_true rfl) ⟨by decide, by decide⟩ (fun r hc_ hq hk_ => ?_)
      obtain ⟨rfl, tf3, b3, rfl, htf3, hb3⟩ := hq
      have hfl1 : sg ++ [48] ++ [gd gr 120] ++ pcG gr (hexS (fS v) (fX v) q ha) = pcG gr fl.1 := by
        rw [← hFl]
        show _ = pcG gr (sg ++ ([48, 120] ++ hexS (fS v) (fX v) q ha))
        rw [pcG_app, pcG_app, pcG_lo hsg, show pcG gr [48, 120] = [48] ++ [gd gr 120] by cases gr <;> rfl]
        simp only [List.append_assoc]
      have hl3 : (sg ++ [48] ++ [gd gr 120]).length = sg.length + 2 := by rw [List.length_append, List.length_append]; rfl
      have hfl2 : fl.2 = some (sg ++ [48] ++ [gd gr 120]).length := by rw [← hFl, hl3]
      exact ax_vret G hr E d_Mo_real_173 rfl ⟨rfl, tf3, b3, dd, oo, _, _, _, _, _, rfl, htf3, hb3, by omega, hbl _ _ hfl1, hfl1, by rw [hfl2]; exact fzs_s lf ze _, fun _ => hfl2⟩
  have body : ∀ (tf2 : Nat → Int32) (lv : List (Nat × Value)), mi_is tf2 sg → ax_lsb [(0, .ref 20), (2, .long v), (4, .int (zb gr)), (5, .int (nI kk)), (6, .int (nI (fE v))), (7, .long (uw (fF v)))] lv → ax_V p l e (ax_rm 4) s m args below meth c D cid ad A 11 0 0 (MQ below Qc args s 0 0 A) 61 lv [] (pc_Mo er le ma ou ta di wr at0 wi (prI q) lf pl bl ha ze wt pt (nI sg.length) (nI 0) false ct po ++ pcT tf2 ++ pcB bf ++ pcD dd ++ pcO oo) := by
    intro tf2 lv htf hlv
    refine ax_less (lv' := [(0, .ref 20), (2, .long v), (4, .int (zb gr)), (5, .int (nI kk)), (6, .int (nI (fE v))), (7, .long (uw (fF v)))]) ?_ hlv
    refine ax_iload G d_Mo_real_61 rfl ?_
    refine ax_sipush (v := 2047) G d_Mo_real_63 (by decide) ?_
    refine ax_icmp_ne (tgt := 132) G d_Mo_real_66 (by decide) (fun c_66 => ?_) (fun c_66 => ?_)
    · have hE7 : fE v ≠ 2047 := fun z => c_66 (by rw [z]; rfl)
      have num2 := num hE7 tf2 htf
      cases ze with
      | false =>
        refine ax_aload_n G d_Mo_real_132 rfl rfl ?_
        refine ax_aload_n G d_Mo_real_133 rfl rfl ?_
        refine ax_get (ci := 6) (j := 17) G d_Mo_real_134 rfl rfl (by decide) k_Mo_82 rfl ?_
        refine ax_if_eq (tgt := 151) G d_Mo_real_137 (by decide) (fun c_137 => ?_) (fun c_137 => ?_)
        · refine ax_iconst (v := 0) G d_Mo_real_151 (by decide) ?_
          exact num2
        · exact absurd rfl c_137
      | true =>
        cases lf with
        | true =>
          refine ax_aload_n G d_Mo_real_132 rfl rfl ?_
          refine ax_aload_n G d_Mo_real_133 rfl rfl ?_
          refine ax_get (ci := 6) (j := 17) G d_Mo_real_134 rfl rfl (by decide) k_Mo_82 rfl ?_
          refine ax_if_eq (tgt := 151) G d_Mo_real_137 (by decide) (fun c_137 => ?_) (fun c_137 => ?_)
          · exact absurd c_137 (by decide)
          · refine ax_aload_n G d_Mo_real_140 rfl rfl ?_
            refine ax_get (ci := 6) (j := 13) G d_Mo_real_141 rfl rfl (by decide) k_Mo_69 rfl ?_
            refine ax_if_ne (tgt := 151) G d_Mo_real_144 (by decide) (fun c_144 => ?_) (fun c_144 => ?_)
            · refine ax_iconst (v := 0) G d_Mo_real_151 (by decide) ?_
              exact num2
            · exact absurd c_144 (by decide)
        | false =>
          refine ax_aload_n G d_Mo_real_132 rfl rfl ?_
          refine ax_aload_n G d_Mo_real_133 rfl rfl ?_
          refine ax_get (ci := 6) (j := 17) G d_Mo_real_134 rfl rfl (by decide) k_Mo_82 rfl ?_
          refine ax_if_eq (tgt := 151) G d_Mo_real_137 (by decide) (fun c_137 => ?_) (fun c_137 => ?_)
          · exact absurd c_137 (by decide)
          · refine ax_aload_n G d_Mo_real_140 rfl rfl ?_
            refine ax_get (ci := 6) (j := 13) G d_Mo_real_141 rfl rfl (by decide) k_Mo_69 rfl ?_
            refine ax_if_ne (tgt := 151) G d_Mo_real_144 (by decide) (fun c_144 => ?_) (fun c_144 => ?_)
            · exact absurd rfl c_144
            · refine ax_iconst (v := 1) G d_Mo_real_147 (by decide) ?_
              refine ax_goto (tgt := 152) G d_Mo_real_148 (by decide) ?_
              exact num2
    · have hE7 : fE v = 2047 := (nI_eq (b := 2047) (by omega) (by decide)).mp c_66
      rw [if_pos hE7] at hFl
      have hz : (lg_cmp (uw (fF v)) 0 = 0) ↔ fF v = 0 := by rw [lg_cmp_eq, ul_0, ul_uw (Nat.lt_of_lt_of_le (fF_lt v) (by decide))]
      have hfl2 : fl.2 = none := by rw [← hFl]
      have hfw : ∀ W : List Nat, pcG gr (if fF v = 0 then [105, 110, 102] else [110, 97, 110]) = W → sg ++ W = pcG gr fl.1 := by
        intro W hW
        rw [← hFl]
        show _ = pcG gr (sg ++ _)
        rw [pcG_app, pcG_lo hsg, hW]
      refine ax_lload G d_Mo_real_69 rfl ?_
      refine ax_lconst (v := 0) G d_Mo_real_71 (by decide) ?_
      refine ax_lcmp G d_Mo_real_72 ?_
      refine ax_if_ne (tgt := 91) G d_Mo_real_73 (by decide) (fun c_73 => ?_) (fun c_73 => ?_)
      · have hF0 : ¬ fF v = 0 := fun z => c_73 (hz.mpr z)
        rw [if_neg hF0] at hfw
        cases hgg : gr with
        | true =>
          rw [hgg] at wrd hfw
          refine ax_iload G d_Mo_real_91 rfl ?_
          refine ax_if_eq (tgt := 101) G d_Mo_real_93 (by decide) (fun c_93 => ?_) (fun c_93 => ?_)
          · exact absurd c_93 (by decide)
          · refine ax_ldcS (tx := "NAN") (t := 7) G d_Mo_real_96 (by decide +kernel) ?_
            refine ax_goto (tgt := 103) G d_Mo_real_98 (by decide) ?_
            exact wrd 7 [78, 65, 78] tf2 _ (by decide) (by decide) (by decide) (by decide +kernel) htf hfl2 (hfw _ (by decide)) ⟨rfl, trivial⟩
        | false =>
          rw [hgg] at wrd hfw
          refine ax_iload G d_Mo_real_91 rfl ?_
          refine ax_if_eq (tgt := 101) G d_Mo_real_93 (by decide) (fun c_93 => ?_) (fun c_93 => ?_)
          · refine ax_ldcS (tx := "nan") (t := 4) G d_Mo_real_101 (by decide +kernel) ?_
            exact wrd 4 [110, 97, 110] tf2 _ (by decide) (by decide) (by decide) (by decide +kernel) htf hfl2 (hfw _ (by decide)) ⟨rfl, trivial⟩
          · exact absurd rfl c_93
      · have hF0 : fF v = 0 := hz.mp c_73
        rw [if_pos hF0] at hfw
        cases hgg : gr with
        | true =>
          rw [hgg] at wrd hfw
          refine ax_iload G d_Mo_real_76 rfl ?_
          refine ax_if_eq (tgt := 86) G d_Mo_real_78 (by decide) (fun c_78 => ?_) (fun c_78 => ?_)
          · exact absurd c_78 (by decide)
          · refine ax_ldcS (tx := "INF") (t := 6) G d_Mo_real_81 (by decide +kernel) ?_
            refine ax_goto (tgt := 103) G d_Mo_real_83 (by decide) ?_
            exact wrd 6 [73, 78, 70] tf2 _ (by decide) (by decide) (by decide) (by decide +kernel) htf hfl2 (hfw _ (by decide)) ⟨rfl, trivial⟩
        | false =>
          rw [hgg] at wrd hfw
          refine ax_iload G d_Mo_real_76 rfl ?_
          refine ax_if_eq (tgt := 86) G d_Mo_real_78 (by decide) (fun c_78 => ?_) (fun c_78 => ?_)
          · refine ax_ldcS (tx := "inf") (t := 3) G d_Mo_real_86 (by decide +kernel) ?_
            refine ax_goto (tgt := 103) G d_Mo_real_88 (by decide) ?_
            exact wrd 3 [105, 110, 102] tf2 _ (by decide) (by decide) (by decide) (by decide +kernel) htf hfl2 (hfw _ (by decide)) ⟨rfl, trivial⟩
          · exact absurd rfl c_78
  have main : ∀ (lv : List (Nat × Value)), ax_lsb [(0, .ref 20), (2, .long v), (4, .int (zb gr)), (5, .int (nI kk))] lv → ax_V p l e (ax_rm 4) s m args below meth c D cid ad A 11 0 0 (MQ below Qc args s 0 0 A) 28 lv [] (pc_Mo er le ma ou ta di wr at0 wi (prI q) lf pl bl ha ze wt pt (nI 0) (nI 0) false ct po ++ pcT tf ++ pcB bf ++ pcD dd ++ pcO oo) := by
    intro lv hlv
    refine ax_less (lv' := [(0, .ref 20), (2, .long v), (4, .int (zb gr)), (5, .int (nI kk))]) ?_ hlv
    refine ax_lload_n G d_Mo_real_28 rfl rfl ?_
    refine ax_bipush (v := 52) G d_Mo_real_29 (by decide) ?_
    rw [show (52 : Int32) = nI 52 from rfl]
    rw [← uw_ul v]
    refine ax_lushr G d_Mo_real_31 ?_
    rw [l_ushr (ul v) 52 hU (by decide)]
    refine ax_l2i G d_Mo_real_32 ?_
    rw [show (uw (ul v / 2 ^ 52)).toInt32 = nI (ul v / 2 ^ 52) from by rw [uw_lN, lN_i]]
    refine ax_sipush (v := 2047) G d_Mo_real_33 (by decide) ?_
    refine ax_iand G d_Mo_real_36 ?_
    rw [pk_andN (k := 11) (by omega) (by decide), show ul v / 2 ^ 52 % 2 ^ 11 = fE v from rfl]
    rw [uw_ul v]
    refine ax_istore G d_Mo_real_37 (by decide) ?_
    refine ax_lload_n G d_Mo_real_39 rfl rfl ?_
    refine ax_ldc2 G d_Mo_real_40 k_Mo_210 ?_
    refine ax_land G d_Mo_real_43 ?_
    rw [l_mask v _ 52 (by decide +kernel), show ul v % 2 ^ 52 = fF v from rfl]
    have sg2 : ∀ (b : Bool) (lv : List (Nat × Value)), decide (v < 0) = b → ax_lsb [(0, .ref 20), (2, .long v), (4, .int (zb gr)), (5, .int (nI kk)), (6, .int (nI (fE v))), (7, .long (uw (fF v)))] lv → ax_V p l e (ax_rm 4) s m args below meth c D cid ad A 11 0 0 (MQ below Qc args s 0 0 A) 58 lv [.int (zb b), .ref 20] (pc_Mo er le ma ou ta di wr at0 wi (prI q) lf pl bl ha ze wt pt (nI 0) (nI 0) false ct po ++ pcT tf ++ pcB bf ++ pcD dd ++ pcO oo) := by
      intro b lv hb hlv
      rw [hb] at hsgn
      refine ax_less (lv' := [(0, .ref 20), (2, .long v), (4, .int (zb gr)), (5, .int (nI kk)), (6, .int (nI (fE v))), (7, .long (uw (fF v)))]) ?_ hlv
      refine ax_callV (n := 1) G (ct_Mo_sign l b [] tf _ _ _ _ _ _ _ _ _ _ _ _ _ _ _ _ _ _ _ _ _ (mi_nil tf) (by decide)) d_Mo_real_58 rfl ⟨rfl, rfl, trivial⟩ rfl rfl rfl kc_Mo_sign ⟨k_Mo_181, ki_Mo_sign, ks_Mo_sign, kk_Mo⟩ (by decide +kernel) rfl ⟨by decide, by decide⟩ (Nat.le_of_ble_eq_true rfl) ⟨by decide, by decide⟩ (fun r hc_ hq hk_ => ?_)
      obtain ⟨rfl, tf2, rfl, htf⟩ := hq
      rw [List.nil_append, hsgn] at htf ⊢
      exact body tf2 _ htf ⟨rfl, rfl, rfl, rfl, rfl, rfl, trivial⟩
    refine ax_lstore G d_Mo_real_44 (by decide) ?_
    refine ax_aload_n G d_Mo_real_46 rfl rfl ?_
    refine ax_lload_n G d_Mo_real_47 rfl rfl ?_
    refine ax_lconst (v := 0) G d_Mo_real_48 (by decide) ?_
    refine ax_lcmp G d_Mo_real_49 ?_
    refine ax_if_ge (tgt := 57) G d_Mo_real_50 (by decide) (fun c_50 => ?_) (fun c_50 => ?_)
    · refine ax_iconst (v := 0) G d_Mo_real_57 (by decide) ?_
      exact sg2 false _ (decide_eq_false (Int64.not_lt.mpr ((lg_cmp_ge v 0).mp c_50))) ⟨rfl, rfl, rfl, rfl, rfl, rfl, trivial⟩
    · refine ax_iconst (v := 1) G d_Mo_real_53 (by decide) ?_
      refine ax_goto (tgt := 58) G d_Mo_real_54 (by decide) ?_
      exact sg2 true _ (decide_eq_true (Int64.not_le.mp (fun z => c_50 ((lg_cmp_ge v 0).mpr z)))) ⟨rfl, rfl, rfl, rfl, rfl, rfl, trivial⟩
  refine ax_iload_n G d_Mo_real_0 rfl rfl ?_
  refine ax_bipush (v := 97) G d_Mo_real_1 (by decide) ?_
  refine ax_icmp_ge (tgt := 10) G d_Mo_real_3 (by decide) (fun c_3 => ?_) (fun c_3 => ?_)
  · have h97 : 97 ≤ L := by
      rcases Nat.lt_or_ge L 97 with z | z
      · exact absurd c_3 (nI_ge z (by decide))
      · exact z
    have e1 : gr = false := by rw [← hgr]; exact decide_eq_false (by omega)
    have e2 : kk = L := by rw [← hkk]; unfold sml; rw [if_neg (by omega)]
    rw [e1, e2] at main
    refine ax_iconst (v := 0) G d_Mo_real_10 (by decide) ?_
    refine ax_istore G d_Mo_real_11 (by decide) ?_
    refine ax_iload G d_Mo_real_13 rfl ?_
    refine ax_if_eq (tgt := 25) G d_Mo_real_15 (by decide) (fun c_15 => ?_) (fun c_15 => ?_)
    · refine ax_iload_n G d_Mo_real_25 rfl rfl ?_
      refine ax_istore G d_Mo_real_26 (by decide) ?_
      exact main _ ⟨rfl, rfl, rfl, rfl, trivial⟩
    · exact absurd rfl c_15
  · have h97 : L < 97 := by
      rcases Nat.lt_or_ge L 97 with z | z
      · exact z
      · exact absurd (nI_le (a := 97) z (by omega)) c_3
    have e1 : gr = true := by rw [← hgr]; exact decide_eq_true (by omega)
    have e2 : kk = L + 32 := by rw [← hkk]; unfold sml; rw [if_pos (by omega)]
    rw [e1, e2] at main
    refine ax_iconst (v := 1) G d_Mo_real_6 (by decide) ?_
    refine ax_goto (tgt := 11) G d_Mo_real_7 (by decide) ?_
    refine ax_istore G d_Mo_real_11 (by decide) ?_
    refine ax_iload G d_Mo_real_13 rfl ?_
    refine ax_if_eq (tgt := 25) G d_Mo_real_15 (by decide) (fun c_15 => ?_) (fun c_15 => ?_)
    · exact absurd c_15 (by decide)
    · refine ax_iload_n G d_Mo_real_18 rfl rfl ?_
      refine ax_bipush (v := 32) G d_Mo_real_19 (by decide) ?_
      refine ax_iadd G d_Mo_real_21 ?_
      rw [show nI L + 32 = nI (L + 32) from nI_add L 32]
      refine ax_goto (tgt := 26) G d_Mo_real_22 (by decide) ?_
      refine ax_istore G d_Mo_real_26 (by decide) ?_
      exact main _ ⟨rfl, rfl, rfl, rfl, trivial⟩
set_option maxRecDepth 20000 in
set_option maxHeartbeats 1000000 in
theorem ct_Mo_piece (l : Launch) (L na t : Nat) (q : Option Nat) (ar : Nat → Int64) (tf bf rf dd oo : Nat → Int32) (er : Int32) (le : Int32) (ou : Int32) (di : Int32) (wr : Int32) (at0 : Int32) (wi : Int32) (lf : Bool) (pl : Bool) (bl : Bool) (ha : Bool) (ze : Bool) (wt : Bool) (pt : Bool) (fr : Int32) (si : Int32) (zs : Bool) (ct : Int32) (po : Int32) (hq0 : ∀ k, q = some k → k ≤ 200) (hna : na ≤ 60) (ht : t ≤ na) (hK : isK L = true) : ax_CT l y_Mo_piece c_Mo_piece 5 none 5 [.ref 20, .int (nI L)] (pc_Mo er le (nI na) ou (nI t) di wr at0 wi (prI q) lf pl bl ha ze wt pt fr si zs ct po ++ pcA ar ++ pcT tf ++ pcB bf ++ pcR rf ++ pcD dd ++ pcO oo) (fun r h => r = none ∧ ∃ tf' bf' rf' dd' oo' zs' ct' po' F B, h = pc_Mo er le (nI na) ou (nI (if sml L = 37 then t else tkn na t)) di wr at0 wi (prI q) lf pl bl ha ze wt pt (nI F.length) (nI B.length) zs' ct' po' ++ pcA ar ++ pcT tf' ++ pcB bf' ++ pcR rf' ++ pcD dd' ++ pcO oo' ∧ mi_is tf' F ∧ mi_is bf' B ∧ F.length ≤ 4 ∧ B.length ≤ 2600 ∧ F ++ B = pcG (grt L) (pcs pl bl ha q (sml L) (if sml L = 37 then 0 else tkv ar na t)).1 ∧ zs' = fzs lf ze (pcs pl bl ha q (sml L) (if sml L = 37 then 0 else tkv ar na t)).2 ∧ (zs' = true → (pcs pl bl ha q (sml L) (if sml L = 37 then 0 else tkv ar na t)).2 = some F.length)) := by
  refine ax_ofV (by decide) (Nat.le_of_ble_eq_true rfl) ?_
  intro p e s m args below meth c D cid ad A Qc G hr E
  have hL := isK_or hK
  have main : ax_V p l e (ax_rm 5) s m args below meth c D cid ad A 5 0 0 (MQ below Qc args s 0 0 A) 15 [(0, .ref 20), (1, .int (nI L))] [] (pc_Mo er le (nI na) ou (nI t) di wr at0 wi (prI q) lf pl bl ha ze wt pt (nI 0) (nI 0) false ct po ++ pcA ar ++ pcT tf ++ pcB bf ++ pcR rf ++ pcD dd ++ pcO oo) := by
    refine ax_iload_n G d_Mo_piece_15 rfl rfl ?_
    refine ax_bipush (v := 37) G d_Mo_piece_16 (by decide) ?_
    refine ax_icmp_ne (tgt := 28) G d_Mo_piece_18 (by decide) (fun c_18 => ?_) (fun c_18 => ?_)
    · have n37 : ¬ L = 37 := fun z => c_18 (by rw [z]; rfl)
      have s37 : ¬ sml L = 37 := by unfold sml; split <;> omega
      rw [if_neg s37, if_neg s37] at E
      refine ax_aload_n G d_Mo_piece_28 rfl rfl ?_
      refine ax_callV (n := 0) G (ct_Mo_next l na t ar _ _ _ _ _ _ _ _ _ _ _ _ _ _ _ _ _ _ _ _ hna ht) d_Mo_piece_29 rfl ⟨rfl, rfl, trivial⟩ rfl rfl rfl kc_Mo_next ⟨k_Mo_132, ki_Mo_next, ks_Mo_next, kk_Mo⟩ (by decide +kernel) rfl ⟨by decide, by decide⟩ (Nat.le_of_ble_eq_true rfl) ⟨by decide, by decide⟩ (fun r hc_ hq hk_ => ?_)
      obtain ⟨rfl, rfl⟩ := hq
      generalize tkv ar na t = v at *
      refine ax_lstore_n G d_Mo_piece_32 rfl (by decide) ?_
      refine ax_iload_n G d_Mo_piece_33 rfl rfl ?_
      refine ax_bipush (v := 99) G d_Mo_piece_34 (by decide) ?_
      refine ax_icmp_ne (tgt := 72) G d_Mo_piece_36 (by decide) (fun c_36 => ?_) (fun c_36 => ?_)
      · have n99 : ¬ L = 99 := fun z => c_36 (by rw [z]; rfl)
        have goW : (L = 100 ∨ L = 105 ∨ L = 117 ∨ L = 111 ∨ L = 120 ∨ L = 88) → ax_V p l e (ax_rm 5) s m args below meth c D cid ad A 5 0 0 (MQ below Qc args s 0 0 A) 108 [(0, .ref 20), (1, .int (nI L)), (2, .long v)] [] (pc_Mo er le (nI na) ou (nI (tkn na t)) di wr at0 wi (prI q) lf pl bl ha ze wt pt (nI 0) (nI 0) false ct po ++ pcA ar ++ pcT tf ++ pcB bf ++ pcR rf ++ pcD dd ++ pcO oo) := by
          intro h6
          have hw := wh_pcs pl bl ha q v L h6
          refine ax_aload_n G d_Mo_piece_108 rfl rfl ?_
          refine ax_iload_n G d_Mo_piece_109 rfl rfl ?_
          refine ax_lload_n G d_Mo_piece_110 rfl rfl ?_
          refine ax_callV (n := 2) G (ct_Mo_whole l L v q tf bf rf _ _ _ _ _ _ _ _ _ _ _ _ _ _ _ _ _ _ false hq0 h6) d_Mo_piece_111 rfl ⟨rfl, rfl, rfl, rfl, trivial⟩ rfl rfl rfl kc_Mo_whole ⟨k_Mo_165, ki_Mo_whole, ks_Mo_whole, kk_Mo⟩ (by decide +kernel) rfl ⟨by decide, by decide⟩ (Nat.le_of_ble_eq_true rfl) ⟨by decide, by decide⟩ (fun r hc_ hq hk_ => ?_)
          obtain ⟨rfl, tf2, b2, r2, F, B, rfl, htf, hb, hFl, hBl, hF, hB⟩ := hq
          rw [← hF, ← hB] at hw
          have hz := fzs_n lf ze q F.length
          refine ax_goto (tgt := 123) G d_Mo_piece_114 (by decide) ?_
          exact ax_vret G hr E d_Mo_piece_123 rfl ⟨rfl, tf2, b2, r2, dd, oo, _, _, _, F, B, rfl, htf, hb, hFl, by omega, hw.1, by rw [hw.2]; exact hz.1, fun z => by rw [hw.2]; exact hz.2 z⟩
        refine ax_iload_n G d_Mo_piece_72 rfl rfl ?_
        refine ax_bipush (v := 100) G d_Mo_piece_73 (by decide) ?_
        refine ax_icmp_eq (tgt := 108) G d_Mo_piece_75 (by decide) (fun c_75 => ?_) (fun c_75 => ?_)
        · exact goW (by have := (nI_eq (b := 100) (by omega) (by decide)).mp c_75; omega)
        · have m1 : ¬ L = 100 := fun z => c_75 (by rw [z]; rfl)
          refine ax_iload_n G d_Mo_piece_78 rfl rfl ?_
          refine ax_bipush (v := 105) G d_Mo_piece_79 (by decide) ?_
          refine ax_icmp_eq (tgt := 108) G d_Mo_piece_81 (by decide) (fun c_81 => ?_) (fun c_81 => ?_)
          · exact goW (by have := (nI_eq (b := 105) (by omega) (by decide)).mp c_81; omega)
          · have m2 : ¬ L = 105 := fun z => c_81 (by rw [z]; rfl)
            refine ax_iload_n G d_Mo_piece_84 rfl rfl ?_
            refine ax_bipush (v := 117) G d_Mo_piece_85 (by decide) ?_
            refine ax_icmp_eq (tgt := 108) G d_Mo_piece_87 (by decide) (fun c_87 => ?_) (fun c_87 => ?_)
            · exact goW (by have := (nI_eq (b := 117) (by omega) (by decide)).mp c_87; omega)
            · have m3 : ¬ L = 117 := fun z => c_87 (by rw [z]; rfl)
              refine ax_iload_n G d_Mo_piece_90 rfl rfl ?_
              refine ax_bipush (v := 111) G d_Mo_piece_91 (by decide) ?_
              refine ax_icmp_eq (tgt := 108) G d_Mo_piece_93 (by decide) (fun c_93 => ?_) (fun c_93 => ?_)
              · exact goW (by have := (nI_eq (b := 111) (by omega) (by decide)).mp c_93; omega)
              · have m4 : ¬ L = 111 := fun z => c_93 (by rw [z]; rfl)
                refine ax_iload_n G d_Mo_piece_96 rfl rfl ?_
                refine ax_bipush (v := 120) G d_Mo_piece_97 (by decide) ?_
                refine ax_icmp_eq (tgt := 108) G d_Mo_piece_99 (by decide) (fun c_99 => ?_) (fun c_99 => ?_)
                · exact goW (by have := (nI_eq (b := 120) (by omega) (by decide)).mp c_99; omega)
                · have m5 : ¬ L = 120 := fun z => c_99 (by rw [z]; rfl)
                  refine ax_iload_n G d_Mo_piece_102 rfl rfl ?_
                  refine ax_bipush (v := 88) G d_Mo_piece_103 (by decide) ?_
                  refine ax_icmp_ne (tgt := 117) G d_Mo_piece_105 (by decide) (fun c_105 => ?_) (fun c_105 => ?_)
                  · have m6 : ¬ L = 88 := fun z => c_105 (by rw [z]; rfl)
                    have h8 : L = 101 ∨ L = 69 ∨ L = 102 ∨ L = 70 ∨ L = 103 ∨ L = 71 ∨ L = 97 ∨ L = 65 := by omega
                    have ep : pcs pl bl ha q (sml L) v = flt pl bl ha q (sml L) v := by
                      rcases h8 with h | h | h | h | h | h | h | h <;> rw [h] <;> rfl
                    rw [ep] at E
                    refine ax_aload_n G d_Mo_piece_117 rfl rfl ?_
                    refine ax_iload_n G d_Mo_piece_118 rfl rfl ?_
                    refine ax_lload_n G d_Mo_piece_119 rfl rfl ?_
                    refine ax_callV (n := 2) G (ct_Mo_real l L v q tf bf dd oo _ _ _ _ _ _ _ _ _ _ _ _ _ _ _ _ _ _ hq0 h8) d_Mo_piece_120 rfl ⟨rfl, rfl, rfl, rfl, rfl, trivial⟩ rfl rfl rfl kc_Mo_real ⟨k_Mo_169, ki_Mo_real, ks_Mo_real, kk_Mo⟩ (by decide +kernel) rfl ⟨by decide, by decide⟩ (Nat.le_of_ble_eq_true rfl) ⟨by decide, by decide⟩ (fun r hc_ hq hk_ => ?_)
                    obtain ⟨rfl, tf2, b2, dd2, o2, zs2, ct2, po2, F, B, rfl, htf, hb, hFl, hBl, hFB, hz1, hz2⟩ := hq
                    exact ax_vret G hr E d_Mo_piece_123 rfl ⟨rfl, tf2, b2, rf, dd2, o2, _, _, _, F, B, rfl, htf, hb, hFl, hBl, hFB, hz1, hz2⟩
                  · exact goW (by have := (nI_eq (b := 88) (by omega) (by decide)).mp c_105; omega)
      · have e99 : L = 99 := (nI_eq (b := 99) (by omega) (by decide)).mp c_36
        have hx : ul v % 128 < 128 := Nat.mod_lt _ (by decide)
        have ep : pcs pl bl ha q (sml L) v = ([ltr (ul v % 128)], none) := by rw [e99]; rfl
        have eg : pcG (grt L) [ltr (ul v % 128)] = [ltr (ul v % 128)] := by rw [e99]; rfl
        rw [ep] at E
        have fin : ∀ (b2 : Nat → Int32) (lv : List (Nat × Value)), mi_is b2 [ltr (ul v % 128)] → ax_V p l e (ax_rm 5) s m args below meth c D cid ad A 5 0 0 (MQ below Qc args s 0 0 A) 69 lv [] (pc_Mo er le (nI na) ou (nI (tkn na t)) di wr at0 wi (prI q) lf pl bl ha ze wt pt (nI 0) (nI [ltr (ul v % 128)].length) false ct po ++ pcA ar ++ pcT tf ++ pcB b2 ++ pcR rf ++ pcD dd ++ pcO oo) := by
          intro b2 lv hb
          refine ax_goto (tgt := 123) G d_Mo_piece_69 (by decide) ?_
          exact ax_vret G hr E d_Mo_piece_123 rfl ⟨rfl, tf, b2, rf, dd, oo, _, _, _, [], [ltr (ul v % 128)], rfl, mi_nil tf, hb, by decide, by show 1 ≤ 2600; decide, by rw [List.nil_append]; exact eg.symm, fzs_0 lf ze, fun z => by cases z⟩
        refine ax_lload_n G d_Mo_piece_39 rfl rfl ?_
        refine ax_l2i G d_Mo_piece_40 ?_
        refine ax_bipush (v := 127) G d_Mo_piece_41 (by decide) ?_
        refine ax_iand G d_Mo_piece_43 ?_
        rw [pk_and _ 7 (by decide), show (2 : Nat) ^ 7 = 128 from rfl, ul_c]
        refine ax_istore G d_Mo_piece_44 (by decide) ?_
        refine ax_aload_n G d_Mo_piece_46 rfl rfl ?_
        refine ax_iload G d_Mo_piece_47 rfl ?_
        refine ax_bipush (v := 32) G d_Mo_piece_49 (by decide) ?_
        refine ax_bipush (v := 126) G d_Mo_piece_51 (by decide) ?_
        refine ax_callS (n := 3) G (ct_Mo_in l (nI (ul v % 128)) 32 126) d_Mo_piece_53 rfl trivial rfl kc_Mo_in ⟨k_Mo_61, kt_Mo_in, kk_Mo⟩ (by decide +kernel) rfl ⟨by decide, by decide⟩ (Nat.le_of_ble_eq_true rfl) ⟨by decide, by decide⟩ (fun r hc_ hq hk_ => ?_)
        obtain ⟨rfl, rfl⟩ := hq
        generalize ul v % 128 = x at *
        by_cases hc : x < 32 ∨ 126 < x
        · have e1 : ltr x = 63 := by unfold ltr; rw [if_pos hc]
          have e2 : decide ((32 : Int32) ≤ nI x ∧ nI x ≤ 126) = false := decide_eq_false (fun z => by
            have h1 : 32 ≤ x := (nI_leI (a := 32) (by decide) (by omega)).mp z.1
            have h2 : x ≤ 126 := (nI_leI (b := 126) (by omega) (by decide)).mp z.2
            omega)
          rw [e2]
          rw [e1] at fin
          refine ax_if_eq (tgt := 64) G d_Mo_piece_56 (by decide) (fun c_56 => ?_) (fun c_56 => ?_)
          · refine ax_bipush (v := 63) G d_Mo_piece_64 (by decide) ?_
            refine ax_callV (n := 1) G (ct_Mo_add l [] 63 bf _ _ _ _ _ _ _ _ _ _ _ _ _ _ _ _ _ _ _ _ _ (mi_nil bf) (by decide) (by decide)) d_Mo_piece_66 rfl ⟨rfl, rfl, trivial⟩ rfl rfl rfl kc_Mo_add ⟨k_Mo_162, ki_Mo_add, ks_Mo_add, kk_Mo⟩ (by decide +kernel) rfl ⟨by decide, by decide⟩ (Nat.le_of_ble_eq_true rfl) ⟨by decide, by decide⟩ (fun r hc_ hq hk_ => ?_)
            obtain ⟨rfl, b2, rfl, hb⟩ := hq
            exact fin b2 _ hb
          · exact absurd rfl c_56
        · have e1 : ltr x = x := by unfold ltr; rw [if_neg hc]
          have e2 : decide ((32 : Int32) ≤ nI x ∧ nI x ≤ 126) = true := decide_eq_true ⟨(nI_leI (a := 32) (by decide) (by omega)).mpr (by omega), (nI_leI (b := 126) (by omega) (by decide)).mpr (by omega)⟩
          rw [e2]
          rw [e1] at fin
          refine ax_if_eq (tgt := 64) G d_Mo_piece_56 (by decide) (fun c_56 => ?_) (fun c_56 => ?_)
          · exact absurd c_56 (by decide)
          · refine ax_iload G d_Mo_piece_59 rfl ?_
            refine ax_goto (tgt := 66) G d_Mo_piece_61 (by decide) ?_
            refine ax_callV (n := 1) G (ct_Mo_add l [] x bf _ _ _ _ _ _ _ _ _ _ _ _ _ _ _ _ _ _ _ _ _ (mi_nil bf) (by decide) (by omega)) d_Mo_piece_66 rfl ⟨rfl, rfl, trivial⟩ rfl rfl rfl kc_Mo_add ⟨k_Mo_162, ki_Mo_add, ks_Mo_add, kk_Mo⟩ (by decide +kernel) rfl ⟨by decide, by decide⟩ (Nat.le_of_ble_eq_true rfl) ⟨by decide, by decide⟩ (fun r hc_ hq hk_ => ?_)
            obtain ⟨rfl, b2, rfl, hb⟩ := hq
            exact fin b2 _ hb
    · have e37 : L = 37 := (nI_eq (b := 37) (by omega) (by decide)).mp c_18
      have s37 : sml L = 37 := by rw [e37]; rfl
      rw [if_pos s37, if_pos s37, s37, show grt L = false by rw [e37]; rfl] at E
      refine ax_aload_n G d_Mo_piece_21 rfl rfl ?_
      refine ax_bipush (v := 37) G d_Mo_piece_22 (by decide) ?_
      refine ax_callV (n := 1) G (ct_Mo_add l [] 37 bf _ _ _ _ _ _ _ _ _ _ _ _ _ _ _ _ _ _ _ _ _ (mi_nil bf) (by decide) (by decide)) d_Mo_piece_24 rfl ⟨rfl, rfl, trivial⟩ rfl rfl rfl kc_Mo_add ⟨k_Mo_162, ki_Mo_add, ks_Mo_add, kk_Mo⟩ (by decide +kernel) rfl ⟨by decide, by decide⟩ (Nat.le_of_ble_eq_true rfl) ⟨by decide, by decide⟩ (fun r hc_ hq hk_ => ?_)
      obtain ⟨rfl, b2, rfl, hb⟩ := hq
      exact ax_vret G hr E d_Mo_piece_27 rfl ⟨rfl, tf, b2, rf, dd, oo, _, _, _, [], [37], rfl, mi_nil tf, hb, by decide, by decide, rfl, fzs_0 lf ze, fun z => by cases z⟩
  refine ax_aload_n G d_Mo_piece_0 rfl rfl ?_
  refine ax_iconst (v := 0) G d_Mo_piece_1 (by decide) ?_
  refine ax_put (ci := 6) (j := 22) G d_Mo_piece_2 rfl rfl (by decide) k_Mo_153 rfl rfl rfl (Nat.le_of_ble_eq_true rfl) ?_
  refine ax_aload_n G d_Mo_piece_5 rfl rfl ?_
  refine ax_iconst (v := 0) G d_Mo_piece_6 (by decide) ?_
  refine ax_put (ci := 6) (j := 23) G d_Mo_piece_7 rfl rfl (by decide) k_Mo_156 rfl rfl rfl (Nat.le_of_ble_eq_true rfl) ?_
  refine ax_aload_n G d_Mo_piece_10 rfl rfl ?_
  refine ax_iconst (v := 0) G d_Mo_piece_11 (by decide) ?_
  refine ax_put (ci := 6) (j := 24) G d_Mo_piece_12 rfl rfl (by decide) k_Mo_159 rfl rfl rfl (Nat.le_of_ble_eq_true rfl) ?_
  exact main

