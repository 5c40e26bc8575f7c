/-! FormatDesk$Writer: writeDecimal -/
set_option maxRecDepth 20000 in
set_option maxHeartbeats 1000000 in
theorem ct_Wr_writeDecimal (l : Launch) (bs : List Nat) (lc pt0 : Int32) (n kk : Nat) (q : Option Nat) (zp : Int32) (f : Nat → Int32) (lm : Nat → Int64) (dg : Nat → Int32) (d : Nat → Nat) (lf pl bl ha ze : Bool) (w : Int32) (wt pt gr : Bool) (pa : Int32) (hf : pi_is f bs) (hb : bs.length ≤ 1) (hd : de_is dg n d) (hn : n ≤ 774) (hp1 : -1100 ≤ pt0.toInt) (hp2 : pt0.toInt ≤ 310) (hq0 : ∀ k, q = some k → k ≤ 200) (hkk : kk = 101 ∨ kk = 102 ∨ kk = 103) : ax_CT l y_Wr_writeDecimal c_Wr_writeDecimal 5 none 3 [.ref 6, .ref 5] (pc_Wr ++ pc_Pi (nI bs.length) zp f ++ pc_De lc (nI n) pt0 lm dg ++ pc_Di lf pl bl ha ze w wt (prI q) pt (nI kk) gr pa) (fun r h => r = none ∧ ∃ f' lc' dc' pt' lm' dg', h = pc_Wr ++ pc_Pi (nI (bs ++ decS d n pt0 (prN q kk) ha kk).length) (nI bs.length) f' ++ pc_De lc' dc' pt' lm' dg' ++ pc_Di lf pl bl ha ze w wt (prI q) pt (nI kk) gr pa ∧ pi_is f' (bs ++ decS d n pt0 (prN q kk) ha kk)) := by
  refine ax_ofV (by decide) (Nat.le_of_ble_eq_true rfl) ?_
  intro p e s m args below meth c D cid ad A Qc G hr E
  have hK : prN q kk ≤ 200 := prN_le hq0
  have h1 : (1 : Int32).toInt = 1 := rfl
  have hkk2 : kk < 256 := by omega
  generalize hT : bs ++ decS d n pt0 (prN q kk) ha kk = T at E
  unfold decS at hT
  generalize hk0 : prN q kk = k at hK hT
  have fin : ∀ (fx : Bool) (b n2 : Nat) (pt2 : Int32) (d2 : Nat → Nat) (dg2 : Nat → Int32), de_is dg2 n2 d2 → n2 ≤ 774 → (-1100 ≤ pt2.toInt ∧ pt2.toInt ≤ 311) → b ≤ 300 → (fx = true → -200 ≤ pt2.toInt ∧ (max pt2.toInt 1).toNat + b ≤ 514) → bs ++ (if fx then ptd d2 n2 pt2.toInt b ha else sciS d2 n2 pt2.toInt b ha) = T → ax_V p l e (ax_rm 3) s m args below meth c D cid ad A 5 0 0 (MQ below Qc args s 0 0 A) 165 [(0, .ref 6), (1, .ref 5), (2, .int (nI k)), (3, .int (nI b)), (4, .int (zb fx))] [] (pc_Wr ++ pc_Pi (nI bs.length) zp f ++ pc_De lc (nI n2) pt2 lm dg2 ++ pc_Di lf pl bl ha ze w wt (prI q) pt (nI kk) gr pa) := by
    intro fx b n2 pt2 d2 dg2 hd2 hn2 hp hbb hfx hT'
    refine ax_aload_n G d_Wr_writeDecimal_165 rfl rfl ?_
    refine ax_get (ci := 4) (j := 0) G d_Wr_writeDecimal_166 rfl rfl (by decide) k_Wr_14 rfl ?_
    refine ax_callV (n := 0) G (ct_Pi_letZerosComeHere l (nI bs.length) zp f) d_Wr_writeDecimal_169 rfl ⟨rfl, rfl, trivial⟩ rfl rfl rfl kc_Pi_letZerosComeHere ⟨k_Wr_87, ki_Pi_letZerosComeHere, ks_Pi_letZerosComeHere, kk_Pi⟩ (by decide +kernel) rfl ⟨by decide, by decide⟩ (Nat.le_of_ble_eq_true rfl) ⟨by decide, by decide⟩ (fun r hc_ hq hk_ => ?_)
    obtain ⟨rfl, rfl⟩ := hq
    cases fx with
    | true =>
      have hg := hfx rfl
      refine ax_iload G d_Wr_writeDecimal_172 rfl ?_
      refine ax_if_eq (tgt := 196) G d_Wr_writeDecimal_174 (by decide) (fun c_174 => ?_) (fun c_174 => ?_)
      · exact absurd c_174 (by decide)
      · refine ax_aload_n G d_Wr_writeDecimal_177 rfl rfl ?_
        refine ax_aload_n G d_Wr_writeDecimal_178 rfl rfl ?_
        refine ax_get (ci := 4) (j := 1) G d_Wr_writeDecimal_179 rfl rfl (by decide) k_Wr_21 rfl ?_
        refine ax_getN (ci := 0) (j := 4) G d_Wr_writeDecimal_182 rfl rfl (by decide) k_Wr_127 rfl ?_
        refine ax_iload_n G d_Wr_writeDecimal_185 rfl rfl ?_
        refine ax_aload_n G d_Wr_writeDecimal_186 rfl rfl ?_
        refine ax_getN (ci := 1) (j := 3) G d_Wr_writeDecimal_187 rfl rfl (by decide) k_Wr_75 rfl ?_
        refine ax_callV (n := 3) G (ct_Wr_putDigits l bs lc pt2 pt2 n2 b ha (nI bs.length) f lm dg2 d2 hf hd2 hn2 (by omega) (by omega) (by omega)) d_Wr_writeDecimal_190 rfl ⟨rfl, rfl, rfl, rfl, rfl, rfl, trivial⟩ rfl rfl rfl kc_Wr_putDigits ⟨k_Wr_140, ki_Wr_putDigits, ks_Wr_putDigits, kk_Wr⟩ (by decide +kernel) rfl ⟨by decide, by decide⟩ (Nat.le_of_ble_eq_true rfl) ⟨by decide, by decide⟩ (fun r hc_ hq hk_ => ?_)
        obtain ⟨rfl, f2, rfl, hf2⟩ := hq
        have hT2 : bs ++ ptd d2 n2 pt2.toInt b ha = T := hT'
        rw [hT2] at hf2
        refine ax_goto (tgt := 229) G d_Wr_writeDecimal_193 (by decide) ?_
        exact ax_vret G hr E d_Wr_writeDecimal_229 rfl ⟨rfl, f2, _, _, _, _, _, by rw [← hT2] <;> rfl, hf2⟩
    | false =>
      have hT2 : bs ++ (ptd d2 n2 1 b ha ++ (101 :: expo (pt2.toInt - 1) true)) = T := hT'
      have hl1 : (ptd d2 n2 1 b ha).length ≤ 302 := by
        unfold ptd
        have := pnt_len b ha
        rw [List.length_append, List.length_append, dgI_len, dgB_len]
        omega
      refine ax_iload G d_Wr_writeDecimal_172 rfl ?_
      refine ax_if_eq (tgt := 196) G d_Wr_writeDecimal_174 (by decide) (fun c_174 => ?_) (fun c_174 => ?_)
      · refine ax_aload_n G d_Wr_writeDecimal_196 rfl rfl ?_
        refine ax_iconst (v := 1) G d_Wr_writeDecimal_197 (by decide) ?_
        refine ax_iload_n G d_Wr_writeDecimal_198 rfl rfl ?_
        refine ax_aload_n G d_Wr_writeDecimal_199 rfl rfl ?_
        refine ax_getN (ci := 1) (j := 3) G d_Wr_writeDecimal_200 rfl rfl (by decide) k_Wr_75 rfl ?_
        refine ax_callV (n := 3) G (ct_Wr_putDigits l bs lc pt2 1 n2 b ha (nI bs.length) f lm dg2 d2 hf hd2 hn2 (by decide) (by omega) (by rw [h1]; omega)) d_Wr_writeDecimal_203 rfl ⟨rfl, rfl, rfl, rfl, rfl, rfl, trivial⟩ rfl rfl rfl kc_Wr_putDigits ⟨k_Wr_140, ki_Wr_putDigits, ks_Wr_putDigits, kk_Wr⟩ (by decide +kernel) rfl ⟨by decide, by decide⟩ (Nat.le_of_ble_eq_true rfl) ⟨by decide, by decide⟩ (fun r hc_ hq hk_ => ?_)
        obtain ⟨rfl, f2, rfl, hf2⟩ := hq
        rw [h1] at hf2
        rw [h1]
        refine ax_aload_n G d_Wr_writeDecimal_206 rfl rfl ?_
        refine ax_get (ci := 4) (j := 0) G d_Wr_writeDecimal_207 rfl rfl (by decide) k_Wr_14 rfl ?_
        refine ax_bipush (v := 101) G d_Wr_writeDecimal_210 (by decide) ?_
        refine ax_callV (n := 1) G (ct_Pi_put l (bs ++ ptd d2 n2 1 b ha) 101 (nI bs.length) f2 hf2 (by rw [List.length_append]; omega) (by decide)) d_Wr_writeDecimal_212 rfl ⟨rfl, rfl, trivial⟩ rfl rfl rfl kc_Pi_put ⟨k_Wr_34, ki_Pi_put, ks_Pi_put, kk_Pi⟩ (by decide +kernel) rfl ⟨by decide, by decide⟩ (Nat.le_of_ble_eq_true rfl) ⟨by decide, by decide⟩ (fun r hc_ hq hk_ => ?_)
        obtain ⟨rfl, f3, rfl, hf3⟩ := hq
        have ex : (pt2 - 1).toInt = pt2.toInt - 1 := by rw [i32_sub _ _ (by omega) (by rw [h1]; omega), h1]
        refine ax_aload_n G d_Wr_writeDecimal_215 rfl rfl ?_
        refine ax_aload_n G d_Wr_writeDecimal_216 rfl rfl ?_
        refine ax_get (ci := 4) (j := 1) G d_Wr_writeDecimal_217 rfl rfl (by decide) k_Wr_21 rfl ?_
        refine ax_getN (ci := 0) (j := 4) G d_Wr_writeDecimal_220 rfl rfl (by decide) k_Wr_127 rfl ?_
        refine ax_iconst (v := 1) G d_Wr_writeDecimal_223 (by decide) ?_
        refine ax_isub G d_Wr_writeDecimal_224 ?_
        refine ax_iconst (v := 1) G d_Wr_writeDecimal_225 (by decide) ?_
        refine ax_callV (n := 2) G (ct_Wr_putExponent l (bs ++ ptd d2 n2 1 b ha ++ [101]) (pt2 - 1) true (nI bs.length) f3 hf3 (by rw [List.length_append, List.length_append]; show bs.length + _ + 1 ≤ 510; omega) (by rw [ex]; omega)) d_Wr_writeDecimal_226 rfl ⟨rfl, rfl, rfl, trivial⟩ rfl rfl rfl kc_Wr_putExponent ⟨k_Wr_144, ki_Wr_putExponent, ks_Wr_putExponent, kk_Wr⟩ (by decide +kernel) rfl ⟨by decide, by decide⟩ (Nat.le_of_ble_eq_true rfl) ⟨by decide, by decide⟩ (fun r hc_ hq hk_ => ?_)
        obtain ⟨rfl, f4, rfl, hf4⟩ := hq
        have hT3 : bs ++ ptd d2 n2 1 b ha ++ [101] ++ expo (pt2 - 1).toInt true = T := by
          rw [ex, List.append_assoc, List.append_assoc]; exact hT2
        rw [hT3] at hf4
        exact ax_vret G hr E d_Wr_writeDecimal_229 rfl ⟨rfl, f4, _, _, _, _, _, by rw [← hT3] <;> rfl, hf4⟩
      · exact absurd rfl c_174
  refine ax_aload_n G d_Wr_writeDecimal_0 rfl rfl ?_
  refine ax_callS (n := 1) G (ct_Wr_precisionOf l q kk lf pl bl ha ze w wt pt gr pa hq0 hkk2) d_Wr_writeDecimal_1 rfl ⟨rfl, trivial⟩ rfl kc_Wr_precisionOf ⟨k_Wr_123, kt_Wr_precisionOf, kk_Wr⟩ (by decide +kernel) rfl ⟨by decide, by decide⟩ (Nat.le_of_ble_eq_true rfl) ⟨by decide, by decide⟩ (fun r hc_ hq hk_ => ?_)
  obtain ⟨rfl, rfl⟩ := hq
  rw [hk0]
  refine ax_istore_n G d_Wr_writeDecimal_4 rfl (by decide) ?_
  refine ax_iload_n G d_Wr_writeDecimal_5 rfl rfl ?_
  refine ax_istore_n G d_Wr_writeDecimal_6 rfl (by decide) ?_
  refine ax_aload_n G d_Wr_writeDecimal_7 rfl rfl ?_
  refine ax_getN (ci := 1) (j := 9) G d_Wr_writeDecimal_8 rfl rfl (by decide) k_Wr_28 rfl ?_
  refine ax_bipush (v := 102) G d_Wr_writeDecimal_11 (by decide) ?_
  refine ax_icmp_ne (tgt := 20) G d_Wr_writeDecimal_13 (by decide) (fun c_13 => ?_) (fun c_13 => ?_)
  · have k102 : ¬ kk = 102 := fun z => c_13 (by rw [z]; rfl)
    rw [if_neg k102] at hT
    refine ax_iconst (v := 0) G d_Wr_writeDecimal_20 (by decide) ?_
    refine ax_istore G d_Wr_writeDecimal_21 (by decide) ?_
    refine ax_iload G d_Wr_writeDecimal_23 rfl ?_
    refine ax_if_eq (tgt := 47) G d_Wr_writeDecimal_25 (by decide) (fun c_25 => ?_) (fun c_25 => ?_)
    · refine ax_aload_n G d_Wr_writeDecimal_47 rfl rfl ?_
      refine ax_getN (ci := 1) (j := 9) G d_Wr_writeDecimal_48 rfl rfl (by decide) k_Wr_28 rfl ?_
      refine ax_bipush (v := 101) G d_Wr_writeDecimal_51 (by decide) ?_
      refine ax_icmp_ne (tgt := 69) G d_Wr_writeDecimal_53 (by decide) (fun c_53 => ?_) (fun c_53 => ?_)
      · have k101 : ¬ kk = 101 := fun z => c_53 (by rw [z]; rfl)
        rw [if_neg k101] at hT
        have ek2 : (nI k).toInt = (k : Int) := nI_toInt (by omega)
        refine ax_aload_n G d_Wr_writeDecimal_69 rfl rfl ?_
        refine ax_get (ci := 4) (j := 1) G d_Wr_writeDecimal_70 rfl rfl (by decide) k_Wr_21 rfl ?_
        refine ax_iload_n G d_Wr_writeDecimal_73 rfl rfl ?_
        refine ax_callV (n := 1) G (ct_De_round l lc pt0 (nI k) n lm dg d hd hn (by rw [ek2]; omega)) d_Wr_writeDecimal_74 rfl ⟨rfl, rfl, rfl, trivial⟩ rfl rfl rfl kc_De_round ⟨k_Wr_130, ki_De_round, ks_De_round, kk_De⟩ (by decide +kernel) rfl ⟨by decide, by decide⟩ (Nat.le_of_ble_eq_true rfl) ⟨by decide, by decide⟩ (fun r hc_ hq hk_ => ?_)
        obtain ⟨rfl, dg2, rfl, hd2, hn2⟩ := hq
        rw [ek2] at hd2 hn2
        rw [ek2]
        have hpb := rnd_ptb d n pt0 (k : Int) (-1100) hp1 hp2 (by decide) (by decide)
        generalize hd3 : (rnd d n pt0 (k : Int)).1 = d2 at hT hd2
        generalize hn3 : (rnd d n pt0 (k : Int)).2.1 = n2 at hT hd2 hn2 ⊢
        generalize hp3 : (rnd d n pt0 (k : Int)).2.2 = pt2 at hT hpb ⊢
        have e1 : (pt2 - 1).toInt = pt2.toInt - 1 := by rw [i32_sub _ _ (by omega) (by rw [h1]; omega), h1]
        have m4 : (-4 : Int32).toInt = -4 := by decide +kernel
        have hk1 : 1 ≤ k := by
          rw [← hk0]
          cases q with
          | none => exact Nat.le_of_ble_eq_true rfl
          | some j => show 1 ≤ (if kk = 103 then max j 1 else j); rw [if_pos (by omega)]; omega
        have hgz : gfx pt2.toInt k = true → gz pt2.toInt k = pt2.toInt ∧ -3 ≤ pt2.toInt ∧ pt2.toInt ≤ (k : Int) := by
          intro z
          have z2 := of_decide_eq_true z
          refine ⟨by unfold gz; rw [z]; rfl, by omega, by omega⟩
        have hgzb : -3 ≤ gz pt2.toInt k ∧ gz pt2.toInt k ≤ (k : Int) := by
          cases hfx : gfx pt2.toInt k with
          | true => have := hgz hfx; omega
          | false => unfold gz; rw [hfx]; show -3 ≤ (1 : Int) ∧ (1 : Int) ≤ k; omega
        have gtail : ∀ (fx : Bool) (y : Int32), fx = gfx pt2.toInt k → y.toInt = gz pt2.toInt k → ax_V p l e (ax_rm 3) s m args below meth c D cid ad A 5 0 0 (MQ below Qc args s 0 0 A) 128 [(0, .ref 6), (1, .ref 5), (2, .int (nI k)), (3, .int (nI k)), (4, .int (zb fx))] [.int y, .int (nI k)] (pc_Wr ++ pc_Pi (nI bs.length) zp f ++ pc_De lc (nI n2) pt2 lm dg2 ++ pc_Di lf pl bl ha ze w wt (prI q) pt (nI kk) gr pa) := by
          intro fx y hfx hy
          have e2 : nI k - y = nI ((k : Int) - gz pt2.toInt k).toNat := i32_eq (by rw [i32_sub _ _ (by rw [ek2]; omega) (by rw [hy]; omega), ek2, hy, nI_toInt (by omega)]; omega)
          refine ax_isub G d_Wr_writeDecimal_128 ?_
          rw [e2]
          refine ax_istore_n G d_Wr_writeDecimal_129 rfl (by decide) ?_
          refine ax_aload_n G d_Wr_writeDecimal_130 rfl rfl ?_
          refine ax_getN (ci := 1) (j := 3) G d_Wr_writeDecimal_131 rfl rfl (by decide) k_Wr_75 rfl ?_
          refine ax_if_ne (tgt := 165) G d_Wr_writeDecimal_134 (by decide) (fun c_134 => ?_) (fun c_134 => ?_)
          · have h5 : ha = true := by cases ha; exact absurd rfl c_134; rfl
            have e3 : gb d2 n2 pt2.toInt k ha = ((k : Int) - gz pt2.toInt k).toNat := by unfold gb; rw [h5]; rfl
            exact fin fx _ n2 pt2 d2 dg2 hd2 hn2 (by omega) (by omega) (fun z => by rw [z] at hfx; have := hgz hfx.symm; omega) (by rw [← e3, hfx]; exact hT)
          · have h5 : ha = false := (zb_ne ha).mp c_134
            have e3 : gb d2 n2 pt2.toInt k ha = min ((k : Int) - gz pt2.toInt k).toNat (nf d2 n2 (gz pt2.toInt k)) := by unfold gb; rw [h5]; rfl
            have hnf := nf_le d2 n2 (gz pt2.toInt k) (by omega) hn2
            have need : ∀ (y2 : Int32), y2.toInt = gz pt2.toInt k → ax_V p l e (ax_rm 3) s m args below meth c D cid ad A 5 0 0 (MQ below Qc args s 0 0 A) 158 [(0, .ref 6), (1, .ref 5), (2, .int (nI k)), (3, .int (nI ((k : Int) - gz pt2.toInt k).toNat)), (4, .int (zb fx))] [.int y2, .ref 9, .int (nI ((k : Int) - gz pt2.toInt k).toNat)] (pc_Wr ++ pc_Pi (nI bs.length) zp f ++ pc_De lc (nI n2) pt2 lm dg2 ++ pc_Di lf pl bl ha ze w wt (prI q) pt (nI kk) gr pa) := by
              intro y2 hy2
              refine ax_callV (n := 1) G (ct_De_neededFrom l lc pt2 y2 n2 lm dg2 d2 hd2 hn2 (by rw [hy2]; omega)) d_Wr_writeDecimal_158 rfl ⟨rfl, rfl, rfl, trivial⟩ rfl rfl rfl kc_De_neededFrom ⟨k_Wr_133, ki_De_neededFrom, ks_De_neededFrom, kk_De⟩ (by decide +kernel) rfl ⟨by decide, by decide⟩ (Nat.le_of_ble_eq_true rfl) ⟨by decide, by decide⟩ (fun r hc_ hq hk_ => ?_)
              obtain ⟨rfl, rfl⟩ := hq
              rw [hy2]
              refine ax_mmin G d_Wr_writeDecimal_161 k_Wr_137 ⟨by decide, by decide⟩ (Nat.le_of_ble_eq_true rfl) ⟨by decide, by decide⟩ ?_
              rw [min_nI (by omega) (by omega)]
              refine ax_istore_n G d_Wr_writeDecimal_164 rfl (by decide) ?_
              exact fin fx _ n2 pt2 d2 dg2 hd2 hn2 (by omega) (by omega) (fun z => by rw [z] at hfx; have := hgz hfx.symm; omega) (by rw [← e3, hfx]; exact hT)
            refine ax_iload_n G d_Wr_writeDecimal_137 rfl rfl ?_
            refine ax_aload_n G d_Wr_writeDecimal_138 rfl rfl ?_
            refine ax_get (ci := 4) (j := 1) G d_Wr_writeDecimal_139 rfl rfl (by decide) k_Wr_21 rfl ?_
            refine ax_iload G d_Wr_writeDecimal_142 rfl ?_
            refine ax_if_eq (tgt := 157) G d_Wr_writeDecimal_144 (by decide) (fun c_144 => ?_) (fun c_144 => ?_)
            · have h6 : fx = false := (zb_ne fx).mp c_144
              refine ax_iconst (v := 1) G d_Wr_writeDecimal_157 (by decide) ?_
              exact need 1 (by unfold gz; rw [← hfx, h6]; rfl)
            · have h6 : fx = true := by cases fx; exact absurd rfl c_144; rfl
              refine ax_aload_n G d_Wr_writeDecimal_147 rfl rfl ?_
              refine ax_get (ci := 4) (j := 1) G d_Wr_writeDecimal_148 rfl rfl (by decide) k_Wr_21 rfl ?_
              refine ax_getN (ci := 0) (j := 4) G d_Wr_writeDecimal_151 rfl rfl (by decide) k_Wr_127 rfl ?_
              refine ax_goto (tgt := 158) G d_Wr_writeDecimal_154 (by decide) ?_
              exact need pt2 (by unfold gz; rw [← hfx, h6]; rfl)
        have dec : ∀ (fx : Bool), fx = gfx pt2.toInt k → ax_V p l e (ax_rm 3) s m args below meth c D cid ad A 5 0 0 (MQ below Qc args s 0 0 A) 109 [(0, .ref 6), (1, .ref 5), (2, .int (nI k)), (3, .int (nI k)), (4, .int (zb false))] [.int (zb fx)] (pc_Wr ++ pc_Pi (nI bs.length) zp f ++ pc_De lc (nI n2) pt2 lm dg2 ++ pc_Di lf pl bl ha ze w wt (prI q) pt (nI kk) gr pa) := by
          intro fx hfx
          refine ax_istore G d_Wr_writeDecimal_109 (by decide) ?_
          refine ax_iload_n G d_Wr_writeDecimal_111 rfl rfl ?_
          refine ax_iload G d_Wr_writeDecimal_112 rfl ?_
          refine ax_if_eq (tgt := 127) G d_Wr_writeDecimal_114 (by decide) (fun c_114 => ?_) (fun c_114 => ?_)
          · have h6 : fx = false := (zb_ne fx).mp c_114
            refine ax_iconst (v := 1) G d_Wr_writeDecimal_127 (by decide) ?_
            exact gtail fx 1 hfx (by unfold gz; rw [← hfx, h6]; rfl)
          · have h6 : fx = true := by cases fx; exact absurd rfl c_114; rfl
            refine ax_aload_n G d_Wr_writeDecimal_117 rfl rfl ?_
            refine ax_get (ci := 4) (j := 1) G d_Wr_writeDecimal_118 rfl rfl (by decide) k_Wr_21 rfl ?_
            refine ax_getN (ci := 0) (j := 4) G d_Wr_writeDecimal_121 rfl rfl (by decide) k_Wr_127 rfl ?_
            refine ax_goto (tgt := 128) G d_Wr_writeDecimal_124 (by decide) ?_
            exact gtail fx pt2 hfx (by unfold gz; rw [← hfx, h6]; rfl)
        refine ax_aload_n G d_Wr_writeDecimal_77 rfl rfl ?_
        refine ax_get (ci := 4) (j := 1) G d_Wr_writeDecimal_78 rfl rfl (by decide) k_Wr_21 rfl ?_
        refine ax_getN (ci := 0) (j := 4) G d_Wr_writeDecimal_81 rfl rfl (by decide) k_Wr_127 rfl ?_
        refine ax_iconst (v := 1) G d_Wr_writeDecimal_84 (by decide) ?_
        refine ax_isub G d_Wr_writeDecimal_85 ?_
        refine ax_bipush (v := (-4)) G d_Wr_writeDecimal_86 (by decide) ?_
        refine ax_icmp_lt (tgt := 108) G d_Wr_writeDecimal_88 (by decide) (fun c_88 => ?_) (fun c_88 => ?_)
        · rw [i32_lt, e1, m4] at c_88
          refine ax_iconst (v := 0) G d_Wr_writeDecimal_108 (by decide) ?_
          exact dec false (by unfold gfx; exact (decide_eq_false (by omega)).symm)
        · rw [i32_lt, e1, m4] at c_88
          refine ax_aload_n G d_Wr_writeDecimal_91 rfl rfl ?_
          refine ax_get (ci := 4) (j := 1) G d_Wr_writeDecimal_92 rfl rfl (by decide) k_Wr_21 rfl ?_
          refine ax_getN (ci := 0) (j := 4) G d_Wr_writeDecimal_95 rfl rfl (by decide) k_Wr_127 rfl ?_
          refine ax_iconst (v := 1) G d_Wr_writeDecimal_98 (by decide) ?_
          refine ax_isub G d_Wr_writeDecimal_99 ?_
          refine ax_iload_n G d_Wr_writeDecimal_100 rfl rfl ?_
          refine ax_icmp_ge (tgt := 108) G d_Wr_writeDecimal_101 (by decide) (fun c_101 => ?_) (fun c_101 => ?_)
          · rw [i32_le, e1, ek2] at c_101
            refine ax_iconst (v := 0) G d_Wr_writeDecimal_108 (by decide) ?_
            exact dec false (by unfold gfx; exact (decide_eq_false (by omega)).symm)
          · rw [i32_le, e1, ek2] at c_101
            refine ax_iconst (v := 1) G d_Wr_writeDecimal_104 (by decide) ?_
            refine ax_goto (tgt := 109) G d_Wr_writeDecimal_105 (by decide) ?_
            exact dec true (by unfold gfx; exact (decide_eq_true (by omega)).symm)
      · have k101 : kk = 101 := (nI_eq (b := 101) (by omega) (by decide)).mp c_53
        rw [if_pos k101] at hT
        have ek2 : (nI (k + 1)).toInt = (k : Int) + 1 := by rw [nI_toInt (by omega)]; omega
        refine ax_aload_n G d_Wr_writeDecimal_56 rfl rfl ?_
        refine ax_get (ci := 4) (j := 1) G d_Wr_writeDecimal_57 rfl rfl (by decide) k_Wr_21 rfl ?_
        refine ax_iload_n G d_Wr_writeDecimal_60 rfl rfl ?_
        refine ax_iconst (v := 1) G d_Wr_writeDecimal_61 (by decide) ?_
        refine ax_iadd G d_Wr_writeDecimal_62 ?_
        rw [nI_1]
        refine ax_callV (n := 1) G (ct_De_round l lc pt0 (nI (k + 1)) n lm dg d hd hn (by rw [ek2]; omega)) d_Wr_writeDecimal_63 rfl ⟨rfl, rfl, rfl, trivial⟩ rfl rfl rfl kc_De_round ⟨k_Wr_130, ki_De_round, ks_De_round, kk_De⟩ (by decide +kernel) rfl ⟨by decide, by decide⟩ (Nat.le_of_ble_eq_true rfl) ⟨by decide, by decide⟩ (fun r hc_ hq hk_ => ?_)
        obtain ⟨rfl, dg2, rfl, hd2, hn2⟩ := hq
        rw [ek2] at hd2 hn2
        rw [ek2]
        have hpb := rnd_ptb d n pt0 ((k : Int) + 1) (-1100) hp1 hp2 (by decide) (by decide)
        refine ax_goto (tgt := 165) G d_Wr_writeDecimal_66 (by decide) ?_
        exact fin false k _ _ _ dg2 hd2 hn2 (by omega) (by omega) (fun z => by cases z) hT
    · exact absurd rfl c_25
  · have k102 : kk = 102 := (nI_eq (b := 102) (by omega) (by decide)).mp c_13
    rw [if_pos k102] at hT
    have ek2 : (pt0 + nI k).toInt = pt0.toInt + (k : Int) := by rw [i32_add _ _ (by omega) (by rw [nI_toInt (by omega)]; omega), nI_toInt (by omega)]
    refine ax_iconst (v := 1) G d_Wr_writeDecimal_16 (by decide) ?_
    refine ax_goto (tgt := 21) G d_Wr_writeDecimal_17 (by decide) ?_
    refine ax_istore G d_Wr_writeDecimal_21 (by decide) ?_
    refine ax_iload G d_Wr_writeDecimal_23 rfl ?_
    refine ax_if_eq (tgt := 47) G d_Wr_writeDecimal_25 (by decide) (fun c_25 => ?_) (fun c_25 => ?_)
    · exact absurd c_25 (by decide)
    · refine ax_aload_n G d_Wr_writeDecimal_28 rfl rfl ?_
      refine ax_get (ci := 4) (j := 1) G d_Wr_writeDecimal_29 rfl rfl (by decide) k_Wr_21 rfl ?_
      refine ax_aload_n G d_Wr_writeDecimal_32 rfl rfl ?_
      refine ax_get (ci := 4) (j := 1) G d_Wr_writeDecimal_33 rfl rfl (by decide) k_Wr_21 rfl ?_
      refine ax_getN (ci := 0) (j := 4) G d_Wr_writeDecimal_36 rfl rfl (by decide) k_Wr_127 rfl ?_
      refine ax_iload_n G d_Wr_writeDecimal_39 rfl rfl ?_
      refine ax_iadd G d_Wr_writeDecimal_40 ?_
      refine ax_callV (n := 1) G (ct_De_round l lc pt0 (pt0 + nI k) n lm dg d hd hn (by rw [ek2]; omega)) d_Wr_writeDecimal_41 rfl ⟨rfl, rfl, rfl, trivial⟩ rfl rfl rfl kc_De_round ⟨k_Wr_130, ki_De_round, ks_De_round, kk_De⟩ (by decide +kernel) rfl ⟨by decide, by decide⟩ (Nat.le_of_ble_eq_true rfl) ⟨by decide, by decide⟩ (fun r hc_ hq hk_ => ?_)
      obtain ⟨rfl, dg2, rfl, hd2, hn2⟩ := hq
      rw [ek2] at hd2 hn2
      rw [ek2]
      have hpb := rnd_f d n pt0 k hp1 hp2 hK
      refine ax_goto (tgt := 165) G d_Wr_writeDecimal_44 (by decide) ?_
      exact fin true k _ _ _ dg2 hd2 hn2 (by omega) (by omega) (fun _ => by omega) hT

