/-! the law's loop -/
def ax_Sc (ad : Nat → Nat) (A : Nat → Prop) (s : State) (b L : Nat) (xs : Nat → Int32) : Prop := ad 40 = b ∧ va_X b L xs s s.heap ∧ b < s.heap.size ∧ ¬ A b
section AXL
variable {p : Program} {l : Launch} {e : Env} {R : Room} {s : State} {m : MethodId} {args : Array Value} {below : List Frame} {meth : Method} {c : Code} {cells slots : Nat} {Q : State → Prop}
variable {D : va_G} {cid : Nat → ClassId} {ad : Nat → Nat} {A : Nat → Prop} {nL : Nat} {Ts : List Cond} {own : String} {cc : ByteArray}
variable {pc : Nat} {lv : List (Nat × Value)} {st : List Value} {h : ax_H} {b L : Nat} {xs : Nat → Int32}
theorem ax_scl (G : ax_G p s m args meth c Ts own cc nL D cid ad A) (hsc : ax_Sc ad A s b L xs) (d : decode cc pc = .ok (.arraylength, 1)) (k : ax_V p l e R s m args below meth c D cid ad A nL cells slots Q (pc + 1) lv (.int (Int32.ofNat L) :: st) h) : ax_V p l e R s m args below meth c D cid ad A nL cells slots Q pc lv (.ref 40 :: st) h := by
  obtain ⟨h1, h2, h3, h4⟩ := hsc
  subst h1
  exact fun H locs ls hP hD hS hl => va_slen G.1 G.2.1 h2 h3 h4 hS d (k H locs ls hP hD hS hl)
theorem ax_sca (G : ax_G p s m args meth c Ts own cc nL D cid ad A) (hsc : ax_Sc ad A s b L xs) {i : Int32} (d : decode cc pc = .ok (.iaload, 1)) (hin : vp_in i L) (k : ax_V p l e R s m args below meth c D cid ad A nL cells slots Q (pc + 1) lv (.int (xs i.toNatClampNeg) :: st) h) : ax_V p l e R s m args below meth c D cid ad A nL cells slots Q pc lv (.int i :: .ref 40 :: st) h := by
  obtain ⟨h1, h2, h3, h4⟩ := hsc
  subst h1
  exact fun H locs ls hP hD hS hl => va_sld G.1 G.2.1 h2 h3 h4 hS hin d (k H locs ls hP hD hS hl)
theorem ax_wid {C S : Nat} (h1 : cells ≤ C) (h2 : slots ≤ S) (k : ax_V p l e R s m args below meth c D cid ad A nL C S Q pc lv st h) : ax_V p l e R s m args below meth c D cid ad A nL cells slots Q pc lv st h :=
  fun H locs ls hP hD hS hl => W.widen h1 h2 (k H locs ls hP hD hS hl)
end AXL
theorem pua_lenA {L : Nat → Nat} {n : Nat} {ar : Nat → Int64} {na : Nat} : ∀ (k i : Nat) (os : List Nat) (t d : Nat) (os' : List Nat) (t' d' : Nat), os.length ≤ 4000 → pua L n ar na k i os t d = some (os', t', d') → os'.length ≤ 4000
  | 0, i, os, t, d, os', t', d', h, hp => by
    have : (os, t, d) = (os', t', d') := Option.some.inj hp
    rw [Prod.mk.injEq] at this
    rw [← this.1]; exact h
  | k + 1, i, os, t, d, os', t', d', h, hp => by
    rw [pua_s] at hp
    split at hp
    · have : (os, t, d) = (os', t', d') := Option.some.inj hp
      rw [Prod.mk.injEq] at this
      rw [← this.1]; exact h
    · split at hp
      · split at hp
        · exact pua_lenA k _ _ _ _ os' t' d' (by rw [List.length_append]; assumption) hp
        · cases hp
      · split at hp
        · exact pua_lenA k _ _ _ _ os' t' d' (by rw [List.length_append]; show _ + 1 ≤ _; omega) hp
        · cases hp
theorem pua_len {L : Nat → Nat} {n : Nat} {ar : Nat → Int64} {na k i t d : Nat} {os' : List Nat} {t' d' : Nat} (hp : pua L n ar na k i [] t d = some (os', t', d')) : os'.length ≤ 4000 := pua_lenA k i [] t d os' t' d' (Nat.zero_le _) hp
def lw_w (xs : Nat → Int32) (j : Nat) : Int64 := ((xs (3 * j + 1)).toInt64 <<< ((32 : Int32).toInt64 &&& 63)) ||| ((xs (3 * j + 2)).toInt64 &&& 4294967295)
theorem fo_ext {f f' : Nat → Int32} {n k : Nat} {c0 : Nat → Nat} {w : Int64} (hf : fo_is f n c0) (h1 : ∀ i, i < n → f' i = f i) (h2 : ∀ i, i < k → f' (n + i) = (nI (oc w i)).toInt8.toInt32) : fo_is f' (n + k) (fun i => if i < n then c0 i else oc w (i - n)) := by
  intro i hi
  by_cases h : i < n
  · show f' i = (nI (if i < n then c0 i else oc w (i - n))).toInt8.toInt32 ∧ (if i < n then c0 i else oc w (i - n)) < 256
    rw [if_pos h, h1 i h]; exact hf i h
  · obtain ⟨r, rfl⟩ : ∃ r, i = n + r := ⟨i - n, by omega⟩
    show f' (n + r) = (nI (if n + r < n then c0 (n + r) else oc w (n + r - n))).toInt8.toInt32 ∧ (if n + r < n then c0 (n + r) else oc w (n + r - n)) < 256
    rw [if_neg h, Nat.add_sub_cancel_left]
    exact ⟨h2 r (by omega), oc_lt w r⟩
theorem mf_ext {f f' : Nat → Int32} {n k : Nat} {c0 : Nat → Nat} {w : Int64} (hf : mf_is f n c0) (h1 : ∀ i, i < n → f' i = f i) (h2 : ∀ i, i < k → f' (n + i) = nI (oc w i)) : mf_is f' (n + k) (fun i => if i < n then c0 i else oc w (i - n)) := by
  intro i hi
  by_cases h : i < n
  · show f' i = nI (if i < n then c0 i else oc w (i - n)) ∧ (if i < n then c0 i else oc w (i - n)) < 256
    rw [if_pos h, h1 i h]; exact hf i h
  · obtain ⟨r, rfl⟩ : ∃ r, i = n + r := ⟨i - n, by omega⟩
    show f' (n + r) = nI (if n + r < n then c0 (n + r) else oc w (n + r - n)) ∧ (if n + r < n then c0 (n + r) else oc w (n + r - n)) < 256
    rw [if_neg h, Nat.add_sub_cancel_left]
    exact ⟨h2 r (by omega), oc_lt w r⟩

set_option maxRecDepth 20000 in
set_option maxHeartbeats 1000000 in
theorem lw_text {p : Program} {l : Launch} {e : Env} {s : State} {m : MethodId} {below : List Frame} {meth : Method} {c : Code} {D : va_G} {cid : Nat → ClassId} {ad : Nat → Nat} {A : Nat → Prop} {b L j C S : Nat} {xs : Nat → Int32} (G : ax_G p s m #[Value.ref b] meth c lw_tbl "FormatDeskLaw" code 8 D cid ad A) (Y : ax_Y A s s.heap) (htr : l.stackTraces = false) (hsc : ax_Sc ad A s b L xs) (hL : L ≤ 1536) (hj : 3 * j + 3 ≤ L) (hcs : C + 1 ≤ room_1.cells ∧ S + 6 ≤ room_1.slots) (nxt : ∀ (n na : Nat) (os : List Nat) (t d : Nat) (wa : Int32) (ar : Nat → Int64) (o f fm u : Nat → Int32) (c0 : Nat → Nat) (q1 q2 q3 q4 q5 : Bool) (q6 : Int32) (q7 : Bool) (q8 : Int32) (q9 : Bool) (q10 : Int32) (q11 : Bool) (q12 : Int32) (sz zp : Int32) (pf : Nat → Int32) (lc dc p0 : Int32) (lm : Nat → Int64) (dg : Nat → Int32) (er : Int32) (at0 : Int32) (wi : Int32) (pr : Int32) (lf : Bool) (pl : Bool) (bl : Bool) (ha : Bool) (ze : Bool) (wt : Bool) (pt : Bool) (fr : Int32) (si : Int32) (zs : Bool) (ct : Int32) (po : Int32) (tf bf rf ddm oo : Nat → Int32) (lo : Nat → Int64) (lv : List (Nat × Value)), n ≤ 400 → na ≤ 60 → os.length ≤ 4000 → fo_is f n c0 → mf_is fm n c0 → pi_is o os → mi_is u os → ax_lsb [(0, .ref 40), (1, .ref 0), (2, .ref 20), (3, .ref 30), (4, .int (nI (3 * j)))] lv → ax_V p l e room_1 s m #[Value.ref b] below meth c D cid ad A 8 (C + 1) (S + 6) (lw_Z below #[Value.ref b] s) 435 lv [] (pcX (nI na) (nI os.length) wa (nI t) (nI d) ar o (nI n) f q1 q2 q3 q4 q5 q6 q7 q8 q9 q10 q11 q12 sz zp pf lc dc p0 lm dg ++ (pc_Mo er (nI n) (nI na) (nI os.length) (nI t) (nI d) wa at0 wi pr lf pl bl ha ze wt pt fr si zs ct po ++ pcF fm ++ pcU u ++ pcA ar ++ pcT tf ++ pcB bf ++ pcR rf ++ pcD ddm ++ pcO oo) ++ pcL lo)) (n na : Nat) (os : List Nat) (t d : Nat) (wa : Int32) (ar : Nat → Int64) (o f fm u : Nat → Int32) (c0 : Nat → Nat) (q1 q2 q3 q4 q5 : Bool) (q6 : Int32) (q7 : Bool) (q8 : Int32) (q9 : Bool) (q10 : Int32) (q11 : Bool) (q12 : Int32) (sz zp : Int32) (pf : Nat → Int32) (lc dc p0 : Int32) (lm : Nat → Int64) (dg : Nat → Int32) (er : Int32) (at0 : Int32) (wi : Int32) (pr : Int32) (lf : Bool) (pl : Bool) (bl : Bool) (ha : Bool) (ze : Bool) (wt : Bool) (pt : Bool) (fr : Int32) (si : Int32) (zs : Bool) (ct : Int32) (po : Int32) (tf bf rf ddm oo : Nat → Int32) (lo : Nat → Int64) (hn : n ≤ 400) (hna : na ≤ 60) (hol : os.length ≤ 4000) (hf : fo_is f n c0) (hfm : mf_is fm n c0) (ho : pi_is o os) (hu : mi_is u os) : ax_V p l e room_1 s m #[Value.ref b] below meth c D cid ad A 8 C S (lw_Z below #[Value.ref b] s) 80 [(0, .ref 40), (1, .ref 0), (2, .ref 20), (3, .ref 30), (4, .int (nI (3 * j)))] [] (pcX (nI na) (nI os.length) wa (nI t) (nI d) ar o (nI n) f q1 q2 q3 q4 q5 q6 q7 q8 q9 q10 q11 q12 sz zp pf lc dc p0 lm dg ++ (pc_Mo er (nI n) (nI na) (nI os.length) (nI t) (nI d) wa at0 wi pr lf pl bl ha ze wt pt fr si zs ct po ++ pcF fm ++ pcU u ++ pcA ar ++ pcT tf ++ pcB bf ++ pcR rf ++ pcD ddm ++ pcO oo) ++ pcL lo) := by
  have ho8 := octs_le (lw_w xs j)
  by_cases h4 : n + octs (lw_w xs j) ≤ 400
  · skip
    refine ax_aload_n G d_La_law_80 rfl rfl ?_
    refine ax_aload_n G d_La_law_81 rfl rfl ?_
    refine ax_iload G d_La_law_82 rfl ?_
    refine ax_iconst (v := 1) G d_La_law_84 (by decide) ?_
    refine ax_iadd G d_La_law_85 ?_
    rw [nI_1]
    refine ax_sca G hsc d_La_law_86 (vp_in_nI (by omega) (by omega)) ?_
    rw [nI_clamp (by omega)]
    refine ax_i2l G d_La_law_87 ?_
    refine ax_bipush (v := 32) G d_La_law_88 (by decide) ?_
    refine ax_lshl G d_La_law_90 ?_
    refine ax_aload_n G d_La_law_91 rfl rfl ?_
    refine ax_iload G d_La_law_92 rfl ?_
    refine ax_iconst (v := 2) G d_La_law_94 (by decide) ?_
    refine ax_iadd G d_La_law_95 ?_
    rw [show nI (3 * j) + 2 = nI (3 * j + 2) from nI_add _ 2]
    refine ax_sca G hsc d_La_law_96 (vp_in_nI (by omega) (by omega)) ?_
    rw [nI_clamp (by omega)]
    refine ax_i2l G d_La_law_97 ?_
    refine ax_ldc2 G d_La_law_98 k_La_38 ?_
    refine ax_land G d_La_law_101 ?_
    refine ax_lor G d_La_law_102 ?_
    show ax_V p l e room_1 s m #[Value.ref b] below meth c D cid ad A 8 C S (lw_Z below #[Value.ref b] s) 103 [(0, .ref 40), (1, .ref 0), (2, .ref 20), (3, .ref 30), (4, .int (nI (3 * j)))] [.long (lw_w xs j), .ref 0] (pcX (nI na) (nI os.length) wa (nI t) (nI d) ar o (nI n) f q1 q2 q3 q4 q5 q6 q7 q8 q9 q10 q11 q12 sz zp pf lc dc p0 lm dg ++ (pc_Mo er (nI n) (nI na) (nI os.length) (nI t) (nI d) wa at0 wi pr lf pl bl ha ze wt pt fr si zs ct po ++ pcF fm ++ pcU u ++ pcA ar ++ pcT tf ++ pcB bf ++ pcR rf ++ pcD ddm ++ pcO oo) ++ pcL lo)
    refine ax_aload_n G d_La_law_103 rfl rfl ?_
    refine ax_callH (n := 3) G Y (ct_La_text l (lw_w xs j) n f (nI na) (nI os.length) wa (nI t) (nI d) ar o lo h4) d_La_law_104 rfl ⟨rfl, rfl, rfl, rfl, rfl, rfl, trivial⟩ rfl kh_La_text ⟨k_La_40, kt_La_text, kk_La⟩ (by decide +kernel) rfl ⟨by decide, by decide⟩ (Nat.le_of_ble_eq_true rfl) ⟨hcs.1, hcs.2⟩ (fun r hc_ hq hk_ => ?_)
    obtain ⟨rfl, f2, rfl, h1, h2⟩ := hq
    refine ax_istore G d_La_law_107 (by decide) ?_
    refine ax_aload_n G d_La_law_109 rfl rfl ?_
    refine ax_aload_n G d_La_law_110 rfl rfl ?_
    refine ax_iload G d_La_law_111 rfl ?_
    refine ax_iconst (v := 1) G d_La_law_113 (by decide) ?_
    refine ax_iadd G d_La_law_114 ?_
    rw [nI_1]
    refine ax_sca G hsc d_La_law_115 (vp_in_nI (by omega) (by omega)) ?_
    rw [nI_clamp (by omega)]
    refine ax_i2l G d_La_law_116 ?_
    refine ax_bipush (v := 32) G d_La_law_117 (by decide) ?_
    refine ax_lshl G d_La_law_119 ?_
    refine ax_aload_n G d_La_law_120 rfl rfl ?_
    refine ax_iload G d_La_law_121 rfl ?_
    refine ax_iconst (v := 2) G d_La_law_123 (by decide) ?_
    refine ax_iadd G d_La_law_124 ?_
    rw [show nI (3 * j) + 2 = nI (3 * j + 2) from nI_add _ 2]
    refine ax_sca G hsc d_La_law_125 (vp_in_nI (by omega) (by omega)) ?_
    rw [nI_clamp (by omega)]
    refine ax_i2l G d_La_law_126 ?_
    refine ax_ldc2 G d_La_law_127 k_La_38 ?_
    refine ax_land G d_La_law_130 ?_
    refine ax_lor G d_La_law_131 ?_
    refine ax_callV (n := 1) G (ct_Mo_text l (lw_w xs j) n fm _ _ _ _ _ _ _ _ _ _ _ _ _ _ _ _ _ _ _ _ _ hn) d_La_law_132 rfl ⟨rfl, rfl, trivial⟩ rfl rfl rfl kc_Mo_text ⟨k_La_45, ki_Mo_text, ks_Mo_text, kk_Mo⟩ (by decide +kernel) rfl ⟨by decide, by decide⟩ (Nat.le_of_ble_eq_true rfl) ⟨hcs.1, hcs.2⟩ (fun r hc_ hq hk_ => ?_)
    obtain ⟨rfl, fm2, rfl, h3, h5⟩ := hq.2 h4
    refine ax_istore G d_La_law_135 (by decide) ?_
    refine ax_aload_n G d_La_law_137 rfl rfl ?_
    refine ax_callV (n := 0) G (ct_Mo_thrown l _ _ _ _ _ _ _ _ _ _ _ _ _ _ _ _ _ _ _ _ _ _) d_La_law_138 rfl ⟨rfl, trivial⟩ rfl rfl rfl kc_Mo_thrown ⟨k_La_46, ki_Mo_thrown, ks_Mo_thrown, kk_Mo⟩ (by decide +kernel) rfl ⟨by decide, by decide⟩ (Nat.le_of_ble_eq_true rfl) ⟨hcs.1, hcs.2⟩ (fun r hc_ hq hk_ => ?_)
    obtain ⟨rfl, rfl⟩ := hq
    refine ax_iload G d_La_law_141 rfl ?_
    refine ax_icmp_eq (tgt := 148) G d_La_law_143 (by decide) (fun c_143 => ?_) (fun c_143 => ?_)
    · refine ax_iload G d_La_law_148 rfl ?_
      refine ax_if_ne (tgt := 165) G d_La_law_150 (by decide) (fun c_150 => ?_) (fun c_150 => ?_)
      · exact absurd rfl c_150
      · refine ax_aload_n G d_La_law_153 rfl rfl ?_
        refine ax_iconst (v := 0) G d_La_law_154 (by decide) ?_
        refine ax_lald G d_La_law_155 rfl (vp_in_nI (n := 0) (by decide) (by decide)) ?_
        refine ax_iload G d_La_law_156 rfl ?_
        refine ax_i2l G d_La_law_158 ?_
        refine ax_lcmp G d_La_law_159 ?_
        refine ax_if_eq (tgt := 165) G d_La_law_160 (by decide) (fun c_160 => ?_) (fun c_160 => ?_)
        · refine ax_goto (tgt := 435) G d_La_law_165 (by decide) ?_
          exact nxt _ _ _ _ _ _ _ _ _ _ _ _ _ _ _ _ _ _ _ _ _ _ _ _ _ _ _ _ _ _ _ _ _ _ _ _ _ _ _ _ _ _ _ _ _ _ _ _ _ _ _ _ _ _ _ h4 hna hol (fo_ext hf h1 h2) (mf_ext hfm h3 h5) ho hu ⟨rfl, rfl, rfl, rfl, rfl, trivial⟩
        · exact absurd ((lg_cmp_eq _ _).mpr rfl) c_160
    · exact absurd rfl c_143
  · skip
    refine ax_aload_n G d_La_law_80 rfl rfl ?_
    refine ax_aload_n G d_La_law_81 rfl rfl ?_
    refine ax_iload G d_La_law_82 rfl ?_
    refine ax_iconst (v := 1) G d_La_law_84 (by decide) ?_
    refine ax_iadd G d_La_law_85 ?_
    rw [nI_1]
    refine ax_sca G hsc d_La_law_86 (vp_in_nI (by omega) (by omega)) ?_
    rw [nI_clamp (by omega)]
    refine ax_i2l G d_La_law_87 ?_
    refine ax_bipush (v := 32) G d_La_law_88 (by decide) ?_
    refine ax_lshl G d_La_law_90 ?_
    refine ax_aload_n G d_La_law_91 rfl rfl ?_
    refine ax_iload G d_La_law_92 rfl ?_
    refine ax_iconst (v := 2) G d_La_law_94 (by decide) ?_
    refine ax_iadd G d_La_law_95 ?_
    rw [show nI (3 * j) + 2 = nI (3 * j + 2) from nI_add _ 2]
    refine ax_sca G hsc d_La_law_96 (vp_in_nI (by omega) (by omega)) ?_
    rw [nI_clamp (by omega)]
    refine ax_i2l G d_La_law_97 ?_
    refine ax_ldc2 G d_La_law_98 k_La_38 ?_
    refine ax_land G d_La_law_101 ?_
    refine ax_lor G d_La_law_102 ?_
    show ax_V p l e room_1 s m #[Value.ref b] below meth c D cid ad A 8 C S (lw_Z below #[Value.ref b] s) 103 [(0, .ref 40), (1, .ref 0), (2, .ref 20), (3, .ref 30), (4, .int (nI (3 * j)))] [.long (lw_w xs j), .ref 0] (pcX (nI na) (nI os.length) wa (nI t) (nI d) ar o (nI n) f q1 q2 q3 q4 q5 q6 q7 q8 q9 q10 q11 q12 sz zp pf lc dc p0 lm dg ++ (pc_Mo er (nI n) (nI na) (nI os.length) (nI t) (nI d) wa at0 wi pr lf pl bl ha ze wt pt fr si zs ct po ++ pcF fm ++ pcU u ++ pcA ar ++ pcT tf ++ pcB bf ++ pcR rf ++ pcD ddm ++ pcO oo) ++ pcL lo)
    refine ax_aload_n G d_La_law_103 rfl rfl ?_
    refine ax_callH (n := 3) G Y (ct_La_textX l htr (lw_w xs j) n f (nI na) (nI os.length) wa (nI t) (nI d) ar o lo hn (by omega)) d_La_law_104 rfl ⟨rfl, rfl, rfl, rfl, rfl, rfl, trivial⟩ rfl kh_La_text ⟨k_La_40, kt_La_text, kk_La⟩ (by decide +kernel) rfl ⟨by decide, by decide⟩ (Nat.le_of_ble_eq_true rfl) ⟨hcs.1, hcs.2⟩ (fun r hc_ hq hk_ => ?_)
    obtain ⟨rfl, rfl⟩ := hq
    refine ax_istore G d_La_law_107 (by decide) ?_
    refine ax_aload_n G d_La_law_109 rfl rfl ?_
    refine ax_aload_n G d_La_law_110 rfl rfl ?_
    refine ax_iload G d_La_law_111 rfl ?_
    refine ax_iconst (v := 1) G d_La_law_113 (by decide) ?_
    refine ax_iadd G d_La_law_114 ?_
    rw [nI_1]
    refine ax_sca G hsc d_La_law_115 (vp_in_nI (by omega) (by omega)) ?_
    rw [nI_clamp (by omega)]
    refine ax_i2l G d_La_law_116 ?_
    refine ax_bipush (v := 32) G d_La_law_117 (by decide) ?_
    refine ax_lshl G d_La_law_119 ?_
    refine ax_aload_n G d_La_law_120 rfl rfl ?_
    refine ax_iload G d_La_law_121 rfl ?_
    refine ax_iconst (v := 2) G d_La_law_123 (by decide) ?_
    refine ax_iadd G d_La_law_124 ?_
    rw [show nI (3 * j) + 2 = nI (3 * j + 2) from nI_add _ 2]
    refine ax_sca G hsc d_La_law_125 (vp_in_nI (by omega) (by omega)) ?_
    rw [nI_clamp (by omega)]
    refine ax_i2l G d_La_law_126 ?_
    refine ax_ldc2 G d_La_law_127 k_La_38 ?_
    refine ax_land G d_La_law_130 ?_
    refine ax_lor G d_La_law_131 ?_
    refine ax_callV (n := 1) G (ct_Mo_text l (lw_w xs j) n fm _ _ _ _ _ _ _ _ _ _ _ _ _ _ _ _ _ _ _ _ _ hn) d_La_law_132 rfl ⟨rfl, rfl, trivial⟩ rfl rfl rfl kc_Mo_text ⟨k_La_45, ki_Mo_text, ks_Mo_text, kk_Mo⟩ (by decide +kernel) rfl ⟨by decide, by decide⟩ (Nat.le_of_ble_eq_true rfl) ⟨hcs.1, hcs.2⟩ (fun r hc_ hq hk_ => ?_)
    obtain ⟨rfl, rfl⟩ := hq.1 (by omega)
    refine ax_istore G d_La_law_135 (by decide) ?_
    refine ax_aload_n G d_La_law_137 rfl rfl ?_
    refine ax_callV (n := 0) G (ct_Mo_thrown l _ _ _ _ _ _ _ _ _ _ _ _ _ _ _ _ _ _ _ _ _ _) d_La_law_138 rfl ⟨rfl, trivial⟩ rfl rfl rfl kc_Mo_thrown ⟨k_La_46, ki_Mo_thrown, ks_Mo_thrown, kk_Mo⟩ (by decide +kernel) rfl ⟨by decide, by decide⟩ (Nat.le_of_ble_eq_true rfl) ⟨hcs.1, hcs.2⟩ (fun r hc_ hq hk_ => ?_)
    obtain ⟨rfl, rfl⟩ := hq
    refine ax_iload G d_La_law_141 rfl ?_
    refine ax_icmp_eq (tgt := 148) G d_La_law_143 (by decide) (fun c_143 => ?_) (fun c_143 => ?_)
    · refine ax_iload G d_La_law_148 rfl ?_
      refine ax_if_ne (tgt := 165) G d_La_law_150 (by decide) (fun c_150 => ?_) (fun c_150 => ?_)
      · refine ax_goto (tgt := 435) G d_La_law_165 (by decide) ?_
        exact nxt _ _ _ _ _ _ _ _ _ _ _ _ _ _ _ _ _ _ _ _ _ _ _ _ _ _ _ _ _ _ _ _ _ _ _ _ _ _ _ _ _ _ _ _ _ _ _ _ _ _ _ _ _ _ _ hn hna hol hf hfm ho hu ⟨rfl, rfl, rfl, rfl, rfl, trivial⟩
      · exact absurd c_150 (by decide)
    · exact absurd rfl c_143
set_option maxRecDepth 20000 in
set_option maxHeartbeats 1000000 in
theorem lw_argument {p : Program} {l : Launch} {e : Env} {s : State} {m : MethodId} {below : List Frame} {meth : Method} {c : Code} {D : va_G} {cid : Nat → ClassId} {ad : Nat → Nat} {A : Nat → Prop} {b L j C S : Nat} {xs : Nat → Int32} (G : ax_G p s m #[Value.ref b] meth c lw_tbl "FormatDeskLaw" code 8 D cid ad A) (Y : ax_Y A s s.heap) (htr : l.stackTraces = false) (hsc : ax_Sc ad A s b L xs) (hL : L ≤ 1536) (hj : 3 * j + 3 ≤ L) (hcs : C + 1 ≤ room_1.cells ∧ S + 6 ≤ room_1.slots) (nxt : ∀ (n na : Nat) (os : List Nat) (t d : Nat) (wa : Int32) (ar : Nat → Int64) (o f fm u : Nat → Int32) (c0 : Nat → Nat) (q1 q2 q3 q4 q5 : Bool) (q6 : Int32) (q7 : Bool) (q8 : Int32) (q9 : Bool) (q10 : Int32) (q11 : Bool) (q12 : Int32) (sz zp : Int32) (pf : Nat → Int32) (lc dc p0 : Int32) (lm : Nat → Int64) (dg : Nat → Int32) (er : Int32) (at0 : Int32) (wi : Int32) (pr : Int32) (lf : Bool) (pl : Bool) (bl : Bool) (ha : Bool) (ze : Bool) (wt : Bool) (pt : Bool) (fr : Int32) (si : Int32) (zs : Bool) (ct : Int32) (po : Int32) (tf bf rf ddm oo : Nat → Int32) (lo : Nat → Int64) (lv : List (Nat × Value)), n ≤ 400 → na ≤ 60 → os.length ≤ 4000 → fo_is f n c0 → mf_is fm n c0 → pi_is o os → mi_is u os → ax_lsb [(0, .ref 40), (1, .ref 0), (2, .ref 20), (3, .ref 30), (4, .int (nI (3 * j)))] lv → ax_V p l e room_1 s m #[Value.ref b] below meth c D cid ad A 8 (C + 1) (S + 6) (lw_Z below #[Value.ref b] s) 435 lv [] (pcX (nI na) (nI os.length) wa (nI t) (nI d) ar o (nI n) f q1 q2 q3 q4 q5 q6 q7 q8 q9 q10 q11 q12 sz zp pf lc dc p0 lm dg ++ (pc_Mo er (nI n) (nI na) (nI os.length) (nI t) (nI d) wa at0 wi pr lf pl bl ha ze wt pt fr si zs ct po ++ pcF fm ++ pcU u ++ pcA ar ++ pcT tf ++ pcB bf ++ pcR rf ++ pcD ddm ++ pcO oo) ++ pcL lo)) (n na : Nat) (os : List Nat) (t d : Nat) (wa : Int32) (ar : Nat → Int64) (o f fm u : Nat → Int32) (c0 : Nat → Nat) (q1 q2 q3 q4 q5 : Bool) (q6 : Int32) (q7 : Bool) (q8 : Int32) (q9 : Bool) (q10 : Int32) (q11 : Bool) (q12 : Int32) (sz zp : Int32) (pf : Nat → Int32) (lc dc p0 : Int32) (lm : Nat → Int64) (dg : Nat → Int32) (er : Int32) (at0 : Int32) (wi : Int32) (pr : Int32) (lf : Bool) (pl : Bool) (bl : Bool) (ha : Bool) (ze : Bool) (wt : Bool) (pt : Bool) (fr : Int32) (si : Int32) (zs : Bool) (ct : Int32) (po : Int32) (tf bf rf ddm oo : Nat → Int32) (lo : Nat → Int64) (hn : n ≤ 400) (hna : na ≤ 60) (hol : os.length ≤ 4000) (hf : fo_is f n c0) (hfm : mf_is fm n c0) (ho : pi_is o os) (hu : mi_is u os) : ax_V p l e room_1 s m #[Value.ref b] below meth c D cid ad A 8 C S (lw_Z below #[Value.ref b] s) 168 [(0, .ref 40), (1, .ref 0), (2, .ref 20), (3, .ref 30), (4, .int (nI (3 * j)))] [] (pcX (nI na) (nI os.length) wa (nI t) (nI d) ar o (nI n) f q1 q2 q3 q4 q5 q6 q7 q8 q9 q10 q11 q12 sz zp pf lc dc p0 lm dg ++ (pc_Mo er (nI n) (nI na) (nI os.length) (nI t) (nI d) wa at0 wi pr lf pl bl ha ze wt pt fr si zs ct po ++ pcF fm ++ pcU u ++ pcA ar ++ pcT tf ++ pcB bf ++ pcR rf ++ pcD ddm ++ pcO oo) ++ pcL lo) := by
  by_cases h4 : na < 60
  · skip
    refine ax_aload_n G d_La_law_168 rfl rfl ?_
    refine ax_aload_n G d_La_law_169 rfl rfl ?_
    refine ax_iload G d_La_law_170 rfl ?_
    refine ax_iconst (v := 1) G d_La_law_172 (by decide) ?_
    refine ax_iadd G d_La_law_173 ?_
    rw [nI_1]
    refine ax_sca G hsc d_La_law_174 (vp_in_nI (by omega) (by omega)) ?_
    rw [nI_clamp (by omega)]
    refine ax_i2l G d_La_law_175 ?_
    refine ax_bipush (v := 32) G d_La_law_176 (by decide) ?_
    refine ax_lshl G d_La_law_178 ?_
    refine ax_aload_n G d_La_law_179 rfl rfl ?_
    refine ax_iload G d_La_law_180 rfl ?_
    refine ax_iconst (v := 2) G d_La_law_182 (by decide) ?_
    refine ax_iadd G d_La_law_183 ?_
    rw [show nI (3 * j) + 2 = nI (3 * j + 2) from nI_add _ 2]
    refine ax_sca G hsc d_La_law_184 (vp_in_nI (by omega) (by omega)) ?_
    rw [nI_clamp (by omega)]
    refine ax_i2l G d_La_law_185 ?_
    refine ax_ldc2 G d_La_law_186 k_La_38 ?_
    refine ax_land G d_La_law_189 ?_
    refine ax_lor G d_La_law_190 ?_
    show ax_V p l e room_1 s m #[Value.ref b] below meth c D cid ad A 8 C S (lw_Z below #[Value.ref b] s) 191 [(0, .ref 40), (1, .ref 0), (2, .ref 20), (3, .ref 30), (4, .int (nI (3 * j)))] [.long (lw_w xs j), .ref 0] (pcX (nI na) (nI os.length) wa (nI t) (nI d) ar o (nI n) f q1 q2 q3 q4 q5 q6 q7 q8 q9 q10 q11 q12 sz zp pf lc dc p0 lm dg ++ (pc_Mo er (nI n) (nI na) (nI os.length) (nI t) (nI d) wa at0 wi pr lf pl bl ha ze wt pt fr si zs ct po ++ pcF fm ++ pcU u ++ pcA ar ++ pcT tf ++ pcB bf ++ pcR rf ++ pcD ddm ++ pcO oo) ++ pcL lo)
    refine ax_aload_n G d_La_law_191 rfl rfl ?_
    refine ax_callH (n := 3) G Y (ct_La_argument l (lw_w xs j) na (nI os.length) wa (nI t) (nI d) ar o lo h4) d_La_law_192 rfl ⟨rfl, rfl, rfl, rfl, trivial⟩ rfl kh_La_argument ⟨k_La_49, kt_La_argument, kk_La⟩ (by decide +kernel) rfl ⟨by decide, by decide⟩ (Nat.le_of_ble_eq_true rfl) ⟨hcs.1, hcs.2⟩ (fun r hc_ hq hk_ => ?_)
    obtain ⟨rfl, rfl⟩ := hq
    refine ax_istore G d_La_law_195 (by decide) ?_
    refine ax_aload_n G d_La_law_197 rfl rfl ?_
    refine ax_aload_n G d_La_law_198 rfl rfl ?_
    refine ax_iload G d_La_law_199 rfl ?_
    refine ax_iconst (v := 1) G d_La_law_201 (by decide) ?_
    refine ax_iadd G d_La_law_202 ?_
    rw [nI_1]
    refine ax_sca G hsc d_La_law_203 (vp_in_nI (by omega) (by omega)) ?_
    rw [nI_clamp (by omega)]
    refine ax_i2l G d_La_law_204 ?_
    refine ax_bipush (v := 32) G d_La_law_205 (by decide) ?_
    refine ax_lshl G d_La_law_207 ?_
    refine ax_aload_n G d_La_law_208 rfl rfl ?_
    refine ax_iload G d_La_law_209 rfl ?_
    refine ax_iconst (v := 2) G d_La_law_211 (by decide) ?_
    refine ax_iadd G d_La_law_212 ?_
    rw [show nI (3 * j) + 2 = nI (3 * j + 2) from nI_add _ 2]
    refine ax_sca G hsc d_La_law_213 (vp_in_nI (by omega) (by omega)) ?_
    rw [nI_clamp (by omega)]
    refine ax_i2l G d_La_law_214 ?_
    refine ax_ldc2 G d_La_law_215 k_La_38 ?_
    refine ax_land G d_La_law_218 ?_
    refine ax_lor G d_La_law_219 ?_
    refine ax_callV (n := 1) G (ct_Mo_argument l (lw_w xs j) na ar _ _ _ _ _ _ _ _ _ _ _ _ _ _ _ _ _ _ _ _ _ hna) d_La_law_220 rfl ⟨rfl, rfl, trivial⟩ rfl rfl rfl kc_Mo_argument ⟨k_La_51, ki_Mo_argument, ks_Mo_argument, kk_Mo⟩ (by decide +kernel) rfl ⟨by decide, by decide⟩ (Nat.le_of_ble_eq_true rfl) ⟨hcs.1, hcs.2⟩ (fun r hc_ hq hk_ => ?_)
    obtain ⟨rfl, rfl⟩ := hq.2 h4
    refine ax_istore G d_La_law_223 (by decide) ?_
    refine ax_aload_n G d_La_law_225 rfl rfl ?_
    refine ax_callV (n := 0) G (ct_Mo_thrown l _ _ _ _ _ _ _ _ _ _ _ _ _ _ _ _ _ _ _ _ _ _) d_La_law_226 rfl ⟨rfl, trivial⟩ rfl rfl rfl kc_Mo_thrown ⟨k_La_46, ki_Mo_thrown, ks_Mo_thrown, kk_Mo⟩ (by decide +kernel) rfl ⟨by decide, by decide⟩ (Nat.le_of_ble_eq_true rfl) ⟨hcs.1, hcs.2⟩ (fun r hc_ hq hk_ => ?_)
    obtain ⟨rfl, rfl⟩ := hq
    refine ax_iload G d_La_law_229 rfl ?_
    refine ax_icmp_eq (tgt := 236) G d_La_law_231 (by decide) (fun c_231 => ?_) (fun c_231 => ?_)
    · refine ax_iload G d_La_law_236 rfl ?_
      refine ax_if_ne (tgt := 253) G d_La_law_238 (by decide) (fun c_238 => ?_) (fun c_238 => ?_)
      · exact absurd rfl c_238
      · refine ax_aload_n G d_La_law_241 rfl rfl ?_
        refine ax_iconst (v := 0) G d_La_law_242 (by decide) ?_
        refine ax_lald G d_La_law_243 rfl (vp_in_nI (n := 0) (by decide) (by decide)) ?_
        refine ax_iload G d_La_law_244 rfl ?_
        refine ax_i2l G d_La_law_246 ?_
        refine ax_lcmp G d_La_law_247 ?_
        refine ax_if_eq (tgt := 253) G d_La_law_248 (by decide) (fun c_248 => ?_) (fun c_248 => ?_)
        · refine ax_goto (tgt := 435) G d_La_law_253 (by decide) ?_
          exact nxt _ _ _ _ _ _ _ _ _ _ _ _ _ _ _ _ _ _ _ _ _ _ _ _ _ _ _ _ _ _ _ _ _ _ _ _ _ _ _ _ _ _ _ _ _ _ _ _ _ _ _ _ _ _ _ hn h4 hol hf hfm ho hu ⟨rfl, rfl, rfl, rfl, rfl, trivial⟩
        · exact absurd ((lg_cmp_eq _ _).mpr rfl) c_248
    · exact absurd rfl c_231
  · have e60 : na = 60 := by omega
    subst e60
    refine ax_aload_n G d_La_law_168 rfl rfl ?_
    refine ax_aload_n G d_La_law_169 rfl rfl ?_
    refine ax_iload G d_La_law_170 rfl ?_
    refine ax_iconst (v := 1) G d_La_law_172 (by decide) ?_
    refine ax_iadd G d_La_law_173 ?_
    rw [nI_1]
    refine ax_sca G hsc d_La_law_174 (vp_in_nI (by omega) (by omega)) ?_
    rw [nI_clamp (by omega)]
    refine ax_i2l G d_La_law_175 ?_
    refine ax_bipush (v := 32) G d_La_law_176 (by decide) ?_
    refine ax_lshl G d_La_law_178 ?_
    refine ax_aload_n G d_La_law_179 rfl rfl ?_
    refine ax_iload G d_La_law_180 rfl ?_
    refine ax_iconst (v := 2) G d_La_law_182 (by decide) ?_
    refine ax_iadd G d_La_law_183 ?_
    rw [show nI (3 * j) + 2 = nI (3 * j + 2) from nI_add _ 2]
    refine ax_sca G hsc d_La_law_184 (vp_in_nI (by omega) (by omega)) ?_
    rw [nI_clamp (by omega)]
    refine ax_i2l G d_La_law_185 ?_
    refine ax_ldc2 G d_La_law_186 k_La_38 ?_
    refine ax_land G d_La_law_189 ?_
    refine ax_lor G d_La_law_190 ?_
    show ax_V p l e room_1 s m #[Value.ref b] below meth c D cid ad A 8 C S (lw_Z below #[Value.ref b] s) 191 [(0, .ref 40), (1, .ref 0), (2, .ref 20), (3, .ref 30), (4, .int (nI (3 * j)))] [.long (lw_w xs j), .ref 0] (pcX (nI 60) (nI os.length) wa (nI t) (nI d) ar o (nI n) f q1 q2 q3 q4 q5 q6 q7 q8 q9 q10 q11 q12 sz zp pf lc dc p0 lm dg ++ (pc_Mo er (nI n) (nI 60) (nI os.length) (nI t) (nI d) wa at0 wi pr lf pl bl ha ze wt pt fr si zs ct po ++ pcF fm ++ pcU u ++ pcA ar ++ pcT tf ++ pcB bf ++ pcR rf ++ pcD ddm ++ pcO oo) ++ pcL lo)
    refine ax_aload_n G d_La_law_191 rfl rfl ?_
    refine ax_callH (n := 3) G Y (ct_La_argumentX l htr (lw_w xs j) (nI os.length) wa (nI t) (nI d) ar o lo) d_La_law_192 rfl ⟨rfl, rfl, rfl, rfl, trivial⟩ rfl kh_La_argument ⟨k_La_49, kt_La_argument, kk_La⟩ (by decide +kernel) rfl ⟨by decide, by decide⟩ (Nat.le_of_ble_eq_true rfl) ⟨hcs.1, hcs.2⟩ (fun r hc_ hq hk_ => ?_)
    obtain ⟨rfl, rfl⟩ := hq
    refine ax_istore G d_La_law_195 (by decide) ?_
    refine ax_aload_n G d_La_law_197 rfl rfl ?_
    refine ax_aload_n G d_La_law_198 rfl rfl ?_
    refine ax_iload G d_La_law_199 rfl ?_
    refine ax_iconst (v := 1) G d_La_law_201 (by decide) ?_
    refine ax_iadd G d_La_law_202 ?_
    rw [nI_1]
    refine ax_sca G hsc d_La_law_203 (vp_in_nI (by omega) (by omega)) ?_
    rw [nI_clamp (by omega)]
    refine ax_i2l G d_La_law_204 ?_
    refine ax_bipush (v := 32) G d_La_law_205 (by decide) ?_
    refine ax_lshl G d_La_law_207 ?_
    refine ax_aload_n G d_La_law_208 rfl rfl ?_
    refine ax_iload G d_La_law_209 rfl ?_
    refine ax_iconst (v := 2) G d_La_law_211 (by decide) ?_
    refine ax_iadd G d_La_law_212 ?_
    rw [show nI (3 * j) + 2 = nI (3 * j + 2) from nI_add _ 2]
    refine ax_sca G hsc d_La_law_213 (vp_in_nI (by omega) (by omega)) ?_
    rw [nI_clamp (by omega)]
    refine ax_i2l G d_La_law_214 ?_
    refine ax_ldc2 G d_La_law_215 k_La_38 ?_
    refine ax_land G d_La_law_218 ?_
    refine ax_lor G d_La_law_219 ?_
    refine ax_callV (n := 1) G (ct_Mo_argument l (lw_w xs j) 60 ar _ _ _ _ _ _ _ _ _ _ _ _ _ _ _ _ _ _ _ _ _ hna) d_La_law_220 rfl ⟨rfl, rfl, trivial⟩ rfl rfl rfl kc_Mo_argument ⟨k_La_51, ki_Mo_argument, ks_Mo_argument, kk_Mo⟩ (by decide +kernel) rfl ⟨by decide, by decide⟩ (Nat.le_of_ble_eq_true rfl) ⟨hcs.1, hcs.2⟩ (fun r hc_ hq hk_ => ?_)
    obtain ⟨rfl, rfl⟩ := hq.1 rfl
    refine ax_istore G d_La_law_223 (by decide) ?_
    refine ax_aload_n G d_La_law_225 rfl rfl ?_
    refine ax_callV (n := 0) G (ct_Mo_thrown l _ _ _ _ _ _ _ _ _ _ _ _ _ _ _ _ _ _ _ _ _ _) d_La_law_226 rfl ⟨rfl, trivial⟩ rfl rfl rfl kc_Mo_thrown ⟨k_La_46, ki_Mo_thrown, ks_Mo_thrown, kk_Mo⟩ (by decide +kernel) rfl ⟨by decide, by decide⟩ (Nat.le_of_ble_eq_true rfl) ⟨hcs.1, hcs.2⟩ (fun r hc_ hq hk_ => ?_)
    obtain ⟨rfl, rfl⟩ := hq
    refine ax_iload G d_La_law_229 rfl ?_
    refine ax_icmp_eq (tgt := 236) G d_La_law_231 (by decide) (fun c_231 => ?_) (fun c_231 => ?_)
    · refine ax_iload G d_La_law_236 rfl ?_
      refine ax_if_ne (tgt := 253) G d_La_law_238 (by decide) (fun c_238 => ?_) (fun c_238 => ?_)
      · refine ax_goto (tgt := 435) G d_La_law_253 (by decide) ?_
        exact nxt _ _ _ _ _ _ _ _ _ _ _ _ _ _ _ _ _ _ _ _ _ _ _ _ _ _ _ _ _ _ _ _ _ _ _ _ _ _ _ _ _ _ _ _ _ _ _ _ _ _ _ _ _ _ _ hn hna hol hf hfm ho hu ⟨rfl, rfl, rfl, rfl, rfl, trivial⟩
      · exact absurd c_238 (by decide)
    · exact absurd rfl c_231
set_option maxRecDepth 20000 in
set_option maxHeartbeats 1000000 in
theorem lw_clear {p : Program} {l : Launch} {e : Env} {s : State} {m : MethodId} {below : List Frame} {meth : Method} {c : Code} {D : va_G} {cid : Nat → ClassId} {ad : Nat → Nat} {A : Nat → Prop} {b L j C S : Nat} {xs : Nat → Int32} (G : ax_G p s m #[Value.ref b] meth c lw_tbl "FormatDeskLaw" code 8 D cid ad A) (Y : ax_Y A s s.heap) (htr : l.stackTraces = false) (hsc : ax_Sc ad A s b L xs) (hL : L ≤ 1536) (hj : 3 * j + 3 ≤ L) (hcs : C + 1 ≤ room_1.cells ∧ S + 6 ≤ room_1.slots) (nxt : ∀ (n na : Nat) (os : List Nat) (t d : Nat) (wa : Int32) (ar : Nat → Int64) (o f fm u : Nat → Int32) (c0 : Nat → Nat) (q1 q2 q3 q4 q5 : Bool) (q6 : Int32) (q7 : Bool) (q8 : Int32) (q9 : Bool) (q10 : Int32) (q11 : Bool) (q12 : Int32) (sz zp : Int32) (pf : Nat → Int32) (lc dc p0 : Int32) (lm : Nat → Int64) (dg : Nat → Int32) (er : Int32) (at0 : Int32) (wi : Int32) (pr : Int32) (lf : Bool) (pl : Bool) (bl : Bool) (ha : Bool) (ze : Bool) (wt : Bool) (pt : Bool) (fr : Int32) (si : Int32) (zs : Bool) (ct : Int32) (po : Int32) (tf bf rf ddm oo : Nat → Int32) (lo : Nat → Int64) (lv : List (Nat × Value)), n ≤ 400 → na ≤ 60 → os.length ≤ 4000 → fo_is f n c0 → mf_is fm n c0 → pi_is o os → mi_is u os → ax_lsb [(0, .ref 40), (1, .ref 0), (2, .ref 20), (3, .ref 30), (4, .int (nI (3 * j)))] lv → ax_V p l e room_1 s m #[Value.ref b] below meth c D cid ad A 8 (C + 1) (S + 6) (lw_Z below #[Value.ref b] s) 435 lv [] (pcX (nI na) (nI os.length) wa (nI t) (nI d) ar o (nI n) f q1 q2 q3 q4 q5 q6 q7 q8 q9 q10 q11 q12 sz zp pf lc dc p0 lm dg ++ (pc_Mo er (nI n) (nI na) (nI os.length) (nI t) (nI d) wa at0 wi pr lf pl bl ha ze wt pt fr si zs ct po ++ pcF fm ++ pcU u ++ pcA ar ++ pcT tf ++ pcB bf ++ pcR rf ++ pcD ddm ++ pcO oo) ++ pcL lo)) (n na : Nat) (os : List Nat) (t d : Nat) (wa : Int32) (ar : Nat → Int64) (o f fm u : Nat → Int32) (c0 : Nat → Nat) (q1 q2 q3 q4 q5 : Bool) (q6 : Int32) (q7 : Bool) (q8 : Int32) (q9 : Bool) (q10 : Int32) (q11 : Bool) (q12 : Int32) (sz zp : Int32) (pf : Nat → Int32) (lc dc p0 : Int32) (lm : Nat → Int64) (dg : Nat → Int32) (er : Int32) (at0 : Int32) (wi : Int32) (pr : Int32) (lf : Bool) (pl : Bool) (bl : Bool) (ha : Bool) (ze : Bool) (wt : Bool) (pt : Bool) (fr : Int32) (si : Int32) (zs : Bool) (ct : Int32) (po : Int32) (tf bf rf ddm oo : Nat → Int32) (lo : Nat → Int64) (hn : n ≤ 400) (hna : na ≤ 60) (hol : os.length ≤ 4000) (hf : fo_is f n c0) (hfm : mf_is fm n c0) (ho : pi_is o os) (hu : mi_is u os) : ax_V p l e room_1 s m #[Value.ref b] below meth c D cid ad A 8 C S (lw_Z below #[Value.ref b] s) 256 [(0, .ref 40), (1, .ref 0), (2, .ref 20), (3, .ref 30), (4, .int (nI (3 * j)))] [] (pcX (nI na) (nI os.length) wa (nI t) (nI d) ar o (nI n) f q1 q2 q3 q4 q5 q6 q7 q8 q9 q10 q11 q12 sz zp pf lc dc p0 lm dg ++ (pc_Mo er (nI n) (nI na) (nI os.length) (nI t) (nI d) wa at0 wi pr lf pl bl ha ze wt pt fr si zs ct po ++ pcF fm ++ pcU u ++ pcA ar ++ pcT tf ++ pcB bf ++ pcR rf ++ pcD ddm ++ pcO oo) ++ pcL lo) := by
  refine ax_wid (C := C + 1) (S := S + 6) (by omega) (by omega) ?_
  refine ax_aload_n G d_La_law_256 rfl rfl ?_
  refine ax_callV (n := 0) G (ct_Fd_clear l (nI na) (nI os.length) wa (nI t) (nI d) ar o (nI n) f) d_La_law_257 rfl ⟨rfl, rfl, rfl, rfl, rfl, trivial⟩ rfl rfl rfl kc_Fd_clear ⟨k_La_52, ki_Fd_clear, ks_Fd_clear, kk_Fd⟩ (by decide +kernel) rfl ⟨by decide, by decide⟩ (Nat.le_of_ble_eq_true rfl) ⟨hcs.1, hcs.2⟩ (fun r hc_ hq hk_ => ?_)
  obtain ⟨rfl, rfl⟩ := hq
  refine ax_aload_n G d_La_law_260 rfl rfl ?_
  refine ax_callV (n := 0) G (ct_Mo_clear l _ _ _ _ _ _ _ _ _ _ _ _ _ _ _ _ _ _ _ _ _ _) d_La_law_261 rfl ⟨rfl, trivial⟩ rfl rfl rfl kc_Mo_clear ⟨k_La_55, ki_Mo_clear, ks_Mo_clear, kk_Mo⟩ (by decide +kernel) rfl ⟨by decide, by decide⟩ (Nat.le_of_ble_eq_true rfl) ⟨hcs.1, hcs.2⟩ (fun r hc_ hq hk_ => ?_)
  obtain ⟨rfl, rfl⟩ := hq
  refine ax_goto (tgt := 435) G d_La_law_264 (by decide) ?_
  exact nxt 0 0 _ _ _ _ _ _ _ _ _ c0 _ _ _ _ _ _ _ _ _ _ _ _ _ _ _ _ _ _ _ _ _ _ _ _ _ _ _ _ _ _ _ _ _ _ _ _ _ _ _ _ _ _ _ (Nat.zero_le _) (Nat.zero_le _) hol (fun i hi => absurd hi (Nat.not_lt_zero i)) (fun i hi => absurd hi (Nat.not_lt_zero i)) ho hu ⟨rfl, rfl, rfl, rfl, rfl, trivial⟩
set_option maxRecDepth 20000 in
set_option maxHeartbeats 1000000 in
theorem lw_run {p : Program} {l : Launch} {e : Env} {s : State} {m : MethodId} {below : List Frame} {meth : Method} {c : Code} {D : va_G} {cid : Nat → ClassId} {ad : Nat → Nat} {A : Nat → Prop} {b L j C S : Nat} {xs : Nat → Int32} (G : ax_G p s m #[Value.ref b] meth c lw_tbl "FormatDeskLaw" code 8 D cid ad A) (Y : ax_Y A s s.heap) (htr : l.stackTraces = false) (hsc : ax_Sc ad A s b L xs) (hL : L ≤ 1536) (hj : 3 * j + 3 ≤ L) (hcs : C + 1 ≤ room_1.cells ∧ S + 6 ≤ room_1.slots) (nxt : ∀ (n na : Nat) (os : List Nat) (t d : Nat) (wa : Int32) (ar : Nat → Int64) (o f fm u : Nat → Int32) (c0 : Nat → Nat) (q1 q2 q3 q4 q5 : Bool) (q6 : Int32) (q7 : Bool) (q8 : Int32) (q9 : Bool) (q10 : Int32) (q11 : Bool) (q12 : Int32) (sz zp : Int32) (pf : Nat → Int32) (lc dc p0 : Int32) (lm : Nat → Int64) (dg : Nat → Int32) (er : Int32) (at0 : Int32) (wi : Int32) (pr : Int32) (lf : Bool) (pl : Bool) (bl : Bool) (ha : Bool) (ze : Bool) (wt : Bool) (pt : Bool) (fr : Int32) (si : Int32) (zs : Bool) (ct : Int32) (po : Int32) (tf bf rf ddm oo : Nat → Int32) (lo : Nat → Int64) (lv : List (Nat × Value)), n ≤ 400 → na ≤ 60 → os.length ≤ 4000 → fo_is f n c0 → mf_is fm n c0 → pi_is o os → mi_is u os → ax_lsb [(0, .ref 40), (1, .ref 0), (2, .ref 20), (3, .ref 30), (4, .int (nI (3 * j)))] lv → ax_V p l e room_1 s m #[Value.ref b] below meth c D cid ad A 8 (C + 1) (S + 6) (lw_Z below #[Value.ref b] s) 435 lv [] (pcX (nI na) (nI os.length) wa (nI t) (nI d) ar o (nI n) f q1 q2 q3 q4 q5 q6 q7 q8 q9 q10 q11 q12 sz zp pf lc dc p0 lm dg ++ (pc_Mo er (nI n) (nI na) (nI os.length) (nI t) (nI d) wa at0 wi pr lf pl bl ha ze wt pt fr si zs ct po ++ pcF fm ++ pcU u ++ pcA ar ++ pcT tf ++ pcB bf ++ pcR rf ++ pcD ddm ++ pcO oo) ++ pcL lo)) (n na : Nat) (os : List Nat) (t d : Nat) (wa : Int32) (ar : Nat → Int64) (o f fm u : Nat → Int32) (c0 : Nat → Nat) (q1 q2 q3 q4 q5 : Bool) (q6 : Int32) (q7 : Bool) (q8 : Int32) (q9 : Bool) (q10 : Int32) (q11 : Bool) (q12 : Int32) (sz zp : Int32) (pf : Nat → Int32) (lc dc p0 : Int32) (lm : Nat → Int64) (dg : Nat → Int32) (er : Int32) (at0 : Int32) (wi : Int32) (pr : Int32) (lf : Bool) (pl : Bool) (bl : Bool) (ha : Bool) (ze : Bool) (wt : Bool) (pt : Bool) (fr : Int32) (si : Int32) (zs : Bool) (ct : Int32) (po : Int32) (tf bf rf ddm oo : Nat → Int32) (lo : Nat → Int64) (hn : n ≤ 400) (hna : na ≤ 60) (hol : os.length ≤ 4000) (hf : fo_is f n c0) (hfm : mf_is fm n c0) (ho : pi_is o os) (hu : mi_is u os) : ax_V p l e room_1 s m #[Value.ref b] below meth c D cid ad A 8 C S (lw_Z below #[Value.ref b] s) 267 [(0, .ref 40), (1, .ref 0), (2, .ref 20), (3, .ref 30), (4, .int (nI (3 * j)))] [] (pcX (nI na) (nI os.length) wa (nI t) (nI d) ar o (nI n) f q1 q2 q3 q4 q5 q6 q7 q8 q9 q10 q11 q12 sz zp pf lc dc p0 lm dg ++ (pc_Mo er (nI n) (nI na) (nI os.length) (nI t) (nI d) wa at0 wi pr lf pl bl ha ze wt pt fr si zs ct po ++ pcF fm ++ pcU u ++ pcA ar ++ pcT tf ++ pcB bf ++ pcR rf ++ pcD ddm ++ pcO oo) ++ pcL lo) := by
  by_cases hw : wrA c0 n = -1
  · cases hp : pua (lt c0 n) n ar na (n + 1) 0 [] 0 0 with
    | none =>
      refine ax_aload_n G d_La_law_267 rfl rfl ?_
      refine ax_aload_n G d_La_law_268 rfl rfl ?_
      refine ax_callH (n := 2) G Y (ct_La_runN l htr n na f c0 (nI os.length) wa (nI t) (nI d) ar o q1 q2 q3 q4 q5 q6 q7 q8 q9 q10 q11 q12 sz zp pf lc dc p0 lm dg lo hf hn hna hw hp) d_La_law_269 rfl ⟨rfl, rfl, rfl, rfl, rfl, rfl, rfl, rfl, rfl, rfl, rfl, rfl, rfl, trivial⟩ rfl kh_La_run ⟨k_La_56, kt_La_run, kk_La⟩ (by decide +kernel) rfl ⟨by decide, by decide⟩ (Nat.le_of_ble_eq_true rfl) ⟨hcs.1, hcs.2⟩ (fun r hc_ hq hk_ => ?_)
      obtain ⟨rfl, o2, e1, e2, e3, e4, e5, e6, e7, e8, e9, e10, e11, e12, s2, z2, p2, l2, d2, q2, m2, g3, rfl⟩ := hq
      refine ax_istore G d_La_law_272 (by decide) ?_
      refine ax_aload_n G d_La_law_274 rfl rfl ?_
      refine ax_callV (n := 0) G (ct_Mo_run l n na c0 ar fm u tf bf rf ddm oo _ _ _ _ _ _ _ _ _ _ _ _ _ _ _ _ _ _ _ _ hfm hn hna) d_La_law_275 rfl ⟨rfl, rfl, rfl, rfl, rfl, rfl, rfl, rfl, rfl, trivial⟩ rfl rfl rfl kc_Mo_run ⟨k_La_59, ki_Mo_run, ks_Mo_run, kk_Mo⟩ (by decide +kernel) rfl ⟨by decide, by decide⟩ (Nat.le_of_ble_eq_true rfl) ⟨hcs.1, hcs.2⟩ (fun r hc_ hq hk_ => ?_)
      obtain ⟨er2, os2, t2, d3, u2, tf2, bf2, rf2, dd2, oo2, x1, x2, x3, x4, x5, x6, x7, x8, x9, x10, x11, x12, x13, x14, x15, rfl, rfl, hu2, hS⟩ := hq
      rw [rnS_n hw hp, Prod.mk.injEq, Prod.mk.injEq, Prod.mk.injEq] at hS
      obtain ⟨rfl, rfl, rfl, rfl⟩ := hS
      rw [hw]
      refine ax_istore G d_La_law_278 (by decide) ?_
      refine ax_aload_n G d_La_law_280 rfl rfl ?_
      refine ax_callV (n := 0) G (ct_Mo_thrown l _ _ _ _ _ _ _ _ _ _ _ _ _ _ _ _ _ _ _ _ _ _) d_La_law_281 rfl ⟨rfl, trivial⟩ rfl rfl rfl kc_Mo_thrown ⟨k_La_46, ki_Mo_thrown, ks_Mo_thrown, kk_Mo⟩ (by decide +kernel) rfl ⟨by decide, by decide⟩ (Nat.le_of_ble_eq_true rfl) ⟨hcs.1, hcs.2⟩ (fun r hc_ hq hk_ => ?_)
      obtain ⟨rfl, rfl⟩ := hq
      refine ax_iload G d_La_law_284 rfl ?_
      refine ax_icmp_eq (tgt := 291) G d_La_law_286 (by decide) (fun c_286 => ?_) (fun c_286 => ?_)
      · refine ax_iload G d_La_law_291 rfl ?_
        refine ax_if_ne (tgt := 308) G d_La_law_293 (by decide) (fun c_293 => ?_) (fun c_293 => ?_)
        · refine ax_goto (tgt := 435) G d_La_law_308 (by decide) ?_
          exact nxt _ _ _ _ _ _ _ _ _ _ _ _ _ _ _ _ _ _ _ _ _ _ _ _ _ _ _ _ _ _ _ _ _ _ _ _ _ _ _ _ _ _ _ _ _ _ _ _ _ _ _ _ _ _ _ hn hna (Nat.zero_le _) hf hfm (pi_nil _) hu2 ⟨rfl, rfl, rfl, rfl, rfl, trivial⟩
        · exact absurd c_293 (by decide)
      · exact absurd rfl c_286
    | some R =>
      obtain ⟨os3, t3, d4⟩ := R
      have hol3 := pua_len hp
      refine ax_aload_n G d_La_law_267 rfl rfl ?_
      refine ax_aload_n G d_La_law_268 rfl rfl ?_
      refine ax_callH (n := 2) G Y (ct_La_run l n na f c0 (nI os.length) wa (nI t) (nI d) ar o q1 q2 q3 q4 q5 q6 q7 q8 q9 q10 q11 q12 sz zp pf lc dc p0 lm dg lo os3 t3 d4 hf hn hna hw hp) d_La_law_269 rfl ⟨rfl, rfl, rfl, rfl, rfl, rfl, rfl, rfl, rfl, rfl, rfl, rfl, rfl, trivial⟩ rfl kh_La_run ⟨k_La_56, kt_La_run, kk_La⟩ (by decide +kernel) rfl ⟨by decide, by decide⟩ (Nat.le_of_ble_eq_true rfl) ⟨hcs.1, hcs.2⟩ (fun r hc_ hq hk_ => ?_)
      obtain ⟨rfl, o2, e1, e2, e3, e4, e5, e6, e7, e8, e9, e10, e11, e12, s2, z2, p2, l2, d2, q2, m2, g3, rfl, ho2⟩ := hq
      refine ax_istore G d_La_law_272 (by decide) ?_
      refine ax_aload_n G d_La_law_274 rfl rfl ?_
      refine ax_callV (n := 0) G (ct_Mo_run l n na c0 ar fm u tf bf rf ddm oo _ _ _ _ _ _ _ _ _ _ _ _ _ _ _ _ _ _ _ _ hfm hn hna) d_La_law_275 rfl ⟨rfl, rfl, rfl, rfl, rfl, rfl, rfl, rfl, rfl, trivial⟩ rfl rfl rfl kc_Mo_run ⟨k_La_59, ki_Mo_run, ks_Mo_run, kk_Mo⟩ (by decide +kernel) rfl ⟨by decide, by decide⟩ (Nat.le_of_ble_eq_true rfl) ⟨hcs.1, hcs.2⟩ (fun r hc_ hq hk_ => ?_)
      obtain ⟨er2, os2, t2, d3, u2, tf2, bf2, rf2, dd2, oo2, x1, x2, x3, x4, x5, x6, x7, x8, x9, x10, x11, x12, x13, x14, x15, rfl, rfl, hu2, hS⟩ := hq
      rw [rnS_s hw hp, Prod.mk.injEq, Prod.mk.injEq, Prod.mk.injEq] at hS
      obtain ⟨rfl, rfl, rfl, rfl⟩ := hS
      rw [hw]
      refine ax_istore G d_La_law_278 (by decide) ?_
      refine ax_aload_n G d_La_law_280 rfl rfl ?_
      refine ax_callV (n := 0) G (ct_Mo_thrown l _ _ _ _ _ _ _ _ _ _ _ _ _ _ _ _ _ _ _ _ _ _) d_La_law_281 rfl ⟨rfl, trivial⟩ rfl rfl rfl kc_Mo_thrown ⟨k_La_46, ki_Mo_thrown, ks_Mo_thrown, kk_Mo⟩ (by decide +kernel) rfl ⟨by decide, by decide⟩ (Nat.le_of_ble_eq_true rfl) ⟨hcs.1, hcs.2⟩ (fun r hc_ hq hk_ => ?_)
      obtain ⟨rfl, rfl⟩ := hq
      refine ax_iload G d_La_law_284 rfl ?_
      refine ax_icmp_eq (tgt := 291) G d_La_law_286 (by decide) (fun c_286 => ?_) (fun c_286 => ?_)
      · refine ax_iload G d_La_law_291 rfl ?_
        refine ax_if_ne (tgt := 308) G d_La_law_293 (by decide) (fun c_293 => ?_) (fun c_293 => ?_)
        · exact absurd rfl c_293
        · refine ax_aload_n G d_La_law_296 rfl rfl ?_
          refine ax_iconst (v := 0) G d_La_law_297 (by decide) ?_
          refine ax_lald G d_La_law_298 rfl (vp_in_nI (n := 0) (by decide) (by decide)) ?_
          refine ax_iload G d_La_law_299 rfl ?_
          refine ax_i2l G d_La_law_301 ?_
          refine ax_lcmp G d_La_law_302 ?_
          refine ax_if_eq (tgt := 308) G d_La_law_303 (by decide) (fun c_303 => ?_) (fun c_303 => ?_)
          · refine ax_goto (tgt := 435) G d_La_law_308 (by decide) ?_
            exact nxt _ _ _ _ _ _ _ _ _ _ _ _ _ _ _ _ _ _ _ _ _ _ _ _ _ _ _ _ _ _ _ _ _ _ _ _ _ _ _ _ _ _ _ _ _ _ _ _ _ _ _ _ _ _ _ hn hna hol3 hf hfm ho2 hu2 ⟨rfl, rfl, rfl, rfl, rfl, trivial⟩
          · exact absurd ((lg_cmp_eq _ _).mpr rfl) c_303
      · exact absurd rfl c_286
  · skip
    refine ax_aload_n G d_La_law_267 rfl rfl ?_
    refine ax_aload_n G d_La_law_268 rfl rfl ?_
    refine ax_callH (n := 2) G Y (ct_La_runW l htr n na f c0 (nI os.length) wa (nI t) (nI d) ar o q1 q2 q3 q4 q5 q6 q7 q8 q9 q10 q11 q12 sz zp pf lc dc p0 lm dg lo hf hn hw) d_La_law_269 rfl ⟨rfl, rfl, rfl, rfl, rfl, rfl, rfl, rfl, rfl, rfl, rfl, rfl, rfl, trivial⟩ rfl kh_La_run ⟨k_La_56, kt_La_run, kk_La⟩ (by decide +kernel) rfl ⟨by decide, by decide⟩ (Nat.le_of_ble_eq_true rfl) ⟨hcs.1, hcs.2⟩ (fun r hc_ hq hk_ => ?_)
    obtain ⟨rfl, o2, e1, e2, e3, e4, e5, e6, e7, e8, e9, e10, e11, e12, s2, z2, p2, l2, d2, q2, m2, g3, rfl⟩ := hq
    refine ax_istore G d_La_law_272 (by decide) ?_
    refine ax_aload_n G d_La_law_274 rfl rfl ?_
    refine ax_callV (n := 0) G (ct_Mo_run l n na c0 ar fm u tf bf rf ddm oo _ _ _ _ _ _ _ _ _ _ _ _ _ _ _ _ _ _ _ _ hfm hn hna) d_La_law_275 rfl ⟨rfl, rfl, rfl, rfl, rfl, rfl, rfl, rfl, rfl, trivial⟩ rfl rfl rfl kc_Mo_run ⟨k_La_59, ki_Mo_run, ks_Mo_run, kk_Mo⟩ (by decide +kernel) rfl ⟨by decide, by decide⟩ (Nat.le_of_ble_eq_true rfl) ⟨hcs.1, hcs.2⟩ (fun r hc_ hq hk_ => ?_)
    obtain ⟨er2, os2, t2, d3, u2, tf2, bf2, rf2, dd2, oo2, x1, x2, x3, x4, x5, x6, x7, x8, x9, x10, x11, x12, x13, x14, x15, rfl, rfl, hu2, hS⟩ := hq
    rw [rnS_w hw, Prod.mk.injEq, Prod.mk.injEq, Prod.mk.injEq] at hS
    obtain ⟨rfl, rfl, rfl, rfl⟩ := hS
    refine ax_istore G d_La_law_278 (by decide) ?_
    refine ax_aload_n G d_La_law_280 rfl rfl ?_
    refine ax_callV (n := 0) G (ct_Mo_thrown l _ _ _ _ _ _ _ _ _ _ _ _ _ _ _ _ _ _ _ _ _ _) d_La_law_281 rfl ⟨rfl, trivial⟩ rfl rfl rfl kc_Mo_thrown ⟨k_La_46, ki_Mo_thrown, ks_Mo_thrown, kk_Mo⟩ (by decide +kernel) rfl ⟨by decide, by decide⟩ (Nat.le_of_ble_eq_true rfl) ⟨hcs.1, hcs.2⟩ (fun r hc_ hq hk_ => ?_)
    obtain ⟨rfl, rfl⟩ := hq
    refine ax_iload G d_La_law_284 rfl ?_
    refine ax_icmp_eq (tgt := 291) G d_La_law_286 (by decide) (fun c_286 => ?_) (fun c_286 => ?_)
    · refine ax_iload G d_La_law_291 rfl ?_
      refine ax_if_ne (tgt := 308) G d_La_law_293 (by decide) (fun c_293 => ?_) (fun c_293 => ?_)
      · refine ax_goto (tgt := 435) G d_La_law_308 (by decide) ?_
        exact nxt _ _ _ _ _ _ _ _ _ _ _ _ _ _ _ _ _ _ _ _ _ _ _ _ _ _ _ _ _ _ _ _ _ _ _ _ _ _ _ _ _ _ _ _ _ _ _ _ _ _ _ _ _ _ _ hn hna (Nat.zero_le _) hf hfm (pi_nil _) hu2 ⟨rfl, rfl, rfl, rfl, rfl, trivial⟩
      · exact absurd c_293 (by decide)
    · exact absurd rfl c_286
set_option maxRecDepth 20000 in
set_option maxHeartbeats 1000000 in
theorem lw_wrong {p : Program} {l : Launch} {e : Env} {s : State} {m : MethodId} {below : List Frame} {meth : Method} {c : Code} {D : va_G} {cid : Nat → ClassId} {ad : Nat → Nat} {A : Nat → Prop} {b L j C S : Nat} {xs : Nat → Int32} (G : ax_G p s m #[Value.ref b] meth c lw_tbl "FormatDeskLaw" code 8 D cid ad A) (Y : ax_Y A s s.heap) (htr : l.stackTraces = false) (hsc : ax_Sc ad A s b L xs) (hL : L ≤ 1536) (hj : 3 * j + 3 ≤ L) (hcs : C + 1 ≤ room_1.cells ∧ S + 6 ≤ room_1.slots) (nxt : ∀ (n na : Nat) (os : List Nat) (t d : Nat) (wa : Int32) (ar : Nat → Int64) (o f fm u : Nat → Int32) (c0 : Nat → Nat) (q1 q2 q3 q4 q5 : Bool) (q6 : Int32) (q7 : Bool) (q8 : Int32) (q9 : Bool) (q10 : Int32) (q11 : Bool) (q12 : Int32) (sz zp : Int32) (pf : Nat → Int32) (lc dc p0 : Int32) (lm : Nat → Int64) (dg : Nat → Int32) (er : Int32) (at0 : Int32) (wi : Int32) (pr : Int32) (lf : Bool) (pl : Bool) (bl : Bool) (ha : Bool) (ze : Bool) (wt : Bool) (pt : Bool) (fr : Int32) (si : Int32) (zs : Bool) (ct : Int32) (po : Int32) (tf bf rf ddm oo : Nat → Int32) (lo : Nat → Int64) (lv : List (Nat × Value)), n ≤ 400 → na ≤ 60 → os.length ≤ 4000 → fo_is f n c0 → mf_is fm n c0 → pi_is o os → mi_is u os → ax_lsb [(0, .ref 40), (1, .ref 0), (2, .ref 20), (3, .ref 30), (4, .int (nI (3 * j)))] lv → ax_V p l e room_1 s m #[Value.ref b] below meth c D cid ad A 8 (C + 1) (S + 6) (lw_Z below #[Value.ref b] s) 435 lv [] (pcX (nI na) (nI os.length) wa (nI t) (nI d) ar o (nI n) f q1 q2 q3 q4 q5 q6 q7 q8 q9 q10 q11 q12 sz zp pf lc dc p0 lm dg ++ (pc_Mo er (nI n) (nI na) (nI os.length) (nI t) (nI d) wa at0 wi pr lf pl bl ha ze wt pt fr si zs ct po ++ pcF fm ++ pcU u ++ pcA ar ++ pcT tf ++ pcB bf ++ pcR rf ++ pcD ddm ++ pcO oo) ++ pcL lo)) (n na : Nat) (os : List Nat) (t d : Nat) (wa : Int32) (ar : Nat → Int64) (o f fm u : Nat → Int32) (c0 : Nat → Nat) (q1 q2 q3 q4 q5 : Bool) (q6 : Int32) (q7 : Bool) (q8 : Int32) (q9 : Bool) (q10 : Int32) (q11 : Bool) (q12 : Int32) (sz zp : Int32) (pf : Nat → Int32) (lc dc p0 : Int32) (lm : Nat → Int64) (dg : Nat → Int32) (er : Int32) (at0 : Int32) (wi : Int32) (pr : Int32) (lf : Bool) (pl : Bool) (bl : Bool) (ha : Bool) (ze : Bool) (wt : Bool) (pt : Bool) (fr : Int32) (si : Int32) (zs : Bool) (ct : Int32) (po : Int32) (tf bf rf ddm oo : Nat → Int32) (lo : Nat → Int64) (hn : n ≤ 400) (hna : na ≤ 60) (hol : os.length ≤ 4000) (hf : fo_is f n c0) (hfm : mf_is fm n c0) (ho : pi_is o os) (hu : mi_is u os) : ax_V p l e room_1 s m #[Value.ref b] below meth c D cid ad A 8 C S (lw_Z below #[Value.ref b] s) 311 [(0, .ref 40), (1, .ref 0), (2, .ref 20), (3, .ref 30), (4, .int (nI (3 * j)))] [] (pcX (nI na) (nI os.length) wa (nI t) (nI d) ar o (nI n) f q1 q2 q3 q4 q5 q6 q7 q8 q9 q10 q11 q12 sz zp pf lc dc p0 lm dg ++ (pc_Mo er (nI n) (nI na) (nI os.length) (nI t) (nI d) wa at0 wi pr lf pl bl ha ze wt pt fr si zs ct po ++ pcF fm ++ pcU u ++ pcA ar ++ pcT tf ++ pcB bf ++ pcR rf ++ pcD ddm ++ pcO oo) ++ pcL lo) := by
  refine ax_wid (C := C + 1) (S := S + 6) (by omega) (by omega) ?_
  refine ax_aload_n G d_La_law_311 rfl rfl ?_
  refine ax_callV (n := 0) G (ct_Fd_wrong l (nI na) (nI os.length) wa (nI t) (nI d) ar o) d_La_law_312 rfl ⟨rfl, rfl, rfl, trivial⟩ rfl rfl rfl kc_Fd_wrong ⟨k_La_60, ki_Fd_wrong, ks_Fd_wrong, kk_Fd⟩ (by decide +kernel) rfl ⟨by decide, by decide⟩ (Nat.le_of_ble_eq_true rfl) ⟨hcs.1, hcs.2⟩ (fun r hc_ hq hk_ => ?_)
  obtain ⟨rfl, rfl⟩ := hq
  refine ax_aload_n G d_La_law_315 rfl rfl ?_
  refine ax_callV (n := 0) G (ct_Mo_wrong l _ _ _ _ _ _ _ _ _ _ _ _ _ _ _ _ _ _ _ _ _ _) d_La_law_316 rfl ⟨rfl, trivial⟩ rfl rfl rfl kc_Mo_wrong ⟨k_La_63, ki_Mo_wrong, ks_Mo_wrong, kk_Mo⟩ (by decide +kernel) rfl ⟨by decide, by decide⟩ (Nat.le_of_ble_eq_true rfl) ⟨hcs.1, hcs.2⟩ (fun r hc_ hq hk_ => ?_)
  obtain ⟨rfl, rfl⟩ := hq
  refine ax_icmp_eq (tgt := 435) G d_La_law_319 (by decide) (fun c_319 => ?_) (fun c_319 => ?_)
  · exact nxt _ _ _ _ _ _ _ _ _ _ _ _ _ _ _ _ _ _ _ _ _ _ _ _ _ _ _ _ _ _ _ _ _ _ _ _ _ _ _ _ _ _ _ _ _ _ _ _ _ _ _ _ _ _ _ hn hna hol hf hfm ho hu ⟨rfl, rfl, rfl, rfl, rfl, trivial⟩
  · exact absurd rfl c_319
set_option maxRecDepth 20000 in
set_option maxHeartbeats 1000000 in
theorem lw_letters {p : Program} {l : Launch} {e : Env} {s : State} {m : MethodId} {below : List Frame} {meth : Method} {c : Code} {D : va_G} {cid : Nat → ClassId} {ad : Nat → Nat} {A : Nat → Prop} {b L j C S : Nat} {xs : Nat → Int32} (G : ax_G p s m #[Value.ref b] meth c lw_tbl "FormatDeskLaw" code 8 D cid ad A) (Y : ax_Y A s s.heap) (htr : l.stackTraces = false) (hsc : ax_Sc ad A s b L xs) (hL : L ≤ 1536) (hj : 3 * j + 3 ≤ L) (hcs : C + 1 ≤ room_1.cells ∧ S + 6 ≤ room_1.slots) (nxt : ∀ (n na : Nat) (os : List Nat) (t d : Nat) (wa : Int32) (ar : Nat → Int64) (o f fm u : Nat → Int32) (c0 : Nat → Nat) (q1 q2 q3 q4 q5 : Bool) (q6 : Int32) (q7 : Bool) (q8 : Int32) (q9 : Bool) (q10 : Int32) (q11 : Bool) (q12 : Int32) (sz zp : Int32) (pf : Nat → Int32) (lc dc p0 : Int32) (lm : Nat → Int64) (dg : Nat → Int32) (er : Int32) (at0 : Int32) (wi : Int32) (pr : Int32) (lf : Bool) (pl : Bool) (bl : Bool) (ha : Bool) (ze : Bool) (wt : Bool) (pt : Bool) (fr : Int32) (si : Int32) (zs : Bool) (ct : Int32) (po : Int32) (tf bf rf ddm oo : Nat → Int32) (lo : Nat → Int64) (lv : List (Nat × Value)), n ≤ 400 → na ≤ 60 → os.length ≤ 4000 → fo_is f n c0 → mf_is fm n c0 → pi_is o os → mi_is u os → ax_lsb [(0, .ref 40), (1, .ref 0), (2, .ref 20), (3, .ref 30), (4, .int (nI (3 * j)))] lv → ax_V p l e room_1 s m #[Value.ref b] below meth c D cid ad A 8 (C + 1) (S + 6) (lw_Z below #[Value.ref b] s) 435 lv [] (pcX (nI na) (nI os.length) wa (nI t) (nI d) ar o (nI n) f q1 q2 q3 q4 q5 q6 q7 q8 q9 q10 q11 q12 sz zp pf lc dc p0 lm dg ++ (pc_Mo er (nI n) (nI na) (nI os.length) (nI t) (nI d) wa at0 wi pr lf pl bl ha ze wt pt fr si zs ct po ++ pcF fm ++ pcU u ++ pcA ar ++ pcT tf ++ pcB bf ++ pcR rf ++ pcD ddm ++ pcO oo) ++ pcL lo)) (n na : Nat) (os : List Nat) (t d : Nat) (wa : Int32) (ar : Nat → Int64) (o f fm u : Nat → Int32) (c0 : Nat → Nat) (q1 q2 q3 q4 q5 : Bool) (q6 : Int32) (q7 : Bool) (q8 : Int32) (q9 : Bool) (q10 : Int32) (q11 : Bool) (q12 : Int32) (sz zp : Int32) (pf : Nat → Int32) (lc dc p0 : Int32) (lm : Nat → Int64) (dg : Nat → Int32) (er : Int32) (at0 : Int32) (wi : Int32) (pr : Int32) (lf : Bool) (pl : Bool) (bl : Bool) (ha : Bool) (ze : Bool) (wt : Bool) (pt : Bool) (fr : Int32) (si : Int32) (zs : Bool) (ct : Int32) (po : Int32) (tf bf rf ddm oo : Nat → Int32) (lo : Nat → Int64) (hn : n ≤ 400) (hna : na ≤ 60) (hol : os.length ≤ 4000) (hf : fo_is f n c0) (hfm : mf_is fm n c0) (ho : pi_is o os) (hu : mi_is u os) : ax_V p l e room_1 s m #[Value.ref b] below meth c D cid ad A 8 C S (lw_Z below #[Value.ref b] s) 324 [(0, .ref 40), (1, .ref 0), (2, .ref 20), (3, .ref 30), (4, .int (nI (3 * j)))] [] (pcX (nI na) (nI os.length) wa (nI t) (nI d) ar o (nI n) f q1 q2 q3 q4 q5 q6 q7 q8 q9 q10 q11 q12 sz zp pf lc dc p0 lm dg ++ (pc_Mo er (nI n) (nI na) (nI os.length) (nI t) (nI d) wa at0 wi pr lf pl bl ha ze wt pt fr si zs ct po ++ pcF fm ++ pcU u ++ pcA ar ++ pcT tf ++ pcB bf ++ pcR rf ++ pcD ddm ++ pcO oo) ++ pcL lo) := by
  by_cases hx : xs (3 * j + 1) < 0 ∨ nI ((os.length + 7) / 8) ≤ xs (3 * j + 1)
  · skip
    refine ax_aload_n G d_La_law_324 rfl rfl ?_
    refine ax_aload_n G d_La_law_325 rfl rfl ?_
    refine ax_iload G d_La_law_326 rfl ?_
    refine ax_iconst (v := 1) G d_La_law_328 (by decide) ?_
    refine ax_iadd G d_La_law_329 ?_
    rw [nI_1]
    refine ax_sca G hsc d_La_law_330 (vp_in_nI (by omega) (by omega)) ?_
    rw [nI_clamp (by omega)]
    refine ax_aload_n G d_La_law_331 rfl rfl ?_
    refine ax_callH (n := 3) G Y (ct_La_lettersX l htr (xs (3 * j + 1)) os.length (nI na) wa (nI t) (nI d) ar o lo hol hx) d_La_law_332 rfl ⟨rfl, rfl, rfl, rfl, trivial⟩ rfl kh_La_letters ⟨k_La_64, kt_La_letters, kk_La⟩ (by decide +kernel) rfl ⟨by decide, by decide⟩ (Nat.le_of_ble_eq_true rfl) ⟨hcs.1, hcs.2⟩ (fun r hc_ hq hk_ => ?_)
    obtain ⟨rfl, rfl⟩ := hq
    refine ax_istore G d_La_law_335 (by decide) ?_
    refine ax_aload_n G d_La_law_337 rfl rfl ?_
    refine ax_aload_n G d_La_law_338 rfl rfl ?_
    refine ax_iload G d_La_law_339 rfl ?_
    refine ax_iconst (v := 1) G d_La_law_341 (by decide) ?_
    refine ax_iadd G d_La_law_342 ?_
    rw [nI_1]
    refine ax_sca G hsc d_La_law_343 (vp_in_nI (by omega) (by omega)) ?_
    rw [nI_clamp (by omega)]
    refine ax_callV (n := 1) G (ct_Mo_letters l (xs (3 * j + 1)) os u _ _ _ _ _ _ _ _ _ _ _ _ _ _ _ _ _ _ _ _ _ hu hol) d_La_law_344 rfl ⟨rfl, rfl, trivial⟩ rfl rfl rfl kc_Mo_letters ⟨k_La_67, ki_Mo_letters, ks_Mo_letters, kk_Mo⟩ (by decide +kernel) rfl ⟨by decide, by decide⟩ (Nat.le_of_ble_eq_true rfl) ⟨hcs.1, hcs.2⟩ (fun r hc_ hq hk_ => ?_)
    obtain ⟨rfl, rfl⟩ := hq.1 hx
    refine ax_lstore G d_La_law_347 (by decide) ?_
    refine ax_aload_n G d_La_law_349 rfl rfl ?_
    refine ax_callV (n := 0) G (ct_Mo_thrown l _ _ _ _ _ _ _ _ _ _ _ _ _ _ _ _ _ _ _ _ _ _) d_La_law_350 rfl ⟨rfl, trivial⟩ rfl rfl rfl kc_Mo_thrown ⟨k_La_46, ki_Mo_thrown, ks_Mo_thrown, kk_Mo⟩ (by decide +kernel) rfl ⟨by decide, by decide⟩ (Nat.le_of_ble_eq_true rfl) ⟨hcs.1, hcs.2⟩ (fun r hc_ hq hk_ => ?_)
    obtain ⟨rfl, rfl⟩ := hq
    refine ax_iload G d_La_law_353 rfl ?_
    refine ax_icmp_eq (tgt := 360) G d_La_law_355 (by decide) (fun c_355 => ?_) (fun c_355 => ?_)
    · refine ax_iload G d_La_law_360 rfl ?_
      refine ax_if_ne (tgt := 376) G d_La_law_362 (by decide) (fun c_362 => ?_) (fun c_362 => ?_)
      · refine ax_goto (tgt := 435) G d_La_law_376 (by decide) ?_
        exact nxt _ _ _ _ _ _ _ _ _ _ _ _ _ _ _ _ _ _ _ _ _ _ _ _ _ _ _ _ _ _ _ _ _ _ _ _ _ _ _ _ _ _ _ _ _ _ _ _ _ _ _ _ _ _ _ hn hna hol hf hfm ho hu ⟨rfl, rfl, rfl, rfl, rfl, trivial⟩
      · exact absurd c_362 (by decide)
    · exact absurd rfl c_355
  · obtain ⟨k, hk31, hk⟩ := nI_of (fun z => hx (Or.inl z))
    have hk2 : k < (os.length + 7) / 8 := by
      rcases Nat.lt_or_ge k ((os.length + 7) / 8) with z | z
      · exact z
      · exact absurd (Or.inr (by rw [hk]; exact nI_le z hk31)) hx
    refine ax_aload_n G d_La_law_324 rfl rfl ?_
    refine ax_aload_n G d_La_law_325 rfl rfl ?_
    refine ax_iload G d_La_law_326 rfl ?_
    refine ax_iconst (v := 1) G d_La_law_328 (by decide) ?_
    refine ax_iadd G d_La_law_329 ?_
    rw [nI_1]
    refine ax_sca G hsc d_La_law_330 (vp_in_nI (by omega) (by omega)) ?_
    rw [nI_clamp (by omega)]
    rw [hk]
    refine ax_aload_n G d_La_law_331 rfl rfl ?_
    refine ax_callH (n := 3) G Y (ct_La_letters l k os (nI na) wa (nI t) (nI d) ar o lo ho hol hk2) d_La_law_332 rfl ⟨rfl, rfl, rfl, rfl, trivial⟩ rfl kh_La_letters ⟨k_La_64, kt_La_letters, kk_La⟩ (by decide +kernel) rfl ⟨by decide, by decide⟩ (Nat.le_of_ble_eq_true rfl) ⟨hcs.1, hcs.2⟩ (fun r hc_ hq hk_ => ?_)
    obtain ⟨rfl, rfl⟩ := hq
    refine ax_istore G d_La_law_335 (by decide) ?_
    refine ax_aload_n G d_La_law_337 rfl rfl ?_
    refine ax_aload_n G d_La_law_338 rfl rfl ?_
    refine ax_iload G d_La_law_339 rfl ?_
    refine ax_iconst (v := 1) G d_La_law_341 (by decide) ?_
    refine ax_iadd G d_La_law_342 ?_
    rw [nI_1]
    refine ax_sca G hsc d_La_law_343 (vp_in_nI (by omega) (by omega)) ?_
    rw [nI_clamp (by omega)]
    rw [hk]
    refine ax_callV (n := 1) G (ct_Mo_letters l (nI k) os u _ _ _ _ _ _ _ _ _ _ _ _ _ _ _ _ _ _ _ _ _ hu hol) d_La_law_344 rfl ⟨rfl, rfl, trivial⟩ rfl rfl rfl kc_Mo_letters ⟨k_La_67, ki_Mo_letters, ks_Mo_letters, kk_Mo⟩ (by decide +kernel) rfl ⟨by decide, by decide⟩ (Nat.le_of_ble_eq_true rfl) ⟨hcs.1, hcs.2⟩ (fun r hc_ hq hk_ => ?_)
    obtain ⟨rfl, rfl⟩ := hq.2 k rfl hk2
    refine ax_lstore G d_La_law_347 (by decide) ?_
    refine ax_aload_n G d_La_law_349 rfl rfl ?_
    refine ax_callV (n := 0) G (ct_Mo_thrown l _ _ _ _ _ _ _ _ _ _ _ _ _ _ _ _ _ _ _ _ _ _) d_La_law_350 rfl ⟨rfl, trivial⟩ rfl rfl rfl kc_Mo_thrown ⟨k_La_46, ki_Mo_thrown, ks_Mo_thrown, kk_Mo⟩ (by decide +kernel) rfl ⟨by decide, by decide⟩ (Nat.le_of_ble_eq_true rfl) ⟨hcs.1, hcs.2⟩ (fun r hc_ hq hk_ => ?_)
    obtain ⟨rfl, rfl⟩ := hq
    refine ax_iload G d_La_law_353 rfl ?_
    refine ax_icmp_eq (tgt := 360) G d_La_law_355 (by decide) (fun c_355 => ?_) (fun c_355 => ?_)
    · refine ax_iload G d_La_law_360 rfl ?_
      refine ax_if_ne (tgt := 376) G d_La_law_362 (by decide) (fun c_362 => ?_) (fun c_362 => ?_)
      · exact absurd rfl c_362
      · refine ax_aload_n G d_La_law_365 rfl rfl ?_
        refine ax_iconst (v := 0) G d_La_law_366 (by decide) ?_
        refine ax_lald G d_La_law_367 rfl (vp_in_nI (n := 0) (by decide) (by decide)) ?_
        refine ax_lload G d_La_law_368 rfl ?_
        refine ax_lcmp G d_La_law_370 ?_
        refine ax_if_eq (tgt := 376) G d_La_law_371 (by decide) (fun c_371 => ?_) (fun c_371 => ?_)
        · refine ax_goto (tgt := 435) G d_La_law_376 (by decide) ?_
          exact nxt _ _ _ _ _ _ _ _ _ _ _ _ _ _ _ _ _ _ _ _ _ _ _ _ _ _ _ _ _ _ _ _ _ _ _ _ _ _ _ _ _ _ _ _ _ _ _ _ _ _ _ _ _ _ _ hn hna hol hf hfm ho hu ⟨rfl, rfl, rfl, rfl, rfl, trivial⟩
        · exact absurd ((lg_cmp_eq _ _).mpr rfl) c_371
    · exact absurd rfl c_355
set_option maxRecDepth 20000 in
set_option maxHeartbeats 1000000 in
theorem lw_count {p : Program} {l : Launch} {e : Env} {s : State} {m : MethodId} {below : List Frame} {meth : Method} {c : Code} {D : va_G} {cid : Nat → ClassId} {ad : Nat → Nat} {A : Nat → Prop} {b L j C S : Nat} {xs : Nat → Int32} (G : ax_G p s m #[Value.ref b] meth c lw_tbl "FormatDeskLaw" code 8 D cid ad A) (Y : ax_Y A s s.heap) (htr : l.stackTraces = false) (hsc : ax_Sc ad A s b L xs) (hL : L ≤ 1536) (hj : 3 * j + 3 ≤ L) (hcs : C + 1 ≤ room_1.cells ∧ S + 6 ≤ room_1.slots) (nxt : ∀ (n na : Nat) (os : List Nat) (t d : Nat) (wa : Int32) (ar : Nat → Int64) (o f fm u : Nat → Int32) (c0 : Nat → Nat) (q1 q2 q3 q4 q5 : Bool) (q6 : Int32) (q7 : Bool) (q8 : Int32) (q9 : Bool) (q10 : Int32) (q11 : Bool) (q12 : Int32) (sz zp : Int32) (pf : Nat → Int32) (lc dc p0 : Int32) (lm : Nat → Int64) (dg : Nat → Int32) (er : Int32) (at0 : Int32) (wi : Int32) (pr : Int32) (lf : Bool) (pl : Bool) (bl : Bool) (ha : Bool) (ze : Bool) (wt : Bool) (pt : Bool) (fr : Int32) (si : Int32) (zs : Bool) (ct : Int32) (po : Int32) (tf bf rf ddm oo : Nat → Int32) (lo : Nat → Int64) (lv : List (Nat × Value)), n ≤ 400 → na ≤ 60 → os.length ≤ 4000 → fo_is f n c0 → mf_is fm n c0 → pi_is o os → mi_is u os → ax_lsb [(0, .ref 40), (1, .ref 0), (2, .ref 20), (3, .ref 30), (4, .int (nI (3 * j)))] lv → ax_V p l e room_1 s m #[Value.ref b] below meth c D cid ad A 8 (C + 1) (S + 6) (lw_Z below #[Value.ref b] s) 435 lv [] (pcX (nI na) (nI os.length) wa (nI t) (nI d) ar o (nI n) f q1 q2 q3 q4 q5 q6 q7 q8 q9 q10 q11 q12 sz zp pf lc dc p0 lm dg ++ (pc_Mo er (nI n) (nI na) (nI os.length) (nI t) (nI d) wa at0 wi pr lf pl bl ha ze wt pt fr si zs ct po ++ pcF fm ++ pcU u ++ pcA ar ++ pcT tf ++ pcB bf ++ pcR rf ++ pcD ddm ++ pcO oo) ++ pcL lo)) (n na : Nat) (os : List Nat) (t d : Nat) (wa : Int32) (ar : Nat → Int64) (o f fm u : Nat → Int32) (c0 : Nat → Nat) (q1 q2 q3 q4 q5 : Bool) (q6 : Int32) (q7 : Bool) (q8 : Int32) (q9 : Bool) (q10 : Int32) (q11 : Bool) (q12 : Int32) (sz zp : Int32) (pf : Nat → Int32) (lc dc p0 : Int32) (lm : Nat → Int64) (dg : Nat → Int32) (er : Int32) (at0 : Int32) (wi : Int32) (pr : Int32) (lf : Bool) (pl : Bool) (bl : Bool) (ha : Bool) (ze : Bool) (wt : Bool) (pt : Bool) (fr : Int32) (si : Int32) (zs : Bool) (ct : Int32) (po : Int32) (tf bf rf ddm oo : Nat → Int32) (lo : Nat → Int64) (hn : n ≤ 400) (hna : na ≤ 60) (hol : os.length ≤ 4000) (hf : fo_is f n c0) (hfm : mf_is fm n c0) (ho : pi_is o os) (hu : mi_is u os) : ax_V p l e room_1 s m #[Value.ref b] below meth c D cid ad A 8 C S (lw_Z below #[Value.ref b] s) 379 [(0, .ref 40), (1, .ref 0), (2, .ref 20), (3, .ref 30), (4, .int (nI (3 * j)))] [] (pcX (nI na) (nI os.length) wa (nI t) (nI d) ar o (nI n) f q1 q2 q3 q4 q5 q6 q7 q8 q9 q10 q11 q12 sz zp pf lc dc p0 lm dg ++ (pc_Mo er (nI n) (nI na) (nI os.length) (nI t) (nI d) wa at0 wi pr lf pl bl ha ze wt pt fr si zs ct po ++ pcF fm ++ pcU u ++ pcA ar ++ pcT tf ++ pcB bf ++ pcR rf ++ pcD ddm ++ pcO oo) ++ pcL lo) := by
  by_cases hx : 0 ≤ xs (3 * j + 1) ∧ xs (3 * j + 1) ≤ 4
  · skip
    refine ax_aload_n G d_La_law_379 rfl rfl ?_
    refine ax_aload_n G d_La_law_380 rfl rfl ?_
    refine ax_iload G d_La_law_381 rfl ?_
    refine ax_iconst (v := 1) G d_La_law_383 (by decide) ?_
    refine ax_iadd G d_La_law_384 ?_
    rw [nI_1]
    refine ax_sca G hsc d_La_law_385 (vp_in_nI (by omega) (by omega)) ?_
    rw [nI_clamp (by omega)]
    refine ax_aload_n G d_La_law_386 rfl rfl ?_
    refine ax_callH (n := 3) G Y (ct_La_count l (xs (3 * j + 1)) (nI n) f (nI na) (nI os.length) wa (nI t) (nI d) ar o lo hx) d_La_law_387 rfl ⟨rfl, rfl, rfl, rfl, rfl, rfl, trivial⟩ rfl kh_La_count ⟨k_La_68, kt_La_count, kk_La⟩ (by decide +kernel) rfl ⟨by decide, by decide⟩ (Nat.le_of_ble_eq_true rfl) ⟨hcs.1, hcs.2⟩ (fun r hc_ hq hk_ => ?_)
    obtain ⟨rfl, rfl⟩ := hq
    refine ax_istore G d_La_law_390 (by decide) ?_
    refine ax_aload_n G d_La_law_392 rfl rfl ?_
    refine ax_aload_n G d_La_law_393 rfl rfl ?_
    refine ax_iload G d_La_law_394 rfl ?_
    refine ax_iconst (v := 1) G d_La_law_396 (by decide) ?_
    refine ax_iadd G d_La_law_397 ?_
    rw [nI_1]
    refine ax_sca G hsc d_La_law_398 (vp_in_nI (by omega) (by omega)) ?_
    rw [nI_clamp (by omega)]
    refine ax_callV (n := 1) G (ct_Mo_count l (xs (3 * j + 1)) _ _ _ _ _ _ _ _ _ _ _ _ _ _ _ _ _ _ _ _ _ _) d_La_law_399 rfl ⟨rfl, trivial⟩ rfl rfl rfl kc_Mo_count ⟨k_La_70, ki_Mo_count, ks_Mo_count, kk_Mo⟩ (by decide +kernel) rfl ⟨by decide, by decide⟩ (Nat.le_of_ble_eq_true rfl) ⟨hcs.1, hcs.2⟩ (fun r hc_ hq hk_ => ?_)
    obtain ⟨rfl, rfl⟩ := hq.2 hx
    refine ax_istore G d_La_law_402 (by decide) ?_
    refine ax_aload_n G d_La_law_404 rfl rfl ?_
    refine ax_callV (n := 0) G (ct_Mo_thrown l _ _ _ _ _ _ _ _ _ _ _ _ _ _ _ _ _ _ _ _ _ _) d_La_law_405 rfl ⟨rfl, trivial⟩ rfl rfl rfl kc_Mo_thrown ⟨k_La_46, ki_Mo_thrown, ks_Mo_thrown, kk_Mo⟩ (by decide +kernel) rfl ⟨by decide, by decide⟩ (Nat.le_of_ble_eq_true rfl) ⟨hcs.1, hcs.2⟩ (fun r hc_ hq hk_ => ?_)
    obtain ⟨rfl, rfl⟩ := hq
    refine ax_iload G d_La_law_408 rfl ?_
    refine ax_icmp_eq (tgt := 415) G d_La_law_410 (by decide) (fun c_410 => ?_) (fun c_410 => ?_)
    · refine ax_iload G d_La_law_415 rfl ?_
      refine ax_if_ne (tgt := 432) G d_La_law_417 (by decide) (fun c_417 => ?_) (fun c_417 => ?_)
      · exact absurd rfl c_417
      · refine ax_aload_n G d_La_law_420 rfl rfl ?_
        refine ax_iconst (v := 0) G d_La_law_421 (by decide) ?_
        refine ax_lald G d_La_law_422 rfl (vp_in_nI (n := 0) (by decide) (by decide)) ?_
        refine ax_iload G d_La_law_423 rfl ?_
        refine ax_i2l G d_La_law_425 ?_
        refine ax_lcmp G d_La_law_426 ?_
        refine ax_if_eq (tgt := 432) G d_La_law_427 (by decide) (fun c_427 => ?_) (fun c_427 => ?_)
        · refine ax_goto (tgt := 435) G d_La_law_432 (by decide) ?_
          exact nxt _ _ _ _ _ _ _ _ _ _ _ _ _ _ _ _ _ _ _ _ _ _ _ _ _ _ _ _ _ _ _ _ _ _ _ _ _ _ _ _ _ _ _ _ _ _ _ _ _ _ _ _ _ _ _ hn hna hol hf hfm ho hu ⟨rfl, rfl, rfl, rfl, rfl, trivial⟩
        · exact absurd ((lg_cmp_eq _ _).mpr rfl) c_427
    · exact absurd rfl c_410
  · skip
    refine ax_aload_n G d_La_law_379 rfl rfl ?_
    refine ax_aload_n G d_La_law_380 rfl rfl ?_
    refine ax_iload G d_La_law_381 rfl ?_
    refine ax_iconst (v := 1) G d_La_law_383 (by decide) ?_
    refine ax_iadd G d_La_law_384 ?_
    rw [nI_1]
    refine ax_sca G hsc d_La_law_385 (vp_in_nI (by omega) (by omega)) ?_
    rw [nI_clamp (by omega)]
    refine ax_aload_n G d_La_law_386 rfl rfl ?_
    refine ax_callH (n := 3) G Y (ct_La_countX l htr (xs (3 * j + 1)) (nI n) f (nI na) (nI os.length) wa (nI t) (nI d) ar o lo hx) d_La_law_387 rfl ⟨rfl, rfl, rfl, rfl, rfl, rfl, trivial⟩ rfl kh_La_count ⟨k_La_68, kt_La_count, kk_La⟩ (by decide +kernel) rfl ⟨by decide, by decide⟩ (Nat.le_of_ble_eq_true rfl) ⟨hcs.1, hcs.2⟩ (fun r hc_ hq hk_ => ?_)
    obtain ⟨rfl, rfl⟩ := hq
    refine ax_istore G d_La_law_390 (by decide) ?_
    refine ax_aload_n G d_La_law_392 rfl rfl ?_
    refine ax_aload_n G d_La_law_393 rfl rfl ?_
    refine ax_iload G d_La_law_394 rfl ?_
    refine ax_iconst (v := 1) G d_La_law_396 (by decide) ?_
    refine ax_iadd G d_La_law_397 ?_
    rw [nI_1]
    refine ax_sca G hsc d_La_law_398 (vp_in_nI (by omega) (by omega)) ?_
    rw [nI_clamp (by omega)]
    refine ax_callV (n := 1) G (ct_Mo_count l (xs (3 * j + 1)) _ _ _ _ _ _ _ _ _ _ _ _ _ _ _ _ _ _ _ _ _ _) d_La_law_399 rfl ⟨rfl, trivial⟩ rfl rfl rfl kc_Mo_count ⟨k_La_70, ki_Mo_count, ks_Mo_count, kk_Mo⟩ (by decide +kernel) rfl ⟨by decide, by decide⟩ (Nat.le_of_ble_eq_true rfl) ⟨hcs.1, hcs.2⟩ (fun r hc_ hq hk_ => ?_)
    obtain ⟨rfl, rfl⟩ := hq.1 hx
    refine ax_istore G d_La_law_402 (by decide) ?_
    refine ax_aload_n G d_La_law_404 rfl rfl ?_
    refine ax_callV (n := 0) G (ct_Mo_thrown l _ _ _ _ _ _ _ _ _ _ _ _ _ _ _ _ _ _ _ _ _ _) d_La_law_405 rfl ⟨rfl, trivial⟩ rfl rfl rfl kc_Mo_thrown ⟨k_La_46, ki_Mo_thrown, ks_Mo_thrown, kk_Mo⟩ (by decide +kernel) rfl ⟨by decide, by decide⟩ (Nat.le_of_ble_eq_true rfl) ⟨hcs.1, hcs.2⟩ (fun r hc_ hq hk_ => ?_)
    obtain ⟨rfl, rfl⟩ := hq
    refine ax_iload G d_La_law_408 rfl ?_
    refine ax_icmp_eq (tgt := 415) G d_La_law_410 (by decide) (fun c_410 => ?_) (fun c_410 => ?_)
    · refine ax_iload G d_La_law_415 rfl ?_
      refine ax_if_ne (tgt := 432) G d_La_law_417 (by decide) (fun c_417 => ?_) (fun c_417 => ?_)
      · refine ax_goto (tgt := 435) G d_La_law_432 (by decide) ?_
        exact nxt _ _ _ _ _ _ _ _ _ _ _ _ _ _ _ _ _ _ _ _ _ _ _ _ _ _ _ _ _ _ _ _ _ _ _ _ _ _ _ _ _ _ _ _ _ _ _ _ _ _ _ _ _ _ _ hn hna hol hf hfm ho hu ⟨rfl, rfl, rfl, rfl, rfl, trivial⟩
      · exact absurd c_417 (by decide)
    · exact absurd rfl c_410

