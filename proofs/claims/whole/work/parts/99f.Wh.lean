/-! the law, whole -/
set_option maxRecDepth 20000 in
set_option maxHeartbeats 1000000 in
theorem lw_loop {p : Program} {l : Launch} {e : Env} {s : State} {m : MethodId} {below : List Frame} {meth : Method} {c : Code} {D : va_G} {cid : Nat → ClassId} {ad : Nat → Nat} {b L : Nat} {xs : Nat → Int32} (G : ax_G p s m #[Value.ref b] meth c lw_tbl "FormatDeskLaw" code 8 D cid ad (fun q : Nat => s.heap.size ≤ q)) (hr : meth.sig.returnType = ret) (Y : ax_Y (fun q : Nat => s.heap.size ≤ q) s s.heap) (htr : l.stackTraces = false) (hsc : ax_Sc ad (fun q : Nat => s.heap.size ≤ q) s b L xs) (hL : L ≤ 1536) : ∀ (k j : Nat) (n na : Nat) (os : List Nat) (t d : Nat) (wa : Int32) (ar : Nat → Int64) (o f fm u : Nat → Int32) (c0 : Nat → Nat) (q1 q2 q3 q4 q5 : Bool) (q6 : Int32) (q7 : Bool) (q8 : Int32) (q9 : Bool) (q10 : Int32) (q11 : Bool) (q12 : Int32) (sz zp : Int32) (pf : Nat → Int32) (lc dc p0 : Int32) (lm : Nat → Int64) (dg : Nat → Int32) (er : Int32) (at0 : Int32) (wi : Int32) (pr : Int32) (lf : Bool) (pl : Bool) (bl : Bool) (ha : Bool) (ze : Bool) (wt : Bool) (pt : Bool) (fr : Int32) (si : Int32) (zs : Bool) (ct : Int32) (po : Int32) (tf bf rf ddm oo : Nat → Int32) (lo : Nat → Int64) (lv : List (Nat × Value)), L < 3 * (j + k) + 3 → 3 * j ≤ L → n ≤ 400 → na ≤ 60 → os.length ≤ 4000 → fo_is f n c0 → mf_is fm n c0 → pi_is o os → mi_is u os → ax_lsb [(0, .ref 40), (1, .ref 0), (2, .ref 20), (3, .ref 30), (4, .int (nI (3 * j)))] lv → ax_V p l e room_1 s m #[Value.ref b] below meth c D cid ad (fun q : Nat => s.heap.size ≤ q) 8 (22 + j) (15449 + 6 * j) (lw_Z below #[Value.ref b] s) 23 lv [] (pcX (nI na) (nI os.length) wa (nI t) (nI d) ar o (nI n) f q1 q2 q3 q4 q5 q6 q7 q8 q9 q10 q11 q12 sz zp pf lc dc p0 lm dg ++ (pc_Mo er (nI n) (nI na) (nI os.length) (nI t) (nI d) wa at0 wi pr lf pl bl ha ze wt pt fr si zs ct po ++ pcF fm ++ pcU u ++ pcA ar ++ pcT tf ++ pcB bf ++ pcR rf ++ pcD ddm ++ pcO oo) ++ pcL lo) := by
  intro k
  induction k with
  | zero =>
    intro j n na os t d wa ar o f fm u c0 q1 q2 q3 q4 q5 q6 q7 q8 q9 q10 q11 q12 sz zp pf lc dc p0 lm dg er at0 wi pr lf pl bl ha ze wt pt fr si zs ct po tf bf rf ddm oo lo lv hk hj hn hna hol hf hfm ho hu hlv
    refine ax_less (lv' := [(0, .ref 40), (1, .ref 0), (2, .ref 20), (3, .ref 30), (4, .int (nI (3 * j)))]) ?_ hlv
    have e1 : (Int32.ofNat L - 3).toInt = (L : Int) - 3 := by
      show (nI L - nI 3).toInt = _
      rw [pk_sub_toInt (by omega) (by decide)]; rfl
    refine ax_iload G d_La_law_23 rfl ?_
    refine ax_aload_n G d_La_law_25 rfl rfl ?_
    refine ax_scl G hsc d_La_law_26 ?_
    refine ax_iconst (v := 3) G d_La_law_27 (by decide) ?_
    refine ax_isub G d_La_law_28 ?_
    refine ax_icmp_gt (tgt := 441) G d_La_law_29 (by decide) (fun c_29 => ?_) (fun c_29 => ?_)
    · refine ax_iconst (v := 1) G d_La_law_441 (by decide) ?_
      intro H locs ls hP hD hS hl
      exact va_forget (fun q hq => hS.2.2 q hq) (W.widen (k := 1052) (n := 23677) (by omega) (by omega) (lw_ret G.1 G.2.1 hr G.2.2.2.2.2.2.2.1 d_La_law_442))
    · exact absurd ((i32_lt _ _).mpr (by rw [e1, nI_toInt (by omega)]; omega)) c_29
  | succ k ih =>
    intro j n na os t d wa ar o f fm u c0 q1 q2 q3 q4 q5 q6 q7 q8 q9 q10 q11 q12 sz zp pf lc dc p0 lm dg er at0 wi pr lf pl bl ha ze wt pt fr si zs ct po tf bf rf ddm oo lo lv hk hj hn hna hol hf hfm ho hu hlv
    refine ax_less (lv' := [(0, .ref 40), (1, .ref 0), (2, .ref 20), (3, .ref 30), (4, .int (nI (3 * j)))]) ?_ hlv
    have e1 : (Int32.ofNat L - 3).toInt = (L : Int) - 3 := by
      show (nI L - nI 3).toInt = _
      rw [pk_sub_toInt (by omega) (by decide)]; rfl
    refine ax_iload G d_La_law_23 rfl ?_
    refine ax_aload_n G d_La_law_25 rfl rfl ?_
    refine ax_scl G hsc d_La_law_26 ?_
    refine ax_iconst (v := 3) G d_La_law_27 (by decide) ?_
    refine ax_isub G d_La_law_28 ?_
    refine ax_icmp_gt (tgt := 441) G d_La_law_29 (by decide) (fun c_29 => ?_) (fun c_29 => ?_)
    · refine ax_iconst (v := 1) G d_La_law_441 (by decide) ?_
      intro H locs ls hP hD hS hl
      exact va_forget (fun q hq => hS.2.2 q hq) (W.widen (k := 1052) (n := 23677) (by omega) (by omega) (lw_ret G.1 G.2.1 hr G.2.2.2.2.2.2.2.1 d_La_law_442))
    · have hj3 : 3 * j + 3 ≤ L := by
        rcases Nat.lt_or_ge L (3 * j + 3) with z | z
        · exact absurd ((i32_lt _ _).mpr (by rw [e1, nI_toInt (by omega)]; omega)) c_29
        · exact z
      have hcs : 22 + j + 1 ≤ room_1.cells ∧ 15449 + 6 * j + 6 ≤ room_1.slots := ⟨by show 22 + j + 1 ≤ 1052; omega, by show 15449 + 6 * j + 6 ≤ 23677; omega⟩
      have nxt : ∀ (n na : Nat) (os : List Nat) (t d : Nat) (wa : Int32) (ar : Nat → Int64) (o f fm u : Nat → Int32) (c0 : Nat → Nat) (q1 q2 q3 q4 q5 : Bool) (q6 : Int32) (q7 : Bool) (q8 : Int32) (q9 : Bool) (q10 : Int32) (q11 : Bool) (q12 : Int32) (sz zp : Int32) (pf : Nat → Int32) (lc dc p0 : Int32) (lm : Nat → Int64) (dg : Nat → Int32) (er : Int32) (at0 : Int32) (wi : Int32) (pr : Int32) (lf : Bool) (pl : Bool) (bl : Bool) (ha : Bool) (ze : Bool) (wt : Bool) (pt : Bool) (fr : Int32) (si : Int32) (zs : Bool) (ct : Int32) (po : Int32) (tf bf rf ddm oo : Nat → Int32) (lo : Nat → Int64) (lv : List (Nat × Value)), n ≤ 400 → na ≤ 60 → os.length ≤ 4000 → fo_is f n c0 → mf_is fm n c0 → pi_is o os → mi_is u os → ax_lsb [(0, .ref 40), (1, .ref 0), (2, .ref 20), (3, .ref 30), (4, .int (nI (3 * j)))] lv → ax_V p l e room_1 s m #[Value.ref b] below meth c D cid ad (fun q : Nat => s.heap.size ≤ q) 8 (22 + j + 1) (15449 + 6 * j + 6) (lw_Z below #[Value.ref b] s) 435 lv [] (pcX (nI na) (nI os.length) wa (nI t) (nI d) ar o (nI n) f q1 q2 q3 q4 q5 q6 q7 q8 q9 q10 q11 q12 sz zp pf lc dc p0 lm dg ++ (pc_Mo er (nI n) (nI na) (nI os.length) (nI t) (nI d) wa at0 wi pr lf pl bl ha ze wt pt fr si zs ct po ++ pcF fm ++ pcU u ++ pcA ar ++ pcT tf ++ pcB bf ++ pcR rf ++ pcD ddm ++ pcO oo) ++ pcL lo) := by
        intro n na os t d wa ar o f fm u c0 q1 q2 q3 q4 q5 q6 q7 q8 q9 q10 q11 q12 sz zp pf lc dc p0 lm dg er at0 wi pr lf pl bl ha ze wt pt fr si zs ct po tf bf rf ddm oo lo lv hn hna hol hf hfm ho hu hlv
        refine ax_less (lv' := [(0, .ref 40), (1, .ref 0), (2, .ref 20), (3, .ref 30), (4, .int (nI (3 * j)))]) ?_ hlv
        refine ax_iincZ (z := 3) G d_La_law_435 rfl (by decide) (by decide) ?_
        refine ax_goto (tgt := 23) G d_La_law_438 (by decide) ?_
        rw [show nI (3 * j) + 3 = nI (3 * (j + 1)) from nI_add (3 * j) 3]
        exact ih (j + 1) n na os t d wa ar o f fm u c0 q1 q2 q3 q4 q5 q6 q7 q8 q9 q10 q11 q12 sz zp pf lc dc p0 lm dg er at0 wi pr lf pl bl ha ze wt pt fr si zs ct po tf bf rf ddm oo lo _ (by omega) (by omega) hn hna hol hf hfm ho hu ⟨rfl, rfl, rfl, rfl, rfl, trivial⟩
      refine ax_aload_n G d_La_law_32 rfl rfl ?_
      refine ax_iload G d_La_law_33 rfl ?_
      refine ax_sca G hsc d_La_law_35 (vp_in_nI (by omega) (by omega)) ?_
      rw [nI_clamp (by omega)]
      refine ax_bipush (v := 7) G d_La_law_36 (by decide) ?_
      refine ax_iand G d_La_law_38 ?_
      rw [pk_and _ 3 (by decide), show (2 : Nat) ^ 3 = 8 from rfl]
      have hy : (xs (3 * j)).toBitVec.toNat % 8 < 8 := Nat.mod_lt _ (by decide)
      generalize (xs (3 * j)).toBitVec.toNat % 8 = y at hy
      rcases (show y = 0 ∨ y = 1 ∨ y = 2 ∨ y = 3 ∨ y = 4 ∨ y = 5 ∨ y = 6 ∨ y = 7 by omega) with rfl | rfl | rfl | rfl | rfl | rfl | rfl | rfl
      · refine ax_tabIn (off := 41) (tgt := 80) G d_La_law_39 (by decide) (by decide) (by decide) (by decide) ?_
        exact lw_text G Y htr hsc hL hj3 hcs nxt n na os t d wa ar o f fm u c0 q1 q2 q3 q4 q5 q6 q7 q8 q9 q10 q11 q12 sz zp pf lc dc p0 lm dg er at0 wi pr lf pl bl ha ze wt pt fr si zs ct po tf bf rf ddm oo lo hn hna hol hf hfm ho hu
      · refine ax_tabIn (off := 129) (tgt := 168) G d_La_law_39 (by decide) (by decide) (by decide) (by decide) ?_
        exact lw_argument G Y htr hsc hL hj3 hcs nxt n na os t d wa ar o f fm u c0 q1 q2 q3 q4 q5 q6 q7 q8 q9 q10 q11 q12 sz zp pf lc dc p0 lm dg er at0 wi pr lf pl bl ha ze wt pt fr si zs ct po tf bf rf ddm oo lo hn hna hol hf hfm ho hu
      · refine ax_tabIn (off := 217) (tgt := 256) G d_La_law_39 (by decide) (by decide) (by decide) (by decide) ?_
        exact lw_clear G Y htr hsc hL hj3 hcs nxt n na os t d wa ar o f fm u c0 q1 q2 q3 q4 q5 q6 q7 q8 q9 q10 q11 q12 sz zp pf lc dc p0 lm dg er at0 wi pr lf pl bl ha ze wt pt fr si zs ct po tf bf rf ddm oo lo hn hna hol hf hfm ho hu
      · refine ax_tabIn (off := 228) (tgt := 267) G d_La_law_39 (by decide) (by decide) (by decide) (by decide) ?_
        exact lw_run G Y htr hsc hL hj3 hcs nxt n na os t d wa ar o f fm u c0 q1 q2 q3 q4 q5 q6 q7 q8 q9 q10 q11 q12 sz zp pf lc dc p0 lm dg er at0 wi pr lf pl bl ha ze wt pt fr si zs ct po tf bf rf ddm oo lo hn hna hol hf hfm ho hu
      · refine ax_tabIn (off := 272) (tgt := 311) G d_La_law_39 (by decide) (by decide) (by decide) (by decide) ?_
        exact lw_wrong G Y htr hsc hL hj3 hcs nxt n na os t d wa ar o f fm u c0 q1 q2 q3 q4 q5 q6 q7 q8 q9 q10 q11 q12 sz zp pf lc dc p0 lm dg er at0 wi pr lf pl bl ha ze wt pt fr si zs ct po tf bf rf ddm oo lo hn hna hol hf hfm ho hu
      · refine ax_tabIn (off := 285) (tgt := 324) G d_La_law_39 (by decide) (by decide) (by decide) (by decide) ?_
        exact lw_letters G Y htr hsc hL hj3 hcs nxt n na os t d wa ar o f fm u c0 q1 q2 q3 q4 q5 q6 q7 q8 q9 q10 q11 q12 sz zp pf lc dc p0 lm dg er at0 wi pr lf pl bl ha ze wt pt fr si zs ct po tf bf rf ddm oo lo hn hna hol hf hfm ho hu
      · refine ax_tabIn (off := 340) (tgt := 379) G d_La_law_39 (by decide) (by decide) (by decide) (by decide) ?_
        exact lw_count G Y htr hsc hL hj3 hcs nxt n na os t d wa ar o f fm u c0 q1 q2 q3 q4 q5 q6 q7 q8 q9 q10 q11 q12 sz zp pf lc dc p0 lm dg er at0 wi pr lf pl bl ha ze wt pt fr si zs ct po tf bf rf ddm oo lo hn hna hol hf hfm ho hu
      · refine ax_tabOut (tgt := 435) G d_La_law_39 (by decide) (by decide) ?_
        refine ax_wid (C := 22 + j + 1) (S := 15449 + 6 * j + 6) (by omega) (by omega) ?_
        exact nxt n na os t d wa ar o f fm u c0 q1 q2 q3 q4 q5 q6 q7 q8 q9 q10 q11 q12 sz zp pf lc dc p0 lm dg er at0 wi pr lf pl bl ha ze wt pt fr si zs ct po tf bf rf ddm oo lo _ hn hna hol hf hfm ho hu ⟨rfl, rfl, rfl, rfl, rfl, trivial⟩
set_option maxRecDepth 20000 in
set_option maxHeartbeats 1000000 in
theorem whole_start {p : Program} {e : Env} {s : State} {m : MethodId} {below : List Frame} {meth : Method} {c : Code} (l : Launch) (htr : l.stackTraces = false) {b L : Nat} {xs : Nat → Int32} (hL : L ≤ 1536) (C0 : lw_At p s m meth c b L xs) : W p l e room_1 s m #[Value.ref b] below meth c s.heap [] 0 0 (lw_Z below #[Value.ref b] s) (entryFrame m ([Value.ref b] : List Value).toArray 8) := by
  obtain ⟨hx, hb, hr, hml, hown, hts, hX, hbl, hlocks, hgv⟩ := id C0
  have hA : ∀ a : Nat, a < s.heap.size → ¬ (fun q : Nat => s.heap.size ≤ q) a := fun a h => Nat.not_le.mpr h
  obtain ⟨D, cid, hK⟩ := ax_Ks hts
  obtain ⟨ad0, hX0⟩ := ax_Xs hts hgv hA
  have Y := ax_Ys hts hgv hA
  have hX1 : ax_X (ax_up ad0 40 b) (fun q : Nat => s.heap.size ≤ q) s s.heap := ax_X_ag (ax_up_ag ad0 40 b) (ax_k1 (by decide)) hX0
  have h40 := ax_up_s ad0 40 b
  generalize ax_up ad0 40 b = ad at hX1 h40
  have G : ax_G p s m #[Value.ref b] meth c lw_tbl "FormatDeskLaw" code 8 D cid ad (fun q : Nat => s.heap.size ≤ q) := ⟨hx, hb, hml, hown, hts, hK, fun q hq => hq, hlocks, ax_nestN hts, ax_big_tbl, hX1⟩
  have hl := lv_entry ([.ref b]) (n := 8) (Nat.le_of_ble_eq_true rfl)
  rw [lg_entry_eq]
  generalize (lg_sl ([.ref b]) ++ List.replicate (8 - (lg_sl ([.ref b])).length) Slot.unset).toArray = ls at hl ⊢
  have hl : lv_has ls 8 [(0, .ref b)] := hl
  have main : ax_V p l e room_1 s m #[Value.ref b] below meth c D cid ad (fun q : Nat => s.heap.size ≤ q) 8 0 0 (lw_Z below #[Value.ref b] s) 0 [(0, .ref 40)] [] [] := by
    refine ax_new (k := 0) (ci := 5) (fs := [.null, .null, .int 0, .null, .int 0, .int 0, .int 0, .int 0, .null, .null]) G d_La_law_0 ⟨k_La_8, wi_Fd, kk_Fd⟩ rfl (by decide +kernel) rfl (by decide) ⟨rfl, rfl, rfl⟩ ⟨Nat.le_of_ble_eq_true rfl, Nat.le_of_ble_eq_true rfl⟩ (fun ad_0 g_0 G => ?_)
    refine ax_dup G d_La_law_3 rfl ?_
    refine ax_callI G (ct_Fd_init l) d_La_law_4 ⟨rfl, trivial⟩ rfl ⟨rfl, rfl, rfl⟩ (ax_kn rfl) (fun _ _ z => z.1) kc_Fd_init ⟨k_La_34, ki_Fd_init, kk_Fd⟩ rfl (by decide +kernel) ⟨by decide, by decide⟩ (Nat.le_of_ble_eq_true rfl) ⟨by decide, by decide⟩ (fun hc_ ad_4 g_4 G hq => ?_)
    obtain ⟨-, rfl⟩ := hq
    refine ax_astore_n G d_La_law_7 rfl (by decide) ?_
    refine ax_new (k := 20) (ci := 6) (fs := [.int 0, .int 0, .int 0, .int 0, .int 0, .int 0, .int 0, .null, .null, .null, .int 0, .int 0, .int 0, .int 0, .int 0, .int 0, .int 0, .int 0, .int 0, .int 0, .null, .null, .int 0, .int 0, .int 0, .null, .null, .null, .int 0, .int 0]) G d_La_law_8 ⟨k_La_35, wi_Mo, kk_Mo⟩ rfl (by decide +kernel) rfl (by decide) ⟨rfl, rfl, rfl⟩ ⟨Nat.le_of_ble_eq_true rfl, Nat.le_of_ble_eq_true rfl⟩ (fun ad_8 g_8 G => ?_)
    refine ax_dup G d_La_law_11 rfl ?_
    refine ax_callI G (ct_Mo_init l) d_La_law_12 ⟨rfl, trivial⟩ rfl ⟨rfl, rfl, rfl⟩ (ax_kn rfl) (fun _ _ z => z.1) kc_Mo_init ⟨k_La_37, ki_Mo_init, kk_Mo⟩ rfl (by decide +kernel) ⟨by decide, by decide⟩ (Nat.le_of_ble_eq_true rfl) ⟨by decide, by decide⟩ (fun hc_ ad_12 g_12 G hq => ?_)
    obtain ⟨-, rfl⟩ := hq
    refine ax_astore_n G d_La_law_15 rfl (by decide) ?_
    refine ax_iconst (v := 1) G d_La_law_16 (by decide) ?_
    refine ax_newa (k := 30) (t := 2) (N' := 1) (a0 := (1, .inr (.inl fun _ => 0))) G d_La_law_17 rfl rfl wa_long (fun _ => rfl) (by decide) (by decide) (by decide) (by decide) ⟨rfl, rfl, rfl⟩ ⟨Nat.le_of_ble_eq_true rfl, Nat.le_of_ble_eq_true rfl⟩ (fun ad_17 g_17 G => ?_)
    refine ax_astore_n G d_La_law_19 rfl (by decide) ?_
    refine ax_iconst (v := 0) G d_La_law_20 (by decide) ?_
    refine ax_istore G d_La_law_21 (by decide) ?_
    have e40 : ad_17 40 = b := by
      rw [g_17 40 (by decide), g_12 40 (by decide), g_8 40 (by decide), g_4 40 (by decide), g_0 40 (by decide)]; exact h40
    have hsc : ax_Sc ad_17 (fun q : Nat => s.heap.size ≤ q) s b L xs := ⟨e40, hX, hbl, Nat.not_le.mpr hbl⟩
    exact lw_loop G hr Y htr hsc hL L 0 0 0 [] 0 0 (-1) z64 z32 z32 z32 z32 (fun _ => 0) false false false false false 0 false 0 false 0 false 0 0 (-1) z32 0 0 1 z64 z32 0 0 0 0 false false false false false false false 0 0 false 0 0 z32 z32 z32 z32 z32 z64 _ (by omega) (by omega) (Nat.zero_le _) (Nat.zero_le _) (Nat.zero_le _) (fun i hi => absurd hi (Nat.not_lt_zero i)) (fun i hi => absurd hi (Nat.not_lt_zero i)) (pi_nil _) (mi_nil _) ⟨rfl, rfl, rfl, rfl, rfl, trivial⟩
  refine main s.heap [] ls (fun k q h => by simp [ax_w] at h) ⟨fun i j p q h => by simp [ax_w] at h, fun k q h => by simp [ax_w] at h⟩ va_S.rf ?_
  show lv_has ls 8 [(0, .ref (ad 40))]
  rw [h40]
  exact hl
theorem lw_tr {l : Launch} (h : l.flags = flags0) : l.stackTraces = false := by
  unfold Launch.stackTraces
  rw [h]
  decide +kernel
set_option maxHeartbeats 4000000 in
theorem lw_walk (l : Launch) (htr : l.stackTraces = false) (b : Addr) (xs : List Int32) : MetFree l x (headSpec (Jvm.Cond.code x code maxLocals ret :: tables_1) room_1) (lw_P b xs) (fun _ _ _ _ _ => True) lw_Q := by
  refine MetFree.of_bodyS (code := code) (maxLocals := maxLocals) (ret := ret) (by decide) ?_ ?_
  · intro args s m h hn
    obtain ⟨meth, c, h1, h2, h3, h4, h5, h6, -, -⟩ := Cond.code_spec hn (atoms_spec (ws := Jvm.Cond.code x code maxLocals ret :: tables_1) h _ List.mem_cons_self)
    exact ⟨meth, c, h1, h2, h3, h4, h5, h6⟩
  · intro p e s m args below meth c s₁ B hml0 hP _
    obtain ⟨rfl, hx, hbd, hgv⟩ := hP
    obtain ⟨scr, harrAt, hlist, hof, hsmall⟩ := hx
    obtain ⟨hcb, hkn, -, -⟩ := State.arrayAt?_spec harrAt
    have hown : s.vm.findClass R_law = some m.cls := findClass_of_methodNamed B.named
    have hts0 : ∀ c ∈ (Jvm.Cond.code x code maxLocals ret :: tables_1), c.before #[Value.ref b] s = true := atoms_spec (ws := Jvm.Cond.code x code maxLocals ret :: tables_1) B.pre
    have hts : ∀ w ∈ lw_tbl, w.before #[Value.ref b] s = true := k2_hts_sels lw_privs (fun w hw => hts0 w (List.mem_cons_of_mem _ hw)) lw_privs_ok
    have hml : c.maxLocals = 8 := B.maxLocals_eq (hts0 _ List.mem_cons_self)
    have X₀ : Stand p l e room_1 s m #[Value.ref b] below meth c s₁ [] 0 0 := Stand.of_body B
    have hh0 : s₁.heap = s.heap := by rw [B.state]; rfl
    have hsz : scr.slots.size = xs.length := by rw [← Array.length_toList, hlist, List.length_map]
    have hval : ∀ j : Nat, j < xs.length → scr.slots[j]? = some (.int (xs.getD j 0)) := fun j hj => by
      rw [← Array.getElem?_toList, hlist]
      simp [hj]
    have hbl : b < s.heap.size := (Array.getElem?_eq_some_iff.mp hcb).1
    have hX : va_X b xs.length (fun j => xs.getD j 0) s s.heap := ⟨scr, hcb, hof, hkn, hsz, hval⟩
    have K : W p l e room_1 s m #[Value.ref b] below meth c s₁.heap [] 0 0 (lw_Z below #[Value.ref b] s) (entryFrame m ([Value.ref b] : List Value).toArray 8) := by
      rw [hh0]
      exact whole_start l htr hbd ⟨B.exec, B.bytes, B.returns, hml, hown, hts, hX, hbl, B.notSynchronized, hgv⟩
    obtain ⟨t, a1, o, b1, b2, b3⟩ := K s₁ rfl X₀
    exact ⟨t, o, a1, b1, b2, b3⟩
theorem lw_pre_spec {args : Array Value} {s : State} (h : (Jvm.Cond.and given_1 narrow_1).before args s = true) (hr : rest_1_c.before args s = true) : ∃ (b : Addr) (xs : List Int32), lw_P b xs args s := by
  have hs := flat_of_before _ h
  have hq := flat_of_before _ hr
  have hc : (Cond.count 1).before args s = true := hs _ (by decide +kernel)
  have harr : (Cond.arrayOf (.arg 0) .int).before args s = true := hs _ (by decide +kernel)
  have hle : (Cond.le (.length (.arg 0)) (.int 1536)).before args s = true := hs _ (by decide +kernel)
  have hlen : (Cond.isInt (.length (.arg 0))).before args s = true := hq _ (by decide +kernel)
  have hall : (Cond.all (.arg 0) (.isInt (.elem (.arg 0) (.index 0)))).before args s = true := hq _ (by decide +kernel)
  obtain ⟨b, xs, hb, hx⟩ := State.ints_of_pre rfl harr hlen hall
  have hsm : xs.length < 2 ^ 31 := hx.choose_spec.2.2.2
  have hev : (Term.length (.arg 0)).eval args s none [] s = some (.int xs.length.toInt32) := hx.length_eval hb
  have hv := Cond.le_ints hev (show (Term.int 1536).eval args s none [] s = some (.int 1536) from rfl)
  have hd : xs.length.toInt32 ≤ 1536 := by
    simpa [Cond.before, Cond.holds, hv] using hle
  have hN : xs.length ≤ 1536 := (Int32.ofNat_le_ofNat hsm (by decide)).mp (show Int32.ofNat xs.length ≤ Int32.ofNat 1536 from hd)
  exact ⟨b, xs, Cond.one_arg hc (show args[0]? = some (.ref b) from hb), hx, hN, h⟩
theorem lw_comes (l : Launch) (htr : l.stackTraces = false) : Comes l x (Jvm.Cond.code x code maxLocals ret :: tables_1) room_1 (fun tb e args s => Calls_1 tb e args s ∧ rest_1 tb e args s ∧ Pre_1 tb e args s)
    (fun _ _ args s o t => lw_Q args s o t) := by
  intro p e ha hc hk s m args below hf hfit hheap happ hpre
  obtain ⟨b, xs, hP⟩ := lw_pre_spec hpre.2.2 hpre.2.1
  obtain ⟨k, o, h1, h2, h3, hQ⟩ := lw_walk l htr b xs p e ha hc hk s m args below hf ((Spec.applies_iff_loose hf).mp happ).1 hP trivial
  exact ⟨k, o, h1, h2, h3, hQ⟩
theorem lw_frame {s t : State} {o : Outcome} {args : Array Value} (h : Framed s o t [] 1052 23677) :
    Framed s o t (fieldLocs frame_1_writes args s ++ arrayLocs frame_1_arrays args s ++ staticLocs frame_1_statics s) 1052 23677 := h
theorem lw_limb (L : Cond) (hL : ∀ (args : Array Value) (s t : State), L.after args s (.returned (some (.int 1))) t = true) :
    ArmFor flags0 classFile x code maxLocals ret World_1 tables_1 room_1 Calls_1 rest_1 Pre_1
      (fun tb e a s o t => postC L tb e a s o t ∧ Framed s o t (fieldLocs frame_1_writes a s ++ arrayLocs frame_1_arrays a s ++ staticLocs frame_1_statics s) 1052 23677) := by
  intro l hfl _ _ p e ha hc hk s m args below hf hfit hheap happ hpre
  obtain ⟨k, o, h1, h2, h3, rfl, hF⟩ := lw_comes l (lw_tr hfl) p e ha hc hk s m args below hf hfit hheap happ hpre
  exact ⟨k, _, h1, h2, h3, hL args s _, lw_frame hF⟩
theorem i_vc : Claimed_1_1 ∧ Claimed_1_2 := ⟨lw_limb limb_1_1 (fun args s t => by simp [limb_1_1, Cond.after, Cond.holds, Cond.value]), lw_limb limb_1_2 (fun args s t => Cond.after_iff.mpr (by
  first | (rw [show limb_1_2 = Cond.eq .result (.int 1) from rfl, Cond.eq_ints (x := 1) (y := 1) rfl rfl]; simp; done) | (simp [limb_1_2, Cond.value, Term.eval]; done)))⟩
