/-! FormatDeskLaw: text, argument, run, letters, count -/
abbrev pcL (lo : Nat → Int64) : ax_H := [(30, .inl (2, 1, .inr (.inl lo)))]
set_option maxRecDepth 20000 in
set_option maxHeartbeats 1000000 in
theorem ct_La_text (l : Launch) (w : Int64) (n : Nat) (f : Nat → Int32) (ac oq wa tk dd : Int32) (ar : Nat → Int64) (o : Nat → Int32) (lo : Nat → Int64) (h4 : n + octs w ≤ 400) : ax_CH l y_La_text c_La_text 5 (some .int) [(0, 9, 12, 13)] 10 [.ref 0, .long w, .ref 30] (pc_Fd ac oq wa tk dd ar o ++ pc_Fo (nI n) f ++ pcL lo) (fun r h => r = some (.int 0) ∧ ∃ f', h = pc_Fd ac oq wa tk dd ar o ++ pc_Fo (nI (n + octs w)) f' ++ pcL (vp_updL lo 0 (nI (n + octs w)).toInt64) ∧ (∀ i, i < n → f' i = f i) ∧ ∀ i, i < octs w → f' (n + i) = (nI (oc w i)).toInt8.toInt32) := by
  refine ax_ofH (by decide) (Nat.le_of_ble_eq_true rfl) ?_
  intro p e s m args below meth c D cid ad A Qc G Y htab hr E
  refine ax_aload_n G d_La_text_0 rfl rfl ?_
  refine ax_iconst (v := 0) G d_La_text_1 (by decide) ?_
  refine ax_aload_n G d_La_text_2 rfl rfl ?_
  refine ax_lload_n G d_La_text_3 rfl rfl ?_
  refine ax_callV (n := 1) G (ct_Fd_text l w n f ac oq wa tk dd ar o h4) d_La_text_4 rfl ⟨rfl, rfl, rfl, rfl, rfl, trivial⟩ rfl rfl rfl kc_Fd_text ⟨k_La_7, ki_Fd_text, ks_Fd_text, kk_Fd⟩ (by decide +kernel) rfl ⟨by decide, by decide⟩ (Nat.le_of_ble_eq_true rfl) ⟨by decide, by decide⟩ (fun r hc_ hq hk_ => ?_)
  obtain ⟨rfl, f2, rfl, h1, h2⟩ := hq
  refine ax_i2l G d_La_text_7 ?_
  refine ax_last G d_La_text_8 rfl (vp_in_nI (n := 0) (by decide) (by decide)) ?_
  refine ax_goto (tgt := 16) G d_La_text_9 (by decide) ?_
  refine ax_iconst (v := 0) G d_La_text_16 (by decide) ?_
  exact ax_iretH G hr E (ax_ag_refl _ _) rfl d_La_text_17 rfl ⟨rfl, f2, rfl, h1, h2⟩ ⟨by decide, by decide⟩
set_option maxRecDepth 20000 in
set_option maxHeartbeats 1000000 in
theorem ct_La_textX (l : Launch) (htr : l.stackTraces = false) (w : Int64) (n : Nat) (f : Nat → Int32) (ac oq wa tk dd : Int32) (ar : Nat → Int64) (o : Nat → Int32) (lo : Nat → Int64) (hn : n ≤ 400) (h4 : 400 < n + octs w) : ax_CH l y_La_text c_La_text 5 (some .int) [(0, 9, 12, 13)] 10 [.ref 0, .long w, .ref 30] (pc_Fd ac oq wa tk dd ar o ++ pc_Fo (nI n) f ++ pcL lo) (fun r h => r = some (.int 1) ∧ h = pc_Fd ac oq wa tk dd ar o ++ pc_Fo (nI n) f ++ pcL lo) := by
  refine ax_ofH (by decide) (Nat.le_of_ble_eq_true rfl) ?_
  intro p e s m args below meth c D cid ad A Qc G Y htab hr E
  refine ax_aload_n G d_La_text_0 rfl rfl ?_
  refine ax_iconst (v := 0) G d_La_text_1 (by decide) ?_
  refine ax_aload_n G d_La_text_2 rfl rfl ?_
  refine ax_lload_n G d_La_text_3 rfl rfl ?_
  refine ax_callX (n := 1) G Y (ct_Fd_textX l htr w n f ac oq wa tk dd ar o hn h4) (by decide +kernel) d_La_text_4 rfl ⟨rfl, rfl, rfl, rfl, rfl, trivial⟩ rfl rfl rfl kc_Fd_text ⟨k_La_7, ki_Fd_text, ks_Fd_text, kk_Fd⟩ (by decide +kernel) rfl ⟨by decide, by decide⟩ (Nat.le_of_ble_eq_true rfl) ⟨by decide, by decide⟩ [] { startPc := 0, endPc := 9, handlerPc := 12, catchType := 13 } [] htab (fun z hz => absurd hz List.not_mem_nil) rfl (by decide) k_La_13 ⟨rfl, rfl⟩ (fun _ z => by subst z; rfl) (fun hc_ ad2 g2 G hq hk_ => ?_)
  obtain rfl := hq
  refine ax_astore G d_La_text_12 (by decide) ?_
  refine ax_iconst (v := 1) G d_La_text_14 (by decide) ?_
  exact ax_iretH G hr E g2 rfl d_La_text_15 rfl ⟨rfl, rfl⟩ ⟨by decide, by decide⟩
set_option maxRecDepth 20000 in
set_option maxHeartbeats 1000000 in
theorem ct_La_argument (l : Launch) (v : Int64) (na : Nat) (oq wa tk dd : Int32) (ar : Nat → Int64) (o : Nat → Int32) (lo : Nat → Int64) (hn : na < 60) : ax_CH l y_La_argument c_La_argument 5 (some .int) [(0, 9, 12, 13)] 10 [.ref 0, .long v, .ref 30] (pc_Fd (nI na) oq wa tk dd ar o ++ pcL lo) (fun r h => r = some (.int 0) ∧ h = pc_Fd (nI (na + 1)) oq wa tk dd (vp_updL ar na v) o ++ pcL (vp_updL lo 0 (nI (na + 1)).toInt64)) := by
  refine ax_ofH (by decide) (Nat.le_of_ble_eq_true rfl) ?_
  intro p e s m args below meth c D cid ad A Qc G Y htab hr E
  refine ax_aload_n G d_La_argument_0 rfl rfl ?_
  refine ax_iconst (v := 0) G d_La_argument_1 (by decide) ?_
  refine ax_aload_n G d_La_argument_2 rfl rfl ?_
  refine ax_lload_n G d_La_argument_3 rfl rfl ?_
  refine ax_callV (n := 1) G (ct_Fd_argument l v na oq wa tk dd ar o hn) d_La_argument_4 rfl ⟨rfl, rfl, rfl, trivial⟩ rfl rfl rfl kc_Fd_argument ⟨k_La_15, ki_Fd_argument, ks_Fd_argument, kk_Fd⟩ (by decide +kernel) rfl ⟨by decide, by decide⟩ (Nat.le_of_ble_eq_true rfl) ⟨by decide, by decide⟩ (fun r hc_ hq hk_ => ?_)
  obtain ⟨rfl, rfl⟩ := hq
  refine ax_i2l G d_La_argument_7 ?_
  refine ax_last G d_La_argument_8 rfl (vp_in_nI (n := 0) (by decide) (by decide)) ?_
  refine ax_goto (tgt := 16) G d_La_argument_9 (by decide) ?_
  refine ax_iconst (v := 0) G d_La_argument_16 (by decide) ?_
  exact ax_iretH G hr E (ax_ag_refl _ _) rfl d_La_argument_17 rfl ⟨rfl, rfl⟩ ⟨by decide, by decide⟩
set_option maxRecDepth 20000 in
set_option maxHeartbeats 1000000 in
theorem ct_La_argumentX (l : Launch) (htr : l.stackTraces = false) (v : Int64) (oq wa tk dd : Int32) (ar : Nat → Int64) (o : Nat → Int32) (lo : Nat → Int64) : ax_CH l y_La_argument c_La_argument 5 (some .int) [(0, 9, 12, 13)] 10 [.ref 0, .long v, .ref 30] (pc_Fd (nI 60) oq wa tk dd ar o ++ pcL lo) (fun r h => r = some (.int 1) ∧ h = pc_Fd (nI 60) oq wa tk dd ar o ++ pcL lo) := by
  refine ax_ofH (by decide) (Nat.le_of_ble_eq_true rfl) ?_
  intro p e s m args below meth c D cid ad A Qc G Y htab hr E
  refine ax_aload_n G d_La_argument_0 rfl rfl ?_
  refine ax_iconst (v := 0) G d_La_argument_1 (by decide) ?_
  refine ax_aload_n G d_La_argument_2 rfl rfl ?_
  refine ax_lload_n G d_La_argument_3 rfl rfl ?_
  refine ax_callX (n := 1) G Y (ct_Fd_argumentX l htr v oq wa tk dd ar o) (by decide +kernel) d_La_argument_4 rfl ⟨rfl, rfl, rfl, trivial⟩ rfl rfl rfl kc_Fd_argument ⟨k_La_15, ki_Fd_argument, ks_Fd_argument, kk_Fd⟩ (by decide +kernel) rfl ⟨by decide, by decide⟩ (Nat.le_of_ble_eq_true rfl) ⟨by decide, by decide⟩ [] { startPc := 0, endPc := 9, handlerPc := 12, catchType := 13 } [] htab (fun z hz => absurd hz List.not_mem_nil) rfl (by decide) k_La_13 ⟨rfl, rfl⟩ (fun _ z => by subst z; rfl) (fun hc_ ad2 g2 G hq hk_ => ?_)
  obtain rfl := hq
  refine ax_astore G d_La_argument_12 (by decide) ?_
  refine ax_iconst (v := 1) G d_La_argument_14 (by decide) ?_
  exact ax_iretH G hr E g2 rfl d_La_argument_15 rfl ⟨rfl, rfl⟩ ⟨by decide, by decide⟩
set_option maxRecDepth 20000 in
set_option maxHeartbeats 1000000 in
theorem ct_La_letters (l : Launch) (k : Nat) (os : List Nat) (ac wa tk dd : Int32) (ar : Nat → Int64) (o : Nat → Int32) (lo : Nat → Int64) (ho : pi_is o os) (hol : os.length ≤ 4000) (hk : k < (os.length + 7) / 8) : ax_CH l y_La_letters c_La_letters 4 (some .int) [(0, 8, 11, 13)] 10 [.ref 0, .int (nI k), .ref 30] (pc_Fd ac (nI os.length) wa tk dd ar o ++ pcL lo) (fun r h => r = some (.int 0) ∧ h = pc_Fd ac (nI os.length) wa tk dd ar o ++ pcL (vp_updL lo 0 (pk8 (ltn os k) 8))) := by
  refine ax_ofH (by decide) (Nat.le_of_ble_eq_true rfl) ?_
  intro p e s m args below meth c D cid ad A Qc G Y htab hr E
  refine ax_aload_n G d_La_letters_0 rfl rfl ?_
  refine ax_iconst (v := 0) G d_La_letters_1 (by decide) ?_
  refine ax_aload_n G d_La_letters_2 rfl rfl ?_
  refine ax_iload_n G d_La_letters_3 rfl rfl ?_
  refine ax_callV (n := 1) G (ct_Fd_letters l k os ac wa tk dd ar o ho hol hk) d_La_letters_4 rfl ⟨rfl, rfl, rfl, trivial⟩ rfl rfl rfl kc_Fd_letters ⟨k_La_26, ki_Fd_letters, ks_Fd_letters, kk_Fd⟩ (by decide +kernel) rfl ⟨by decide, by decide⟩ (Nat.le_of_ble_eq_true rfl) ⟨by decide, by decide⟩ (fun r hc_ hq hk_ => ?_)
  obtain ⟨rfl, rfl⟩ := hq
  refine ax_last G d_La_letters_7 rfl (vp_in_nI (n := 0) (by decide) (by decide)) ?_
  refine ax_goto (tgt := 14) G d_La_letters_8 (by decide) ?_
  refine ax_iconst (v := 0) G d_La_letters_14 (by decide) ?_
  exact ax_iretH G hr E (ax_ag_refl _ _) rfl d_La_letters_15 rfl ⟨rfl, rfl⟩ ⟨by decide, by decide⟩
set_option maxRecDepth 20000 in
set_option maxHeartbeats 1000000 in
theorem ct_La_lettersX (l : Launch) (htr : l.stackTraces = false) (x : Int32) (n : Nat) (ac wa tk dd : Int32) (ar : Nat → Int64) (o : Nat → Int32) (lo : Nat → Int64) (hn : n ≤ 4000) (hx : x < 0 ∨ nI ((n + 7) / 8) ≤ x) : ax_CH l y_La_letters c_La_letters 4 (some .int) [(0, 8, 11, 13)] 10 [.ref 0, .int x, .ref 30] (pc_Fd ac (nI n) wa tk dd ar o ++ pcL lo) (fun r h => r = some (.int 1) ∧ h = pc_Fd ac (nI n) wa tk dd ar o ++ pcL lo) := by
  refine ax_ofH (by decide) (Nat.le_of_ble_eq_true rfl) ?_
  intro p e s m args below meth c D cid ad A Qc G Y htab hr E
  refine ax_aload_n G d_La_letters_0 rfl rfl ?_
  refine ax_iconst (v := 0) G d_La_letters_1 (by decide) ?_
  refine ax_aload_n G d_La_letters_2 rfl rfl ?_
  refine ax_iload_n G d_La_letters_3 rfl rfl ?_
  refine ax_callX (n := 1) G Y (ct_Fd_lettersX l htr x n ac wa tk dd ar o hn hx) (by decide +kernel) d_La_letters_4 rfl ⟨rfl, rfl, rfl, trivial⟩ rfl rfl rfl kc_Fd_letters ⟨k_La_26, ki_Fd_letters, ks_Fd_letters, kk_Fd⟩ (by decide +kernel) rfl ⟨by decide, by decide⟩ (Nat.le_of_ble_eq_true rfl) ⟨by decide, by decide⟩ [] { startPc := 0, endPc := 8, handlerPc := 11, catchType := 13 } [] htab (fun z hz => absurd hz List.not_mem_nil) rfl (by decide) k_La_13 ⟨rfl, rfl⟩ (fun _ z => by subst z; rfl) (fun hc_ ad2 g2 G hq hk_ => ?_)
  obtain rfl := hq
  refine ax_astore_n G d_La_letters_11 rfl (by decide) ?_
  refine ax_iconst (v := 1) G d_La_letters_12 (by decide) ?_
  exact ax_iretH G hr E g2 rfl d_La_letters_13 rfl ⟨rfl, rfl⟩ ⟨by decide, by decide⟩
set_option maxRecDepth 20000 in
set_option maxHeartbeats 1000000 in
theorem ct_La_count (l : Launch) (x n : Int32) (f : Nat → Int32) (ac oq wa tk dd : Int32) (ar : Nat → Int64) (o : Nat → Int32) (lo : Nat → Int64) (hx : 0 ≤ x ∧ x ≤ 4) : ax_CH l y_La_count c_La_count 4 (some .int) [(0, 9, 12, 22)] 10 [.ref 0, .int x, .ref 30] (pc_Fd ac oq wa tk dd ar o ++ pc_Fo n f ++ pcL lo) (fun r h => r = some (.int 0) ∧ h = pc_Fd ac oq wa tk dd ar o ++ pc_Fo n f ++ pcL (vp_updL lo 0 (if x = 0 then n else if x = 1 then ac else if x = 2 then tk else if x = 3 then dd else oq).toInt64)) := by
  refine ax_ofH (by decide) (Nat.le_of_ble_eq_true rfl) ?_
  intro p e s m args below meth c D cid ad A Qc G Y htab hr E
  refine ax_aload_n G d_La_count_0 rfl rfl ?_
  refine ax_iconst (v := 0) G d_La_count_1 (by decide) ?_
  refine ax_aload_n G d_La_count_2 rfl rfl ?_
  refine ax_iload_n G d_La_count_3 rfl rfl ?_
  refine ax_callV (n := 1) G (ct_Fd_count l x n f ac oq wa tk dd ar o hx) d_La_count_4 rfl ⟨rfl, rfl, rfl, rfl, rfl, trivial⟩ rfl rfl rfl kc_Fd_count ⟨k_La_30, ki_Fd_count, ks_Fd_count, kk_Fd⟩ (by decide +kernel) rfl ⟨by decide, by decide⟩ (Nat.le_of_ble_eq_true rfl) ⟨by decide, by decide⟩ (fun r hc_ hq hk_ => ?_)
  obtain ⟨rfl, rfl⟩ := hq
  refine ax_i2l G d_La_count_7 ?_
  refine ax_last G d_La_count_8 rfl (vp_in_nI (n := 0) (by decide) (by decide)) ?_
  refine ax_goto (tgt := 15) G d_La_count_9 (by decide) ?_
  refine ax_iconst (v := 0) G d_La_count_15 (by decide) ?_
  exact ax_iretH G hr E (ax_ag_refl _ _) rfl d_La_count_16 rfl ⟨rfl, rfl⟩ ⟨by decide, by decide⟩
set_option maxRecDepth 20000 in
set_option maxHeartbeats 1000000 in
theorem ct_La_countX (l : Launch) (htr : l.stackTraces = false) (x n : Int32) (f : Nat → Int32) (ac oq wa tk dd : Int32) (ar : Nat → Int64) (o : Nat → Int32) (lo : Nat → Int64) (hx : ¬ (0 ≤ x ∧ x ≤ 4)) : ax_CH l y_La_count c_La_count 4 (some .int) [(0, 9, 12, 22)] 10 [.ref 0, .int x, .ref 30] (pc_Fd ac oq wa tk dd ar o ++ pc_Fo n f ++ pcL lo) (fun r h => r = some (.int 1) ∧ h = pc_Fd ac oq wa tk dd ar o ++ pc_Fo n f ++ pcL lo) := by
  refine ax_ofH (by decide) (Nat.le_of_ble_eq_true rfl) ?_
  intro p e s m args below meth c D cid ad A Qc G Y htab hr E
  refine ax_aload_n G d_La_count_0 rfl rfl ?_
  refine ax_iconst (v := 0) G d_La_count_1 (by decide) ?_
  refine ax_aload_n G d_La_count_2 rfl rfl ?_
  refine ax_iload_n G d_La_count_3 rfl rfl ?_
  refine ax_callX (n := 1) G Y (ct_Fd_countX l htr x n f ac oq wa tk dd ar o hx) (by decide +kernel) d_La_count_4 rfl ⟨rfl, rfl, rfl, rfl, rfl, trivial⟩ rfl rfl rfl kc_Fd_count ⟨k_La_30, ki_Fd_count, ks_Fd_count, kk_Fd⟩ (by decide +kernel) rfl ⟨by decide, by decide⟩ (Nat.le_of_ble_eq_true rfl) ⟨by decide, by decide⟩ [] { startPc := 0, endPc := 9, handlerPc := 12, catchType := 22 } [] htab (fun z hz => absurd hz List.not_mem_nil) rfl (by decide) k_La_22 ⟨rfl, rfl⟩ (fun _ z => by subst z; rfl) (fun hc_ ad2 g2 G hq hk_ => ?_)
  obtain rfl := hq
  refine ax_astore_n G d_La_count_12 rfl (by decide) ?_
  refine ax_iconst (v := 1) G d_La_count_13 (by decide) ?_
  exact ax_iretH G hr E g2 rfl d_La_count_14 rfl ⟨rfl, rfl⟩ ⟨by decide, by decide⟩
set_option maxRecDepth 20000 in
set_option maxHeartbeats 1000000 in
theorem ct_La_run (l : Launch) (n na : Nat) (f : Nat → Int32) (c0 : Nat → Nat) (oq wa tk dd : Int32) (ar : Nat → Int64) (o : Nat → Int32) (lf pl bl ha ze : Bool) (w : Int32) (wt : Bool) (pr : Int32) (pt : Bool) (kd : Int32) (gr : Bool) (pa sz zp : Int32) (pf : Nat → Int32) (lc dc pt0 : Int32) (lm : Nat → Int64) (dg : Nat → Int32) (lo : Nat → Int64) (os : List Nat) (t d : Nat) (hf : fo_is f n c0) (hn : n ≤ 400) (hna : na ≤ 60) (hwr : wrA c0 n = -1) (hp : pua (lt c0 n) n ar na (n + 1) 0 [] 0 0 = some (os, t, d)) : ax_CH l y_La_run c_La_run 3 (some .int) [(0, 8, 11, 22), (0, 8, 14, 24)] 10 [.ref 0, .ref 30] (pc_Fd (nI na) oq wa tk dd ar o ++ pc_Fo (nI n) f ++ pc_Di lf pl bl ha ze w wt pr pt kd gr pa ++ (pc_Wr ++ pc_Pi sz zp pf ++ pc_De lc dc pt0 lm dg) ++ pcL lo) (fun r h => r = some (.int 0) ∧ ∃ o' a1 a2 a3 a4 a5 a6 a7 a8 a9 a10 a11 a12 sz' zp' pf' lc' dc' pt' lm' dg', h = pc_Fd (nI na) (nI os.length) (-1) (nI t) (nI d) ar o' ++ pc_Fo (nI n) f ++ pc_Di a1 a2 a3 a4 a5 a6 a7 a8 a9 a10 a11 a12 ++ (pc_Wr ++ pc_Pi sz' zp' pf' ++ pc_De lc' dc' pt' lm' dg') ++ pcL (vp_updL lo 0 (nI os.length).toInt64) ∧ pi_is o' os) := by
  refine ax_ofH (by decide) (Nat.le_of_ble_eq_true rfl) ?_
  intro p e s m args below meth c D cid ad A Qc G Y htab hr E
  refine ax_aload_n G d_La_run_0 rfl rfl ?_
  refine ax_iconst (v := 0) G d_La_run_1 (by decide) ?_
  refine ax_aload_n G d_La_run_2 rfl rfl ?_
  refine ax_callV (n := 0) G (ct_Fd_run l n na f c0 oq wa tk dd ar o lf pl bl ha ze w wt pr pt kd gr pa sz zp pf lc dc pt0 lm dg os t d hf hn hna hwr hp) d_La_run_3 rfl ⟨rfl, rfl, rfl, rfl, rfl, rfl, rfl, rfl, rfl, rfl, rfl, rfl, trivial⟩ rfl rfl rfl kc_Fd_run ⟨k_La_18, ki_Fd_run, ks_Fd_run, kk_Fd⟩ (by decide +kernel) rfl ⟨by decide, by decide⟩ (Nat.le_of_ble_eq_true rfl) ⟨by decide, by decide⟩ (fun r hc_ hq hk_ => ?_)
  obtain ⟨rfl, o2, e1, e2, e3, e4, e5, e6, e7, e8, e9, e10, e11, e12, s2, z2, p2, l2, d2, q2, m2, g3, rfl, ho2⟩ := hq
  refine ax_i2l G d_La_run_6 ?_
  refine ax_last G d_La_run_7 rfl (vp_in_nI (n := 0) (by decide) (by decide)) ?_
  refine ax_goto (tgt := 17) G d_La_run_8 (by decide) ?_
  refine ax_iconst (v := 0) G d_La_run_17 (by decide) ?_
  exact ax_iretH G hr E (ax_ag_refl _ _) rfl d_La_run_18 rfl ⟨rfl, o2, e1, e2, e3, e4, e5, e6, e7, e8, e9, e10, e11, e12, s2, z2, p2, l2, d2, q2, m2, g3, rfl, ho2⟩ ⟨by decide, by decide⟩
set_option maxRecDepth 20000 in
set_option maxHeartbeats 1000000 in
theorem ct_La_runW (l : Launch) (htr : l.stackTraces = false) (n na : Nat) (f : Nat → Int32) (c0 : Nat → Nat) (oq wa tk dd : Int32) (ar : Nat → Int64) (o : Nat → Int32) (lf pl bl ha ze : Bool) (w : Int32) (wt : Bool) (pr : Int32) (pt : Bool) (kd : Int32) (gr : Bool) (pa sz zp : Int32) (pf : Nat → Int32) (lc dc pt0 : Int32) (lm : Nat → Int64) (dg : Nat → Int32) (lo : Nat → Int64) (hf : fo_is f n c0) (hn : n ≤ 400) (hwr : ¬ wrA c0 n = -1) : ax_CH l y_La_run c_La_run 3 (some .int) [(0, 8, 11, 22), (0, 8, 14, 24)] 10 [.ref 0, .ref 30] (pc_Fd (nI na) oq wa tk dd ar o ++ pc_Fo (nI n) f ++ pc_Di lf pl bl ha ze w wt pr pt kd gr pa ++ (pc_Wr ++ pc_Pi sz zp pf ++ pc_De lc dc pt0 lm dg) ++ pcL lo) (fun r h => r = some (.int 1) ∧ ∃ o' a1 a2 a3 a4 a5 a6 a7 a8 a9 a10 a11 a12 sz' zp' pf' lc' dc' pt' lm' dg', h = pc_Fd (nI na) 0 (wrA c0 n) 0 0 ar o' ++ pc_Fo (nI n) f ++ pc_Di a1 a2 a3 a4 a5 a6 a7 a8 a9 a10 a11 a12 ++ (pc_Wr ++ pc_Pi sz' zp' pf' ++ pc_De lc' dc' pt' lm' dg') ++ pcL lo) := by
  refine ax_ofH (by decide) (Nat.le_of_ble_eq_true rfl) ?_
  intro p e s m args below meth c D cid ad A Qc G Y htab hr E
  refine ax_aload_n G d_La_run_0 rfl rfl ?_
  refine ax_iconst (v := 0) G d_La_run_1 (by decide) ?_
  refine ax_aload_n G d_La_run_2 rfl rfl ?_
  refine ax_callX (n := 0) G Y (ct_Fd_runW l htr n na f c0 oq wa tk dd ar o lf pl bl ha ze w wt pr pt kd gr pa hf hn hwr) (by decide +kernel) d_La_run_3 rfl ⟨rfl, rfl, rfl, rfl, rfl, rfl, trivial⟩ rfl rfl rfl kc_Fd_run ⟨k_La_18, ki_Fd_run, ks_Fd_run, kk_Fd⟩ (by decide +kernel) rfl ⟨by decide, by decide⟩ (Nat.le_of_ble_eq_true rfl) ⟨by decide, by decide⟩ [] { startPc := 0, endPc := 8, handlerPc := 11, catchType := 22 } [{ startPc := 0, endPc := 8, handlerPc := 14, catchType := 24 }] htab (fun z hz => absurd hz List.not_mem_nil) rfl (by decide) k_La_22 ⟨rfl, rfl⟩ (fun _ z => by obtain ⟨_, _, _, _, _, _, _, _, _, _, _, _, rfl⟩ := z; rfl) (fun hc_ ad2 g2 G hq hk_ => ?_)
  obtain ⟨e1, e2, e3, e4, e5, e6, e7, e8, e9, e10, e11, e12, rfl⟩ := hq
  refine ax_astore_n G d_La_run_11 rfl (by decide) ?_
  refine ax_iconst (v := 1) G d_La_run_12 (by decide) ?_
  exact ax_iretH G hr E g2 rfl d_La_run_13 rfl ⟨rfl, o, e1, e2, e3, e4, e5, e6, e7, e8, e9, e10, e11, e12, _, _, _, _, _, _, _, _, rfl⟩ ⟨by decide, by decide⟩
set_option maxRecDepth 20000 in
set_option maxHeartbeats 1000000 in
theorem ct_La_runN (l : Launch) (htr : l.stackTraces = false) (n na : Nat) (f : Nat → Int32) (c0 : Nat → Nat) (oq wa tk dd : Int32) (ar : Nat → Int64) (o : Nat → Int32) (lf pl bl ha ze : Bool) (w : Int32) (wt : Bool) (pr : Int32) (pt : Bool) (kd : Int32) (gr : Bool) (pa sz zp : Int32) (pf : Nat → Int32) (lc dc pt0 : Int32) (lm : Nat → Int64) (dg : Nat → Int32) (lo : Nat → Int64) (hf : fo_is f n c0) (hn : n ≤ 400) (hna : na ≤ 60) (hwr : wrA c0 n = -1) (hp : pua (lt c0 n) n ar na (n + 1) 0 [] 0 0 = none) : ax_CH l y_La_run c_La_run 3 (some .int) [(0, 8, 11, 22), (0, 8, 14, 24)] 10 [.ref 0, .ref 30] (pc_Fd (nI na) oq wa tk dd ar o ++ pc_Fo (nI n) f ++ pc_Di lf pl bl ha ze w wt pr pt kd gr pa ++ (pc_Wr ++ pc_Pi sz zp pf ++ pc_De lc dc pt0 lm dg) ++ pcL lo) (fun r h => r = some (.int 2) ∧ ∃ o' a1 a2 a3 a4 a5 a6 a7 a8 a9 a10 a11 a12 sz' zp' pf' lc' dc' pt' lm' dg', h = pc_Fd (nI na) 0 (-1) 0 0 ar o' ++ pc_Fo (nI n) f ++ pc_Di a1 a2 a3 a4 a5 a6 a7 a8 a9 a10 a11 a12 ++ (pc_Wr ++ pc_Pi sz' zp' pf' ++ pc_De lc' dc' pt' lm' dg') ++ pcL lo) := by
  refine ax_ofH (by decide) (Nat.le_of_ble_eq_true rfl) ?_
  intro p e s m args below meth c D cid ad A Qc G Y htab hr E
  refine ax_aload_n G d_La_run_0 rfl rfl ?_
  refine ax_iconst (v := 0) G d_La_run_1 (by decide) ?_
  refine ax_aload_n G d_La_run_2 rfl rfl ?_
  refine ax_callX (n := 0) G Y (ct_Fd_runN l htr n na f c0 oq wa tk dd ar o lf pl bl ha ze w wt pr pt kd gr pa sz zp pf lc dc pt0 lm dg hf hn hna hwr hp) (by decide +kernel) d_La_run_3 rfl ⟨rfl, rfl, rfl, rfl, rfl, rfl, rfl, rfl, rfl, rfl, rfl, rfl, trivial⟩ rfl rfl rfl kc_Fd_run ⟨k_La_18, ki_Fd_run, ks_Fd_run, kk_Fd⟩ (by decide +kernel) rfl ⟨by decide, by decide⟩ (Nat.le_of_ble_eq_true rfl) ⟨by decide, by decide⟩ [{ startPc := 0, endPc := 8, handlerPc := 11, catchType := 22 }] { startPc := 0, endPc := 8, handlerPc := 14, catchType := 24 } [] htab (fun z hz => by rw [List.mem_singleton] at hz; subst hz; exact ⟨by decide, _, k_La_22, Y.2.2.2⟩) rfl (by decide) k_La_24 ⟨rfl, rfl⟩ (fun _ z => by obtain ⟨_, _, _, _, _, _, _, _, _, _, _, _, _, _, _, _, _, _, _, _, _, rfl⟩ := z; rfl) (fun hc_ ad2 g2 G hq hk_ => ?_)
  obtain ⟨o2, e1, e2, e3, e4, e5, e6, e7, e8, e9, e10, e11, e12, s2, z2, p2, l2, d2, q2, m2, g3, rfl⟩ := hq
  refine ax_astore_n G d_La_run_14 rfl (by decide) ?_
  refine ax_iconst (v := 2) G d_La_run_15 (by decide) ?_
  exact ax_iretH G hr E g2 rfl d_La_run_16 rfl ⟨rfl, o2, e1, e2, e3, e4, e5, e6, e7, e8, e9, e10, e11, e12, s2, z2, p2, l2, d2, q2, m2, g3, rfl⟩ ⟨by decide, by decide⟩

