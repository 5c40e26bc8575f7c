/-! FormatDeskModel: hexadecimal -/
set_option maxRecDepth 20000 in
set_option maxHeartbeats 1000000 in
theorem ct_Mo_hexadecimal (l : Launch) (v : Int64) (q : Option Nat) (gr : Bool) (F : List Nat) (tf bf : Nat → Int32) (er : Int32) (le : Int32) (ma : Int32) (ou : Int32) (ta : Int32) (di : Int32) (wr : Int32) (at0 : Int32) (wi : Int32) (pr : Int32) (lf : Bool) (pl : Bool) (bl : Bool) (ha : Bool) (ze : Bool) (wt : Bool) (pt : Bool) (zs : Bool) (ct : Int32) (po : Int32) (hF : mi_is tf F) (hFl : F.length ≤ 1) (hq0 : ∀ k, q = some k → k ≤ 200) : ax_CT l y_Mo_hexadecimal c_Mo_hexadecimal 14 none 1 [.ref 20, .long v, .int (prI q), .int (zb gr)] (pc_Mo er le ma ou ta di wr at0 wi pr lf pl bl ha ze wt pt (nI F.length) (nI 0) zs ct po ++ pcT tf ++ pcB bf) (fun r h => r = none ∧ ∃ tf' bf', h = pc_Mo er le ma ou ta di wr at0 wi pr lf pl bl ha ze wt pt (nI (F ++ [48] ++ [gd gr 120]).length) (nI (pcG gr (hexS (fS v) (fX v) q ha)).length) zs ct po ++ pcT tf' ++ pcB bf' ∧ mi_is tf' (F ++ [48] ++ [gd gr 120]) ∧ mi_is bf' (pcG gr (hexS (fS v) (fX v) q ha))) := by
  refine ax_ofV (by decide) (Nat.le_of_ble_eq_true rfl) ?_
  intro p e s m args below meth c D cid ad A Qc G hr E
  have hE := fE_lt v
  have hS := fS_lt v
  have hU := ul_lt v
  have hXb := fX_b v
  have hB : hxb (fS v) q ≤ 200 := by
    cases q with
    | none => exact Nat.le_trans (hxd_le (fS v) 13) (by decide)
    | some k => exact hq0 k rfl
  have hR := rdx_lt hS (hxb (fS v) q)
  have hT := hexG (fX v) q ha gr hS (nab (by omega))
  generalize pcG gr (hexS (fS v) (fX v) q ha) = T at hT E
  generalize hb2 : hxb (fS v) q = B at hB hR hT
  generalize hr2 : rdx (fS v) B = r at hR hT
  generalize hFF : F ++ [48] ++ [gd gr 120] = FF at E
  have t0 : ∀ (w : Nat) (Z : List Nat) (b2 tf2 : Nat → Int32) (lv : List (Nat × Value)), w ≤ 9999 → Z.length ≤ 500 → mi_is b2 Z → mi_is tf2 FF → T = Z ++ [48 + w % 10] → ax_lsb [(0, .ref 20), (10, .int (nI w))] lv → ax_V p l e (ax_rm 1) s m args below meth c D cid ad A 14 0 0 (MQ below Qc args s 0 0 A) 432 lv [] (pc_Mo er le ma ou ta di wr at0 wi pr lf pl bl ha ze wt pt (nI FF.length) (nI Z.length) zs ct po ++ pcT tf2 ++ pcB b2) := by
    intro w Z b2 tf2 lv hw hZ hb htf hT1 hlv
    refine ax_less (lv' := [(0, .ref 20), (10, .int (nI w))]) ?_ hlv
    refine ax_aload_n G d_Mo_hexadecimal_432 rfl rfl ?_
    refine ax_bipush (v := 48) G d_Mo_hexadecimal_433 (by decide) ?_
    refine ax_iload G d_Mo_hexadecimal_435 rfl ?_
    refine ax_bipush (v := 10) G d_Mo_hexadecimal_437 (by decide) ?_
    rw [show (10 : Int32) = nI 10 from rfl]
    refine ax_irem G d_Mo_hexadecimal_439 (by decide) ?_
    rw [pk_rem (by omega) (by decide) (by decide), show (48 : Int32) = nI 48 from rfl]
    refine ax_iadd G d_Mo_hexadecimal_440 ?_
    rw [nI_add]
    refine ax_callV (n := 1) G (ct_Mo_add l Z (48 + w % 10) b2 _ _ _ _ _ _ _ _ _ _ _ _ _ _ _ _ _ _ _ _ _ hb (by omega) (by omega)) d_Mo_hexadecimal_441 rfl ⟨rfl, rfl, trivial⟩ rfl rfl rfl kc_Mo_add ⟨k_Mo_162, ki_Mo_add, ks_Mo_add, kk_Mo⟩ (by decide +kernel) rfl ⟨by decide, by decide⟩ (Nat.le_of_ble_eq_true rfl) ⟨by decide, by decide⟩ (fun r hc_ hq hk_ => ?_)
    obtain ⟨rfl, b3, rfl, hb3⟩ := hq
    rw [hT1] at E
    exact ax_vret G hr E d_Mo_hexadecimal_444 rfl ⟨rfl, tf2, b3, rfl, htf, hb3⟩
  have t1 : ∀ (w : Nat) (Z : List Nat) (b2 tf2 : Nat → Int32) (lv : List (Nat × Value)), w ≤ 9999 → Z.length ≤ 490 → mi_is b2 Z → mi_is tf2 FF → T = Z ++ ((if 10 ≤ w then [48 + w / 10 % 10] else []) ++ [48 + w % 10]) → ax_lsb [(0, .ref 20), (10, .int (nI w))] lv → ax_V p l e (ax_rm 1) s m args below meth c D cid ad A 14 0 0 (MQ below Qc args s 0 0 A) 410 lv [] (pc_Mo er le ma ou ta di wr at0 wi pr lf pl bl ha ze wt pt (nI FF.length) (nI Z.length) zs ct po ++ pcT tf2 ++ pcB b2) := by
    intro w Z b2 tf2 lv hw hZ hb htf hT1 hlv
    refine ax_less (lv' := [(0, .ref 20), (10, .int (nI w))]) ?_ hlv
    refine ax_iload G d_Mo_hexadecimal_410 rfl ?_
    refine ax_bipush (v := 9) G d_Mo_hexadecimal_412 (by decide) ?_
    refine ax_icmp_le (tgt := 432) G d_Mo_hexadecimal_414 (by decide) (fun c_414 => ?_) (fun c_414 => ?_)
    · have h1 : ¬ 10 ≤ w := by have := (nI_leI (b := 9) (by omega) (by decide)).mp c_414; omega
      rw [if_neg h1, List.nil_append] at hT1
      exact t0 w Z b2 tf2 _ hw (by omega) hb htf hT1 ⟨rfl, rfl, trivial⟩
    · have h1 : 10 ≤ w := by
        rcases Nat.lt_or_ge w 10 with q | q
        · exact absurd ((nI_leI (b := 9) (by omega) (by decide)).mpr (by omega)) c_414
        · exact q
      rw [if_pos h1] at hT1
      refine ax_aload_n G d_Mo_hexadecimal_417 rfl rfl ?_
      refine ax_bipush (v := 48) G d_Mo_hexadecimal_418 (by decide) ?_
      refine ax_iload G d_Mo_hexadecimal_420 rfl ?_
      refine ax_bipush (v := 10) G d_Mo_hexadecimal_422 (by decide) ?_
      rw [show (10 : Int32) = nI 10 from rfl]
      refine ax_idiv G d_Mo_hexadecimal_424 (by decide) ?_
      rw [pk_div (by omega) (by decide) (by decide)]
      refine ax_bipush (v := 10) G d_Mo_hexadecimal_425 (by decide) ?_
      rw [show (10 : Int32) = nI 10 from rfl]
      refine ax_irem G d_Mo_hexadecimal_427 (by decide) ?_
      rw [pk_rem (by omega) (by decide) (by decide), show (48 : Int32) = nI 48 from rfl]
      refine ax_iadd G d_Mo_hexadecimal_428 ?_
      rw [nI_add]
      refine ax_callV (n := 1) G (ct_Mo_add l Z (48 + w / 10 % 10) b2 _ _ _ _ _ _ _ _ _ _ _ _ _ _ _ _ _ _ _ _ _ hb (by omega) (by omega)) d_Mo_hexadecimal_429 rfl ⟨rfl, rfl, trivial⟩ rfl rfl rfl kc_Mo_add ⟨k_Mo_162, ki_Mo_add, ks_Mo_add, kk_Mo⟩ (by decide +kernel) rfl ⟨by decide, by decide⟩ (Nat.le_of_ble_eq_true rfl) ⟨by decide, by decide⟩ (fun r hc_ hq hk_ => ?_)
      obtain ⟨rfl, b3, rfl, hb3⟩ := hq
      exact t0 w _ b3 tf2 _ hw (by rw [List.length_append]; show _ + 1 ≤ _; omega) hb3 htf (by rw [hT1, List.append_assoc]) ⟨rfl, rfl, trivial⟩
  have t2 : ∀ (w : Nat) (Z : List Nat) (b2 tf2 : Nat → Int32) (lv : List (Nat × Value)), w ≤ 9999 → Z.length ≤ 480 → mi_is b2 Z → mi_is tf2 FF → T = Z ++ ((if 100 ≤ w then [48 + w / 100 % 10] else []) ++ ((if 10 ≤ w then [48 + w / 10 % 10] else []) ++ [48 + w % 10])) → ax_lsb [(0, .ref 20), (10, .int (nI w))] lv → ax_V p l e (ax_rm 1) s m args below meth c D cid ad A 14 0 0 (MQ below Qc args s 0 0 A) 388 lv [] (pc_Mo er le ma ou ta di wr at0 wi pr lf pl bl ha ze wt pt (nI FF.length) (nI Z.length) zs ct po ++ pcT tf2 ++ pcB b2) := by
    intro w Z b2 tf2 lv hw hZ hb htf hT1 hlv
    refine ax_less (lv' := [(0, .ref 20), (10, .int (nI w))]) ?_ hlv
    refine ax_iload G d_Mo_hexadecimal_388 rfl ?_
    refine ax_bipush (v := 99) G d_Mo_hexadecimal_390 (by decide) ?_
    refine ax_icmp_le (tgt := 410) G d_Mo_hexadecimal_392 (by decide) (fun c_392 => ?_) (fun c_392 => ?_)
    · have h1 : ¬ 100 ≤ w := by have := (nI_leI (b := 99) (by omega) (by decide)).mp c_392; omega
      rw [if_neg h1, List.nil_append] at hT1
      exact t1 w Z b2 tf2 _ hw (by omega) hb htf hT1 ⟨rfl, rfl, trivial⟩
    · have h1 : 100 ≤ w := by
        rcases Nat.lt_or_ge w 100 with q | q
        · exact absurd ((nI_leI (b := 99) (by omega) (by decide)).mpr (by omega)) c_392
        · exact q
      rw [if_pos h1] at hT1
      refine ax_aload_n G d_Mo_hexadecimal_395 rfl rfl ?_
      refine ax_bipush (v := 48) G d_Mo_hexadecimal_396 (by decide) ?_
      refine ax_iload G d_Mo_hexadecimal_398 rfl ?_
      refine ax_bipush (v := 100) G d_Mo_hexadecimal_400 (by decide) ?_
      rw [show (100 : Int32) = nI 100 from rfl]
      refine ax_idiv G d_Mo_hexadecimal_402 (by decide) ?_
      rw [pk_div (by omega) (by decide) (by decide)]
      refine ax_bipush (v := 10) G d_Mo_hexadecimal_403 (by decide) ?_
      rw [show (10 : Int32) = nI 10 from rfl]
      refine ax_irem G d_Mo_hexadecimal_405 (by decide) ?_
      rw [pk_rem (by omega) (by decide) (by decide), show (48 : Int32) = nI 48 from rfl]
      refine ax_iadd G d_Mo_hexadecimal_406 ?_
      rw [nI_add]
      refine ax_callV (n := 1) G (ct_Mo_add l Z (48 + w / 100 % 10) b2 _ _ _ _ _ _ _ _ _ _ _ _ _ _ _ _ _ _ _ _ _ hb (by omega) (by omega)) d_Mo_hexadecimal_407 rfl ⟨rfl, rfl, trivial⟩ rfl rfl rfl kc_Mo_add ⟨k_Mo_162, ki_Mo_add, ks_Mo_add, kk_Mo⟩ (by decide +kernel) rfl ⟨by decide, by decide⟩ (Nat.le_of_ble_eq_true rfl) ⟨by decide, by decide⟩ (fun r hc_ hq hk_ => ?_)
      obtain ⟨rfl, b3, rfl, hb3⟩ := hq
      exact t1 w _ b3 tf2 _ hw (by rw [List.length_append]; show _ + 1 ≤ _; omega) hb3 htf (by rw [hT1, List.append_assoc]) ⟨rfl, rfl, trivial⟩
  have t3 : ∀ (w : Nat) (Z : List Nat) (b2 tf2 : Nat → Int32) (lv : List (Nat × Value)), w ≤ 9999 → Z.length ≤ 470 → mi_is b2 Z → mi_is tf2 FF → T = Z ++ ((if 1000 ≤ w then [48 + w / 1000] else []) ++ ((if 100 ≤ w then [48 + w / 100 % 10] else []) ++ ((if 10 ≤ w then [48 + w / 10 % 10] else []) ++ [48 + w % 10]))) → ax_lsb [(0, .ref 20), (10, .int (nI w))] lv → ax_V p l e (ax_rm 1) s m args below meth c D cid ad A 14 0 0 (MQ below Qc args s 0 0 A) 367 lv [] (pc_Mo er le ma ou ta di wr at0 wi pr lf pl bl ha ze wt pt (nI FF.length) (nI Z.length) zs ct po ++ pcT tf2 ++ pcB b2) := by
    intro w Z b2 tf2 lv hw hZ hb htf hT1 hlv
    refine ax_less (lv' := [(0, .ref 20), (10, .int (nI w))]) ?_ hlv
    refine ax_iload G d_Mo_hexadecimal_367 rfl ?_
    refine ax_sipush (v := 999) G d_Mo_hexadecimal_369 (by decide) ?_
    refine ax_icmp_le (tgt := 388) G d_Mo_hexadecimal_372 (by decide) (fun c_372 => ?_) (fun c_372 => ?_)
    · have h1 : ¬ 1000 ≤ w := by have := (nI_leI (b := 999) (by omega) (by decide)).mp c_372; omega
      rw [if_neg h1, List.nil_append] at hT1
      exact t2 w Z b2 tf2 _ hw (by omega) hb htf hT1 ⟨rfl, rfl, trivial⟩
    · have h1 : 1000 ≤ w := by
        rcases Nat.lt_or_ge w 1000 with q | q
        · exact absurd ((nI_leI (b := 999) (by omega) (by decide)).mpr (by omega)) c_372
        · exact q
      rw [if_pos h1] at hT1
      refine ax_aload_n G d_Mo_hexadecimal_375 rfl rfl ?_
      refine ax_bipush (v := 48) G d_Mo_hexadecimal_376 (by decide) ?_
      refine ax_iload G d_Mo_hexadecimal_378 rfl ?_
      refine ax_sipush (v := 1000) G d_Mo_hexadecimal_380 (by decide) ?_
      rw [show (1000 : Int32) = nI 1000 from rfl]
      refine ax_idiv G d_Mo_hexadecimal_383 (by decide) ?_
      rw [pk_div (by omega) (by decide) (by decide), show (48 : Int32) = nI 48 from rfl]
      refine ax_iadd G d_Mo_hexadecimal_384 ?_
      rw [nI_add]
      refine ax_callV (n := 1) G (ct_Mo_add l Z (48 + w / 1000) b2 _ _ _ _ _ _ _ _ _ _ _ _ _ _ _ _ _ _ _ _ _ hb (by omega) (by omega)) d_Mo_hexadecimal_385 rfl ⟨rfl, rfl, trivial⟩ rfl rfl rfl kc_Mo_add ⟨k_Mo_162, ki_Mo_add, ks_Mo_add, kk_Mo⟩ (by decide +kernel) rfl ⟨by decide, by decide⟩ (Nat.le_of_ble_eq_true rfl) ⟨by decide, by decide⟩ (fun r hc_ hq hk_ => ?_)
      obtain ⟨rfl, b3, rfl, hb3⟩ := hq
      exact t2 w _ b3 tf2 _ hw (by rw [List.length_append]; show _ + 1 ≤ _; omega) hb3 htf (by rw [hT1, List.append_assoc]) ⟨rfl, rfl, trivial⟩
  have ex : ∀ (x : Int32) (Z : List Nat) (b2 tf2 : Nat → Int32) (lv : List (Nat × Value)), x.toInt = (if fS v = 0 then 0 else fX v) → Z.length ≤ 400 → mi_is b2 Z → mi_is tf2 FF → T = Z ++ [if gr then 80 else 112] ++ expo (if fS v = 0 then 0 else fX v) false → ax_lsb [(0, .ref 20), (4, .int (zb gr))] lv → ax_V p l e (ax_rm 1) s m args below meth c D cid ad A 14 0 0 (MQ below Qc args s 0 0 A) 318 lv [.int x] (pc_Mo er le ma ou ta di wr at0 wi pr lf pl bl ha ze wt pt (nI FF.length) (nI Z.length) zs ct po ++ pcT tf2 ++ pcB b2) := by
    intro x Z b2 tf2 lv hx hZ hb htf hT1 hlv
    refine ax_less (lv' := [(0, .ref 20), (4, .int (zb gr))]) ?_ hlv
    rw [← hx, expo_f, ← List.append_assoc] at hT1
    have hxb : -1022 ≤ x.toInt ∧ x.toInt ≤ 1024 := by rw [hx]; split <;> omega
    clear hx
    have af : ∀ (w : Nat) (b3 : Nat → Int32) (lv : List (Nat × Value)), w = x.toInt.natAbs → mi_is b3 (Z ++ [if gr then 80 else 112]) → ax_lsb [(0, .ref 20), (9, .int x), (10, .int (nI w))] lv → ax_V p l e (ax_rm 1) s m args below meth c D cid ad A 14 0 0 (MQ below Qc args s 0 0 A) 351 lv [] (pc_Mo er le ma ou ta di wr at0 wi pr lf pl bl ha ze wt pt (nI FF.length) (nI (Z ++ [if gr then 80 else 112]).length) zs ct po ++ pcT tf2 ++ pcB b3) := by
      intro w b3 lv hw hb3 hlv
      refine ax_less (lv' := [(0, .ref 20), (9, .int x), (10, .int (nI w))]) ?_ hlv
      have hl3 : (Z ++ [if gr then 80 else 112]).length ≤ 401 := by rw [List.length_append]; show _ + 1 ≤ _; omega
      rw [← hw] at hT1
      generalize Z ++ [if gr then 80 else 112] = Y at *
      refine ax_aload_n G d_Mo_hexadecimal_351 rfl rfl ?_
      refine ax_iload G d_Mo_hexadecimal_352 rfl ?_
      refine ax_if_ge (tgt := 362) G d_Mo_hexadecimal_354 (by decide) (fun c_354 => ?_) (fun c_354 => ?_)
      · have hn : ¬ x.toInt < 0 := fun z => Int32.not_lt.mpr c_354 ((i32_lt _ _).mpr z)
        rw [if_neg hn] at hT1
        refine ax_bipush (v := 43) G d_Mo_hexadecimal_362 (by decide) ?_
        refine ax_callV (n := 1) G (ct_Mo_add l Y 43 b3 _ _ _ _ _ _ _ _ _ _ _ _ _ _ _ _ _ _ _ _ _ hb3 (by omega) (by decide)) d_Mo_hexadecimal_364 rfl ⟨rfl, rfl, trivial⟩ rfl rfl rfl kc_Mo_add ⟨k_Mo_162, ki_Mo_add, ks_Mo_add, kk_Mo⟩ (by decide +kernel) rfl ⟨by decide, by decide⟩ (Nat.le_of_ble_eq_true rfl) ⟨by decide, by decide⟩ (fun r hc_ hq hk_ => ?_)
        obtain ⟨rfl, b4, rfl, hb4⟩ := hq
        exact t3 w _ b4 tf2 _ (by omega) (by rw [List.length_append]; show _ + 1 ≤ _; omega) hb4 htf hT1 ⟨rfl, rfl, trivial⟩
      · have hn : x.toInt < 0 := by
          rcases Int.lt_or_le x.toInt 0 with z | z
          · exact z
          · exact absurd ((i32_le 0 x).mpr (by rw [show (0 : Int32).toInt = 0 from rfl]; exact z)) c_354
        rw [if_pos hn] at hT1
        refine ax_bipush (v := 45) G d_Mo_hexadecimal_357 (by decide) ?_
        refine ax_goto (tgt := 364) G d_Mo_hexadecimal_359 (by decide) ?_
        refine ax_callV (n := 1) G (ct_Mo_add l Y 45 b3 _ _ _ _ _ _ _ _ _ _ _ _ _ _ _ _ _ _ _ _ _ hb3 (by omega) (by decide)) d_Mo_hexadecimal_364 rfl ⟨rfl, rfl, trivial⟩ rfl rfl rfl kc_Mo_add ⟨k_Mo_162, ki_Mo_add, ks_Mo_add, kk_Mo⟩ (by decide +kernel) rfl ⟨by decide, by decide⟩ (Nat.le_of_ble_eq_true rfl) ⟨by decide, by decide⟩ (fun r hc_ hq hk_ => ?_)
        obtain ⟨rfl, b4, rfl, hb4⟩ := hq
        exact t3 w _ b4 tf2 _ (by omega) (by rw [List.length_append]; show _ + 1 ≤ _; omega) hb4 htf hT1 ⟨rfl, rfl, trivial⟩
    have pp : ∀ (w : Nat) (lv : List (Nat × Value)), w = x.toInt.natAbs → ax_lsb [(0, .ref 20), (4, .int (zb gr)), (9, .int x)] lv → ax_V p l e (ax_rm 1) s m args below meth c D cid ad A 14 0 0 (MQ below Qc args s 0 0 A) 333 lv [.int (nI w)] (pc_Mo er le ma ou ta di wr at0 wi pr lf pl bl ha ze wt pt (nI FF.length) (nI Z.length) zs ct po ++ pcT tf2 ++ pcB b2) := by
      intro w lv hw hlv
      refine ax_less (lv' := [(0, .ref 20), (4, .int (zb gr)), (9, .int x)]) ?_ hlv
      cases hgr : gr with
      | true =>
        rw [hgr] at af
        refine ax_istore G d_Mo_hexadecimal_333 (by decide) ?_
        refine ax_aload_n G d_Mo_hexadecimal_335 rfl rfl ?_
        refine ax_iload G d_Mo_hexadecimal_336 rfl ?_
        refine ax_if_eq (tgt := 346) G d_Mo_hexadecimal_338 (by decide) (fun c_338 => ?_) (fun c_338 => ?_)
        · exact absurd c_338 (by decide)
        · refine ax_bipush (v := 80) G d_Mo_hexadecimal_341 (by decide) ?_
          refine ax_goto (tgt := 348) G d_Mo_hexadecimal_343 (by decide) ?_
          refine ax_callV (n := 1) G (ct_Mo_add l Z 80 b2 _ _ _ _ _ _ _ _ _ _ _ _ _ _ _ _ _ _ _ _ _ hb (by omega) (by decide)) d_Mo_hexadecimal_348 rfl ⟨rfl, rfl, trivial⟩ rfl rfl rfl kc_Mo_add ⟨k_Mo_162, ki_Mo_add, ks_Mo_add, kk_Mo⟩ (by decide +kernel) rfl ⟨by decide, by decide⟩ (Nat.le_of_ble_eq_true rfl) ⟨by decide, by decide⟩ (fun r hc_ hq hk_ => ?_)
          obtain ⟨rfl, b3, rfl, hb3⟩ := hq
          exact af w b3 _ hw hb3 ⟨rfl, rfl, rfl, trivial⟩
      | false =>
        rw [hgr] at af
        refine ax_istore G d_Mo_hexadecimal_333 (by decide) ?_
        refine ax_aload_n G d_Mo_hexadecimal_335 rfl rfl ?_
        refine ax_iload G d_Mo_hexadecimal_336 rfl ?_
        refine ax_if_eq (tgt := 346) G d_Mo_hexadecimal_338 (by decide) (fun c_338 => ?_) (fun c_338 => ?_)
        · refine ax_bipush (v := 112) G d_Mo_hexadecimal_346 (by decide) ?_
          refine ax_callV (n := 1) G (ct_Mo_add l Z 112 b2 _ _ _ _ _ _ _ _ _ _ _ _ _ _ _ _ _ _ _ _ _ hb (by omega) (by decide)) d_Mo_hexadecimal_348 rfl ⟨rfl, rfl, trivial⟩ rfl rfl rfl kc_Mo_add ⟨k_Mo_162, ki_Mo_add, ks_Mo_add, kk_Mo⟩ (by decide +kernel) rfl ⟨by decide, by decide⟩ (Nat.le_of_ble_eq_true rfl) ⟨by decide, by decide⟩ (fun r hc_ hq hk_ => ?_)
          obtain ⟨rfl, b3, rfl, hb3⟩ := hq
          exact af w b3 _ hw hb3 ⟨rfl, rfl, rfl, trivial⟩
        · exact absurd rfl c_338
    by_cases hx : x < 0
    · have en : -x = nI x.toInt.natAbs := by apply i32_eq; rw [i32_neg _ (by omega), nI_toInt (by omega)]; have := (i32_lt _ _).mp hx; rw [show (0 : Int32).toInt = 0 from rfl] at this; omega
      refine ax_istore G d_Mo_hexadecimal_318 (by decide) ?_
      refine ax_iload G d_Mo_hexadecimal_320 rfl ?_
      refine ax_if_ge (tgt := 331) G d_Mo_hexadecimal_322 (by decide) (fun c_322 => ?_) (fun c_322 => ?_)
      · exact absurd hx (Int32.not_lt.mpr c_322)
      · refine ax_iload G d_Mo_hexadecimal_325 rfl ?_
        refine ax_ineg G d_Mo_hexadecimal_327 ?_
        rw [en]
        refine ax_goto (tgt := 333) G d_Mo_hexadecimal_328 (by decide) ?_
        exact pp _ _ rfl ⟨rfl, rfl, rfl, trivial⟩
    · have en : x = nI x.toInt.natAbs := by apply i32_eq; rw [nI_toInt (by omega)]; have : ¬ x.toInt < 0 := fun z => hx ((i32_lt _ _).mpr z); omega
      refine ax_istore G d_Mo_hexadecimal_318 (by decide) ?_
      refine ax_iload G d_Mo_hexadecimal_320 rfl ?_
      refine ax_if_ge (tgt := 331) G d_Mo_hexadecimal_322 (by decide) (fun c_322 => ?_) (fun c_322 => ?_)
      · have q := pp x.toInt.natAbs [(0, .ref 20), (4, .int (zb gr)), (9, .int x)] rfl ⟨rfl, rfl, rfl, trivial⟩
        rw [← en] at q
        refine ax_iload G d_Mo_hexadecimal_331 rfl ?_
        exact q
      · exact absurd (Int32.not_lt.mp hx) c_322
  have loop : ∀ (j i : Nat) (Z : List Nat) (b2 tf2 : Nat → Int32), j + i = B → Z.length ≤ 10 → mi_is tf2 FF → mi_is b2 (Z ++ (List.range i).map (fun i => gd gr (hx (if i + 1 ≤ 13 then r / 2 ^ (52 - 4 * (i + 1)) % 16 else 0)))) → T = Z ++ (List.range B).map (fun i => gd gr (hx (if i + 1 ≤ 13 then r / 2 ^ (52 - 4 * (i + 1)) % 16 else 0))) ++ [if gr then 80 else 112] ++ expo (if fS v = 0 then 0 else fX v) false → ax_V p l e (ax_rm 1) s m args below meth c D cid ad A 14 0 0 (MQ below Qc args s 0 0 A) 239 [(0, .ref 20), (1, .long v), (4, .int (zb gr)), (5, .int (nI (fE v))), (6, .long (uw r)), (8, .int (nI B)), (9, .int (nI (i + 1)))] [] (pc_Mo er le ma ou ta di wr at0 wi pr lf pl bl ha ze wt pt (nI FF.length) (nI (Z ++ (List.range i).map (fun i => gd gr (hx (if i + 1 ≤ 13 then r / 2 ^ (52 - 4 * (i + 1)) % 16 else 0)))).length) zs ct po ++ pcT tf2 ++ pcB b2) := by
    intro j
    induction j with
    | zero =>
      intro i Z b2 tf2 hj hZ htf hb hT1
      have ei : i = B := by omega
      subst ei
      have hl : (Z ++ (List.range i).map (fun i => gd gr (hx (if i + 1 ≤ 13 then r / 2 ^ (52 - 4 * (i + 1)) % 16 else 0)))).length ≤ 400 := by rw [List.length_append, List.length_map, List.length_range]; omega
      generalize Z ++ (List.range i).map (fun i => gd gr (hx (if i + 1 ≤ 13 then r / 2 ^ (52 - 4 * (i + 1)) % 16 else 0))) = Y at *
      have hz : (lg_cmp (uw (ul v % 2 ^ 63)) 0 = 0) ↔ fS v = 0 := by rw [lg_cmp_eq, ul_0, ul_uw (Nat.lt_of_le_of_lt (Nat.mod_le _ _) hU)]; exact fS_z v
      refine ax_iload G d_Mo_hexadecimal_239 rfl ?_
      refine ax_iload G d_Mo_hexadecimal_241 rfl ?_
      refine ax_icmp_gt (tgt := 287) G d_Mo_hexadecimal_243 (by decide) (fun c_243 => ?_) (fun c_243 => ?_)
      · refine ax_lload_n G d_Mo_hexadecimal_287 rfl rfl ?_
        refine ax_ldc2 G d_Mo_hexadecimal_288 k_Mo_216 ?_
        refine ax_land G d_Mo_hexadecimal_291 ?_
        rw [l_mask v _ 63 (by decide +kernel)]
        refine ax_lconst (v := 0) G d_Mo_hexadecimal_292 (by decide) ?_
        refine ax_lcmp G d_Mo_hexadecimal_293 ?_
        refine ax_if_ne (tgt := 301) G d_Mo_hexadecimal_294 (by decide) (fun c_294 => ?_) (fun c_294 => ?_)
        · have hn : ¬ fS v = 0 := fun z => c_294 (hz.mpr z)
          have h0 : (nI (fE v) = 0) ↔ fE v = 0 := by
            have := nI_eq (a := fE v) (b := 0) (by omega) (by decide)
            rw [nI_0] at this; exact this
          refine ax_iload G d_Mo_hexadecimal_301 rfl ?_
          refine ax_if_ne (tgt := 312) G d_Mo_hexadecimal_303 (by decide) (fun c_303 => ?_) (fun c_303 => ?_)
          · have hE0 : ¬ fE v = 0 := fun z => c_303 (h0.mpr z)
            refine ax_iload G d_Mo_hexadecimal_312 rfl ?_
            refine ax_sipush (v := 1023) G d_Mo_hexadecimal_314 (by decide) ?_
            refine ax_isub G d_Mo_hexadecimal_317 ?_
            exact ex _ Y b2 tf2 _ (by rw [if_neg hn, fX_1 hE0, show (1023 : Int32) = nI 1023 from rfl, pk_sub_toInt (by omega) (by decide)]; rfl) hl hb htf hT1 ⟨rfl, rfl, trivial⟩
          · have hE0 : fE v = 0 := h0.mp c_303
            refine ax_sipush (v := (-1022)) G d_Mo_hexadecimal_306 (by decide) ?_
            refine ax_goto (tgt := 318) G d_Mo_hexadecimal_309 (by decide) ?_
            exact ex _ Y b2 tf2 _ (by rw [if_neg hn, fX_0 hE0]; rfl) hl hb htf hT1 ⟨rfl, rfl, trivial⟩
        · have hn : fS v = 0 := hz.mp c_294
          refine ax_iconst (v := 0) G d_Mo_hexadecimal_297 (by decide) ?_
          refine ax_goto (tgt := 318) G d_Mo_hexadecimal_298 (by decide) ?_
          exact ex _ Y b2 tf2 _ (by rw [if_pos hn]; rfl) hl hb htf hT1 ⟨rfl, rfl, trivial⟩
      · exact absurd (nI_lt (Nat.lt_succ_self _) (by omega)) c_243
    | succ j ih =>
      intro i Z b2 tf2 hj hZ htf hb hT1
      have hl : (Z ++ (List.range i).map (fun i => gd gr (hx (if i + 1 ≤ 13 then r / 2 ^ (52 - 4 * (i + 1)) % 16 else 0)))).length ≤ 400 := by rw [List.length_append, List.length_map, List.length_range]; omega
      have hgl : gd gr (hx (if i + 1 ≤ 13 then r / 2 ^ (52 - 4 * (i + 1)) % 16 else 0)) < 128 := gd_lt (by unfold hx; split <;> split <;> omega)
      have put : ∀ (y : Int32), y = nI (gd gr (hx (if i + 1 ≤ 13 then r / 2 ^ (52 - 4 * (i + 1)) % 16 else 0))) → ax_V p l e (ax_rm 1) s m args below meth c D cid ad A 14 0 0 (MQ below Qc args s 0 0 A) 278 [(0, .ref 20), (1, .long v), (4, .int (zb gr)), (5, .int (nI (fE v))), (6, .long (uw r)), (8, .int (nI B)), (9, .int (nI (i + 1)))] [.int y, .ref 20] (pc_Mo er le ma ou ta di wr at0 wi pr lf pl bl ha ze wt pt (nI FF.length) (nI (Z ++ (List.range i).map (fun i => gd gr (hx (if i + 1 ≤ 13 then r / 2 ^ (52 - 4 * (i + 1)) % 16 else 0)))).length) zs ct po ++ pcT tf2 ++ pcB b2) := by
        intro y hy
        rw [hy]
        refine ax_callV (n := 1) G (ct_Mo_add l _ _ b2 _ _ _ _ _ _ _ _ _ _ _ _ _ _ _ _ _ _ _ _ _ hb (by omega) (by omega)) d_Mo_hexadecimal_278 rfl ⟨rfl, rfl, trivial⟩ rfl rfl rfl kc_Mo_add ⟨k_Mo_162, ki_Mo_add, ks_Mo_add, kk_Mo⟩ (by decide +kernel) rfl ⟨by decide, by decide⟩ (Nat.le_of_ble_eq_true rfl) ⟨by decide, by decide⟩ (fun r hc_ hq hk_ => ?_)
        obtain ⟨rfl, b3, rfl, hb3⟩ := hq
        have e3 : Z ++ (List.range i).map (fun i => gd gr (hx (if i + 1 ≤ 13 then r / 2 ^ (52 - 4 * (i + 1)) % 16 else 0))) ++ [gd gr (hx (if i + 1 ≤ 13 then r / 2 ^ (52 - 4 * (i + 1)) % 16 else 0))] = Z ++ (List.range (i + 1)).map (fun i => gd gr (hx (if i + 1 ≤ 13 then r / 2 ^ (52 - 4 * (i + 1)) % 16 else 0))) := by rw [List.append_assoc, rg_s]
        rw [e3] at hb3 ⊢
        refine ax_iincZ (z := 1) G d_Mo_hexadecimal_281 rfl (by decide) (by decide) ?_
        refine ax_goto (tgt := 239) G d_Mo_hexadecimal_284 (by decide) ?_
        rw [nI_1]
        exact ih (i + 1) Z b3 tf2 (by omega) hZ htf hb3 hT1
      refine ax_iload G d_Mo_hexadecimal_239 rfl ?_
      refine ax_iload G d_Mo_hexadecimal_241 rfl ?_
      refine ax_icmp_gt (tgt := 287) G d_Mo_hexadecimal_243 (by decide) (fun c_243 => ?_) (fun c_243 => ?_)
      · exact absurd c_243 (nI_nlt (by omega) (by omega))
      · refine ax_aload_n G d_Mo_hexadecimal_246 rfl rfl ?_
        refine ax_iload G d_Mo_hexadecimal_247 rfl ?_
        refine ax_bipush (v := 13) G d_Mo_hexadecimal_249 (by decide) ?_
        refine ax_icmp_le (tgt := 259) G d_Mo_hexadecimal_251 (by decide) (fun c_251 => ?_) (fun c_251 => ?_)
        · have hle : i + 1 ≤ 13 := (nI_leI (b := 13) (by omega) (by decide)).mp c_251
          refine ax_lload G d_Mo_hexadecimal_259 rfl ?_
          refine ax_bipush (v := 52) G d_Mo_hexadecimal_261 (by decide) ?_
          refine ax_iconst (v := 4) G d_Mo_hexadecimal_263 (by decide) ?_
          refine ax_iload G d_Mo_hexadecimal_264 rfl ?_
          refine ax_imul G d_Mo_hexadecimal_266 ?_
          refine ax_isub G d_Mo_hexadecimal_267 ?_
          rw [h524 hle]
          refine ax_lushr G d_Mo_hexadecimal_268 ?_
          rw [l_ushr r _ (by omega) (by omega)]
          refine ax_l2i G d_Mo_hexadecimal_269 ?_
          refine ax_bipush (v := 15) G d_Mo_hexadecimal_270 (by decide) ?_
          refine ax_iand G d_Mo_hexadecimal_272 ?_
          have hlt : r / 2 ^ (52 - 4 * (i + 1)) < 2 ^ 64 := Nat.lt_of_le_of_lt (Nat.div_le_self _ _) (by omega)
          rw [pk_and _ 4 (by decide), show (2 : Nat) ^ 4 = 16 from rfl, ul_i, ul_uw hlt]
          refine ax_iload G d_Mo_hexadecimal_273 rfl ?_
          refine ax_callS (n := 2) G (ct_Mo_digit l (r / 2 ^ (52 - 4 * (i + 1)) % 16) gr (Nat.mod_lt _ (by decide))) d_Mo_hexadecimal_275 rfl trivial rfl kc_Mo_digit ⟨k_Mo_185, kt_Mo_digit, kk_Mo⟩ (by decide +kernel) rfl ⟨by decide, by decide⟩ (Nat.le_of_ble_eq_true rfl) ⟨by decide, by decide⟩ (fun r hc_ hq hk_ => ?_)
          obtain ⟨rfl, rfl⟩ := hq
          exact put _ (by rw [if_pos hle]; rfl)
        · have hgt : ¬ i + 1 ≤ 13 := fun z => c_251 ((nI_leI (b := 13) (by omega) (by decide)).mpr z)
          refine ax_bipush (v := 48) G d_Mo_hexadecimal_254 (by decide) ?_
          refine ax_goto (tgt := 278) G d_Mo_hexadecimal_256 (by decide) ?_
          exact put _ (by rw [if_neg hgt]; cases gr <;> rfl)
  have mid : ∀ (tf2 : Nat → Int32) (lv : List (Nat × Value)), mi_is tf2 FF → ax_lsb [(0, .ref 20), (1, .long v), (4, .int (zb gr)), (5, .int (nI (fE v))), (6, .long (uw r)), (8, .int (nI B))] lv → ax_V p l e (ax_rm 1) s m args below meth c D cid ad A 14 0 0 (MQ below Qc args s 0 0 A) 205 lv [] (pc_Mo er le ma ou ta di wr at0 wi pr lf pl bl ha ze wt pt (nI FF.length) (nI 0) zs ct po ++ pcT tf2 ++ pcB bf) := by
    intro tf2 lv htf hlv
    refine ax_less (lv' := [(0, .ref 20), (1, .long v), (4, .int (zb gr)), (5, .int (nI (fE v))), (6, .long (uw r)), (8, .int (nI B))]) ?_ hlv
    have h4 : r / 2 ^ 52 < 4 := by rw [Nat.div_lt_iff_lt_mul (by decide)]; exact Nat.lt_of_lt_of_le hR (by decide)
    refine ax_aload_n G d_Mo_hexadecimal_205 rfl rfl ?_
    refine ax_bipush (v := 48) G d_Mo_hexadecimal_206 (by decide) ?_
    refine ax_lload G d_Mo_hexadecimal_208 rfl ?_
    refine ax_bipush (v := 52) G d_Mo_hexadecimal_210 (by decide) ?_
    rw [show (52 : Int32) = nI 52 from rfl]
    refine ax_lushr G d_Mo_hexadecimal_212 ?_
    rw [l_ushr r 52 (by omega) (by decide)]
    refine ax_l2i G d_Mo_hexadecimal_213 ?_
    rw [show (uw (r / 2 ^ 52)).toInt32 = nI (r / 2 ^ 52) from by rw [uw_lN, lN_i], show (48 : Int32) = nI 48 from rfl]
    refine ax_iadd G d_Mo_hexadecimal_214 ?_
    rw [nI_add]
    generalize hgA : 48 + r / 2 ^ 52 = A0 at *
    refine ax_callV (n := 1) G (ct_Mo_add l [] A0 bf _ _ _ _ _ _ _ _ _ _ _ _ _ _ _ _ _ _ _ _ _ (mi_nil bf) (by decide) (by omega)) d_Mo_hexadecimal_215 rfl ⟨rfl, rfl, trivial⟩ rfl rfl rfl kc_Mo_add ⟨k_Mo_162, ki_Mo_add, ks_Mo_add, kk_Mo⟩ (by decide +kernel) rfl ⟨by decide, by decide⟩ (Nat.le_of_ble_eq_true rfl) ⟨by decide, by decide⟩ (fun r hc_ hq hk_ => ?_)
    obtain ⟨rfl, b1, rfl, hb1⟩ := hq
    rw [List.nil_append] at hb1
    have hPl := pnt_len B ha
    have go : ∀ b3, mi_is b3 ([A0] ++ pnt B ha) → ax_V p l e (ax_rm 1) s m args below meth c D cid ad A 14 0 0 (MQ below Qc args s 0 0 A) 236 [(0, .ref 20), (1, .long v), (4, .int (zb gr)), (5, .int (nI (fE v))), (6, .long (uw r)), (8, .int (nI B))] [] (pc_Mo er le ma ou ta di wr at0 wi pr lf pl bl ha ze wt pt (nI FF.length) (nI ([A0] ++ pnt B ha).length) zs ct po ++ pcT tf2 ++ pcB b3) := by
      intro b3 hb3
      refine ax_iconst (v := 1) G d_Mo_hexadecimal_236 (by decide) ?_
      refine ax_istore G d_Mo_hexadecimal_237 (by decide) ?_
      have q := loop B 0 ([A0] ++ pnt B ha) b3 tf2 (by omega) (by rw [List.length_append]; show 1 + _ ≤ _; omega) htf (by rw [List.range_zero, List.map_nil, List.append_nil]; exact hb3) hT
      rw [List.range_zero, List.map_nil, List.append_nil] at q
      exact q
    have yes : pnt B ha = [46] → ax_V p l e (ax_rm 1) s m args below meth c D cid ad A 14 0 0 (MQ below Qc args s 0 0 A) 230 [(0, .ref 20), (1, .long v), (4, .int (zb gr)), (5, .int (nI (fE v))), (6, .long (uw r)), (8, .int (nI B))] [] (pc_Mo er le ma ou ta di wr at0 wi pr lf pl bl ha ze wt pt (nI FF.length) (nI ([A0]).length) zs ct po ++ pcT tf2 ++ pcB b1) := by
      intro hy
      rw [hy] at go
      refine ax_aload_n G d_Mo_hexadecimal_230 rfl rfl ?_
      refine ax_bipush (v := 46) G d_Mo_hexadecimal_231 (by decide) ?_
      refine ax_callV (n := 1) G (ct_Mo_add l [A0] 46 b1 _ _ _ _ _ _ _ _ _ _ _ _ _ _ _ _ _ _ _ _ _ hb1 (show 1 < 2600 by decide) (by decide)) d_Mo_hexadecimal_233 rfl ⟨rfl, rfl, trivial⟩ rfl rfl rfl kc_Mo_add ⟨k_Mo_162, ki_Mo_add, ks_Mo_add, kk_Mo⟩ (by decide +kernel) rfl ⟨by decide, by decide⟩ (Nat.le_of_ble_eq_true rfl) ⟨by decide, by decide⟩ (fun r hc_ hq hk_ => ?_)
      obtain ⟨rfl, b3, rfl, hb3⟩ := hq
      exact go b3 hb3
    refine ax_iload G d_Mo_hexadecimal_218 rfl ?_
    refine ax_if_gt (tgt := 230) G d_Mo_hexadecimal_220 (by decide) (fun c_220 => ?_) (fun c_220 => ?_)
    · have hp0 : 0 < B := by
        rcases Nat.eq_zero_or_pos B with q | q
        · rw [q] at c_220; exact absurd c_220 (by decide)
        · exact q
      exact yes (by unfold pnt; rw [if_pos (Or.inl hp0)])
    · have hp0 : B = 0 := by
        rcases Nat.eq_zero_or_pos B with q | q
        · exact q
        · exact absurd (nI_lt (a := 0) q (by omega)) c_220
      cases ha with
      | true =>
        refine ax_aload_n G d_Mo_hexadecimal_223 rfl rfl ?_
        refine ax_get (ci := 6) (j := 16) G d_Mo_hexadecimal_224 rfl rfl (by decide) k_Mo_79 rfl ?_
        refine ax_if_eq (tgt := 236) G d_Mo_hexadecimal_227 (by decide) (fun c_227 => ?_) (fun c_227 => ?_)
        · exact absurd c_227 (by decide)
        · exact yes (by unfold pnt; rw [if_pos (Or.inr rfl)])
      | false =>
        refine ax_aload_n G d_Mo_hexadecimal_223 rfl rfl ?_
        refine ax_get (ci := 6) (j := 16) G d_Mo_hexadecimal_224 rfl rfl (by decide) k_Mo_79 rfl ?_
        refine ax_if_eq (tgt := 236) G d_Mo_hexadecimal_227 (by decide) (fun c_227 => ?_) (fun c_227 => ?_)
        · have e0 : pnt B false = [] := by unfold pnt; rw [if_neg (by rw [hp0]; decide)]
          rw [e0, List.append_nil] at go
          exact go b1 hb1
        · exact absurd rfl c_227
  have hF1 : (F ++ [48]).length = F.length + 1 := by rw [List.length_append]; rfl
  have hF2 : FF.length = F.length + 1 + 1 := by rw [← hFF, List.length_append, hF1]; rfl
  have fro2 : ∀ (tf2 : Nat → Int32), mi_is tf2 (F ++ [48]) → ax_V p l e (ax_rm 1) s m args below meth c D cid ad A 14 0 0 (MQ below Qc args s 0 0 A) 177 [(0, .ref 20), (1, .long v), (4, .int (zb gr)), (5, .int (nI (fE v))), (6, .long (uw r)), (8, .int (nI B))] [] (pc_Mo er le ma ou ta di wr at0 wi pr lf pl bl ha ze wt pt (nI (F.length + 1)) (nI 0) zs ct po ++ pcT tf2 ++ pcB bf) := by
    intro tf2 htf
    rw [hF2] at mid
    cases hgr : gr with
    | true =>
      rw [hgr] at hFF mid
      refine ax_aload_n G d_Mo_hexadecimal_177 rfl rfl ?_
      refine ax_get (ci := 6) (j := 20) G d_Mo_hexadecimal_178 rfl rfl (by decide) k_Mo_24 rfl ?_
      refine ax_aload_n G d_Mo_hexadecimal_181 rfl rfl ?_
      refine ax_dup G d_Mo_hexadecimal_182 rfl ?_
      refine ax_get (ci := 6) (j := 22) G d_Mo_hexadecimal_183 rfl rfl (by decide) k_Mo_153 rfl ?_
      refine ax_dup_x1 G d_Mo_hexadecimal_186 rfl rfl ?_
      refine ax_iconst (v := 1) G d_Mo_hexadecimal_187 (by decide) ?_
      refine ax_iadd G d_Mo_hexadecimal_188 ?_
      rw [nI_1]
      refine ax_put (ci := 6) (j := 22) G d_Mo_hexadecimal_189 rfl rfl (by decide) k_Mo_153 rfl rfl rfl (Nat.le_of_ble_eq_true rfl) ?_
      refine ax_iload G d_Mo_hexadecimal_192 rfl ?_
      refine ax_if_eq (tgt := 202) G d_Mo_hexadecimal_194 (by decide) (fun c_194 => ?_) (fun c_194 => ?_)
      · exact absurd c_194 (by decide)
      · refine ax_bipush (v := 88) G d_Mo_hexadecimal_197 (by decide) ?_
        refine ax_goto (tgt := 204) G d_Mo_hexadecimal_199 (by decide) ?_
        refine ax_iast G d_Mo_hexadecimal_204 rfl (vp_in_nI (show F.length + 1 < 4 by omega) (by decide)) ?_
        rw [nI_clamp (by omega)]
        have q := mi_put htf (show 88 < 256 by decide)
        rw [hF1] at q
        exact mid _ _ (by rw [← hFF]; exact q) ⟨rfl, rfl, rfl, rfl, rfl, rfl, trivial⟩
    | false =>
      rw [hgr] at hFF mid
      refine ax_aload_n G d_Mo_hexadecimal_177 rfl rfl ?_
      refine ax_get (ci := 6) (j := 20) G d_Mo_hexadecimal_178 rfl rfl (by decide) k_Mo_24 rfl ?_
      refine ax_aload_n G d_Mo_hexadecimal_181 rfl rfl ?_
      refine ax_dup G d_Mo_hexadecimal_182 rfl ?_
      refine ax_get (ci := 6) (j := 22) G d_Mo_hexadecimal_183 rfl rfl (by decide) k_Mo_153 rfl ?_
      refine ax_dup_x1 G d_Mo_hexadecimal_186 rfl rfl ?_
      refine ax_iconst (v := 1) G d_Mo_hexadecimal_187 (by decide) ?_
      refine ax_iadd G d_Mo_hexadecimal_188 ?_
      rw [nI_1]
      refine ax_put (ci := 6) (j := 22) G d_Mo_hexadecimal_189 rfl rfl (by decide) k_Mo_153 rfl rfl rfl (Nat.le_of_ble_eq_true rfl) ?_
      refine ax_iload G d_Mo_hexadecimal_192 rfl ?_
      refine ax_if_eq (tgt := 202) G d_Mo_hexadecimal_194 (by decide) (fun c_194 => ?_) (fun c_194 => ?_)
      · refine ax_bipush (v := 120) G d_Mo_hexadecimal_202 (by decide) ?_
        refine ax_iast G d_Mo_hexadecimal_204 rfl (vp_in_nI (show F.length + 1 < 4 by omega) (by decide)) ?_
        rw [nI_clamp (by omega)]
        have q := mi_put htf (show 120 < 256 by decide)
        rw [hF1] at q
        exact mid _ _ (by rw [← hFF]; exact q) ⟨rfl, rfl, rfl, rfl, rfl, rfl, trivial⟩
      · exact absurd rfl c_194
  have fro : ∀ (lv : List (Nat × Value)), ax_lsb [(0, .ref 20), (1, .long v), (4, .int (zb gr)), (5, .int (nI (fE v))), (6, .long (uw r)), (8, .int (nI B))] lv → ax_V p l e (ax_rm 1) s m args below meth c D cid ad A 14 0 0 (MQ below Qc args s 0 0 A) 159 lv [] (pc_Mo er le ma ou ta di wr at0 wi pr lf pl bl ha ze wt pt (nI F.length) (nI 0) zs ct po ++ pcT tf ++ pcB bf) := by
    intro lv hlv
    refine ax_less (lv' := [(0, .ref 20), (1, .long v), (4, .int (zb gr)), (5, .int (nI (fE v))), (6, .long (uw r)), (8, .int (nI B))]) ?_ hlv
    refine ax_aload_n G d_Mo_hexadecimal_159 rfl rfl ?_
    refine ax_get (ci := 6) (j := 20) G d_Mo_hexadecimal_160 rfl rfl (by decide) k_Mo_24 rfl ?_
    refine ax_aload_n G d_Mo_hexadecimal_163 rfl rfl ?_
    refine ax_dup G d_Mo_hexadecimal_164 rfl ?_
    refine ax_get (ci := 6) (j := 22) G d_Mo_hexadecimal_165 rfl rfl (by decide) k_Mo_153 rfl ?_
    refine ax_dup_x1 G d_Mo_hexadecimal_168 rfl rfl ?_
    refine ax_iconst (v := 1) G d_Mo_hexadecimal_169 (by decide) ?_
    refine ax_iadd G d_Mo_hexadecimal_170 ?_
    rw [nI_1]
    refine ax_put (ci := 6) (j := 22) G d_Mo_hexadecimal_171 rfl rfl (by decide) k_Mo_153 rfl rfl rfl (Nat.le_of_ble_eq_true rfl) ?_
    refine ax_bipush (v := 48) G d_Mo_hexadecimal_174 (by decide) ?_
    refine ax_iast G d_Mo_hexadecimal_176 rfl (vp_in_nI (show F.length < 4 by omega) (by decide)) ?_
    rw [nI_clamp (by omega)]
    exact fro2 _ (mi_put hF (by decide))
  have rd : ax_V p l e (ax_rm 1) s m args below meth c D cid ad A 14 0 0 (MQ below Qc args s 0 0 A) 31 [(0, .ref 20), (1, .long v), (3, .int (prI q)), (4, .int (zb gr)), (5, .int (nI (fE v))), (6, .long (uw (fS v)))] [] (pc_Mo er le ma ou ta di wr at0 wi pr lf pl bl ha ze wt pt (nI F.length) (nI 0) zs ct po ++ pcT tf ++ pcB bf) := by
    generalize hs0 : fS v = s0 at *
    cases q with
    | none =>
      have eB : hxd s0 13 = B := hb2
      have er0 : s0 = r := by rw [← hr2, ← eB]; exact (rdx_hxd s0).symm
      have lp : ∀ (k : Nat), k ≤ 13 → hxd s0 k = hxd s0 13 → ax_V p l e (ax_rm 1) s m args below meth c D cid ad A 14 0 0 (MQ below Qc args s 0 0 A) 129 [(0, .ref 20), (1, .long v), (3, .int (prI none)), (4, .int (zb gr)), (5, .int (nI (fE v))), (6, .long (uw s0)), (8, .int (nI k))] [] (pc_Mo er le ma ou ta di wr at0 wi pr lf pl bl ha ze wt pt (nI F.length) (nI 0) zs ct po ++ pcT tf ++ pcB bf) := by
        intro k
        induction k with
        | zero =>
          intro hk he
          have eB0 : (0 : Nat) = B := by rw [← eB, ← he]; rfl
          refine ax_iload G d_Mo_hexadecimal_129 rfl ?_
          refine ax_if_le (tgt := 159) G d_Mo_hexadecimal_131 (by decide) (fun c_131 => ?_) (fun c_131 => ?_)
          · exact fro _ ⟨rfl, rfl, rfl, rfl, by rw [er0]; rfl, by rw [← eB0]; rfl, trivial⟩
          · exact absurd (by decide) c_131
        | succ k ih =>
          intro hk he
          rw [hxd_s] at he
          refine ax_iload G d_Mo_hexadecimal_129 rfl ?_
          refine ax_if_le (tgt := 159) G d_Mo_hexadecimal_131 (by decide) (fun c_131 => ?_) (fun c_131 => ?_)
          · exact absurd c_131 (nI_nle (by omega) (by omega))
          · refine ax_lload G d_Mo_hexadecimal_134 rfl ?_
            refine ax_bipush (v := 52) G d_Mo_hexadecimal_136 (by decide) ?_
            refine ax_iconst (v := 4) G d_Mo_hexadecimal_138 (by decide) ?_
            refine ax_iload G d_Mo_hexadecimal_139 rfl ?_
            refine ax_imul G d_Mo_hexadecimal_141 ?_
            refine ax_isub G d_Mo_hexadecimal_142 ?_
            rw [h524 (by omega)]
            refine ax_lushr G d_Mo_hexadecimal_143 ?_
            rw [l_ushr s0 _ (by omega) (by omega)]
            refine ax_ldc2 G d_Mo_hexadecimal_144 k_Mo_214 ?_
            refine ax_land G d_Mo_hexadecimal_147 ?_
            have hlt : s0 / 2 ^ (52 - 4 * (k + 1)) < 2 ^ 64 := Nat.lt_of_le_of_lt (Nat.div_le_self _ _) (by omega)
            rw [l_mask _ _ 4 (by decide +kernel), ul_uw hlt]
            have hz : (lg_cmp (uw (s0 / 2 ^ (52 - 4 * (k + 1)) % 2 ^ 4)) 0 = 0) ↔ s0 / 2 ^ (52 - 4 * (k + 1)) % 16 = 0 := by
              rw [lg_cmp_eq, ul_0, ul_uw (Nat.lt_of_le_of_lt (Nat.mod_le _ _) hlt)]
            refine ax_lconst (v := 0) G d_Mo_hexadecimal_148 (by decide) ?_
            refine ax_lcmp G d_Mo_hexadecimal_149 ?_
            refine ax_if_ne (tgt := 159) G d_Mo_hexadecimal_150 (by decide) (fun c_150 => ?_) (fun c_150 => ?_)
            · rw [if_neg (fun q => c_150 (hz.mpr q))] at he
              have eBk : k + 1 = B := by rw [← eB, ← he]
              exact fro _ ⟨rfl, rfl, rfl, rfl, by rw [er0]; rfl, by rw [← eBk]; rfl, trivial⟩
            · rw [if_pos (hz.mp c_150)] at he
              refine ax_iincZ (z := (-1)) G d_Mo_hexadecimal_153 rfl (by decide) (by decide) ?_
              refine ax_goto (tgt := 129) G d_Mo_hexadecimal_156 (by decide) ?_
              rw [pk_m1]
              exact ih (by omega) he
      refine ax_iload_n G d_Mo_hexadecimal_31 rfl rfl ?_
      refine ax_if_ge (tgt := 40) G d_Mo_hexadecimal_32 (by decide) (fun c_32 => ?_) (fun c_32 => ?_)
      · exact absurd c_32 (by decide)
      · refine ax_bipush (v := 13) G d_Mo_hexadecimal_35 (by decide) ?_
        refine ax_goto (tgt := 41) G d_Mo_hexadecimal_37 (by decide) ?_
        refine ax_istore G d_Mo_hexadecimal_41 (by decide) ?_
        refine ax_iload_n G d_Mo_hexadecimal_43 rfl rfl ?_
        refine ax_if_lt (tgt := 125) G d_Mo_hexadecimal_44 (by decide) (fun c_44 => ?_) (fun c_44 => ?_)
        · refine ax_iload_n G d_Mo_hexadecimal_125 rfl rfl ?_
          refine ax_if_ge (tgt := 159) G d_Mo_hexadecimal_126 (by decide) (fun c_126 => ?_) (fun c_126 => ?_)
          · exact absurd c_126 (by decide)
          · exact lp 13 (Nat.le_refl _) rfl
        · exact absurd (by decide) c_44
    | some k =>
      have hk := hq0 k rfl
      have eB : k = B := hb2
      subst eB
      have z0 : (0 : Int32) ≤ nI k := nI_le (a := 0) (Nat.zero_le _) (by omega)
      show ax_V p l e (ax_rm 1) s m args below meth c D cid ad A 14 0 0 (MQ below Qc args s 0 0 A) 31 [(0, .ref 20), (1, .long v), (3, .int (nI k)), (4, .int (zb gr)), (5, .int (nI (fE v))), (6, .long (uw s0))] [] (pc_Mo er le ma ou ta di wr at0 wi pr lf pl bl ha ze wt pt (nI F.length) (nI 0) zs ct po ++ pcT tf ++ pcB bf)
      have at125 : ∀ (lv : List (Nat × Value)), ax_lsb [(0, .ref 20), (1, .long v), (3, .int (nI k)), (4, .int (zb gr)), (5, .int (nI (fE v))), (6, .long (uw r)), (8, .int (nI k))] lv → ax_V p l e (ax_rm 1) s m args below meth c D cid ad A 14 0 0 (MQ below Qc args s 0 0 A) 125 lv [] (pc_Mo er le ma ou ta di wr at0 wi pr lf pl bl ha ze wt pt (nI F.length) (nI 0) zs ct po ++ pcT tf ++ pcB bf) := by
        intro lv hlv
        refine ax_less (lv' := [(0, .ref 20), (1, .long v), (3, .int (nI k)), (4, .int (zb gr)), (5, .int (nI (fE v))), (6, .long (uw r)), (8, .int (nI k))]) ?_ hlv
        refine ax_iload_n G d_Mo_hexadecimal_125 rfl rfl ?_
        refine ax_if_ge (tgt := 159) G d_Mo_hexadecimal_126 (by decide) (fun c_126 => ?_) (fun c_126 => ?_)
        · exact fro _ ⟨rfl, rfl, rfl, rfl, rfl, rfl, trivial⟩
        · exact absurd z0 c_126
      refine ax_iload_n G d_Mo_hexadecimal_31 rfl rfl ?_
      refine ax_if_ge (tgt := 40) G d_Mo_hexadecimal_32 (by decide) (fun c_32 => ?_) (fun c_32 => ?_)
      · refine ax_iload_n G d_Mo_hexadecimal_40 rfl rfl ?_
        refine ax_istore G d_Mo_hexadecimal_41 (by decide) ?_
        refine ax_iload_n G d_Mo_hexadecimal_43 rfl rfl ?_
        refine ax_if_lt (tgt := 125) G d_Mo_hexadecimal_44 (by decide) (fun c_44 => ?_) (fun c_44 => ?_)
        · exact absurd z0 (Int32.not_le.mpr c_44)
        · refine ax_iload_n G d_Mo_hexadecimal_47 rfl rfl ?_
          refine ax_bipush (v := 13) G d_Mo_hexadecimal_48 (by decide) ?_
          refine ax_icmp_ge (tgt := 125) G d_Mo_hexadecimal_50 (by decide) (fun c_50 => ?_) (fun c_50 => ?_)
          · have h13 : 13 ≤ k := by
              rcases Nat.lt_or_ge k 13 with z | z
              · exact absurd c_50 (nI_ge z (by decide))
              · exact z
            have er0 : s0 = r := by rw [← hr2]; unfold rdx; rw [if_pos h13]
            exact at125 _ ⟨rfl, rfl, rfl, rfl, rfl, by rw [er0]; rfl, rfl, trivial⟩
          · have h13 : k < 13 := by
              rcases Nat.lt_or_ge k 13 with z | z
              · exact z
              · exact absurd (nI_le (a := 13) z (by omega)) c_50
            refine ax_bipush (v := 52) G d_Mo_hexadecimal_53 (by decide) ?_
            refine ax_iconst (v := 4) G d_Mo_hexadecimal_55 (by decide) ?_
            refine ax_iload_n G d_Mo_hexadecimal_56 rfl rfl ?_
            refine ax_imul G d_Mo_hexadecimal_57 ?_
            refine ax_isub G d_Mo_hexadecimal_58 ?_
            rw [h524 (by omega)]
            have hq1 : 52 - 4 * k ≤ 52 ∧ 4 ≤ 52 - 4 * k := by omega
            unfold rdx at hr2
            rw [if_neg (by omega), show 4 * (13 - k) = 52 - 4 * k by omega] at hr2
            generalize 52 - 4 * k = d at hq1 hr2
            have hp : 2 ^ d ≤ 2 ^ 52 := Nat.pow_le_pow_right (by decide) hq1.1
            have hp1 : 2 ^ (d - 1) ≤ 2 ^ 52 := Nat.pow_le_pow_right (by decide) (by omega)
            have hp0 : 0 < 2 ^ d := Nat.pow_pos (by decide)
            refine ax_istore G d_Mo_hexadecimal_59 (by decide) ?_
            refine ax_lload G d_Mo_hexadecimal_61 rfl ?_
            refine ax_lconst (v := 1) G d_Mo_hexadecimal_63 (by decide) ?_
            refine ax_iload G d_Mo_hexadecimal_64 rfl ?_
            rw [show (1 : Int64) = uw 1 from rfl]
            refine ax_lshl G d_Mo_hexadecimal_66 ?_
            rw [l_shl 1 d (by omega) (by rw [Nat.one_mul]; omega), Nat.one_mul]
            refine ax_lconst (v := 1) G d_Mo_hexadecimal_67 (by decide) ?_
            refine ax_lsub G d_Mo_hexadecimal_68 ?_
            have hm : ul (uw (2 ^ d) - 1) = 2 ^ d - 1 := by
              rw [uw_lN, show (1 : Int64) = lN 1 from rfl, lN_sub hp0, ← uw_lN, ul_uw (by omega)]
            refine ax_land G d_Mo_hexadecimal_69 ?_
            rw [l_mask (uw s0) _ d hm, ul_uw (by omega)]
            refine ax_lstore G d_Mo_hexadecimal_70 (by decide) ?_
            refine ax_lconst (v := 1) G d_Mo_hexadecimal_72 (by decide) ?_
            refine ax_iload G d_Mo_hexadecimal_73 rfl ?_
            refine ax_iconst (v := 1) G d_Mo_hexadecimal_75 (by decide) ?_
            refine ax_isub G d_Mo_hexadecimal_76 ?_
            rw [show nI d - 1 = nI d - nI 1 from rfl, pk_sub (by omega)]
            refine ax_lshl G d_Mo_hexadecimal_77 ?_
            rw [show (1 : Int64) = uw 1 from rfl, l_shl 1 (d - 1) (by omega) (by rw [Nat.one_mul]; omega), Nat.one_mul]
            refine ax_lstore G d_Mo_hexadecimal_78 (by decide) ?_
            refine ax_lload G d_Mo_hexadecimal_80 rfl ?_
            refine ax_iload G d_Mo_hexadecimal_82 rfl ?_
            refine ax_lushr G d_Mo_hexadecimal_84 ?_
            rw [l_ushr s0 d (by omega) (by omega)]
            refine ax_lstore G d_Mo_hexadecimal_85 (by decide) ?_
            refine ax_lload G d_Mo_hexadecimal_87 rfl ?_
            refine ax_lload G d_Mo_hexadecimal_89 rfl ?_
            refine ax_lcmp G d_Mo_hexadecimal_91 ?_
            have hr1 : s0 % 2 ^ d < 2 ^ 53 := Nat.lt_of_le_of_lt (Nat.mod_le _ _) hS
            have hk1 : s0 / 2 ^ d < 2 ^ 53 := Nat.lt_of_le_of_lt (Nat.div_le_self _ _) hS
            have hgt : (0 < lg_cmp (uw (s0 % 2 ^ d)) (uw (2 ^ (d - 1)))) ↔ 2 ^ (d - 1) < s0 % 2 ^ d := by
              rw [lg_cmp_gt, uw_lN, uw_lN, pk_lLT (by omega) (by omega)]
            have heq : (lg_cmp (uw (s0 % 2 ^ d)) (uw (2 ^ (d - 1))) = 0) ↔ s0 % 2 ^ d = 2 ^ (d - 1) := by
              rw [lg_cmp_eq, uw_lN, uw_lN, pk_lEQ (by omega) (by omega)]
            have upS : (2 ^ (d - 1) < s0 % 2 ^ d ∨ (s0 % 2 ^ d = 2 ^ (d - 1) ∧ s0 / 2 ^ d % 2 = 1)) → ax_V p l e (ax_rm 1) s m args below meth c D cid ad A 14 0 0 (MQ below Qc args s 0 0 A) 112 [(0, .ref 20), (1, .long v), (3, .int (nI k)), (4, .int (zb gr)), (5, .int (nI (fE v))), (6, .long (uw (s0 / 2 ^ d))), (8, .int (nI k)), (9, .int (nI d))] [] (pc_Mo er le ma ou ta di wr at0 wi pr lf pl bl ha ze wt pt (nI F.length) (nI 0) zs ct po ++ pcT tf ++ pcB bf) := by
              intro hy
              rw [if_pos hy] at hr2
              refine ax_lload G d_Mo_hexadecimal_112 rfl ?_
              refine ax_lconst (v := 1) G d_Mo_hexadecimal_114 (by decide) ?_
              refine ax_ladd G d_Mo_hexadecimal_115 ?_
              rw [show uw (s0 / 2 ^ d) + 1 = uw (s0 / 2 ^ d + 1) from lN_1 _]
              refine ax_lstore G d_Mo_hexadecimal_116 (by decide) ?_
              refine ax_lload G d_Mo_hexadecimal_118 rfl ?_
              refine ax_iload G d_Mo_hexadecimal_120 rfl ?_
              refine ax_lshl G d_Mo_hexadecimal_122 ?_
              rw [l_shl _ d (by omega) (by omega), hr2]
              refine ax_lstore G d_Mo_hexadecimal_123 (by decide) ?_
              exact at125 _ ⟨rfl, rfl, rfl, rfl, rfl, rfl, rfl, trivial⟩
            have noS : ¬ (2 ^ (d - 1) < s0 % 2 ^ d ∨ (s0 % 2 ^ d = 2 ^ (d - 1) ∧ s0 / 2 ^ d % 2 = 1)) → ax_V p l e (ax_rm 1) s m args below meth c D cid ad A 14 0 0 (MQ below Qc args s 0 0 A) 118 [(0, .ref 20), (1, .long v), (3, .int (nI k)), (4, .int (zb gr)), (5, .int (nI (fE v))), (6, .long (uw (s0 / 2 ^ d))), (8, .int (nI k)), (9, .int (nI d))] [] (pc_Mo er le ma ou ta di wr at0 wi pr lf pl bl ha ze wt pt (nI F.length) (nI 0) zs ct po ++ pcT tf ++ pcB bf) := by
              intro hy
              rw [if_neg hy, Nat.add_zero] at hr2
              refine ax_lload G d_Mo_hexadecimal_118 rfl ?_
              refine ax_iload G d_Mo_hexadecimal_120 rfl ?_
              refine ax_lshl G d_Mo_hexadecimal_122 ?_
              rw [l_shl _ d (by omega) (by omega), hr2]
              refine ax_lstore G d_Mo_hexadecimal_123 (by decide) ?_
              exact at125 _ ⟨rfl, rfl, rfl, rfl, rfl, rfl, rfl, trivial⟩
            refine ax_less (lv' := [(0, .ref 20), (1, .long v), (3, .int (nI k)), (4, .int (zb gr)), (5, .int (nI (fE v))), (6, .long (uw (s0 / 2 ^ d))), (8, .int (nI k)), (9, .int (nI d)), (10, .long (uw (s0 % 2 ^ d))), (12, .long (uw (2 ^ (d - 1))))]) ?_ ⟨rfl, rfl, rfl, rfl, rfl, rfl, rfl, rfl, rfl, rfl, trivial⟩
            refine ax_if_gt (tgt := 112) G d_Mo_hexadecimal_92 (by decide) (fun c_92 => ?_) (fun c_92 => ?_)
            · refine ax_less (lv' := _) (upS (Or.inl (hgt.mp c_92))) ⟨rfl, rfl, rfl, rfl, rfl, rfl, rfl, rfl, trivial⟩
            · have n1 : ¬ 2 ^ (d - 1) < s0 % 2 ^ d := fun z => c_92 (hgt.mpr z)
              refine ax_lload G d_Mo_hexadecimal_95 rfl ?_
              refine ax_lload G d_Mo_hexadecimal_97 rfl ?_
              refine ax_lcmp G d_Mo_hexadecimal_99 ?_
              refine ax_if_ne (tgt := 118) G d_Mo_hexadecimal_100 (by decide) (fun c_100 => ?_) (fun c_100 => ?_)
              · have n2 : ¬ s0 % 2 ^ d = 2 ^ (d - 1) := fun z => c_100 (heq.mpr z)
                refine ax_less (lv' := _) (noS (fun z => z.elim n1 (fun y => n2 y.1))) ⟨rfl, rfl, rfl, rfl, rfl, rfl, rfl, rfl, trivial⟩
              · have n2 := heq.mp c_100
                refine ax_lload G d_Mo_hexadecimal_103 rfl ?_
                refine ax_lconst (v := 1) G d_Mo_hexadecimal_105 (by decide) ?_
                refine ax_land G d_Mo_hexadecimal_106 ?_
                rw [l_mask _ 1 1 (by decide +kernel), ul_uw (by omega), Nat.pow_one]
                have hodd : (lg_cmp (uw (s0 / 2 ^ d % 2)) 1 = 0) ↔ s0 / 2 ^ d % 2 = 1 := by
                  rw [lg_cmp_eq, uw_lN, show (1 : Int64) = lN 1 from rfl, pk_lEQ (by omega) (by decide)]
                refine ax_lconst (v := 1) G d_Mo_hexadecimal_107 (by decide) ?_
                refine ax_lcmp G d_Mo_hexadecimal_108 ?_
                refine ax_if_ne (tgt := 118) G d_Mo_hexadecimal_109 (by decide) (fun c_109 => ?_) (fun c_109 => ?_)
                · refine ax_less (lv' := _) (noS (fun z => z.elim n1 (fun y => c_109 (hodd.mpr y.2)))) ⟨rfl, rfl, rfl, rfl, rfl, rfl, rfl, rfl, trivial⟩
                · refine ax_less (lv' := _) (upS (Or.inr ⟨n2, hodd.mp c_109⟩)) ⟨rfl, rfl, rfl, rfl, rfl, rfl, rfl, rfl, trivial⟩
      · exact absurd z0 c_32
  refine ax_lload_n G d_Mo_hexadecimal_0 rfl rfl ?_
  refine ax_bipush (v := 52) G d_Mo_hexadecimal_1 (by decide) ?_
  rw [show (52 : Int32) = nI 52 from rfl]
  rw [← uw_ul v]
  refine ax_lushr G d_Mo_hexadecimal_3 ?_
  rw [l_ushr (ul v) 52 hU (by decide)]
  refine ax_l2i G d_Mo_hexadecimal_4 ?_
  rw [show (uw (ul v / 2 ^ 52)).toInt32 = nI (ul v / 2 ^ 52) from by rw [uw_lN, lN_i]]
  refine ax_sipush (v := 2047) G d_Mo_hexadecimal_5 (by decide) ?_
  refine ax_iand G d_Mo_hexadecimal_8 ?_
  rw [pk_andN (k := 11) (by omega) (by decide), show ul v / 2 ^ 52 % 2 ^ 11 = fE v from rfl]
  rw [uw_ul v]
  refine ax_istore G d_Mo_hexadecimal_9 (by decide) ?_
  refine ax_lload_n G d_Mo_hexadecimal_11 rfl rfl ?_
  refine ax_ldc2 G d_Mo_hexadecimal_12 k_Mo_210 ?_
  refine ax_land G d_Mo_hexadecimal_15 ?_
  rw [l_mask v _ 52 (by decide +kernel), show ul v % 2 ^ 52 = fF v from rfl]
  have h0 : (nI (fE v) = 0) ↔ fE v = 0 := by
    have := nI_eq (a := fE v) (b := 0) (by omega) (by decide)
    rw [nI_0] at this; exact this
  refine ax_iload G d_Mo_hexadecimal_16 rfl ?_
  refine ax_if_ne (tgt := 25) G d_Mo_hexadecimal_18 (by decide) (fun c_18 => ?_) (fun c_18 => ?_)
  · have hE0 : ¬ fE v = 0 := fun z => c_18 (h0.mpr z)
    refine ax_ldc2 G d_Mo_hexadecimal_25 k_Mo_212 ?_
    refine ax_lor G d_Mo_hexadecimal_28 ?_
    rw [show (4503599627370496 : Int64) = uw (2 ^ 52) from rfl, l_hid _ (fF_lt v), show fF v + 2 ^ 52 = fS v by unfold fS; rw [if_neg hE0]]
    refine ax_lstore G d_Mo_hexadecimal_29 (by decide) ?_
    exact rd
  · have hE0 : fE v = 0 := h0.mp c_18
    refine ax_lconst (v := 0) G d_Mo_hexadecimal_21 (by decide) ?_
    refine ax_goto (tgt := 28) G d_Mo_hexadecimal_22 (by decide) ?_
    refine ax_lor G d_Mo_hexadecimal_28 ?_
    rw [show uw (fF v) ||| 0 = uw (fS v) by unfold fS; rw [if_pos hE0, Int64.or_zero]]
    refine ax_lstore G d_Mo_hexadecimal_29 (by decide) ?_
    exact rd

