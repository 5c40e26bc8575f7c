/-! FormatDeskModel: whole -/
set_option maxRecDepth 20000 in
set_option maxHeartbeats 1000000 in
theorem ct_Mo_whole (l : Launch) (L : Nat) (v : Int64) (q : Option Nat) (tf bf rf : Nat → Int32) (er : Int32) (le : Int32) (ma : Int32) (ou : Int32) (ta : Int32) (di : Int32) (wr : Int32) (at0 : Int32) (wi : Int32) (lf : Bool) (pl : Bool) (bl : Bool) (ha : Bool) (ze : Bool) (wt : Bool) (pt : Bool) (ct : Int32) (po : Int32) (zs : Bool) (hq0 : ∀ k, q = some k → k ≤ 200) (hL : L = 100 ∨ L = 105 ∨ L = 117 ∨ L = 111 ∨ L = 120 ∨ L = 88) : ax_CT l y_Mo_whole c_Mo_whole 12 none 1 [.ref 20, .int (nI L), .long v] (pc_Mo er le ma ou ta di wr at0 wi (prI q) lf pl bl ha ze wt pt (nI 0) (nI 0) zs ct po ++ pcT tf ++ pcB bf ++ pcR rf) (fun r h => r = none ∧ ∃ tf' bf' rf' F B, h = pc_Mo er le ma ou ta di wr at0 wi (prI q) lf pl bl ha ze wt pt (nI F.length) (nI B.length) (ze && !lf && q.isNone) ct po ++ pcT tf' ++ pcB bf' ++ pcR rf' ∧ mi_is tf' F ∧ mi_is bf' B ∧ F.length ≤ 4 ∧ B.length ≤ 300 ∧ F = (if L = 100 ∨ L = 105 then sgn (decide (v < 0)) pl bl else []) ++ (if ha = true ∧ (L = 120 ∨ L = 88) ∧ ul v ≠ 0 then [48, L] else []) ∧ B = wT (if (L = 100 ∨ L = 105) ∧ v < 0 then ul (-v) else ul v) (if L = 111 then 8 else if L = 120 ∨ L = 88 then 16 else 10) (ndg (if (L = 100 ∨ L = 105) ∧ v < 0 then ul (-v) else ul v) (if L = 111 then 8 else if L = 120 ∨ L = 88 then 16 else 10) q ha) (decide (L = 88))) := by
  refine ax_ofV (by decide) (Nat.le_of_ble_eq_true rfl) ?_
  intro p e s m args below meth c D cid ad A Qc G hr E
  have core : ∀ (sg ls : Bool) (b U : Nat), (b = 8 ∨ b = 10 ∨ b = 16) → U < 2 ^ 64 → lN U = (if ls then -v else v) → sg = decide (L = 100 ∨ L = 105) → ls = (sg && decide (v < 0)) → b = (if L = 111 then 8 else if L = 120 ∨ L = 88 then 16 else 10) → U = (if (L = 100 ∨ L = 105) ∧ v < 0 then ul (-v) else ul v) → ax_V p l e (ax_rm 1) s m args below meth c D cid ad A 12 0 0 (MQ below Qc args s 0 0 A) 69 [(0, .ref 20), (1, .int (nI L)), (2, .long v), (4, .int (zb sg)), (5, .int (zb ls)), (6, .int (nI b))] [] (pc_Mo er le ma ou ta di wr at0 wi (prI q) lf pl bl ha ze wt pt (nI 0) (nI 0) zs ct po ++ pcT tf ++ pcB bf ++ pcR rf) := by
    intro sg ls b U hb hU hlN hsg hls hbL hUU
    rw [← hbL, ← hUU] at E
    have h22 : U < b ^ 22 := Nat.lt_of_lt_of_le hU (Nat.le_trans (show 2 ^ 64 ≤ 8 ^ 22 by decide) (Nat.pow_le_pow_left (by omega) 22))
    have after : ∀ (n : Nat) (W : Int64) (rf : Nat → Int32), n = dgf b 22 U → (∀ i, i < n → rf i = nI (U / b ^ i % b)) → ax_V p l e (ax_rm 1) s m args below meth c D cid ad A 12 0 0 (MQ below Qc args s 0 0 A) 124 [(0, .ref 20), (1, .int (nI L)), (2, .long v), (4, .int (zb sg)), (5, .int (zb ls)), (6, .int (nI b)), (7, .int (nI n)), (8, .long W)] [] (pc_Mo er le ma ou ta di wr at0 wi (prI q) lf pl bl ha ze wt pt (nI 0) (nI 0) zs ct po ++ pcT tf ++ pcB bf ++ pcR rf) := by
      intro n W rf hn hr2
      have hN22 : n ≤ 22 := by rw [hn]; exact dgf_le b 22 U
      have hUn : U < b ^ n := by rw [hn]; exact dgf_up (by omega) 22 h22
      have hb1 : 0 < b := by omega
      generalize hwd : q.getD 1 = wd
      have hwd2 : wd ≤ 200 := by
        rw [← hwd]
        cases q with
        | none => exact Nat.le_of_ble_eq_true rfl
        | some k => exact hq0 k rfl
      have hndg : ndg U b q ha = if b = 8 ∧ ha = true ∧ max n wd = n then max n wd + 1 else max n wd := by unfold ndg; rw [← hn, hwd]
      rw [hndg] at E
      generalize hM : max n wd = M at E hndg
      have hM2 : M ≤ 200 := by omega
      generalize hgr : decide (L = 88) = gr at E
      have hTl := wT_len U b M gr
      have zer : ∀ (F B : List Nat) (t2 b2 : Nat → Int32) (lv : List (Nat × Value)), mi_is t2 F → mi_is b2 B → F.length ≤ 4 → B.length ≤ 300 → F = (if L = 100 ∨ L = 105 then sgn (decide (v < 0)) pl bl else []) ++ (if ha = true ∧ (L = 120 ∨ L = 88) ∧ ul v ≠ 0 then [48, L] else []) → B = wT U b (if b = 8 ∧ ha = true ∧ M = n then M + 1 else M) gr → ax_lsb [(0, .ref 20)] lv → ax_V p l e (ax_rm 1) s m args below meth c D cid ad A 12 0 0 (MQ below Qc args s 0 0 A) 355 lv [] (pc_Mo er le ma ou ta di wr at0 wi (prI q) lf pl bl ha ze wt pt (nI F.length) (nI B.length) zs ct po ++ pcT t2 ++ pcB b2 ++ pcR rf) := by
        intro F B t2 b2 lv h1 h2 h3 h4 h5 h6 hlv
        refine ax_less (lv' := [(0, .ref 20)]) ?_ hlv
        have fin0 : (ze && !lf && q.isNone) = false → ax_V p l e (ax_rm 1) s m args below meth c D cid ad A 12 0 0 (MQ below Qc args s 0 0 A) 381 [(0, .ref 20)] [.ref 20] (pc_Mo er le ma ou ta di wr at0 wi (prI q) lf pl bl ha ze wt pt (nI F.length) (nI B.length) zs ct po ++ pcT t2 ++ pcB b2 ++ pcR rf) := by
          intro hz
          refine ax_iconst (v := 0) G d_Mo_whole_381 (by decide) ?_
          refine ax_put (ci := 6) (j := 24) G d_Mo_whole_382 rfl rfl (by decide) k_Mo_159 rfl rfl rfl (Nat.le_of_ble_eq_true rfl) ?_
          exact ax_vret G hr E d_Mo_whole_385 rfl ⟨rfl, t2, b2, rf, F, B, by rw [hz] <;> rfl, h1, h2, h3, h4, h5, h6⟩
        cases hze : ze with
        | false =>
          rw [hze] at fin0
          refine ax_aload_n G d_Mo_whole_355 rfl rfl ?_
          refine ax_aload_n G d_Mo_whole_356 rfl rfl ?_
          refine ax_get (ci := 6) (j := 17) G d_Mo_whole_357 rfl rfl (by decide) k_Mo_82 rfl ?_
          refine ax_if_eq (tgt := 381) G d_Mo_whole_360 (by decide) (fun c_360 => ?_) (fun c_360 => ?_)
          · exact fin0 rfl
          · exact absurd rfl c_360
        | true =>
          rw [hze] at fin0
          refine ax_aload_n G d_Mo_whole_355 rfl rfl ?_
          refine ax_aload_n G d_Mo_whole_356 rfl rfl ?_
          refine ax_get (ci := 6) (j := 17) G d_Mo_whole_357 rfl rfl (by decide) k_Mo_82 rfl ?_
          refine ax_if_eq (tgt := 381) G d_Mo_whole_360 (by decide) (fun c_360 => ?_) (fun c_360 => ?_)
          · exact absurd c_360 (by decide)
          · cases hlf : lf with
            | true =>
              rw [hlf] at fin0
              refine ax_aload_n G d_Mo_whole_363 rfl rfl ?_
              refine ax_get (ci := 6) (j := 13) G d_Mo_whole_364 rfl rfl (by decide) k_Mo_69 rfl ?_
              refine ax_if_ne (tgt := 381) G d_Mo_whole_367 (by decide) (fun c_367 => ?_) (fun c_367 => ?_)
              · exact fin0 rfl
              · exact absurd c_367 (by decide)
            | false =>
              rw [hlf] at fin0
              refine ax_aload_n G d_Mo_whole_363 rfl rfl ?_
              refine ax_get (ci := 6) (j := 13) G d_Mo_whole_364 rfl rfl (by decide) k_Mo_69 rfl ?_
              refine ax_if_ne (tgt := 381) G d_Mo_whole_367 (by decide) (fun c_367 => ?_) (fun c_367 => ?_)
              · exact absurd rfl c_367
              · cases hqq : q with
                | none =>
                  refine ax_aload_n G d_Mo_whole_370 rfl rfl ?_
                  refine ax_get (ci := 6) (j := 12) G d_Mo_whole_371 rfl rfl (by decide) k_Mo_94 rfl ?_
                  refine ax_if_ge (tgt := 381) G d_Mo_whole_374 (by decide) (fun c_374 => ?_) (fun c_374 => ?_)
                  · exact absurd c_374 (by decide)
                  · refine ax_iconst (v := 1) G d_Mo_whole_377 (by decide) ?_
                    refine ax_goto (tgt := 382) G d_Mo_whole_378 (by decide) ?_
                    refine ax_put (ci := 6) (j := 24) G d_Mo_whole_382 rfl rfl (by decide) k_Mo_159 rfl rfl rfl (Nat.le_of_ble_eq_true rfl) ?_
                    exact ax_vret G hr E d_Mo_whole_385 rfl ⟨rfl, t2, b2, rf, F, B, by rw [hze, hlf, hqq] <;> rfl, h1, h2, h3, h4, h5, h6⟩
                | some k =>
                  have hk := hq0 k hqq
                  rw [hqq] at fin0
                  refine ax_aload_n G d_Mo_whole_370 rfl rfl ?_
                  refine ax_get (ci := 6) (j := 12) G d_Mo_whole_371 rfl rfl (by decide) k_Mo_94 rfl ?_
                  refine ax_if_ge (tgt := 381) G d_Mo_whole_374 (by decide) (fun c_374 => ?_) (fun c_374 => ?_)
                  · exact fin0 rfl
                  · exact absurd (nI_pos' (by omega)) c_374
      have oct : ∀ (F : List Nat) (t2 b2 : Nat → Int32) (lv : List (Nat × Value)), mi_is t2 F → F.length ≤ 4 → F = (if L = 100 ∨ L = 105 then sgn (decide (v < 0)) pl bl else []) ++ (if ha = true ∧ (L = 120 ∨ L = 88) ∧ ul v ≠ 0 then [48, L] else []) → mi_is b2 (wT U b M gr) → ax_lsb [(0, .ref 20), (6, .int (nI b))] lv → ax_V p l e (ax_rm 1) s m args below meth c D cid ad A 12 0 0 (MQ below Qc args s 0 0 A) 272 lv [] (pc_Mo er le ma ou ta di wr at0 wi (prI q) lf pl bl ha ze wt pt (nI F.length) (nI M) zs ct po ++ pcT t2 ++ pcB b2 ++ pcR rf) := by
        intro F t2 b2 lv h1 h2 h3 h4 hlv
        refine ax_less (lv' := [(0, .ref 20), (6, .int (nI b))]) ?_ hlv
        have plain : ¬ (b = 8 ∧ ha = true ∧ M = n) → ax_V p l e (ax_rm 1) s m args below meth c D cid ad A 12 0 0 (MQ below Qc args s 0 0 A) 355 [(0, .ref 20), (6, .int (nI b))] [] (pc_Mo er le ma ou ta di wr at0 wi (prI q) lf pl bl ha ze wt pt (nI F.length) (nI M) zs ct po ++ pcT t2 ++ pcB b2 ++ pcR rf) := by
          intro hno
          have qq := zer F (wT U b M gr) t2 b2 [(0, .ref 20), (6, .int (nI b))] h1 h4 h2 (by omega) h3 (by rw [if_neg hno]) ⟨rfl, trivial⟩
          rw [hTl] at qq
          exact qq
        cases hha : ha with
        | false =>
          rw [hha] at plain
          refine ax_aload_n G d_Mo_whole_272 rfl rfl ?_
          refine ax_get (ci := 6) (j := 16) G d_Mo_whole_273 rfl rfl (by decide) k_Mo_79 rfl ?_
          refine ax_if_eq (tgt := 355) G d_Mo_whole_276 (by decide) (fun c_276 => ?_) (fun c_276 => ?_)
          · exact plain (fun z => absurd z.2.1 (by decide))
          · exact absurd rfl c_276
        | true =>
          rw [hha] at plain
          rw [hha] at zer
          have shf : b = 8 → M = n → ax_V p l e (ax_rm 1) s m args below meth c D cid ad A 12 0 0 (MQ below Qc args s 0 0 A) 304 [(0, .ref 20), (6, .int (nI b))] [] (pc_Mo er le ma ou ta di wr at0 wi (prI q) lf pl bl true ze wt pt (nI F.length) (nI M) zs ct po ++ pcT t2 ++ pcB b2 ++ pcR rf) := by
            intro hb8 hMn
            have loop : ∀ (k : Nat) (b3 : Nat → Int32) (lv : List (Nat × Value)), k ≤ M → (∀ i, i < k → b3 i = nI ((wT U b M gr).getD i 0)) → (∀ i, k < i → i ≤ M → b3 i = nI ((wT U b M gr).getD (i - 1) 0)) → ax_lsb [(0, .ref 20), (6, .int (nI b)), (11, .int (nI k))] lv → ax_V p l e (ax_rm 1) s m args below meth c D cid ad A 12 0 0 (MQ below Qc args s 0 0 A) 310 lv [] (pc_Mo er le ma ou ta di wr at0 wi (prI q) lf pl bl true ze wt pt (nI F.length) (nI M) zs ct po ++ pcT t2 ++ pcB b3 ++ pcR rf) := by
              intro k
              induction k with
              | zero =>
                intro b3 lv hk i1 i2 hlv
                refine ax_less (lv' := [(0, .ref 20), (6, .int (nI b)), (11, .int (nI 0))]) ?_ hlv
                refine ax_iload G d_Mo_whole_310 rfl ?_
                refine ax_if_le (tgt := 337) G d_Mo_whole_312 (by decide) (fun c_312 => ?_) (fun c_312 => ?_)
                · refine ax_aload_n G d_Mo_whole_337 rfl rfl ?_
                  refine ax_get (ci := 6) (j := 21) G d_Mo_whole_338 rfl rfl (by decide) k_Mo_27 rfl ?_
                  refine ax_iconst (v := 0) G d_Mo_whole_341 (by decide) ?_
                  refine ax_bipush (v := 48) G d_Mo_whole_342 (by decide) ?_
                  refine ax_iast G d_Mo_whole_344 rfl (vp_in_nI (n := 0) (by decide) (by decide)) ?_
                  refine ax_aload_n G d_Mo_whole_345 rfl rfl ?_
                  refine ax_dup G d_Mo_whole_346 rfl ?_
                  refine ax_get (ci := 6) (j := 23) G d_Mo_whole_347 rfl rfl (by decide) k_Mo_156 rfl ?_
                  refine ax_iconst (v := 1) G d_Mo_whole_350 (by decide) ?_
                  refine ax_iadd G d_Mo_whole_351 ?_
                  rw [nI_1]
                  refine ax_put (ci := 6) (j := 23) G d_Mo_whole_352 rfl rfl (by decide) k_Mo_156 rfl rfl rfl (Nat.le_of_ble_eq_true rfl) ?_
                  have hB : wT U b (M + 1) gr = 48 :: wT U b M gr := wT_s (by omega) (by rw [hMn]; exact hUn)
                  have qq := zer F (48 :: wT U b M gr) t2 (upd b3 0 48) [(0, .ref 20), (6, .int (nI b)), (11, .int (nI 0))] h1 ?_ h2 ?_ (by rw [hha] at h3; exact h3) ?_ ⟨rfl, trivial⟩
                  · rw [List.length_cons, hTl] at qq
                    exact qq
                  · intro i hi
                    rw [List.length_cons, hTl] at hi
                    cases i with
                    | zero => exact ⟨pk_us, by rw [gd0]; decide⟩
                    | succ i =>
                      rw [gdS, pk_un (by omega)]
                      exact ⟨i2 (i + 1) (by omega) (by omega), mi_lt h4 (by omega)⟩
                  · rw [List.length_cons, hTl]; omega
                  · rw [if_pos ⟨hb8, rfl, hMn⟩, hB]
                · exact absurd (Int32.le_refl _) c_312
              | succ k ih =>
                intro b3 lv hk i1 i2 hlv
                refine ax_less (lv' := [(0, .ref 20), (6, .int (nI b)), (11, .int (nI (k + 1)))]) ?_ hlv
                refine ax_iload G d_Mo_whole_310 rfl ?_
                refine ax_if_le (tgt := 337) G d_Mo_whole_312 (by decide) (fun c_312 => ?_) (fun c_312 => ?_)
                · exact absurd c_312 (nI_nle (by omega) (by omega))
                · refine ax_aload_n G d_Mo_whole_315 rfl rfl ?_
                  refine ax_get (ci := 6) (j := 21) G d_Mo_whole_316 rfl rfl (by decide) k_Mo_27 rfl ?_
                  refine ax_iload G d_Mo_whole_319 rfl ?_
                  refine ax_aload_n G d_Mo_whole_321 rfl rfl ?_
                  refine ax_get (ci := 6) (j := 21) G d_Mo_whole_322 rfl rfl (by decide) k_Mo_27 rfl ?_
                  refine ax_iload G d_Mo_whole_325 rfl ?_
                  refine ax_iconst (v := 1) G d_Mo_whole_327 (by decide) ?_
                  refine ax_isub G d_Mo_whole_328 ?_
                  rw [nI_pred]
                  refine ax_iald G d_Mo_whole_329 rfl (vp_in_nI (by omega) (by decide)) ?_
                  rw [nI_clamp (by omega), i1 k (by omega)]
                  refine ax_iast G d_Mo_whole_330 rfl (vp_in_nI (by omega) (by decide)) ?_
                  rw [nI_clamp (by omega)]
                  refine ax_iincZ (z := (-1)) G d_Mo_whole_331 rfl (by decide) (by decide) ?_
                  rw [pk_m1]
                  refine ax_goto (tgt := 310) G d_Mo_whole_334 (by decide) ?_
                  refine ih _ _ (by omega) (fun i hi => ?_) (fun i hi hi2 => ?_) ⟨rfl, rfl, rfl, trivial⟩
                  · rw [pk_un (by omega)]; exact i1 i (by omega)
                  · by_cases hik : i = k + 1
                    · subst hik; rw [pk_us]; rfl
                    · rw [pk_un hik]; exact i2 i (by omega) hi2
            refine ax_aload_n G d_Mo_whole_304 rfl rfl ?_
            refine ax_get (ci := 6) (j := 23) G d_Mo_whole_305 rfl rfl (by decide) k_Mo_156 rfl ?_
            refine ax_istore G d_Mo_whole_308 (by decide) ?_
            exact loop M b2 _ (Nat.le_refl _) (fun i hi => mi_at h4 (by omega)) (fun i hi hi2 => by omega) ⟨rfl, rfl, rfl, trivial⟩
          refine ax_aload_n G d_Mo_whole_272 rfl rfl ?_
          refine ax_get (ci := 6) (j := 16) G d_Mo_whole_273 rfl rfl (by decide) k_Mo_79 rfl ?_
          refine ax_if_eq (tgt := 355) G d_Mo_whole_276 (by decide) (fun c_276 => ?_) (fun c_276 => ?_)
          · exact absurd c_276 (by decide)
          · refine ax_iload G d_Mo_whole_279 rfl ?_
            refine ax_bipush (v := 8) G d_Mo_whole_281 (by decide) ?_
            refine ax_icmp_ne (tgt := 355) G d_Mo_whole_283 (by decide) (fun c_283 => ?_) (fun c_283 => ?_)
            · have hb8 : ¬ b = 8 := fun z => c_283 (by rw [z]; rfl)
              exact plain (fun z => hb8 z.1)
            · have hb8 : b = 8 := (nI_eq (b := 8) (by omega) (by decide)).mp c_283
              refine ax_aload_n G d_Mo_whole_286 rfl rfl ?_
              refine ax_get (ci := 6) (j := 23) G d_Mo_whole_287 rfl rfl (by decide) k_Mo_156 rfl ?_
              refine ax_if_eq (tgt := 304) G d_Mo_whole_290 (by decide) (fun c_290 => ?_) (fun c_290 => ?_)
              · have hM0 : M = 0 := by
                  rcases Nat.eq_zero_or_pos M with y | y
                  · exact y
                  · exact absurd c_290 (nI_ne0 y (by omega))
                exact shf hb8 (by omega)
              · have hM0 : 0 < M := by
                  rcases Nat.eq_zero_or_pos M with y | y
                  · exact absurd (by rw [y]; rfl) c_290
                  · exact y
                refine ax_aload_n G d_Mo_whole_293 rfl rfl ?_
                refine ax_get (ci := 6) (j := 21) G d_Mo_whole_294 rfl rfl (by decide) k_Mo_27 rfl ?_
                refine ax_iconst (v := 0) G d_Mo_whole_297 (by decide) ?_
                refine ax_iald G d_Mo_whole_298 rfl (vp_in_nI (n := 0) (by decide) (by decide)) ?_
                rw [show (0 : Int32).toNatClampNeg = 0 from rfl, mi_at h4 (by omega)]
                have hgf : gr = false := by
                  rw [← hgr]
                  refine decide_eq_false (fun z => ?_)
                  rw [z] at hbL
                  rw [hb8] at hbL
                  exact absurd hbL (by decide)
                by_cases hMn : M = n
                · have hlo := dgf_lo (b := b) (by omega) 22 U (by rw [← hn]; omega)
                  rw [← hn] at hlo
                  have htp := top_d (b := b) (U := U) (n := n) (by omega) hlo hUn (by omega)
                  have htb : U / b ^ (n - 1) % b < 8 := Nat.lt_of_lt_of_le (Nat.mod_lt _ hb1) (by omega)
                  have ev : (wT U b M gr).getD 0 0 = 48 + U / b ^ (n - 1) % b := by
                    rw [wT_at hM0, hMn, hgf]
                    show hx (U / b ^ (n - 1) % b) = _
                    unfold hx
                    rw [if_pos (by omega)]
                  rw [ev]
                  refine ax_bipush (v := 48) G d_Mo_whole_299 (by decide) ?_
                  refine ax_icmp_eq (tgt := 355) G d_Mo_whole_301 (by decide) (fun c_301 => ?_) (fun c_301 => ?_)
                  · exact absurd ((nI_eq (b := 48) (by omega) (by decide)).mp c_301) (by omega)
                  · exact shf hb8 hMn
                · have ev : (wT U b M gr).getD 0 0 = 48 := wT_0 (n := n) (by omega) hUn hM0 (by omega)
                  rw [ev]
                  refine ax_bipush (v := 48) G d_Mo_whole_299 (by decide) ?_
                  refine ax_icmp_eq (tgt := 355) G d_Mo_whole_301 (by decide) (fun c_301 => ?_) (fun c_301 => ?_)
                  · exact plain (fun z => hMn z.2.2)
                  · exact absurd rfl c_301
      have digs : ∀ (j : Nat) (F : List Nat) (t2 b2 : Nat → Int32) (lv : List (Nat × Value)), j ≤ n → mi_is t2 F → F.length ≤ 4 → F = (if L = 100 ∨ L = 105 then sgn (decide (v < 0)) pl bl else []) ++ (if ha = true ∧ (L = 120 ∨ L = 88) ∧ ul v ≠ 0 then [48, L] else []) → mi_is b2 ((wT U b M gr).take (M - j)) → ax_lsb [(0, .ref 20), (1, .int (nI L)), (6, .int (nI b)), (11, .int (nI j - 1))] lv → ax_V p l e (ax_rm 1) s m args below meth c D cid ad A 12 0 0 (MQ below Qc args s 0 0 A) 236 lv [] (pc_Mo er le ma ou ta di wr at0 wi (prI q) lf pl bl ha ze wt pt (nI F.length) (nI ((wT U b M gr).take (M - j)).length) zs ct po ++ pcT t2 ++ pcB b2 ++ pcR rf) := by
        intro j
        induction j with
        | zero =>
          intro F t2 b2 lv hj h1 h2 h3 h4 hlv
          refine ax_less (lv' := [(0, .ref 20), (1, .int (nI L)), (6, .int (nI b)), (11, .int (nI 0 - 1))]) ?_ hlv
          rw [Nat.sub_zero, List.take_of_length_le (by omega)] at h4 ⊢
          rw [hTl]
          refine ax_iload G d_Mo_whole_236 rfl ?_
          refine ax_if_lt (tgt := 272) G d_Mo_whole_238 (by decide) (fun c_238 => ?_) (fun c_238 => ?_)
          · exact oct F t2 b2 _ h1 h2 h3 h4 ⟨rfl, rfl, trivial⟩
          · exact absurd (by decide) c_238
        | succ j ih =>
          intro F t2 b2 lv hj h1 h2 h3 h4 hlv
          refine ax_less (lv' := [(0, .ref 20), (1, .int (nI L)), (6, .int (nI b)), (11, .int (nI j))]) ?_ (by rw [nI_pred] at hlv; exact hlv)
          have hd16 : U / b ^ j % b < 16 := Nat.lt_of_lt_of_le (Nat.mod_lt _ hb1) (by omega)
          have hm1 : M - (j + 1) < M := by omega
          have hl4 : ((wT U b M gr).take (M - (j + 1))).length = M - (j + 1) := by rw [List.length_take, hTl]; omega
          have hval : (wT U b M gr).getD (M - (j + 1)) 0 = gd gr (hx (U / b ^ j % b)) := by rw [wT_at hm1, show M - 1 - (M - (j + 1)) = j by omega]
          have hcl : gd gr (hx (U / b ^ j % b)) < 256 := Nat.lt_of_lt_of_le (gd_lt (hx_lt hd16)) (by decide)
          have put : ax_V p l e (ax_rm 1) s m args below meth c D cid ad A 12 0 0 (MQ below Qc args s 0 0 A) 260 [(0, .ref 20), (1, .int (nI L)), (6, .int (nI b)), (11, .int (nI j))] [.int (zb gr), .int (nI (U / b ^ j % b)), .ref 20] (pc_Mo er le ma ou ta di wr at0 wi (prI q) lf pl bl ha ze wt pt (nI F.length) (nI ((wT U b M gr).take (M - (j + 1))).length) zs ct po ++ pcT t2 ++ pcB b2 ++ pcR rf) := by
            refine ax_callS (n := 2) G (ct_Mo_digit l (U / b ^ j % b) gr hd16) d_Mo_whole_260 rfl trivial rfl kc_Mo_digit ⟨k_Mo_185, kt_Mo_digit, kk_Mo⟩ (by decide +kernel) rfl ⟨by decide, by decide⟩ (Nat.le_of_ble_eq_true rfl) ⟨by decide, by decide⟩ (fun r hc_ hq hk_ => ?_)
            obtain ⟨rfl, rfl⟩ := hq
            refine ax_callV (n := 1) G (ct_Mo_add l ((wT U b M gr).take (M - (j + 1))) (gd gr (hx (U / b ^ j % b))) b2 _ _ _ _ _ _ _ _ _ _ _ _ _ _ _ _ _ _ _ _ _ h4 (by omega) hcl) d_Mo_whole_263 rfl ⟨rfl, rfl, trivial⟩ rfl rfl rfl kc_Mo_add ⟨k_Mo_162, ki_Mo_add, ks_Mo_add, kk_Mo⟩ (by decide +kernel) rfl ⟨by decide, by decide⟩ (Nat.le_of_ble_eq_true rfl) ⟨by decide, by decide⟩ (fun r hc_ hq hk_ => ?_)
            obtain ⟨rfl, b3, rfl, hb3⟩ := hq
            have e3 : (wT U b M gr).take (M - (j + 1)) ++ [gd gr (hx (U / b ^ j % b))] = (wT U b M gr).take (M - j) := by
              rw [← hval, ← tk_s (by omega), show M - (j + 1) + 1 = M - j by omega]
            rw [e3] at hb3 ⊢
            refine ax_iincZ (z := (-1)) G d_Mo_whole_266 rfl (by decide) (by decide) ?_
            rw [addm1]
            refine ax_goto (tgt := 236) G d_Mo_whole_269 (by decide) ?_
            exact ih F t2 b3 _ (by omega) h1 h2 h3 hb3 ⟨rfl, rfl, rfl, rfl, trivial⟩
          refine ax_iload G d_Mo_whole_236 rfl ?_
          refine ax_if_lt (tgt := 272) G d_Mo_whole_238 (by decide) (fun c_238 => ?_) (fun c_238 => ?_)
          · exact absurd c_238 (nI_pos (by omega))
          · refine ax_aload_n G d_Mo_whole_241 rfl rfl ?_
            refine ax_aload_n G d_Mo_whole_242 rfl rfl ?_
            refine ax_get (ci := 6) (j := 25) G d_Mo_whole_243 rfl rfl (by decide) k_Mo_30 rfl ?_
            refine ax_iload G d_Mo_whole_246 rfl ?_
            refine ax_iald G d_Mo_whole_248 rfl (vp_in_nI (by omega) (by decide)) ?_
            rw [nI_clamp (by omega), hr2 j (by omega)]
            refine ax_iload_n G d_Mo_whole_249 rfl rfl ?_
            refine ax_bipush (v := 88) G d_Mo_whole_250 (by decide) ?_
            refine ax_icmp_ne (tgt := 259) G d_Mo_whole_252 (by decide) (fun c_252 => ?_) (fun c_252 => ?_)
            · have h88 : ¬ L = 88 := fun z => c_252 (by rw [z]; rfl)
              rw [show gr = false by rw [← hgr]; exact decide_eq_false h88] at put
              refine ax_iconst (v := 0) G d_Mo_whole_259 (by decide) ?_
              rw [show gr = false by rw [← hgr]; exact decide_eq_false h88]
              exact put
            · have h88 : L = 88 := (nI_eq (b := 88) (by omega) (by decide)).mp c_252
              rw [show gr = true by rw [← hgr]; exact decide_eq_true h88] at put
              refine ax_iconst (v := 1) G d_Mo_whole_255 (by decide) ?_
              refine ax_goto (tgt := 260) G d_Mo_whole_256 (by decide) ?_
              rw [show gr = true by rw [← hgr]; exact decide_eq_true h88]
              exact put
      have zrs : ∀ (z k : Nat) (F : List Nat) (t2 b2 : Nat → Int32) (lv : List (Nat × Value)), k + z = max n wd → n ≤ k → mi_is t2 F → F.length ≤ 4 → F = (if L = 100 ∨ L = 105 then sgn (decide (v < 0)) pl bl else []) ++ (if ha = true ∧ (L = 120 ∨ L = 88) ∧ ul v ≠ 0 then [48, L] else []) → mi_is b2 ((wT U b M gr).take (k - n)) → ax_lsb [(0, .ref 20), (1, .int (nI L)), (6, .int (nI b)), (7, .int (nI n)), (10, .int (nI wd)), (11, .int (nI k))] lv → ax_V p l e (ax_rm 1) s m args below meth c D cid ad A 12 0 0 (MQ below Qc args s 0 0 A) 211 lv [] (pc_Mo er le ma ou ta di wr at0 wi (prI q) lf pl bl ha ze wt pt (nI F.length) (nI ((wT U b M gr).take (k - n)).length) zs ct po ++ pcT t2 ++ pcB b2 ++ pcR rf) := by
        intro z
        induction z with
        | zero =>
          intro k F t2 b2 lv hk hnk h1 h2 h3 h4 hlv
          refine ax_less (lv' := [(0, .ref 20), (1, .int (nI L)), (6, .int (nI b)), (7, .int (nI n)), (10, .int (nI wd)), (11, .int (nI k))]) ?_ hlv
          have ek : k = M := by omega
          subst ek
          refine ax_iload G d_Mo_whole_211 rfl ?_
          refine ax_iload G d_Mo_whole_213 rfl ?_
          refine ax_icmp_ge (tgt := 230) G d_Mo_whole_215 (by decide) (fun c_215 => ?_) (fun c_215 => ?_)
          · refine ax_iload G d_Mo_whole_230 rfl ?_
            refine ax_iconst (v := 1) G d_Mo_whole_232 (by decide) ?_
            refine ax_isub G d_Mo_whole_233 ?_
            refine ax_istore G d_Mo_whole_234 (by decide) ?_
            exact digs n F t2 b2 _ (Nat.le_refl _) h1 h2 h3 h4 ⟨rfl, rfl, rfl, rfl, trivial⟩
          · exact absurd (nI_le (by omega) (by omega)) c_215
        | succ z ih =>
          intro k F t2 b2 lv hk hnk h1 h2 h3 h4 hlv
          refine ax_less (lv' := [(0, .ref 20), (1, .int (nI L)), (6, .int (nI b)), (7, .int (nI n)), (10, .int (nI wd)), (11, .int (nI k))]) ?_ hlv
          have hkM : k < M := by omega
          have hkw : k < wd := by omega
          have hl4 : ((wT U b M gr).take (k - n)).length = k - n := by rw [List.length_take, hTl]; omega
          refine ax_iload G d_Mo_whole_211 rfl ?_
          refine ax_iload G d_Mo_whole_213 rfl ?_
          refine ax_icmp_ge (tgt := 230) G d_Mo_whole_215 (by decide) (fun c_215 => ?_) (fun c_215 => ?_)
          · exact absurd c_215 (nI_ge hkw (by omega))
          · refine ax_aload_n G d_Mo_whole_218 rfl rfl ?_
            refine ax_bipush (v := 48) G d_Mo_whole_219 (by decide) ?_
            refine ax_callV (n := 1) G (ct_Mo_add l ((wT U b M gr).take (k - n)) 48 b2 _ _ _ _ _ _ _ _ _ _ _ _ _ _ _ _ _ _ _ _ _ h4 (by omega) (by decide)) d_Mo_whole_221 rfl ⟨rfl, rfl, trivial⟩ rfl rfl rfl kc_Mo_add ⟨k_Mo_162, ki_Mo_add, ks_Mo_add, kk_Mo⟩ (by decide +kernel) rfl ⟨by decide, by decide⟩ (Nat.le_of_ble_eq_true rfl) ⟨by decide, by decide⟩ (fun r hc_ hq hk_ => ?_)
            obtain ⟨rfl, b3, rfl, hb3⟩ := hq
            have e3 : (wT U b M gr).take (k - n) ++ [48] = (wT U b M gr).take (k + 1 - n) := by
              rw [show k + 1 - n = k - n + 1 by omega, tk_s (by omega), wT_0 (n := n) (by omega) hUn (by omega) (by omega)]
            rw [e3] at hb3 ⊢
            refine ax_iincZ (z := 1) G d_Mo_whole_224 rfl (by decide) (by decide) ?_
            refine ax_goto (tgt := 211) G d_Mo_whole_227 (by decide) ?_
            rw [nI_1]
            exact ih (k + 1) F t2 b3 _ (by omega) (by omega) h1 h2 h3 hb3 ⟨rfl, rfl, rfl, rfl, rfl, rfl, trivial⟩
      have go : ∀ (F : List Nat) (t2 : Nat → Int32) (lv : List (Nat × Value)), mi_is t2 F → F.length ≤ 4 → F = (if L = 100 ∨ L = 105 then sgn (decide (v < 0)) pl bl else []) ++ (if ha = true ∧ (L = 120 ∨ L = 88) ∧ ul v ≠ 0 then [48, L] else []) → ax_lsb [(0, .ref 20), (1, .int (nI L)), (6, .int (nI b)), (7, .int (nI n)), (10, .int (nI wd))] lv → ax_V p l e (ax_rm 1) s m args below meth c D cid ad A 12 0 0 (MQ below Qc args s 0 0 A) 207 lv [] (pc_Mo er le ma ou ta di wr at0 wi (prI q) lf pl bl ha ze wt pt (nI F.length) (nI 0) zs ct po ++ pcT t2 ++ pcB bf ++ pcR rf) := by
        intro F t2 lv h1 h2 h3 hlv
        refine ax_less (lv' := [(0, .ref 20), (1, .int (nI L)), (6, .int (nI b)), (7, .int (nI n)), (10, .int (nI wd))]) ?_ hlv
        refine ax_iload G d_Mo_whole_207 rfl ?_
        refine ax_istore G d_Mo_whole_209 (by decide) ?_
        have qq := zrs (max n wd - n) n F t2 bf [(0, .ref 20), (1, .int (nI L)), (6, .int (nI b)), (7, .int (nI n)), (10, .int (nI wd)), (11, .int (nI n))] (by omega) (Nat.le_refl _) h1 h2 h3 (by rw [Nat.sub_self, List.take_zero]; exact mi_nil bf) ⟨rfl, rfl, rfl, rfl, rfl, rfl, trivial⟩
        rw [Nat.sub_self, List.take_zero] at qq
        exact qq
      have fr2 : ∀ (F1 : List Nat) (t2 : Nat → Int32) (lv : List (Nat × Value)), mi_is t2 F1 → F1.length ≤ 1 → F1 = (if L = 100 ∨ L = 105 then sgn (decide (v < 0)) pl bl else []) → ax_lsb [(0, .ref 20), (1, .int (nI L)), (2, .long v), (6, .int (nI b)), (7, .int (nI n)), (10, .int (nI wd))] lv → ax_V p l e (ax_rm 1) s m args below meth c D cid ad A 12 0 0 (MQ below Qc args s 0 0 A) 152 lv [] (pc_Mo er le ma ou ta di wr at0 wi (prI q) lf pl bl ha ze wt pt (nI F1.length) (nI 0) zs ct po ++ pcT t2 ++ pcB bf ++ pcR rf) := by
        intro F1 t2 lv h1 h2 h3 hlv
        refine ax_less (lv' := [(0, .ref 20), (1, .int (nI L)), (2, .long v), (6, .int (nI b)), (7, .int (nI n)), (10, .int (nI wd))]) ?_ hlv
        have no : ¬ (ha = true ∧ (L = 120 ∨ L = 88) ∧ ul v ≠ 0) → ax_V p l e (ax_rm 1) s m args below meth c D cid ad A 12 0 0 (MQ below Qc args s 0 0 A) 207 [(0, .ref 20), (1, .int (nI L)), (2, .long v), (6, .int (nI b)), (7, .int (nI n)), (10, .int (nI wd))] [] (pc_Mo er le ma ou ta di wr at0 wi (prI q) lf pl bl ha ze wt pt (nI F1.length) (nI 0) zs ct po ++ pcT t2 ++ pcB bf ++ pcR rf) := by
          intro hno
          exact go F1 t2 _ h1 (by omega) (by rw [if_neg hno, List.append_nil]; exact h3) ⟨rfl, rfl, rfl, rfl, rfl, trivial⟩
        have h16 : b = 16 ↔ (L = 120 ∨ L = 88) := by rw [hbL]; rcases hL with h | h | h | h | h | h <;> rw [h] <;> decide
        cases hha : ha with
        | false =>
          rw [hha] at no
          refine ax_aload_n G d_Mo_whole_152 rfl rfl ?_
          refine ax_get (ci := 6) (j := 16) G d_Mo_whole_153 rfl rfl (by decide) k_Mo_79 rfl ?_
          refine ax_if_eq (tgt := 207) G d_Mo_whole_156 (by decide) (fun c_156 => ?_) (fun c_156 => ?_)
          · exact no (fun z => absurd z.1 (by decide))
          · exact absurd rfl c_156
        | true =>
          rw [hha] at no go
          refine ax_aload_n G d_Mo_whole_152 rfl rfl ?_
          refine ax_get (ci := 6) (j := 16) G d_Mo_whole_153 rfl rfl (by decide) k_Mo_79 rfl ?_
          refine ax_if_eq (tgt := 207) G d_Mo_whole_156 (by decide) (fun c_156 => ?_) (fun c_156 => ?_)
          · exact absurd c_156 (by decide)
          · refine ax_iload G d_Mo_whole_159 rfl ?_
            refine ax_bipush (v := 16) G d_Mo_whole_161 (by decide) ?_
            refine ax_icmp_ne (tgt := 207) G d_Mo_whole_163 (by decide) (fun c_163 => ?_) (fun c_163 => ?_)
            · have hb6 : ¬ b = 16 := fun z => c_163 (by rw [z]; rfl)
              exact no (fun z => hb6 (h16.mpr z.2.1))
            · have hb6 : b = 16 := (nI_eq (b := 16) (by omega) (by decide)).mp c_163
              refine ax_lload_n G d_Mo_whole_166 rfl rfl ?_
              refine ax_lconst (v := 0) G d_Mo_whole_167 (by decide) ?_
              refine ax_lcmp G d_Mo_whole_168 ?_
              refine ax_if_eq (tgt := 207) G d_Mo_whole_169 (by decide) (fun c_169 => ?_) (fun c_169 => ?_)
              · have hv0 : v = 0 := (lg_cmp_eq v 0).mp c_169
                exact no (fun z => z.2.2 (ul_0.mp hv0))
              · have hv0 : ul v ≠ 0 := fun z => c_169 ((lg_cmp_eq v 0).mpr (ul_0.mpr z))
                have hL256 : L < 256 := by omega
                refine ax_aload_n G d_Mo_whole_172 rfl rfl ?_
                refine ax_get (ci := 6) (j := 20) G d_Mo_whole_173 rfl rfl (by decide) k_Mo_24 rfl ?_
                refine ax_aload_n G d_Mo_whole_176 rfl rfl ?_
                refine ax_dup G d_Mo_whole_177 rfl ?_
                refine ax_get (ci := 6) (j := 22) G d_Mo_whole_178 rfl rfl (by decide) k_Mo_153 rfl ?_
                refine ax_dup_x1 G d_Mo_whole_181 rfl rfl ?_
                refine ax_iconst (v := 1) G d_Mo_whole_182 (by decide) ?_
                refine ax_iadd G d_Mo_whole_183 ?_
                rw [nI_1]
                refine ax_put (ci := 6) (j := 22) G d_Mo_whole_184 rfl rfl (by decide) k_Mo_153 rfl rfl rfl (Nat.le_of_ble_eq_true rfl) ?_
                refine ax_bipush (v := 48) G d_Mo_whole_187 (by decide) ?_
                refine ax_iast G d_Mo_whole_189 rfl (vp_in_nI (by omega) (by decide)) ?_
                rw [nI_clamp (by omega)]
                refine ax_aload_n G d_Mo_whole_190 rfl rfl ?_
                refine ax_get (ci := 6) (j := 20) G d_Mo_whole_191 rfl rfl (by decide) k_Mo_24 rfl ?_
                refine ax_aload_n G d_Mo_whole_194 rfl rfl ?_
                refine ax_dup G d_Mo_whole_195 rfl ?_
                refine ax_get (ci := 6) (j := 22) G d_Mo_whole_196 rfl rfl (by decide) k_Mo_153 rfl ?_
                refine ax_dup_x1 G d_Mo_whole_199 rfl rfl ?_
                refine ax_iconst (v := 1) G d_Mo_whole_200 (by decide) ?_
                refine ax_iadd G d_Mo_whole_201 ?_
                rw [nI_1]
                refine ax_put (ci := 6) (j := 22) G d_Mo_whole_202 rfl rfl (by decide) k_Mo_153 rfl rfl rfl (Nat.le_of_ble_eq_true rfl) ?_
                refine ax_iload_n G d_Mo_whole_205 rfl rfl ?_
                refine ax_iast G d_Mo_whole_206 rfl (vp_in_nI (by omega) (by decide)) ?_
                rw [nI_clamp (by omega)]
                have p1 := mi_put h1 (c := 48) (by decide)
                have p2 := mi_put p1 (c := L) hL256
                have e48 : List.length (F1 ++ [48]) = F1.length + 1 := by rw [List.length_append]; rfl
                rw [e48] at p2
                have hX : (if true = true ∧ (L = 120 ∨ L = 88) ∧ ul v ≠ 0 then [48, L] else []) = [48, L] := if_pos ⟨rfl, h16.mp hb6, hv0⟩
                have e49 : List.length (F1 ++ [48] ++ [L]) = F1.length + 1 + 1 := by rw [List.length_append, List.length_append]; rfl
                exact go (F1 ++ [48] ++ [L]) _ _ p2 (by rw [List.length_append, List.length_append]; show _ + 1 + 1 ≤ 4; omega) (by rw [hX, ← h3, List.append_assoc]; rfl) ⟨rfl, rfl, rfl, rfl, rfl, trivial⟩ |> fun qq => by rw [e49] at qq; exact qq
      have sgx : ax_V p l e (ax_rm 1) s m args below meth c D cid ad A 12 0 0 (MQ below Qc args s 0 0 A) 141 [(0, .ref 20), (1, .int (nI L)), (2, .long v), (6, .int (nI b)), (7, .int (nI n)), (10, .int (nI wd)), (4, .int (zb sg)), (5, .int (zb ls))] [] (pc_Mo er le ma ou ta di wr at0 wi (prI q) lf pl bl ha ze wt pt (nI 0) (nI 0) zs ct po ++ pcT tf ++ pcB bf ++ pcR rf) := by
        have hsl := sgn_len ls pl bl
        cases hss : sg with
        | false =>
          have hno : ¬ (L = 100 ∨ L = 105) := by rw [hss] at hsg; exact of_decide_eq_false hsg.symm
          refine ax_iload G d_Mo_whole_141 rfl ?_
          refine ax_if_eq (tgt := 152) G d_Mo_whole_143 (by decide) (fun c_143 => ?_) (fun c_143 => ?_)
          · exact fr2 [] tf _ (mi_nil tf) (by decide) (by rw [if_neg hno]) ⟨rfl, rfl, rfl, rfl, rfl, rfl, trivial⟩
          · exact absurd rfl c_143
        | true =>
          have hyes : L = 100 ∨ L = 105 := by rw [hss] at hsg; exact of_decide_eq_true hsg.symm
          have hl2 : ls = decide (v < 0) := by rw [hls, hss]; rfl
          refine ax_iload G d_Mo_whole_141 rfl ?_
          refine ax_if_eq (tgt := 152) G d_Mo_whole_143 (by decide) (fun c_143 => ?_) (fun c_143 => ?_)
          · exact absurd c_143 (by decide)
          · refine ax_aload_n G d_Mo_whole_146 rfl rfl ?_
            refine ax_iload G d_Mo_whole_147 rfl ?_
            refine ax_callV (n := 1) G (ct_Mo_sign l ls [] tf _ _ _ _ _ _ _ _ _ _ _ _ _ _ _ _ _ _ _ _ _ (mi_nil tf) (by decide)) d_Mo_whole_149 rfl ⟨rfl, rfl, trivial⟩ rfl rfl rfl kc_Mo_sign ⟨k_Mo_181, ki_Mo_sign, ks_Mo_sign, kk_Mo⟩ (by decide +kernel) rfl ⟨by decide, by decide⟩ (Nat.le_of_ble_eq_true rfl) ⟨by decide, by decide⟩ (fun r hc_ hq hk_ => ?_)
            obtain ⟨rfl, t2, rfl, ht2⟩ := hq
            rw [List.nil_append] at ht2 ⊢
            exact fr2 (sgn ls pl bl) t2 _ ht2 hsl (by rw [if_pos hyes, hl2]) ⟨rfl, rfl, rfl, rfl, rfl, rfl, trivial⟩
      cases hqq : q with
      | none =>
        rw [hqq] at sgx hwd
        have e1 : wd = 1 := hwd.symm
        rw [e1] at sgx
        refine ax_aload_n G d_Mo_whole_124 rfl rfl ?_
        refine ax_get (ci := 6) (j := 12) G d_Mo_whole_125 rfl rfl (by decide) k_Mo_94 rfl ?_
        refine ax_if_ge (tgt := 135) G d_Mo_whole_128 (by decide) (fun c_128 => ?_) (fun c_128 => ?_)
        · exact absurd c_128 (by decide)
        · refine ax_iconst (v := 1) G d_Mo_whole_131 (by decide) ?_
          refine ax_goto (tgt := 139) G d_Mo_whole_132 (by decide) ?_
          refine ax_istore G d_Mo_whole_139 (by decide) ?_
          exact ax_less (lv' := [(0, .ref 20), (1, .int (nI L)), (2, .long v), (6, .int (nI b)), (7, .int (nI n)), (10, .int (nI 1)), (4, .int (zb sg)), (5, .int (zb ls))]) sgx ⟨rfl, rfl, rfl, rfl, rfl, rfl, rfl, rfl, trivial⟩
      | some k =>
        have hk := hq0 k hqq
        rw [hqq] at sgx hwd
        have e1 : wd = k := hwd.symm
        rw [e1] at sgx
        refine ax_aload_n G d_Mo_whole_124 rfl rfl ?_
        refine ax_get (ci := 6) (j := 12) G d_Mo_whole_125 rfl rfl (by decide) k_Mo_94 rfl ?_
        refine ax_if_ge (tgt := 135) G d_Mo_whole_128 (by decide) (fun c_128 => ?_) (fun c_128 => ?_)
        · refine ax_aload_n G d_Mo_whole_135 rfl rfl ?_
          refine ax_get (ci := 6) (j := 12) G d_Mo_whole_136 rfl rfl (by decide) k_Mo_94 rfl ?_
          refine ax_istore G d_Mo_whole_139 (by decide) ?_
          exact ax_less (lv' := [(0, .ref 20), (1, .int (nI L)), (2, .long v), (6, .int (nI b)), (7, .int (nI n)), (10, .int (nI k)), (4, .int (zb sg)), (5, .int (zb ls))]) sgx ⟨rfl, rfl, rfl, rfl, rfl, rfl, rfl, rfl, trivial⟩
        · exact absurd (nI_pos' (by omega)) c_128
    have dig : ∀ (z n : Nat) (rf : Nat → Int32), n + z = 22 → U / b ^ n < b ^ z → dgf b z (U / b ^ n) + n = dgf b 22 U → (∀ i, i < n → rf i = nI (U / b ^ i % b)) → ax_V p l e (ax_rm 1) s m args below meth c D cid ad A 12 0 0 (MQ below Qc args s 0 0 A) 85 [(0, .ref 20), (1, .int (nI L)), (2, .long v), (4, .int (zb sg)), (5, .int (zb ls)), (6, .int (nI b)), (7, .int (nI n)), (8, .long (lN (U / b ^ n)))] [] (pc_Mo er le ma ou ta di wr at0 wi (prI q) lf pl bl ha ze wt pt (nI 0) (nI 0) zs ct po ++ pcT tf ++ pcB bf ++ pcR rf) := by
      intro z
      induction z with
      | zero =>
        intro n rf hn hz hd hr2
        have h0 : U / b ^ n = 0 := Nat.lt_one_iff.mp hz
        have hn2 : n = dgf b 22 U := by rw [← hd]; show n = 0 + n; omega
        rw [h0]
        refine ax_lload G d_Mo_whole_85 rfl ?_
        refine ax_lconst (v := 0) G d_Mo_whole_87 (by decide) ?_
        refine ax_lcmp G d_Mo_whole_88 ?_
        refine ax_if_eq (tgt := 124) G d_Mo_whole_89 (by decide) (fun c_89 => ?_) (fun c_89 => ?_)
        · exact after n _ rf hn2 hr2
        · exact absurd (by decide) c_89
      | succ z ih =>
        intro n rf hn hz hd hr2
        have hW : U / b ^ n < 2 ^ 64 := Nat.lt_of_le_of_lt (Nat.div_le_self _ _) hU
        have hz0 : (lg_cmp (lN (U / b ^ n)) 0 = 0) ↔ U / b ^ n = 0 := by rw [← uw_lN, lg_cmp_eq, ul_0, ul_uw hW]
        have hb1 : 0 < b := by omega
        have hnx : U / b ^ (n + 1) = U / b ^ n / b := by rw [Nat.pow_succ, Nat.div_div_eq_div_mul]
        have hz2 : U / b ^ n / b < b ^ z := by rw [Nat.div_lt_iff_lt_mul hb1, ← Nat.pow_succ]; exact hz
        have ih2 := fun (rf : Nat → Int32) => ih (n + 1) rf (by omega)
        rw [hnx] at ih2
        rw [dgf_s] at hd
        have hrr : ∀ i, i < n + 1 → upd rf n (nI (U / b ^ n % b)) i = nI (U / b ^ i % b) := by
          intro i hi
          by_cases hin : i = n
          · subst hin; exact pk_us
          · rw [pk_un hin]; exact hr2 i (by omega)
        have hml : U / b ^ n % b < 16 := Nat.lt_of_lt_of_le (Nat.mod_lt _ hb1) (by omega)
        clear ih hnx hz hr2
        generalize U / b ^ n = W at *
        refine ax_lload G d_Mo_whole_85 rfl ?_
        refine ax_lconst (v := 0) G d_Mo_whole_87 (by decide) ?_
        refine ax_lcmp G d_Mo_whole_88 ?_
        refine ax_if_eq (tgt := 124) G d_Mo_whole_89 (by decide) (fun c_89 => ?_) (fun c_89 => ?_)
        · have h0 : W = 0 := hz0.mp c_89
          rw [if_pos h0] at hd
          exact after n _ rf (by omega) (fun i hi => by have := hrr i (by omega); rw [pk_un (by omega)] at this; exact this)
        · have h0 : ¬ W = 0 := fun y => c_89 (hz0.mpr y)
          rw [if_neg h0] at hd
          refine ax_aload_n G d_Mo_whole_92 rfl rfl ?_
          refine ax_get (ci := 6) (j := 25) G d_Mo_whole_93 rfl rfl (by decide) k_Mo_30 rfl ?_
          refine ax_iload G d_Mo_whole_96 rfl ?_
          refine ax_iincZ (z := 1) G d_Mo_whole_98 rfl (by decide) (by decide) ?_
          rw [nI_1]
          refine ax_lload G d_Mo_whole_101 rfl ?_
          refine ax_iload G d_Mo_whole_103 rfl ?_
          refine ax_i2l G d_Mo_whole_105 ?_
          rw [nI_l (by omega)]
          refine ax_callS (n := 2) G (ct_Lo_remainderUnsigned l W b hW hb) d_Mo_whole_106 rfl trivial rfl kc_Lo_remainderUnsigned ⟨k_Mo_172, kt_Lo_remainderUnsigned, kk_Lo⟩ (by decide +kernel) rfl ⟨by decide, by decide⟩ (Nat.le_of_ble_eq_true rfl) ⟨by decide, by decide⟩ (fun r hc_ hq hk_ => ?_)
          obtain ⟨rfl, rfl⟩ := hq
          refine ax_l2i G d_Mo_whole_109 ?_
          rw [lN_i]
          refine ax_iast G d_Mo_whole_110 rfl (vp_in_nI (by omega) (by decide)) ?_
          rw [nI_clamp (by omega)]
          refine ax_lload G d_Mo_whole_111 rfl ?_
          refine ax_iload G d_Mo_whole_113 rfl ?_
          refine ax_i2l G d_Mo_whole_115 ?_
          rw [nI_l (by omega)]
          refine ax_callS (n := 2) G (ct_Lo_divideUnsigned l W b hW hb) d_Mo_whole_116 rfl trivial rfl kc_Lo_divideUnsigned ⟨k_Mo_178, kt_Lo_divideUnsigned, kk_Lo⟩ (by decide +kernel) rfl ⟨by decide, by decide⟩ (Nat.le_of_ble_eq_true rfl) ⟨by decide, by decide⟩ (fun r hc_ hq hk_ => ?_)
          obtain ⟨rfl, rfl⟩ := hq
          refine ax_lstore G d_Mo_whole_119 (by decide) ?_
          refine ax_goto (tgt := 85) G d_Mo_whole_121 (by decide) ?_
          exact ih2 _ hz2 (by omega) hrr
    have d0 := dig 22 0 rf rfl (by rw [Nat.pow_zero, Nat.div_one]; exact h22) (by rw [Nat.pow_zero, Nat.div_one, Nat.add_zero]) (fun i hi => absurd hi (Nat.not_lt_zero i))
    rw [Nat.pow_zero, Nat.div_one, hlN] at d0
    cases ls with
    | true =>
      refine ax_iconst (v := 0) G d_Mo_whole_69 (by decide) ?_
      refine ax_istore G d_Mo_whole_70 (by decide) ?_
      refine ax_iload G d_Mo_whole_72 rfl ?_
      refine ax_if_eq (tgt := 82) G d_Mo_whole_74 (by decide) (fun c_74 => ?_) (fun c_74 => ?_)
      · exact absurd c_74 (by decide)
      · refine ax_lload_n G d_Mo_whole_77 rfl rfl ?_
        refine ax_lneg G d_Mo_whole_78 ?_
        refine ax_goto (tgt := 83) G d_Mo_whole_79 (by decide) ?_
        refine ax_lstore G d_Mo_whole_83 (by decide) ?_
        exact d0
    | false =>
      refine ax_iconst (v := 0) G d_Mo_whole_69 (by decide) ?_
      refine ax_istore G d_Mo_whole_70 (by decide) ?_
      refine ax_iload G d_Mo_whole_72 rfl ?_
      refine ax_if_eq (tgt := 82) G d_Mo_whole_74 (by decide) (fun c_74 => ?_) (fun c_74 => ?_)
      · refine ax_lload_n G d_Mo_whole_82 rfl rfl ?_
        refine ax_lstore G d_Mo_whole_83 (by decide) ?_
        exact d0
      · exact absurd rfl c_74
  rcases hL with h | h | h | h | h | h <;> subst h
  · refine ax_iload_n G d_Mo_whole_0 rfl rfl ?_
    refine ax_bipush (v := 100) G d_Mo_whole_1 (by decide) ?_
    refine ax_icmp_eq (tgt := 12) G d_Mo_whole_3 (by decide) (fun c_3 => ?_) (fun c_3 => ?_)
    · refine ax_iconst (v := 1) G d_Mo_whole_12 (by decide) ?_
      refine ax_goto (tgt := 17) G d_Mo_whole_13 (by decide) ?_
      refine ax_istore G d_Mo_whole_17 (by decide) ?_
      refine ax_iload G d_Mo_whole_19 rfl ?_
      refine ax_if_eq (tgt := 34) G d_Mo_whole_21 (by decide) (fun c_21 => ?_) (fun c_21 => ?_)
      · exact absurd c_21 (by decide)
      · refine ax_lload_n G d_Mo_whole_24 rfl rfl ?_
        refine ax_lconst (v := 0) G d_Mo_whole_25 (by decide) ?_
        refine ax_lcmp G d_Mo_whole_26 ?_
        refine ax_if_ge (tgt := 34) G d_Mo_whole_27 (by decide) (fun c_27 => ?_) (fun c_27 => ?_)
        · have hv : ¬ v < 0 := Int64.not_lt.mpr ((lg_cmp_ge v 0).mp c_27)
          refine ax_iconst (v := 0) G d_Mo_whole_34 (by decide) ?_
          refine ax_istore G d_Mo_whole_35 (by decide) ?_
          refine ax_iload_n G d_Mo_whole_37 rfl rfl ?_
          refine ax_bipush (v := 111) G d_Mo_whole_38 (by decide) ?_
          refine ax_icmp_ne (tgt := 48) G d_Mo_whole_40 (by decide) (fun c_40 => ?_) (fun c_40 => ?_)
          · refine ax_iload_n G d_Mo_whole_48 rfl rfl ?_
            refine ax_bipush (v := 120) G d_Mo_whole_49 (by decide) ?_
            refine ax_icmp_eq (tgt := 60) G d_Mo_whole_51 (by decide) (fun c_51 => ?_) (fun c_51 => ?_)
            · exact absurd c_51 (by decide)
            · refine ax_iload_n G d_Mo_whole_54 rfl rfl ?_
              refine ax_bipush (v := 88) G d_Mo_whole_55 (by decide) ?_
              refine ax_icmp_ne (tgt := 65) G d_Mo_whole_57 (by decide) (fun c_57 => ?_) (fun c_57 => ?_)
              · refine ax_bipush (v := 10) G d_Mo_whole_65 (by decide) ?_
                refine ax_istore G d_Mo_whole_67 (by decide) ?_
                exact core true false 10 (ul v) (Or.inr (Or.inl rfl)) (ul_lt v) (uw_ul v) rfl (by rw [decide_eq_false hv]; rfl) rfl (by rw [if_neg (fun z => hv z.2)])
              · exact absurd c_57 (by decide)
          · exact absurd c_40 (by decide)
        · have hv : v < 0 := Int64.not_le.mp (fun z => c_27 ((lg_cmp_ge v 0).mpr z))
          refine ax_iconst (v := 1) G d_Mo_whole_30 (by decide) ?_
          refine ax_goto (tgt := 35) G d_Mo_whole_31 (by decide) ?_
          refine ax_istore G d_Mo_whole_35 (by decide) ?_
          refine ax_iload_n G d_Mo_whole_37 rfl rfl ?_
          refine ax_bipush (v := 111) G d_Mo_whole_38 (by decide) ?_
          refine ax_icmp_ne (tgt := 48) G d_Mo_whole_40 (by decide) (fun c_40 => ?_) (fun c_40 => ?_)
          · refine ax_iload_n G d_Mo_whole_48 rfl rfl ?_
            refine ax_bipush (v := 120) G d_Mo_whole_49 (by decide) ?_
            refine ax_icmp_eq (tgt := 60) G d_Mo_whole_51 (by decide) (fun c_51 => ?_) (fun c_51 => ?_)
            · exact absurd c_51 (by decide)
            · refine ax_iload_n G d_Mo_whole_54 rfl rfl ?_
              refine ax_bipush (v := 88) G d_Mo_whole_55 (by decide) ?_
              refine ax_icmp_ne (tgt := 65) G d_Mo_whole_57 (by decide) (fun c_57 => ?_) (fun c_57 => ?_)
              · refine ax_bipush (v := 10) G d_Mo_whole_65 (by decide) ?_
                refine ax_istore G d_Mo_whole_67 (by decide) ?_
                exact core true true 10 (ul (-v)) (Or.inr (Or.inl rfl)) (ul_lt _) (uw_ul (-v)) rfl (by rw [decide_eq_true hv]; rfl) rfl (by rw [if_pos ⟨by decide, hv⟩])
              · exact absurd c_57 (by decide)
          · exact absurd c_40 (by decide)
    · exact absurd rfl c_3
  · refine ax_iload_n G d_Mo_whole_0 rfl rfl ?_
    refine ax_bipush (v := 100) G d_Mo_whole_1 (by decide) ?_
    refine ax_icmp_eq (tgt := 12) G d_Mo_whole_3 (by decide) (fun c_3 => ?_) (fun c_3 => ?_)
    · exact absurd c_3 (by decide)
    · refine ax_iload_n G d_Mo_whole_6 rfl rfl ?_
      refine ax_bipush (v := 105) G d_Mo_whole_7 (by decide) ?_
      refine ax_icmp_ne (tgt := 16) G d_Mo_whole_9 (by decide) (fun c_9 => ?_) (fun c_9 => ?_)
      · exact absurd rfl c_9
      · refine ax_iconst (v := 1) G d_Mo_whole_12 (by decide) ?_
        refine ax_goto (tgt := 17) G d_Mo_whole_13 (by decide) ?_
        refine ax_istore G d_Mo_whole_17 (by decide) ?_
        refine ax_iload G d_Mo_whole_19 rfl ?_
        refine ax_if_eq (tgt := 34) G d_Mo_whole_21 (by decide) (fun c_21 => ?_) (fun c_21 => ?_)
        · exact absurd c_21 (by decide)
        · refine ax_lload_n G d_Mo_whole_24 rfl rfl ?_
          refine ax_lconst (v := 0) G d_Mo_whole_25 (by decide) ?_
          refine ax_lcmp G d_Mo_whole_26 ?_
          refine ax_if_ge (tgt := 34) G d_Mo_whole_27 (by decide) (fun c_27 => ?_) (fun c_27 => ?_)
          · have hv : ¬ v < 0 := Int64.not_lt.mpr ((lg_cmp_ge v 0).mp c_27)
            refine ax_iconst (v := 0) G d_Mo_whole_34 (by decide) ?_
            refine ax_istore G d_Mo_whole_35 (by decide) ?_
            refine ax_iload_n G d_Mo_whole_37 rfl rfl ?_
            refine ax_bipush (v := 111) G d_Mo_whole_38 (by decide) ?_
            refine ax_icmp_ne (tgt := 48) G d_Mo_whole_40 (by decide) (fun c_40 => ?_) (fun c_40 => ?_)
            · refine ax_iload_n G d_Mo_whole_48 rfl rfl ?_
              refine ax_bipush (v := 120) G d_Mo_whole_49 (by decide) ?_
              refine ax_icmp_eq (tgt := 60) G d_Mo_whole_51 (by decide) (fun c_51 => ?_) (fun c_51 => ?_)
              · exact absurd c_51 (by decide)
              · refine ax_iload_n G d_Mo_whole_54 rfl rfl ?_
                refine ax_bipush (v := 88) G d_Mo_whole_55 (by decide) ?_
                refine ax_icmp_ne (tgt := 65) G d_Mo_whole_57 (by decide) (fun c_57 => ?_) (fun c_57 => ?_)
                · refine ax_bipush (v := 10) G d_Mo_whole_65 (by decide) ?_
                  refine ax_istore G d_Mo_whole_67 (by decide) ?_
                  exact core true false 10 (ul v) (Or.inr (Or.inl rfl)) (ul_lt v) (uw_ul v) rfl (by rw [decide_eq_false hv]; rfl) rfl (by rw [if_neg (fun z => hv z.2)])
                · exact absurd c_57 (by decide)
            · exact absurd c_40 (by decide)
          · have hv : v < 0 := Int64.not_le.mp (fun z => c_27 ((lg_cmp_ge v 0).mpr z))
            refine ax_iconst (v := 1) G d_Mo_whole_30 (by decide) ?_
            refine ax_goto (tgt := 35) G d_Mo_whole_31 (by decide) ?_
            refine ax_istore G d_Mo_whole_35 (by decide) ?_
            refine ax_iload_n G d_Mo_whole_37 rfl rfl ?_
            refine ax_bipush (v := 111) G d_Mo_whole_38 (by decide) ?_
            refine ax_icmp_ne (tgt := 48) G d_Mo_whole_40 (by decide) (fun c_40 => ?_) (fun c_40 => ?_)
            · refine ax_iload_n G d_Mo_whole_48 rfl rfl ?_
              refine ax_bipush (v := 120) G d_Mo_whole_49 (by decide) ?_
              refine ax_icmp_eq (tgt := 60) G d_Mo_whole_51 (by decide) (fun c_51 => ?_) (fun c_51 => ?_)
              · exact absurd c_51 (by decide)
              · refine ax_iload_n G d_Mo_whole_54 rfl rfl ?_
                refine ax_bipush (v := 88) G d_Mo_whole_55 (by decide) ?_
                refine ax_icmp_ne (tgt := 65) G d_Mo_whole_57 (by decide) (fun c_57 => ?_) (fun c_57 => ?_)
                · refine ax_bipush (v := 10) G d_Mo_whole_65 (by decide) ?_
                  refine ax_istore G d_Mo_whole_67 (by decide) ?_
                  exact core true true 10 (ul (-v)) (Or.inr (Or.inl rfl)) (ul_lt _) (uw_ul (-v)) rfl (by rw [decide_eq_true hv]; rfl) rfl (by rw [if_pos ⟨by decide, hv⟩])
                · exact absurd c_57 (by decide)
            · exact absurd c_40 (by decide)
  · refine ax_iload_n G d_Mo_whole_0 rfl rfl ?_
    refine ax_bipush (v := 100) G d_Mo_whole_1 (by decide) ?_
    refine ax_icmp_eq (tgt := 12) G d_Mo_whole_3 (by decide) (fun c_3 => ?_) (fun c_3 => ?_)
    · exact absurd c_3 (by decide)
    · refine ax_iload_n G d_Mo_whole_6 rfl rfl ?_
      refine ax_bipush (v := 105) G d_Mo_whole_7 (by decide) ?_
      refine ax_icmp_ne (tgt := 16) G d_Mo_whole_9 (by decide) (fun c_9 => ?_) (fun c_9 => ?_)
      · refine ax_iconst (v := 0) G d_Mo_whole_16 (by decide) ?_
        refine ax_istore G d_Mo_whole_17 (by decide) ?_
        refine ax_iload G d_Mo_whole_19 rfl ?_
        refine ax_if_eq (tgt := 34) G d_Mo_whole_21 (by decide) (fun c_21 => ?_) (fun c_21 => ?_)
        · refine ax_iconst (v := 0) G d_Mo_whole_34 (by decide) ?_
          refine ax_istore G d_Mo_whole_35 (by decide) ?_
          refine ax_iload_n G d_Mo_whole_37 rfl rfl ?_
          refine ax_bipush (v := 111) G d_Mo_whole_38 (by decide) ?_
          refine ax_icmp_ne (tgt := 48) G d_Mo_whole_40 (by decide) (fun c_40 => ?_) (fun c_40 => ?_)
          · refine ax_iload_n G d_Mo_whole_48 rfl rfl ?_
            refine ax_bipush (v := 120) G d_Mo_whole_49 (by decide) ?_
            refine ax_icmp_eq (tgt := 60) G d_Mo_whole_51 (by decide) (fun c_51 => ?_) (fun c_51 => ?_)
            · exact absurd c_51 (by decide)
            · refine ax_iload_n G d_Mo_whole_54 rfl rfl ?_
              refine ax_bipush (v := 88) G d_Mo_whole_55 (by decide) ?_
              refine ax_icmp_ne (tgt := 65) G d_Mo_whole_57 (by decide) (fun c_57 => ?_) (fun c_57 => ?_)
              · refine ax_bipush (v := 10) G d_Mo_whole_65 (by decide) ?_
                refine ax_istore G d_Mo_whole_67 (by decide) ?_
                exact core false false 10 (ul v) (Or.inr (Or.inl rfl)) (ul_lt v) (uw_ul v) rfl rfl rfl (by rw [if_neg (fun z => absurd z.1 (by decide))])
              · exact absurd c_57 (by decide)
          · exact absurd c_40 (by decide)
        · exact absurd rfl c_21
      · exact absurd c_9 (by decide)
  · refine ax_iload_n G d_Mo_whole_0 rfl rfl ?_
    refine ax_bipush (v := 100) G d_Mo_whole_1 (by decide) ?_
    refine ax_icmp_eq (tgt := 12) G d_Mo_whole_3 (by decide) (fun c_3 => ?_) (fun c_3 => ?_)
    · exact absurd c_3 (by decide)
    · refine ax_iload_n G d_Mo_whole_6 rfl rfl ?_
      refine ax_bipush (v := 105) G d_Mo_whole_7 (by decide) ?_
      refine ax_icmp_ne (tgt := 16) G d_Mo_whole_9 (by decide) (fun c_9 => ?_) (fun c_9 => ?_)
      · refine ax_iconst (v := 0) G d_Mo_whole_16 (by decide) ?_
        refine ax_istore G d_Mo_whole_17 (by decide) ?_
        refine ax_iload G d_Mo_whole_19 rfl ?_
        refine ax_if_eq (tgt := 34) G d_Mo_whole_21 (by decide) (fun c_21 => ?_) (fun c_21 => ?_)
        · refine ax_iconst (v := 0) G d_Mo_whole_34 (by decide) ?_
          refine ax_istore G d_Mo_whole_35 (by decide) ?_
          refine ax_iload_n G d_Mo_whole_37 rfl rfl ?_
          refine ax_bipush (v := 111) G d_Mo_whole_38 (by decide) ?_
          refine ax_icmp_ne (tgt := 48) G d_Mo_whole_40 (by decide) (fun c_40 => ?_) (fun c_40 => ?_)
          · exact absurd rfl c_40
          · refine ax_bipush (v := 8) G d_Mo_whole_43 (by decide) ?_
            refine ax_goto (tgt := 67) G d_Mo_whole_45 (by decide) ?_
            refine ax_istore G d_Mo_whole_67 (by decide) ?_
            exact core false false 8 (ul v) (Or.inl rfl) (ul_lt v) (uw_ul v) rfl rfl rfl (by rw [if_neg (fun z => absurd z.1 (by decide))])
        · exact absurd rfl c_21
      · exact absurd c_9 (by decide)
  · refine ax_iload_n G d_Mo_whole_0 rfl rfl ?_
    refine ax_bipush (v := 100) G d_Mo_whole_1 (by decide) ?_
    refine ax_icmp_eq (tgt := 12) G d_Mo_whole_3 (by decide) (fun c_3 => ?_) (fun c_3 => ?_)
    · exact absurd c_3 (by decide)
    · refine ax_iload_n G d_Mo_whole_6 rfl rfl ?_
      refine ax_bipush (v := 105) G d_Mo_whole_7 (by decide) ?_
      refine ax_icmp_ne (tgt := 16) G d_Mo_whole_9 (by decide) (fun c_9 => ?_) (fun c_9 => ?_)
      · refine ax_iconst (v := 0) G d_Mo_whole_16 (by decide) ?_
        refine ax_istore G d_Mo_whole_17 (by decide) ?_
        refine ax_iload G d_Mo_whole_19 rfl ?_
        refine ax_if_eq (tgt := 34) G d_Mo_whole_21 (by decide) (fun c_21 => ?_) (fun c_21 => ?_)
        · refine ax_iconst (v := 0) G d_Mo_whole_34 (by decide) ?_
          refine ax_istore G d_Mo_whole_35 (by decide) ?_
          refine ax_iload_n G d_Mo_whole_37 rfl rfl ?_
          refine ax_bipush (v := 111) G d_Mo_whole_38 (by decide) ?_
          refine ax_icmp_ne (tgt := 48) G d_Mo_whole_40 (by decide) (fun c_40 => ?_) (fun c_40 => ?_)
          · refine ax_iload_n G d_Mo_whole_48 rfl rfl ?_
            refine ax_bipush (v := 120) G d_Mo_whole_49 (by decide) ?_
            refine ax_icmp_eq (tgt := 60) G d_Mo_whole_51 (by decide) (fun c_51 => ?_) (fun c_51 => ?_)
            · refine ax_bipush (v := 16) G d_Mo_whole_60 (by decide) ?_
              refine ax_goto (tgt := 67) G d_Mo_whole_62 (by decide) ?_
              refine ax_istore G d_Mo_whole_67 (by decide) ?_
              exact core false false 16 (ul v) (Or.inr (Or.inr rfl)) (ul_lt v) (uw_ul v) rfl rfl rfl (by rw [if_neg (fun z => absurd z.1 (by decide))])
            · exact absurd rfl c_51
          · exact absurd c_40 (by decide)
        · exact absurd rfl c_21
      · exact absurd c_9 (by decide)
  · refine ax_iload_n G d_Mo_whole_0 rfl rfl ?_
    refine ax_bipush (v := 100) G d_Mo_whole_1 (by decide) ?_
    refine ax_icmp_eq (tgt := 12) G d_Mo_whole_3 (by decide) (fun c_3 => ?_) (fun c_3 => ?_)
    · exact absurd c_3 (by decide)
    · refine ax_iload_n G d_Mo_whole_6 rfl rfl ?_
      refine ax_bipush (v := 105) G d_Mo_whole_7 (by decide) ?_
      refine ax_icmp_ne (tgt := 16) G d_Mo_whole_9 (by decide) (fun c_9 => ?_) (fun c_9 => ?_)
      · refine ax_iconst (v := 0) G d_Mo_whole_16 (by decide) ?_
        refine ax_istore G d_Mo_whole_17 (by decide) ?_
        refine ax_iload G d_Mo_whole_19 rfl ?_
        refine ax_if_eq (tgt := 34) G d_Mo_whole_21 (by decide) (fun c_21 => ?_) (fun c_21 => ?_)
        · refine ax_iconst (v := 0) G d_Mo_whole_34 (by decide) ?_
          refine ax_istore G d_Mo_whole_35 (by decide) ?_
          refine ax_iload_n G d_Mo_whole_37 rfl rfl ?_
          refine ax_bipush (v := 111) G d_Mo_whole_38 (by decide) ?_
          refine ax_icmp_ne (tgt := 48) G d_Mo_whole_40 (by decide) (fun c_40 => ?_) (fun c_40 => ?_)
          · refine ax_iload_n G d_Mo_whole_48 rfl rfl ?_
            refine ax_bipush (v := 120) G d_Mo_whole_49 (by decide) ?_
            refine ax_icmp_eq (tgt := 60) G d_Mo_whole_51 (by decide) (fun c_51 => ?_) (fun c_51 => ?_)
            · exact absurd c_51 (by decide)
            · refine ax_iload_n G d_Mo_whole_54 rfl rfl ?_
              refine ax_bipush (v := 88) G d_Mo_whole_55 (by decide) ?_
              refine ax_icmp_ne (tgt := 65) G d_Mo_whole_57 (by decide) (fun c_57 => ?_) (fun c_57 => ?_)
              · exact absurd rfl c_57
              · refine ax_bipush (v := 16) G d_Mo_whole_60 (by decide) ?_
                refine ax_goto (tgt := 67) G d_Mo_whole_62 (by decide) ?_
                refine ax_istore G d_Mo_whole_67 (by decide) ?_
                exact core false false 16 (ul v) (Or.inr (Or.inr rfl)) (ul_lt v) (uw_ul v) rfl rfl rfl (by rw [if_neg (fun z => absurd z.1 (by decide))])
          · exact absurd c_40 (by decide)
        · exact absurd rfl c_21
      · exact absurd c_9 (by decide)

