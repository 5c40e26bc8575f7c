/-! FormatDeskModel: directive -/
set_option maxRecDepth 20000 in
set_option maxHeartbeats 1000000 in
theorem ct_Mo_directive (l : Launch) (n i : Nat) (f : Nat → Int32) (c0 : Nat → Nat) (er : Int32) (ma : Int32) (ou : Int32) (ta : Int32) (di : Int32) (wi : Int32) (pr : Int32) (lf : Bool) (pl : Bool) (bl : Bool) (ha : Bool) (ze : Bool) (wt : Bool) (pt : Bool) (fr : Int32) (si : Int32) (zs : Bool) (ct : Int32) (po : Int32) (hf : mf_is f n c0) (hn : n ≤ 400) (hi : i < n) : ax_CT l y_Mo_directive c_Mo_directive 3 (some .boolean) 4 [.ref 20] (pc_Mo er (nI n) ma ou ta di (-1) (nI (i + 1)) wi pr lf pl bl ha ze wt pt fr si zs ct po ++ pcF f) (fun r h => r = some (.int (zb (rdOk (lt c0 n) n i))) ∧ ∃ at' wi' pr' a1 a2 a3 a4 a5 a6 a7, h = pc_Mo er (nI n) ma ou ta di (if rdOk (lt c0 n) n i = true then -1 else nI (rdAt (lt c0 n) n i)) at' wi' pr' a1 a2 a3 a4 a5 a6 a7 fr si zs ct po ++ pcF f ∧ (rdOk (lt c0 n) n i = true → at' = nI (rdAt (lt c0 n) n i) ∧ (a1, a2, a3, a4, a5) = ((rdF (lt c0 n) n i).1, (rdF (lt c0 n) n i).2.1, (rdF (lt c0 n) n i).2.2.1, (rdF (lt c0 n) n i).2.2.2.1, (rdF (lt c0 n) n i).2.2.2.2.1) ∧ wi' = nI (rdW (lt c0 n) n i).2.2.2 ∧ a6 = (rdW (lt c0 n) n i).2.2.1 ∧ pr' = prI (rdQ (lt c0 n) n i) ∧ a7 = (rdP (lt c0 n) n i).2.2.1)) := by
  refine ax_ofV (by decide) (Nat.le_of_ble_eq_true rfl) ?_
  intro p e s m args below meth c D cid ad A Qc G hr E
  have b1 := flg_le (lt c0 n) (n - (i + 1)) (i + 1) false false false false false
  have b2 := pw_le (lt c0 n) (rdF (lt c0 n) n i).2.2.2.2.2
  have b3 := pp_le (lt c0 n) (rdW (lt c0 n) n i).2.1
  have b4 : (rdF (lt c0 n) n i).2.2.2.2.2 ≤ 400 := by unfold rdF; omega
  have b5 : (rdW (lt c0 n) n i).2.1 ≤ 403 := by unfold rdW; omega
  have b6 : (rdP (lt c0 n) n i).2.1 ≤ 407 := by unfold rdP; omega
  have fe := flg_end (c := c0) (n := n) (n - (i + 1)) (i + 1) false false false false false (by omega) (rdF (lt c0 n) n i).2.2.2.2.2 rfl
  have badx : ∀ (j : Nat) (at0 wi pr : Int32) (lf pl bl ha ze wt pt : Bool), j ≤ 1000 → rdOk (lt c0 n) n i = false → rdAt (lt c0 n) n i = j → ax_V p l e (ax_rm 4) s m args below meth c D cid ad A 3 0 0 (MQ below Qc args s 0 0 A) 338 [(0, .ref 20)] [] (pc_Mo er (nI n) ma ou ta di (nI j) at0 wi pr lf pl bl ha ze wt pt fr si zs ct po ++ pcF f) := by
    intro j at0 wi pr lf pl bl ha ze wt pt hj h1 h2
    rw [h1, h2] at E
    refine ax_aload_n G d_Mo_directive_338 rfl rfl ?_
    refine ax_get (ci := 6) (j := 6) G d_Mo_directive_339 rfl rfl (by decide) k_Mo_7 rfl ?_
    refine ax_if_lt (tgt := 347) G d_Mo_directive_342 (by decide) (fun c_342 => ?_) (fun c_342 => ?_)
    · exact absurd c_342 (nI_pos (by omega))
    · refine ax_iconst (v := 0) G d_Mo_directive_345 (by decide) ?_
      exact ax_zret G hr E rfl d_Mo_directive_346 rfl ⟨rfl, _, _, _, _, _, _, _, _, _, _, rfl, fun z => by cases z⟩
  have kind : ∀ (j : Nat), j ≤ 410 → (rdW (lt c0 n) n i).1 = true → (rdP (lt c0 n) n i).1 = true → j = (rdP (lt c0 n) n i).2.1 → ax_V p l e (ax_rm 4) s m args below meth c D cid ad A 3 0 0 (MQ below Qc args s 0 0 A) 338 [(0, .ref 20)] [] (pc_Mo er (nI n) ma ou ta di (-1) (nI j) (nI (rdW (lt c0 n) n i).2.2.2) (prI (rdQ (lt c0 n) n i)) ((rdF (lt c0 n) n i).1) ((rdF (lt c0 n) n i).2.1) ((rdF (lt c0 n) n i).2.2.1) ((rdF (lt c0 n) n i).2.2.2.1) ((rdF (lt c0 n) n i).2.2.2.2.1) ((rdW (lt c0 n) n i).2.2.1) ((rdP (lt c0 n) n i).2.2.1) fr si zs ct po ++ pcF f) := by
    intro j hj hw hp hjj
    have e2 : rdAt (lt c0 n) n i = j := by unfold rdAt; rw [hw, hjj]; rfl
    have e1 : rdOk (lt c0 n) n i = isK (lt c0 n j) := by unfold rdOk; rw [hw, hp, hjj]; rfl
    have hl := mlt_lt hf j
    have hK := kd_M _ hl
    obtain ⟨hw5, hwa⟩ := st_wd_at 5 (by decide)
    have loop : ∀ (q k : Nat), k + q = 16 → (∀ z, z < k → ¬ (st_wd 5).getD z 0 = lt c0 n j) → ax_V p l e (ax_rm 4) s m args below meth c D cid ad A 3 0 0 (MQ below Qc args s 0 0 A) 352 [(0, .ref 20), (1, .ref (100 + 5)), (2, .int (nI k))] [] (pc_Mo er (nI n) ma ou ta di (-1) (nI j) (nI (rdW (lt c0 n) n i).2.2.2) (prI (rdQ (lt c0 n) n i)) ((rdF (lt c0 n) n i).1) ((rdF (lt c0 n) n i).2.1) ((rdF (lt c0 n) n i).2.2.1) ((rdF (lt c0 n) n i).2.2.2.1) ((rdF (lt c0 n) n i).2.2.2.2.1) ((rdW (lt c0 n) n i).2.2.1) ((rdP (lt c0 n) n i).2.2.1) fr si zs ct po ++ pcF f) := by
      intro q
      induction q with
      | zero =>
        intro k hk hz
        have hno : isK (lt c0 n j) = false := by
          cases hq : isK (lt c0 n j) with
          | false => rfl
          | true =>
            obtain ⟨z, hz1, hz2⟩ := hK.mp hq
            exact absurd hz2 (hz z (by omega))
        rw [e1, hno, e2] at E
        refine ax_iload_n G d_Mo_directive_352 rfl rfl ?_
        refine ax_aload_n G d_Mo_directive_353 rfl rfl ?_
        refine ax_callK (n := 0) G (by decide) (ct_St_length l 5 (by decide)) d_Mo_directive_354 rfl trivial rfl kc_St_length ⟨k_Mo_103, ki_St_length, ks_St_length, kk_St⟩ (by decide +kernel) rfl ⟨by decide, by decide⟩ (Nat.le_of_ble_eq_true rfl) ⟨by decide, by decide⟩ (fun r hc_ hq hk_ => ?_)
        obtain ⟨rfl, rfl⟩ := hq
        refine ax_icmp_ge (tgt := 384) G d_Mo_directive_357 (by decide) (fun c_357 => ?_) (fun c_357 => ?_)
        · refine ax_aload_n G d_Mo_directive_384 rfl rfl ?_
          refine ax_aload_n G d_Mo_directive_385 rfl rfl ?_
          refine ax_get (ci := 6) (j := 10) G d_Mo_directive_386 rfl rfl (by decide) k_Mo_54 rfl ?_
          refine ax_callV (n := 1) G (ct_Mo_bad l (nI j) _ _ _ _ _ _ _ _ _ _ _ _ _ _ _ _ _ _ _ _ _ _) d_Mo_directive_389 rfl ⟨rfl, trivial⟩ rfl rfl rfl kc_Mo_bad ⟨k_Mo_65, ki_Mo_bad, ks_Mo_bad, kk_Mo⟩ (by decide +kernel) rfl ⟨by decide, by decide⟩ (Nat.le_of_ble_eq_true rfl) ⟨by decide, by decide⟩ (fun r hc_ hq hk_ => ?_)
          obtain ⟨rfl, rfl⟩ := hq
          rw [if_pos m1lt]
          exact ax_zret G hr E rfl d_Mo_directive_392 rfl ⟨rfl, _, _, _, _, _, _, _, _, _, _, rfl, fun z => by cases z⟩
        · exact absurd (nI_le (a := 16) (by omega) (by omega)) c_357
      | succ q ih =>
        intro k hk hz
        obtain ⟨g1, g2⟩ := hwa k (by omega)
        refine ax_iload_n G d_Mo_directive_352 rfl rfl ?_
        refine ax_aload_n G d_Mo_directive_353 rfl rfl ?_
        refine ax_callK (n := 0) G (by decide) (ct_St_length l 5 (by decide)) d_Mo_directive_354 rfl trivial rfl kc_St_length ⟨k_Mo_103, ki_St_length, ks_St_length, kk_St⟩ (by decide +kernel) rfl ⟨by decide, by decide⟩ (Nat.le_of_ble_eq_true rfl) ⟨by decide, by decide⟩ (fun r hc_ hq hk_ => ?_)
        obtain ⟨rfl, rfl⟩ := hq
        refine ax_icmp_ge (tgt := 384) G d_Mo_directive_357 (by decide) (fun c_357 => ?_) (fun c_357 => ?_)
        · exact absurd c_357 (nI_ge (b := 16) (by omega) (by decide))
        · refine ax_aload_n G d_Mo_directive_360 rfl rfl ?_
          refine ax_aload_n G d_Mo_directive_361 rfl rfl ?_
          refine ax_get (ci := 6) (j := 10) G d_Mo_directive_362 rfl rfl (by decide) k_Mo_54 rfl ?_
          refine ax_callV (n := 1) G (ct_Mo_c l n j f c0 _ _ _ _ _ _ _ _ _ _ _ _ _ _ _ _ _ _ _ _ _ hf hn (by omega)) d_Mo_directive_365 rfl ⟨rfl, rfl, trivial⟩ rfl rfl rfl kc_Mo_c ⟨k_Mo_57, ki_Mo_c, ks_Mo_c, kk_Mo⟩ (by decide +kernel) rfl ⟨by decide, by decide⟩ (Nat.le_of_ble_eq_true rfl) ⟨by decide, by decide⟩ (fun r hc_ hq hk_ => ?_)
          obtain ⟨rfl, rfl⟩ := hq
          refine ax_aload_n G d_Mo_directive_368 rfl rfl ?_
          refine ax_iload_n G d_Mo_directive_369 rfl rfl ?_
          refine ax_callK (n := 1) G (by decide) (ct_St_charAt l 5 k (by decide) (show k < 16 by omega)) d_Mo_directive_370 rfl trivial rfl kc_St_charAt ⟨k_Mo_108, ki_St_charAt, ks_St_charAt, kk_St⟩ (by decide +kernel) rfl ⟨by decide, by decide⟩ (Nat.le_of_ble_eq_true rfl) ⟨by decide, by decide⟩ (fun r hc_ hq hk_ => ?_)
          obtain ⟨rfl, rfl⟩ := hq
          rw [g1]
          by_cases hx : (st_wd 5).getD k 0 = lt c0 n j
          · have hyes : isK (lt c0 n j) = true := hK.mpr ⟨k, by omega, hx⟩
            have hpos : 0 < lt c0 n j := by
              rcases Nat.eq_zero_or_pos (lt c0 n j) with z0 | z0
              · rw [z0] at hyes; exact absurd hyes (by decide)
              · exact z0
            have hx2 : lI c0 n j = nI ((st_wd 5).getD k 0) := by rw [hx]; exact (lI_eq hl hpos hl).mpr rfl
            rw [e1, hyes, e2] at E
            refine ax_icmp_ne (tgt := 378) G d_Mo_directive_373 (by decide) (fun c_373 => ?_) (fun c_373 => ?_)
            · exact absurd hx2 c_373
            · refine ax_iconst (v := 1) G d_Mo_directive_376 (by decide) ?_
              exact ax_zret G hr E rfl d_Mo_directive_377 rfl ⟨rfl, _, _, _, _, _, _, _, _, _, _, rfl, fun _ => ⟨rfl, rfl, rfl, rfl, rfl, rfl⟩⟩
          · have hx2 : ¬ lI c0 n j = nI ((st_wd 5).getD k 0) := by
              intro z
              have hpos : 0 < (st_wd 5).getD k 0 := by
                have : ∀ k, k < 16 → 0 < (st_wd 5).getD k 0 := by decide +kernel
                exact this k (by omega)
              exact hx ((lI_eq hl hpos (by omega)).mp z).symm
            refine ax_icmp_ne (tgt := 378) G d_Mo_directive_373 (by decide) (fun c_373 => ?_) (fun c_373 => ?_)
            · refine ax_iincZ (z := 1) G d_Mo_directive_378 rfl (by decide) (by decide) ?_
              refine ax_goto (tgt := 352) G d_Mo_directive_381 (by decide) ?_
              rw [nI_1]
              exact ih (k + 1) (by omega) (fun z hz1 => by
                by_cases hzk : z = k
                · subst hzk; exact hx
                · exact hz z (by omega))
            · exact absurd c_373 hx2
    refine ax_aload_n G d_Mo_directive_338 rfl rfl ?_
    refine ax_get (ci := 6) (j := 6) G d_Mo_directive_339 rfl rfl (by decide) k_Mo_7 rfl ?_
    refine ax_if_lt (tgt := 347) G d_Mo_directive_342 (by decide) (fun c_342 => ?_) (fun c_342 => ?_)
    · refine ax_ldcS (tx := "diouxXceEfFgGaA%") (t := 5) G d_Mo_directive_347 (by decide +kernel) ?_
      refine ax_astore_n G d_Mo_directive_349 rfl (by decide) ?_
      refine ax_iconst (v := 0) G d_Mo_directive_350 (by decide) ?_
      refine ax_istore_n G d_Mo_directive_351 rfl (by decide) ?_
      exact loop 16 0 rfl (fun z hz => absurd hz (Nat.not_lt_zero z))
    · exact absurd m1lt c_342
  have prec : ∀ (j : Nat), (rdW (lt c0 n) n i).1 = true → j = (rdW (lt c0 n) n i).2.1 → ax_V p l e (ax_rm 4) s m args below meth c D cid ad A 3 0 0 (MQ below Qc args s 0 0 A) 269 [(0, .ref 20)] [] (pc_Mo er (nI n) ma ou ta di (-1) (nI j) (nI (rdW (lt c0 n) n i).2.2.2) (-1) ((rdF (lt c0 n) n i).1) ((rdF (lt c0 n) n i).2.1) ((rdF (lt c0 n) n i).2.2.1) ((rdF (lt c0 n) n i).2.2.2.1) ((rdF (lt c0 n) n i).2.2.2.2.1) ((rdW (lt c0 n) n i).2.2.1) false fr si zs ct po ++ pcF f) := by
    intro j hw hjj
    have hl := mlt_lt hf j
    have hl1 := mlt_lt hf (j + 1)
    have hj : j ≤ 403 := by omega
    generalize hPP : rdP (lt c0 n) n i = PP at *
    have hP0 : pp (lt c0 n) j = PP := by rw [hjj]; exact hPP
    have hQ : rdQ (lt c0 n) n i = ppO (lt c0 n) j := by rw [hjj]; rfl
    rw [hQ] at kind E
    unfold pp at hP0
    unfold ppO at kind E
    refine ax_aload_n G d_Mo_directive_269 rfl rfl ?_
    refine ax_get (ci := 6) (j := 6) G d_Mo_directive_270 rfl rfl (by decide) k_Mo_7 rfl ?_
    refine ax_if_ge (tgt := 338) G d_Mo_directive_273 (by decide) (fun c_273 => ?_) (fun c_273 => ?_)
    · exact absurd c_273 (by decide)
    · refine ax_aload_n G d_Mo_directive_276 rfl rfl ?_
      refine ax_aload_n G d_Mo_directive_277 rfl rfl ?_
      refine ax_get (ci := 6) (j := 10) G d_Mo_directive_278 rfl rfl (by decide) k_Mo_54 rfl ?_
      refine ax_callV (n := 1) G (ct_Mo_c l n j f c0 _ _ _ _ _ _ _ _ _ _ _ _ _ _ _ _ _ _ _ _ _ hf hn (by omega)) d_Mo_directive_281 rfl ⟨rfl, rfl, trivial⟩ rfl rfl rfl kc_Mo_c ⟨k_Mo_57, ki_Mo_c, ks_Mo_c, kk_Mo⟩ (by decide +kernel) rfl ⟨by decide, by decide⟩ (Nat.le_of_ble_eq_true rfl) ⟨by decide, by decide⟩ (fun r hc_ hq hk_ => ?_)
      obtain ⟨rfl, rfl⟩ := hq
      refine ax_bipush (v := 46) G d_Mo_directive_284 (by decide) ?_
      refine ax_icmp_ne (tgt := 338) G d_Mo_directive_286 (by decide) (fun c_286 => ?_) (fun c_286 => ?_)
      · have h46 : ¬ lt c0 n j = 46 := fun z => c_286 ((lI_eq (k := 46) hl (by decide) (by decide)).mpr z)
        rw [if_neg h46] at hP0 kind
        subst hP0
        exact kind j (by omega) hw rfl rfl
      · have h46 : lt c0 n j = 46 := (lI_eq (k := 46) hl (by decide) (by decide)).mp c_286
        rw [if_pos h46] at hP0 kind
        refine ax_aload_n G d_Mo_directive_289 rfl rfl ?_
        refine ax_dup G d_Mo_directive_290 rfl ?_
        refine ax_get (ci := 6) (j := 10) G d_Mo_directive_291 rfl rfl (by decide) k_Mo_54 rfl ?_
        refine ax_iconst (v := 1) G d_Mo_directive_294 (by decide) ?_
        refine ax_iadd G d_Mo_directive_295 ?_
        rw [nI_1]
        refine ax_put (ci := 6) (j := 10) G d_Mo_directive_296 rfl rfl (by decide) k_Mo_54 rfl rfl rfl (Nat.le_of_ble_eq_true rfl) ?_
        refine ax_aload_n G d_Mo_directive_299 rfl rfl ?_
        refine ax_aload_n G d_Mo_directive_300 rfl rfl ?_
        refine ax_get (ci := 6) (j := 10) G d_Mo_directive_301 rfl rfl (by decide) k_Mo_54 rfl ?_
        refine ax_callV (n := 1) G (ct_Mo_c l n (j + 1) f c0 _ _ _ _ _ _ _ _ _ _ _ _ _ _ _ _ _ _ _ _ _ hf hn (by omega)) d_Mo_directive_304 rfl ⟨rfl, rfl, trivial⟩ rfl rfl rfl kc_Mo_c ⟨k_Mo_57, ki_Mo_c, ks_Mo_c, kk_Mo⟩ (by decide +kernel) rfl ⟨by decide, by decide⟩ (Nat.le_of_ble_eq_true rfl) ⟨by decide, by decide⟩ (fun r hc_ hq hk_ => ?_)
        obtain ⟨rfl, rfl⟩ := hq
        refine ax_bipush (v := 42) G d_Mo_directive_307 (by decide) ?_
        refine ax_icmp_ne (tgt := 330) G d_Mo_directive_309 (by decide) (fun c_309 => ?_) (fun c_309 => ?_)
        · have h42 : ¬ lt c0 n (j + 1) = 42 := fun z => c_309 ((lI_eq (k := 42) hl1 (by decide) (by decide)).mpr z)
          rw [if_neg h42] at hP0 kind
          have hd := dgt_le (lt c0 n) 3 (j + 1) 0
          refine ax_aload_n G d_Mo_directive_330 rfl rfl ?_
          refine ax_aload_n G d_Mo_directive_331 rfl rfl ?_
          refine ax_callV (n := 0) G (ct_Mo_number l n (j + 1) f c0 _ _ _ _ _ _ _ _ _ _ _ _ _ _ _ _ _ _ _ hf hn (by omega)) d_Mo_directive_332 rfl ⟨rfl, rfl, trivial⟩ rfl rfl rfl kc_Mo_number ⟨k_Mo_97, ki_Mo_number, ks_Mo_number, kk_Mo⟩ (by decide +kernel) rfl ⟨by decide, by decide⟩ (Nat.le_of_ble_eq_true rfl) ⟨by decide, by decide⟩ (fun r hc_ hq hk_ => ?_)
          obtain ⟨rfl, rfl⟩ := hq
          by_cases h200 : 200 < (dgt (lt c0 n) 3 (j + 1) 0).1
          · rw [if_pos h200] at hP0
            have e1 : nW (lt c0 n) (j + 1) = nI (j + 1) := by unfold nW; rw [if_pos h200]
            rw [e1]
            refine ax_put (ci := 6) (j := 12) G d_Mo_directive_335 rfl rfl (by decide) k_Mo_94 rfl rfl rfl (Nat.le_of_ble_eq_true rfl) ?_
            subst hP0
            exact badx (j + 1) _ _ _ _ _ _ _ _ _ _ (by omega) (by unfold rdOk; rw [hw, hPP]; rfl) (by unfold rdAt; rw [hw, hPP]; rfl)
          · rw [if_neg h200] at hP0
            have hl2 := mlt_lt hf (dgt (lt c0 n) 3 (j + 1) 0).2
            by_cases h4 : (48 ≤ lt c0 n (dgt (lt c0 n) 3 (j + 1) 0).2 ∧ lt c0 n (dgt (lt c0 n) 3 (j + 1) 0).2 ≤ 57) ∧ (dgt (lt c0 n) 3 (j + 1) 0).2 = j + 1 + 3
            · have e1 : nW (lt c0 n) (j + 1) = nI (dgt (lt c0 n) 3 (j + 1) 0).2 := by unfold nW; rw [if_neg h200, if_pos h4]
              rw [e1]
              refine ax_put (ci := 6) (j := 12) G d_Mo_directive_335 rfl rfl (by decide) k_Mo_94 rfl rfl rfl (Nat.le_of_ble_eq_true rfl) ?_
              subst hP0
              exact badx (dgt (lt c0 n) 3 (j + 1) 0).2 _ _ _ _ _ _ _ _ _ _ (by omega) (by unfold rdOk; rw [hw, hPP]; exact kd_dig _ hl2 h4.1) (by unfold rdAt; rw [hw, hPP]; rfl)
            · have e1 : nW (lt c0 n) (j + 1) = -1 := by unfold nW; rw [if_neg h200, if_neg h4]
              rw [e1]
              refine ax_put (ci := 6) (j := 12) G d_Mo_directive_335 rfl rfl (by decide) k_Mo_94 rfl rfl rfl (Nat.le_of_ble_eq_true rfl) ?_
              subst hP0
              exact kind (dgt (lt c0 n) 3 (j + 1) 0).2 (by omega) hw rfl rfl
        · have h42 : lt c0 n (j + 1) = 42 := (lI_eq (k := 42) hl1 (by decide) (by decide)).mp c_309
          rw [if_pos h42] at hP0 kind
          refine ax_aload_n G d_Mo_directive_312 rfl rfl ?_
          refine ax_iconst (v := 1) G d_Mo_directive_313 (by decide) ?_
          refine ax_put (ci := 6) (j := 19) G d_Mo_directive_314 rfl rfl (by decide) k_Mo_88 rfl rfl rfl (Nat.le_of_ble_eq_true rfl) ?_
          refine ax_aload_n G d_Mo_directive_317 rfl rfl ?_
          refine ax_dup G d_Mo_directive_318 rfl ?_
          refine ax_get (ci := 6) (j := 10) G d_Mo_directive_319 rfl rfl (by decide) k_Mo_54 rfl ?_
          refine ax_iconst (v := 1) G d_Mo_directive_322 (by decide) ?_
          refine ax_iadd G d_Mo_directive_323 ?_
          rw [nI_1]
          refine ax_put (ci := 6) (j := 10) G d_Mo_directive_324 rfl rfl (by decide) k_Mo_54 rfl rfl rfl (Nat.le_of_ble_eq_true rfl) ?_
          refine ax_goto (tgt := 338) G d_Mo_directive_327 (by decide) ?_
          subst hP0
          exact kind (j + 2) (by omega) hw rfl rfl
  have wid : ∀ (j : Nat), j = (rdF (lt c0 n) n i).2.2.2.2.2 → ax_V p l e (ax_rm 4) s m args below meth c D cid ad A 3 0 0 (MQ below Qc args s 0 0 A) 212 [(0, .ref 20)] [] (pc_Mo er (nI n) ma ou ta di (-1) (nI j) 0 (-1) ((rdF (lt c0 n) n i).1) ((rdF (lt c0 n) n i).2.1) ((rdF (lt c0 n) n i).2.2.1) ((rdF (lt c0 n) n i).2.2.2.1) ((rdF (lt c0 n) n i).2.2.2.2.1) false false fr si zs ct po ++ pcF f) := by
    intro j hjj
    rw [← hjj] at fe
    have hl := mlt_lt hf j
    have hj : j ≤ 400 := by omega
    have hW : rdW (lt c0 n) n i = pw (lt c0 n) j := by rw [hjj]; rfl
    generalize hWW : rdW (lt c0 n) n i = WW at *
    have hW0 : pw (lt c0 n) j = WW := by rw [hjj]; exact hWW
    unfold pw at hW0
    refine ax_aload_n G d_Mo_directive_212 rfl rfl ?_
    refine ax_aload_n G d_Mo_directive_213 rfl rfl ?_
    refine ax_get (ci := 6) (j := 10) G d_Mo_directive_214 rfl rfl (by decide) k_Mo_54 rfl ?_
    refine ax_callV (n := 1) G (ct_Mo_c l n j f c0 _ _ _ _ _ _ _ _ _ _ _ _ _ _ _ _ _ _ _ _ _ hf hn (by omega)) d_Mo_directive_217 rfl ⟨rfl, rfl, trivial⟩ rfl rfl rfl kc_Mo_c ⟨k_Mo_57, ki_Mo_c, ks_Mo_c, kk_Mo⟩ (by decide +kernel) rfl ⟨by decide, by decide⟩ (Nat.le_of_ble_eq_true rfl) ⟨by decide, by decide⟩ (fun r hc_ hq hk_ => ?_)
    obtain ⟨rfl, rfl⟩ := hq
    refine ax_bipush (v := 42) G d_Mo_directive_220 (by decide) ?_
    refine ax_icmp_ne (tgt := 243) G d_Mo_directive_222 (by decide) (fun c_222 => ?_) (fun c_222 => ?_)
    · have h42 : ¬ lt c0 n j = 42 := fun z => c_222 ((lI_eq (k := 42) hl (by decide) (by decide)).mpr z)
      rw [if_neg h42] at hW0
      have hd := dgt_le (lt c0 n) 3 j 0
      refine ax_aload_n G d_Mo_directive_243 rfl rfl ?_
      refine ax_aload_n G d_Mo_directive_244 rfl rfl ?_
      refine ax_get (ci := 6) (j := 10) G d_Mo_directive_245 rfl rfl (by decide) k_Mo_54 rfl ?_
      refine ax_callV (n := 1) G (ct_Mo_c l n j f c0 _ _ _ _ _ _ _ _ _ _ _ _ _ _ _ _ _ _ _ _ _ hf hn (by omega)) d_Mo_directive_248 rfl ⟨rfl, rfl, trivial⟩ rfl rfl rfl kc_Mo_c ⟨k_Mo_57, ki_Mo_c, ks_Mo_c, kk_Mo⟩ (by decide +kernel) rfl ⟨by decide, by decide⟩ (Nat.le_of_ble_eq_true rfl) ⟨by decide, by decide⟩ (fun r hc_ hq hk_ => ?_)
      obtain ⟨rfl, rfl⟩ := hq
      refine ax_bipush (v := 49) G d_Mo_directive_251 (by decide) ?_
      refine ax_bipush (v := 57) G d_Mo_directive_253 (by decide) ?_
      refine ax_callS (n := 3) G (ct_Mo_in l (lI c0 n j) 49 57) d_Mo_directive_255 rfl trivial rfl kc_Mo_in ⟨k_Mo_61, kt_Mo_in, kk_Mo⟩ (by decide +kernel) rfl ⟨by decide, by decide⟩ (Nat.le_of_ble_eq_true rfl) ⟨by decide, by decide⟩ (fun r hc_ hq hk_ => ?_)
      obtain ⟨rfl, rfl⟩ := hq
      rw [show decide ((49 : Int32) ≤ lI c0 n j ∧ lI c0 n j ≤ 57) = decide (49 ≤ lt c0 n j ∧ lt c0 n j ≤ 57) from lI_in (a := 49) (b := 57) hl (by decide) (by decide) (by decide)]
      by_cases hdg : 49 ≤ lt c0 n j ∧ lt c0 n j ≤ 57
      · rw [decide_eq_true hdg]
        refine ax_if_eq (tgt := 269) G d_Mo_directive_258 (by decide) (fun c_258 => ?_) (fun c_258 => ?_)
        · exact absurd c_258 (by decide)
        · refine ax_aload_n G d_Mo_directive_261 rfl rfl ?_
          refine ax_aload_n G d_Mo_directive_262 rfl rfl ?_
          refine ax_callV (n := 0) G (ct_Mo_number l n j f c0 _ _ _ _ _ _ _ _ _ _ _ _ _ _ _ _ _ _ _ hf hn (by omega)) d_Mo_directive_263 rfl ⟨rfl, rfl, trivial⟩ rfl rfl rfl kc_Mo_number ⟨k_Mo_97, ki_Mo_number, ks_Mo_number, kk_Mo⟩ (by decide +kernel) rfl ⟨by decide, by decide⟩ (Nat.le_of_ble_eq_true rfl) ⟨by decide, by decide⟩ (fun r hc_ hq hk_ => ?_)
          obtain ⟨rfl, rfl⟩ := hq
          have toBad : ∀ (q : Nat) (at0 wi : Int32), q ≤ 1000 → rdOk (lt c0 n) n i = false → rdAt (lt c0 n) n i = q → ax_V p l e (ax_rm 4) s m args below meth c D cid ad A 3 0 0 (MQ below Qc args s 0 0 A) 269 [(0, .ref 20)] [] (pc_Mo er (nI n) ma ou ta di (nI q) at0 wi (-1) ((rdF (lt c0 n) n i).1) ((rdF (lt c0 n) n i).2.1) ((rdF (lt c0 n) n i).2.2.1) ((rdF (lt c0 n) n i).2.2.2.1) ((rdF (lt c0 n) n i).2.2.2.2.1) false false fr si zs ct po ++ pcF f) := by
            intro q at0 wi hq1 hq2 hq3
            refine ax_aload_n G d_Mo_directive_269 rfl rfl ?_
            refine ax_get (ci := 6) (j := 6) G d_Mo_directive_270 rfl rfl (by decide) k_Mo_7 rfl ?_
            refine ax_if_ge (tgt := 338) G d_Mo_directive_273 (by decide) (fun c_273 => ?_) (fun c_273 => ?_)
            · exact badx q _ _ _ _ _ _ _ _ _ _ hq1 hq2 hq3
            · exact absurd (nI_pos' (by omega)) c_273
          by_cases h200 : 200 < (dgt (lt c0 n) 3 j 0).1
          · rw [if_pos h200] at hW0
            have e1 : nW (lt c0 n) j = nI j := by unfold nW; rw [if_pos h200]
            rw [e1]
            refine ax_put (ci := 6) (j := 11) G d_Mo_directive_266 rfl rfl (by decide) k_Mo_91 rfl rfl rfl (Nat.le_of_ble_eq_true rfl) ?_
            subst hW0
            exact toBad j _ _ (by omega) (by unfold rdOk; rw [hWW]; rfl) (by unfold rdAt; rw [hWW]; rfl)
          · rw [if_neg h200] at hW0
            have hl2 := mlt_lt hf (dgt (lt c0 n) 3 j 0).2
            by_cases h4 : (48 ≤ lt c0 n (dgt (lt c0 n) 3 j 0).2 ∧ lt c0 n (dgt (lt c0 n) 3 j 0).2 ≤ 57) ∧ (dgt (lt c0 n) 3 j 0).2 = j + 3
            · have e1 : nW (lt c0 n) j = nI (dgt (lt c0 n) 3 j 0).2 := by unfold nW; rw [if_neg h200, if_pos h4]
              rw [e1]
              have hPx : rdP (lt c0 n) n i = (true, (dgt (lt c0 n) 3 j 0).2, false, -1) := by
                unfold rdP
                rw [hWW, ← hW0]
                show pp (lt c0 n) (dgt (lt c0 n) 3 j 0).2 = _
                unfold pp
                rw [if_neg (by omega)]
              refine ax_put (ci := 6) (j := 11) G d_Mo_directive_266 rfl rfl (by decide) k_Mo_91 rfl rfl rfl (Nat.le_of_ble_eq_true rfl) ?_
              subst hW0
              exact toBad (dgt (lt c0 n) 3 j 0).2 _ _ (by omega) (by unfold rdOk; rw [hWW, hPx]; exact kd_dig _ hl2 h4.1) (by unfold rdAt; rw [hWW, hPx]; rfl)
            · have e1 : nW (lt c0 n) j = -1 := by unfold nW; rw [if_neg h200, if_neg h4]
              rw [e1]
              refine ax_put (ci := 6) (j := 11) G d_Mo_directive_266 rfl rfl (by decide) k_Mo_91 rfl rfl rfl (Nat.le_of_ble_eq_true rfl) ?_
              subst hW0
              exact prec (dgt (lt c0 n) 3 j 0).2 rfl rfl
      · rw [decide_eq_false hdg]
        have e0 : dgt (lt c0 n) 3 j 0 = (0, j) := by rw [dgt_s, if_neg (by omega)]
        rw [e0, if_neg (show ¬ 200 < ((0 : Nat), j).1 from Nat.not_lt.mpr (Nat.zero_le _))] at hW0
        refine ax_if_eq (tgt := 269) G d_Mo_directive_258 (by decide) (fun c_258 => ?_) (fun c_258 => ?_)
        · subst hW0
          exact prec j rfl rfl
        · exact absurd rfl c_258
    · have h42 : lt c0 n j = 42 := (lI_eq (k := 42) hl (by decide) (by decide)).mp c_222
      rw [if_pos h42] at hW0
      refine ax_aload_n G d_Mo_directive_225 rfl rfl ?_
      refine ax_iconst (v := 1) G d_Mo_directive_226 (by decide) ?_
      refine ax_put (ci := 6) (j := 18) G d_Mo_directive_227 rfl rfl (by decide) k_Mo_85 rfl rfl rfl (Nat.le_of_ble_eq_true rfl) ?_
      refine ax_aload_n G d_Mo_directive_230 rfl rfl ?_
      refine ax_dup G d_Mo_directive_231 rfl ?_
      refine ax_get (ci := 6) (j := 10) G d_Mo_directive_232 rfl rfl (by decide) k_Mo_54 rfl ?_
      refine ax_iconst (v := 1) G d_Mo_directive_235 (by decide) ?_
      refine ax_iadd G d_Mo_directive_236 ?_
      rw [nI_1]
      refine ax_put (ci := 6) (j := 10) G d_Mo_directive_237 rfl rfl (by decide) k_Mo_54 rfl rfl rfl (Nat.le_of_ble_eq_true rfl) ?_
      refine ax_goto (tgt := 269) G d_Mo_directive_240 (by decide) ?_
      subst hW0
      exact prec (j + 1) rfl rfl
  have loop : ∀ (k j : Nat) (lf pl bl ha ze : Bool), n ≤ k + j → j ≤ 400 → rdF (lt c0 n) n i = flg (lt c0 n) k j lf pl bl ha ze → ax_V p l e (ax_rm 4) s m args below meth c D cid ad A 3 0 0 (MQ below Qc args s 0 0 A) 45 [(0, .ref 20)] [] (pc_Mo er (nI n) ma ou ta di (-1) (nI j) 0 (-1) lf pl bl ha ze false false fr si zs ct po ++ pcF f) := by
    intro k
    induction k with
    | zero =>
      intro j lf pl bl ha ze hk hj he
      have hl := mlt_lt hf j
      have h0 : lt c0 n j = 0 := if_neg (by omega)
      have ne : ∀ x : Nat, 0 < x → x < 256 → ¬ lI c0 n j = nI x := fun x h1 h2 z => by have := (lI_eq hl h1 h2).mp z; omega
      refine ax_aload_n G d_Mo_directive_45 rfl rfl ?_
      refine ax_aload_n G d_Mo_directive_46 rfl rfl ?_
      refine ax_get (ci := 6) (j := 10) G d_Mo_directive_47 rfl rfl (by decide) k_Mo_54 rfl ?_
      refine ax_callV (n := 1) G (ct_Mo_c l n j f c0 _ _ _ _ _ _ _ _ _ _ _ _ _ _ _ _ _ _ _ _ _ hf hn (by omega)) d_Mo_directive_50 rfl ⟨rfl, rfl, trivial⟩ rfl rfl rfl kc_Mo_c ⟨k_Mo_57, ki_Mo_c, ks_Mo_c, kk_Mo⟩ (by decide +kernel) rfl ⟨by decide, by decide⟩ (Nat.le_of_ble_eq_true rfl) ⟨by decide, by decide⟩ (fun r hc_ hq hk_ => ?_)
      obtain ⟨rfl, rfl⟩ := hq
      refine ax_bipush (v := 45) G d_Mo_directive_53 (by decide) ?_
      refine ax_icmp_eq (tgt := 110) G d_Mo_directive_55 (by decide) (fun c_55 => ?_) (fun c_55 => ?_)
      · exact absurd c_55 (ne 45 (by decide) (by decide))
      · skip
        refine ax_aload_n G d_Mo_directive_58 rfl rfl ?_
        refine ax_aload_n G d_Mo_directive_59 rfl rfl ?_
        refine ax_get (ci := 6) (j := 10) G d_Mo_directive_60 rfl rfl (by decide) k_Mo_54 rfl ?_
        refine ax_callV (n := 1) G (ct_Mo_c l n j f c0 _ _ _ _ _ _ _ _ _ _ _ _ _ _ _ _ _ _ _ _ _ hf hn (by omega)) d_Mo_directive_63 rfl ⟨rfl, rfl, trivial⟩ rfl rfl rfl kc_Mo_c ⟨k_Mo_57, ki_Mo_c, ks_Mo_c, kk_Mo⟩ (by decide +kernel) rfl ⟨by decide, by decide⟩ (Nat.le_of_ble_eq_true rfl) ⟨by decide, by decide⟩ (fun r hc_ hq hk_ => ?_)
        obtain ⟨rfl, rfl⟩ := hq
        refine ax_bipush (v := 43) G d_Mo_directive_66 (by decide) ?_
        refine ax_icmp_eq (tgt := 110) G d_Mo_directive_68 (by decide) (fun c_68 => ?_) (fun c_68 => ?_)
        · exact absurd c_68 (ne 43 (by decide) (by decide))
        · skip
          refine ax_aload_n G d_Mo_directive_71 rfl rfl ?_
          refine ax_aload_n G d_Mo_directive_72 rfl rfl ?_
          refine ax_get (ci := 6) (j := 10) G d_Mo_directive_73 rfl rfl (by decide) k_Mo_54 rfl ?_
          refine ax_callV (n := 1) G (ct_Mo_c l n j f c0 _ _ _ _ _ _ _ _ _ _ _ _ _ _ _ _ _ _ _ _ _ hf hn (by omega)) d_Mo_directive_76 rfl ⟨rfl, rfl, trivial⟩ rfl rfl rfl kc_Mo_c ⟨k_Mo_57, ki_Mo_c, ks_Mo_c, kk_Mo⟩ (by decide +kernel) rfl ⟨by decide, by decide⟩ (Nat.le_of_ble_eq_true rfl) ⟨by decide, by decide⟩ (fun r hc_ hq hk_ => ?_)
          obtain ⟨rfl, rfl⟩ := hq
          refine ax_bipush (v := 32) G d_Mo_directive_79 (by decide) ?_
          refine ax_icmp_eq (tgt := 110) G d_Mo_directive_81 (by decide) (fun c_81 => ?_) (fun c_81 => ?_)
          · exact absurd c_81 (ne 32 (by decide) (by decide))
          · skip
            refine ax_aload_n G d_Mo_directive_84 rfl rfl ?_
            refine ax_aload_n G d_Mo_directive_85 rfl rfl ?_
            refine ax_get (ci := 6) (j := 10) G d_Mo_directive_86 rfl rfl (by decide) k_Mo_54 rfl ?_
            refine ax_callV (n := 1) G (ct_Mo_c l n j f c0 _ _ _ _ _ _ _ _ _ _ _ _ _ _ _ _ _ _ _ _ _ hf hn (by omega)) d_Mo_directive_89 rfl ⟨rfl, rfl, trivial⟩ rfl rfl rfl kc_Mo_c ⟨k_Mo_57, ki_Mo_c, ks_Mo_c, kk_Mo⟩ (by decide +kernel) rfl ⟨by decide, by decide⟩ (Nat.le_of_ble_eq_true rfl) ⟨by decide, by decide⟩ (fun r hc_ hq hk_ => ?_)
            obtain ⟨rfl, rfl⟩ := hq
            refine ax_bipush (v := 35) G d_Mo_directive_92 (by decide) ?_
            refine ax_icmp_eq (tgt := 110) G d_Mo_directive_94 (by decide) (fun c_94 => ?_) (fun c_94 => ?_)
            · exact absurd c_94 (ne 35 (by decide) (by decide))
            · skip
              refine ax_aload_n G d_Mo_directive_97 rfl rfl ?_
              refine ax_aload_n G d_Mo_directive_98 rfl rfl ?_
              refine ax_get (ci := 6) (j := 10) G d_Mo_directive_99 rfl rfl (by decide) k_Mo_54 rfl ?_
              refine ax_callV (n := 1) G (ct_Mo_c l n j f c0 _ _ _ _ _ _ _ _ _ _ _ _ _ _ _ _ _ _ _ _ _ hf hn (by omega)) d_Mo_directive_102 rfl ⟨rfl, rfl, trivial⟩ rfl rfl rfl kc_Mo_c ⟨k_Mo_57, ki_Mo_c, ks_Mo_c, kk_Mo⟩ (by decide +kernel) rfl ⟨by decide, by decide⟩ (Nat.le_of_ble_eq_true rfl) ⟨by decide, by decide⟩ (fun r hc_ hq hk_ => ?_)
              obtain ⟨rfl, rfl⟩ := hq
              refine ax_bipush (v := 48) G d_Mo_directive_105 (by decide) ?_
              refine ax_icmp_ne (tgt := 212) G d_Mo_directive_107 (by decide) (fun c_107 => ?_) (fun c_107 => ?_)
              · have he2 : rdF (lt c0 n) n i = (lf, pl, bl, ha, ze, j) := he
                exact (by have q := wid j (by rw [he2]); rw [he2] at q; exact q)
              · exact absurd c_107 (ne 48 (by decide) (by decide))
    | succ k ih =>
      intro j lf pl bl ha ze hk hj he
      have hl := mlt_lt hf j
      rw [flg_s] at he
      have nx : ∀ (lf pl bl ha ze : Bool), j < n → rdF (lt c0 n) n i = flg (lt c0 n) k (j + 1) lf pl bl ha ze → ax_V p l e (ax_rm 4) s m args below meth c D cid ad A 3 0 0 (MQ below Qc args s 0 0 A) 199 [(0, .ref 20)] [] (pc_Mo er (nI n) ma ou ta di (-1) (nI j) 0 (-1) lf pl bl ha ze false false fr si zs ct po ++ pcF f) := by
        intro lf pl bl ha ze hjn he2
        refine ax_aload_n G d_Mo_directive_199 rfl rfl ?_
        refine ax_dup G d_Mo_directive_200 rfl ?_
        refine ax_get (ci := 6) (j := 10) G d_Mo_directive_201 rfl rfl (by decide) k_Mo_54 rfl ?_
        refine ax_iconst (v := 1) G d_Mo_directive_204 (by decide) ?_
        refine ax_iadd G d_Mo_directive_205 ?_
        rw [nI_1]
        refine ax_put (ci := 6) (j := 10) G d_Mo_directive_206 rfl rfl (by decide) k_Mo_54 rfl rfl rfl (Nat.le_of_ble_eq_true rfl) ?_
        refine ax_goto (tgt := 45) G d_Mo_directive_209 (by decide) ?_
        exact ih (j + 1) lf pl bl ha ze (by omega) (by omega) he2
      have hjn : ¬ lt c0 n j = 0 → j < n := fun z => by
        rcases Nat.lt_or_ge j n with q | q
        · exact q
        · exact absurd (if_neg (by omega)) z
      have ne : ∀ x : Nat, 0 < x → x < 256 → ¬ lt c0 n j = x → ¬ lI c0 n j = nI x := fun x h1 h2 h3 z => h3 ((lI_eq hl h1 h2).mp z)
      have yes : ∀ x : Nat, 0 < x → x < 256 → lt c0 n j = x → lI c0 n j = nI x := fun x h1 h2 h3 => (lI_eq hl h1 h2).mpr h3
      by_cases h45 : lt c0 n j = 45
      · rw [if_pos h45] at he
        refine ax_aload_n G d_Mo_directive_45 rfl rfl ?_
        refine ax_aload_n G d_Mo_directive_46 rfl rfl ?_
        refine ax_get (ci := 6) (j := 10) G d_Mo_directive_47 rfl rfl (by decide) k_Mo_54 rfl ?_
        refine ax_callV (n := 1) G (ct_Mo_c l n j f c0 _ _ _ _ _ _ _ _ _ _ _ _ _ _ _ _ _ _ _ _ _ hf hn (by omega)) d_Mo_directive_50 rfl ⟨rfl, rfl, trivial⟩ rfl rfl rfl kc_Mo_c ⟨k_Mo_57, ki_Mo_c, ks_Mo_c, kk_Mo⟩ (by decide +kernel) rfl ⟨by decide, by decide⟩ (Nat.le_of_ble_eq_true rfl) ⟨by decide, by decide⟩ (fun r hc_ hq hk_ => ?_)
        obtain ⟨rfl, rfl⟩ := hq
        refine ax_bipush (v := 45) G d_Mo_directive_53 (by decide) ?_
        refine ax_icmp_eq (tgt := 110) G d_Mo_directive_55 (by decide) (fun c_55 => ?_) (fun c_55 => ?_)
        · skip
          refine ax_aload_n G d_Mo_directive_110 rfl rfl ?_
          refine ax_aload_n G d_Mo_directive_111 rfl rfl ?_
          refine ax_get (ci := 6) (j := 10) G d_Mo_directive_112 rfl rfl (by decide) k_Mo_54 rfl ?_
          refine ax_callV (n := 1) G (ct_Mo_c l n j f c0 _ _ _ _ _ _ _ _ _ _ _ _ _ _ _ _ _ _ _ _ _ hf hn (by omega)) d_Mo_directive_115 rfl ⟨rfl, rfl, trivial⟩ rfl rfl rfl kc_Mo_c ⟨k_Mo_57, ki_Mo_c, ks_Mo_c, kk_Mo⟩ (by decide +kernel) rfl ⟨by decide, by decide⟩ (Nat.le_of_ble_eq_true rfl) ⟨by decide, by decide⟩ (fun r hc_ hq hk_ => ?_)
          obtain ⟨rfl, rfl⟩ := hq
          refine ax_bipush (v := 45) G d_Mo_directive_118 (by decide) ?_
          refine ax_icmp_ne (tgt := 131) G d_Mo_directive_120 (by decide) (fun c_120 => ?_) (fun c_120 => ?_)
          · exact absurd (yes 45 (by decide) (by decide) h45) c_120
          · skip
            refine ax_aload_n G d_Mo_directive_123 rfl rfl ?_
            refine ax_iconst (v := 1) G d_Mo_directive_124 (by decide) ?_
            refine ax_put (ci := 6) (j := 13) G d_Mo_directive_125 rfl rfl (by decide) k_Mo_69 rfl rfl rfl (Nat.le_of_ble_eq_true rfl) ?_
            refine ax_goto (tgt := 199) G d_Mo_directive_128 (by decide) ?_
            exact nx true pl bl ha ze (hjn (by omega)) he
        · exact absurd (yes 45 (by decide) (by decide) h45) c_55
      rw [if_neg h45] at he
      by_cases h43 : lt c0 n j = 43
      · rw [if_pos h43] at he
        refine ax_aload_n G d_Mo_directive_45 rfl rfl ?_
        refine ax_aload_n G d_Mo_directive_46 rfl rfl ?_
        refine ax_get (ci := 6) (j := 10) G d_Mo_directive_47 rfl rfl (by decide) k_Mo_54 rfl ?_
        refine ax_callV (n := 1) G (ct_Mo_c l n j f c0 _ _ _ _ _ _ _ _ _ _ _ _ _ _ _ _ _ _ _ _ _ hf hn (by omega)) d_Mo_directive_50 rfl ⟨rfl, rfl, trivial⟩ rfl rfl rfl kc_Mo_c ⟨k_Mo_57, ki_Mo_c, ks_Mo_c, kk_Mo⟩ (by decide +kernel) rfl ⟨by decide, by decide⟩ (Nat.le_of_ble_eq_true rfl) ⟨by decide, by decide⟩ (fun r hc_ hq hk_ => ?_)
        obtain ⟨rfl, rfl⟩ := hq
        refine ax_bipush (v := 45) G d_Mo_directive_53 (by decide) ?_
        refine ax_icmp_eq (tgt := 110) G d_Mo_directive_55 (by decide) (fun c_55 => ?_) (fun c_55 => ?_)
        · exact absurd c_55 (ne 45 (by decide) (by decide) h45)
        · skip
          refine ax_aload_n G d_Mo_directive_58 rfl rfl ?_
          refine ax_aload_n G d_Mo_directive_59 rfl rfl ?_
          refine ax_get (ci := 6) (j := 10) G d_Mo_directive_60 rfl rfl (by decide) k_Mo_54 rfl ?_
          refine ax_callV (n := 1) G (ct_Mo_c l n j f c0 _ _ _ _ _ _ _ _ _ _ _ _ _ _ _ _ _ _ _ _ _ hf hn (by omega)) d_Mo_directive_63 rfl ⟨rfl, rfl, trivial⟩ rfl rfl rfl kc_Mo_c ⟨k_Mo_57, ki_Mo_c, ks_Mo_c, kk_Mo⟩ (by decide +kernel) rfl ⟨by decide, by decide⟩ (Nat.le_of_ble_eq_true rfl) ⟨by decide, by decide⟩ (fun r hc_ hq hk_ => ?_)
          obtain ⟨rfl, rfl⟩ := hq
          refine ax_bipush (v := 43) G d_Mo_directive_66 (by decide) ?_
          refine ax_icmp_eq (tgt := 110) G d_Mo_directive_68 (by decide) (fun c_68 => ?_) (fun c_68 => ?_)
          · skip
            refine ax_aload_n G d_Mo_directive_110 rfl rfl ?_
            refine ax_aload_n G d_Mo_directive_111 rfl rfl ?_
            refine ax_get (ci := 6) (j := 10) G d_Mo_directive_112 rfl rfl (by decide) k_Mo_54 rfl ?_
            refine ax_callV (n := 1) G (ct_Mo_c l n j f c0 _ _ _ _ _ _ _ _ _ _ _ _ _ _ _ _ _ _ _ _ _ hf hn (by omega)) d_Mo_directive_115 rfl ⟨rfl, rfl, trivial⟩ rfl rfl rfl kc_Mo_c ⟨k_Mo_57, ki_Mo_c, ks_Mo_c, kk_Mo⟩ (by decide +kernel) rfl ⟨by decide, by decide⟩ (Nat.le_of_ble_eq_true rfl) ⟨by decide, by decide⟩ (fun r hc_ hq hk_ => ?_)
            obtain ⟨rfl, rfl⟩ := hq
            refine ax_bipush (v := 45) G d_Mo_directive_118 (by decide) ?_
            refine ax_icmp_ne (tgt := 131) G d_Mo_directive_120 (by decide) (fun c_120 => ?_) (fun c_120 => ?_)
            · skip
              refine ax_aload_n G d_Mo_directive_131 rfl rfl ?_
              refine ax_aload_n G d_Mo_directive_132 rfl rfl ?_
              refine ax_get (ci := 6) (j := 10) G d_Mo_directive_133 rfl rfl (by decide) k_Mo_54 rfl ?_
              refine ax_callV (n := 1) G (ct_Mo_c l n j f c0 _ _ _ _ _ _ _ _ _ _ _ _ _ _ _ _ _ _ _ _ _ hf hn (by omega)) d_Mo_directive_136 rfl ⟨rfl, rfl, trivial⟩ rfl rfl rfl kc_Mo_c ⟨k_Mo_57, ki_Mo_c, ks_Mo_c, kk_Mo⟩ (by decide +kernel) rfl ⟨by decide, by decide⟩ (Nat.le_of_ble_eq_true rfl) ⟨by decide, by decide⟩ (fun r hc_ hq hk_ => ?_)
              obtain ⟨rfl, rfl⟩ := hq
              refine ax_bipush (v := 43) G d_Mo_directive_139 (by decide) ?_
              refine ax_icmp_ne (tgt := 152) G d_Mo_directive_141 (by decide) (fun c_141 => ?_) (fun c_141 => ?_)
              · exact absurd (yes 43 (by decide) (by decide) h43) c_141
              · skip
                refine ax_aload_n G d_Mo_directive_144 rfl rfl ?_
                refine ax_iconst (v := 1) G d_Mo_directive_145 (by decide) ?_
                refine ax_put (ci := 6) (j := 14) G d_Mo_directive_146 rfl rfl (by decide) k_Mo_73 rfl rfl rfl (Nat.le_of_ble_eq_true rfl) ?_
                refine ax_goto (tgt := 199) G d_Mo_directive_149 (by decide) ?_
                exact nx lf true bl ha ze (hjn (by omega)) he
            · exact absurd c_120 (ne 45 (by decide) (by decide) h45)
          · exact absurd (yes 43 (by decide) (by decide) h43) c_68
      rw [if_neg h43] at he
      by_cases h32 : lt c0 n j = 32
      · rw [if_pos h32] at he
        refine ax_aload_n G d_Mo_directive_45 rfl rfl ?_
        refine ax_aload_n G d_Mo_directive_46 rfl rfl ?_
        refine ax_get (ci := 6) (j := 10) G d_Mo_directive_47 rfl rfl (by decide) k_Mo_54 rfl ?_
        refine ax_callV (n := 1) G (ct_Mo_c l n j f c0 _ _ _ _ _ _ _ _ _ _ _ _ _ _ _ _ _ _ _ _ _ hf hn (by omega)) d_Mo_directive_50 rfl ⟨rfl, rfl, trivial⟩ rfl rfl rfl kc_Mo_c ⟨k_Mo_57, ki_Mo_c, ks_Mo_c, kk_Mo⟩ (by decide +kernel) rfl ⟨by decide, by decide⟩ (Nat.le_of_ble_eq_true rfl) ⟨by decide, by decide⟩ (fun r hc_ hq hk_ => ?_)
        obtain ⟨rfl, rfl⟩ := hq
        refine ax_bipush (v := 45) G d_Mo_directive_53 (by decide) ?_
        refine ax_icmp_eq (tgt := 110) G d_Mo_directive_55 (by decide) (fun c_55 => ?_) (fun c_55 => ?_)
        · exact absurd c_55 (ne 45 (by decide) (by decide) h45)
        · skip
          refine ax_aload_n G d_Mo_directive_58 rfl rfl ?_
          refine ax_aload_n G d_Mo_directive_59 rfl rfl ?_
          refine ax_get (ci := 6) (j := 10) G d_Mo_directive_60 rfl rfl (by decide) k_Mo_54 rfl ?_
          refine ax_callV (n := 1) G (ct_Mo_c l n j f c0 _ _ _ _ _ _ _ _ _ _ _ _ _ _ _ _ _ _ _ _ _ hf hn (by omega)) d_Mo_directive_63 rfl ⟨rfl, rfl, trivial⟩ rfl rfl rfl kc_Mo_c ⟨k_Mo_57, ki_Mo_c, ks_Mo_c, kk_Mo⟩ (by decide +kernel) rfl ⟨by decide, by decide⟩ (Nat.le_of_ble_eq_true rfl) ⟨by decide, by decide⟩ (fun r hc_ hq hk_ => ?_)
          obtain ⟨rfl, rfl⟩ := hq
          refine ax_bipush (v := 43) G d_Mo_directive_66 (by decide) ?_
          refine ax_icmp_eq (tgt := 110) G d_Mo_directive_68 (by decide) (fun c_68 => ?_) (fun c_68 => ?_)
          · exact absurd c_68 (ne 43 (by decide) (by decide) h43)
          · skip
            refine ax_aload_n G d_Mo_directive_71 rfl rfl ?_
            refine ax_aload_n G d_Mo_directive_72 rfl rfl ?_
            refine ax_get (ci := 6) (j := 10) G d_Mo_directive_73 rfl rfl (by decide) k_Mo_54 rfl ?_
            refine ax_callV (n := 1) G (ct_Mo_c l n j f c0 _ _ _ _ _ _ _ _ _ _ _ _ _ _ _ _ _ _ _ _ _ hf hn (by omega)) d_Mo_directive_76 rfl ⟨rfl, rfl, trivial⟩ rfl rfl rfl kc_Mo_c ⟨k_Mo_57, ki_Mo_c, ks_Mo_c, kk_Mo⟩ (by decide +kernel) rfl ⟨by decide, by decide⟩ (Nat.le_of_ble_eq_true rfl) ⟨by decide, by decide⟩ (fun r hc_ hq hk_ => ?_)
            obtain ⟨rfl, rfl⟩ := hq
            refine ax_bipush (v := 32) G d_Mo_directive_79 (by decide) ?_
            refine ax_icmp_eq (tgt := 110) G d_Mo_directive_81 (by decide) (fun c_81 => ?_) (fun c_81 => ?_)
            · skip
              refine ax_aload_n G d_Mo_directive_110 rfl rfl ?_
              refine ax_aload_n G d_Mo_directive_111 rfl rfl ?_
              refine ax_get (ci := 6) (j := 10) G d_Mo_directive_112 rfl rfl (by decide) k_Mo_54 rfl ?_
              refine ax_callV (n := 1) G (ct_Mo_c l n j f c0 _ _ _ _ _ _ _ _ _ _ _ _ _ _ _ _ _ _ _ _ _ hf hn (by omega)) d_Mo_directive_115 rfl ⟨rfl, rfl, trivial⟩ rfl rfl rfl kc_Mo_c ⟨k_Mo_57, ki_Mo_c, ks_Mo_c, kk_Mo⟩ (by decide +kernel) rfl ⟨by decide, by decide⟩ (Nat.le_of_ble_eq_true rfl) ⟨by decide, by decide⟩ (fun r hc_ hq hk_ => ?_)
              obtain ⟨rfl, rfl⟩ := hq
              refine ax_bipush (v := 45) G d_Mo_directive_118 (by decide) ?_
              refine ax_icmp_ne (tgt := 131) G d_Mo_directive_120 (by decide) (fun c_120 => ?_) (fun c_120 => ?_)
              · skip
                refine ax_aload_n G d_Mo_directive_131 rfl rfl ?_
                refine ax_aload_n G d_Mo_directive_132 rfl rfl ?_
                refine ax_get (ci := 6) (j := 10) G d_Mo_directive_133 rfl rfl (by decide) k_Mo_54 rfl ?_
                refine ax_callV (n := 1) G (ct_Mo_c l n j f c0 _ _ _ _ _ _ _ _ _ _ _ _ _ _ _ _ _ _ _ _ _ hf hn (by omega)) d_Mo_directive_136 rfl ⟨rfl, rfl, trivial⟩ rfl rfl rfl kc_Mo_c ⟨k_Mo_57, ki_Mo_c, ks_Mo_c, kk_Mo⟩ (by decide +kernel) rfl ⟨by decide, by decide⟩ (Nat.le_of_ble_eq_true rfl) ⟨by decide, by decide⟩ (fun r hc_ hq hk_ => ?_)
                obtain ⟨rfl, rfl⟩ := hq
                refine ax_bipush (v := 43) G d_Mo_directive_139 (by decide) ?_
                refine ax_icmp_ne (tgt := 152) G d_Mo_directive_141 (by decide) (fun c_141 => ?_) (fun c_141 => ?_)
                · skip
                  refine ax_aload_n G d_Mo_directive_152 rfl rfl ?_
                  refine ax_aload_n G d_Mo_directive_153 rfl rfl ?_
                  refine ax_get (ci := 6) (j := 10) G d_Mo_directive_154 rfl rfl (by decide) k_Mo_54 rfl ?_
                  refine ax_callV (n := 1) G (ct_Mo_c l n j f c0 _ _ _ _ _ _ _ _ _ _ _ _ _ _ _ _ _ _ _ _ _ hf hn (by omega)) d_Mo_directive_157 rfl ⟨rfl, rfl, trivial⟩ rfl rfl rfl kc_Mo_c ⟨k_Mo_57, ki_Mo_c, ks_Mo_c, kk_Mo⟩ (by decide +kernel) rfl ⟨by decide, by decide⟩ (Nat.le_of_ble_eq_true rfl) ⟨by decide, by decide⟩ (fun r hc_ hq hk_ => ?_)
                  obtain ⟨rfl, rfl⟩ := hq
                  refine ax_bipush (v := 32) G d_Mo_directive_160 (by decide) ?_
                  refine ax_icmp_ne (tgt := 173) G d_Mo_directive_162 (by decide) (fun c_162 => ?_) (fun c_162 => ?_)
                  · exact absurd (yes 32 (by decide) (by decide) h32) c_162
                  · skip
                    refine ax_aload_n G d_Mo_directive_165 rfl rfl ?_
                    refine ax_iconst (v := 1) G d_Mo_directive_166 (by decide) ?_
                    refine ax_put (ci := 6) (j := 15) G d_Mo_directive_167 rfl rfl (by decide) k_Mo_76 rfl rfl rfl (Nat.le_of_ble_eq_true rfl) ?_
                    refine ax_goto (tgt := 199) G d_Mo_directive_170 (by decide) ?_
                    exact nx lf pl true ha ze (hjn (by omega)) he
                · exact absurd c_141 (ne 43 (by decide) (by decide) h43)
              · exact absurd c_120 (ne 45 (by decide) (by decide) h45)
            · exact absurd (yes 32 (by decide) (by decide) h32) c_81
      rw [if_neg h32] at he
      by_cases h35 : lt c0 n j = 35
      · rw [if_pos h35] at he
        refine ax_aload_n G d_Mo_directive_45 rfl rfl ?_
        refine ax_aload_n G d_Mo_directive_46 rfl rfl ?_
        refine ax_get (ci := 6) (j := 10) G d_Mo_directive_47 rfl rfl (by decide) k_Mo_54 rfl ?_
        refine ax_callV (n := 1) G (ct_Mo_c l n j f c0 _ _ _ _ _ _ _ _ _ _ _ _ _ _ _ _ _ _ _ _ _ hf hn (by omega)) d_Mo_directive_50 rfl ⟨rfl, rfl, trivial⟩ rfl rfl rfl kc_Mo_c ⟨k_Mo_57, ki_Mo_c, ks_Mo_c, kk_Mo⟩ (by decide +kernel) rfl ⟨by decide, by decide⟩ (Nat.le_of_ble_eq_true rfl) ⟨by decide, by decide⟩ (fun r hc_ hq hk_ => ?_)
        obtain ⟨rfl, rfl⟩ := hq
        refine ax_bipush (v := 45) G d_Mo_directive_53 (by decide) ?_
        refine ax_icmp_eq (tgt := 110) G d_Mo_directive_55 (by decide) (fun c_55 => ?_) (fun c_55 => ?_)
        · exact absurd c_55 (ne 45 (by decide) (by decide) h45)
        · skip
          refine ax_aload_n G d_Mo_directive_58 rfl rfl ?_
          refine ax_aload_n G d_Mo_directive_59 rfl rfl ?_
          refine ax_get (ci := 6) (j := 10) G d_Mo_directive_60 rfl rfl (by decide) k_Mo_54 rfl ?_
          refine ax_callV (n := 1) G (ct_Mo_c l n j f c0 _ _ _ _ _ _ _ _ _ _ _ _ _ _ _ _ _ _ _ _ _ hf hn (by omega)) d_Mo_directive_63 rfl ⟨rfl, rfl, trivial⟩ rfl rfl rfl kc_Mo_c ⟨k_Mo_57, ki_Mo_c, ks_Mo_c, kk_Mo⟩ (by decide +kernel) rfl ⟨by decide, by decide⟩ (Nat.le_of_ble_eq_true rfl) ⟨by decide, by decide⟩ (fun r hc_ hq hk_ => ?_)
          obtain ⟨rfl, rfl⟩ := hq
          refine ax_bipush (v := 43) G d_Mo_directive_66 (by decide) ?_
          refine ax_icmp_eq (tgt := 110) G d_Mo_directive_68 (by decide) (fun c_68 => ?_) (fun c_68 => ?_)
          · exact absurd c_68 (ne 43 (by decide) (by decide) h43)
          · skip
            refine ax_aload_n G d_Mo_directive_71 rfl rfl ?_
            refine ax_aload_n G d_Mo_directive_72 rfl rfl ?_
            refine ax_get (ci := 6) (j := 10) G d_Mo_directive_73 rfl rfl (by decide) k_Mo_54 rfl ?_
            refine ax_callV (n := 1) G (ct_Mo_c l n j f c0 _ _ _ _ _ _ _ _ _ _ _ _ _ _ _ _ _ _ _ _ _ hf hn (by omega)) d_Mo_directive_76 rfl ⟨rfl, rfl, trivial⟩ rfl rfl rfl kc_Mo_c ⟨k_Mo_57, ki_Mo_c, ks_Mo_c, kk_Mo⟩ (by decide +kernel) rfl ⟨by decide, by decide⟩ (Nat.le_of_ble_eq_true rfl) ⟨by decide, by decide⟩ (fun r hc_ hq hk_ => ?_)
            obtain ⟨rfl, rfl⟩ := hq
            refine ax_bipush (v := 32) G d_Mo_directive_79 (by decide) ?_
            refine ax_icmp_eq (tgt := 110) G d_Mo_directive_81 (by decide) (fun c_81 => ?_) (fun c_81 => ?_)
            · exact absurd c_81 (ne 32 (by decide) (by decide) h32)
            · skip
              refine ax_aload_n G d_Mo_directive_84 rfl rfl ?_
              refine ax_aload_n G d_Mo_directive_85 rfl rfl ?_
              refine ax_get (ci := 6) (j := 10) G d_Mo_directive_86 rfl rfl (by decide) k_Mo_54 rfl ?_
              refine ax_callV (n := 1) G (ct_Mo_c l n j f c0 _ _ _ _ _ _ _ _ _ _ _ _ _ _ _ _ _ _ _ _ _ hf hn (by omega)) d_Mo_directive_89 rfl ⟨rfl, rfl, trivial⟩ rfl rfl rfl kc_Mo_c ⟨k_Mo_57, ki_Mo_c, ks_Mo_c, kk_Mo⟩ (by decide +kernel) rfl ⟨by decide, by decide⟩ (Nat.le_of_ble_eq_true rfl) ⟨by decide, by decide⟩ (fun r hc_ hq hk_ => ?_)
              obtain ⟨rfl, rfl⟩ := hq
              refine ax_bipush (v := 35) G d_Mo_directive_92 (by decide) ?_
              refine ax_icmp_eq (tgt := 110) G d_Mo_directive_94 (by decide) (fun c_94 => ?_) (fun c_94 => ?_)
              · skip
                refine ax_aload_n G d_Mo_directive_110 rfl rfl ?_
                refine ax_aload_n G d_Mo_directive_111 rfl rfl ?_
                refine ax_get (ci := 6) (j := 10) G d_Mo_directive_112 rfl rfl (by decide) k_Mo_54 rfl ?_
                refine ax_callV (n := 1) G (ct_Mo_c l n j f c0 _ _ _ _ _ _ _ _ _ _ _ _ _ _ _ _ _ _ _ _ _ hf hn (by omega)) d_Mo_directive_115 rfl ⟨rfl, rfl, trivial⟩ rfl rfl rfl kc_Mo_c ⟨k_Mo_57, ki_Mo_c, ks_Mo_c, kk_Mo⟩ (by decide +kernel) rfl ⟨by decide, by decide⟩ (Nat.le_of_ble_eq_true rfl) ⟨by decide, by decide⟩ (fun r hc_ hq hk_ => ?_)
                obtain ⟨rfl, rfl⟩ := hq
                refine ax_bipush (v := 45) G d_Mo_directive_118 (by decide) ?_
                refine ax_icmp_ne (tgt := 131) G d_Mo_directive_120 (by decide) (fun c_120 => ?_) (fun c_120 => ?_)
                · skip
                  refine ax_aload_n G d_Mo_directive_131 rfl rfl ?_
                  refine ax_aload_n G d_Mo_directive_132 rfl rfl ?_
                  refine ax_get (ci := 6) (j := 10) G d_Mo_directive_133 rfl rfl (by decide) k_Mo_54 rfl ?_
                  refine ax_callV (n := 1) G (ct_Mo_c l n j f c0 _ _ _ _ _ _ _ _ _ _ _ _ _ _ _ _ _ _ _ _ _ hf hn (by omega)) d_Mo_directive_136 rfl ⟨rfl, rfl, trivial⟩ rfl rfl rfl kc_Mo_c ⟨k_Mo_57, ki_Mo_c, ks_Mo_c, kk_Mo⟩ (by decide +kernel) rfl ⟨by decide, by decide⟩ (Nat.le_of_ble_eq_true rfl) ⟨by decide, by decide⟩ (fun r hc_ hq hk_ => ?_)
                  obtain ⟨rfl, rfl⟩ := hq
                  refine ax_bipush (v := 43) G d_Mo_directive_139 (by decide) ?_
                  refine ax_icmp_ne (tgt := 152) G d_Mo_directive_141 (by decide) (fun c_141 => ?_) (fun c_141 => ?_)
                  · skip
                    refine ax_aload_n G d_Mo_directive_152 rfl rfl ?_
                    refine ax_aload_n G d_Mo_directive_153 rfl rfl ?_
                    refine ax_get (ci := 6) (j := 10) G d_Mo_directive_154 rfl rfl (by decide) k_Mo_54 rfl ?_
                    refine ax_callV (n := 1) G (ct_Mo_c l n j f c0 _ _ _ _ _ _ _ _ _ _ _ _ _ _ _ _ _ _ _ _ _ hf hn (by omega)) d_Mo_directive_157 rfl ⟨rfl, rfl, trivial⟩ rfl rfl rfl kc_Mo_c ⟨k_Mo_57, ki_Mo_c, ks_Mo_c, kk_Mo⟩ (by decide +kernel) rfl ⟨by decide, by decide⟩ (Nat.le_of_ble_eq_true rfl) ⟨by decide, by decide⟩ (fun r hc_ hq hk_ => ?_)
                    obtain ⟨rfl, rfl⟩ := hq
                    refine ax_bipush (v := 32) G d_Mo_directive_160 (by decide) ?_
                    refine ax_icmp_ne (tgt := 173) G d_Mo_directive_162 (by decide) (fun c_162 => ?_) (fun c_162 => ?_)
                    · skip
                      refine ax_aload_n G d_Mo_directive_173 rfl rfl ?_
                      refine ax_aload_n G d_Mo_directive_174 rfl rfl ?_
                      refine ax_get (ci := 6) (j := 10) G d_Mo_directive_175 rfl rfl (by decide) k_Mo_54 rfl ?_
                      refine ax_callV (n := 1) G (ct_Mo_c l n j f c0 _ _ _ _ _ _ _ _ _ _ _ _ _ _ _ _ _ _ _ _ _ hf hn (by omega)) d_Mo_directive_178 rfl ⟨rfl, rfl, trivial⟩ rfl rfl rfl kc_Mo_c ⟨k_Mo_57, ki_Mo_c, ks_Mo_c, kk_Mo⟩ (by decide +kernel) rfl ⟨by decide, by decide⟩ (Nat.le_of_ble_eq_true rfl) ⟨by decide, by decide⟩ (fun r hc_ hq hk_ => ?_)
                      obtain ⟨rfl, rfl⟩ := hq
                      refine ax_bipush (v := 35) G d_Mo_directive_181 (by decide) ?_
                      refine ax_icmp_ne (tgt := 194) G d_Mo_directive_183 (by decide) (fun c_183 => ?_) (fun c_183 => ?_)
                      · exact absurd (yes 35 (by decide) (by decide) h35) c_183
                      · skip
                        refine ax_aload_n G d_Mo_directive_186 rfl rfl ?_
                        refine ax_iconst (v := 1) G d_Mo_directive_187 (by decide) ?_
                        refine ax_put (ci := 6) (j := 16) G d_Mo_directive_188 rfl rfl (by decide) k_Mo_79 rfl rfl rfl (Nat.le_of_ble_eq_true rfl) ?_
                        refine ax_goto (tgt := 199) G d_Mo_directive_191 (by decide) ?_
                        exact nx lf pl bl true ze (hjn (by omega)) he
                    · exact absurd c_162 (ne 32 (by decide) (by decide) h32)
                  · exact absurd c_141 (ne 43 (by decide) (by decide) h43)
                · exact absurd c_120 (ne 45 (by decide) (by decide) h45)
              · exact absurd (yes 35 (by decide) (by decide) h35) c_94
      rw [if_neg h35] at he
      by_cases h48 : lt c0 n j = 48
      · rw [if_pos h48] at he
        refine ax_aload_n G d_Mo_directive_45 rfl rfl ?_
        refine ax_aload_n G d_Mo_directive_46 rfl rfl ?_
        refine ax_get (ci := 6) (j := 10) G d_Mo_directive_47 rfl rfl (by decide) k_Mo_54 rfl ?_
        refine ax_callV (n := 1) G (ct_Mo_c l n j f c0 _ _ _ _ _ _ _ _ _ _ _ _ _ _ _ _ _ _ _ _ _ hf hn (by omega)) d_Mo_directive_50 rfl ⟨rfl, rfl, trivial⟩ rfl rfl rfl kc_Mo_c ⟨k_Mo_57, ki_Mo_c, ks_Mo_c, kk_Mo⟩ (by decide +kernel) rfl ⟨by decide, by decide⟩ (Nat.le_of_ble_eq_true rfl) ⟨by decide, by decide⟩ (fun r hc_ hq hk_ => ?_)
        obtain ⟨rfl, rfl⟩ := hq
        refine ax_bipush (v := 45) G d_Mo_directive_53 (by decide) ?_
        refine ax_icmp_eq (tgt := 110) G d_Mo_directive_55 (by decide) (fun c_55 => ?_) (fun c_55 => ?_)
        · exact absurd c_55 (ne 45 (by decide) (by decide) h45)
        · skip
          refine ax_aload_n G d_Mo_directive_58 rfl rfl ?_
          refine ax_aload_n G d_Mo_directive_59 rfl rfl ?_
          refine ax_get (ci := 6) (j := 10) G d_Mo_directive_60 rfl rfl (by decide) k_Mo_54 rfl ?_
          refine ax_callV (n := 1) G (ct_Mo_c l n j f c0 _ _ _ _ _ _ _ _ _ _ _ _ _ _ _ _ _ _ _ _ _ hf hn (by omega)) d_Mo_directive_63 rfl ⟨rfl, rfl, trivial⟩ rfl rfl rfl kc_Mo_c ⟨k_Mo_57, ki_Mo_c, ks_Mo_c, kk_Mo⟩ (by decide +kernel) rfl ⟨by decide, by decide⟩ (Nat.le_of_ble_eq_true rfl) ⟨by decide, by decide⟩ (fun r hc_ hq hk_ => ?_)
          obtain ⟨rfl, rfl⟩ := hq
          refine ax_bipush (v := 43) G d_Mo_directive_66 (by decide) ?_
          refine ax_icmp_eq (tgt := 110) G d_Mo_directive_68 (by decide) (fun c_68 => ?_) (fun c_68 => ?_)
          · exact absurd c_68 (ne 43 (by decide) (by decide) h43)
          · skip
            refine ax_aload_n G d_Mo_directive_71 rfl rfl ?_
            refine ax_aload_n G d_Mo_directive_72 rfl rfl ?_
            refine ax_get (ci := 6) (j := 10) G d_Mo_directive_73 rfl rfl (by decide) k_Mo_54 rfl ?_
            refine ax_callV (n := 1) G (ct_Mo_c l n j f c0 _ _ _ _ _ _ _ _ _ _ _ _ _ _ _ _ _ _ _ _ _ hf hn (by omega)) d_Mo_directive_76 rfl ⟨rfl, rfl, trivial⟩ rfl rfl rfl kc_Mo_c ⟨k_Mo_57, ki_Mo_c, ks_Mo_c, kk_Mo⟩ (by decide +kernel) rfl ⟨by decide, by decide⟩ (Nat.le_of_ble_eq_true rfl) ⟨by decide, by decide⟩ (fun r hc_ hq hk_ => ?_)
            obtain ⟨rfl, rfl⟩ := hq
            refine ax_bipush (v := 32) G d_Mo_directive_79 (by decide) ?_
            refine ax_icmp_eq (tgt := 110) G d_Mo_directive_81 (by decide) (fun c_81 => ?_) (fun c_81 => ?_)
            · exact absurd c_81 (ne 32 (by decide) (by decide) h32)
            · skip
              refine ax_aload_n G d_Mo_directive_84 rfl rfl ?_
              refine ax_aload_n G d_Mo_directive_85 rfl rfl ?_
              refine ax_get (ci := 6) (j := 10) G d_Mo_directive_86 rfl rfl (by decide) k_Mo_54 rfl ?_
              refine ax_callV (n := 1) G (ct_Mo_c l n j f c0 _ _ _ _ _ _ _ _ _ _ _ _ _ _ _ _ _ _ _ _ _ hf hn (by omega)) d_Mo_directive_89 rfl ⟨rfl, rfl, trivial⟩ rfl rfl rfl kc_Mo_c ⟨k_Mo_57, ki_Mo_c, ks_Mo_c, kk_Mo⟩ (by decide +kernel) rfl ⟨by decide, by decide⟩ (Nat.le_of_ble_eq_true rfl) ⟨by decide, by decide⟩ (fun r hc_ hq hk_ => ?_)
              obtain ⟨rfl, rfl⟩ := hq
              refine ax_bipush (v := 35) G d_Mo_directive_92 (by decide) ?_
              refine ax_icmp_eq (tgt := 110) G d_Mo_directive_94 (by decide) (fun c_94 => ?_) (fun c_94 => ?_)
              · exact absurd c_94 (ne 35 (by decide) (by decide) h35)
              · skip
                refine ax_aload_n G d_Mo_directive_97 rfl rfl ?_
                refine ax_aload_n G d_Mo_directive_98 rfl rfl ?_
                refine ax_get (ci := 6) (j := 10) G d_Mo_directive_99 rfl rfl (by decide) k_Mo_54 rfl ?_
                refine ax_callV (n := 1) G (ct_Mo_c l n j f c0 _ _ _ _ _ _ _ _ _ _ _ _ _ _ _ _ _ _ _ _ _ hf hn (by omega)) d_Mo_directive_102 rfl ⟨rfl, rfl, trivial⟩ rfl rfl rfl kc_Mo_c ⟨k_Mo_57, ki_Mo_c, ks_Mo_c, kk_Mo⟩ (by decide +kernel) rfl ⟨by decide, by decide⟩ (Nat.le_of_ble_eq_true rfl) ⟨by decide, by decide⟩ (fun r hc_ hq hk_ => ?_)
                obtain ⟨rfl, rfl⟩ := hq
                refine ax_bipush (v := 48) G d_Mo_directive_105 (by decide) ?_
                refine ax_icmp_ne (tgt := 212) G d_Mo_directive_107 (by decide) (fun c_107 => ?_) (fun c_107 => ?_)
                · exact absurd (yes 48 (by decide) (by decide) h48) c_107
                · skip
                  refine ax_aload_n G d_Mo_directive_110 rfl rfl ?_
                  refine ax_aload_n G d_Mo_directive_111 rfl rfl ?_
                  refine ax_get (ci := 6) (j := 10) G d_Mo_directive_112 rfl rfl (by decide) k_Mo_54 rfl ?_
                  refine ax_callV (n := 1) G (ct_Mo_c l n j f c0 _ _ _ _ _ _ _ _ _ _ _ _ _ _ _ _ _ _ _ _ _ hf hn (by omega)) d_Mo_directive_115 rfl ⟨rfl, rfl, trivial⟩ rfl rfl rfl kc_Mo_c ⟨k_Mo_57, ki_Mo_c, ks_Mo_c, kk_Mo⟩ (by decide +kernel) rfl ⟨by decide, by decide⟩ (Nat.le_of_ble_eq_true rfl) ⟨by decide, by decide⟩ (fun r hc_ hq hk_ => ?_)
                  obtain ⟨rfl, rfl⟩ := hq
                  refine ax_bipush (v := 45) G d_Mo_directive_118 (by decide) ?_
                  refine ax_icmp_ne (tgt := 131) G d_Mo_directive_120 (by decide) (fun c_120 => ?_) (fun c_120 => ?_)
                  · skip
                    refine ax_aload_n G d_Mo_directive_131 rfl rfl ?_
                    refine ax_aload_n G d_Mo_directive_132 rfl rfl ?_
                    refine ax_get (ci := 6) (j := 10) G d_Mo_directive_133 rfl rfl (by decide) k_Mo_54 rfl ?_
                    refine ax_callV (n := 1) G (ct_Mo_c l n j f c0 _ _ _ _ _ _ _ _ _ _ _ _ _ _ _ _ _ _ _ _ _ hf hn (by omega)) d_Mo_directive_136 rfl ⟨rfl, rfl, trivial⟩ rfl rfl rfl kc_Mo_c ⟨k_Mo_57, ki_Mo_c, ks_Mo_c, kk_Mo⟩ (by decide +kernel) rfl ⟨by decide, by decide⟩ (Nat.le_of_ble_eq_true rfl) ⟨by decide, by decide⟩ (fun r hc_ hq hk_ => ?_)
                    obtain ⟨rfl, rfl⟩ := hq
                    refine ax_bipush (v := 43) G d_Mo_directive_139 (by decide) ?_
                    refine ax_icmp_ne (tgt := 152) G d_Mo_directive_141 (by decide) (fun c_141 => ?_) (fun c_141 => ?_)
                    · skip
                      refine ax_aload_n G d_Mo_directive_152 rfl rfl ?_
                      refine ax_aload_n G d_Mo_directive_153 rfl rfl ?_
                      refine ax_get (ci := 6) (j := 10) G d_Mo_directive_154 rfl rfl (by decide) k_Mo_54 rfl ?_
                      refine ax_callV (n := 1) G (ct_Mo_c l n j f c0 _ _ _ _ _ _ _ _ _ _ _ _ _ _ _ _ _ _ _ _ _ hf hn (by omega)) d_Mo_directive_157 rfl ⟨rfl, rfl, trivial⟩ rfl rfl rfl kc_Mo_c ⟨k_Mo_57, ki_Mo_c, ks_Mo_c, kk_Mo⟩ (by decide +kernel) rfl ⟨by decide, by decide⟩ (Nat.le_of_ble_eq_true rfl) ⟨by decide, by decide⟩ (fun r hc_ hq hk_ => ?_)
                      obtain ⟨rfl, rfl⟩ := hq
                      refine ax_bipush (v := 32) G d_Mo_directive_160 (by decide) ?_
                      refine ax_icmp_ne (tgt := 173) G d_Mo_directive_162 (by decide) (fun c_162 => ?_) (fun c_162 => ?_)
                      · skip
                        refine ax_aload_n G d_Mo_directive_173 rfl rfl ?_
                        refine ax_aload_n G d_Mo_directive_174 rfl rfl ?_
                        refine ax_get (ci := 6) (j := 10) G d_Mo_directive_175 rfl rfl (by decide) k_Mo_54 rfl ?_
                        refine ax_callV (n := 1) G (ct_Mo_c l n j f c0 _ _ _ _ _ _ _ _ _ _ _ _ _ _ _ _ _ _ _ _ _ hf hn (by omega)) d_Mo_directive_178 rfl ⟨rfl, rfl, trivial⟩ rfl rfl rfl kc_Mo_c ⟨k_Mo_57, ki_Mo_c, ks_Mo_c, kk_Mo⟩ (by decide +kernel) rfl ⟨by decide, by decide⟩ (Nat.le_of_ble_eq_true rfl) ⟨by decide, by decide⟩ (fun r hc_ hq hk_ => ?_)
                        obtain ⟨rfl, rfl⟩ := hq
                        refine ax_bipush (v := 35) G d_Mo_directive_181 (by decide) ?_
                        refine ax_icmp_ne (tgt := 194) G d_Mo_directive_183 (by decide) (fun c_183 => ?_) (fun c_183 => ?_)
                        · skip
                          refine ax_aload_n G d_Mo_directive_194 rfl rfl ?_
                          refine ax_iconst (v := 1) G d_Mo_directive_195 (by decide) ?_
                          refine ax_put (ci := 6) (j := 17) G d_Mo_directive_196 rfl rfl (by decide) k_Mo_82 rfl rfl rfl (Nat.le_of_ble_eq_true rfl) ?_
                          exact nx lf pl bl ha true (hjn (by omega)) he
                        · exact absurd c_183 (ne 35 (by decide) (by decide) h35)
                      · exact absurd c_162 (ne 32 (by decide) (by decide) h32)
                    · exact absurd c_141 (ne 43 (by decide) (by decide) h43)
                  · exact absurd c_120 (ne 45 (by decide) (by decide) h45)
      rw [if_neg h48] at he
      refine ax_aload_n G d_Mo_directive_45 rfl rfl ?_
      refine ax_aload_n G d_Mo_directive_46 rfl rfl ?_
      refine ax_get (ci := 6) (j := 10) G d_Mo_directive_47 rfl rfl (by decide) k_Mo_54 rfl ?_
      refine ax_callV (n := 1) G (ct_Mo_c l n j f c0 _ _ _ _ _ _ _ _ _ _ _ _ _ _ _ _ _ _ _ _ _ hf hn (by omega)) d_Mo_directive_50 rfl ⟨rfl, rfl, trivial⟩ rfl rfl rfl kc_Mo_c ⟨k_Mo_57, ki_Mo_c, ks_Mo_c, kk_Mo⟩ (by decide +kernel) rfl ⟨by decide, by decide⟩ (Nat.le_of_ble_eq_true rfl) ⟨by decide, by decide⟩ (fun r hc_ hq hk_ => ?_)
      obtain ⟨rfl, rfl⟩ := hq
      refine ax_bipush (v := 45) G d_Mo_directive_53 (by decide) ?_
      refine ax_icmp_eq (tgt := 110) G d_Mo_directive_55 (by decide) (fun c_55 => ?_) (fun c_55 => ?_)
      · exact absurd c_55 (ne 45 (by decide) (by decide) h45)
      · skip
        refine ax_aload_n G d_Mo_directive_58 rfl rfl ?_
        refine ax_aload_n G d_Mo_directive_59 rfl rfl ?_
        refine ax_get (ci := 6) (j := 10) G d_Mo_directive_60 rfl rfl (by decide) k_Mo_54 rfl ?_
        refine ax_callV (n := 1) G (ct_Mo_c l n j f c0 _ _ _ _ _ _ _ _ _ _ _ _ _ _ _ _ _ _ _ _ _ hf hn (by omega)) d_Mo_directive_63 rfl ⟨rfl, rfl, trivial⟩ rfl rfl rfl kc_Mo_c ⟨k_Mo_57, ki_Mo_c, ks_Mo_c, kk_Mo⟩ (by decide +kernel) rfl ⟨by decide, by decide⟩ (Nat.le_of_ble_eq_true rfl) ⟨by decide, by decide⟩ (fun r hc_ hq hk_ => ?_)
        obtain ⟨rfl, rfl⟩ := hq
        refine ax_bipush (v := 43) G d_Mo_directive_66 (by decide) ?_
        refine ax_icmp_eq (tgt := 110) G d_Mo_directive_68 (by decide) (fun c_68 => ?_) (fun c_68 => ?_)
        · exact absurd c_68 (ne 43 (by decide) (by decide) h43)
        · skip
          refine ax_aload_n G d_Mo_directive_71 rfl rfl ?_
          refine ax_aload_n G d_Mo_directive_72 rfl rfl ?_
          refine ax_get (ci := 6) (j := 10) G d_Mo_directive_73 rfl rfl (by decide) k_Mo_54 rfl ?_
          refine ax_callV (n := 1) G (ct_Mo_c l n j f c0 _ _ _ _ _ _ _ _ _ _ _ _ _ _ _ _ _ _ _ _ _ hf hn (by omega)) d_Mo_directive_76 rfl ⟨rfl, rfl, trivial⟩ rfl rfl rfl kc_Mo_c ⟨k_Mo_57, ki_Mo_c, ks_Mo_c, kk_Mo⟩ (by decide +kernel) rfl ⟨by decide, by decide⟩ (Nat.le_of_ble_eq_true rfl) ⟨by decide, by decide⟩ (fun r hc_ hq hk_ => ?_)
          obtain ⟨rfl, rfl⟩ := hq
          refine ax_bipush (v := 32) G d_Mo_directive_79 (by decide) ?_
          refine ax_icmp_eq (tgt := 110) G d_Mo_directive_81 (by decide) (fun c_81 => ?_) (fun c_81 => ?_)
          · exact absurd c_81 (ne 32 (by decide) (by decide) h32)
          · skip
            refine ax_aload_n G d_Mo_directive_84 rfl rfl ?_
            refine ax_aload_n G d_Mo_directive_85 rfl rfl ?_
            refine ax_get (ci := 6) (j := 10) G d_Mo_directive_86 rfl rfl (by decide) k_Mo_54 rfl ?_
            refine ax_callV (n := 1) G (ct_Mo_c l n j f c0 _ _ _ _ _ _ _ _ _ _ _ _ _ _ _ _ _ _ _ _ _ hf hn (by omega)) d_Mo_directive_89 rfl ⟨rfl, rfl, trivial⟩ rfl rfl rfl kc_Mo_c ⟨k_Mo_57, ki_Mo_c, ks_Mo_c, kk_Mo⟩ (by decide +kernel) rfl ⟨by decide, by decide⟩ (Nat.le_of_ble_eq_true rfl) ⟨by decide, by decide⟩ (fun r hc_ hq hk_ => ?_)
            obtain ⟨rfl, rfl⟩ := hq
            refine ax_bipush (v := 35) G d_Mo_directive_92 (by decide) ?_
            refine ax_icmp_eq (tgt := 110) G d_Mo_directive_94 (by decide) (fun c_94 => ?_) (fun c_94 => ?_)
            · exact absurd c_94 (ne 35 (by decide) (by decide) h35)
            · skip
              refine ax_aload_n G d_Mo_directive_97 rfl rfl ?_
              refine ax_aload_n G d_Mo_directive_98 rfl rfl ?_
              refine ax_get (ci := 6) (j := 10) G d_Mo_directive_99 rfl rfl (by decide) k_Mo_54 rfl ?_
              refine ax_callV (n := 1) G (ct_Mo_c l n j f c0 _ _ _ _ _ _ _ _ _ _ _ _ _ _ _ _ _ _ _ _ _ hf hn (by omega)) d_Mo_directive_102 rfl ⟨rfl, rfl, trivial⟩ rfl rfl rfl kc_Mo_c ⟨k_Mo_57, ki_Mo_c, ks_Mo_c, kk_Mo⟩ (by decide +kernel) rfl ⟨by decide, by decide⟩ (Nat.le_of_ble_eq_true rfl) ⟨by decide, by decide⟩ (fun r hc_ hq hk_ => ?_)
              obtain ⟨rfl, rfl⟩ := hq
              refine ax_bipush (v := 48) G d_Mo_directive_105 (by decide) ?_
              refine ax_icmp_ne (tgt := 212) G d_Mo_directive_107 (by decide) (fun c_107 => ?_) (fun c_107 => ?_)
              · have he2 : rdF (lt c0 n) n i = (lf, pl, bl, ha, ze, j) := he
                exact (by have q := wid j (by rw [he2]); rw [he2] at q; exact q)
              · exact absurd c_107 (ne 48 (by decide) (by decide) h48)
  refine ax_aload_n G d_Mo_directive_0 rfl rfl ?_
  refine ax_iconst (v := 0) G d_Mo_directive_1 (by decide) ?_
  refine ax_put (ci := 6) (j := 13) G d_Mo_directive_2 rfl rfl (by decide) k_Mo_69 rfl rfl rfl (Nat.le_of_ble_eq_true rfl) ?_
  refine ax_aload_n G d_Mo_directive_5 rfl rfl ?_
  refine ax_iconst (v := 0) G d_Mo_directive_6 (by decide) ?_
  refine ax_put (ci := 6) (j := 14) G d_Mo_directive_7 rfl rfl (by decide) k_Mo_73 rfl rfl rfl (Nat.le_of_ble_eq_true rfl) ?_
  refine ax_aload_n G d_Mo_directive_10 rfl rfl ?_
  refine ax_iconst (v := 0) G d_Mo_directive_11 (by decide) ?_
  refine ax_put (ci := 6) (j := 15) G d_Mo_directive_12 rfl rfl (by decide) k_Mo_76 rfl rfl rfl (Nat.le_of_ble_eq_true rfl) ?_
  refine ax_aload_n G d_Mo_directive_15 rfl rfl ?_
  refine ax_iconst (v := 0) G d_Mo_directive_16 (by decide) ?_
  refine ax_put (ci := 6) (j := 16) G d_Mo_directive_17 rfl rfl (by decide) k_Mo_79 rfl rfl rfl (Nat.le_of_ble_eq_true rfl) ?_
  refine ax_aload_n G d_Mo_directive_20 rfl rfl ?_
  refine ax_iconst (v := 0) G d_Mo_directive_21 (by decide) ?_
  refine ax_put (ci := 6) (j := 17) G d_Mo_directive_22 rfl rfl (by decide) k_Mo_82 rfl rfl rfl (Nat.le_of_ble_eq_true rfl) ?_
  refine ax_aload_n G d_Mo_directive_25 rfl rfl ?_
  refine ax_iconst (v := 0) G d_Mo_directive_26 (by decide) ?_
  refine ax_put (ci := 6) (j := 18) G d_Mo_directive_27 rfl rfl (by decide) k_Mo_85 rfl rfl rfl (Nat.le_of_ble_eq_true rfl) ?_
  refine ax_aload_n G d_Mo_directive_30 rfl rfl ?_
  refine ax_iconst (v := 0) G d_Mo_directive_31 (by decide) ?_
  refine ax_put (ci := 6) (j := 19) G d_Mo_directive_32 rfl rfl (by decide) k_Mo_88 rfl rfl rfl (Nat.le_of_ble_eq_true rfl) ?_
  refine ax_aload_n G d_Mo_directive_35 rfl rfl ?_
  refine ax_iconst (v := 0) G d_Mo_directive_36 (by decide) ?_
  refine ax_put (ci := 6) (j := 11) G d_Mo_directive_37 rfl rfl (by decide) k_Mo_91 rfl rfl rfl (Nat.le_of_ble_eq_true rfl) ?_
  refine ax_aload_n G d_Mo_directive_40 rfl rfl ?_
  refine ax_iconst (v := (-1)) G d_Mo_directive_41 (by decide) ?_
  refine ax_put (ci := 6) (j := 12) G d_Mo_directive_42 rfl rfl (by decide) k_Mo_94 rfl rfl rfl (Nat.le_of_ble_eq_true rfl) ?_
  exact loop (n - (i + 1)) (i + 1) false false false false false (by omega) (by omega) rfl

