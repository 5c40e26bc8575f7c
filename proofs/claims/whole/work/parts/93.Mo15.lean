/-! FormatDeskModel: run -/
set_option maxRecDepth 20000 in
set_option maxHeartbeats 1000000 in
theorem ct_Mo_run (l : Launch) (n na : Nat) (c0 : Nat → Nat) (ar : Nat → Int64) (f u tf bf rf dd oo : Nat → Int32) (er : Int32) (ou : Int32) (ta : Int32) (di : Int32) (wr : Int32) (at0 : Int32) (wi : Int32) (pr : Int32) (lf : Bool) (pl : Bool) (bl : Bool) (ha : Bool) (ze : Bool) (wt : Bool) (pt : Bool) (fr : Int32) (si : Int32) (zs : Bool) (ct : Int32) (po : Int32) (hf : mf_is f n c0) (hn : n ≤ 400) (hna : na ≤ 60) : ax_CT l y_Mo_run c_Mo_run 3 (some .int) 6 [.ref 20] (pc_Mo er (nI n) (nI na) ou ta di wr at0 wi pr lf pl bl ha ze wt pt fr si zs ct po ++ pcF f ++ pcU u ++ pcA ar ++ pcT tf ++ pcB bf ++ pcR rf ++ pcD dd ++ pcO oo) (fun r h => ∃ er' os t' d' u' tf' bf' rf' dd' oo' at' wi' pr' lf' pl' bl' ha' ze' wt' pt' fr' si' zs' ct' po', r = some (.int (nI (os : List Nat).length)) ∧ h = pc_Mo er' (nI n) (nI na) (nI os.length) (nI t') (nI d') (wrA c0 n) at' wi' pr' lf' pl' bl' ha' ze' wt' pt' fr' si' zs' ct' po' ++ pcF f ++ pcU u' ++ pcA ar ++ pcT tf' ++ pcB bf' ++ pcR rf' ++ pcD dd' ++ pcO oo' ∧ mi_is u' os ∧ (er', os, t', d') = rnS c0 n ar na) := by
  refine ax_ofV (by decide) (Nat.le_of_ble_eq_true rfl) ?_
  intro p e s m args below meth c D cid ad A Qc G hr E
  have hcl : ∀ i, i < n → f i = nI (c0 i) ∧ c0 i < 256 := hf
  have ltI : ∀ i, i < n → lt c0 n i = c0 i := fun i hi => by unfold lt; rw [if_pos hi]
  -- the third loop's end
  have good : ∀ (os : List Nat) (t d : Nat) (u tf bf rf dd oo : Nat → Int32) (at0 wi pr : Int32) (lf pl bl ha ze wt pt : Bool) (fr si : Int32) (zs : Bool) (ct po : Int32), wrA c0 n = -1 → pua (lt c0 n) n ar na (n + 1) 0 [] 0 0 = some (os, t, d) → mi_is u os → ax_V p l e (ax_rm 6) s m args below meth c D cid ad A 3 0 0 (MQ below Qc args s 0 0 A) 319 [(0, .ref 20), (1, .int 1)] [] (pc_Mo 0 (nI n) (nI na) (nI os.length) (nI t) (nI d) (-1) at0 wi pr lf pl bl ha ze wt pt fr si zs ct po ++ pcF f ++ pcU u ++ pcA ar ++ pcT tf ++ pcB bf ++ pcR rf ++ pcD dd ++ pcO oo) := by
    intro os t d u tf bf rf dd oo at0 wi pr lf pl bl ha ze wt pt fr si zs ct po hw hp hu
    refine ax_iload_n G d_Mo_run_319 rfl rfl ?_
    refine ax_if_ne (tgt := 338) G d_Mo_run_320 (by decide) (fun c_320 => ?_) (fun c_320 => ?_)
    · refine ax_aload_n G d_Mo_run_338 rfl rfl ?_
      refine ax_iload_n G d_Mo_run_339 rfl rfl ?_
      refine ax_if_ne (tgt := 347) G d_Mo_run_340 (by decide) (fun c_340 => ?_) (fun c_340 => ?_)
      · refine ax_iconst (v := 0) G d_Mo_run_347 (by decide) ?_
        refine ax_iconst (v := 2) G d_Mo_run_348 (by decide) ?_
        refine ax_callV (n := 2) G (ct_Mo_fails l false 2 (by decide) _ _ _ _ _ _ _ _ _ _ _ _ _ _ _ _ _ _ _ _ _) d_Mo_run_349 rfl ⟨rfl, trivial⟩ rfl rfl rfl kc_Mo_fails ⟨k_Mo_47, ki_Mo_fails, ks_Mo_fails, kk_Mo⟩ (by decide +kernel) rfl ⟨by decide, by decide⟩ (Nat.le_of_ble_eq_true rfl) ⟨by decide, by decide⟩ (fun r hc_ hq hk_ => ?_)
        obtain ⟨rfl, rfl⟩ := hq
        refine ax_if_eq (tgt := 359) G d_Mo_run_352 (by decide) (fun c_352 => ?_) (fun c_352 => ?_)
        · refine ax_aload_n G d_Mo_run_359 rfl rfl ?_
          refine ax_get (ci := 6) (j := 3) G d_Mo_run_360 rfl rfl (by decide) k_Mo_119 rfl ?_
          rw [hw] at E
          exact ax_iret G hr E d_Mo_run_363 rfl ⟨0, os, t, d, u, tf, bf, rf, dd, oo, _, _, _, _, _, _, _, _, _, _, _, _, _, _, _, rfl, rfl, hu, (rnS_s hw hp).symm⟩
        · exact absurd rfl c_352
      · exact absurd c_340 (by decide)
    · exact absurd c_320 (by decide)
  have fail : ∀ (ou ta di : Int32) (u tf bf rf dd oo : Nat → Int32) (at0 wi pr : Int32) (lf pl bl ha ze wt pt : Bool) (fr si : Int32) (zs : Bool) (ct po : Int32), wrA c0 n = -1 → pua (lt c0 n) n ar na (n + 1) 0 [] 0 0 = none → ax_V p l e (ax_rm 6) s m args below meth c D cid ad A 3 0 0 (MQ below Qc args s 0 0 A) 319 [(0, .ref 20), (1, .int 0)] [] (pc_Mo 0 (nI n) (nI na) ou ta di (-1) at0 wi pr lf pl bl ha ze wt pt fr si zs ct po ++ pcF f ++ pcU u ++ pcA ar ++ pcT tf ++ pcB bf ++ pcR rf ++ pcD dd ++ pcO oo) := by
    intro ou ta di u tf bf rf dd oo at0 wi pr lf pl bl ha ze wt pt fr si zs ct po hw hp
    refine ax_iload_n G d_Mo_run_319 rfl rfl ?_
    refine ax_if_ne (tgt := 338) G d_Mo_run_320 (by decide) (fun c_320 => ?_) (fun c_320 => ?_)
    · exact absurd rfl c_320
    · refine ax_aload_n G d_Mo_run_323 rfl rfl ?_
      refine ax_iconst (v := 0) G d_Mo_run_324 (by decide) ?_
      refine ax_put (ci := 6) (j := 3) G d_Mo_run_325 rfl rfl (by decide) k_Mo_119 rfl rfl rfl (Nat.le_of_ble_eq_true rfl) ?_
      refine ax_aload_n G d_Mo_run_328 rfl rfl ?_
      refine ax_iconst (v := 0) G d_Mo_run_329 (by decide) ?_
      refine ax_put (ci := 6) (j := 4) G d_Mo_run_330 rfl rfl (by decide) k_Mo_112 rfl rfl rfl (Nat.le_of_ble_eq_true rfl) ?_
      refine ax_aload_n G d_Mo_run_333 rfl rfl ?_
      refine ax_iconst (v := 0) G d_Mo_run_334 (by decide) ?_
      refine ax_put (ci := 6) (j := 5) G d_Mo_run_335 rfl rfl (by decide) k_Mo_122 rfl rfl rfl (Nat.le_of_ble_eq_true rfl) ?_
      refine ax_aload_n G d_Mo_run_338 rfl rfl ?_
      refine ax_iload_n G d_Mo_run_339 rfl rfl ?_
      refine ax_if_ne (tgt := 347) G d_Mo_run_340 (by decide) (fun c_340 => ?_) (fun c_340 => ?_)
      · exact absurd rfl c_340
      · refine ax_iconst (v := 1) G d_Mo_run_343 (by decide) ?_
        refine ax_goto (tgt := 348) G d_Mo_run_344 (by decide) ?_
        refine ax_iconst (v := 2) G d_Mo_run_348 (by decide) ?_
        refine ax_callV (n := 2) G (ct_Mo_fails l true 2 (by decide) _ _ _ _ _ _ _ _ _ _ _ _ _ _ _ _ _ _ _ _ _) d_Mo_run_349 rfl ⟨rfl, trivial⟩ rfl rfl rfl kc_Mo_fails ⟨k_Mo_47, ki_Mo_fails, ks_Mo_fails, kk_Mo⟩ (by decide +kernel) rfl ⟨by decide, by decide⟩ (Nat.le_of_ble_eq_true rfl) ⟨by decide, by decide⟩ (fun r hc_ hq hk_ => ?_)
        obtain ⟨rfl, rfl⟩ := hq
        refine ax_if_eq (tgt := 359) G d_Mo_run_352 (by decide) (fun c_352 => ?_) (fun c_352 => ?_)
        · exact absurd c_352 (by decide)
        · refine ax_iconst (v := 0) G d_Mo_run_355 (by decide) ?_
          refine ax_goto (tgt := 363) G d_Mo_run_356 (by decide) ?_
          rw [hw] at E
          exact ax_iret G hr E d_Mo_run_363 rfl ⟨2, [], 0, 0, u, tf, bf, rf, dd, oo, _, _, _, _, _, _, _, _, _, _, _, _, _, _, _, rfl, rfl, mi_nil u, (rnS_n hw hp).symm⟩
  have fail2 : ∀ (j : Int32) (ou ta di : Int32) (u tf bf rf dd oo : Nat → Int32) (wi pr : Int32) (lf pl bl ha ze wt pt : Bool) (fr si : Int32) (zs : Bool) (ct po : Int32), wrA c0 n = -1 → pua (lt c0 n) n ar na (n + 1) 0 [] 0 0 = none → ax_V p l e (ax_rm 6) s m args below meth c D cid ad A 3 0 0 (MQ below Qc args s 0 0 A) 306 [(0, .ref 20), (1, .int 0)] [] (pc_Mo 0 (nI n) (nI na) ou ta di (-1) j wi pr lf pl bl ha ze wt pt fr si zs ct po ++ pcF f ++ pcU u ++ pcA ar ++ pcT tf ++ pcB bf ++ pcR rf ++ pcD dd ++ pcO oo) := by
    intro j ou ta di u tf bf rf dd oo wi pr lf pl bl ha ze wt pt fr si zs ct po hw hp
    refine ax_aload_n G d_Mo_run_306 rfl rfl ?_
    refine ax_dup G d_Mo_run_307 rfl ?_
    refine ax_get (ci := 6) (j := 10) G d_Mo_run_308 rfl rfl (by decide) k_Mo_54 rfl ?_
    refine ax_iconst (v := 1) G d_Mo_run_311 (by decide) ?_
    refine ax_iadd G d_Mo_run_312 ?_
    refine ax_put (ci := 6) (j := 10) G d_Mo_run_313 rfl rfl (by decide) k_Mo_54 rfl rfl rfl (Nat.le_of_ble_eq_true rfl) ?_
    refine ax_goto (tgt := 157) G d_Mo_run_316 (by decide) ?_
    refine ax_aload_n G d_Mo_run_157 rfl rfl ?_
    refine ax_get (ci := 6) (j := 10) G d_Mo_run_158 rfl rfl (by decide) k_Mo_54 rfl ?_
    refine ax_aload_n G d_Mo_run_161 rfl rfl ?_
    refine ax_get (ci := 6) (j := 1) G d_Mo_run_162 rfl rfl (by decide) k_Mo_44 rfl ?_
    refine ax_icmp_ge (tgt := 319) G d_Mo_run_165 (by decide) (fun c_165 => ?_) (fun c_165 => ?_)
    · exact fail _ _ _ _ _ _ _ _ _ _ _ _ _ _ _ _ _ _ _ _ _ _ _ _ hw hp
    · refine ax_iload_n G d_Mo_run_168 rfl rfl ?_
      refine ax_if_eq (tgt := 319) G d_Mo_run_169 (by decide) (fun c_169 => ?_) (fun c_169 => ?_)
      · exact fail _ _ _ _ _ _ _ _ _ _ _ _ _ _ _ _ _ _ _ _ _ _ _ _ hw hp
      · exact absurd rfl c_169
  have hPU : ∀ x, pua (lt c0 n) n ar na (n + 1) 0 [] 0 0 = x → x = pua (lt c0 n) n ar na (n + 1) 0 [] 0 0 := fun x h => h.symm
  generalize hPP : pua (lt c0 n) n ar na (n + 1) 0 [] 0 0 = PU at good fail fail2
  have loop3 : wrA c0 n = -1 → ∀ (k i : Nat) (os : List Nat) (t d : Nat) (u tf bf rf dd oo : Nat → Int32) (wi pr : Int32) (lf pl bl ha ze wt pt : Bool) (fr si : Int32) (zs : Bool) (ct po : Int32), n < k + i → i ≤ 408 → pua (lt c0 n) n ar na k i os t d = PU → wrg (lt c0 n) n k i = -1 → t ≤ na → os.length ≤ 4000 → mi_is u os → d ≤ i → ax_V p l e (ax_rm 6) s m args below meth c D cid ad A 3 0 0 (MQ below Qc args s 0 0 A) 157 [(0, .ref 20), (1, .int 1)] [] (pc_Mo 0 (nI n) (nI na) (nI os.length) (nI t) (nI d) (-1) (nI i) wi pr lf pl bl ha ze wt pt fr si zs ct po ++ pcF f ++ pcU u ++ pcA ar ++ pcT tf ++ pcB bf ++ pcR rf ++ pcD dd ++ pcO oo) := by
    intro hw k
    induction k with
    | zero =>
      intro i os t d u tf bf rf dd oo wi pr lf pl bl ha ze wt pt fr si zs ct po hk hi hpu hwg ht hol hu hdi
      refine ax_aload_n G d_Mo_run_157 rfl rfl ?_
      refine ax_get (ci := 6) (j := 10) G d_Mo_run_158 rfl rfl (by decide) k_Mo_54 rfl ?_
      refine ax_aload_n G d_Mo_run_161 rfl rfl ?_
      refine ax_get (ci := 6) (j := 1) G d_Mo_run_162 rfl rfl (by decide) k_Mo_44 rfl ?_
      refine ax_icmp_ge (tgt := 319) G d_Mo_run_165 (by decide) (fun c_165 => ?_) (fun c_165 => ?_)
      · exact good os t d _ _ _ _ _ _ _ _ _ _ _ _ _ _ _ _ _ _ _ _ _ hw hpu.symm hu
      · exact absurd (nI_le (by omega) (by omega)) c_165
    | succ k ih =>
      intro i os t d u tf bf rf dd oo wi pr lf pl bl ha ze wt pt fr si zs ct po hk hi hpu hwg ht hol hu hdi
      rw [pua_s] at hpu
      rw [wrg_s] at hwg
      refine ax_aload_n G d_Mo_run_157 rfl rfl ?_
      refine ax_get (ci := 6) (j := 10) G d_Mo_run_158 rfl rfl (by decide) k_Mo_54 rfl ?_
      refine ax_aload_n G d_Mo_run_161 rfl rfl ?_
      refine ax_get (ci := 6) (j := 1) G d_Mo_run_162 rfl rfl (by decide) k_Mo_44 rfl ?_
      refine ax_icmp_ge (tgt := 319) G d_Mo_run_165 (by decide) (fun c_165 => ?_) (fun c_165 => ?_)
      · have hge : n ≤ i := (nI_leI (by omega) (by omega)).mp c_165
        rw [if_pos hge] at hpu
        exact good os t d _ _ _ _ _ _ _ _ _ _ _ _ _ _ _ _ _ _ _ _ _ hw hpu.symm hu
      · have hlt : ¬ n ≤ i := fun z => c_165 (nI_le z (by omega))
        have hin : i < n := by omega
        rw [if_neg hlt] at hpu hwg
        have hci := hcl i hin
        have hli := ltI i hin
        refine ax_iload_n G d_Mo_run_168 rfl rfl ?_
        refine ax_if_eq (tgt := 319) G d_Mo_run_169 (by decide) (fun c_169 => ?_) (fun c_169 => ?_)
        · exact absurd c_169 (by decide)
        · refine ax_aload_n G d_Mo_run_172 rfl rfl ?_
          refine ax_get (ci := 6) (j := 7) G d_Mo_run_173 rfl rfl (by decide) k_Mo_13 rfl ?_
          refine ax_aload_n G d_Mo_run_176 rfl rfl ?_
          refine ax_get (ci := 6) (j := 10) G d_Mo_run_177 rfl rfl (by decide) k_Mo_54 rfl ?_
          refine ax_iald G d_Mo_run_180 rfl (vp_in_nI (by omega) (by decide)) ?_
          rw [nI_clamp (by omega), hci.1]
          refine ax_bipush (v := 37) G d_Mo_run_181 (by decide) ?_
          refine ax_icmp_eq (tgt := 203) G d_Mo_run_183 (by decide) (fun c_183 => ?_) (fun c_183 => ?_)
          · have h37 : c0 i = 37 := (nI_eq (b := 37) (by omega) (by decide)).mp c_183
            rw [if_pos (by rw [hli]; exact h37)] at hpu hwg
            have hok : rdOk (lt c0 n) n i = true := by
              cases hq : rdOk (lt c0 n) n i with
              | true => rfl
              | false =>
                rw [hq, if_neg (by decide)] at hwg
                have hb := rd_b (lt c0 n) (n := n) (i := i) hn hin
                exact absurd hwg (nI_m1 (by omega))
            rw [if_pos hok] at hwg
            have hb := rd_b (lt c0 n) (n := n) (i := i) hn hin
            have hall := rdOk_all hok
            have hjn : rdAt (lt c0 n) n i < n := by
              rcases Nat.lt_or_ge (rdAt (lt c0 n) n i) n with z | z
              · exact z
              · have h1 := hall.2.2.1
                rw [show lt c0 n (rdAt (lt c0 n) n i) = 0 from if_neg (Nat.not_lt.mpr z)] at h1
                exact absurd h1 (by decide)
            refine ax_aload_n G d_Mo_run_203 rfl rfl ?_
            refine ax_dup G d_Mo_run_204 rfl ?_
            refine ax_get (ci := 6) (j := 10) G d_Mo_run_205 rfl rfl (by decide) k_Mo_54 rfl ?_
            refine ax_iconst (v := 1) G d_Mo_run_208 (by decide) ?_
            refine ax_iadd G d_Mo_run_209 ?_
            rw [nI_1]
            refine ax_put (ci := 6) (j := 10) G d_Mo_run_210 rfl rfl (by decide) k_Mo_54 rfl rfl rfl (Nat.le_of_ble_eq_true rfl) ?_
            refine ax_aload_n G d_Mo_run_213 rfl rfl ?_
            refine ax_callV (n := 0) G (ct_Mo_directive l n i f c0 _ _ _ _ _ _ _ _ _ _ _ _ _ _ _ _ _ _ _ hf hn hin) d_Mo_run_214 rfl ⟨rfl, rfl, trivial⟩ rfl rfl rfl kc_Mo_directive ⟨k_Mo_125, ki_Mo_directive, ks_Mo_directive, kk_Mo⟩ (by decide +kernel) rfl ⟨by decide, by decide⟩ (Nat.le_of_ble_eq_true rfl) ⟨by decide, by decide⟩ (fun r hc_ hq hk_ => ?_)
            obtain ⟨rfl, at2, wi2, pr2, a1, a2, a3, a4, a5, a6, a7, rfl, hres⟩ := hq
            obtain ⟨g1, g2, g3, g4, g5, g6⟩ := hres hok
            simp only [Prod.mk.injEq] at g2
            obtain ⟨g21, g22, g23, g24, g25⟩ := g2
            rw [if_pos hok]
            subst g1 g3 g5
            have hQ := dvQ_le (ar := ar) (na := na) (t := t) hok
            have hW := dvW_le (ar := ar) (na := na) (t := t) hok
            -- behind the stars
            have put : ∀ (lv : List (Nat × Value)), ax_lsb [(0, .ref 20)] lv → ax_V p l e (ax_rm 6) s m args below meth c D cid ad A 3 0 0 (MQ below Qc args s 0 0 A) 288 lv [] (pc_Mo 0 (nI n) (nI na) (nI os.length) (nI (dvT2 (lt c0 n) n i na t)) (nI (d + 1)) (-1) (nI (rdAt (lt c0 n) n i)) (nI (dvW (lt c0 n) n i ar na t).2) (prI (dvQ (lt c0 n) n i ar na t)) ((dvW (lt c0 n) n i ar na t).1) a2 a3 a4 a5 a6 a7 fr si zs ct po ++ pcF f ++ pcU u ++ pcA ar ++ pcT tf ++ pcB bf ++ pcR rf ++ pcD dd ++ pcO oo) := by
              intro lv hlv
              refine ax_less (lv' := [(0, .ref 20)]) ?_ hlv
              have hcj := hcl _ hjn
              have hKj : isK (c0 (rdAt (lt c0 n) n i)) = true := by rw [← ltI _ hjn]; exact hall.2.2.1
              have hT2 := dvT2_le (L := lt c0 n) (n := n) (i := i) ht
              have hT3 := dvT3_le (L := lt c0 n) (n := n) (i := i) ht
              refine ax_aload_n G d_Mo_run_288 rfl rfl ?_
              refine ax_aload_n G d_Mo_run_289 rfl rfl ?_
              refine ax_get (ci := 6) (j := 7) G d_Mo_run_290 rfl rfl (by decide) k_Mo_13 rfl ?_
              refine ax_aload_n G d_Mo_run_293 rfl rfl ?_
              refine ax_get (ci := 6) (j := 10) G d_Mo_run_294 rfl rfl (by decide) k_Mo_54 rfl ?_
              refine ax_iald G d_Mo_run_297 rfl (vp_in_nI (by omega) (by decide)) ?_
              rw [nI_clamp (by omega), hcj.1]
              refine ax_callV (n := 1) G (ct_Mo_piece l (c0 (rdAt (lt c0 n) n i)) na (dvT2 (lt c0 n) n i na t) (dvQ (lt c0 n) n i ar na t) ar tf bf rf dd oo _ _ _ _ _ _ _ _ _ _ _ _ _ _ _ _ _ _ _ hQ hna hT2 hKj) d_Mo_run_298 rfl ⟨rfl, rfl, rfl, rfl, rfl, rfl, rfl, trivial⟩ rfl rfl rfl kc_Mo_piece ⟨k_Mo_146, ki_Mo_piece, ks_Mo_piece, kk_Mo⟩ (by decide +kernel) rfl ⟨by decide, by decide⟩ (Nat.le_of_ble_eq_true rfl) ⟨by decide, by decide⟩ (fun r hc_ hq hk_ => ?_)
              obtain ⟨rfl, tf2, b2, r2, dd2, o2, zs2, ct2, po2, F, B, rfl, htf, hb2, hFl, hBl, hFB, hz1, hz2⟩ := hq
              have eK : sml (c0 (rdAt (lt c0 n) n i)) = dvK (lt c0 n) n i := by unfold dvK; rw [ltI _ hjn]
              have eV : (if sml (c0 (rdAt (lt c0 n) n i)) = 37 then 0 else tkv ar na (dvT2 (lt c0 n) n i na t)) = dvV (lt c0 n) n i ar na t := by rw [eK]; rfl
              have eP : pcs a2 a3 a4 (dvQ (lt c0 n) n i ar na t) (sml (c0 (rdAt (lt c0 n) n i))) (if sml (c0 (rdAt (lt c0 n) n i)) = 37 then 0 else tkv ar na (dvT2 (lt c0 n) n i na t)) = dvP (lt c0 n) n i ar na t := by rw [eV, eK, g22, g23, g24]; rfl
              have eT : (if sml (c0 (rdAt (lt c0 n) n i)) = 37 then dvT2 (lt c0 n) n i na t else tkn na (dvT2 (lt c0 n) n i na t)) = dvT3 (lt c0 n) n i na t := by rw [eK]; rfl
              rw [eP] at hFB hz1 hz2
              rw [eT]
              have eF : padS (dvW (lt c0 n) n i ar na t).1 zs2 (dvW (lt c0 n) n i ar na t).2 F B = dvF (lt c0 n) n i ar na t := by
                rw [pad_fld (dvW (lt c0 n) n i ar na t).1 a5 zs2 (dvW (lt c0 n) n i ar na t).2 F B (dvP (lt c0 n) n i ar na t).2 hz1 hz2, hFB, g25]
                unfold dvF dvG
                rw [ltI _ hjn]
              refine ax_aload_n G d_Mo_run_301 rfl rfl ?_
              refine ax_callV (n := 0) G (ct_Mo_pad l os F B (os ++ dvF (lt c0 n) n i ar na t) (dvW (lt c0 n) n i ar na t).2 u tf2 b2 _ _ _ _ _ _ _ _ _ _ _ _ _ _ _ _ _ _ hu htf hb2 hol hFl hBl hW (by rw [eF])) d_Mo_run_302 rfl ⟨rfl, rfl, rfl, rfl, trivial⟩ rfl rfl rfl kc_Mo_pad ⟨k_Mo_150, ki_Mo_pad, ks_Mo_pad, kk_Mo⟩ (by decide +kernel) rfl ⟨by decide, by decide⟩ (Nat.le_of_ble_eq_true rfl) ⟨by decide, by decide⟩ (fun r hc_ hq hk_ => ?_)
              obtain ⟨rfl, ou2, u2, rfl, hres2⟩ := hq
              rw [List.length_append] at hres2 ⊢
              by_cases h4 : os.length + (dvF (lt c0 n) n i ar na t).length ≤ 4000
              · rw [if_pos h4] at hpu
                obtain ⟨rfl, hu2⟩ := hres2 h4
                rw [decide_eq_true h4]
                refine ax_istore_n G d_Mo_run_305 rfl (by decide) ?_
                refine ax_aload_n G d_Mo_run_306 rfl rfl ?_
                refine ax_dup G d_Mo_run_307 rfl ?_
                refine ax_get (ci := 6) (j := 10) G d_Mo_run_308 rfl rfl (by decide) k_Mo_54 rfl ?_
                refine ax_iconst (v := 1) G d_Mo_run_311 (by decide) ?_
                refine ax_iadd G d_Mo_run_312 ?_
                rw [nI_1]
                refine ax_put (ci := 6) (j := 10) G d_Mo_run_313 rfl rfl (by decide) k_Mo_54 rfl rfl rfl (Nat.le_of_ble_eq_true rfl) ?_
                refine ax_goto (tgt := 157) G d_Mo_run_316 (by decide) ?_
                have hl2 : (os ++ dvF (lt c0 n) n i ar na t).length = os.length + (dvF (lt c0 n) n i ar na t).length := List.length_append
                have q := ih (rdAt (lt c0 n) n i + 1) (os ++ dvF (lt c0 n) n i ar na t) (dvT3 (lt c0 n) n i na t) (d + 1) u2 tf2 b2 r2 dd2 o2 (nI (dvW (lt c0 n) n i ar na t).2) (prI (dvQ (lt c0 n) n i ar na t)) (dvW (lt c0 n) n i ar na t).1 a2 a3 a4 a5 a6 a7 (nI F.length) (nI B.length) zs2 ct2 po2 (by omega) (by omega) hpu hwg hT3 (by omega) hu2 (by omega)
                rw [hl2] at q
                exact q
              · rw [if_neg h4] at hpu
                rw [decide_eq_false h4]
                refine ax_istore_n G d_Mo_run_305 rfl (by decide) ?_
                exact fail2 _ _ _ _ _ _ _ _ _ _ _ _ _ _ _ _ _ _ _ _ _ _ _ _ hw hpu.symm
            have prec : ∀ (lv : List (Nat × Value)), ax_lsb [(0, .ref 20)] lv → ax_V p l e (ax_rm 6) s m args below meth c D cid ad A 3 0 0 (MQ below Qc args s 0 0 A) 266 lv [] (pc_Mo 0 (nI n) (nI na) (nI os.length) (nI (dvT1 (lt c0 n) n i na t)) (nI (d + 1)) (-1) (nI (rdAt (lt c0 n) n i)) (nI (dvW (lt c0 n) n i ar na t).2) (prI (rdQ (lt c0 n) n i)) ((dvW (lt c0 n) n i ar na t).1) a2 a3 a4 a5 a6 a7 fr si zs ct po ++ pcF f ++ pcU u ++ pcA ar ++ pcT tf ++ pcB bf ++ pcR rf ++ pcD dd ++ pcO oo) := by
              intro lv hlv
              refine ax_less (lv' := [(0, .ref 20)]) ?_ hlv
              have hT1 := dvT1_le (L := lt c0 n) (n := n) (i := i) ht
              cases a7 with
              | false =>
                have e1 : dvT2 (lt c0 n) n i na t = dvT1 (lt c0 n) n i na t := by unfold dvT2; rw [← g6]; rfl
                have e2 : dvQ (lt c0 n) n i ar na t = rdQ (lt c0 n) n i := by unfold dvQ; rw [← g6]; rfl
                rw [e1, e2] at put
                refine ax_aload_n G d_Mo_run_266 rfl rfl ?_
                refine ax_get (ci := 6) (j := 19) G d_Mo_run_267 rfl rfl (by decide) k_Mo_88 rfl ?_
                refine ax_if_eq (tgt := 288) G d_Mo_run_270 (by decide) (fun c_270 => ?_) (fun c_270 => ?_)
                · exact put _ ⟨rfl, trivial⟩
                · exact absurd rfl c_270
              | true =>
                have e1 : dvT2 (lt c0 n) n i na t = tkn na (dvT1 (lt c0 n) n i na t) := by unfold dvT2; rw [← g6]; rfl
                have e2 : dvQ (lt c0 n) n i ar na t = (if lim (tkv ar na (dvT1 (lt c0 n) n i na t)) < 0 then none else some (lim (tkv ar na (dvT1 (lt c0 n) n i na t))).toNat) := by unfold dvQ; rw [← g6]; rfl
                rw [e1, e2] at put
                refine ax_aload_n G d_Mo_run_266 rfl rfl ?_
                refine ax_get (ci := 6) (j := 19) G d_Mo_run_267 rfl rfl (by decide) k_Mo_88 rfl ?_
                refine ax_if_eq (tgt := 288) G d_Mo_run_270 (by decide) (fun c_270 => ?_) (fun c_270 => ?_)
                · exact absurd c_270 (by decide)
                · refine ax_aload_n G d_Mo_run_273 rfl rfl ?_
                  refine ax_aload_n G d_Mo_run_274 rfl rfl ?_
                  refine ax_callV (n := 0) G (ct_Mo_next l na (dvT1 (lt c0 n) n i na t) ar _ _ _ _ _ _ _ _ _ _ _ _ _ _ _ _ _ _ _ _ hna hT1) d_Mo_run_275 rfl ⟨rfl, rfl, trivial⟩ rfl rfl rfl kc_Mo_next ⟨k_Mo_132, ki_Mo_next, ks_Mo_next, kk_Mo⟩ (by decide +kernel) rfl ⟨by decide, by decide⟩ (Nat.le_of_ble_eq_true rfl) ⟨by decide, by decide⟩ (fun r hc_ hq hk_ => ?_)
                  obtain ⟨rfl, rfl⟩ := hq
                  generalize tkv ar na (dvT1 (lt c0 n) n i na t) = v at *
                  refine ax_callS (n := 1) G (ct_Mo_limited l v) d_Mo_run_278 rfl trivial rfl kc_Mo_limited ⟨k_Mo_136, kt_Mo_limited, kk_Mo⟩ (by decide +kernel) rfl ⟨by decide, by decide⟩ (Nat.le_of_ble_eq_true rfl) ⟨by decide, by decide⟩ (fun r hc_ hq hk_ => ?_)
                  obtain ⟨rfl, rfl⟩ := hq
                  have hlb := lim_b v
                  refine ax_iconst (v := (-1)) G d_Mo_run_281 (by decide) ?_
                  refine ax_mmax G d_Mo_run_282 k_Mo_140 ⟨by decide, by decide⟩ (Nat.le_of_ble_eq_true rfl) ⟨by decide, by decide⟩ ?_
                  have em : (if Int32.ofInt (lim v) < -1 then (-1 : Int32) else Int32.ofInt (lim v)) = prI (if lim v < 0 then none else some (lim v).toNat) := by
                    by_cases z : lim v < 0
                    · rw [if_pos z]
                      show _ = (-1 : Int32)
                      split
                      · rfl
                      · rename_i w
                        apply i32_eq
                        have : ¬ lim v < -1 := fun y => w ((i32_lt _ _).mpr (by rw [lim_i, show (-1 : Int32).toInt = -1 by decide +kernel]; exact y))
                        rw [lim_i, show (-1 : Int32).toInt = -1 by decide +kernel]; omega
                    · rw [if_neg z, if_neg (fun w => by
                        have := (i32_lt _ _).mp w
                        rw [lim_i, show (-1 : Int32).toInt = -1 by decide +kernel] at this; omega)]
                      exact lim_n (by omega)
                  rw [em]
                  refine ax_put (ci := 6) (j := 12) G d_Mo_run_285 rfl rfl (by decide) k_Mo_94 rfl rfl rfl (Nat.le_of_ble_eq_true rfl) ?_
                  exact put _ ⟨rfl, trivial⟩
            refine ax_pop G d_Mo_run_217 rfl ?_
            refine ax_aload_n G d_Mo_run_218 rfl rfl ?_
            refine ax_dup G d_Mo_run_219 rfl ?_
            refine ax_get (ci := 6) (j := 5) G d_Mo_run_220 rfl rfl (by decide) k_Mo_122 rfl ?_
            refine ax_iconst (v := 1) G d_Mo_run_223 (by decide) ?_
            refine ax_iadd G d_Mo_run_224 ?_
            rw [nI_1]
            refine ax_put (ci := 6) (j := 5) G d_Mo_run_225 rfl rfl (by decide) k_Mo_122 rfl rfl rfl (Nat.le_of_ble_eq_true rfl) ?_
            cases a6 with
            | false =>
              have e1 : dvT1 (lt c0 n) n i na t = t := by unfold dvT1; rw [← g4]; rfl
              have e2 : dvW (lt c0 n) n i ar na t = (a1, (rdW (lt c0 n) n i).2.2.2) := by unfold dvW; rw [← g4, ← g21]; rfl
              rw [e1, e2] at prec
              refine ax_aload_n G d_Mo_run_228 rfl rfl ?_
              refine ax_get (ci := 6) (j := 18) G d_Mo_run_229 rfl rfl (by decide) k_Mo_85 rfl ?_
              refine ax_if_eq (tgt := 266) G d_Mo_run_232 (by decide) (fun c_232 => ?_) (fun c_232 => ?_)
              · exact prec _ ⟨rfl, trivial⟩
              · exact absurd rfl c_232
            | true =>
              have e1 : dvT1 (lt c0 n) n i na t = tkn na t := by unfold dvT1; rw [← g4]; rfl
              have e2 : dvW (lt c0 n) n i ar na t = (a1 || decide (lim (tkv ar na t) < 0), (lim (tkv ar na t)).natAbs) := by unfold dvW; rw [← g4, ← g21]; rfl
              rw [e1, e2] at prec
              refine ax_aload_n G d_Mo_run_228 rfl rfl ?_
              refine ax_get (ci := 6) (j := 18) G d_Mo_run_229 rfl rfl (by decide) k_Mo_85 rfl ?_
              refine ax_if_eq (tgt := 266) G d_Mo_run_232 (by decide) (fun c_232 => ?_) (fun c_232 => ?_)
              · exact absurd c_232 (by decide)
              · refine ax_aload_n G d_Mo_run_235 rfl rfl ?_
                refine ax_callV (n := 0) G (ct_Mo_next l na t ar _ _ _ _ _ _ _ _ _ _ _ _ _ _ _ _ _ _ _ _ hna ht) d_Mo_run_236 rfl ⟨rfl, rfl, trivial⟩ rfl rfl rfl kc_Mo_next ⟨k_Mo_132, ki_Mo_next, ks_Mo_next, kk_Mo⟩ (by decide +kernel) rfl ⟨by decide, by decide⟩ (Nat.le_of_ble_eq_true rfl) ⟨by decide, by decide⟩ (fun r hc_ hq hk_ => ?_)
                obtain ⟨rfl, rfl⟩ := hq
                generalize tkv ar na t = v at *
                refine ax_callS (n := 1) G (ct_Mo_limited l v) d_Mo_run_239 rfl trivial rfl kc_Mo_limited ⟨k_Mo_136, kt_Mo_limited, kk_Mo⟩ (by decide +kernel) rfl ⟨by decide, by decide⟩ (Nat.le_of_ble_eq_true rfl) ⟨by decide, by decide⟩ (fun r hc_ hq hk_ => ?_)
                obtain ⟨rfl, rfl⟩ := hq
                have hlb := lim_b v
                have hx0 : ((0 : Int32) ≤ Int32.ofInt (lim v)) ↔ 0 ≤ lim v := by rw [i32_le, lim_i, show (0 : Int32).toInt = 0 from rfl]
                by_cases z : lim v < 0
                · rw [decide_eq_true z, Bool.or_true] at prec
                  refine ax_istore_n G d_Mo_run_242 rfl (by decide) ?_
                  refine ax_iload_n G d_Mo_run_243 rfl rfl ?_
                  refine ax_if_ge (tgt := 252) G d_Mo_run_244 (by decide) (fun c_244 => ?_) (fun c_244 => ?_)
                  · exact absurd (hx0.mp c_244) (by omega)
                  · refine ax_aload_n G d_Mo_run_247 rfl rfl ?_
                    refine ax_iconst (v := 1) G d_Mo_run_248 (by decide) ?_
                    refine ax_put (ci := 6) (j := 13) G d_Mo_run_249 rfl rfl (by decide) k_Mo_69 rfl rfl rfl (Nat.le_of_ble_eq_true rfl) ?_
                    refine ax_aload_n G d_Mo_run_252 rfl rfl ?_
                    refine ax_iload_n G d_Mo_run_253 rfl rfl ?_
                    refine ax_if_ge (tgt := 262) G d_Mo_run_254 (by decide) (fun c_254 => ?_) (fun c_254 => ?_)
                    · exact absurd (hx0.mp c_254) (by omega)
                    · refine ax_iload_n G d_Mo_run_257 rfl rfl ?_
                      refine ax_ineg G d_Mo_run_258 ?_
                      rw [lim_m z]
                      refine ax_goto (tgt := 263) G d_Mo_run_259 (by decide) ?_
                      refine ax_put (ci := 6) (j := 11) G d_Mo_run_263 rfl rfl (by decide) k_Mo_91 rfl rfl rfl (Nat.le_of_ble_eq_true rfl) ?_
                      exact prec _ ⟨rfl, trivial⟩
                · rw [decide_eq_false z, Bool.or_false] at prec
                  refine ax_istore_n G d_Mo_run_242 rfl (by decide) ?_
                  refine ax_iload_n G d_Mo_run_243 rfl rfl ?_
                  refine ax_if_ge (tgt := 252) G d_Mo_run_244 (by decide) (fun c_244 => ?_) (fun c_244 => ?_)
                  · refine ax_aload_n G d_Mo_run_252 rfl rfl ?_
                    refine ax_iload_n G d_Mo_run_253 rfl rfl ?_
                    refine ax_if_ge (tgt := 262) G d_Mo_run_254 (by decide) (fun c_254 => ?_) (fun c_254 => ?_)
                    · refine ax_iload_n G d_Mo_run_262 rfl rfl ?_
                      rw [lim_a (by omega)]
                      refine ax_put (ci := 6) (j := 11) G d_Mo_run_263 rfl rfl (by decide) k_Mo_91 rfl rfl rfl (Nat.le_of_ble_eq_true rfl) ?_
                      exact prec _ ⟨rfl, trivial⟩
                    · exact absurd (hx0.mpr (by omega)) c_254
                  · exact absurd (hx0.mpr (by omega)) c_244
          · have h37 : ¬ c0 i = 37 := fun z => c_183 (by rw [z]; rfl)
            rw [if_neg (by rw [hli]; exact h37)] at hpu hwg
            rw [hli] at hpu
            refine ax_aload_n G d_Mo_run_186 rfl rfl ?_
            refine ax_aload_n G d_Mo_run_187 rfl rfl ?_
            refine ax_get (ci := 6) (j := 7) G d_Mo_run_188 rfl rfl (by decide) k_Mo_13 rfl ?_
            refine ax_aload_n G d_Mo_run_191 rfl rfl ?_
            refine ax_get (ci := 6) (j := 10) G d_Mo_run_192 rfl rfl (by decide) k_Mo_54 rfl ?_
            refine ax_iald G d_Mo_run_195 rfl (vp_in_nI (by omega) (by decide)) ?_
            rw [nI_clamp (by omega), hci.1]
            by_cases h4 : os.length < 4000
            · rw [if_pos h4] at hpu
              refine ax_callV (n := 1) G (ct_Mo_give l os (c0 i) u _ _ _ _ _ _ _ _ _ _ _ _ _ _ _ _ _ _ _ _ _ hu h4 hci.2) d_Mo_run_196 rfl ⟨rfl, rfl, trivial⟩ rfl rfl rfl kc_Mo_give ⟨k_Mo_129, ki_Mo_give, ks_Mo_give, kk_Mo⟩ (by decide +kernel) rfl ⟨by decide, by decide⟩ (Nat.le_of_ble_eq_true rfl) ⟨by decide, by decide⟩ (fun r hc_ hq hk_ => ?_)
              obtain ⟨rfl, u2, rfl, hu2⟩ := hq
              refine ax_istore_n G d_Mo_run_199 rfl (by decide) ?_
              refine ax_goto (tgt := 306) G d_Mo_run_200 (by decide) ?_
              refine ax_aload_n G d_Mo_run_306 rfl rfl ?_
              refine ax_dup G d_Mo_run_307 rfl ?_
              refine ax_get (ci := 6) (j := 10) G d_Mo_run_308 rfl rfl (by decide) k_Mo_54 rfl ?_
              refine ax_iconst (v := 1) G d_Mo_run_311 (by decide) ?_
              refine ax_iadd G d_Mo_run_312 ?_
              rw [nI_1]
              refine ax_put (ci := 6) (j := 10) G d_Mo_run_313 rfl rfl (by decide) k_Mo_54 rfl rfl rfl (Nat.le_of_ble_eq_true rfl) ?_
              refine ax_goto (tgt := 157) G d_Mo_run_316 (by decide) ?_
              exact ih (i + 1) _ t d _ _ _ _ _ _ _ _ _ _ _ _ _ _ _ _ _ _ _ _ (by omega) (by omega) hpu hwg ht (by rw [List.length_append]; show _ + 1 ≤ _; omega) hu2 (by omega)
            · rw [if_neg h4] at hpu
              have e4 : os.length = 4000 := by omega
              rw [e4]
              refine ax_callV (n := 1) G (ct_Mo_giveF l (nI (c0 i)) u _ _ _ _ _ _ _ _ _ _ _ _ _ _ _ _ _ _ _ _ _) d_Mo_run_196 rfl ⟨rfl, rfl, trivial⟩ rfl rfl rfl kc_Mo_give ⟨k_Mo_129, ki_Mo_give, ks_Mo_give, kk_Mo⟩ (by decide +kernel) rfl ⟨by decide, by decide⟩ (Nat.le_of_ble_eq_true rfl) ⟨by decide, by decide⟩ (fun r hc_ hq hk_ => ?_)
              obtain ⟨rfl, rfl⟩ := hq
              refine ax_istore_n G d_Mo_run_199 rfl (by decide) ?_
              refine ax_goto (tgt := 306) G d_Mo_run_200 (by decide) ?_
              exact fail2 _ _ _ _ _ _ _ _ _ _ _ _ _ _ _ _ _ _ _ _ _ _ _ _ hw hpu.symm
  -- behind the second loop
  have mid : ∀ (w : Int32) (at0 wi pr : Int32) (lf pl bl ha ze wt pt : Bool) (lv : List (Nat × Value)), (w = -1 ∨ ¬ w < 0) → w = wrA c0 n → ax_lsb [(0, .ref 20)] lv → ax_V p l e (ax_rm 6) s m args below meth c D cid ad A 3 0 0 (MQ below Qc args s 0 0 A) 128 lv [] (pc_Mo 0 (nI n) (nI na) 0 0 0 w at0 wi pr lf pl bl ha ze wt pt fr si zs ct po ++ pcF f ++ pcU u ++ pcA ar ++ pcT tf ++ pcB bf ++ pcR rf ++ pcD dd ++ pcO oo) := by
    intro w at0 wi pr lf pl bl ha ze wt pt lv hw1 hw2 hlv
    refine ax_less (lv' := [(0, .ref 20)]) ?_ hlv
    by_cases hm : w = -1
    · subst hm
      have hwg : wrg (lt c0 n) n (n + 1) 0 = -1 := by
        have := hw2
        unfold wrA at this
        split at this
        · exact this.symm
        · rename_i z; exact absurd this.symm z
      refine ax_aload_n G d_Mo_run_128 rfl rfl ?_
      refine ax_aload_n G d_Mo_run_129 rfl rfl ?_
      refine ax_get (ci := 6) (j := 6) G d_Mo_run_130 rfl rfl (by decide) k_Mo_7 rfl ?_
      refine ax_if_lt (tgt := 140) G d_Mo_run_133 (by decide) (fun c_133 => ?_) (fun c_133 => ?_)
      · refine ax_iconst (v := 0) G d_Mo_run_140 (by decide) ?_
        refine ax_iconst (v := 1) G d_Mo_run_141 (by decide) ?_
        refine ax_callV (n := 2) G (ct_Mo_fails l false 1 (by decide) _ _ _ _ _ _ _ _ _ _ _ _ _ _ _ _ _ _ _ _ _) d_Mo_run_142 rfl ⟨rfl, trivial⟩ rfl rfl rfl kc_Mo_fails ⟨k_Mo_47, ki_Mo_fails, ks_Mo_fails, kk_Mo⟩ (by decide +kernel) rfl ⟨by decide, by decide⟩ (Nat.le_of_ble_eq_true rfl) ⟨by decide, by decide⟩ (fun r hc_ hq hk_ => ?_)
        obtain ⟨rfl, rfl⟩ := hq
        refine ax_if_eq (tgt := 150) G d_Mo_run_145 (by decide) (fun c_145 => ?_) (fun c_145 => ?_)
        · refine ax_iconst (v := 1) G d_Mo_run_150 (by decide) ?_
          refine ax_istore_n G d_Mo_run_151 rfl (by decide) ?_
          refine ax_aload_n G d_Mo_run_152 rfl rfl ?_
          refine ax_iconst (v := 0) G d_Mo_run_153 (by decide) ?_
          refine ax_put (ci := 6) (j := 10) G d_Mo_run_154 rfl rfl (by decide) k_Mo_54 rfl rfl rfl (Nat.le_of_ble_eq_true rfl) ?_
          exact loop3 hw2.symm (n + 1) 0 [] 0 0 _ _ _ _ _ _ _ _ _ _ _ _ _ _ _ _ _ _ _ _ (by omega) (by omega) hPP hwg (Nat.zero_le _) (Nat.zero_le _) (mi_nil u) (Nat.le_refl _)
        · exact absurd rfl c_145
      · exact absurd m1lt0 c_133
    · have hw3 : ¬ w < 0 := hw1.resolve_left hm
      refine ax_aload_n G d_Mo_run_128 rfl rfl ?_
      refine ax_aload_n G d_Mo_run_129 rfl rfl ?_
      refine ax_get (ci := 6) (j := 6) G d_Mo_run_130 rfl rfl (by decide) k_Mo_7 rfl ?_
      refine ax_if_lt (tgt := 140) G d_Mo_run_133 (by decide) (fun c_133 => ?_) (fun c_133 => ?_)
      · exact absurd c_133 hw3
      · refine ax_iconst (v := 1) G d_Mo_run_136 (by decide) ?_
        refine ax_goto (tgt := 141) G d_Mo_run_137 (by decide) ?_
        refine ax_iconst (v := 1) G d_Mo_run_141 (by decide) ?_
        refine ax_callV (n := 2) G (ct_Mo_fails l true 1 (by decide) _ _ _ _ _ _ _ _ _ _ _ _ _ _ _ _ _ _ _ _ _) d_Mo_run_142 rfl ⟨rfl, trivial⟩ rfl rfl rfl kc_Mo_fails ⟨k_Mo_47, ki_Mo_fails, ks_Mo_fails, kk_Mo⟩ (by decide +kernel) rfl ⟨by decide, by decide⟩ (Nat.le_of_ble_eq_true rfl) ⟨by decide, by decide⟩ (fun r hc_ hq hk_ => ?_)
        obtain ⟨rfl, rfl⟩ := hq
        refine ax_if_eq (tgt := 150) G d_Mo_run_145 (by decide) (fun c_145 => ?_) (fun c_145 => ?_)
        · exact absurd c_145 (by decide)
        · refine ax_iconst (v := 0) G d_Mo_run_148 (by decide) ?_
          rw [← hw2] at E
          exact ax_iret G hr E d_Mo_run_149 rfl ⟨1, [], 0, 0, u, tf, bf, rf, dd, oo, _, _, _, _, _, _, _, _, _, _, _, _, _, _, _, rfl, rfl, mi_nil u, (rnS_w (by rw [← hw2]; exact hm)).symm⟩
  have loop2 : frg c0 0 n = -1 → ∀ (k i : Nat) (wi pr : Int32) (lf pl bl ha ze wt pt : Bool) (lv : List (Nat × Value)), n < k + i → i ≤ 408 → wrA c0 n = wrg (lt c0 n) n k i → ax_lsb [(0, .ref 20)] lv → ax_V p l e (ax_rm 6) s m args below meth c D cid ad A 3 0 0 (MQ below Qc args s 0 0 A) 68 lv [] (pc_Mo 0 (nI n) (nI na) 0 0 0 (-1) (nI i) wi pr lf pl bl ha ze wt pt fr si zs ct po ++ pcF f ++ pcU u ++ pcA ar ++ pcT tf ++ pcB bf ++ pcR rf ++ pcD dd ++ pcO oo) := by
    intro hfr k
    induction k with
    | zero =>
      intro i wi pr lf pl bl ha ze wt pt lv hk hi hw hlv
      refine ax_less (lv' := [(0, .ref 20)]) ?_ hlv
      refine ax_aload_n G d_Mo_run_68 rfl rfl ?_
      refine ax_get (ci := 6) (j := 10) G d_Mo_run_69 rfl rfl (by decide) k_Mo_54 rfl ?_
      refine ax_aload_n G d_Mo_run_72 rfl rfl ?_
      refine ax_get (ci := 6) (j := 1) G d_Mo_run_73 rfl rfl (by decide) k_Mo_44 rfl ?_
      refine ax_icmp_ge (tgt := 128) G d_Mo_run_76 (by decide) (fun c_76 => ?_) (fun c_76 => ?_)
      · exact mid (-1) _ _ _ _ _ _ _ _ _ _ _ (Or.inl rfl) hw.symm ⟨rfl, trivial⟩
      · exact absurd (nI_le (by omega) (by omega)) c_76
    | succ k ih =>
      intro i wi pr lf pl bl ha ze wt pt lv hk hi hw hlv
      refine ax_less (lv' := [(0, .ref 20)]) ?_ hlv
      rw [wrg_s] at hw
      refine ax_aload_n G d_Mo_run_68 rfl rfl ?_
      refine ax_get (ci := 6) (j := 10) G d_Mo_run_69 rfl rfl (by decide) k_Mo_54 rfl ?_
      refine ax_aload_n G d_Mo_run_72 rfl rfl ?_
      refine ax_get (ci := 6) (j := 1) G d_Mo_run_73 rfl rfl (by decide) k_Mo_44 rfl ?_
      refine ax_icmp_ge (tgt := 128) G d_Mo_run_76 (by decide) (fun c_76 => ?_) (fun c_76 => ?_)
      · have hge : n ≤ i := (nI_leI (by omega) (by omega)).mp c_76
        rw [if_pos hge] at hw
        exact mid (-1) _ _ _ _ _ _ _ _ _ _ _ (Or.inl rfl) hw.symm ⟨rfl, trivial⟩
      · have hlt : ¬ n ≤ i := fun z => c_76 (nI_le z (by omega))
        have hin : i < n := by omega
        rw [if_neg hlt, ltI i hin] at hw
        have hci := hcl i hin
        refine ax_aload_n G d_Mo_run_79 rfl rfl ?_
        refine ax_get (ci := 6) (j := 6) G d_Mo_run_80 rfl rfl (by decide) k_Mo_7 rfl ?_
        refine ax_if_ge (tgt := 128) G d_Mo_run_83 (by decide) (fun c_83 => ?_) (fun c_83 => ?_)
        · exact absurd c_83 (by decide)
        · refine ax_aload_n G d_Mo_run_86 rfl rfl ?_
          refine ax_get (ci := 6) (j := 7) G d_Mo_run_87 rfl rfl (by decide) k_Mo_13 rfl ?_
          refine ax_aload_n G d_Mo_run_90 rfl rfl ?_
          refine ax_get (ci := 6) (j := 10) G d_Mo_run_91 rfl rfl (by decide) k_Mo_54 rfl ?_
          refine ax_iald G d_Mo_run_94 rfl (vp_in_nI (by omega) (by decide)) ?_
          rw [nI_clamp (by omega), hci.1]
          refine ax_bipush (v := 37) G d_Mo_run_95 (by decide) ?_
          refine ax_icmp_ne (tgt := 115) G d_Mo_run_97 (by decide) (fun c_97 => ?_) (fun c_97 => ?_)
          · have h37 : ¬ c0 i = 37 := fun z => c_97 (by rw [z]; rfl)
            rw [if_neg h37] at hw
            refine ax_aload_n G d_Mo_run_115 rfl rfl ?_
            refine ax_dup G d_Mo_run_116 rfl ?_
            refine ax_get (ci := 6) (j := 10) G d_Mo_run_117 rfl rfl (by decide) k_Mo_54 rfl ?_
            refine ax_iconst (v := 1) G d_Mo_run_120 (by decide) ?_
            refine ax_iadd G d_Mo_run_121 ?_
            rw [nI_1]
            refine ax_put (ci := 6) (j := 10) G d_Mo_run_122 rfl rfl (by decide) k_Mo_54 rfl rfl rfl (Nat.le_of_ble_eq_true rfl) ?_
            refine ax_goto (tgt := 68) G d_Mo_run_125 (by decide) ?_
            exact ih (i + 1) _ _ _ _ _ _ _ _ _ _ (by omega) (by omega) hw ⟨rfl, trivial⟩
          · have h37 : c0 i = 37 := (nI_eq (b := 37) (by omega) (by decide)).mp c_97
            rw [if_pos h37] at hw
            have hb := rd_b (lt c0 n) (n := n) (i := i) hn hin
            refine ax_aload_n G d_Mo_run_100 rfl rfl ?_
            refine ax_dup G d_Mo_run_101 rfl ?_
            refine ax_get (ci := 6) (j := 10) G d_Mo_run_102 rfl rfl (by decide) k_Mo_54 rfl ?_
            refine ax_iconst (v := 1) G d_Mo_run_105 (by decide) ?_
            refine ax_iadd G d_Mo_run_106 ?_
            rw [nI_1]
            refine ax_put (ci := 6) (j := 10) G d_Mo_run_107 rfl rfl (by decide) k_Mo_54 rfl rfl rfl (Nat.le_of_ble_eq_true rfl) ?_
            refine ax_aload_n G d_Mo_run_110 rfl rfl ?_
            refine ax_callV (n := 0) G (ct_Mo_directive l n i f c0 _ _ _ _ _ _ _ _ _ _ _ _ _ _ _ _ _ _ _ hf hn hin) d_Mo_run_111 rfl ⟨rfl, rfl, trivial⟩ rfl rfl rfl kc_Mo_directive ⟨k_Mo_125, ki_Mo_directive, ks_Mo_directive, kk_Mo⟩ (by decide +kernel) rfl ⟨by decide, by decide⟩ (Nat.le_of_ble_eq_true rfl) ⟨by decide, by decide⟩ (fun r hc_ hq hk_ => ?_)
            obtain ⟨rfl, at2, wi2, pr2, a1, a2, a3, a4, a5, a6, a7, rfl, hres⟩ := hq
            cases hok : rdOk (lt c0 n) n i with
            | true =>
              obtain ⟨g1, -⟩ := hres hok
              subst g1
              rw [if_pos hok] at hw
              rw [if_pos rfl]
              refine ax_pop G d_Mo_run_114 rfl ?_
              refine ax_aload_n G d_Mo_run_115 rfl rfl ?_
              refine ax_dup G d_Mo_run_116 rfl ?_
              refine ax_get (ci := 6) (j := 10) G d_Mo_run_117 rfl rfl (by decide) k_Mo_54 rfl ?_
              refine ax_iconst (v := 1) G d_Mo_run_120 (by decide) ?_
              refine ax_iadd G d_Mo_run_121 ?_
              rw [nI_1]
              refine ax_put (ci := 6) (j := 10) G d_Mo_run_122 rfl rfl (by decide) k_Mo_54 rfl rfl rfl (Nat.le_of_ble_eq_true rfl) ?_
              refine ax_goto (tgt := 68) G d_Mo_run_125 (by decide) ?_
              exact ih (rdAt (lt c0 n) n i + 1) _ _ _ _ _ _ _ _ _ _ (by omega) (by omega) hw ⟨rfl, trivial⟩
            | false =>
              rw [hok, if_neg (by decide)] at hw
              rw [if_neg (by decide)]
              have hge := nIn0 (i := rdAt (lt c0 n) n i) (by omega)
              refine ax_pop G d_Mo_run_114 rfl ?_
              refine ax_aload_n G d_Mo_run_115 rfl rfl ?_
              refine ax_dup G d_Mo_run_116 rfl ?_
              refine ax_get (ci := 6) (j := 10) G d_Mo_run_117 rfl rfl (by decide) k_Mo_54 rfl ?_
              refine ax_iconst (v := 1) G d_Mo_run_120 (by decide) ?_
              refine ax_iadd G d_Mo_run_121 ?_
              refine ax_put (ci := 6) (j := 10) G d_Mo_run_122 rfl rfl (by decide) k_Mo_54 rfl rfl rfl (Nat.le_of_ble_eq_true rfl) ?_
              refine ax_goto (tgt := 68) G d_Mo_run_125 (by decide) ?_
              refine ax_aload_n G d_Mo_run_68 rfl rfl ?_
              refine ax_get (ci := 6) (j := 10) G d_Mo_run_69 rfl rfl (by decide) k_Mo_54 rfl ?_
              refine ax_aload_n G d_Mo_run_72 rfl rfl ?_
              refine ax_get (ci := 6) (j := 1) G d_Mo_run_73 rfl rfl (by decide) k_Mo_44 rfl ?_
              refine ax_icmp_ge (tgt := 128) G d_Mo_run_76 (by decide) (fun c_76 => ?_) (fun c_76 => ?_)
              · exact mid _ _ _ _ _ _ _ _ _ _ _ _ (Or.inr hge) hw.symm ⟨rfl, trivial⟩
              · refine ax_aload_n G d_Mo_run_79 rfl rfl ?_
                refine ax_get (ci := 6) (j := 6) G d_Mo_run_80 rfl rfl (by decide) k_Mo_7 rfl ?_
                refine ax_if_ge (tgt := 128) G d_Mo_run_83 (by decide) (fun c_83 => ?_) (fun c_83 => ?_)
                · exact mid _ _ _ _ _ _ _ _ _ _ _ _ (Or.inr hge) hw.symm ⟨rfl, trivial⟩
                · exact absurd (Int32.not_lt.mp hge) c_83
  have loop1 : ∀ (k i : Nat) (w : Int32), i + k = n → ((w = -1 ∧ frg c0 i k = frg c0 0 n) ∨ (¬ w < 0 ∧ w = frg c0 0 n)) → ax_V p l e (ax_rm 6) s m args below meth c D cid ad A 3 0 0 (MQ below Qc args s 0 0 A) 27 [(0, .ref 20), (1, .int (nI i))] [] (pc_Mo 0 (nI n) (nI na) 0 0 0 w at0 wi pr lf pl bl ha ze wt pt fr si zs ct po ++ pcF f ++ pcU u ++ pcA ar ++ pcT tf ++ pcB bf ++ pcR rf ++ pcD dd ++ pcO oo) := by
    intro k
    induction k with
    | zero =>
      intro i w hk hw
      have ei : i = n := by omega
      subst ei
      refine ax_iload_n G d_Mo_run_27 rfl rfl ?_
      refine ax_aload_n G d_Mo_run_28 rfl rfl ?_
      refine ax_get (ci := 6) (j := 1) G d_Mo_run_29 rfl rfl (by decide) k_Mo_44 rfl ?_
      refine ax_icmp_ge (tgt := 63) G d_Mo_run_32 (by decide) (fun c_32 => ?_) (fun c_32 => ?_)
      · rcases hw with ⟨h1, h2⟩ | ⟨h1, h2⟩
        · subst h1
          have hfr : frg c0 0 i = -1 := h2.symm
          refine ax_aload_n G d_Mo_run_63 rfl rfl ?_
          refine ax_iconst (v := 0) G d_Mo_run_64 (by decide) ?_
          refine ax_put (ci := 6) (j := 10) G d_Mo_run_65 rfl rfl (by decide) k_Mo_54 rfl rfl rfl (Nat.le_of_ble_eq_true rfl) ?_
          exact loop2 hfr (i + 1) 0 _ _ _ _ _ _ _ _ _ _ (by omega) (by omega) (by unfold wrA; rw [if_pos hfr]) ⟨rfl, trivial⟩
        · have hne : ¬ frg c0 0 i = -1 := fun z => h1 (by rw [h2, z]; exact m1lt0)
          have hwa : w = wrA c0 i := by unfold wrA; rw [if_neg hne]; exact h2
          refine ax_aload_n G d_Mo_run_63 rfl rfl ?_
          refine ax_iconst (v := 0) G d_Mo_run_64 (by decide) ?_
          refine ax_put (ci := 6) (j := 10) G d_Mo_run_65 rfl rfl (by decide) k_Mo_54 rfl rfl rfl (Nat.le_of_ble_eq_true rfl) ?_
          refine ax_aload_n G d_Mo_run_68 rfl rfl ?_
          refine ax_get (ci := 6) (j := 10) G d_Mo_run_69 rfl rfl (by decide) k_Mo_54 rfl ?_
          refine ax_aload_n G d_Mo_run_72 rfl rfl ?_
          refine ax_get (ci := 6) (j := 1) G d_Mo_run_73 rfl rfl (by decide) k_Mo_44 rfl ?_
          refine ax_icmp_ge (tgt := 128) G d_Mo_run_76 (by decide) (fun c_76 => ?_) (fun c_76 => ?_)
          · exact mid w _ _ _ _ _ _ _ _ _ _ _ (Or.inr h1) hwa ⟨rfl, trivial⟩
          · refine ax_aload_n G d_Mo_run_79 rfl rfl ?_
            refine ax_get (ci := 6) (j := 6) G d_Mo_run_80 rfl rfl (by decide) k_Mo_7 rfl ?_
            refine ax_if_ge (tgt := 128) G d_Mo_run_83 (by decide) (fun c_83 => ?_) (fun c_83 => ?_)
            · exact mid w _ _ _ _ _ _ _ _ _ _ _ (Or.inr h1) hwa ⟨rfl, trivial⟩
            · exact absurd (Int32.not_lt.mp h1) c_83
      · exact absurd (nI_le (Nat.le_refl _) (by omega)) c_32
    | succ k ih =>
      intro i w hk hw
      have hin : i < n := by omega
      have hci := hcl i hin
      rw [frg_s] at hw
      refine ax_iload_n G d_Mo_run_27 rfl rfl ?_
      refine ax_aload_n G d_Mo_run_28 rfl rfl ?_
      refine ax_get (ci := 6) (j := 1) G d_Mo_run_29 rfl rfl (by decide) k_Mo_44 rfl ?_
      refine ax_icmp_ge (tgt := 63) G d_Mo_run_32 (by decide) (fun c_32 => ?_) (fun c_32 => ?_)
      · exact absurd c_32 (nI_ge (by omega) (by omega))
      · refine ax_aload_n G d_Mo_run_35 rfl rfl ?_
        refine ax_get (ci := 6) (j := 7) G d_Mo_run_36 rfl rfl (by decide) k_Mo_13 rfl ?_
        refine ax_iload_n G d_Mo_run_39 rfl rfl ?_
        refine ax_iald G d_Mo_run_40 rfl (vp_in_nI (by omega) (by decide)) ?_
        rw [nI_clamp (by omega), hci.1]
        refine ax_bipush (v := 32) G d_Mo_run_41 (by decide) ?_
        refine ax_bipush (v := 126) G d_Mo_run_43 (by decide) ?_
        refine ax_callS (n := 3) G (ct_Mo_in l (nI (c0 i)) 32 126) d_Mo_run_45 rfl trivial rfl kc_Mo_in ⟨k_Mo_61, kt_Mo_in, kk_Mo⟩ (by decide +kernel) rfl ⟨by decide, by decide⟩ (Nat.le_of_ble_eq_true rfl) ⟨by decide, by decide⟩ (fun r hc_ hq hk_ => ?_)
        obtain ⟨rfl, rfl⟩ := hq
        by_cases hc : c0 i < 32 ∨ 126 < c0 i
        · rw [if_pos hc] at hw
          have e2 : decide ((32 : Int32) ≤ nI (c0 i) ∧ nI (c0 i) ≤ 126) = false := decide_eq_false (fun z => by
            have h1 : 32 ≤ c0 i := (nI_leI (a := 32) (by decide) (by omega)).mp z.1
            have h2 : c0 i ≤ 126 := (nI_leI (b := 126) (by omega) (by decide)).mp z.2
            omega)
          rw [e2]
          refine ax_if_ne (tgt := 57) G d_Mo_run_48 (by decide) (fun c_48 => ?_) (fun c_48 => ?_)
          · exact absurd rfl c_48
          · refine ax_aload_n G d_Mo_run_51 rfl rfl ?_
            refine ax_iload_n G d_Mo_run_52 rfl rfl ?_
            refine ax_callV (n := 1) G (ct_Mo_bad l (nI i) _ _ _ _ _ _ _ _ _ _ _ _ _ _ _ _ _ _ _ _ _ _) d_Mo_run_53 rfl ⟨rfl, trivial⟩ rfl rfl rfl kc_Mo_bad ⟨k_Mo_65, ki_Mo_bad, ks_Mo_bad, kk_Mo⟩ (by decide +kernel) rfl ⟨by decide, by decide⟩ (Nat.le_of_ble_eq_true rfl) ⟨by decide, by decide⟩ (fun r hc_ hq hk_ => ?_)
            obtain ⟨rfl, rfl⟩ := hq
            refine ax_pop G d_Mo_run_56 rfl ?_
            refine ax_iincZ (z := 1) G d_Mo_run_57 rfl (by decide) (by decide) ?_
            refine ax_goto (tgt := 27) G d_Mo_run_60 (by decide) ?_
            rw [nI_1]
            refine ih (i + 1) _ (by omega) ?_
            right
            rcases hw with ⟨h1, h2⟩ | ⟨h1, h2⟩
            · rw [h1, if_pos m1lt0]; exact ⟨nIn0 (by omega), h2⟩
            · rw [if_neg h1]; exact ⟨h1, h2⟩
        · rw [if_neg hc] at hw
          have e2 : decide ((32 : Int32) ≤ nI (c0 i) ∧ nI (c0 i) ≤ 126) = true := decide_eq_true ⟨(nI_leI (a := 32) (by decide) (by omega)).mpr (by omega), (nI_leI (b := 126) (by omega) (by decide)).mpr (by omega)⟩
          rw [e2]
          refine ax_if_ne (tgt := 57) G d_Mo_run_48 (by decide) (fun c_48 => ?_) (fun c_48 => ?_)
          · refine ax_iincZ (z := 1) G d_Mo_run_57 rfl (by decide) (by decide) ?_
            refine ax_goto (tgt := 27) G d_Mo_run_60 (by decide) ?_
            rw [nI_1]
            exact ih (i + 1) w (by omega) hw
          · exact absurd c_48 (by decide)
  refine ax_aload_n G d_Mo_run_0 rfl rfl ?_
  refine ax_iconst (v := 0) G d_Mo_run_1 (by decide) ?_
  refine ax_put (ci := 6) (j := 0) G d_Mo_run_2 rfl rfl (by decide) k_Mo_39 rfl rfl rfl (Nat.le_of_ble_eq_true rfl) ?_
  refine ax_aload_n G d_Mo_run_5 rfl rfl ?_
  refine ax_iconst (v := 0) G d_Mo_run_6 (by decide) ?_
  refine ax_put (ci := 6) (j := 3) G d_Mo_run_7 rfl rfl (by decide) k_Mo_119 rfl rfl rfl (Nat.le_of_ble_eq_true rfl) ?_
  refine ax_aload_n G d_Mo_run_10 rfl rfl ?_
  refine ax_iconst (v := 0) G d_Mo_run_11 (by decide) ?_
  refine ax_put (ci := 6) (j := 4) G d_Mo_run_12 rfl rfl (by decide) k_Mo_112 rfl rfl rfl (Nat.le_of_ble_eq_true rfl) ?_
  refine ax_aload_n G d_Mo_run_15 rfl rfl ?_
  refine ax_iconst (v := 0) G d_Mo_run_16 (by decide) ?_
  refine ax_put (ci := 6) (j := 5) G d_Mo_run_17 rfl rfl (by decide) k_Mo_122 rfl rfl rfl (Nat.le_of_ble_eq_true rfl) ?_
  refine ax_aload_n G d_Mo_run_20 rfl rfl ?_
  refine ax_iconst (v := (-1)) G d_Mo_run_21 (by decide) ?_
  refine ax_put (ci := 6) (j := 6) G d_Mo_run_22 rfl rfl (by decide) k_Mo_7 rfl rfl rfl (Nat.le_of_ble_eq_true rfl) ?_
  refine ax_iconst (v := 0) G d_Mo_run_25 (by decide) ?_
  refine ax_istore_n G d_Mo_run_26 rfl (by decide) ?_
  exact loop1 n 0 (-1) (by omega) (Or.inl ⟨rfl, rfl⟩)

