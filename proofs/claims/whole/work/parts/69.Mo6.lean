/-! FormatDeskModel: cut -/
set_option maxRecDepth 20000 in
set_option maxHeartbeats 1000000 in
theorem ct_Mo_cut (l : Launch) (ct : Nat) (P x : Int32) (d : Nat → Nat) (dd oo : Nat → Int32) (er : Int32) (le : Int32) (ma : Int32) (ou : Int32) (ta : Int32) (di : Int32) (wr : Int32) (at0 : Int32) (wi : Int32) (pr : Int32) (lf : Bool) (pl : Bool) (bl : Bool) (ha : Bool) (ze : Bool) (wt : Bool) (pt : Bool) (fr : Int32) (si : Int32) (zs : Bool) (po : Int32) (hd : de_is dd ct d) (hct : ct ≤ 800) (hx : x.toInt ≤ 600) : ax_CT l y_Mo_cut c_Mo_cut 7 (some .boolean) 0 [.ref 20, .int x] (pc_Mo er le ma ou ta di wr at0 wi pr lf pl bl ha ze wt pt fr si zs (nI ct) po ++ pcD dd ++ pcO oo) (fun r h => r = some (.int (zb (cutM d ct x.toInt))) ∧ ∃ oo', h = pc_Mo er le ma ou ta di wr at0 wi pr lf pl bl ha ze wt pt fr si zs (nI ct) po ++ pcD dd ++ pcO oo' ∧ (0 ≤ x.toInt → ∀ i, i < x.toInt.toNat + (if cutM d ct x.toInt then 1 else 0) → oo' i = nI (cD d ct P x.toInt i))) := by
  refine ax_ofV (by decide) (Nat.le_of_ble_eq_true rfl) ?_
  intro p e s m args below meth c D cid ad A Qc G hr E
  by_cases hneg : x < 0
  · have hxi : x.toInt < 0 := (i32_lt _ _).mp hneg
    have eM : cutM d ct x.toInt = false := by unfold cutM; exact decide_eq_false (fun q => by omega)
    rw [eM] at E
    refine ax_iconst (v := 0) G d_Mo_cut_0 (by decide) ?_
    refine ax_istore_n G d_Mo_cut_1 rfl (by decide) ?_
    refine ax_iload_n G d_Mo_cut_2 rfl rfl ?_
    refine ax_iload_n G d_Mo_cut_3 rfl rfl ?_
    refine ax_icmp_ge (tgt := 37) G d_Mo_cut_4 (by decide) (fun c_4 => ?_) (fun c_4 => ?_)
    · refine ax_iload_n G d_Mo_cut_37 rfl rfl ?_
      refine ax_if_lt (tgt := 49) G d_Mo_cut_38 (by decide) (fun c_38 => ?_) (fun c_38 => ?_)
      · refine ax_iconst (v := 0) G d_Mo_cut_49 (by decide) ?_
        exact ax_zret G hr E rfl d_Mo_cut_50 rfl ⟨rfl, oo, rfl, fun q => by omega⟩
      · exact absurd hneg c_38
    · exact absurd (Int32.le_of_lt hneg) c_4
  obtain ⟨n, hn31, rfl⟩ := nI_of hneg
  have hxn : (nI n).toInt = (n : Int) := nI_toInt hn31
  rw [hxn] at hx E
  have hn6 : n ≤ 600 := by omega
  rw [show ((n : Int)).toNat = n by omega] at E
  have shift : ∀ (j : Nat) (o2 : Nat → Int32) (lv : List (Nat × Value)), n < ct → ups d ct n = true → ln9 d n = 0 → j ≤ n → (∀ i, i < n → o2 i = nI 0) → (∀ i, j < i → i ≤ n → o2 i = nI 0) → ax_lsb [(0, .ref 20), (1, .int (nI n)), (6, .int (nI j))] lv → ax_V p l e (ax_rm 0) s m args below meth c D cid ad A 7 0 0 (MQ below Qc args s 0 0 A) 218 lv [] (pc_Mo er le ma ou ta di wr at0 wi pr lf pl bl ha ze wt pt fr si zs (nI ct) po ++ pcD dd ++ pcO o2) := by
    intro j
    induction j with
    | zero =>
      intro o2 lv hnc hu h9 hj i1 i2 hlv
      have eM := cutM_yes hnc hu h9
      rw [eM] at E
      refine ax_less (lv' := [(0, .ref 20), (1, .int (nI n)), (6, .int (nI 0))]) ?_ hlv
      refine ax_iload G d_Mo_cut_218 rfl ?_
      refine ax_if_le (tgt := 245) G d_Mo_cut_220 (by decide) (fun c_220 => ?_) (fun c_220 => ?_)
      · refine ax_aload_n G d_Mo_cut_245 rfl rfl ?_
        refine ax_get (ci := 6) (j := 27) G d_Mo_cut_246 rfl rfl (by decide) k_Mo_36 rfl ?_
        refine ax_iconst (v := 0) G d_Mo_cut_249 (by decide) ?_
        refine ax_iconst (v := 1) G d_Mo_cut_250 (by decide) ?_
        refine ax_iast G d_Mo_cut_251 rfl (vp_in_nI (n := 0) (by decide) (by decide)) ?_
        refine ax_iconst (v := 1) G d_Mo_cut_252 (by decide) ?_
        refine ax_zret G hr E rfl d_Mo_cut_253 rfl ⟨rfl, _, rfl, fun _ i hi => ?_⟩
        rw [cD_up0 hnc hu h9]
        have hi2 : i < n + 1 := hi
        by_cases q : i = 0
        · subst q; exact pk_us
        · rw [if_neg q]
          show upd o2 0 1 i = _
          rw [pk_un q]
          by_cases q2 : i < n
          · exact i1 i q2
          · exact i2 i (by omega) (by omega)
      · exact absurd (Int32.le_refl _) c_220
    | succ j ih =>
      intro o2 lv hnc hu h9 hj i1 i2 hlv
      refine ax_less (lv' := [(0, .ref 20), (1, .int (nI n)), (6, .int (nI (j + 1)))]) ?_ hlv
      refine ax_iload G d_Mo_cut_218 rfl ?_
      refine ax_if_le (tgt := 245) G d_Mo_cut_220 (by decide) (fun c_220 => ?_) (fun c_220 => ?_)
      · exact absurd c_220 (nI_nle (by omega) (by omega))
      · refine ax_aload_n G d_Mo_cut_223 rfl rfl ?_
        refine ax_get (ci := 6) (j := 27) G d_Mo_cut_224 rfl rfl (by decide) k_Mo_36 rfl ?_
        refine ax_iload G d_Mo_cut_227 rfl ?_
        refine ax_aload_n G d_Mo_cut_229 rfl rfl ?_
        refine ax_get (ci := 6) (j := 27) G d_Mo_cut_230 rfl rfl (by decide) k_Mo_36 rfl ?_
        refine ax_iload G d_Mo_cut_233 rfl ?_
        refine ax_iconst (v := 1) G d_Mo_cut_235 (by decide) ?_
        refine ax_isub G d_Mo_cut_236 ?_
        rw [nI_pred]
        refine ax_iald G d_Mo_cut_237 rfl (vp_in_nI (by omega) (by decide)) ?_
        rw [nI_clamp (by omega), i1 j (by omega)]
        refine ax_iast G d_Mo_cut_238 rfl (vp_in_nI (by omega) (by decide)) ?_
        rw [nI_clamp (by omega)]
        refine ax_iincZ (z := (-1)) G d_Mo_cut_239 rfl (by decide) (by decide) ?_
        rw [pk_m1]
        refine ax_goto (tgt := 218) G d_Mo_cut_242 (by decide) ?_
        refine ih _ _ hnc hu h9 (by omega) (fun i hi => ?_) (fun i hi hi2 => ?_) ⟨rfl, rfl, rfl, trivial⟩
        · by_cases q : i = j + 1
          · subst q; exact pk_us
          · rw [pk_un q]; exact i1 i hi
        · by_cases q : i = j + 1
          · subst q; exact pk_us
          · rw [pk_un q]; exact i2 i (by omega) hi2
  have nines : ∀ (j : Nat) (o2 : Nat → Int32), n < ct → ups d ct n = true → j ≤ n → ln9 d j = ln9 d n → (∀ i, i < j → o2 i = nI (d i)) → (∀ i, j ≤ i → i < n → o2 i = nI 0) → ax_V p l e (ax_rm 0) s m args below meth c D cid ad A 7 0 0 (MQ below Qc args s 0 0 A) 166 [(0, .ref 20), (1, .int (nI n)), (5, .int (nI j - 1))] [] (pc_Mo er le ma ou ta di wr at0 wi pr lf pl bl ha ze wt pt fr si zs (nI ct) po ++ pcD dd ++ pcO o2) := by
    intro j
    induction j with
    | zero =>
      intro o2 hnc hu hj h9 i1 i2
      have h90 : ln9 d n = 0 := h9.symm
      refine ax_iload G d_Mo_cut_166 rfl ?_
      refine ax_if_lt (tgt := 197) G d_Mo_cut_168 (by decide) (fun c_168 => ?_) (fun c_168 => ?_)
      · refine ax_iload G d_Mo_cut_197 rfl ?_
        refine ax_if_lt (tgt := 215) G d_Mo_cut_199 (by decide) (fun c_199 => ?_) (fun c_199 => ?_)
        · refine ax_iload_n G d_Mo_cut_215 rfl rfl ?_
          refine ax_istore G d_Mo_cut_216 (by decide) ?_
          exact shift n o2 _ hnc hu h90 (Nat.le_refl _) (fun i hi => i2 i (Nat.zero_le _) hi) (fun i hi hi2 => by omega) ⟨rfl, rfl, rfl, trivial⟩
        · exact absurd (by decide) c_199
      · exact absurd (by decide) c_168
    | succ j ih =>
      intro o2 hnc hu hj h9 i1 i2
      obtain ⟨-, hdj⟩ := hd j (by omega)
      rw [ln9_s] at h9
      rw [nI_pred]
      refine ax_iload G d_Mo_cut_166 rfl ?_
      refine ax_if_lt (tgt := 197) G d_Mo_cut_168 (by decide) (fun c_168 => ?_) (fun c_168 => ?_)
      · exact absurd c_168 (nI_pos (by omega))
      · refine ax_aload_n G d_Mo_cut_171 rfl rfl ?_
        refine ax_get (ci := 6) (j := 27) G d_Mo_cut_172 rfl rfl (by decide) k_Mo_36 rfl ?_
        refine ax_iload G d_Mo_cut_175 rfl ?_
        refine ax_iald G d_Mo_cut_177 rfl (vp_in_nI (by omega) (by decide)) ?_
        rw [nI_clamp (by omega), i1 j (by omega)]
        refine ax_bipush (v := 9) G d_Mo_cut_178 (by decide) ?_
        refine ax_icmp_ne (tgt := 197) G d_Mo_cut_180 (by decide) (fun c_180 => ?_) (fun c_180 => ?_)
        · have hlt : d j < 9 := by
            have : ¬ d j = 9 := fun q => c_180 (by rw [q]; rfl)
            omega
          rw [if_pos hlt] at h9
          have h9n : ¬ ln9 d n = 0 := by omega
          have eM : cutM d ct (n : Int) = false := cutM_no (fun q => h9n q.2.2)
          rw [eM] at E
          refine ax_iload G d_Mo_cut_197 rfl ?_
          refine ax_if_lt (tgt := 215) G d_Mo_cut_199 (by decide) (fun c_199 => ?_) (fun c_199 => ?_)
          · exact absurd c_199 (nI_pos (by omega))
          · refine ax_aload_n G d_Mo_cut_202 rfl rfl ?_
            refine ax_get (ci := 6) (j := 27) G d_Mo_cut_203 rfl rfl (by decide) k_Mo_36 rfl ?_
            refine ax_iload G d_Mo_cut_206 rfl ?_
            refine ax_dup2_11 G d_Mo_cut_208 rfl rfl ?_
            refine ax_iald G d_Mo_cut_209 rfl (vp_in_nI (by omega) (by decide)) ?_
            rw [nI_clamp (by omega), i1 j (by omega)]
            refine ax_iconst (v := 1) G d_Mo_cut_210 (by decide) ?_
            refine ax_iadd G d_Mo_cut_211 ?_
            rw [nI_1]
            refine ax_iast G d_Mo_cut_212 rfl (vp_in_nI (by omega) (by decide)) ?_
            rw [nI_clamp (by omega)]
            refine ax_iconst (v := 0) G d_Mo_cut_213 (by decide) ?_
            refine ax_zret G hr E rfl d_Mo_cut_214 rfl ⟨rfl, _, rfl, fun _ i hi => ?_⟩
            rw [cD_up1 hnc hu h9n, ← h9]
            have hi2 : i < n := hi
            by_cases q : i = j
            · subst q; rw [pk_us, if_pos (by omega), if_pos (by omega)]; rfl
            · rw [pk_un q]
              by_cases q2 : i < j
              · rw [if_pos (by omega), if_neg (by omega)]; exact i1 i (by omega)
              · rw [if_neg (by omega)]; exact i2 i (by omega) hi2
        · have h9j : d j = 9 := (nI_eq (b := 9) (by omega) (by decide)).mp c_180
          rw [if_neg (by omega)] at h9
          refine ax_aload_n G d_Mo_cut_183 rfl rfl ?_
          refine ax_get (ci := 6) (j := 27) G d_Mo_cut_184 rfl rfl (by decide) k_Mo_36 rfl ?_
          refine ax_iload G d_Mo_cut_187 rfl ?_
          refine ax_iincZ (z := (-1)) G d_Mo_cut_189 rfl (by decide) (by decide) ?_
          refine ax_iconst (v := 0) G d_Mo_cut_192 (by decide) ?_
          refine ax_iast G d_Mo_cut_193 rfl (vp_in_nI (by omega) (by decide)) ?_
          rw [nI_clamp (by omega)]
          refine ax_goto (tgt := 166) G d_Mo_cut_194 (by decide) ?_
          rw [addm1]
          refine ih _ hnc hu (by omega) h9 (fun i hi => ?_) (fun i hi hi2 => ?_)
          · rw [pk_un (by omega)]; exact i1 i (by omega)
          · by_cases q : i = j
            · subst q; exact pk_us
            · rw [pk_un q]; exact i2 i (by omega) hi2
  sorry

