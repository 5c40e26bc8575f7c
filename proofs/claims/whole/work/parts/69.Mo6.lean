/-! FormatDeskModel: cut -/
set_option maxRecDepth 20000 in
set_option maxHeartbeats 1000000 in
theorem ct_Mo_cut (l : Launch) (ct : Nat) (P x : Int32) (d : Nat → Nat) (dd oo : Nat → Int32) (er : Int32) (le : Int32) (ma : Int32) (ou : Int32) (ta : Int32) (di : Int32) (wr : Int32) (at0 : Int32) (wi : Int32) (pr : Int32) (lf : Bool) (pl : Bool) (bl : Bool) (ha : Bool) (ze : Bool) (wt : Bool) (pt : Bool) (fr : Int32) (si : Int32) (zs : Bool) (po : Int32) (hd : de_is dd ct d) (hct : ct ≤ 800) (hx : x.toInt ≤ 600) : ax_CT l y_Mo_cut c_Mo_cut 7 (some .boolean) 0 [.ref 20, .int x] (pc_Mo er le ma ou ta di wr at0 wi pr lf pl bl ha ze wt pt fr si zs (nI ct) po ++ pcD dd ++ pcO oo) (fun r h => r = some (.int (zb (cutM d ct x.toInt))) ∧ ∃ oo', h = pc_Mo er le ma ou ta di wr at0 wi pr lf pl bl ha ze wt pt fr si zs (nI ct) po ++ pcD dd ++ pcO oo' ∧ (0 ≤ x.toInt → ∀ i, i < x.toInt.toNat + (if cutM d ct x.toInt then 1 else 0) → oo' i = nI (cD d ct P x.toInt i))) := by
  refine ax_ofV (by decide) (Nat.le_of_ble_eq_true rfl) ?_
  intro p e s m args below meth c D cid ad A Qc G hr E
  by_cases hneg : x < 0
  · have hxi : x.toInt < 0 := (i32_lt _ _).mp hneg
    have eM : cutM d ct x.toInt = false := by unfold cutM; exact decide_eq_false (fun q => by omega)
    rw [eM] at E
    refine ax_iconst (v := 0) G d_Mo_cut_0 (by decide) ?_
    refine ax_istore_n G d_Mo_cut_1 rfl (by decide) ?_
    refine ax_iload_n G d_Mo_cut_2 rfl rfl ?_
    refine ax_iload_n G d_Mo_cut_3 rfl rfl ?_
    refine ax_icmp_ge (tgt := 37) G d_Mo_cut_4 (by decide) (fun c_4 => ?_) (fun c_4 => ?_)
    · refine ax_iload_n G d_Mo_cut_37 rfl rfl ?_
      refine ax_if_lt (tgt := 49) G d_Mo_cut_38 (by decide) (fun c_38 => ?_) (fun c_38 => ?_)
      · refine ax_iconst (v := 0) G d_Mo_cut_49 (by decide) ?_
        exact ax_zret G hr E rfl d_Mo_cut_50 rfl ⟨rfl, oo, rfl, fun q => by omega⟩
      · exact absurd hneg c_38
    · exact absurd (Int32.le_of_lt hneg) c_4
  obtain ⟨n, hn31, rfl⟩ := nI_of hneg
  have hxn : (nI n).toInt = (n : Int) := nI_toInt hn31
  rw [hxn] at hx E
  have hn6 : n ≤ 600 := by omega
  rw [show ((n : Int)).toNat = n by omega] at E
  have shift : ∀ (j : Nat) (o2 : Nat → Int32) (lv : List (Nat × Value)), n < ct → ups d ct n = true → ln9 d n = 0 → j ≤ n → (∀ i, i < n → o2 i = nI 0) → (∀ i, j < i → i ≤ n → o2 i = nI 0) → ax_lsb [(0, .ref 20), (1, .int (nI n)), (6, .int (nI j))] lv → ax_V p l e (ax_rm 0) s m args below meth c D cid ad A 7 0 0 (MQ below Qc args s 0 0 A) 218 lv [] (pc_Mo er le ma ou ta di wr at0 wi pr lf pl bl ha ze wt pt fr si zs (nI ct) po ++ pcD dd ++ pcO o2) := by
    intro j
    induction j with
    | zero =>
      intro o2 lv hnc hu h9 hj i1 i2 hlv
      have eM := cutM_yes hnc hu h9
      rw [eM] at E
      refine ax_less (lv' := [(0, .ref 20), (1, .int (nI n)), (6, .int (nI 0))]) ?_ hlv
      refine ax_iload G d_Mo_cut_218 rfl ?_
      refine ax_if_le (tgt := 245) G d_Mo_cut_220 (by decide) (fun c_220 => ?_) (fun c_220 => ?_)
      · refine ax_aload_n G d_Mo_cut_245 rfl rfl ?_
        refine ax_get (ci := 6) (j := 27) G d_Mo_cut_246 rfl rfl (by decide) k_Mo_36 rfl ?_
        refine ax_iconst (v := 0) G d_Mo_cut_249 (by decide) ?_
        refine ax_iconst (v := 1) G d_Mo_cut_250 (by decide) ?_
        refine ax_iast G d_Mo_cut_251 rfl (vp_in_nI (n := 0) (by decide) (by decide)) ?_
        refine ax_iconst (v := 1) G d_Mo_cut_252 (by decide) ?_
        refine ax_zret G hr E rfl d_Mo_cut_253 rfl ⟨rfl, _, rfl, fun _ i hi => ?_⟩
        rw [cD_up0 hnc hu h9]
        have hi2 : i < n + 1 := hi
        by_cases q : i = 0
        · subst q; exact pk_us
        · rw [if_neg q]
          show upd o2 0 1 i = _
          rw [pk_un q]
          by_cases q2 : i < n
          · exact i1 i q2
          · exact i2 i (by omega) (by omega)
      · exact absurd (Int32.le_refl _) c_220
    | succ j ih =>
      intro o2 lv hnc hu h9 hj i1 i2 hlv
      refine ax_less (lv' := [(0, .ref 20), (1, .int (nI n)), (6, .int (nI (j + 1)))]) ?_ hlv
      refine ax_iload G d_Mo_cut_218 rfl ?_
      refine ax_if_le (tgt := 245) G d_Mo_cut_220 (by decide) (fun c_220 => ?_) (fun c_220 => ?_)
      · exact absurd c_220 (nI_nle (by omega) (by omega))
      · refine ax_aload_n G d_Mo_cut_223 rfl rfl ?_
        refine ax_get (ci := 6) (j := 27) G d_Mo_cut_224 rfl rfl (by decide) k_Mo_36 rfl ?_
        refine ax_iload G d_Mo_cut_227 rfl ?_
        refine ax_aload_n G d_Mo_cut_229 rfl rfl ?_
        refine ax_get (ci := 6) (j := 27) G d_Mo_cut_230 rfl rfl (by decide) k_Mo_36 rfl ?_
        refine ax_iload G d_Mo_cut_233 rfl ?_
        refine ax_iconst (v := 1) G d_Mo_cut_235 (by decide) ?_
        refine ax_isub G d_Mo_cut_236 ?_
        rw [nI_pred]
        refine ax_iald G d_Mo_cut_237 rfl (vp_in_nI (by omega) (by decide)) ?_
        rw [nI_clamp (by omega), i1 j (by omega)]
        refine ax_iast G d_Mo_cut_238 rfl (vp_in_nI (by omega) (by decide)) ?_
        rw [nI_clamp (by omega)]
        refine ax_iincZ (z := (-1)) G d_Mo_cut_239 rfl (by decide) (by decide) ?_
        rw [pk_m1]
        refine ax_goto (tgt := 218) G d_Mo_cut_242 (by decide) ?_
        refine ih _ _ hnc hu h9 (by omega) (fun i hi => ?_) (fun i hi hi2 => ?_) ⟨rfl, rfl, rfl, trivial⟩
        · by_cases q : i = j + 1
          · subst q; exact pk_us
          · rw [pk_un q]; exact i1 i hi
        · by_cases q : i = j + 1
          · subst q; exact pk_us
          · rw [pk_un q]; exact i2 i (by omega) hi2
  have nines : ∀ (j : Nat) (o2 : Nat → Int32), n < ct → ups d ct n = true → j ≤ n → ln9 d j = ln9 d n → (∀ i, i < j → o2 i = nI (d i)) → (∀ i, j ≤ i → i < n → o2 i = nI 0) → ax_V p l e (ax_rm 0) s m args below meth c D cid ad A 7 0 0 (MQ below Qc args s 0 0 A) 166 [(0, .ref 20), (1, .int (nI n)), (5, .int (nI j - 1))] [] (pc_Mo er le ma ou ta di wr at0 wi pr lf pl bl ha ze wt pt fr si zs (nI ct) po ++ pcD dd ++ pcO o2) := by
    intro j
    induction j with
    | zero =>
      intro o2 hnc hu hj h9 i1 i2
      have h90 : ln9 d n = 0 := h9.symm
      refine ax_iload G d_Mo_cut_166 rfl ?_
      refine ax_if_lt (tgt := 197) G d_Mo_cut_168 (by decide) (fun c_168 => ?_) (fun c_168 => ?_)
      · refine ax_iload G d_Mo_cut_197 rfl ?_
        refine ax_if_lt (tgt := 215) G d_Mo_cut_199 (by decide) (fun c_199 => ?_) (fun c_199 => ?_)
        · refine ax_iload_n G d_Mo_cut_215 rfl rfl ?_
          refine ax_istore G d_Mo_cut_216 (by decide) ?_
          exact shift n o2 _ hnc hu h90 (Nat.le_refl _) (fun i hi => i2 i (Nat.zero_le _) hi) (fun i hi hi2 => by omega) ⟨rfl, rfl, rfl, trivial⟩
        · exact absurd (by decide) c_199
      · exact absurd (by decide) c_168
    | succ j ih =>
      intro o2 hnc hu hj h9 i1 i2
      obtain ⟨-, hdj⟩ := hd j (by omega)
      rw [ln9_s] at h9
      rw [nI_pred]
      refine ax_iload G d_Mo_cut_166 rfl ?_
      refine ax_if_lt (tgt := 197) G d_Mo_cut_168 (by decide) (fun c_168 => ?_) (fun c_168 => ?_)
      · exact absurd c_168 (nI_pos (by omega))
      · refine ax_aload_n G d_Mo_cut_171 rfl rfl ?_
        refine ax_get (ci := 6) (j := 27) G d_Mo_cut_172 rfl rfl (by decide) k_Mo_36 rfl ?_
        refine ax_iload G d_Mo_cut_175 rfl ?_
        refine ax_iald G d_Mo_cut_177 rfl (vp_in_nI (by omega) (by decide)) ?_
        rw [nI_clamp (by omega), i1 j (by omega)]
        refine ax_bipush (v := 9) G d_Mo_cut_178 (by decide) ?_
        refine ax_icmp_ne (tgt := 197) G d_Mo_cut_180 (by decide) (fun c_180 => ?_) (fun c_180 => ?_)
        · have hlt : d j < 9 := by
            have : ¬ d j = 9 := fun q => c_180 (by rw [q]; rfl)
            omega
          rw [if_pos hlt] at h9
          have h9n : ¬ ln9 d n = 0 := by omega
          have eM : cutM d ct (n : Int) = false := cutM_no (fun q => h9n q.2.2)
          rw [eM] at E
          refine ax_iload G d_Mo_cut_197 rfl ?_
          refine ax_if_lt (tgt := 215) G d_Mo_cut_199 (by decide) (fun c_199 => ?_) (fun c_199 => ?_)
          · exact absurd c_199 (nI_pos (by omega))
          · refine ax_aload_n G d_Mo_cut_202 rfl rfl ?_
            refine ax_get (ci := 6) (j := 27) G d_Mo_cut_203 rfl rfl (by decide) k_Mo_36 rfl ?_
            refine ax_iload G d_Mo_cut_206 rfl ?_
            refine ax_dup2_11 G d_Mo_cut_208 rfl rfl ?_
            refine ax_iald G d_Mo_cut_209 rfl (vp_in_nI (by omega) (by decide)) ?_
            rw [nI_clamp (by omega), i1 j (by omega)]
            refine ax_iconst (v := 1) G d_Mo_cut_210 (by decide) ?_
            refine ax_iadd G d_Mo_cut_211 ?_
            rw [nI_1]
            refine ax_iast G d_Mo_cut_212 rfl (vp_in_nI (by omega) (by decide)) ?_
            rw [nI_clamp (by omega)]
            refine ax_iconst (v := 0) G d_Mo_cut_213 (by decide) ?_
            refine ax_zret G hr E rfl d_Mo_cut_214 rfl ⟨rfl, _, rfl, fun _ i hi => ?_⟩
            rw [cD_up1 hnc hu h9n, ← h9]
            have hi2 : i < n := hi
            by_cases q : i = j
            · subst q; rw [pk_us, if_pos (by omega), if_pos (by omega)]; rfl
            · rw [pk_un q]
              by_cases q2 : i < j
              · rw [if_pos (by omega), if_neg (by omega)]; exact i1 i (by omega)
              · rw [if_neg (by omega)]; exact i2 i (by omega) hi2
        · have h9j : d j = 9 := (nI_eq (b := 9) (by omega) (by decide)).mp c_180
          rw [if_neg (by omega)] at h9
          refine ax_aload_n G d_Mo_cut_183 rfl rfl ?_
          refine ax_get (ci := 6) (j := 27) G d_Mo_cut_184 rfl rfl (by decide) k_Mo_36 rfl ?_
          refine ax_iload G d_Mo_cut_187 rfl ?_
          refine ax_iincZ (z := (-1)) G d_Mo_cut_189 rfl (by decide) (by decide) ?_
          refine ax_iconst (v := 0) G d_Mo_cut_192 (by decide) ?_
          refine ax_iast G d_Mo_cut_193 rfl (vp_in_nI (by omega) (by decide)) ?_
          rw [nI_clamp (by omega)]
          refine ax_goto (tgt := 166) G d_Mo_cut_194 (by decide) ?_
          rw [addm1]
          refine ih _ hnc hu (by omega) h9 (fun i hi => ?_) (fun i hi hi2 => ?_)
          · rw [pk_un (by omega)]; exact i1 i (by omega)
          · by_cases q : i = j
            · subst q; exact pk_us
            · rw [pk_un q]; exact i2 i (by omega) hi2
  have fin : ∀ (o2 : Nat → Int32) (hf ab : Bool), n < ct → (∀ i, i < n → o2 i = nI (d i)) → hf = decide (d n = 5 ∧ lnz d ct ≤ n + 1) → ab = decide (5 < d n ∨ (d n = 5 ∧ ¬ lnz d ct ≤ n + 1)) → ∀ kk : Int32, ax_V p l e (ax_rm 0) s m args below meth c D cid ad A 7 0 0 (MQ below Qc args s 0 0 A) 121 [(0, .ref 20), (1, .int (nI n)), (2, .int (zb hf)), (3, .int (zb ab)), (4, .int kk)] [] (pc_Mo er le ma ou ta di wr at0 wi pr lf pl bl ha ze wt pt fr si zs (nI ct) po ++ pcD dd ++ pcO o2) := by
    intro o2 hf ab hnc hz hhf hab kk
    have yes : ups d ct n = true → ax_V p l e (ax_rm 0) s m args below meth c D cid ad A 7 0 0 (MQ below Qc args s 0 0 A) 147 [(0, .ref 20), (1, .int (nI n)), (2, .int (zb hf)), (3, .int (zb ab)), (4, .int kk)] [] (pc_Mo er le ma ou ta di wr at0 wi pr lf pl bl ha ze wt pt fr si zs (nI ct) po ++ pcD dd ++ pcO o2) := by
      intro hu
      refine ax_iconst (v := 1) G d_Mo_cut_147 (by decide) ?_
      refine ax_goto (tgt := 152) G d_Mo_cut_148 (by decide) ?_
      refine ax_istore G d_Mo_cut_152 (by decide) ?_
      refine ax_iload G d_Mo_cut_154 rfl ?_
      refine ax_if_ne (tgt := 161) G d_Mo_cut_156 (by decide) (fun c_156 => ?_) (fun c_156 => ?_)
      · refine ax_iload_n G d_Mo_cut_161 rfl rfl ?_
        refine ax_iconst (v := 1) G d_Mo_cut_162 (by decide) ?_
        refine ax_isub G d_Mo_cut_163 ?_
        refine ax_istore G d_Mo_cut_164 (by decide) ?_
        exact ax_less (lv' := [(0, .ref 20), (1, .int (nI n)), (5, .int (nI n - 1))]) (nines n o2 hnc hu (Nat.le_refl _) rfl hz (fun i hi hi2 => by omega)) ⟨rfl, rfl, rfl, trivial⟩
      · exact absurd c_156 (by decide)
    have no : ¬ ups d ct n = true → ax_V p l e (ax_rm 0) s m args below meth c D cid ad A 7 0 0 (MQ below Qc args s 0 0 A) 151 [(0, .ref 20), (1, .int (nI n)), (2, .int (zb hf)), (3, .int (zb ab)), (4, .int kk)] [] (pc_Mo er le ma ou ta di wr at0 wi pr lf pl bl ha ze wt pt fr si zs (nI ct) po ++ pcD dd ++ pcO o2) := by
      intro hu
      have eM : cutM d ct (n : Int) = false := cutM_no (fun q => hu q.2.1)
      rw [eM] at E
      refine ax_iconst (v := 0) G d_Mo_cut_151 (by decide) ?_
      refine ax_istore G d_Mo_cut_152 (by decide) ?_
      refine ax_iload G d_Mo_cut_154 rfl ?_
      refine ax_if_ne (tgt := 161) G d_Mo_cut_156 (by decide) (fun c_156 => ?_) (fun c_156 => ?_)
      · exact absurd rfl c_156
      · refine ax_iconst (v := 0) G d_Mo_cut_159 (by decide) ?_
        refine ax_zret G hr E rfl d_Mo_cut_160 rfl ⟨rfl, o2, rfl, fun _ i hi => ?_⟩
        rw [cD_no hnc hu i hi]
        exact hz i hi
    have hU : ups d ct n = (ab || (hf && decide (0 < n ∧ d (n - 1) % 2 = 1))) := by
      unfold ups
      rw [hhf, hab]
      by_cases q1 : d n = 5 ∧ lnz d ct ≤ n + 1
      · rw [if_pos q1, decide_eq_true q1, decide_eq_false (p := 5 < d n ∨ d n = 5 ∧ ¬ lnz d ct ≤ n + 1) (by omega)]; rfl
      · rw [if_neg q1, decide_eq_false q1]
        simp only [Bool.false_and, Bool.or_false]
        exact decide_eq_decide.mpr (by omega)
    cases ab with
    | true =>
      refine ax_iload_n G d_Mo_cut_121 rfl rfl ?_
      refine ax_if_ne (tgt := 147) G d_Mo_cut_122 (by decide) (fun c_122 => ?_) (fun c_122 => ?_)
      · exact yes (by rw [hU]; rfl)
      · exact absurd c_122 (by decide)
    | false =>
      refine ax_iload_n G d_Mo_cut_121 rfl rfl ?_
      refine ax_if_ne (tgt := 147) G d_Mo_cut_122 (by decide) (fun c_122 => ?_) (fun c_122 => ?_)
      · exact absurd rfl c_122
      · cases hf with
        | false =>
          refine ax_iload_n G d_Mo_cut_125 rfl rfl ?_
          refine ax_if_eq (tgt := 151) G d_Mo_cut_126 (by decide) (fun c_126 => ?_) (fun c_126 => ?_)
          · exact no (by rw [hU]; simp)
          · exact absurd rfl c_126
        | true =>
          refine ax_iload_n G d_Mo_cut_125 rfl rfl ?_
          refine ax_if_eq (tgt := 151) G d_Mo_cut_126 (by decide) (fun c_126 => ?_) (fun c_126 => ?_)
          · exact absurd c_126 (by decide)
          · refine ax_iload_n G d_Mo_cut_129 rfl rfl ?_
            refine ax_if_le (tgt := 151) G d_Mo_cut_130 (by decide) (fun c_130 => ?_) (fun c_130 => ?_)
            · have hn0 : n = 0 := by
                rcases Nat.eq_zero_or_pos n with q | q
                · exact q
                · exact absurd c_130 (nI_nle q (by omega))
              exact no (by rw [hU, decide_eq_false (by omega)]; simp)
            · have hn0 : 0 < n := by
                rcases Nat.eq_zero_or_pos n with q | q
                · exact absurd (by rw [q]; exact Int32.le_refl _) c_130
                · exact q
              obtain ⟨-, hdl⟩ := hd (n - 1) (by omega)
              refine ax_aload_n G d_Mo_cut_133 rfl rfl ?_
              refine ax_get (ci := 6) (j := 27) G d_Mo_cut_134 rfl rfl (by decide) k_Mo_36 rfl ?_
              refine ax_iload_n G d_Mo_cut_137 rfl rfl ?_
              refine ax_iconst (v := 1) G d_Mo_cut_138 (by decide) ?_
              refine ax_isub G d_Mo_cut_139 ?_
              rw [show nI n - 1 = nI n - nI 1 from rfl, pk_sub (by omega)]
              refine ax_iald G d_Mo_cut_140 rfl (vp_in_nI (by omega) (by decide)) ?_
              rw [nI_clamp (by omega), hz (n - 1) (by omega)]
              refine ax_iconst (v := 2) G d_Mo_cut_141 (by decide) ?_
              rw [show (2 : Int32) = nI 2 from rfl]
              refine ax_irem G d_Mo_cut_142 (by decide) ?_
              rw [pk_rem (by omega) (by decide) (by decide)]
              refine ax_iconst (v := 1) G d_Mo_cut_143 (by decide) ?_
              refine ax_icmp_ne (tgt := 151) G d_Mo_cut_144 (by decide) (fun c_144 => ?_) (fun c_144 => ?_)
              · have hne : ¬ d (n - 1) % 2 = 1 := fun q => c_144 (by rw [q]; rfl)
                exact no (by rw [hU, decide_eq_false (by omega)]; simp)
              · have heq : d (n - 1) % 2 = 1 := (nI_eq (b := 1) (by omega) (by decide)).mp c_144
                exact yes (by rw [hU, decide_eq_true ⟨hn0, heq⟩]; rfl)
  have zer : ∀ (q k : Nat) (o2 : Nat → Int32) (h a : Bool), n < ct → (∀ i, i < n → o2 i = nI (d i)) → ct ≤ k + q → n + 1 ≤ k → k ≤ ct + 1 → (h = true → d n = 5 ∧ (∀ j, n + 1 ≤ j → j < k → d j = 0) ∧ a = false) → (h = false → a = decide (5 < d n ∨ (d n = 5 ∧ ¬ lnz d ct ≤ n + 1)) ∧ decide (d n = 5 ∧ lnz d ct ≤ n + 1) = false) → ax_V p l e (ax_rm 0) s m args below meth c D cid ad A 7 0 0 (MQ below Qc args s 0 0 A) 88 [(0, .ref 20), (1, .int (nI n)), (2, .int (zb h)), (3, .int (zb a)), (4, .int (nI k))] [] (pc_Mo er le ma ou ta di wr at0 wi pr lf pl bl ha ze wt pt fr si zs (nI ct) po ++ pcD dd ++ pcO o2) := by
    intro q
    have out : ∀ (k : Nat) (o2 : Nat → Int32) (h a : Bool), n < ct → (∀ i, i < n → o2 i = nI (d i)) → (ct ≤ k ∨ h = false) → (h = true → d n = 5 ∧ (∀ j, n + 1 ≤ j → j < k → d j = 0) ∧ a = false) → (h = false → a = decide (5 < d n ∨ (d n = 5 ∧ ¬ lnz d ct ≤ n + 1)) ∧ decide (d n = 5 ∧ lnz d ct ≤ n + 1) = false) → ax_V p l e (ax_rm 0) s m args below meth c D cid ad A 7 0 0 (MQ below Qc args s 0 0 A) 121 [(0, .ref 20), (1, .int (nI n)), (2, .int (zb h)), (3, .int (zb a)), (4, .int (nI k))] [] (pc_Mo er le ma ou ta di wr at0 wi pr lf pl bl ha ze wt pt fr si zs (nI ct) po ++ pcD dd ++ pcO o2) := by
      intro k o2 h a hnc hz hk g1 g2
      cases h with
      | false =>
        obtain ⟨e1, e2⟩ := g2 rfl
        exact fin o2 false a hnc hz e2.symm e1 (nI k)
      | true =>
        obtain ⟨e1, e2, e3⟩ := g1 rfl
        have hk2 : ct ≤ k := by
          rcases hk with q | q
          · exact q
          · cases q
        have hl : lnz d ct ≤ n + 1 := (lnz_iff d (n + 1) ct).mpr (fun j h1 h2 => e2 j h1 (by omega))
        exact fin o2 true a hnc hz (decide_eq_true ⟨e1, hl⟩).symm (by rw [e3, decide_eq_false (by omega)]) (nI k)
    induction q with
    | zero =>
      intro k o2 h a hnc hz hk hk1 hk2 g1 g2
      refine ax_iload G d_Mo_cut_88 rfl ?_
      refine ax_aload_n G d_Mo_cut_90 rfl rfl ?_
      refine ax_get (ci := 6) (j := 28) G d_Mo_cut_91 rfl rfl (by decide) k_Mo_191 rfl ?_
      refine ax_icmp_ge (tgt := 121) G d_Mo_cut_94 (by decide) (fun c_94 => ?_) (fun c_94 => ?_)
      · exact out k o2 h a hnc hz (Or.inl (by omega)) g1 g2
      · exact absurd (nI_le (by omega) (by omega)) c_94
    | succ q ih =>
      intro k o2 h a hnc hz hk hk1 hk2 g1 g2
      refine ax_iload G d_Mo_cut_88 rfl ?_
      refine ax_aload_n G d_Mo_cut_90 rfl rfl ?_
      refine ax_get (ci := 6) (j := 28) G d_Mo_cut_91 rfl rfl (by decide) k_Mo_191 rfl ?_
      refine ax_icmp_ge (tgt := 121) G d_Mo_cut_94 (by decide) (fun c_94 => ?_) (fun c_94 => ?_)
      · have hge : ct ≤ k := (nI_leI (by omega) (by omega)).mp c_94
        exact out k o2 h a hnc hz (Or.inl hge) g1 g2
      · have hlt : ¬ ct ≤ k := fun z => c_94 (nI_le z (by omega))
        cases h with
        | false =>
          refine ax_iload_n G d_Mo_cut_97 rfl rfl ?_
          refine ax_if_eq (tgt := 121) G d_Mo_cut_98 (by decide) (fun c_98 => ?_) (fun c_98 => ?_)
          · exact out k o2 false a hnc hz (Or.inr rfl) g1 g2
          · exact absurd rfl c_98
        | true =>
          obtain ⟨e1, e2, e3⟩ := g1 rfl
          obtain ⟨e4, e5⟩ := hd k (by omega)
          refine ax_iload_n G d_Mo_cut_97 rfl rfl ?_
          refine ax_if_eq (tgt := 121) G d_Mo_cut_98 (by decide) (fun c_98 => ?_) (fun c_98 => ?_)
          · exact absurd c_98 (by decide)
          · refine ax_aload_n G d_Mo_cut_101 rfl rfl ?_
            refine ax_get (ci := 6) (j := 26) G d_Mo_cut_102 rfl rfl (by decide) k_Mo_33 rfl ?_
            refine ax_iload G d_Mo_cut_105 rfl ?_
            refine ax_iald G d_Mo_cut_107 rfl (vp_in_nI (by omega) (by decide)) ?_
            rw [nI_clamp (by omega), e4]
            refine ax_if_eq (tgt := 115) G d_Mo_cut_108 (by decide) (fun c_108 => ?_) (fun c_108 => ?_)
            · have h0 : d k = 0 := by
                rcases Nat.eq_zero_or_pos (d k) with z | z
                · exact z
                · exact absurd c_108 (nI_ne0 z (by omega))
              refine ax_iincZ (z := 1) G d_Mo_cut_115 rfl (by decide) (by decide) ?_
              refine ax_goto (tgt := 88) G d_Mo_cut_118 (by decide) ?_
              rw [nI_1]
              exact ih (k + 1) o2 true a hnc hz (by omega) (by omega) (by omega) (fun _ => ⟨e1, fun j h1 h2 => by
                by_cases hjk : j = k
                · subst hjk; exact h0
                · exact e2 j h1 (by omega), e3⟩) (fun z => by cases z)
            · have h0 : ¬ d k = 0 := fun z => c_108 (by rw [z]; rfl)
              have hl : ¬ lnz d ct ≤ n + 1 := fun z => h0 ((lnz_iff d (n + 1) ct).mp z k hk1 (by omega))
              refine ax_iconst (v := 0) G d_Mo_cut_111 (by decide) ?_
              refine ax_istore_n G d_Mo_cut_112 rfl (by decide) ?_
              refine ax_iconst (v := 1) G d_Mo_cut_113 (by decide) ?_
              refine ax_istore_n G d_Mo_cut_114 rfl (by decide) ?_
              refine ax_iincZ (z := 1) G d_Mo_cut_115 rfl (by decide) (by decide) ?_
              refine ax_goto (tgt := 88) G d_Mo_cut_118 (by decide) ?_
              rw [nI_1]
              exact ih (k + 1) o2 false true hnc hz (by omega) (by omega) (by omega) (fun z => by cases z) (fun _ => ⟨(decide_eq_true (Or.inr ⟨e1, hl⟩)).symm, decide_eq_false (fun z => hl z.2)⟩)
  have after : ∀ (o2 : Nat → Int32), (∀ i, i < n → o2 i = nI (dAt d ct i)) → ax_V p l e (ax_rm 0) s m args below meth c D cid ad A 7 0 0 (MQ below Qc args s 0 0 A) 37 [(0, .ref 20), (1, .int (nI n)), (2, .int (nI n))] [] (pc_Mo er le ma ou ta di wr at0 wi pr lf pl bl ha ze wt pt fr si zs (nI ct) po ++ pcD dd ++ pcO o2) := by
    intro o2 hz
    refine ax_iload_n G d_Mo_cut_37 rfl rfl ?_
    refine ax_if_lt (tgt := 49) G d_Mo_cut_38 (by decide) (fun c_38 => ?_) (fun c_38 => ?_)
    · exact absurd c_38 (nI_pos (by omega))
    · refine ax_iload_n G d_Mo_cut_41 rfl rfl ?_
      refine ax_aload_n G d_Mo_cut_42 rfl rfl ?_
      refine ax_get (ci := 6) (j := 28) G d_Mo_cut_43 rfl rfl (by decide) k_Mo_191 rfl ?_
      refine ax_icmp_lt (tgt := 51) G d_Mo_cut_46 (by decide) (fun c_46 => ?_) (fun c_46 => ?_)
      · have hnc : n < ct := (nI_ltI (by omega) (by omega)).mp c_46
        obtain ⟨e4, e5⟩ := hd n hnc
        have hz2 : ∀ i, i < n → o2 i = nI (d i) := fun i hi => by rw [hz i hi, dAt_n, if_pos (by omega)]
        have two : ∀ h a : Bool, h = decide (d n = 5) → a = decide (5 < d n) → ax_V p l e (ax_rm 0) s m args below meth c D cid ad A 7 0 0 (MQ below Qc args s 0 0 A) 83 [(0, .ref 20), (1, .int (nI n)), (2, .int (zb h)), (3, .int (zb a))] [] (pc_Mo er le ma ou ta di wr at0 wi pr lf pl bl ha ze wt pt fr si zs (nI ct) po ++ pcD dd ++ pcO o2) := by
          intro h a hh ha
          refine ax_iload_n G d_Mo_cut_83 rfl rfl ?_
          refine ax_iconst (v := 1) G d_Mo_cut_84 (by decide) ?_
          refine ax_iadd G d_Mo_cut_85 ?_
          rw [nI_1]
          refine ax_istore G d_Mo_cut_86 (by decide) ?_
          refine zer ct (n + 1) o2 h a hnc hz2 (by omega) (Nat.le_refl _) (by omega) (fun z => ?_) (fun z => ?_)
          · rw [z] at hh
            have h5 := of_decide_eq_true hh.symm
            exact ⟨h5, fun j h1 h2 => by omega, by rw [ha, decide_eq_false (by omega)]⟩
          · rw [z] at hh
            have h5 := of_decide_eq_false hh.symm
            exact ⟨by rw [ha]; exact decide_eq_decide.mpr (by omega), decide_eq_false (by omega)⟩
        have one : ∀ h : Bool, h = decide (d n = 5) → ax_V p l e (ax_rm 0) s m args below meth c D cid ad A 7 0 0 (MQ below Qc args s 0 0 A) 67 [(0, .ref 20), (1, .int (nI n)), (2, .int (zb h))] [] (pc_Mo er le ma ou ta di wr at0 wi pr lf pl bl ha ze wt pt fr si zs (nI ct) po ++ pcD dd ++ pcO o2) := by
          intro h hh
          refine ax_aload_n G d_Mo_cut_67 rfl rfl ?_
          refine ax_get (ci := 6) (j := 26) G d_Mo_cut_68 rfl rfl (by decide) k_Mo_33 rfl ?_
          refine ax_iload_n G d_Mo_cut_71 rfl rfl ?_
          refine ax_iald G d_Mo_cut_72 rfl (vp_in_nI (by omega) (by decide)) ?_
          rw [nI_clamp (by omega), e4]
          refine ax_iconst (v := 5) G d_Mo_cut_73 (by decide) ?_
          refine ax_icmp_le (tgt := 81) G d_Mo_cut_74 (by decide) (fun c_74 => ?_) (fun c_74 => ?_)
          · have h5 : d n ≤ 5 := (nI_leI (b := 5) (by omega) (by decide)).mp c_74
            refine ax_iconst (v := 0) G d_Mo_cut_81 (by decide) ?_
            refine ax_istore_n G d_Mo_cut_82 rfl (by decide) ?_
            exact two h false hh (decide_eq_false (by omega)).symm
          · have h5 : ¬ d n ≤ 5 := fun z => c_74 ((nI_leI (b := 5) (by omega) (by decide)).mpr z)
            refine ax_iconst (v := 1) G d_Mo_cut_77 (by decide) ?_
            refine ax_goto (tgt := 82) G d_Mo_cut_78 (by decide) ?_
            refine ax_istore_n G d_Mo_cut_82 rfl (by decide) ?_
            exact two h true hh (decide_eq_true (by omega)).symm
        refine ax_aload_n G d_Mo_cut_51 rfl rfl ?_
        refine ax_get (ci := 6) (j := 26) G d_Mo_cut_52 rfl rfl (by decide) k_Mo_33 rfl ?_
        refine ax_iload_n G d_Mo_cut_55 rfl rfl ?_
        refine ax_iald G d_Mo_cut_56 rfl (vp_in_nI (by omega) (by decide)) ?_
        rw [nI_clamp (by omega), e4]
        refine ax_iconst (v := 5) G d_Mo_cut_57 (by decide) ?_
        refine ax_icmp_ne (tgt := 65) G d_Mo_cut_58 (by decide) (fun c_58 => ?_) (fun c_58 => ?_)
        · have h5 : ¬ d n = 5 := fun z => c_58 (by rw [z]; rfl)
          refine ax_iconst (v := 0) G d_Mo_cut_65 (by decide) ?_
          refine ax_istore_n G d_Mo_cut_66 rfl (by decide) ?_
          exact one false (decide_eq_false h5).symm
        · have h5 : d n = 5 := (nI_eq (b := 5) (by omega) (by decide)).mp c_58
          refine ax_iconst (v := 1) G d_Mo_cut_61 (by decide) ?_
          refine ax_goto (tgt := 66) G d_Mo_cut_62 (by decide) ?_
          refine ax_istore_n G d_Mo_cut_66 rfl (by decide) ?_
          exact one true (decide_eq_true h5).symm
      · have hnc : ¬ n < ct := fun z => c_46 ((nI_ltI (by omega) (by omega)).mpr z)
        have eM : cutM d ct (n : Int) = false := cutM_no (fun q => hnc q.1)
        rw [eM] at E
        refine ax_iconst (v := 0) G d_Mo_cut_49 (by decide) ?_
        refine ax_zret G hr E rfl d_Mo_cut_50 rfl ⟨rfl, o2, rfl, fun _ i hi => ?_⟩
        rw [cD_ge (by omega)]
        exact hz i hi
  have first : ∀ (q k : Nat) (o2 : Nat → Int32), k + q = n → (∀ i, i < k → o2 i = nI (dAt d ct i)) → ax_V p l e (ax_rm 0) s m args below meth c D cid ad A 7 0 0 (MQ below Qc args s 0 0 A) 2 [(0, .ref 20), (1, .int (nI n)), (2, .int (nI k))] [] (pc_Mo er le ma ou ta di wr at0 wi pr lf pl bl ha ze wt pt fr si zs (nI ct) po ++ pcD dd ++ pcO o2) := by
    intro q
    induction q with
    | zero =>
      intro k o2 hk hz
      have ek : k = n := by omega
      subst ek
      refine ax_iload_n G d_Mo_cut_2 rfl rfl ?_
      refine ax_iload_n G d_Mo_cut_3 rfl rfl ?_
      refine ax_icmp_ge (tgt := 37) G d_Mo_cut_4 (by decide) (fun c_4 => ?_) (fun c_4 => ?_)
      · exact after o2 hz
      · exact absurd (nI_le (Nat.le_refl _) (by omega)) c_4
    | succ q ih =>
      intro k o2 hk hz
      have hs : ∀ i, i < k + 1 → upd o2 k (nI (dAt d ct k)) i = nI (dAt d ct i) := by
        intro i hi
        by_cases hik : i = k
        · subst hik; exact pk_us
        · rw [pk_un hik]; exact hz i (by omega)
      refine ax_iload_n G d_Mo_cut_2 rfl rfl ?_
      refine ax_iload_n G d_Mo_cut_3 rfl rfl ?_
      refine ax_icmp_ge (tgt := 37) G d_Mo_cut_4 (by decide) (fun c_4 => ?_) (fun c_4 => ?_)
      · exact absurd c_4 (nI_ge (by omega) (by omega))
      · refine ax_aload_n G d_Mo_cut_7 rfl rfl ?_
        refine ax_get (ci := 6) (j := 27) G d_Mo_cut_8 rfl rfl (by decide) k_Mo_36 rfl ?_
        refine ax_iload_n G d_Mo_cut_11 rfl rfl ?_
        refine ax_iload_n G d_Mo_cut_12 rfl rfl ?_
        refine ax_aload_n G d_Mo_cut_13 rfl rfl ?_
        refine ax_get (ci := 6) (j := 28) G d_Mo_cut_14 rfl rfl (by decide) k_Mo_191 rfl ?_
        refine ax_icmp_ge (tgt := 29) G d_Mo_cut_17 (by decide) (fun c_17 => ?_) (fun c_17 => ?_)
        · have hge : ct ≤ k := (nI_leI (by omega) (by omega)).mp c_17
          have e0 : dAt d ct k = 0 := by rw [dAt_n, if_neg (by omega)]
          refine ax_iconst (v := 0) G d_Mo_cut_29 (by decide) ?_
          refine ax_iast G d_Mo_cut_30 rfl (vp_in_nI (by omega) (by decide)) ?_
          rw [nI_clamp (by omega)]
          refine ax_iincZ (z := 1) G d_Mo_cut_31 rfl (by decide) (by decide) ?_
          refine ax_goto (tgt := 2) G d_Mo_cut_34 (by decide) ?_
          rw [nI_1]
          exact ih (k + 1) _ (by omega) (by rw [e0] at hs; exact hs)
        · have hlt : ¬ ct ≤ k := fun z => c_17 (nI_le z (by omega))
          have e0 : dAt d ct k = d k := by rw [dAt_n, if_pos (by omega)]
          refine ax_aload_n G d_Mo_cut_20 rfl rfl ?_
          refine ax_get (ci := 6) (j := 26) G d_Mo_cut_21 rfl rfl (by decide) k_Mo_33 rfl ?_
          refine ax_iload_n G d_Mo_cut_24 rfl rfl ?_
          refine ax_iald G d_Mo_cut_25 rfl (vp_in_nI (by omega) (by decide)) ?_
          rw [nI_clamp (by omega), (hd k (by omega)).1]
          refine ax_goto (tgt := 30) G d_Mo_cut_26 (by decide) ?_
          refine ax_iast G d_Mo_cut_30 rfl (vp_in_nI (by omega) (by decide)) ?_
          rw [nI_clamp (by omega)]
          refine ax_iincZ (z := 1) G d_Mo_cut_31 rfl (by decide) (by decide) ?_
          refine ax_goto (tgt := 2) G d_Mo_cut_34 (by decide) ?_
          rw [nI_1]
          exact ih (k + 1) _ (by omega) (by rw [e0] at hs; exact hs)
  refine ax_iconst (v := 0) G d_Mo_cut_0 (by decide) ?_
  refine ax_istore_n G d_Mo_cut_1 rfl (by decide) ?_
  exact first n 0 oo (by omega) (fun i hi => absurd hi (Nat.not_lt_zero i))

