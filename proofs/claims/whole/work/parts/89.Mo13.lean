/-! FormatDeskModel: general -/
set_option maxRecDepth 20000 in
set_option maxHeartbeats 1000000 in
theorem ct_Mo_general (l : Launch) (pz ct k : Nat) (gr : Bool) (po : Int32) (d : Nat → Nat) (dd oo bf : Nat → Int32) (er : Int32) (le : Int32) (ma : Int32) (ou : Int32) (ta : Int32) (di : Int32) (wr : Int32) (at0 : Int32) (wi : Int32) (pr : Int32) (lf : Bool) (pl : Bool) (bl : Bool) (ha : Bool) (ze : Bool) (wt : Bool) (pt : Bool) (fr : Int32) (zs : Bool) (hd : de_is dd ct d) (hct : ct ≤ 800) (hp : pz ≤ 200) (hpo : -330 ≤ po.toInt ∧ po.toInt ≤ 310 ∨ ct = 0 ∧ po.toInt = -1074) (h0 : ct = 0 → po.toInt ≤ 1) (hk : k = if pz = 0 then 1 else pz) : ax_CT l y_Mo_general c_Mo_general 10 none 3 [.ref 20, .int (nI pz), .int (zb gr)] (pc_Mo er le ma ou ta di wr at0 wi pr lf pl bl ha ze wt pt fr (nI 0) zs (nI ct) po ++ pcD dd ++ pcO oo ++ pcB bf) (fun r h => r = none ∧ ∃ oo' bf', h = pc_Mo er le ma ou ta di wr at0 wi pr lf pl bl ha ze wt pt fr (nI (pcG gr (gS (rz d ct po k).1 (rz d ct po k).2.1 (rz d ct po k).2.2.toInt k ha)).length) zs (nI ct) po ++ pcD dd ++ pcO oo' ++ pcB bf' ∧ mi_is bf' (pcG gr (gS (rz d ct po k).1 (rz d ct po k).2.1 (rz d ct po k).2.2.toInt k ha))) := by
  refine ax_ofV (by decide) (Nat.le_of_ble_eq_true rfl) ?_
  intro p e s m args below meth c D cid ad A Qc G hr E
  have hk0 : 0 < k := by rw [hk]; split <;> omega
  have hk2 : k ≤ 200 := by rw [hk]; split <;> omega
  have hpb : -1200 ≤ po.toInt ∧ po.toInt ≤ 310 := by omega
  have hd10 : ∀ i, i < ct → d i < 10 := fun i hi => (hd i hi).2
  have hlt := rz_lt hd10 po k
  have hN := rz_N (d := d) (ct := ct) (po := po) hk0
  have hRb := rz_b (d := d) (ct := ct) (k := k) hpb
  have hxp := xpo_rz (d := d) (ct := ct) (po := po) hk0
  have hfx := fun (b : Nat) (h : (b : Int) = (k : Int) - (rz d ct po k).2.2.toInt) => fix_rz (d := d) (ct := ct) (po := po) (b := b) (ha := ha) hk0 (by omega) h0 h
  have hcD : ct ≠ 0 → ∀ i, cD d ct po (((k - 1 : Nat) : Int) + 1) i = dAt (rz d ct po k).1 (rz d ct po k).2.1 (i : Int) := by
    intro hc i
    unfold cD rz
    rw [if_neg hc, show ((k - 1 : Nat) : Int) + 1 = (k : Int) by omega]
  have hlo : ct ≠ 0 → -330 ≤ (rz d ct po k).2.2.toInt := by
    intro hc
    unfold rz
    rw [if_neg hc]
    exact (rnd_ptb d ct po _ (-330) (by omega) (by omega) (by decide) (by decide)).1
  have hrz0 : ct = 0 → (rz d ct po k).2.2 = 1 := by
    intro hc
    unfold rz
    rw [if_pos hc]
  generalize rz d ct po k = R at hlt hN hRb hxp hfx hcD hlo hrz0 E
  obtain ⟨D2, N, P⟩ := R
  dsimp only at hlt hN hRb hxp hfx hcD hlo hrz0 E
  have hxt : (xpo d ct po (k - 1)).toInt = P.toInt - 1 := by
    have h1 : (1 : Int32).toInt = 1 := rfl
    rw [hxp, i32_sub _ _ (by omega) (by rw [h1]; omega), h1]
  generalize hT : pcG gr (gS D2 N P.toInt k ha) = T at E
  -- behind the zeros: the rest comes nearer
  have mov : ∀ (ez : Nat) (X Tl : List Nat) (b2 o2 : Nat → Int32) (lv : List (Nat × Value)), X.length ≤ ez → ez + Tl.length ≤ 1000 → mi_is b2 X → (∀ i, i < Tl.length → b2 (ez + i) = nI (Tl.getD i 0) ∧ Tl.getD i 0 < 256) → T = X ++ Tl → ax_lsb [(0, .ref 20), (6, .int (nI ez)), (8, .int (nI X.length))] lv → ax_V p l e (ax_rm 3) s m args below meth c D cid ad A 10 0 0 (MQ below Qc args s 0 0 A) 194 lv [] (pc_Mo er le ma ou ta di wr at0 wi pr lf pl bl ha ze wt pt fr (nI (ez + Tl.length)) zs (nI ct) po ++ pcD dd ++ pcO o2 ++ pcB b2) := by
    intro ez X Tl b2 o2 lv hX hez hb hTl hT1 hlv
    refine ax_less (lv' := [(0, .ref 20), (6, .int (nI ez)), (8, .int (nI X.length))]) ?_ hlv
    have loop : ∀ (q j : Nat) (b3 : Nat → Int32), j + q = Tl.length → mi_is b3 (X ++ Tl.take j) → (∀ i, j ≤ i → i < Tl.length → b3 (ez + i) = nI (Tl.getD i 0) ∧ Tl.getD i 0 < 256) → ax_V p l e (ax_rm 3) s m args below meth c D cid ad A 10 0 0 (MQ below Qc args s 0 0 A) 198 [(0, .ref 20), (6, .int (nI ez)), (8, .int (nI X.length)), (9, .int (nI (ez + j)))] [] (pc_Mo er le ma ou ta di wr at0 wi pr lf pl bl ha ze wt pt fr (nI (ez + Tl.length)) zs (nI ct) po ++ pcD dd ++ pcO o2 ++ pcB b3) := by
      intro q
      induction q with
      | zero =>
        intro j b3 hj hb3 h3
        have ej : j = Tl.length := by omega
        subst ej
        rw [List.take_length] at hb3
        refine ax_iload G d_Mo_general_198 rfl ?_
        refine ax_aload_n G d_Mo_general_200 rfl rfl ?_
        refine ax_get (ci := 6) (j := 23) G d_Mo_general_201 rfl rfl (by decide) k_Mo_156 rfl ?_
        refine ax_icmp_ge (tgt := 233) G d_Mo_general_204 (by decide) (fun c_204 => ?_) (fun c_204 => ?_)
        · refine ax_aload_n G d_Mo_general_233 rfl rfl ?_
          refine ax_dup G d_Mo_general_234 rfl ?_
          refine ax_get (ci := 6) (j := 23) G d_Mo_general_235 rfl rfl (by decide) k_Mo_156 rfl ?_
          refine ax_iload G d_Mo_general_238 rfl ?_
          refine ax_iload G d_Mo_general_240 rfl ?_
          refine ax_isub G d_Mo_general_242 ?_
          rw [pk_sub hX]
          refine ax_isub G d_Mo_general_243 ?_
          rw [pk_sub (by omega)]
          have e9 : ez + Tl.length - (ez - X.length) = T.length := by rw [hT1, List.length_append]; omega
          rw [e9]
          rw [← hT1] at hb3
          refine ax_put (ci := 6) (j := 23) G d_Mo_general_244 rfl rfl (by decide) k_Mo_156 rfl rfl rfl (Nat.le_of_ble_eq_true rfl) ?_
          exact ax_vret G hr E d_Mo_general_247 rfl ⟨rfl, o2, b3, rfl, hb3⟩
        · exact absurd (nI_le (Nat.le_refl _) (by omega)) c_204
      | succ q ih =>
        intro j b3 hj hb3 h3
        have hl3 : (X ++ Tl.take j).length = X.length + j := by rw [List.length_append, List.length_take]; omega
        refine ax_iload G d_Mo_general_198 rfl ?_
        refine ax_aload_n G d_Mo_general_200 rfl rfl ?_
        refine ax_get (ci := 6) (j := 23) G d_Mo_general_201 rfl rfl (by decide) k_Mo_156 rfl ?_
        refine ax_icmp_ge (tgt := 233) G d_Mo_general_204 (by decide) (fun c_204 => ?_) (fun c_204 => ?_)
        · exact absurd c_204 (nI_ge (by omega) (by omega))
        · refine ax_aload_n G d_Mo_general_207 rfl rfl ?_
          refine ax_get (ci := 6) (j := 21) G d_Mo_general_208 rfl rfl (by decide) k_Mo_27 rfl ?_
          refine ax_iload G d_Mo_general_211 rfl ?_
          refine ax_iload G d_Mo_general_213 rfl ?_
          refine ax_iadd G d_Mo_general_215 ?_
          rw [nI_add]
          refine ax_iload G d_Mo_general_216 rfl ?_
          refine ax_isub G d_Mo_general_218 ?_
          rw [pk_sub (by omega), show X.length + (ez + j) - ez = X.length + j by omega]
          refine ax_aload_n G d_Mo_general_219 rfl rfl ?_
          refine ax_get (ci := 6) (j := 21) G d_Mo_general_220 rfl rfl (by decide) k_Mo_27 rfl ?_
          refine ax_iload G d_Mo_general_223 rfl ?_
          refine ax_iald G d_Mo_general_225 rfl (vp_in_nI (by omega) (by decide)) ?_
          rw [nI_clamp (by omega), (h3 j (Nat.le_refl _) (by omega)).1]
          refine ax_iast G d_Mo_general_226 rfl (vp_in_nI (by omega) (by decide)) ?_
          rw [nI_clamp (by omega)]
          refine ax_iincZ (z := 1) G d_Mo_general_227 rfl (by decide) (by decide) ?_
          refine ax_goto (tgt := 198) G d_Mo_general_230 (by decide) ?_
          rw [nI_1]
          have hp3 := mi_put hb3 (h3 j (Nat.le_refl _) (by omega)).2
          rw [hl3, List.append_assoc, ← tk_s (by omega)] at hp3
          exact ih (j + 1) _ (by omega) hp3 (fun i h4 h5 => by
            rw [pk_un (by omega)]; exact h3 i (by omega) h5)
    refine ax_iload G d_Mo_general_194 rfl ?_
    refine ax_istore G d_Mo_general_196 (by decide) ?_
    exact loop Tl.length 0 b2 (by omega) (by rw [List.take_zero, List.append_nil]; exact hb) (fun i _ h => hTl i h)
  -- zeros at the end go
  have strip : ∀ (I Tl : List Nat) (b : Nat) (dg : Nat → Nat) (b2 o2 : Nat → Int32) (lv : List (Nat × Value)), (∀ x ∈ I, 48 ≤ x ∧ x ≤ 57) → I.length + b + Tl.length ≤ 900 → (∀ i, dg i < 10) → mi_is b2 (I ++ (pnt b false ++ (List.range b).map (fun i => 48 + dg i)) ++ Tl) → T = I ++ (pnt (lnz dg b) false ++ (List.range (lnz dg b)).map (fun i => 48 + dg i)) ++ Tl → ax_lsb [(0, .ref 20), (6, .int (nI (I ++ (pnt b false ++ (List.range b).map (fun i => 48 + dg i))).length))] lv → ax_V p l e (ax_rm 3) s m args below meth c D cid ad A 10 0 0 (MQ below Qc args s 0 0 A) 117 lv [] (pc_Mo er le ma ou ta di wr at0 wi pr lf pl bl ha ze wt pt fr (nI (I ++ (pnt b false ++ (List.range b).map (fun i => 48 + dg i)) ++ Tl).length) zs (nI ct) po ++ pcD dd ++ pcO o2 ++ pcB b2) := by
    intro I Tl b dg b2 o2 lv hI hlen hdg hb hT1 hlv
    refine ax_less (lv' := [(0, .ref 20), (6, .int (nI (I ++ (pnt b false ++ (List.range b).map (fun i => 48 + dg i))).length))]) ?_ hlv
    have look : ∀ i, i < I.length → b2 i = nI (I.getD i 0) ∧ 48 ≤ I.getD i 0 ∧ I.getD i 0 ≤ 57 := by
      intro i hi
      have h1 := mi_pre (mi_pre hb) i hi
      exact ⟨h1.1, hI _ (gd_m hi)⟩
    cases b with
    | zero =>
      have eX : I ++ (pnt 0 false ++ (List.range 0).map (fun i => 48 + dg i)) = I := by rw [pnt_f0, List.range_zero, List.map_nil, List.nil_append, List.append_nil]
      rw [show lnz dg 0 = 0 from rfl, eX] at hT1
      rw [eX] at hb ⊢
      have dot : ∀ (q i : Nat), i + q = I.length → ax_V p l e (ax_rm 3) s m args below meth c D cid ad A 10 0 0 (MQ below Qc args s 0 0 A) 120 [(0, .ref 20), (6, .int (nI I.length)), (7, .int (nI i))] [] (pc_Mo er le ma ou ta di wr at0 wi pr lf pl bl ha ze wt pt fr (nI (I ++ Tl).length) zs (nI ct) po ++ pcD dd ++ pcO o2 ++ pcB b2) := by
        intro q
        induction q with
        | zero =>
          intro i hi
          have ei : i = I.length := by omega
          subst ei
          refine ax_iload G d_Mo_general_120 rfl ?_
          refine ax_iload G d_Mo_general_122 rfl ?_
          refine ax_icmp_ge (tgt := 145) G d_Mo_general_124 (by decide) (fun c_124 => ?_) (fun c_124 => ?_)
          · refine ax_iload G d_Mo_general_145 rfl ?_
            refine ax_iload G d_Mo_general_147 rfl ?_
            refine ax_icmp_ne (tgt := 153) G d_Mo_general_149 (by decide) (fun c_149 => ?_) (fun c_149 => ?_)
            · exact absurd rfl c_149
            · rw [hT1] at E
              exact ax_vret G hr E d_Mo_general_152 rfl ⟨rfl, o2, b2, rfl, hb⟩
          · exact absurd (nI_le (Nat.le_refl _) (by omega)) c_124
        | succ q ih =>
          intro i hi
          have hl := look i (by omega)
          refine ax_iload G d_Mo_general_120 rfl ?_
          refine ax_iload G d_Mo_general_122 rfl ?_
          refine ax_icmp_ge (tgt := 145) G d_Mo_general_124 (by decide) (fun c_124 => ?_) (fun c_124 => ?_)
          · exact absurd c_124 (nI_ge (by omega) (by omega))
          · refine ax_aload_n G d_Mo_general_127 rfl rfl ?_
            refine ax_get (ci := 6) (j := 21) G d_Mo_general_128 rfl rfl (by decide) k_Mo_27 rfl ?_
            refine ax_iload G d_Mo_general_131 rfl ?_
            refine ax_iald G d_Mo_general_133 rfl (vp_in_nI (by omega) (by decide)) ?_
            rw [nI_clamp (by omega), hl.1]
            refine ax_bipush (v := 46) G d_Mo_general_134 (by decide) ?_
            refine ax_icmp_eq (tgt := 145) G d_Mo_general_136 (by decide) (fun c_136 => ?_) (fun c_136 => ?_)
            · have := (nI_eq (b := 46) (by omega) (by decide)).mp c_136
              omega
            · refine ax_iincZ (z := 1) G d_Mo_general_139 rfl (by decide) (by decide) ?_
              refine ax_goto (tgt := 120) G d_Mo_general_142 (by decide) ?_
              rw [nI_1]
              exact ih (i + 1) (by omega)
      refine ax_iconst (v := 0) G d_Mo_general_117 (by decide) ?_
      refine ax_istore G d_Mo_general_118 (by decide) ?_
      exact dot I.length 0 (by omega)
    | succ b =>
      have eX : I ++ (pnt (b + 1) false ++ (List.range (b + 1)).map (fun i => 48 + dg i)) = I ++ [46] ++ (List.range (b + 1)).map (fun i => 48 + dg i) := by rw [pnt_f1, List.append_assoc]
      rw [eX] at hb ⊢
      generalize hR : (List.range (b + 1)).map (fun i => 48 + dg i) = R at *
      have hRl : R.length = b + 1 := by rw [← hR, List.length_map, List.length_range]
      have hI1 : (I ++ [46]).length = I.length + 1 := by rw [List.length_append]; rfl
      have hXl : (I ++ [46] ++ R).length = I.length + 1 + (b + 1) := by rw [List.length_append, hI1, hRl]
      have hYl : (I ++ [46] ++ R ++ Tl).length = I.length + 1 + (b + 1) + Tl.length := by rw [List.length_append, hXl]
      have lookD : b2 I.length = nI 46 := (mi_suf (mi_pre (mi_pre hb)) 0 (by decide)).1
      have lookR : ∀ j, j < b + 1 → b2 (I.length + 1 + j) = nI (48 + dg j) := by
        intro j hj
        have h1 := (mi_suf (mi_pre hb) j (by omega)).1
        rw [hI1] at h1
        rw [h1, ← hR, rg_at _ hj]
      have lookT : ∀ i, i < Tl.length → b2 (I.length + 1 + (b + 1) + i) = nI (Tl.getD i 0) ∧ Tl.getD i 0 < 256 := by
        intro i hi
        have h1 := mi_suf hb i hi
        rw [hXl] at h1
        exact h1
      rw [hXl, hYl]
      have zer : ∀ (j : Nat), j ≤ b + 1 → lnz dg j = lnz dg (b + 1) → ax_V p l e (ax_rm 3) s m args below meth c D cid ad A 10 0 0 (MQ below Qc args s 0 0 A) 157 [(0, .ref 20), (6, .int (nI (I.length + 1 + (b + 1)))), (8, .int (nI (I.length + 1 + j)))] [] (pc_Mo er le ma ou ta di wr at0 wi pr lf pl bl ha ze wt pt fr (nI (I.length + 1 + (b + 1) + Tl.length)) zs (nI ct) po ++ pcD dd ++ pcO o2 ++ pcB b2) := by
        intro j
        induction j with
        | zero =>
          intro hj hz
          have hz0 : lnz dg (b + 1) = 0 := hz.symm
          rw [hz0, pnt_f0, List.range_zero, List.map_nil, List.nil_append, List.append_nil] at hT1
          have e1 : nI (I.length + 1 + 0) - 1 = nI I.length := by rw [show (1 : Int32) = nI 1 from rfl, pk_sub (by omega)]; rfl
          refine ax_aload_n G d_Mo_general_157 rfl rfl ?_
          refine ax_get (ci := 6) (j := 21) G d_Mo_general_158 rfl rfl (by decide) k_Mo_27 rfl ?_
          refine ax_iload G d_Mo_general_161 rfl ?_
          refine ax_iconst (v := 1) G d_Mo_general_163 (by decide) ?_
          refine ax_isub G d_Mo_general_164 ?_
          rw [e1]
          refine ax_iald G d_Mo_general_165 rfl (vp_in_nI (by omega) (by decide)) ?_
          rw [nI_clamp (by omega), lookD]
          refine ax_bipush (v := 48) G d_Mo_general_166 (by decide) ?_
          refine ax_icmp_ne (tgt := 177) G d_Mo_general_168 (by decide) (fun c_168 => ?_) (fun c_168 => ?_)
          · refine ax_aload_n G d_Mo_general_177 rfl rfl ?_
            refine ax_get (ci := 6) (j := 21) G d_Mo_general_178 rfl rfl (by decide) k_Mo_27 rfl ?_
            refine ax_iload G d_Mo_general_181 rfl ?_
            refine ax_iconst (v := 1) G d_Mo_general_183 (by decide) ?_
            refine ax_isub G d_Mo_general_184 ?_
            rw [e1]
            refine ax_iald G d_Mo_general_185 rfl (vp_in_nI (by omega) (by decide)) ?_
            rw [nI_clamp (by omega), lookD]
            refine ax_bipush (v := 46) G d_Mo_general_186 (by decide) ?_
            refine ax_icmp_ne (tgt := 194) G d_Mo_general_188 (by decide) (fun c_188 => ?_) (fun c_188 => ?_)
            · exact absurd rfl c_188
            · refine ax_iincZ (z := (-1)) G d_Mo_general_191 rfl (by decide) (by decide) ?_
              rw [show nI (I.length + 1 + 0) + -1 = nI I.length from pk_m1 _]
              exact mov _ I Tl b2 o2 _ (by omega) (by omega) (mi_pre (mi_pre (mi_pre hb))) lookT hT1 ⟨rfl, rfl, rfl, trivial⟩
          · exact absurd c_168 (by decide)
        | succ j ih =>
          intro hj hz
          have hdj := hdg j
          have e1 : nI (I.length + 1 + (j + 1)) - 1 = nI (I.length + 1 + j) := by rw [show (1 : Int32) = nI 1 from rfl, pk_sub (by omega)]; rfl
          rw [lnz_s] at hz
          refine ax_aload_n G d_Mo_general_157 rfl rfl ?_
          refine ax_get (ci := 6) (j := 21) G d_Mo_general_158 rfl rfl (by decide) k_Mo_27 rfl ?_
          refine ax_iload G d_Mo_general_161 rfl ?_
          refine ax_iconst (v := 1) G d_Mo_general_163 (by decide) ?_
          refine ax_isub G d_Mo_general_164 ?_
          rw [e1]
          refine ax_iald G d_Mo_general_165 rfl (vp_in_nI (by omega) (by decide)) ?_
          rw [nI_clamp (by omega), lookR j (by omega)]
          have hq48 : (nI (48 + dg j) = 48) ↔ dg j = 0 := by
            have := nI_eq (a := 48 + dg j) (b := 48) (by omega) (by decide)
            rw [show (48 : Int32) = nI 48 from rfl, this]; omega
          refine ax_bipush (v := 48) G d_Mo_general_166 (by decide) ?_
          refine ax_icmp_ne (tgt := 177) G d_Mo_general_168 (by decide) (fun c_168 => ?_) (fun c_168 => ?_)
          · have hn : ¬ dg j = 0 := fun z => c_168 (hq48.mpr z)
            rw [if_neg hn] at hz
            rw [← hz, pnt_f1, ← List.append_assoc] at hT1
            refine ax_aload_n G d_Mo_general_177 rfl rfl ?_
            refine ax_get (ci := 6) (j := 21) G d_Mo_general_178 rfl rfl (by decide) k_Mo_27 rfl ?_
            refine ax_iload G d_Mo_general_181 rfl ?_
            refine ax_iconst (v := 1) G d_Mo_general_183 (by decide) ?_
            refine ax_isub G d_Mo_general_184 ?_
            rw [e1]
            refine ax_iald G d_Mo_general_185 rfl (vp_in_nI (by omega) (by decide)) ?_
            rw [nI_clamp (by omega), lookR j (by omega)]
            refine ax_bipush (v := 46) G d_Mo_general_186 (by decide) ?_
            refine ax_icmp_ne (tgt := 194) G d_Mo_general_188 (by decide) (fun c_188 => ?_) (fun c_188 => ?_)
            · have hPl : (I ++ [46] ++ (List.range (j + 1)).map (fun i => 48 + dg i)).length = I.length + 1 + (j + 1) := by rw [List.length_append, hI1, List.length_map, List.length_range]
              refine mov _ (I ++ [46] ++ (List.range (j + 1)).map (fun i => 48 + dg i)) Tl b2 o2 _ (by omega) (by omega) ?_ lookT hT1 ⟨rfl, rfl, by rw [hPl]; rfl, trivial⟩
              intro i hi
              rw [hPl] at hi
              rcases Nat.lt_or_ge i (I.length + 1) with z | z
              · have h1 := mi_pre (mi_pre hb) i (by omega)
                rw [gd_l (by omega)]; exact h1
              · obtain ⟨t, rfl⟩ : ∃ t, i = I.length + 1 + t := ⟨i - (I.length + 1), by omega⟩
                have h1 := gd_r (I ++ [46]) ((List.range (j + 1)).map (fun i => 48 + dg i)) t
                rw [hI1, rg_at _ (by omega)] at h1
                rw [h1]
                have := hdg t
                exact ⟨lookR t (by omega), by omega⟩
            · have := (nI_eq (b := 46) (by omega) (by decide)).mp c_188
              omega
          · have hn : dg j = 0 := hq48.mp c_168
            rw [if_pos hn] at hz
            refine ax_iincZ (z := (-1)) G d_Mo_general_171 rfl (by decide) (by decide) ?_
            refine ax_goto (tgt := 157) G d_Mo_general_174 (by decide) ?_
            rw [show nI (I.length + 1 + (j + 1)) + -1 = nI (I.length + 1 + j) from pk_m1 _]
            exact ih (by omega) hz
      have dot : ∀ (q i : Nat), i + q = I.length → ax_V p l e (ax_rm 3) s m args below meth c D cid ad A 10 0 0 (MQ below Qc args s 0 0 A) 120 [(0, .ref 20), (6, .int (nI (I.length + 1 + (b + 1)))), (7, .int (nI i))] [] (pc_Mo er le ma ou ta di wr at0 wi pr lf pl bl ha ze wt pt fr (nI (I.length + 1 + (b + 1) + Tl.length)) zs (nI ct) po ++ pcD dd ++ pcO o2 ++ pcB b2) := by
        intro q
        induction q with
        | zero =>
          intro i hi
          have ei : i = I.length := by omega
          subst ei
          refine ax_iload G d_Mo_general_120 rfl ?_
          refine ax_iload G d_Mo_general_122 rfl ?_
          refine ax_icmp_ge (tgt := 145) G d_Mo_general_124 (by decide) (fun c_124 => ?_) (fun c_124 => ?_)
          · exact absurd c_124 (nI_ge (by omega) (by omega))
          · refine ax_aload_n G d_Mo_general_127 rfl rfl ?_
            refine ax_get (ci := 6) (j := 21) G d_Mo_general_128 rfl rfl (by decide) k_Mo_27 rfl ?_
            refine ax_iload G d_Mo_general_131 rfl ?_
            refine ax_iald G d_Mo_general_133 rfl (vp_in_nI (by omega) (by decide)) ?_
            rw [nI_clamp (by omega), lookD]
            refine ax_bipush (v := 46) G d_Mo_general_134 (by decide) ?_
            refine ax_icmp_eq (tgt := 145) G d_Mo_general_136 (by decide) (fun c_136 => ?_) (fun c_136 => ?_)
            · refine ax_iload G d_Mo_general_145 rfl ?_
              refine ax_iload G d_Mo_general_147 rfl ?_
              refine ax_icmp_ne (tgt := 153) G d_Mo_general_149 (by decide) (fun c_149 => ?_) (fun c_149 => ?_)
              · refine ax_less (lv' := [(0, .ref 20), (6, .int (nI (I.length + 1 + (b + 1))))]) ?_ ⟨rfl, rfl, trivial⟩
                refine ax_iload G d_Mo_general_153 rfl ?_
                refine ax_istore G d_Mo_general_155 (by decide) ?_
                exact zer (b + 1) (Nat.le_refl _) rfl
              · have := (nI_eq (by omega) (by omega)).mp c_149
                omega
            · exact absurd rfl c_136
        | succ q ih =>
          intro i hi
          have hl := look i (by omega)
          refine ax_iload G d_Mo_general_120 rfl ?_
          refine ax_iload G d_Mo_general_122 rfl ?_
          refine ax_icmp_ge (tgt := 145) G d_Mo_general_124 (by decide) (fun c_124 => ?_) (fun c_124 => ?_)
          · exact absurd c_124 (nI_ge (by omega) (by omega))
          · refine ax_aload_n G d_Mo_general_127 rfl rfl ?_
            refine ax_get (ci := 6) (j := 21) G d_Mo_general_128 rfl rfl (by decide) k_Mo_27 rfl ?_
            refine ax_iload G d_Mo_general_131 rfl ?_
            refine ax_iald G d_Mo_general_133 rfl (vp_in_nI (by omega) (by decide)) ?_
            rw [nI_clamp (by omega), hl.1]
            refine ax_bipush (v := 46) G d_Mo_general_134 (by decide) ?_
            refine ax_icmp_eq (tgt := 145) G d_Mo_general_136 (by decide) (fun c_136 => ?_) (fun c_136 => ?_)
            · have := (nI_eq (b := 46) (by omega) (by decide)).mp c_136
              omega
            · refine ax_iincZ (z := 1) G d_Mo_general_139 rfl (by decide) (by decide) ?_
              refine ax_goto (tgt := 120) G d_Mo_general_142 (by decide) ?_
              rw [nI_1]
              exact ih (i + 1) (by omega)
      refine ax_iconst (v := 0) G d_Mo_general_117 (by decide) ?_
      refine ax_istore G d_Mo_general_118 (by decide) ?_
      exact dot I.length 0 (by omega)
  have hgz : ∀ z : Int, gz P.toInt k = z → N ≤ k := fun _ _ => hN
  -- near
  have near : gfx P.toInt k = true → ∀ (o2 b2 : Nat → Int32) (x : Int32) (lv : List (Nat × Value)), mi_is b2 (ptd D2 N P.toInt ((k : Int) - P.toInt).toNat ha) → ax_lsb [(0, .ref 20), (5, .int 1)] lv → ax_V p l e (ax_rm 3) s m args below meth c D cid ad A 10 0 0 (MQ below Qc args s 0 0 A) 65 lv [] (pc_Mo er le ma ou ta di wr at0 wi pr lf pl bl ha ze wt pt fr (nI (ptd D2 N P.toInt ((k : Int) - P.toInt).toNat ha).length) zs (nI ct) po ++ pcD dd ++ pcO o2 ++ pcB b2) := by
    intro hg o2 b2 x lv hb hlv
    refine ax_less (lv' := [(0, .ref 20), (5, .int 1)]) ?_ hlv
    have hgi := of_decide_eq_true hg
    have hgz1 : gz P.toInt k = P.toInt := by unfold gz; rw [hg]; rfl
    unfold gS gb at hT
    rw [hgz1, if_pos hg] at hT
    cases hha : ha with
    | true =>
      rw [hha] at hT hb E
      rw [if_pos rfl, pcG_lo (ptd_lo hlt _ _ _)] at hT
      refine ax_aload_n G d_Mo_general_65 rfl rfl ?_
      refine ax_get (ci := 6) (j := 16) G d_Mo_general_66 rfl rfl (by decide) k_Mo_79 rfl ?_
      refine ax_if_eq (tgt := 73) G d_Mo_general_69 (by decide) (fun c_69 => ?_) (fun c_69 => ?_)
      · exact absurd c_69 (by decide)
      · rw [← hT] at E
        exact ax_vret G hr E d_Mo_general_72 rfl ⟨rfl, o2, b2, rfl, hb⟩
    | false =>
      rw [hha] at hT hb mov strip
      rw [if_neg (by decide), pcG_lo (ptd_lo hlt _ _ _), ← lnz_nf (nf_b hN)] at hT
      have hIl := dgI_len D2 N P.toInt
      refine ax_aload_n G d_Mo_general_65 rfl rfl ?_
      refine ax_get (ci := 6) (j := 16) G d_Mo_general_66 rfl rfl (by decide) k_Mo_79 rfl ?_
      refine ax_if_eq (tgt := 73) G d_Mo_general_69 (by decide) (fun c_69 => ?_) (fun c_69 => ?_)
      · refine ax_aload_n G d_Mo_general_73 rfl rfl ?_
        refine ax_get (ci := 6) (j := 23) G d_Mo_general_74 rfl rfl (by decide) k_Mo_156 rfl ?_
        refine ax_istore G d_Mo_general_77 (by decide) ?_
        refine ax_iload G d_Mo_general_79 rfl ?_
        refine ax_if_ne (tgt := 117) G d_Mo_general_81 (by decide) (fun c_81 => ?_) (fun c_81 => ?_)
        · have q := strip (dgI D2 N P.toInt) [] ((k : Int) - P.toInt).toNat (fun i : Nat => dAt D2 N (P.toInt + (i : Int))) b2 o2 [(0, .ref 20), (5, .int 1), (6, .int (nI (ptd D2 N P.toInt ((k : Int) - P.toInt).toNat false).length))] (ptd_ds hlt P.toInt) (by rw [hIl]; show _ + 0 ≤ _; omega) (fun i => hlt _) (by rw [List.append_nil]; exact hb) (by rw [List.append_nil]; exact hT.symm) ⟨rfl, rfl, trivial⟩
          rw [List.append_nil] at q
          exact q
        · exact absurd c_81 (by decide)
      · exact absurd rfl c_69
  have far : gfx P.toInt k = false → ∀ (o2 b2 : Nat → Int32) (lv : List (Nat × Value)), mi_is b2 (ptd D2 N 1 (k - 1) ha ++ ([if gr then 69 else 101] ++ expo (P.toInt - 1) true)) → ax_lsb [(0, .ref 20), (5, .int 0)] lv → ax_V p l e (ax_rm 3) s m args below meth c D cid ad A 10 0 0 (MQ below Qc args s 0 0 A) 65 lv [] (pc_Mo er le ma ou ta di wr at0 wi pr lf pl bl ha ze wt pt fr (nI (ptd D2 N 1 (k - 1) ha ++ ([if gr then 69 else 101] ++ expo (P.toInt - 1) true)).length) zs (nI ct) po ++ pcD dd ++ pcO o2 ++ pcB b2) := by
    intro hg o2 b2 lv hb hlv
    refine ax_less (lv' := [(0, .ref 20), (5, .int 0)]) ?_ hlv
    have hgz1 : gz P.toInt k = 1 := by unfold gz; rw [hg]; rfl
    have ek : ((k : Int) - 1).toNat = k - 1 := by omega
    unfold gS gb at hT
    rw [hgz1, if_neg (by rw [hg]; decide), ek] at hT
    have hel := expo_len (P.toInt - 1) true
    cases hha : ha with
    | true =>
      rw [hha] at hT hb E
      rw [if_pos rfl, pcG_sci hlt _ _ _ _ (nab (by omega))] at hT
      refine ax_aload_n G d_Mo_general_65 rfl rfl ?_
      refine ax_get (ci := 6) (j := 16) G d_Mo_general_66 rfl rfl (by decide) k_Mo_79 rfl ?_
      refine ax_if_eq (tgt := 73) G d_Mo_general_69 (by decide) (fun c_69 => ?_) (fun c_69 => ?_)
      · exact absurd c_69 (by decide)
      · rw [← hT] at E
        exact ax_vret G hr E d_Mo_general_72 rfl ⟨rfl, o2, b2, rfl, hb⟩
    | false =>
      rw [hha] at hT hb mov strip
      have hnf := nf_b (d := D2) (z := 1) hN
      rw [ek] at hnf
      rw [if_neg (by decide), pcG_sci hlt _ _ _ _ (nab (by omega)), ← lnz_nf hnf] at hT
      have hIl := dgI_len D2 N 1
      generalize hTl : [if gr then 69 else 101] ++ expo (P.toInt - 1) true = Tl at *
      have hTll : Tl.length ≤ 6 := by rw [← hTl, List.length_append]; show 1 + _ ≤ _; omega
      have hTl0 : 0 < Tl.length := by rw [← hTl, List.length_append]; show 0 < 1 + _; omega
      have hTlc : Tl.getD 0 0 = if gr then 69 else 101 := by rw [← hTl]; rfl
      have h57 := ptd_57 hlt 1 (k - 1) false
      have hXl : (ptd D2 N 1 (k - 1) false).length ≤ 210 := Nat.le_trans (ptd_len D2 N 1 (k - 1) false) (by omega)
      have fin : ∀ (lv : List (Nat × Value)), ax_lsb [(0, .ref 20), (6, .int (nI (ptd D2 N 1 (k - 1) false).length))] lv → ax_V p l e (ax_rm 3) s m args below meth c D cid ad A 10 0 0 (MQ below Qc args s 0 0 A) 117 lv [] (pc_Mo er le ma ou ta di wr at0 wi pr lf pl bl false ze wt pt fr (nI (ptd D2 N 1 (k - 1) false ++ Tl).length) zs (nI ct) po ++ pcD dd ++ pcO o2 ++ pcB b2) := by
        intro lv hlv
        exact strip (dgI D2 N 1) Tl (k - 1) (fun i : Nat => dAt D2 N (1 + (i : Int))) b2 o2 lv (ptd_ds hlt 1) (by rw [hIl]; omega) (fun i => hlt _) hb hT.symm hlv
      have srch : ∀ (q i : Nat), i + q = (ptd D2 N 1 (k - 1) false).length → ax_V p l e (ax_rm 3) s m args below meth c D cid ad A 10 0 0 (MQ below Qc args s 0 0 A) 87 [(0, .ref 20), (5, .int 0), (6, .int (nI i))] [] (pc_Mo er le ma ou ta di wr at0 wi pr lf pl bl false ze wt pt fr (nI (ptd D2 N 1 (k - 1) false ++ Tl).length) zs (nI ct) po ++ pcD dd ++ pcO o2 ++ pcB b2) := by
        intro q
        induction q with
        | zero =>
          intro i hi
          have ei : i = (ptd D2 N 1 (k - 1) false).length := by omega
          subst ei
          have hc0 := (mi_suf hb 0 hTl0).1
          rw [hTlc, Nat.add_zero] at hc0
          cases hgr : gr with
          | true =>
            rw [hgr, if_pos rfl] at hc0
            refine ax_aload_n G d_Mo_general_87 rfl rfl ?_
            refine ax_get (ci := 6) (j := 21) G d_Mo_general_88 rfl rfl (by decide) k_Mo_27 rfl ?_
            refine ax_iload G d_Mo_general_91 rfl ?_
            refine ax_iald G d_Mo_general_93 rfl (vp_in_nI (by omega) (by decide)) ?_
            rw [nI_clamp (by omega), hc0]
            refine ax_bipush (v := 101) G d_Mo_general_94 (by decide) ?_
            refine ax_icmp_eq (tgt := 117) G d_Mo_general_96 (by decide) (fun c_96 => ?_) (fun c_96 => ?_)
            · exact absurd c_96 (by decide)
            · refine ax_aload_n G d_Mo_general_99 rfl rfl ?_
              refine ax_get (ci := 6) (j := 21) G d_Mo_general_100 rfl rfl (by decide) k_Mo_27 rfl ?_
              refine ax_iload G d_Mo_general_103 rfl ?_
              refine ax_iald G d_Mo_general_105 rfl (vp_in_nI (by omega) (by decide)) ?_
              rw [nI_clamp (by omega), hc0]
              refine ax_bipush (v := 69) G d_Mo_general_106 (by decide) ?_
              refine ax_icmp_eq (tgt := 117) G d_Mo_general_108 (by decide) (fun c_108 => ?_) (fun c_108 => ?_)
              · exact fin _ ⟨rfl, rfl, trivial⟩
              · exact absurd rfl c_108
          | false =>
            rw [hgr, if_neg (by decide)] at hc0
            refine ax_aload_n G d_Mo_general_87 rfl rfl ?_
            refine ax_get (ci := 6) (j := 21) G d_Mo_general_88 rfl rfl (by decide) k_Mo_27 rfl ?_
            refine ax_iload G d_Mo_general_91 rfl ?_
            refine ax_iald G d_Mo_general_93 rfl (vp_in_nI (by omega) (by decide)) ?_
            rw [nI_clamp (by omega), hc0]
            refine ax_bipush (v := 101) G d_Mo_general_94 (by decide) ?_
            refine ax_icmp_eq (tgt := 117) G d_Mo_general_96 (by decide) (fun c_96 => ?_) (fun c_96 => ?_)
            · exact fin _ ⟨rfl, rfl, trivial⟩
            · exact absurd rfl c_96
        | succ q ih =>
          intro i hi
          have hci := (mi_pre hb i (by omega)).1
          have hcm := h57 _ (gd_m (show i < (ptd D2 N 1 (k - 1) false).length by omega))
          refine ax_aload_n G d_Mo_general_87 rfl rfl ?_
          refine ax_get (ci := 6) (j := 21) G d_Mo_general_88 rfl rfl (by decide) k_Mo_27 rfl ?_
          refine ax_iload G d_Mo_general_91 rfl ?_
          refine ax_iald G d_Mo_general_93 rfl (vp_in_nI (by omega) (by decide)) ?_
          rw [nI_clamp (by omega), hci]
          refine ax_bipush (v := 101) G d_Mo_general_94 (by decide) ?_
          refine ax_icmp_eq (tgt := 117) G d_Mo_general_96 (by decide) (fun c_96 => ?_) (fun c_96 => ?_)
          · have := (nI_eq (b := 101) (by omega) (by decide)).mp c_96
            omega
          · refine ax_aload_n G d_Mo_general_99 rfl rfl ?_
            refine ax_get (ci := 6) (j := 21) G d_Mo_general_100 rfl rfl (by decide) k_Mo_27 rfl ?_
            refine ax_iload G d_Mo_general_103 rfl ?_
            refine ax_iald G d_Mo_general_105 rfl (vp_in_nI (by omega) (by decide)) ?_
            rw [nI_clamp (by omega), hci]
            refine ax_bipush (v := 69) G d_Mo_general_106 (by decide) ?_
            refine ax_icmp_eq (tgt := 117) G d_Mo_general_108 (by decide) (fun c_108 => ?_) (fun c_108 => ?_)
            · have := (nI_eq (b := 69) (by omega) (by decide)).mp c_108
              omega
            · refine ax_iincZ (z := 1) G d_Mo_general_111 rfl (by decide) (by decide) ?_
              refine ax_goto (tgt := 87) G d_Mo_general_114 (by decide) ?_
              rw [nI_1]
              exact ih (i + 1) (by omega)
      refine ax_aload_n G d_Mo_general_65 rfl rfl ?_
      refine ax_get (ci := 6) (j := 16) G d_Mo_general_66 rfl rfl (by decide) k_Mo_79 rfl ?_
      refine ax_if_eq (tgt := 73) G d_Mo_general_69 (by decide) (fun c_69 => ?_) (fun c_69 => ?_)
      · refine ax_aload_n G d_Mo_general_73 rfl rfl ?_
        refine ax_get (ci := 6) (j := 23) G d_Mo_general_74 rfl rfl (by decide) k_Mo_156 rfl ?_
        refine ax_istore G d_Mo_general_77 (by decide) ?_
        refine ax_iload G d_Mo_general_79 rfl ?_
        refine ax_if_ne (tgt := 117) G d_Mo_general_81 (by decide) (fun c_81 => ?_) (fun c_81 => ?_)
        · exact absurd rfl c_81
        · refine ax_iconst (v := 0) G d_Mo_general_84 (by decide) ?_
          refine ax_istore G d_Mo_general_85 (by decide) ?_
          exact srch _ 0 (Nat.zero_add _)
      · exact absurd rfl c_69
  have ek1 : nI k - 1 = nI (k - 1) := by rw [show (1 : Int32) = nI 1 from rfl, pk_sub (by omega)]
  have main : ax_V p l e (ax_rm 3) s m args below meth c D cid ad A 10 0 0 (MQ below Qc args s 0 0 A) 9 [(0, .ref 20), (1, .int (nI pz)), (2, .int (zb gr))] [.int (nI k)] (pc_Mo er le ma ou ta di wr at0 wi pr lf pl bl ha ze wt pt fr (nI 0) zs (nI ct) po ++ pcD dd ++ pcO oo ++ pcB bf) := by
    refine ax_istore_n G d_Mo_general_9 rfl (by decide) ?_
    refine ax_aload_n G d_Mo_general_10 rfl rfl ?_
    refine ax_iload_n G d_Mo_general_11 rfl rfl ?_
    refine ax_iconst (v := 1) G d_Mo_general_12 (by decide) ?_
    refine ax_isub G d_Mo_general_13 ?_
    rw [ek1]
    refine ax_callV (n := 1) G (ct_Mo_exponent l (k - 1) ct po d dd oo _ _ _ _ _ _ _ _ _ _ _ _ _ _ _ _ _ _ _ _ hd hct (by omega)) d_Mo_general_14 rfl ⟨rfl, rfl, rfl, trivial⟩ rfl rfl rfl kc_Mo_exponent ⟨k_Mo_200, ki_Mo_exponent, ks_Mo_exponent, kk_Mo⟩ (by decide +kernel) rfl ⟨by decide, by decide⟩ (Nat.le_of_ble_eq_true rfl) ⟨by decide, by decide⟩ (fun r hc_ hq hk_ => ?_)
    obtain ⟨rfl, o2, rfl, -⟩ := hq
    generalize hx : xpo d ct po (k - 1) = x at *
    have isfar : gfx P.toInt k = false → ax_V p l e (ax_rm 3) s m args below meth c D cid ad A 10 0 0 (MQ below Qc args s 0 0 A) 36 [(0, .ref 20), (1, .int (nI pz)), (2, .int (zb gr)), (3, .int (nI k)), (4, .int x)] [] (pc_Mo er le ma ou ta di wr at0 wi pr lf pl bl ha ze wt pt fr (nI 0) zs (nI ct) po ++ pcD dd ++ pcO o2 ++ pcB bf) := by
      intro hg
      have hc0 : ct ≠ 0 := by
        intro hc
        have := hrz0 hc
        unfold gfx at hg
        have h2 := of_decide_eq_false hg
        rw [this, show (1 : Int32).toInt = 1 from rfl] at h2
        exact h2 ⟨by decide, by omega⟩
      have e1 : sciM (cD d ct po (((k - 1 : Nat) : Int) + 1)) (k - 1) ha gr x.toInt = ptd D2 N 1 (k - 1) ha ++ ([if gr then 69 else 101] ++ expo (P.toInt - 1) true) := by
        rw [show cD d ct po (((k - 1 : Nat) : Int) + 1) = fun i : Nat => dAt D2 N (i : Int) from funext (hcD hc0), hxt, sci_eq hlt P.toInt (k - 1) ha gr (nab (by omega)), pcG_sci hlt _ _ _ _ (nab (by omega))]
      have hlo2 := hlo hc0
      refine ax_iconst (v := 0) G d_Mo_general_36 (by decide) ?_
      refine ax_istore G d_Mo_general_37 (by decide) ?_
      refine ax_iload G d_Mo_general_39 rfl ?_
      refine ax_if_eq (tgt := 57) G d_Mo_general_41 (by decide) (fun c_41 => ?_) (fun c_41 => ?_)
      · refine ax_aload_n G d_Mo_general_57 rfl rfl ?_
        refine ax_iload_n G d_Mo_general_58 rfl rfl ?_
        refine ax_iconst (v := 1) G d_Mo_general_59 (by decide) ?_
        refine ax_isub G d_Mo_general_60 ?_
        rw [ek1]
        refine ax_iload_n G d_Mo_general_61 rfl rfl ?_
        refine ax_callV (n := 2) G (ct_Mo_scientific l (k - 1) ct gr po d dd o2 bf _ _ _ _ _ _ _ _ _ _ _ _ _ _ _ _ _ _ _ hd hct (by omega) (by rw [hx, hxt]; omega)) d_Mo_general_62 rfl ⟨rfl, rfl, rfl, rfl, trivial⟩ rfl rfl rfl kc_Mo_scientific ⟨k_Mo_206, ki_Mo_scientific, ks_Mo_scientific, kk_Mo⟩ (by decide +kernel) rfl ⟨by decide, by decide⟩ (Nat.le_of_ble_eq_true rfl) ⟨by decide, by decide⟩ (fun r hc_ hq hk_ => ?_)
        obtain ⟨rfl, o3, b3, rfl, hb3⟩ := hq
        rw [hx, e1] at hb3 ⊢
        exact far hg o3 b3 _ hb3 ⟨rfl, rfl, trivial⟩
      · exact absurd rfl c_41
    have hx4 : (x < -4) ↔ P.toInt - 1 < -4 := by rw [i32_lt, hxt, show (-4 : Int32).toInt = -4 by decide +kernel]
    have hxk : (nI k ≤ x) ↔ (k : Int) ≤ P.toInt - 1 := by rw [i32_le, hxt, nI_toInt (by omega)]
    refine ax_istore G d_Mo_general_17 (by decide) ?_
    refine ax_iload G d_Mo_general_19 rfl ?_
    refine ax_bipush (v := (-4)) G d_Mo_general_21 (by decide) ?_
    refine ax_icmp_lt (tgt := 36) G d_Mo_general_23 (by decide) (fun c_23 => ?_) (fun c_23 => ?_)
    · exact isfar (decide_eq_false (fun q => by have := hx4.mp c_23; omega))
    · have n1 : ¬ P.toInt - 1 < -4 := fun z => c_23 (hx4.mpr z)
      refine ax_iload G d_Mo_general_26 rfl ?_
      refine ax_iload_n G d_Mo_general_28 rfl rfl ?_
      refine ax_icmp_ge (tgt := 36) G d_Mo_general_29 (by decide) (fun c_29 => ?_) (fun c_29 => ?_)
      · exact isfar (decide_eq_false (fun q => by have := hxk.mp c_29; omega))
      · have n2 : ¬ (k : Int) ≤ P.toInt - 1 := fun z => c_29 (hxk.mpr z)
        have hg : gfx P.toInt k = true := decide_eq_true ⟨by omega, by omega⟩
        refine ax_iconst (v := 1) G d_Mo_general_32 (by decide) ?_
        refine ax_goto (tgt := 37) G d_Mo_general_33 (by decide) ?_
        refine ax_istore G d_Mo_general_37 (by decide) ?_
        refine ax_iload G d_Mo_general_39 rfl ?_
        refine ax_if_eq (tgt := 57) G d_Mo_general_41 (by decide) (fun c_41 => ?_) (fun c_41 => ?_)
        · exact absurd c_41 (by decide)
        · refine ax_aload_n G d_Mo_general_44 rfl rfl ?_
          refine ax_iload_n G d_Mo_general_45 rfl rfl ?_
          refine ax_iconst (v := 1) G d_Mo_general_46 (by decide) ?_
          refine ax_isub G d_Mo_general_47 ?_
          rw [ek1]
          refine ax_iload G d_Mo_general_48 rfl ?_
          refine ax_isub G d_Mo_general_50 ?_
          have eb : nI (k - 1) - x = nI ((k : Int) - P.toInt).toNat := by
            apply i32_eq
            rw [i32_sub _ _ (by rw [nI_toInt (by omega)]; omega) (by omega), nI_toInt (by omega), nI_toInt (by omega), hxt]
            omega
          rw [eb]
          refine ax_callV (n := 1) G (ct_Mo_fixed l ((k : Int) - P.toInt).toNat ct po d dd o2 bf _ _ _ _ _ _ _ _ _ _ _ _ _ _ _ _ _ _ _ hd hct (by omega) hpb) d_Mo_general_51 rfl ⟨rfl, rfl, rfl, rfl, trivial⟩ rfl rfl rfl kc_Mo_fixed ⟨k_Mo_203, ki_Mo_fixed, ks_Mo_fixed, kk_Mo⟩ (by decide +kernel) rfl ⟨by decide, by decide⟩ (Nat.le_of_ble_eq_true rfl) ⟨by decide, by decide⟩ (fun r hc_ hq hk_ => ?_)
          obtain ⟨rfl, o3, b3, rfl, hb3⟩ := hq
          rw [hfx _ (by omega)] at hb3 ⊢
          refine ax_goto (tgt := 65) G d_Mo_general_54 (by decide) ?_
          exact near hg o3 b3 x _ hb3 ⟨rfl, rfl, trivial⟩
  by_cases hz : pz = 0
  · rw [if_pos hz] at hk
    refine ax_iload_n G d_Mo_general_0 rfl rfl ?_
    refine ax_if_ne (tgt := 8) G d_Mo_general_1 (by decide) (fun c_1 => ?_) (fun c_1 => ?_)
    · exact absurd (by rw [hz]; rfl) c_1
    · refine ax_iconst (v := 1) G d_Mo_general_4 (by decide) ?_
      refine ax_goto (tgt := 9) G d_Mo_general_5 (by decide) ?_
      rw [hk] at main
      exact main
  · rw [if_neg hz] at hk
    refine ax_iload_n G d_Mo_general_0 rfl rfl ?_
    refine ax_if_ne (tgt := 8) G d_Mo_general_1 (by decide) (fun c_1 => ?_) (fun c_1 => ?_)
    · refine ax_iload_n G d_Mo_general_8 rfl rfl ?_
      have q := main
      rw [hk] at q
      exact q
    · exact absurd c_1 (nI_ne0 (by omega) (by omega))

