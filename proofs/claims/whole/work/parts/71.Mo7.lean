/-! FormatDeskModel: fixed -/
set_option maxRecDepth 20000 in
set_option maxHeartbeats 1000000 in
theorem ct_Mo_fixed (l : Launch) (pz ct : Nat) (po : Int32) (d : Nat → Nat) (dd oo bf : Nat → Int32) (er : Int32) (le : Int32) (ma : Int32) (ou : Int32) (ta : Int32) (di : Int32) (wr : Int32) (at0 : Int32) (wi : Int32) (pr : Int32) (lf : Bool) (pl : Bool) (bl : Bool) (ha : Bool) (ze : Bool) (wt : Bool) (pt : Bool) (fr : Int32) (zs : Bool) (hd : de_is dd ct d) (hct : ct ≤ 800) (hp : pz ≤ 260) (hpo : -1200 ≤ po.toInt ∧ po.toInt ≤ 310) : ax_CT l y_Mo_fixed c_Mo_fixed 8 none 1 [.ref 20, .int (nI pz)] (pc_Mo er le ma ou ta di wr at0 wi pr lf pl bl ha ze wt pt fr (nI 0) zs (nI ct) po ++ pcD dd ++ pcO oo ++ pcB bf) (fun r h => r = none ∧ ∃ oo' bf', h = pc_Mo er le ma ou ta di wr at0 wi pr lf pl bl ha ze wt pt fr (nI (fixS d ct po pz ha).length) zs (nI ct) po ++ pcD dd ++ pcO oo' ++ pcB bf' ∧ mi_is bf' (fixS d ct po pz ha)) := by
  refine ax_ofV (by decide) (Nat.le_of_ble_eq_true rfl) ?_
  intro p e s m args below meth c D cid ad A Qc G hr E
  have hpi : (nI pz).toInt = (pz : Int) := nI_toInt (by omega)
  have hz : (po + nI pz).toInt = po.toInt + pz := by rw [i32_add _ _ (by omega) (by omega), hpi]
  have core : ∀ (D2 : Nat → Nat) (N : Nat) (B : Int) (Bv al zz : Int32) (mb : Bool) (o2 : Nat → Int32), ptd D2 N B pz ha = fixS d ct po pz ha → Bv.toInt = B → -1200 ≤ B → B ≤ 311 → al.toInt ≤ 600 → 0 ≤ al.toInt → (0 < B → B ≤ al.toInt) → (B + pz ≤ 0 ∨ B + pz ≤ al.toInt) → (∀ j : Nat, (j : Int) < al.toInt → o2 j = nI (dAt D2 N j)) → (∀ i, dAt D2 N i < 10) → ax_V p l e (ax_rm 1) s m args below meth c D cid ad A 8 0 0 (MQ below Qc args s 0 0 A) 61 [(0, .ref 20), (1, .int (nI pz)), (2, .int zz), (3, .int (zb mb)), (4, .int Bv), (5, .int al)] [] (pc_Mo er le ma ou ta di wr at0 wi pr lf pl bl ha ze wt pt fr (nI 0) zs (nI ct) po ++ pcD dd ++ pcO o2 ++ pcB bf) := by
    intro D2 N B Bv al zz mb o2 hres hBv hB1 hB2 hal hal0 hBal hpal ho hlt
    rw [← hres] at E
    generalize hI : dgI D2 N B = X1
    have hI0 : X1.length ≤ 311 := by rw [← hI, dgI_len]; omega
    have hPl := pnt_len pz ha
    unfold ptd at E
    rw [hI, ← List.append_assoc] at E
    have last : ∀ (q k : Nat) (b2 : Nat → Int32) (lv : List (Nat × Value)), k + q = pz → mi_is b2 (X1 ++ pnt pz ha ++ (List.range k).map (fun i : Nat => 48 + dAt D2 N (B + i))) → ax_lsb [(0, .ref 20), (1, .int (nI pz)), (4, .int Bv), (5, .int al), (6, .int (nI k))] lv → ax_V p l e (ax_rm 1) s m args below meth c D cid ad A 8 0 0 (MQ below Qc args s 0 0 A) 122 lv [] (pc_Mo er le ma ou ta di wr at0 wi pr lf pl bl ha ze wt pt fr (nI (X1 ++ pnt pz ha ++ (List.range k).map (fun i : Nat => 48 + dAt D2 N (B + i))).length) zs (nI ct) po ++ pcD dd ++ pcO o2 ++ pcB b2) := by
      intro q
      induction q with
      | zero =>
        intro k b2 lv hk hb hlv
        have ek : k = pz := by omega
        subst ek
        refine ax_less (lv' := [(0, .ref 20), (1, .int (nI k)), (4, .int Bv), (5, .int al), (6, .int (nI k))]) ?_ hlv
        refine ax_iload G d_Mo_fixed_122 rfl ?_
        refine ax_iload_n G d_Mo_fixed_124 rfl rfl ?_
        refine ax_icmp_ge (tgt := 172) G d_Mo_fixed_125 (by decide) (fun c_125 => ?_) (fun c_125 => ?_)
        · exact ax_vret G hr E d_Mo_fixed_172 rfl ⟨rfl, o2, b2, rfl, hb⟩
        · exact absurd (nI_le (Nat.le_refl _) (by omega)) c_125
      | succ q ih =>
        intro k b2 lv hk hb hlv
        refine ax_less (lv' := [(0, .ref 20), (1, .int (nI pz)), (4, .int Bv), (5, .int al), (6, .int (nI k))]) ?_ hlv
        have hlen : (X1 ++ pnt pz ha ++ (List.range k).map (fun i : Nat => 48 + dAt D2 N (B + i))).length ≤ 800 := by
          rw [List.length_append, List.length_append, List.length_map, List.length_range]; omega
        have hdl := hlt (B + k)
        have hjj : (Bv + nI k).toInt = B + k := by rw [i32_add _ _ (by omega) (by rw [nI_toInt (by omega)]; omega), hBv, nI_toInt (by omega)]
        have put : ∀ (x1 : Int32), x1 = nI (48 + dAt D2 N (B + k)) → ax_V p l e (ax_rm 1) s m args below meth c D cid ad A 8 0 0 (MQ below Qc args s 0 0 A) 163 [(0, .ref 20), (1, .int (nI pz)), (4, .int Bv), (5, .int al), (6, .int (nI k)), (7, .int (Bv + nI k))] [.int x1, .ref 20] (pc_Mo er le ma ou ta di wr at0 wi pr lf pl bl ha ze wt pt fr (nI (X1 ++ pnt pz ha ++ (List.range k).map (fun i : Nat => 48 + dAt D2 N (B + i))).length) zs (nI ct) po ++ pcD dd ++ pcO o2 ++ pcB b2) := by
          intro x1 hx1
          subst hx1
          refine ax_callV (n := 1) G (ct_Mo_add l (X1 ++ pnt pz ha ++ (List.range k).map (fun i : Nat => 48 + dAt D2 N (B + i))) (48 + dAt D2 N (B + k)) b2 _ _ _ _ _ _ _ _ _ _ _ _ _ _ _ _ _ _ _ _ _ hb (by omega) (by omega)) d_Mo_fixed_163 rfl ⟨rfl, rfl, trivial⟩ rfl rfl rfl kc_Mo_add ⟨k_Mo_162, ki_Mo_add, ks_Mo_add, kk_Mo⟩ (by decide +kernel) rfl ⟨by decide, by decide⟩ (Nat.le_of_ble_eq_true rfl) ⟨by decide, by decide⟩ (fun r hc_ hq hk_ => ?_)
          obtain ⟨rfl, b3, rfl, hb3⟩ := hq
          have e3 : X1 ++ pnt pz ha ++ (List.range k).map (fun i : Nat => 48 + dAt D2 N (B + i)) ++ [48 + dAt D2 N (B + k)] = X1 ++ pnt pz ha ++ (List.range (k + 1)).map (fun i : Nat => 48 + dAt D2 N (B + i)) := by rw [List.append_assoc, rg_s]
          rw [e3] at hb3 ⊢
          refine ax_iincZ (z := 1) G d_Mo_fixed_166 rfl (by decide) (by decide) ?_
          refine ax_goto (tgt := 122) G d_Mo_fixed_169 (by decide) ?_
          rw [nI_1]
          exact ih (k + 1) b3 _ (by omega) hb3 ⟨rfl, rfl, rfl, rfl, rfl, trivial⟩
        refine ax_iload G d_Mo_fixed_122 rfl ?_
        refine ax_iload_n G d_Mo_fixed_124 rfl rfl ?_
        refine ax_icmp_ge (tgt := 172) G d_Mo_fixed_125 (by decide) (fun c_125 => ?_) (fun c_125 => ?_)
        · exact absurd c_125 (nI_ge (by omega) (by omega))
        · refine ax_iload G d_Mo_fixed_128 rfl ?_
          refine ax_iload G d_Mo_fixed_130 rfl ?_
          by_cases hneg : Bv + nI k < 0
          · have hn1 : B + (k : Int) < 0 := by have := (i32_lt _ _).mp hneg; rw [hjj] at this; exact this
            refine ax_iadd G d_Mo_fixed_132 ?_
            refine ax_istore G d_Mo_fixed_133 (by decide) ?_
            refine ax_aload_n G d_Mo_fixed_135 rfl rfl ?_
            refine ax_iload G d_Mo_fixed_136 rfl ?_
            refine ax_if_lt (tgt := 148) G d_Mo_fixed_138 (by decide) (fun c_138 => ?_) (fun c_138 => ?_)
            · refine ax_bipush (v := 48) G d_Mo_fixed_148 (by decide) ?_
              refine ax_goto (tgt := 163) G d_Mo_fixed_150 (by decide) ?_
              exact put 48 (by rw [dAt_neg D2 N hn1]; rfl)
            · exact absurd hneg c_138
          · obtain ⟨j, hj31, hjn⟩ := nI_of hneg
            have hj1 : (j : Int) = B + k := by rw [← hjj, hjn, nI_toInt hj31]
            rw [hjn] at put
            refine ax_iadd G d_Mo_fixed_132 ?_
            rw [hjn]
            refine ax_istore G d_Mo_fixed_133 (by decide) ?_
            refine ax_aload_n G d_Mo_fixed_135 rfl rfl ?_
            refine ax_iload G d_Mo_fixed_136 rfl ?_
            refine ax_if_lt (tgt := 148) G d_Mo_fixed_138 (by decide) (fun c_138 => ?_) (fun c_138 => ?_)
            · exact absurd c_138 (nI_pos hj31)
            · refine ax_iload G d_Mo_fixed_141 rfl ?_
              refine ax_iload G d_Mo_fixed_143 rfl ?_
              refine ax_icmp_lt (tgt := 153) G d_Mo_fixed_145 (by decide) (fun c_145 => ?_) (fun c_145 => ?_)
              · have hlt2 : (j : Int) < al.toInt := by have := (i32_lt _ _).mp c_145; rw [nI_toInt hj31] at this; exact this
                refine ax_bipush (v := 48) G d_Mo_fixed_153 (by decide) ?_
                refine ax_aload_n G d_Mo_fixed_155 rfl rfl ?_
                refine ax_get (ci := 6) (j := 27) G d_Mo_fixed_156 rfl rfl (by decide) k_Mo_36 rfl ?_
                refine ax_iload G d_Mo_fixed_159 rfl ?_
                refine ax_iald G d_Mo_fixed_161 rfl (vp_in_nI (by omega) (by decide)) ?_
                rw [nI_clamp (by omega), ho j hlt2]
                refine ax_iadd G d_Mo_fixed_162 ?_
                exact put _ (by rw [show (48 : Int32) = nI 48 from rfl, nI_add, hj1])
              · have hge : ¬ (j : Int) < al.toInt := fun z => c_145 ((i32_lt _ _).mpr (by rw [nI_toInt hj31]; exact z))
                exfalso
                omega
    have dot : ∀ (b2 : Nat → Int32) (lv : List (Nat × Value)), mi_is b2 X1 → ax_lsb [(0, .ref 20), (1, .int (nI pz)), (4, .int Bv), (5, .int al)] lv → ax_V p l e (ax_rm 1) s m args below meth c D cid ad A 8 0 0 (MQ below Qc args s 0 0 A) 102 lv [] (pc_Mo er le ma ou ta di wr at0 wi pr lf pl bl ha ze wt pt fr (nI X1.length) zs (nI ct) po ++ pcD dd ++ pcO o2 ++ pcB b2) := by
      intro b2 lv hb hlv
      refine ax_less (lv' := [(0, .ref 20), (1, .int (nI pz)), (4, .int Bv), (5, .int al)]) ?_ hlv
      have go : ∀ b3, mi_is b3 (X1 ++ pnt pz ha) → ax_V p l e (ax_rm 1) s m args below meth c D cid ad A 8 0 0 (MQ below Qc args s 0 0 A) 119 [(0, .ref 20), (1, .int (nI pz)), (4, .int Bv), (5, .int al)] [] (pc_Mo er le ma ou ta di wr at0 wi pr lf pl bl ha ze wt pt fr (nI (X1 ++ pnt pz ha).length) zs (nI ct) po ++ pcD dd ++ pcO o2 ++ pcB b3) := by
        intro b3 hb3
        refine ax_iconst (v := 0) G d_Mo_fixed_119 (by decide) ?_
        refine ax_istore G d_Mo_fixed_120 (by decide) ?_
        have q := last pz 0 b3 [(0, .ref 20), (1, .int (nI pz)), (4, .int Bv), (5, .int al), (6, .int (nI 0))] (by omega) (by rw [List.range_zero, List.map_nil, List.append_nil]; exact hb3) ⟨rfl, rfl, rfl, rfl, rfl, trivial⟩
        rw [List.range_zero, List.map_nil, List.append_nil] at q
        exact q
      have yes : pnt pz ha = [46] → ax_V p l e (ax_rm 1) s m args below meth c D cid ad A 8 0 0 (MQ below Qc args s 0 0 A) 113 [(0, .ref 20), (1, .int (nI pz)), (4, .int Bv), (5, .int al)] [] (pc_Mo er le ma ou ta di wr at0 wi pr lf pl bl ha ze wt pt fr (nI X1.length) zs (nI ct) po ++ pcD dd ++ pcO o2 ++ pcB b2) := by
        intro hy
        rw [hy] at go
        refine ax_aload_n G d_Mo_fixed_113 rfl rfl ?_
        refine ax_bipush (v := 46) G d_Mo_fixed_114 (by decide) ?_
        refine ax_callV (n := 1) G (ct_Mo_add l X1 46 b2 _ _ _ _ _ _ _ _ _ _ _ _ _ _ _ _ _ _ _ _ _ hb (by omega) (by decide)) d_Mo_fixed_116 rfl ⟨rfl, rfl, trivial⟩ rfl rfl rfl kc_Mo_add ⟨k_Mo_162, ki_Mo_add, ks_Mo_add, kk_Mo⟩ (by decide +kernel) rfl ⟨by decide, by decide⟩ (Nat.le_of_ble_eq_true rfl) ⟨by decide, by decide⟩ (fun r hc_ hq hk_ => ?_)
        obtain ⟨rfl, b3, rfl, hb3⟩ := hq
        exact go b3 hb3
      refine ax_iload_n G d_Mo_fixed_102 rfl rfl ?_
      refine ax_if_gt (tgt := 113) G d_Mo_fixed_103 (by decide) (fun c_103 => ?_) (fun c_103 => ?_)
      · have hp0 : 0 < pz := by
          rcases Nat.eq_zero_or_pos pz with q | q
          · rw [q] at c_103; exact absurd c_103 (by decide)
          · exact q
        exact yes (by unfold pnt; rw [if_pos (Or.inl hp0)])
      · have hp0 : pz = 0 := by
          rcases Nat.eq_zero_or_pos pz with q | q
          · exact q
          · exact absurd (nI_lt (a := 0) q (by omega)) c_103
        cases ha with
        | true =>
          refine ax_aload_n G d_Mo_fixed_106 rfl rfl ?_
          refine ax_get (ci := 6) (j := 16) G d_Mo_fixed_107 rfl rfl (by decide) k_Mo_79 rfl ?_
          refine ax_if_eq (tgt := 119) G d_Mo_fixed_110 (by decide) (fun c_110 => ?_) (fun c_110 => ?_)
          · exact absurd c_110 (by decide)
          · exact yes (by unfold pnt; rw [if_pos (Or.inr rfl)])
        | false =>
          refine ax_aload_n G d_Mo_fixed_106 rfl rfl ?_
          refine ax_get (ci := 6) (j := 16) G d_Mo_fixed_107 rfl rfl (by decide) k_Mo_79 rfl ?_
          refine ax_if_eq (tgt := 119) G d_Mo_fixed_110 (by decide) (fun c_110 => ?_) (fun c_110 => ?_)
          · have e0 : pnt pz false = [] := by unfold pnt; rw [if_neg (by rw [hp0]; decide)]
            rw [e0, List.append_nil] at go
            exact go b2 hb
          · exact absurd rfl c_110
    by_cases hBp : 0 < B
    · have hIp := dgI_pos D2 N hBp
      rw [hI] at hIp
      have eB : Bv = nI B.toNat := by apply i32_eq; rw [hBv, nI_toInt (by omega)]; omega
      have bef : ∀ (q k : Nat) (b2 : Nat → Int32), k + q = B.toNat → mi_is b2 ((List.range k).map (fun i : Nat => 48 + dAt D2 N (i : Int))) → ax_V p l e (ax_rm 1) s m args below meth c D cid ad A 8 0 0 (MQ below Qc args s 0 0 A) 75 [(0, .ref 20), (1, .int (nI pz)), (2, .int zz), (3, .int (zb mb)), (4, .int Bv), (5, .int al), (6, .int (nI k))] [] (pc_Mo er le ma ou ta di wr at0 wi pr lf pl bl ha ze wt pt fr (nI ((List.range k).map (fun i : Nat => 48 + dAt D2 N (i : Int))).length) zs (nI ct) po ++ pcD dd ++ pcO o2 ++ pcB b2) := by
        intro q
        induction q with
        | zero =>
          intro k b2 hk hb
          have ek : k = B.toNat := by omega
          subst ek
          rw [← hIp] at hb ⊢
          rw [eB]
          refine ax_iload G d_Mo_fixed_75 rfl ?_
          refine ax_iload G d_Mo_fixed_77 rfl ?_
          refine ax_icmp_ge (tgt := 102) G d_Mo_fixed_79 (by decide) (fun c_79 => ?_) (fun c_79 => ?_)
          · rw [← eB]
            exact dot b2 _ hb ⟨rfl, rfl, rfl, rfl, trivial⟩
          · exact absurd (nI_le (Nat.le_refl _) (by omega)) c_79
        | succ q ih =>
          intro k b2 hk hb
          have hdl := hlt (k : Int)
          have hlen : ((List.range k).map (fun i : Nat => 48 + dAt D2 N (i : Int))).length ≤ 400 := by rw [List.length_map, List.length_range]; omega
          rw [eB]
          refine ax_iload G d_Mo_fixed_75 rfl ?_
          refine ax_iload G d_Mo_fixed_77 rfl ?_
          refine ax_icmp_ge (tgt := 102) G d_Mo_fixed_79 (by decide) (fun c_79 => ?_) (fun c_79 => ?_)
          · exact absurd c_79 (nI_ge (by omega) (by omega))
          · refine ax_aload_n G d_Mo_fixed_82 rfl rfl ?_
            refine ax_bipush (v := 48) G d_Mo_fixed_83 (by decide) ?_
            refine ax_aload_n G d_Mo_fixed_85 rfl rfl ?_
            refine ax_get (ci := 6) (j := 27) G d_Mo_fixed_86 rfl rfl (by decide) k_Mo_36 rfl ?_
            refine ax_iload G d_Mo_fixed_89 rfl ?_
            refine ax_iald G d_Mo_fixed_91 rfl (vp_in_nI (by omega) (by decide)) ?_
            rw [nI_clamp (by omega), ho k (by omega)]
            refine ax_iadd G d_Mo_fixed_92 ?_
            rw [show (48 : Int32) = nI 48 from rfl, nI_add]
            refine ax_callV (n := 1) G (ct_Mo_add l ((List.range k).map (fun i : Nat => 48 + dAt D2 N (i : Int))) (48 + dAt D2 N (k : Int)) b2 _ _ _ _ _ _ _ _ _ _ _ _ _ _ _ _ _ _ _ _ _ hb (by omega) (by omega)) d_Mo_fixed_93 rfl ⟨rfl, rfl, trivial⟩ rfl rfl rfl kc_Mo_add ⟨k_Mo_162, ki_Mo_add, ks_Mo_add, kk_Mo⟩ (by decide +kernel) rfl ⟨by decide, by decide⟩ (Nat.le_of_ble_eq_true rfl) ⟨by decide, by decide⟩ (fun r hc_ hq hk_ => ?_)
            obtain ⟨rfl, b3, rfl, hb3⟩ := hq
            have e3 : (List.range k).map (fun i : Nat => 48 + dAt D2 N (i : Int)) ++ [48 + dAt D2 N (k : Int)] = (List.range (k + 1)).map (fun i : Nat => 48 + dAt D2 N (i : Int)) := by rw [rg_s]
            rw [e3] at hb3 ⊢
            refine ax_iincZ (z := 1) G d_Mo_fixed_96 rfl (by decide) (by decide) ?_
            refine ax_goto (tgt := 75) G d_Mo_fixed_99 (by decide) ?_
            rw [nI_1, ← eB]
            exact ih (k + 1) b3 (by omega) hb3
      refine ax_iload G d_Mo_fixed_61 rfl ?_
      refine ax_if_gt (tgt := 72) G d_Mo_fixed_63 (by decide) (fun c_63 => ?_) (fun c_63 => ?_)
      · refine ax_iconst (v := 0) G d_Mo_fixed_72 (by decide) ?_
        refine ax_istore G d_Mo_fixed_73 (by decide) ?_
        exact bef B.toNat 0 bf (by omega) (mi_nil bf)
      · exfalso
        refine c_63 ((i32_lt _ _).mpr ?_)
        rw [hBv]; exact hBp
    · have hIn := dgI_neg D2 N (B := B) (by omega)
      rw [hI] at hIn
      refine ax_iload G d_Mo_fixed_61 rfl ?_
      refine ax_if_gt (tgt := 72) G d_Mo_fixed_63 (by decide) (fun c_63 => ?_) (fun c_63 => ?_)
      · exfalso
        have := (i32_lt _ _).mp c_63
        rw [hBv] at this
        exact hBp this
      · refine ax_aload_n G d_Mo_fixed_66 rfl rfl ?_
        refine ax_bipush (v := 48) G d_Mo_fixed_67 (by decide) ?_
        refine ax_callV (n := 1) G (ct_Mo_add l [] 48 bf _ _ _ _ _ _ _ _ _ _ _ _ _ _ _ _ _ _ _ _ _ (mi_nil bf) (by decide) (by decide)) d_Mo_fixed_69 rfl ⟨rfl, rfl, trivial⟩ rfl rfl rfl kc_Mo_add ⟨k_Mo_162, ki_Mo_add, ks_Mo_add, kk_Mo⟩ (by decide +kernel) rfl ⟨by decide, by decide⟩ (Nat.le_of_ble_eq_true rfl) ⟨by decide, by decide⟩ (fun r hc_ hq hk_ => ?_)
        obtain ⟨rfl, b3, rfl, hb3⟩ := hq
        rw [show [] ++ [48] = X1 from hIn.symm] at hb3 ⊢
        refine ax_iconst (v := 0) G d_Mo_fixed_72 (by decide) ?_
        refine ax_istore G d_Mo_fixed_73 (by decide) ?_
        refine ax_iload G d_Mo_fixed_75 rfl ?_
        refine ax_iload G d_Mo_fixed_77 rfl ?_
        refine ax_icmp_ge (tgt := 102) G d_Mo_fixed_79 (by decide) (fun c_79 => ?_) (fun c_79 => ?_)
        · exact dot b3 _ hb3 ⟨rfl, rfl, rfl, rfl, trivial⟩
        · exfalso
          refine c_79 ((i32_le _ _).mpr ?_)
          rw [hBv]
          show B ≤ 0
          omega
  refine ax_aload_n G d_Mo_fixed_0 rfl rfl ?_
  refine ax_get (ci := 6) (j := 29) G d_Mo_fixed_1 rfl rfl (by decide) k_Mo_194 rfl ?_
  refine ax_iload_n G d_Mo_fixed_4 rfl rfl ?_
  refine ax_iadd G d_Mo_fixed_5 ?_
  refine ax_istore_n G d_Mo_fixed_6 rfl (by decide) ?_
  refine ax_aload_n G d_Mo_fixed_7 rfl rfl ?_
  refine ax_iload_n G d_Mo_fixed_8 rfl rfl ?_
  refine ax_callV (n := 1) G (ct_Mo_cut l ct po (po + nI pz) d dd oo _ _ _ _ _ _ _ _ _ _ _ _ _ _ _ _ _ _ _ _ _ hd hct (by rw [hz]; omega)) d_Mo_fixed_9 rfl ⟨rfl, rfl, rfl, trivial⟩ rfl rfl rfl kc_Mo_cut ⟨k_Mo_197, ki_Mo_cut, ks_Mo_cut, kk_Mo⟩ (by decide +kernel) rfl ⟨by decide, by decide⟩ (Nat.le_of_ble_eq_true rfl) ⟨by decide, by decide⟩ (fun r hc_ hq hk_ => ?_)
  obtain ⟨rfl, o2, rfl, ho⟩ := hq
  rw [hz] at ho ⊢
  have h1 : (1 : Int32).toInt = 1 := rfl
  have hd10 : ∀ i, i < ct → d i < 10 := fun i hi => (hd i hi).2
  by_cases hneg : po.toInt + (pz : Int) < 0
  · have eM : cutM d ct (po.toInt + pz) = false := by unfold cutM; exact decide_eq_false (fun q => by omega)
    have hn : po + nI pz < 0 := (i32_lt _ _).mpr (by rw [hz]; exact hneg)
    rw [eM]
    refine ax_istore_n G d_Mo_fixed_12 rfl (by decide) ?_
    refine ax_iload_n G d_Mo_fixed_13 rfl rfl ?_
    refine ax_if_eq (tgt := 26) G d_Mo_fixed_14 (by decide) (fun c_14 => ?_) (fun c_14 => ?_)
    · refine ax_aload_n G d_Mo_fixed_26 rfl rfl ?_
      refine ax_get (ci := 6) (j := 29) G d_Mo_fixed_27 rfl rfl (by decide) k_Mo_194 rfl ?_
      refine ax_istore G d_Mo_fixed_30 (by decide) ?_
      refine ax_iload_n G d_Mo_fixed_32 rfl rfl ?_
      refine ax_if_ge (tgt := 40) G d_Mo_fixed_33 (by decide) (fun c_33 => ?_) (fun c_33 => ?_)
      · exact absurd hn (Int32.not_lt.mpr c_33)
      · refine ax_iconst (v := 0) G d_Mo_fixed_36 (by decide) ?_
        refine ax_goto (tgt := 51) G d_Mo_fixed_37 (by decide) ?_
        refine ax_istore G d_Mo_fixed_51 (by decide) ?_
        refine ax_iload_n G d_Mo_fixed_53 rfl rfl ?_
        refine ax_if_ge (tgt := 61) G d_Mo_fixed_54 (by decide) (fun c_54 => ?_) (fun c_54 => ?_)
        · exact absurd hn (Int32.not_lt.mpr c_54)
        · refine ax_iload_n G d_Mo_fixed_57 rfl rfl ?_
          refine ax_ineg G d_Mo_fixed_58 ?_
          refine ax_istore G d_Mo_fixed_59 (by decide) ?_
          exact core d 0 (-(pz : Int)) (-nI pz) 0 _ false o2 (fix_lo d ct po pz ha hneg) (by rw [i32_neg _ (by omega), hpi]) (by omega) (by omega) (by decide) (by decide) (fun q => by omega) (Or.inl (by omega)) (fun j hj => by have : ((0 : Int32).toInt) = 0 := rfl; omega) (fun i => by rw [dAt_0]; decide)
    · exact absurd rfl c_14
  · have hge : ¬ po + nI pz < 0 := fun q => hneg (by have := (i32_lt _ _).mp q; rw [hz] at this; exact this)
    have ho2 := ho (by omega)
    have hfx := fix_hi d ct po pz ha (by omega) (by omega)
    cases hM : cutM d ct (po.toInt + pz) with
    | true =>
      rw [hM] at ho2 hfx
      have e1 : (po + 1).toInt = po.toInt + 1 := by rw [i32_add _ _ (by omega) (by rw [h1]; omega), h1]
      have e2 : (po + nI pz + 1).toInt = po.toInt + pz + 1 := by rw [i32_add _ _ (by omega) (by rw [h1]; omega), hz, h1]
      refine ax_istore_n G d_Mo_fixed_12 rfl (by decide) ?_
      refine ax_iload_n G d_Mo_fixed_13 rfl rfl ?_
      refine ax_if_eq (tgt := 26) G d_Mo_fixed_14 (by decide) (fun c_14 => ?_) (fun c_14 => ?_)
      · exact absurd c_14 (by decide)
      · refine ax_aload_n G d_Mo_fixed_17 rfl rfl ?_
        refine ax_get (ci := 6) (j := 29) G d_Mo_fixed_18 rfl rfl (by decide) k_Mo_194 rfl ?_
        refine ax_iconst (v := 1) G d_Mo_fixed_21 (by decide) ?_
        refine ax_iadd G d_Mo_fixed_22 ?_
        refine ax_goto (tgt := 30) G d_Mo_fixed_23 (by decide) ?_
        refine ax_istore G d_Mo_fixed_30 (by decide) ?_
        refine ax_iload_n G d_Mo_fixed_32 rfl rfl ?_
        refine ax_if_ge (tgt := 40) G d_Mo_fixed_33 (by decide) (fun c_33 => ?_) (fun c_33 => ?_)
        · refine ax_iload_n G d_Mo_fixed_40 rfl rfl ?_
          refine ax_if_eq (tgt := 50) G d_Mo_fixed_41 (by decide) (fun c_41 => ?_) (fun c_41 => ?_)
          · exact absurd c_41 (by decide)
          · refine ax_iload_n G d_Mo_fixed_44 rfl rfl ?_
            refine ax_iconst (v := 1) G d_Mo_fixed_45 (by decide) ?_
            refine ax_iadd G d_Mo_fixed_46 ?_
            refine ax_goto (tgt := 51) G d_Mo_fixed_47 (by decide) ?_
            refine ax_istore G d_Mo_fixed_51 (by decide) ?_
            refine ax_iload_n G d_Mo_fixed_53 rfl rfl ?_
            refine ax_if_ge (tgt := 61) G d_Mo_fixed_54 (by decide) (fun c_54 => ?_) (fun c_54 => ?_)
            · exact core _ _ (po.toInt + 1) (po + 1) (po + nI pz + 1) _ true o2 hfx e1 (by omega) (by omega) (by omega) (by omega) (fun q => by omega) (Or.inr (by omega)) (fun j hj => ho2 j (by rw [e2] at hj; show j < _ + 1; omega)) (fun i => rnd_lt hd10 po _ i)
            · exact absurd (Int32.not_lt.mp hge) c_54
        · exact absurd (Int32.not_lt.mp hge) c_33
    | false =>
      rw [hM] at ho2 hfx
      refine ax_istore_n G d_Mo_fixed_12 rfl (by decide) ?_
      refine ax_iload_n G d_Mo_fixed_13 rfl rfl ?_
      refine ax_if_eq (tgt := 26) G d_Mo_fixed_14 (by decide) (fun c_14 => ?_) (fun c_14 => ?_)
      · refine ax_aload_n G d_Mo_fixed_26 rfl rfl ?_
        refine ax_get (ci := 6) (j := 29) G d_Mo_fixed_27 rfl rfl (by decide) k_Mo_194 rfl ?_
        refine ax_istore G d_Mo_fixed_30 (by decide) ?_
        refine ax_iload_n G d_Mo_fixed_32 rfl rfl ?_
        refine ax_if_ge (tgt := 40) G d_Mo_fixed_33 (by decide) (fun c_33 => ?_) (fun c_33 => ?_)
        · refine ax_iload_n G d_Mo_fixed_40 rfl rfl ?_
          refine ax_if_eq (tgt := 50) G d_Mo_fixed_41 (by decide) (fun c_41 => ?_) (fun c_41 => ?_)
          · refine ax_iload_n G d_Mo_fixed_50 rfl rfl ?_
            refine ax_istore G d_Mo_fixed_51 (by decide) ?_
            refine ax_iload_n G d_Mo_fixed_53 rfl rfl ?_
            refine ax_if_ge (tgt := 61) G d_Mo_fixed_54 (by decide) (fun c_54 => ?_) (fun c_54 => ?_)
            · exact core _ _ po.toInt po (po + nI pz) _ false o2 hfx rfl (by omega) (by omega) (by omega) (by omega) (fun q => by omega) (Or.inr (by omega)) (fun j hj => ho2 j (by rw [hz] at hj; show j < _ + 0; omega)) (fun i => rnd_lt hd10 po _ i)
            · exact absurd (Int32.not_lt.mp hge) c_54
          · exact absurd rfl c_41
        · exact absurd (Int32.not_lt.mp hge) c_33
      · exact absurd rfl c_14

