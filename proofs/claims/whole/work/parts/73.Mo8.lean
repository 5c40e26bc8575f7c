/-! FormatDeskModel: exponent, scientific -/
set_option maxRecDepth 20000 in
set_option maxHeartbeats 1000000 in
theorem ct_Mo_exponent (l : Launch) (pz ct : Nat) (po : Int32) (d : Nat → Nat) (dd oo : Nat → Int32) (er : Int32) (le : Int32) (ma : Int32) (ou : Int32) (ta : Int32) (di : Int32) (wr : Int32) (at0 : Int32) (wi : Int32) (pr : Int32) (lf : Bool) (pl : Bool) (bl : Bool) (ha : Bool) (ze : Bool) (wt : Bool) (pt : Bool) (fr : Int32) (si : Int32) (zs : Bool) (hd : de_is dd ct d) (hct : ct ≤ 800) (hp : pz ≤ 300) : ax_CT l y_Mo_exponent c_Mo_exponent 3 (some .int) 1 [.ref 20, .int (nI pz)] (pc_Mo er le ma ou ta di wr at0 wi pr lf pl bl ha ze wt pt fr si zs (nI ct) po ++ pcD dd ++ pcO oo) (fun r h => r = some (.int (xpo d ct po pz)) ∧ ∃ oo', h = pc_Mo er le ma ou ta di wr at0 wi pr lf pl bl ha ze wt pt fr si zs (nI ct) po ++ pcD dd ++ pcO oo' ∧ ∀ i, i ≤ pz → oo' i = nI (cD d ct po ((pz : Int) + 1) i)) := by
  refine ax_ofV (by decide) (Nat.le_of_ble_eq_true rfl) ?_
  intro p e s m args below meth c D cid ad A Qc G hr E
  refine ax_aload_n G d_Mo_exponent_0 rfl rfl ?_
  refine ax_get (ci := 6) (j := 28) G d_Mo_exponent_1 rfl rfl (by decide) k_Mo_191 rfl ?_
  refine ax_if_ne (tgt := 29) G d_Mo_exponent_4 (by decide) (fun c_4 => ?_) (fun c_4 => ?_)
  · have hc0 : ¬ ct = 0 := fun q => c_4 (by rw [q]; rfl)
    have hz : (nI (pz + 1)).toInt = (pz : Int) + 1 := by rw [nI_toInt (by omega)]; omega
    refine ax_aload_n G d_Mo_exponent_29 rfl rfl ?_
    refine ax_iload_n G d_Mo_exponent_30 rfl rfl ?_
    refine ax_iconst (v := 1) G d_Mo_exponent_31 (by decide) ?_
    refine ax_iadd G d_Mo_exponent_32 ?_
    rw [nI_1]
    refine ax_callV (n := 1) G (ct_Mo_cut l ct po (nI (pz + 1)) d dd oo _ _ _ _ _ _ _ _ _ _ _ _ _ _ _ _ _ _ _ _ _ hd hct (by rw [hz]; omega)) d_Mo_exponent_33 rfl ⟨rfl, rfl, rfl, trivial⟩ rfl rfl rfl kc_Mo_cut ⟨k_Mo_197, ki_Mo_cut, ks_Mo_cut, kk_Mo⟩ (by decide +kernel) rfl ⟨by decide, by decide⟩ (Nat.le_of_ble_eq_true rfl) ⟨by decide, by decide⟩ (fun r hc_ hq hk_ => ?_)
    obtain ⟨rfl, o2, rfl, ho⟩ := hq
    rw [hz] at ho ⊢
    have ho2 : ∀ i, i ≤ pz → o2 i = nI (cD d ct po ((pz : Int) + 1) i) := fun i hi => ho (by omega) i (by omega)
    unfold xpo at E
    rw [if_neg hc0] at E
    cases hM : cutM d ct ((pz : Int) + 1) with
    | true =>
      rw [hM] at E
      refine ax_if_eq (tgt := 48) G d_Mo_exponent_36 (by decide) (fun c_36 => ?_) (fun c_36 => ?_)
      · exact absurd c_36 (by decide)
      · refine ax_aload_n G d_Mo_exponent_39 rfl rfl ?_
        refine ax_get (ci := 6) (j := 29) G d_Mo_exponent_40 rfl rfl (by decide) k_Mo_194 rfl ?_
        refine ax_iconst (v := 1) G d_Mo_exponent_43 (by decide) ?_
        refine ax_iadd G d_Mo_exponent_44 ?_
        refine ax_goto (tgt := 52) G d_Mo_exponent_45 (by decide) ?_
        refine ax_iconst (v := 1) G d_Mo_exponent_52 (by decide) ?_
        refine ax_isub G d_Mo_exponent_53 ?_
        exact ax_iret G hr E d_Mo_exponent_54 rfl ⟨rfl, o2, rfl, ho2⟩
    | false =>
      rw [hM] at E
      refine ax_if_eq (tgt := 48) G d_Mo_exponent_36 (by decide) (fun c_36 => ?_) (fun c_36 => ?_)
      · refine ax_aload_n G d_Mo_exponent_48 rfl rfl ?_
        refine ax_get (ci := 6) (j := 29) G d_Mo_exponent_49 rfl rfl (by decide) k_Mo_194 rfl ?_
        refine ax_iconst (v := 1) G d_Mo_exponent_52 (by decide) ?_
        refine ax_isub G d_Mo_exponent_53 ?_
        exact ax_iret G hr E d_Mo_exponent_54 rfl ⟨rfl, o2, rfl, ho2⟩
      · exact absurd rfl c_36
  · have hc0 : ct = 0 := by
      rcases Nat.eq_zero_or_pos ct with q | q
      · exact q
      · exact absurd c_4 (nI_ne0 q (by omega))
    subst hc0
    have hx0 : xpo d 0 po pz = 0 := rfl
    rw [hx0] at E
    have loop : ∀ (q k : Nat) (o2 : Nat → Int32), k + q = pz + 1 → (∀ i, i < k → o2 i = nI 0) → ax_V p l e (ax_rm 1) s m args below meth c D cid ad A 3 0 0 (MQ below Qc args s 0 0 A) 9 [(0, .ref 20), (1, .int (nI pz)), (2, .int (nI k))] [] (pc_Mo er le ma ou ta di wr at0 wi pr lf pl bl ha ze wt pt fr si zs (nI 0) po ++ pcD dd ++ pcO o2) := by
      intro q
      induction q with
      | zero =>
        intro k o2 hk ho
        refine ax_iload_n G d_Mo_exponent_9 rfl rfl ?_
        refine ax_iload_n G d_Mo_exponent_10 rfl rfl ?_
        refine ax_icmp_gt (tgt := 27) G d_Mo_exponent_11 (by decide) (fun c_11 => ?_) (fun c_11 => ?_)
        · refine ax_iconst (v := 0) G d_Mo_exponent_27 (by decide) ?_
          exact ax_iret G hr E d_Mo_exponent_28 rfl ⟨rfl, o2, rfl, fun i hi => by rw [cD_00]; exact ho i (by omega)⟩
        · exact absurd (nI_lt (by omega) (by omega)) c_11
      | succ q ih =>
        intro k o2 hk ho
        refine ax_iload_n G d_Mo_exponent_9 rfl rfl ?_
        refine ax_iload_n G d_Mo_exponent_10 rfl rfl ?_
        refine ax_icmp_gt (tgt := 27) G d_Mo_exponent_11 (by decide) (fun c_11 => ?_) (fun c_11 => ?_)
        · exact absurd c_11 (nI_nlt (by omega) (by omega))
        · refine ax_aload_n G d_Mo_exponent_14 rfl rfl ?_
          refine ax_get (ci := 6) (j := 27) G d_Mo_exponent_15 rfl rfl (by decide) k_Mo_36 rfl ?_
          refine ax_iload_n G d_Mo_exponent_18 rfl rfl ?_
          refine ax_iconst (v := 0) G d_Mo_exponent_19 (by decide) ?_
          refine ax_iast G d_Mo_exponent_20 rfl (vp_in_nI (by omega) (by decide)) ?_
          rw [nI_clamp (by omega)]
          refine ax_iincZ (z := 1) G d_Mo_exponent_21 rfl (by decide) (by decide) ?_
          refine ax_goto (tgt := 9) G d_Mo_exponent_24 (by decide) ?_
          rw [nI_1]
          exact ih (k + 1) _ (by omega) (fun i hi => by
            by_cases hik : i = k
            · subst hik; exact pk_us
            · rw [pk_un hik]; exact ho i (by omega))
    refine ax_iconst (v := 0) G d_Mo_exponent_7 (by decide) ?_
    refine ax_istore_n G d_Mo_exponent_8 rfl (by decide) ?_
    exact loop (pz + 1) 0 oo (by omega) (fun i hi => absurd hi (Nat.not_lt_zero i))
set_option maxRecDepth 20000 in
set_option maxHeartbeats 1000000 in
theorem ct_Mo_scientific (l : Launch) (pz ct : Nat) (gr : Bool) (po : Int32) (d : Nat → Nat) (dd oo bf : Nat → Int32) (er : Int32) (le : Int32) (ma : Int32) (ou : Int32) (ta : Int32) (di : Int32) (wr : Int32) (at0 : Int32) (wi : Int32) (pr : Int32) (lf : Bool) (pl : Bool) (bl : Bool) (ha : Bool) (ze : Bool) (wt : Bool) (pt : Bool) (fr : Int32) (zs : Bool) (hd : de_is dd ct d) (hct : ct ≤ 800) (hp : pz ≤ 300) (hx9 : -999 ≤ (xpo d ct po pz).toInt ∧ (xpo d ct po pz).toInt ≤ 999) : ax_CT l y_Mo_scientific c_Mo_scientific 5 none 2 [.ref 20, .int (nI pz), .int (zb gr)] (pc_Mo er le ma ou ta di wr at0 wi pr lf pl bl ha ze wt pt fr (nI 0) zs (nI ct) po ++ pcD dd ++ pcO oo ++ pcB bf) (fun r h => r = none ∧ ∃ oo' bf', h = pc_Mo er le ma ou ta di wr at0 wi pr lf pl bl ha ze wt pt fr (nI (sciM (cD d ct po ((pz : Int) + 1)) pz ha gr (xpo d ct po pz).toInt).length) zs (nI ct) po ++ pcD dd ++ pcO oo' ++ pcB bf' ∧ mi_is bf' (sciM (cD d ct po ((pz : Int) + 1)) pz ha gr (xpo d ct po pz).toInt)) := by
  refine ax_ofV (by decide) (Nat.le_of_ble_eq_true rfl) ?_
  intro p e s m args below meth c D cid ad A Qc G hr E
  have hd10 : ∀ i, i < ct → d i < 10 := fun i hi => (hd i hi).2
  have hlt := cD_lt hd10 po ((pz : Int) + 1)
  refine ax_aload_n G d_Mo_scientific_0 rfl rfl ?_
  refine ax_iload_n G d_Mo_scientific_1 rfl rfl ?_
  refine ax_callV (n := 1) G (ct_Mo_exponent l pz ct po d dd oo _ _ _ _ _ _ _ _ _ _ _ _ _ _ _ _ _ _ _ _ hd hct hp) d_Mo_scientific_2 rfl ⟨rfl, rfl, rfl, trivial⟩ rfl rfl rfl kc_Mo_exponent ⟨k_Mo_200, ki_Mo_exponent, ks_Mo_exponent, kk_Mo⟩ (by decide +kernel) rfl ⟨by decide, by decide⟩ (Nat.le_of_ble_eq_true rfl) ⟨by decide, by decide⟩ (fun r hc_ hq hk_ => ?_)
  obtain ⟨rfl, o2, rfl, ho⟩ := hq
  generalize hg : cD d ct po ((pz : Int) + 1) = g at *
  generalize xpo d ct po pz = x at *
  have hPl := pnt_len pz ha
  have expt : ∀ (Y : List Nat) (b2 : Nat → Int32) (lv : List (Nat × Value)), Y.length ≤ 400 → mi_is b2 Y → Y ++ expo x.toInt true = sciM g pz ha gr x.toInt → ax_lsb [(0, .ref 20), (3, .int x)] lv → ax_V p l e (ax_rm 2) s m args below meth c D cid ad A 5 0 0 (MQ below Qc args s 0 0 A) 80 lv [] (pc_Mo er le ma ou ta di wr at0 wi pr lf pl bl ha ze wt pt fr (nI (Y).length) zs (nI ct) po ++ pcD dd ++ pcO o2 ++ pcB b2) := by
    intro Y b2 lv hY hb hfin hlv
    refine ax_less (lv' := [(0, .ref 20), (3, .int x)]) ?_ hlv
    rw [← hfin] at E
    have num : ∀ (v sg : Nat) (b3 : Nat → Int32) (lv : List (Nat × Value)), v = x.toInt.natAbs → sg = (if x.toInt < 0 then 45 else 43) → mi_is b3 (Y ++ [sg]) → ax_lsb [(0, .ref 20), (4, .int (nI v))] lv → ax_V p l e (ax_rm 2) s m args below meth c D cid ad A 5 0 0 (MQ below Qc args s 0 0 A) 107 lv [] (pc_Mo er le ma ou ta di wr at0 wi pr lf pl bl ha ze wt pt fr (nI (Y ++ [sg]).length) zs (nI ct) po ++ pcD dd ++ pcO o2 ++ pcB b3) := by
      intro v sg b3 lv hv hsg hb3 hlv
      refine ax_less (lv' := [(0, .ref 20), (4, .int (nI v))]) ?_ hlv
      have hv9 : v ≤ 999 := by omega
      have hex : expo x.toInt true = [sg] ++ ((if 100 ≤ v then [48 + v / 100] else []) ++ [48 + v / 10 % 10] ++ [48 + v % 10]) := by
        unfold expo
        rw [← hv, ← hsg, if_neg (show ¬ 1000 ≤ v by omega), if_pos (Or.inr rfl)]
        by_cases h1 : 100 ≤ v
        · rw [if_pos h1, if_pos h1, show v / 100 % 10 = v / 100 by omega]; rfl
        · rw [if_neg h1, if_neg h1]; rfl
      rw [hex] at E
      generalize hmid : (if 100 ≤ v then [48 + v / 100] else []) = md at E
      have hml : md.length ≤ 1 := by rw [← hmid]; split <;> simp
      have tail : ∀ (b4 : Nat → Int32), mi_is b4 (Y ++ [sg] ++ md) → ax_V p l e (ax_rm 2) s m args below meth c D cid ad A 5 0 0 (MQ below Qc args s 0 0 A) 126 [(0, .ref 20), (4, .int (nI v))] [] (pc_Mo er le ma ou ta di wr at0 wi pr lf pl bl ha ze wt pt fr (nI (Y ++ [sg] ++ md).length) zs (nI ct) po ++ pcD dd ++ pcO o2 ++ pcB b4) := by
        intro b4 hb4
        have l1 : (Y ++ [sg] ++ md).length ≤ 500 := by rw [List.length_append, List.length_append]; show _ + 1 + _ ≤ _; omega
        refine ax_aload_n G d_Mo_scientific_126 rfl rfl ?_
        refine ax_bipush (v := 48) G d_Mo_scientific_127 (by decide) ?_
        refine ax_iload G d_Mo_scientific_129 rfl ?_
        refine ax_bipush (v := 10) G d_Mo_scientific_131 (by decide) ?_
        rw [show (10 : Int32) = nI 10 from rfl]
        refine ax_idiv G d_Mo_scientific_133 (by decide) ?_
        rw [pk_div (by omega) (by decide) (by decide)]
        refine ax_bipush (v := 10) G d_Mo_scientific_134 (by decide) ?_
        rw [show (10 : Int32) = nI 10 from rfl]
        refine ax_irem G d_Mo_scientific_136 (by decide) ?_
        rw [pk_rem (by omega) (by decide) (by decide), show (48 : Int32) = nI 48 from rfl]
        refine ax_iadd G d_Mo_scientific_137 ?_
        rw [nI_add]
        refine ax_callV (n := 1) G (ct_Mo_add l (Y ++ [sg] ++ md) (48 + v / 10 % 10) b4 _ _ _ _ _ _ _ _ _ _ _ _ _ _ _ _ _ _ _ _ _ hb4 (by omega) (by omega)) d_Mo_scientific_138 rfl ⟨rfl, rfl, trivial⟩ rfl rfl rfl kc_Mo_add ⟨k_Mo_162, ki_Mo_add, ks_Mo_add, kk_Mo⟩ (by decide +kernel) rfl ⟨by decide, by decide⟩ (Nat.le_of_ble_eq_true rfl) ⟨by decide, by decide⟩ (fun r hc_ hq hk_ => ?_)
        obtain ⟨rfl, b5, rfl, hb5⟩ := hq
        refine ax_aload_n G d_Mo_scientific_141 rfl rfl ?_
        refine ax_bipush (v := 48) G d_Mo_scientific_142 (by decide) ?_
        refine ax_iload G d_Mo_scientific_144 rfl ?_
        refine ax_bipush (v := 10) G d_Mo_scientific_146 (by decide) ?_
        rw [show (10 : Int32) = nI 10 from rfl]
        refine ax_irem G d_Mo_scientific_148 (by decide) ?_
        rw [pk_rem (by omega) (by decide) (by decide), show (48 : Int32) = nI 48 from rfl]
        refine ax_iadd G d_Mo_scientific_149 ?_
        rw [nI_add]
        refine ax_callV (n := 1) G (ct_Mo_add l (Y ++ [sg] ++ md ++ [48 + v / 10 % 10]) (48 + v % 10) b5 _ _ _ _ _ _ _ _ _ _ _ _ _ _ _ _ _ _ _ _ _ hb5 (by rw [List.length_append]; show _ + 1 < _; omega) (by omega)) d_Mo_scientific_150 rfl ⟨rfl, rfl, trivial⟩ rfl rfl rfl kc_Mo_add ⟨k_Mo_162, ki_Mo_add, ks_Mo_add, kk_Mo⟩ (by decide +kernel) rfl ⟨by decide, by decide⟩ (Nat.le_of_ble_eq_true rfl) ⟨by decide, by decide⟩ (fun r hc_ hq hk_ => ?_)
        obtain ⟨rfl, b6, rfl, hb6⟩ := hq
        have e9 : Y ++ ([sg] ++ (md ++ [48 + v / 10 % 10] ++ [48 + v % 10])) = Y ++ [sg] ++ md ++ [48 + v / 10 % 10] ++ [48 + v % 10] := by simp only [List.append_assoc]
        rw [e9] at E
        exact ax_vret G hr E d_Mo_scientific_153 rfl ⟨rfl, o2, b6, rfl, hb6⟩
      refine ax_iload G d_Mo_scientific_107 rfl ?_
      refine ax_bipush (v := 99) G d_Mo_scientific_109 (by decide) ?_
      refine ax_icmp_le (tgt := 126) G d_Mo_scientific_111 (by decide) (fun c_111 => ?_) (fun c_111 => ?_)
      · have h1 : ¬ 100 ≤ v := by have := (nI_leI (b := 99) (by omega) (by decide)).mp c_111; omega
        rw [if_neg h1] at hmid
        subst hmid
        rw [List.append_nil] at tail
        exact tail b3 hb3
      · have h1 : 100 ≤ v := by
          rcases Nat.lt_or_ge v 100 with q | q
          · exact absurd ((nI_leI (b := 99) (by omega) (by decide)).mpr (by omega)) c_111
          · exact q
        rw [if_pos h1] at hmid
        subst hmid
        refine ax_aload_n G d_Mo_scientific_114 rfl rfl ?_
        refine ax_bipush (v := 48) G d_Mo_scientific_115 (by decide) ?_
        refine ax_iload G d_Mo_scientific_117 rfl ?_
        refine ax_bipush (v := 100) G d_Mo_scientific_119 (by decide) ?_
        rw [show (100 : Int32) = nI 100 from rfl]
        refine ax_idiv G d_Mo_scientific_121 (by decide) ?_
        rw [pk_div (by omega) (by decide) (by decide), show (48 : Int32) = nI 48 from rfl]
        refine ax_iadd G d_Mo_scientific_122 ?_
        rw [nI_add]
        refine ax_callV (n := 1) G (ct_Mo_add l (Y ++ [sg]) (48 + v / 100) b3 _ _ _ _ _ _ _ _ _ _ _ _ _ _ _ _ _ _ _ _ _ hb3 (by rw [List.length_append]; show _ + 1 < _; omega) (by omega)) d_Mo_scientific_123 rfl ⟨rfl, rfl, trivial⟩ rfl rfl rfl kc_Mo_add ⟨k_Mo_162, ki_Mo_add, ks_Mo_add, kk_Mo⟩ (by decide +kernel) rfl ⟨by decide, by decide⟩ (Nat.le_of_ble_eq_true rfl) ⟨by decide, by decide⟩ (fun r hc_ hq hk_ => ?_)
        obtain ⟨rfl, b4, rfl, hb4⟩ := hq
        exact tail b4 hb4
    by_cases hx : x < 0
    · have hxi : x.toInt < 0 := (i32_lt _ _).mp hx
      have en : -x = nI x.toInt.natAbs := by apply i32_eq; rw [i32_neg _ (by omega), nI_toInt (by omega)]; omega
      refine ax_aload_n G d_Mo_scientific_80 rfl rfl ?_
      refine ax_iload_n G d_Mo_scientific_81 rfl rfl ?_
      refine ax_if_ge (tgt := 90) G d_Mo_scientific_82 (by decide) (fun c_82 => ?_) (fun c_82 => ?_)
      · exact absurd hx (Int32.not_lt.mpr c_82)
      · refine ax_bipush (v := 45) G d_Mo_scientific_85 (by decide) ?_
        refine ax_goto (tgt := 92) G d_Mo_scientific_87 (by decide) ?_
        refine ax_callV (n := 1) G (ct_Mo_add l Y 45 b2 _ _ _ _ _ _ _ _ _ _ _ _ _ _ _ _ _ _ _ _ _ hb (by omega) (by decide)) d_Mo_scientific_92 rfl ⟨rfl, rfl, trivial⟩ rfl rfl rfl kc_Mo_add ⟨k_Mo_162, ki_Mo_add, ks_Mo_add, kk_Mo⟩ (by decide +kernel) rfl ⟨by decide, by decide⟩ (Nat.le_of_ble_eq_true rfl) ⟨by decide, by decide⟩ (fun r hc_ hq hk_ => ?_)
        obtain ⟨rfl, b3, rfl, hb3⟩ := hq
        refine ax_iload_n G d_Mo_scientific_95 rfl rfl ?_
        refine ax_if_ge (tgt := 104) G d_Mo_scientific_96 (by decide) (fun c_96 => ?_) (fun c_96 => ?_)
        · exact absurd hx (Int32.not_lt.mpr c_96)
        · refine ax_iload_n G d_Mo_scientific_99 rfl rfl ?_
          refine ax_ineg G d_Mo_scientific_100 ?_
          rw [en]
          refine ax_goto (tgt := 105) G d_Mo_scientific_101 (by decide) ?_
          refine ax_istore G d_Mo_scientific_105 (by decide) ?_
          exact num _ 45 b3 _ rfl (by rw [if_pos hxi]) hb3 ⟨rfl, rfl, trivial⟩
    · have hxi : ¬ x.toInt < 0 := fun q => hx ((i32_lt _ _).mpr q)
      have en : x = nI x.toInt.natAbs := by apply i32_eq; rw [nI_toInt (by omega)]; omega
      refine ax_aload_n G d_Mo_scientific_80 rfl rfl ?_
      refine ax_iload_n G d_Mo_scientific_81 rfl rfl ?_
      refine ax_if_ge (tgt := 90) G d_Mo_scientific_82 (by decide) (fun c_82 => ?_) (fun c_82 => ?_)
      · refine ax_bipush (v := 43) G d_Mo_scientific_90 (by decide) ?_
        refine ax_callV (n := 1) G (ct_Mo_add l Y 43 b2 _ _ _ _ _ _ _ _ _ _ _ _ _ _ _ _ _ _ _ _ _ hb (by omega) (by decide)) d_Mo_scientific_92 rfl ⟨rfl, rfl, trivial⟩ rfl rfl rfl kc_Mo_add ⟨k_Mo_162, ki_Mo_add, ks_Mo_add, kk_Mo⟩ (by decide +kernel) rfl ⟨by decide, by decide⟩ (Nat.le_of_ble_eq_true rfl) ⟨by decide, by decide⟩ (fun r hc_ hq hk_ => ?_)
        obtain ⟨rfl, b3, rfl, hb3⟩ := hq
        refine ax_iload_n G d_Mo_scientific_95 rfl rfl ?_
        refine ax_if_ge (tgt := 104) G d_Mo_scientific_96 (by decide) (fun c_96 => ?_) (fun c_96 => ?_)
        · refine ax_iload_n G d_Mo_scientific_104 rfl rfl ?_
          refine ax_istore G d_Mo_scientific_105 (by decide) ?_
          exact num _ 43 b3 _ rfl (by rw [if_neg hxi]) hb3 ⟨rfl, by rw [← en]; rfl, trivial⟩
        · exact absurd (Int32.not_lt.mp hx) c_96
      · exact absurd (Int32.not_lt.mp hx) c_82
  have loop : ∀ (q j : Nat) (b2 : Nat → Int32), j + q = pz → mi_is b2 ([48 + g 0] ++ pnt pz ha ++ (List.range j).map (fun i => 48 + g (i + 1))) → ax_V p l e (ax_rm 2) s m args below meth c D cid ad A 5 0 0 (MQ below Qc args s 0 0 A) 39 [(0, .ref 20), (1, .int (nI pz)), (2, .int (zb gr)), (3, .int x), (4, .int (nI (j + 1)))] [] (pc_Mo er le ma ou ta di wr at0 wi pr lf pl bl ha ze wt pt fr (nI ([48 + g 0] ++ pnt pz ha ++ (List.range j).map (fun i => 48 + g (i + 1))).length) zs (nI ct) po ++ pcD dd ++ pcO o2 ++ pcB b2) := by
    intro q
    induction q with
    | zero =>
      intro j b2 hj hb
      have ej : j = pz := by omega
      subst ej
      have hl3 : ([48 + g 0] ++ pnt j ha ++ (List.range j).map (fun i => 48 + g (i + 1))).length ≤ 310 := by
        rw [List.length_append, List.length_append, List.length_map, List.length_range]; show 1 + _ + _ ≤ _; omega
      have fin : ∀ b3, mi_is b3 ([48 + g 0] ++ pnt j ha ++ (List.range j).map (fun i => 48 + g (i + 1)) ++ [if gr then 69 else 101]) → ax_V p l e (ax_rm 2) s m args below meth c D cid ad A 5 0 0 (MQ below Qc args s 0 0 A) 80 [(0, .ref 20), (1, .int (nI j)), (2, .int (zb gr)), (3, .int x), (4, .int (nI (j + 1)))] [] (pc_Mo er le ma ou ta di wr at0 wi pr lf pl bl ha ze wt pt fr (nI ([48 + g 0] ++ pnt j ha ++ (List.range j).map (fun i => 48 + g (i + 1)) ++ [if gr then 69 else 101]).length) zs (nI ct) po ++ pcD dd ++ pcO o2 ++ pcB b3) := by
        intro b3 hb3
        exact expt _ b3 _ (by rw [List.length_append]; show _ + 1 ≤ _; omega) hb3 rfl ⟨rfl, rfl, trivial⟩
      refine ax_iload G d_Mo_scientific_39 rfl ?_
      refine ax_iload_n G d_Mo_scientific_41 rfl rfl ?_
      refine ax_icmp_gt (tgt := 65) G d_Mo_scientific_42 (by decide) (fun c_42 => ?_) (fun c_42 => ?_)
      · cases gr with
        | true =>
          refine ax_aload_n G d_Mo_scientific_65 rfl rfl ?_
          refine ax_iload_n G d_Mo_scientific_66 rfl rfl ?_
          refine ax_if_eq (tgt := 75) G d_Mo_scientific_67 (by decide) (fun c_67 => ?_) (fun c_67 => ?_)
          · exact absurd c_67 (by decide)
          · refine ax_bipush (v := 69) G d_Mo_scientific_70 (by decide) ?_
            refine ax_goto (tgt := 77) G d_Mo_scientific_72 (by decide) ?_
            refine ax_callV (n := 1) G (ct_Mo_add l _ 69 b2 _ _ _ _ _ _ _ _ _ _ _ _ _ _ _ _ _ _ _ _ _ hb (by omega) (by decide)) d_Mo_scientific_77 rfl ⟨rfl, rfl, trivial⟩ rfl rfl rfl kc_Mo_add ⟨k_Mo_162, ki_Mo_add, ks_Mo_add, kk_Mo⟩ (by decide +kernel) rfl ⟨by decide, by decide⟩ (Nat.le_of_ble_eq_true rfl) ⟨by decide, by decide⟩ (fun r hc_ hq hk_ => ?_)
            obtain ⟨rfl, b3, rfl, hb3⟩ := hq
            exact fin b3 hb3
        | false =>
          refine ax_aload_n G d_Mo_scientific_65 rfl rfl ?_
          refine ax_iload_n G d_Mo_scientific_66 rfl rfl ?_
          refine ax_if_eq (tgt := 75) G d_Mo_scientific_67 (by decide) (fun c_67 => ?_) (fun c_67 => ?_)
          · refine ax_bipush (v := 101) G d_Mo_scientific_75 (by decide) ?_
            refine ax_callV (n := 1) G (ct_Mo_add l _ 101 b2 _ _ _ _ _ _ _ _ _ _ _ _ _ _ _ _ _ _ _ _ _ hb (by omega) (by decide)) d_Mo_scientific_77 rfl ⟨rfl, rfl, trivial⟩ rfl rfl rfl kc_Mo_add ⟨k_Mo_162, ki_Mo_add, ks_Mo_add, kk_Mo⟩ (by decide +kernel) rfl ⟨by decide, by decide⟩ (Nat.le_of_ble_eq_true rfl) ⟨by decide, by decide⟩ (fun r hc_ hq hk_ => ?_)
            obtain ⟨rfl, b3, rfl, hb3⟩ := hq
            exact fin b3 hb3
          · exact absurd rfl c_67
      · exact absurd (nI_lt (by omega) (by omega)) c_42
    | succ q ih =>
      intro j b2 hj hb
      have hgl := hlt (j + 1)
      have hl3 : ([48 + g 0] ++ pnt pz ha ++ (List.range j).map (fun i => 48 + g (i + 1))).length ≤ 310 := by
        rw [List.length_append, List.length_append, List.length_map, List.length_range]; show 1 + _ + _ ≤ _; omega
      refine ax_iload G d_Mo_scientific_39 rfl ?_
      refine ax_iload_n G d_Mo_scientific_41 rfl rfl ?_
      refine ax_icmp_gt (tgt := 65) G d_Mo_scientific_42 (by decide) (fun c_42 => ?_) (fun c_42 => ?_)
      · exact absurd c_42 (nI_nlt (by omega) (by omega))
      · refine ax_aload_n G d_Mo_scientific_45 rfl rfl ?_
        refine ax_bipush (v := 48) G d_Mo_scientific_46 (by decide) ?_
        refine ax_aload_n G d_Mo_scientific_48 rfl rfl ?_
        refine ax_get (ci := 6) (j := 27) G d_Mo_scientific_49 rfl rfl (by decide) k_Mo_36 rfl ?_
        refine ax_iload G d_Mo_scientific_52 rfl ?_
        refine ax_iald G d_Mo_scientific_54 rfl (vp_in_nI (by omega) (by decide)) ?_
        rw [nI_clamp (by omega), ho (j + 1) (by omega), show (48 : Int32) = nI 48 from rfl]
        refine ax_iadd G d_Mo_scientific_55 ?_
        rw [nI_add]
        refine ax_callV (n := 1) G (ct_Mo_add l _ (48 + g (j + 1)) b2 _ _ _ _ _ _ _ _ _ _ _ _ _ _ _ _ _ _ _ _ _ hb (by omega) (by omega)) d_Mo_scientific_56 rfl ⟨rfl, rfl, trivial⟩ rfl rfl rfl kc_Mo_add ⟨k_Mo_162, ki_Mo_add, ks_Mo_add, kk_Mo⟩ (by decide +kernel) rfl ⟨by decide, by decide⟩ (Nat.le_of_ble_eq_true rfl) ⟨by decide, by decide⟩ (fun r hc_ hq hk_ => ?_)
        obtain ⟨rfl, b3, rfl, hb3⟩ := hq
        have e3 : [48 + g 0] ++ pnt pz ha ++ (List.range j).map (fun i => 48 + g (i + 1)) ++ [48 + g (j + 1)] = [48 + g 0] ++ pnt pz ha ++ (List.range (j + 1)).map (fun i => 48 + g (i + 1)) := by rw [List.append_assoc, rg_s]
        rw [e3] at hb3 ⊢
        refine ax_iincZ (z := 1) G d_Mo_scientific_59 rfl (by decide) (by decide) ?_
        refine ax_goto (tgt := 39) G d_Mo_scientific_62 (by decide) ?_
        rw [nI_1]
        exact ih (j + 1) b3 (by omega) hb3
  have g0 := hlt 0
  refine ax_istore_n G d_Mo_scientific_5 rfl (by decide) ?_
  refine ax_aload_n G d_Mo_scientific_6 rfl rfl ?_
  refine ax_bipush (v := 48) G d_Mo_scientific_7 (by decide) ?_
  refine ax_aload_n G d_Mo_scientific_9 rfl rfl ?_
  refine ax_get (ci := 6) (j := 27) G d_Mo_scientific_10 rfl rfl (by decide) k_Mo_36 rfl ?_
  refine ax_iconst (v := 0) G d_Mo_scientific_13 (by decide) ?_
  refine ax_iald G d_Mo_scientific_14 rfl (vp_in_nI (n := 0) (by decide) (by decide)) ?_
  rw [show (0 : Int32).toNatClampNeg = 0 from rfl, ho 0 (Nat.zero_le _), show (48 : Int32) = nI 48 from rfl]
  refine ax_iadd G d_Mo_scientific_15 ?_
  rw [nI_add]
  refine ax_callV (n := 1) G (ct_Mo_add l [] (48 + g 0) bf _ _ _ _ _ _ _ _ _ _ _ _ _ _ _ _ _ _ _ _ _ (mi_nil bf) (by decide) (by omega)) d_Mo_scientific_16 rfl ⟨rfl, rfl, trivial⟩ rfl rfl rfl kc_Mo_add ⟨k_Mo_162, ki_Mo_add, ks_Mo_add, kk_Mo⟩ (by decide +kernel) rfl ⟨by decide, by decide⟩ (Nat.le_of_ble_eq_true rfl) ⟨by decide, by decide⟩ (fun r hc_ hq hk_ => ?_)
  obtain ⟨rfl, b1, rfl, hb1⟩ := hq
  have go : ∀ b3, mi_is b3 ([48 + g 0] ++ pnt pz ha) → ax_V p l e (ax_rm 2) s m args below meth c D cid ad A 5 0 0 (MQ below Qc args s 0 0 A) 36 [(0, .ref 20), (1, .int (nI pz)), (2, .int (zb gr)), (3, .int x)] [] (pc_Mo er le ma ou ta di wr at0 wi pr lf pl bl ha ze wt pt fr (nI ([48 + g 0] ++ pnt pz ha).length) zs (nI ct) po ++ pcD dd ++ pcO o2 ++ pcB b3) := by
    intro b3 hb3
    refine ax_iconst (v := 1) G d_Mo_scientific_36 (by decide) ?_
    refine ax_istore G d_Mo_scientific_37 (by decide) ?_
    have q := loop pz 0 b3 (by omega) (by rw [List.range_zero, List.map_nil, List.append_nil]; exact hb3)
    rw [List.range_zero, List.map_nil, List.append_nil] at q
    exact q
  have yes : pnt pz ha = [46] → ax_V p l e (ax_rm 2) s m args below meth c D cid ad A 5 0 0 (MQ below Qc args s 0 0 A) 30 [(0, .ref 20), (1, .int (nI pz)), (2, .int (zb gr)), (3, .int x)] [] (pc_Mo er le ma ou ta di wr at0 wi pr lf pl bl ha ze wt pt fr (nI ([48 + g 0]).length) zs (nI ct) po ++ pcD dd ++ pcO o2 ++ pcB b1) := by
    intro hy
    rw [hy] at go
    refine ax_aload_n G d_Mo_scientific_30 rfl rfl ?_
    refine ax_bipush (v := 46) G d_Mo_scientific_31 (by decide) ?_
    refine ax_callV (n := 1) G (ct_Mo_add l [48 + g 0] 46 b1 _ _ _ _ _ _ _ _ _ _ _ _ _ _ _ _ _ _ _ _ _ hb1 (show 1 < 2600 by decide) (by decide)) d_Mo_scientific_33 rfl ⟨rfl, rfl, trivial⟩ rfl rfl rfl kc_Mo_add ⟨k_Mo_162, ki_Mo_add, ks_Mo_add, kk_Mo⟩ (by decide +kernel) rfl ⟨by decide, by decide⟩ (Nat.le_of_ble_eq_true rfl) ⟨by decide, by decide⟩ (fun r hc_ hq hk_ => ?_)
    obtain ⟨rfl, b3, rfl, hb3⟩ := hq
    exact go b3 hb3
  refine ax_iload_n G d_Mo_scientific_19 rfl rfl ?_
  refine ax_if_gt (tgt := 30) G d_Mo_scientific_20 (by decide) (fun c_20 => ?_) (fun c_20 => ?_)
  · have hp0 : 0 < pz := by
      rcases Nat.eq_zero_or_pos pz with q | q
      · rw [q] at c_20; exact absurd c_20 (by decide)
      · exact q
    exact yes (by unfold pnt; rw [if_pos (Or.inl hp0)])
  · have hp0 : pz = 0 := by
      rcases Nat.eq_zero_or_pos pz with q | q
      · exact q
      · exact absurd (nI_lt (a := 0) q (by omega)) c_20
    cases ha with
    | true =>
      refine ax_aload_n G d_Mo_scientific_23 rfl rfl ?_
      refine ax_get (ci := 6) (j := 16) G d_Mo_scientific_24 rfl rfl (by decide) k_Mo_79 rfl ?_
      refine ax_if_eq (tgt := 36) G d_Mo_scientific_27 (by decide) (fun c_27 => ?_) (fun c_27 => ?_)
      · exact absurd c_27 (by decide)
      · exact yes (by unfold pnt; rw [if_pos (Or.inr rfl)])
    | false =>
      refine ax_aload_n G d_Mo_scientific_23 rfl rfl ?_
      refine ax_get (ci := 6) (j := 16) G d_Mo_scientific_24 rfl rfl (by decide) k_Mo_79 rfl ?_
      refine ax_if_eq (tgt := 36) G d_Mo_scientific_27 (by decide) (fun c_27 => ?_) (fun c_27 => ?_)
      · have e0 : pnt pz false = [] := by unfold pnt; rw [if_neg (by rw [hp0]; decide)]
        rw [e0, List.append_nil] at go
        exact go b1 hb1
      · exact absurd rfl c_27

