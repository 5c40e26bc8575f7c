/-! FormatDeskModel: text, argument, count, letters -/
set_option maxRecDepth 20000 in
set_option maxHeartbeats 1000000 in
theorem ct_Mo_text (l : Launch) (w : Int64) (n : Nat) (f : Nat → Int32) (er : Int32) (ma : Int32) (ou : Int32) (ta : Int32) (di : Int32) (wr : Int32) (at0 : Int32) (wi : Int32) (pr : Int32) (lf : Bool) (pl : Bool) (bl : Bool) (ha : Bool) (ze : Bool) (wt : Bool) (pt : Bool) (fr : Int32) (si : Int32) (zs : Bool) (ct : Int32) (po : Int32) (hn : n ≤ 400) : ax_CT l y_Mo_text c_Mo_text 5 (some .int) 1 [.ref 20, .long w] (pc_Mo er (nI n) ma ou ta di wr at0 wi pr lf pl bl ha ze wt pt fr si zs ct po ++ pcF f) (fun r h => (400 < n + octs w → r = some (.int 0) ∧ h = pc_Mo 1 (nI n) ma ou ta di wr at0 wi pr lf pl bl ha ze wt pt fr si zs ct po ++ pcF f) ∧ (n + octs w ≤ 400 → r = some (.int (nI (n + octs w))) ∧ ∃ f', h = pc_Mo 0 (nI (n + octs w)) ma ou ta di wr at0 wi pr lf pl bl ha ze wt pt fr si zs ct po ++ pcF f' ∧ (∀ i, i < n → f' i = f i) ∧ ∀ i, i < octs w → f' (n + i) = nI (oc w i))) := by
  refine ax_ofV (by decide) (Nat.le_of_ble_eq_true rfl) ?_
  intro p e s m args below meth c D cid ad A Qc G hr E
  have ho8 := octs_le w
  have copy : ∀ (q i : Nat) (f2 : Nat → Int32), i + q = octs w → n + octs w ≤ 400 → (∀ a, a < n → f2 a = f a) → (∀ a, a < i → f2 (n + a) = nI (oc w a)) → ax_V p l e (ax_rm 1) s m args below meth c D cid ad A 5 0 0 (MQ below Qc args s 0 0 A) 67 [(0, .ref 20), (1, .long w), (3, .int (nI (octs w))), (4, .int (nI i))] [] (pc_Mo 0 (nI (n + i)) ma ou ta di wr at0 wi pr lf pl bl ha ze wt pt fr si zs ct po ++ pcF f2) := by
    intro q
    induction q with
    | zero =>
      intro i f2 hi h4 h1 h2
      have e : i = octs w := by omega
      subst e
      refine ax_iload G d_Mo_text_67 rfl ?_
      refine ax_iload_n G d_Mo_text_69 rfl rfl ?_
      refine ax_icmp_ge (tgt := 110) G d_Mo_text_70 (by decide) (fun c_70 => ?_) (fun c_70 => ?_)
      · refine ax_aload_n G d_Mo_text_110 rfl rfl ?_
        refine ax_get (ci := 6) (j := 1) G d_Mo_text_111 rfl rfl (by decide) k_Mo_44 rfl ?_
        exact ax_iret G hr E d_Mo_text_114 rfl ⟨fun z => by omega, fun _ => ⟨rfl, f2, rfl, h1, h2⟩⟩
      · exact absurd (nI_le (Nat.le_refl _) (by omega)) c_70
    | succ q ih =>
      intro i f2 hi h4 h1 h2
      have hoc := oc_lt w i
      refine ax_iload G d_Mo_text_67 rfl ?_
      refine ax_iload_n G d_Mo_text_69 rfl rfl ?_
      refine ax_icmp_ge (tgt := 110) G d_Mo_text_70 (by decide) (fun c_70 => ?_) (fun c_70 => ?_)
      · exact absurd c_70 (nI_ge (by omega) (by omega))
      · refine ax_aload_n G d_Mo_text_73 rfl rfl ?_
        refine ax_get (ci := 6) (j := 7) G d_Mo_text_74 rfl rfl (by decide) k_Mo_13 rfl ?_
        refine ax_aload_n G d_Mo_text_77 rfl rfl ?_
        refine ax_dup G d_Mo_text_78 rfl ?_
        refine ax_get (ci := 6) (j := 1) G d_Mo_text_79 rfl rfl (by decide) k_Mo_44 rfl ?_
        refine ax_dup_x1 G d_Mo_text_82 rfl rfl ?_
        refine ax_iconst (v := 1) G d_Mo_text_83 (by decide) ?_
        refine ax_iadd G d_Mo_text_84 ?_
        rw [nI_1]
        refine ax_put (ci := 6) (j := 1) G d_Mo_text_85 rfl rfl (by decide) k_Mo_44 rfl rfl rfl (Nat.le_of_ble_eq_true rfl) ?_
        refine ax_lload_n G d_Mo_text_88 rfl rfl ?_
        refine ax_bipush (v := 56) G d_Mo_text_89 (by decide) ?_
        refine ax_bipush (v := 8) G d_Mo_text_91 (by decide) ?_
        refine ax_iload G d_Mo_text_93 rfl ?_
        refine ax_imul G d_Mo_text_95 ?_
        refine ax_isub G d_Mo_text_96 ?_
        refine ax_lushr G d_Mo_text_97 ?_
        refine ax_ldc2 G d_Mo_text_98 k_Mo_42 ?_
        refine ax_land G d_Mo_text_101 ?_
        rw [oc_l w i (by omega)]
        refine ax_l2i G d_Mo_text_102 ?_
        rw [uw_lN, lN_i]
        refine ax_iast G d_Mo_text_103 rfl (vp_in_nI (by omega) (by decide)) ?_
        rw [nI_clamp (by omega)]
        refine ax_iincZ (z := 1) G d_Mo_text_104 rfl (by decide) (by decide) ?_
        refine ax_goto (tgt := 67) G d_Mo_text_107 (by decide) ?_
        rw [nI_1]
        refine ih (i + 1) _ (by omega) h4 (fun a ha => ?_) (fun a ha => ?_)
        · rw [pk_un (by omega)]; exact h1 a ha
        · by_cases hai : a = i
          · subst hai; exact pk_us
          · rw [pk_un (by omega)]; exact h2 a (by omega)
  have mid : ax_V p l e (ax_rm 1) s m args below meth c D cid ad A 5 0 0 (MQ below Qc args s 0 0 A) 37 [(0, .ref 20), (1, .long w), (3, .int (nI (octs w)))] [] (pc_Mo 0 (nI n) ma ou ta di wr at0 wi pr lf pl bl ha ze wt pt fr si zs ct po ++ pcF f) := by
    refine ax_aload_n G d_Mo_text_37 rfl rfl ?_
    refine ax_aload_n G d_Mo_text_38 rfl rfl ?_
    refine ax_get (ci := 6) (j := 1) G d_Mo_text_39 rfl rfl (by decide) k_Mo_44 rfl ?_
    refine ax_iload_n G d_Mo_text_42 rfl rfl ?_
    refine ax_iadd G d_Mo_text_43 ?_
    rw [nI_add]
    refine ax_sipush (v := 400) G d_Mo_text_44 (by decide) ?_
    refine ax_icmp_le (tgt := 54) G d_Mo_text_47 (by decide) (fun c_47 => ?_) (fun c_47 => ?_)
    · have h4 : n + octs w ≤ 400 := (nI_leI (b := 400) (by omega) (by decide)).mp c_47
      refine ax_iconst (v := 0) G d_Mo_text_54 (by decide) ?_
      refine ax_iconst (v := 1) G d_Mo_text_55 (by decide) ?_
      refine ax_callV (n := 2) G (ct_Mo_fails l false 1 (by decide) _ _ _ _ _ _ _ _ _ _ _ _ _ _ _ _ _ _ _ _ _) d_Mo_text_56 rfl ⟨rfl, trivial⟩ rfl rfl rfl kc_Mo_fails ⟨k_Mo_47, ki_Mo_fails, ks_Mo_fails, kk_Mo⟩ (by decide +kernel) rfl ⟨by decide, by decide⟩ (Nat.le_of_ble_eq_true rfl) ⟨by decide, by decide⟩ (fun r hc_ hq hk_ => ?_)
      obtain ⟨rfl, rfl⟩ := hq
      refine ax_if_eq (tgt := 64) G d_Mo_text_59 (by decide) (fun c_59 => ?_) (fun c_59 => ?_)
      · refine ax_iconst (v := 0) G d_Mo_text_64 (by decide) ?_
        refine ax_istore G d_Mo_text_65 (by decide) ?_
        exact copy (octs w) 0 f (by omega) h4 (fun _ _ => rfl) (fun a ha => absurd ha (Nat.not_lt_zero a))
      · exact absurd rfl c_59
    · have h4 : ¬ n + octs w ≤ 400 := fun q => c_47 ((nI_leI (b := 400) (by omega) (by decide)).mpr q)
      refine ax_iconst (v := 1) G d_Mo_text_50 (by decide) ?_
      refine ax_goto (tgt := 55) G d_Mo_text_51 (by decide) ?_
      refine ax_iconst (v := 1) G d_Mo_text_55 (by decide) ?_
      refine ax_callV (n := 2) G (ct_Mo_fails l true 1 (by decide) _ _ _ _ _ _ _ _ _ _ _ _ _ _ _ _ _ _ _ _ _) d_Mo_text_56 rfl ⟨rfl, trivial⟩ rfl rfl rfl kc_Mo_fails ⟨k_Mo_47, ki_Mo_fails, ks_Mo_fails, kk_Mo⟩ (by decide +kernel) rfl ⟨by decide, by decide⟩ (Nat.le_of_ble_eq_true rfl) ⟨by decide, by decide⟩ (fun r hc_ hq hk_ => ?_)
      obtain ⟨rfl, rfl⟩ := hq
      refine ax_if_eq (tgt := 64) G d_Mo_text_59 (by decide) (fun c_59 => ?_) (fun c_59 => ?_)
      · exact absurd c_59 (by decide)
      · refine ax_iconst (v := 0) G d_Mo_text_62 (by decide) ?_
        exact ax_iret G hr E d_Mo_text_63 rfl ⟨fun _ => ⟨rfl, rfl⟩, fun z => absurd z h4⟩
  have loop : ∀ (k i : Nat), k + i = 8 → ocs w i k = octs w → ax_V p l e (ax_rm 1) s m args below meth c D cid ad A 5 0 0 (MQ below Qc args s 0 0 A) 7 [(0, .ref 20), (1, .long w), (3, .int (nI i))] [] (pc_Mo 0 (nI n) ma ou ta di wr at0 wi pr lf pl bl ha ze wt pt fr si zs ct po ++ pcF f) := by
    intro k
    induction k with
    | zero =>
      intro i hi he
      have e8 : i = 8 := by omega
      have he2 : i = octs w := he
      rw [← he2] at mid
      refine ax_iload_n G d_Mo_text_7 rfl rfl ?_
      refine ax_bipush (v := 8) G d_Mo_text_8 (by decide) ?_
      refine ax_icmp_ge (tgt := 37) G d_Mo_text_10 (by decide) (fun c_10 => ?_) (fun c_10 => ?_)
      · exact mid
      · exact absurd (by rw [e8]; decide) c_10
    | succ k ih =>
      intro i hi he
      have hoc := oc_lt w i
      unfold ocs at he
      refine ax_iload_n G d_Mo_text_7 rfl rfl ?_
      refine ax_bipush (v := 8) G d_Mo_text_8 (by decide) ?_
      refine ax_icmp_ge (tgt := 37) G d_Mo_text_10 (by decide) (fun c_10 => ?_) (fun c_10 => ?_)
      · exact absurd c_10 (nI_ge (by omega) (by decide) : ¬ nI 8 ≤ nI i)
      · refine ax_lload_n G d_Mo_text_13 rfl rfl ?_
        refine ax_bipush (v := 56) G d_Mo_text_14 (by decide) ?_
        refine ax_bipush (v := 8) G d_Mo_text_16 (by decide) ?_
        refine ax_iload_n G d_Mo_text_18 rfl rfl ?_
        refine ax_imul G d_Mo_text_19 ?_
        refine ax_isub G d_Mo_text_20 ?_
        refine ax_lushr G d_Mo_text_21 ?_
        refine ax_ldc2 G d_Mo_text_22 k_Mo_42 ?_
        refine ax_land G d_Mo_text_25 ?_
        rw [oc_l w i (by omega)]
        refine ax_lconst (v := 0) G d_Mo_text_26 (by decide) ?_
        refine ax_lcmp G d_Mo_text_27 ?_
        refine ax_if_eq (tgt := 37) G d_Mo_text_28 (by decide) (fun c_28 => ?_) (fun c_28 => ?_)
        · rw [if_pos ((uw_z hoc).mp c_28)] at he
          rw [← he] at mid
          exact mid
        · rw [if_neg (fun q => c_28 ((uw_z hoc).mpr q))] at he
          refine ax_iincZ (z := 1) G d_Mo_text_31 rfl (by decide) (by decide) ?_
          refine ax_goto (tgt := 7) G d_Mo_text_34 (by decide) ?_
          rw [nI_1]
          exact ih (i + 1) (by omega) he
  refine ax_aload_n G d_Mo_text_0 rfl rfl ?_
  refine ax_iconst (v := 0) G d_Mo_text_1 (by decide) ?_
  refine ax_put (ci := 6) (j := 0) G d_Mo_text_2 rfl rfl (by decide) k_Mo_39 rfl rfl rfl (Nat.le_of_ble_eq_true rfl) ?_
  refine ax_iconst (v := 0) G d_Mo_text_5 (by decide) ?_
  refine ax_istore_n G d_Mo_text_6 rfl (by decide) ?_
  exact loop 8 0 rfl rfl
set_option maxRecDepth 20000 in
set_option maxHeartbeats 1000000 in
theorem ct_Mo_argument (l : Launch) (v : Int64) (na : Nat) (ar : Nat → Int64) (er : Int32) (le : Int32) (ou : Int32) (ta : Int32) (di : Int32) (wr : Int32) (at0 : Int32) (wi : Int32) (pr : Int32) (lf : Bool) (pl : Bool) (bl : Bool) (ha : Bool) (ze : Bool) (wt : Bool) (pt : Bool) (fr : Int32) (si : Int32) (zs : Bool) (ct : Int32) (po : Int32) (hn : na ≤ 60) : ax_CT l y_Mo_argument c_Mo_argument 3 (some .int) 1 [.ref 20, .long v] (pc_Mo er le (nI na) ou ta di wr at0 wi pr lf pl bl ha ze wt pt fr si zs ct po ++ pcA ar) (fun r h => (na = 60 → r = some (.int 0) ∧ h = pc_Mo 1 le (nI na) ou ta di wr at0 wi pr lf pl bl ha ze wt pt fr si zs ct po ++ pcA ar) ∧ (na < 60 → r = some (.int (nI (na + 1))) ∧ h = pc_Mo 0 le (nI (na + 1)) ou ta di wr at0 wi pr lf pl bl ha ze wt pt fr si zs ct po ++ pcA (vp_updL ar na v))) := by
  refine ax_ofV (by decide) (Nat.le_of_ble_eq_true rfl) ?_
  intro p e s m args below meth c D cid ad A Qc G hr E
  refine ax_aload_n G d_Mo_argument_0 rfl rfl ?_
  refine ax_iconst (v := 0) G d_Mo_argument_1 (by decide) ?_
  refine ax_put (ci := 6) (j := 0) G d_Mo_argument_2 rfl rfl (by decide) k_Mo_39 rfl rfl rfl (Nat.le_of_ble_eq_true rfl) ?_
  refine ax_aload_n G d_Mo_argument_5 rfl rfl ?_
  refine ax_aload_n G d_Mo_argument_6 rfl rfl ?_
  refine ax_get (ci := 6) (j := 2) G d_Mo_argument_7 rfl rfl (by decide) k_Mo_51 rfl ?_
  refine ax_bipush (v := 60) G d_Mo_argument_10 (by decide) ?_
  refine ax_icmp_ne (tgt := 19) G d_Mo_argument_12 (by decide) (fun c_12 => ?_) (fun c_12 => ?_)
  · have hne : ¬ na = 60 := fun q => c_12 (by rw [q]; rfl)
    refine ax_iconst (v := 0) G d_Mo_argument_19 (by decide) ?_
    refine ax_iconst (v := 1) G d_Mo_argument_20 (by decide) ?_
    refine ax_callV (n := 2) G (ct_Mo_fails l false 1 (by decide) _ _ _ _ _ _ _ _ _ _ _ _ _ _ _ _ _ _ _ _ _) d_Mo_argument_21 rfl ⟨rfl, trivial⟩ rfl rfl rfl kc_Mo_fails ⟨k_Mo_47, ki_Mo_fails, ks_Mo_fails, kk_Mo⟩ (by decide +kernel) rfl ⟨by decide, by decide⟩ (Nat.le_of_ble_eq_true rfl) ⟨by decide, by decide⟩ (fun r hc_ hq hk_ => ?_)
    obtain ⟨rfl, rfl⟩ := hq
    refine ax_if_eq (tgt := 29) G d_Mo_argument_24 (by decide) (fun c_24 => ?_) (fun c_24 => ?_)
    · refine ax_aload_n G d_Mo_argument_29 rfl rfl ?_
      refine ax_get (ci := 6) (j := 9) G d_Mo_argument_30 rfl rfl (by decide) k_Mo_20 rfl ?_
      refine ax_aload_n G d_Mo_argument_33 rfl rfl ?_
      refine ax_dup G d_Mo_argument_34 rfl ?_
      refine ax_get (ci := 6) (j := 2) G d_Mo_argument_35 rfl rfl (by decide) k_Mo_51 rfl ?_
      refine ax_dup_x1 G d_Mo_argument_38 rfl rfl ?_
      refine ax_iconst (v := 1) G d_Mo_argument_39 (by decide) ?_
      refine ax_iadd G d_Mo_argument_40 ?_
      rw [nI_1]
      refine ax_put (ci := 6) (j := 2) G d_Mo_argument_41 rfl rfl (by decide) k_Mo_51 rfl rfl rfl (Nat.le_of_ble_eq_true rfl) ?_
      refine ax_lload_n G d_Mo_argument_44 rfl rfl ?_
      refine ax_last G d_Mo_argument_45 rfl (vp_in_nI (by omega) (by decide)) ?_
      rw [nI_clamp (by omega)]
      refine ax_aload_n G d_Mo_argument_46 rfl rfl ?_
      refine ax_get (ci := 6) (j := 2) G d_Mo_argument_47 rfl rfl (by decide) k_Mo_51 rfl ?_
      exact ax_iret G hr E d_Mo_argument_50 rfl ⟨fun z => absurd z hne, fun _ => ⟨rfl, rfl⟩⟩
    · exact absurd rfl c_24
  · have heq : na = 60 := (nI_eq (b := 60) (by omega) (by decide)).mp c_12
    refine ax_iconst (v := 1) G d_Mo_argument_15 (by decide) ?_
    refine ax_goto (tgt := 20) G d_Mo_argument_16 (by decide) ?_
    refine ax_iconst (v := 1) G d_Mo_argument_20 (by decide) ?_
    refine ax_callV (n := 2) G (ct_Mo_fails l true 1 (by decide) _ _ _ _ _ _ _ _ _ _ _ _ _ _ _ _ _ _ _ _ _) d_Mo_argument_21 rfl ⟨rfl, trivial⟩ rfl rfl rfl kc_Mo_fails ⟨k_Mo_47, ki_Mo_fails, ks_Mo_fails, kk_Mo⟩ (by decide +kernel) rfl ⟨by decide, by decide⟩ (Nat.le_of_ble_eq_true rfl) ⟨by decide, by decide⟩ (fun r hc_ hq hk_ => ?_)
    obtain ⟨rfl, rfl⟩ := hq
    refine ax_if_eq (tgt := 29) G d_Mo_argument_24 (by decide) (fun c_24 => ?_) (fun c_24 => ?_)
    · exact absurd c_24 (by decide)
    · refine ax_iconst (v := 0) G d_Mo_argument_27 (by decide) ?_
      exact ax_iret G hr E d_Mo_argument_28 rfl ⟨fun _ => ⟨rfl, rfl⟩, fun z => by omega⟩

