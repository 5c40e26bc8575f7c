/-! FormatDesk$Decimal: multiply, spell, become -/
set_option maxRecDepth 20000 in
set_option maxHeartbeats 1000000 in
theorem ct_De_multiply (l : Launch) (dc pt : Int32) (k g : Nat) (lm : Nat → Int64) (dg : Nat → Int32) (a : Nat → Nat) (ha : lm_is lm k a) (hk : 0 < k ∧ k ≤ 86) (hg : 0 < g ∧ g ≤ 536870912) (htop : 0 < a (k - 1)) (hbig : g * lval a k < lb ^ 86) : ax_CT l y_De_multiply c_De_multiply 8 none 0 [.ref 9, .long (lN g)] (pc_De (nI k) dc pt lm dg) (fun r h => r = none ∧ ∃ lm' k' a', h = pc_De (nI k') dc pt lm' dg ∧ lm_is lm' k' a' ∧ (0 < k' ∧ k' ≤ 86) ∧ 0 < a' (k' - 1) ∧ lval a' k' = g * lval a k) := by
  refine ax_ofV (by decide) (Nat.le_of_ble_eq_true rfl) ?_
  intro p e s m args below meth c D cid ad A Qc G hr E
  have loop : ∀ (j i c1 : Nat) (b : Nat → Nat) (lm' : Nat → Int64), j + i = k → c1 < g → lm_is lm' k b → (∀ q, i ≤ q → b q = a q) → lval b i + c1 * lb ^ i = g * lval a i → (i = k → c1 = 0 → 0 < b (k - 1)) → ax_V p l e (ax_rm 0) s m args below meth c D cid ad A 8 0 0 (MQ below Qc args s 0 0 A) 5 [(0, .ref 9), (1, .long (lN g)), (3, .long (lN c1)), (5, .int (nI i))] [] (pc_De (nI k) dc pt lm' dg) := by
    intro j
    induction j with
    | zero =>
      intro i c1 b lm' hj hc hb hq he ht
      have e : i = k := by omega
      subst e
      refine ax_iload G d_De_multiply_5 rfl ?_
      refine ax_aload_n G d_De_multiply_7 rfl rfl ?_
      refine ax_get (ci := 0) (j := 1) G d_De_multiply_8 rfl rfl (by decide) k_De_13 rfl ?_
      refine ax_icmp_ge (tgt := 55) G d_De_multiply_11 (by decide) (fun c_11 => ?_) (fun c_11 => ?_)
      · have hz : (lg_cmp (lN c1) 0 = 0) ↔ c1 = 0 := by
          rw [lg_cmp_eq, show (0 : Int64) = lN 0 from rfl, pk_lEQ (by omega) (by decide)]
        refine ax_lload_n G d_De_multiply_55 rfl rfl ?_
        refine ax_lconst (v := 0) G d_De_multiply_56 (by decide) ?_
        refine ax_lcmp G d_De_multiply_57 ?_
        refine ax_if_eq (tgt := 93) G d_De_multiply_58 (by decide) (fun c_58 => ?_) (fun c_58 => ?_)
        · have h0 := hz.mp c_58
          subst h0
          rw [Nat.zero_mul, Nat.add_zero] at he
          exact ax_vret G hr E d_De_multiply_93 rfl ⟨rfl, lm', i, b, rfl, hb, hk, ht rfl rfl, he⟩
        · have h0 : 0 < c1 := Nat.pos_of_ne_zero (fun q => c_58 (hz.mpr q))
          have hlt : i < 86 := by
            rcases Nat.lt_or_ge i 86 with q | q
            · exact q
            · have e86 : i = 86 := by omega
              have : 1 * lb ^ i ≤ c1 * lb ^ i := Nat.mul_le_mul_right _ h0
              rw [e86] at this he hbig
              omega
          refine ax_aload_n G d_De_multiply_61 rfl rfl ?_
          refine ax_get (ci := 0) (j := 1) G d_De_multiply_62 rfl rfl (by decide) k_De_13 rfl ?_
          refine ax_aload_n G d_De_multiply_65 rfl rfl ?_
          refine ax_get (ci := 0) (j := 0) G d_De_multiply_66 rfl rfl (by decide) k_De_9 rfl ?_
          refine ax_alen (v := (nI 86)) G d_De_multiply_69 rfl (by decide) rfl ?_
          refine ax_icmp_ge (tgt := 93) G d_De_multiply_70 (by decide) (fun c_70 => ?_) (fun c_70 => ?_)
          · exact absurd c_70 (nI_ge hlt (by decide))
          · refine ax_aload_n G d_De_multiply_73 rfl rfl ?_
            refine ax_get (ci := 0) (j := 0) G d_De_multiply_74 rfl rfl (by decide) k_De_9 rfl ?_
            refine ax_aload_n G d_De_multiply_77 rfl rfl ?_
            refine ax_get (ci := 0) (j := 1) G d_De_multiply_78 rfl rfl (by decide) k_De_13 rfl ?_
            refine ax_lload_n G d_De_multiply_81 rfl rfl ?_
            refine ax_last G d_De_multiply_82 rfl (vp_in_nI hlt (by decide)) ?_
            rw [nI_clamp (by omega)]
            refine ax_aload_n G d_De_multiply_83 rfl rfl ?_
            refine ax_dup G d_De_multiply_84 rfl ?_
            refine ax_get (ci := 0) (j := 1) G d_De_multiply_85 rfl rfl (by decide) k_De_13 rfl ?_
            refine ax_iconst (v := 1) G d_De_multiply_88 (by decide) ?_
            refine ax_iadd G d_De_multiply_89 ?_
            refine ax_put (ci := 0) (j := 1) G d_De_multiply_90 rfl rfl (by decide) k_De_13 rfl rfl rfl (Nat.le_of_ble_eq_true rfl) ?_
            rw [nI_1]
            refine ax_vret G hr E d_De_multiply_93 rfl ⟨rfl, _, i + 1, upN b i c1, rfl, fun q hq1 => ?_, by omega, ?_, ?_⟩
            · by_cases hqi : q = i
              · subst hqi
                rw [pk_uLs]
                unfold upN
                rw [if_pos rfl]
                exact ⟨rfl, by unfold lb; omega⟩
              · rw [pk_uLn hqi]
                unfold upN
                rw [if_neg hqi]
                exact hb q (by omega)
            · unfold upN
              rw [if_pos (by omega)]
              exact h0
            · rw [lval_s, lval_eq (upN b i c1) b i (fun q hq1 => by unfold upN; rw [if_neg (by omega)])]
              unfold upN
              rw [if_pos rfl]
              exact he
      · exact absurd (nI_le (Nat.le_refl _) (by omega)) c_11
    | succ j ih =>
      intro i c1 b lm' hj hc hb hq he ht
      obtain ⟨e1, e2⟩ := hb i (by omega)
      have e2' : b i < 1000000000 := e2
      have hprod : b i * g ≤ 999999999 * 536870912 := Nat.mul_le_mul (by omega) hg.2
      refine ax_iload G d_De_multiply_5 rfl ?_
      refine ax_aload_n G d_De_multiply_7 rfl rfl ?_
      refine ax_get (ci := 0) (j := 1) G d_De_multiply_8 rfl rfl (by decide) k_De_13 rfl ?_
      refine ax_icmp_ge (tgt := 55) G d_De_multiply_11 (by decide) (fun c_11 => ?_) (fun c_11 => ?_)
      · exact absurd c_11 (nI_ge (by omega) (by omega))
      · refine ax_aload_n G d_De_multiply_14 rfl rfl ?_
        refine ax_get (ci := 0) (j := 0) G d_De_multiply_15 rfl rfl (by decide) k_De_9 rfl ?_
        refine ax_iload G d_De_multiply_18 rfl ?_
        refine ax_lald G d_De_multiply_20 rfl (vp_in_nI (by omega) (by omega)) ?_
        rw [nI_clamp (by omega), e1]
        refine ax_lload_n G d_De_multiply_21 rfl rfl ?_
        refine ax_lmul G d_De_multiply_22 ?_
        refine ax_lload_n G d_De_multiply_23 rfl rfl ?_
        refine ax_ladd G d_De_multiply_24 ?_
        rw [lN_mul, lN_add]
        refine ax_lstore G d_De_multiply_25 (by decide) ?_
        refine ax_lload G d_De_multiply_27 rfl ?_
        refine ax_ldc2 G d_De_multiply_29 k_De_30 ?_
        refine ax_ldiv G d_De_multiply_32 (by decide) ?_
        rw [show (1000000000 : Int64) = lN 1000000000 from rfl, pk_lDiv (by omega) (by decide) (by decide)]
        refine ax_lstore_n G d_De_multiply_33 rfl (by decide) ?_
        refine ax_aload_n G d_De_multiply_34 rfl rfl ?_
        refine ax_get (ci := 0) (j := 0) G d_De_multiply_35 rfl rfl (by decide) k_De_9 rfl ?_
        refine ax_iload G d_De_multiply_38 rfl ?_
        refine ax_lload G d_De_multiply_40 rfl ?_
        refine ax_lload_n G d_De_multiply_42 rfl rfl ?_
        refine ax_ldc2 G d_De_multiply_43 k_De_30 ?_
        refine ax_lmul G d_De_multiply_46 ?_
        refine ax_lsub G d_De_multiply_47 ?_
        rw [show (1000000000 : Int64) = lN 1000000000 from rfl, lN_mul, lN_sub (Nat.div_mul_le_self _ _)]
        refine ax_last G d_De_multiply_48 rfl (vp_in_nI (by omega) (by omega)) ?_
        rw [nI_clamp (by omega)]
        refine ax_iincZ (z := 1) G d_De_multiply_49 rfl (by decide) (by decide) ?_
        refine ax_goto (tgt := 5) G d_De_multiply_52 (by decide) ?_
        rw [nI_1]
        have hmod : b i * g + c1 - (b i * g + c1) / 1000000000 * 1000000000 = (b i * g + c1) % 1000000000 := by
          have := Nat.div_add_mod (b i * g + c1) 1000000000
          omega
        rw [hmod]
        have hcar : (b i * g + c1) / 1000000000 < g := by
          rw [Nat.div_lt_iff_lt_mul (by decide)]
          have : (b i + 1) * g ≤ 1000000000 * g := Nat.mul_le_mul_right _ e2
          rw [Nat.add_mul, Nat.one_mul, Nat.mul_comm 1000000000 g] at this
          omega
        refine ax_less (ih (i + 1) _ (upN b i ((b i * g + c1) % 1000000000)) _ (by omega) hcar (fun q hq1 => ?_) (fun q hq1 => ?_) ?_ ?_) ⟨rfl, rfl, rfl, rfl, trivial⟩
        · by_cases hqi : q = i
          · subst hqi
            rw [pk_uLs]
            unfold upN
            rw [if_pos rfl]
            exact ⟨rfl, Nat.mod_lt _ (by decide)⟩
          · rw [pk_uLn hqi]
            unfold upN
            rw [if_neg hqi]
            exact hb q hq1
        · unfold upN
          rw [if_neg (by omega)]
          exact hq q (by omega)
        · rw [lval_s, lval_eq (upN b i ((b i * g + c1) % 1000000000)) b i (fun q hq1 => by unfold upN; rw [if_neg (by omega)]), lval_s]
          have e5 : upN b i ((b i * g + c1) % 1000000000) i = (b i * g + c1) % 1000000000 := by unfold upN; rw [if_pos rfl]
          rw [e5, Nat.pow_succ, Nat.mul_add, ← he, ← hq i (Nat.le_refl _)]
          have e6 : (b i * g + c1) % 1000000000 * lb ^ i + (b i * g + c1) / 1000000000 * (lb ^ i * lb) = (b i * g + c1) * lb ^ i := by
            rw [Nat.mul_comm (lb ^ i) lb, ← Nat.mul_assoc, ← Nat.add_mul]
            congr 1
            have := Nat.div_add_mod (b i * g + c1) 1000000000
            show _ + _ * 1000000000 = _
            omega
          rw [Nat.add_mul] at e6
          have e7 : g * (b i * lb ^ i) = b i * g * lb ^ i := by rw [← Nat.mul_assoc, Nat.mul_comm g]
          omega
        · intro hik h0
          have e8 : k - 1 = i := by omega
          rw [e8]
          unfold upN
          rw [if_pos rfl]
          have h9 : 0 < b i := by rw [hq i (Nat.le_refl _), ← e8]; exact htop
          have h10 : 0 < b i * g := Nat.mul_pos h9 hg.1
          have := Nat.div_add_mod (b i * g + c1) 1000000000
          rw [h0] at this
          omega
  refine ax_lconst (v := 0) G d_De_multiply_0 (by decide) ?_
  refine ax_lstore_n G d_De_multiply_1 rfl (by decide) ?_
  refine ax_iconst (v := 0) G d_De_multiply_2 (by decide) ?_
  refine ax_istore G d_De_multiply_3 (by decide) ?_
  exact loop k 0 0 a lm (by omega) hg.1 ha (fun _ _ => rfl) (by rw [Nat.zero_mul]; rfl) (fun q => by omega)
set_option maxRecDepth 20000 in
set_option maxHeartbeats 1000000 in
theorem ct_De_spell (l : Launch) (dc pt : Int32) (k : Nat) (lm : Nat → Int64) (dg : Nat → Int32) (a : Nat → Nat) (ha : lm_is lm (k + 1) a) (hk : k + 1 ≤ 86) (htop : 0 < a k) : ax_CT l y_De_spell c_De_spell 4 none 0 [.ref 9] (pc_De (nI (k + 1)) dc pt lm dg) (fun r h => r = none ∧ ∃ dg' n, h = pc_De (nI (k + 1)) (nI n) pt lm dg' ∧ isN (lval a (k + 1)) n ∧ n ≤ 774 ∧ ∀ i, i < n → dg' i = nI (dgs (lval a (k + 1)) n i)) := by
  refine ax_ofV (by decide) (Nat.le_of_ble_eq_true rfl) ?_
  intro p e s m args below meth c D cid ad A Qc G hr E
  have hal : ∀ i, i < k + 1 → a i < lb := fun i hi => (ha i hi).2
  have hkt : a k < 1000000000 := (ha k (by omega)).2
  have hT : isN (a k) (dg10 9 (a k)) := dg10_is 9 (a k) htop hkt
  have hT9 : dg10 9 (a k) ≤ 9 := by
    rcases Nat.lt_or_ge 9 (dg10 9 (a k)) with q | q
    · have : 10 ^ 9 ≤ 10 ^ (dg10 9 (a k) - 1) := Nat.pow_le_pow_right (by decide) (by omega)
      have := hT.2.1
      omega
    · exact q
  have hN := isN_lval a k _ hal hT
  generalize hn : 9 * k + dg10 9 (a k) = n at hN
  have hn774 : n ≤ 774 := by omega
  -- the second loop
  have loop2 : ∀ (j i : Nat) (W : Int64) (dg2 : Nat → Int32), j + i = n → (i % 9 ≠ 0 → W = lN (a (i / 9) / 10 ^ (i % 9))) → (∀ q, q < i → dg2 (n - 1 - q) = nI (lval a (k + 1) / 10 ^ q % 10)) → ax_V p l e (ax_rm 0) s m args below meth c D cid ad A 4 0 0 (MQ below Qc args s 0 0 A) 63 [(0, .ref 9), (1, .long W), (3, .int (nI i))] [] (pc_De (nI (k + 1)) (nI n) pt lm dg2) := by
    intro j
    induction j with
    | zero =>
      intro i W dg2 hj hW hd2
      refine ax_iload_n G d_De_spell_63 rfl rfl ?_
      refine ax_aload_n G d_De_spell_64 rfl rfl ?_
      refine ax_get (ci := 0) (j := 3) G d_De_spell_65 rfl rfl (by decide) k_De_21 rfl ?_
      refine ax_icmp_ge (tgt := 120) G d_De_spell_68 (by decide) (fun c_68 => ?_) (fun c_68 => ?_)
      · refine ax_vret G hr E d_De_spell_120 rfl ⟨rfl, dg2, n, rfl, hN, hn774, fun q hq => ?_⟩
        have := hd2 (n - 1 - q) (by omega)
        rw [show n - 1 - (n - 1 - q) = q by omega] at this
        exact this
      · exact absurd (nI_le (by omega) (by omega)) c_68
    | succ j ih =>
      intro i W dg2 hj hW hd2
      have hi9 : i / 9 < k + 1 := by
        have := Nat.div_lt_iff_lt_mul (x := i) (y := k + 1) (k := 9) (by decide)
        omega
      have step : ax_V p l e (ax_rm 0) s m args below meth c D cid ad A 4 0 0 (MQ below Qc args s 0 0 A) 88 [(0, .ref 9), (1, .long (lN (a (i / 9) / 10 ^ (i % 9)))), (3, .int (nI i))] [] (pc_De (nI (k + 1)) (nI n) pt lm dg2) := by
        have hb : a (i / 9) / 10 ^ (i % 9) < 1000000000 := Nat.lt_of_le_of_lt (Nat.div_le_self _ _) (hal _ hi9)
        refine ax_aload_n G d_De_spell_88 rfl rfl ?_
        refine ax_get (ci := 0) (j := 2) G d_De_spell_89 rfl rfl (by decide) k_De_17 rfl ?_
        refine ax_aload_n G d_De_spell_92 rfl rfl ?_
        refine ax_get (ci := 0) (j := 3) G d_De_spell_93 rfl rfl (by decide) k_De_21 rfl ?_
        refine ax_iconst (v := 1) G d_De_spell_96 (by decide) ?_
        refine ax_isub G d_De_spell_97 ?_
        refine ax_iload_n G d_De_spell_98 rfl rfl ?_
        rw [show nI n - 1 = nI n - nI 1 from rfl, pk_sub (by omega)]
        refine ax_isub G d_De_spell_99 ?_
        rw [pk_sub (by omega)]
        refine ax_lload_n G d_De_spell_100 rfl rfl ?_
        refine ax_ldc2 G d_De_spell_101 k_De_48 ?_
        refine ax_lrem G d_De_spell_104 (by decide) ?_
        rw [show (10 : Int64) = lN 10 from rfl, pk_lRem (by omega) (by decide) (by decide)]
        refine ax_l2i G d_De_spell_105 ?_
        rw [lN_i]
        refine ax_i2b G d_De_spell_106 ?_
        have hdig : a (i / 9) / 10 ^ (i % 9) % 10 = lval a (k + 1) / 10 ^ i % 10 := (lval_dig a (k + 1) hal i hi9).symm
        have hdl : a (i / 9) / 10 ^ (i % 9) % 10 < 10 := Nat.mod_lt _ (by decide)
        refine ax_bast G d_De_spell_107 rfl (vp_in_nI (by omega) (by omega)) ?_
        rw [nI_clamp (by omega), pk_vb, by_nI (by omega)]
        refine ax_lload_n G d_De_spell_108 rfl rfl ?_
        refine ax_ldc2 G d_De_spell_109 k_De_48 ?_
        refine ax_ldiv G d_De_spell_112 (by decide) ?_
        rw [show (10 : Int64) = lN 10 from rfl, pk_lDiv (by omega) (by decide) (by decide)]
        refine ax_lstore_n G d_De_spell_113 rfl (by decide) ?_
        refine ax_iincZ (z := 1) G d_De_spell_114 rfl (by decide) (by decide) ?_
        refine ax_goto (tgt := 63) G d_De_spell_117 (by decide) ?_
        rw [nI_1]
        refine ih (i + 1) _ _ (by omega) (fun h9 => ?_) (fun q hq => ?_)
        · have e1 : (i + 1) / 9 = i / 9 := by omega
          have e2 : (i + 1) % 9 = i % 9 + 1 := by omega
          rw [e1, e2, Nat.pow_succ, Nat.div_div_eq_div_mul]
        · by_cases hqi : q = i
          · subst hqi
            rw [pk_us, hdig]
          · rw [pk_un (by omega)]
            exact hd2 q (by omega)
      refine ax_iload_n G d_De_spell_63 rfl rfl ?_
      refine ax_aload_n G d_De_spell_64 rfl rfl ?_
      refine ax_get (ci := 0) (j := 3) G d_De_spell_65 rfl rfl (by decide) k_De_21 rfl ?_
      refine ax_icmp_ge (tgt := 120) G d_De_spell_68 (by decide) (fun c_68 => ?_) (fun c_68 => ?_)
      · exact absurd c_68 (nI_ge (by omega) (by omega))
      · refine ax_iload_n G d_De_spell_71 rfl rfl ?_
        refine ax_bipush (v := 9) G d_De_spell_72 (by decide) ?_
        refine ax_irem G d_De_spell_74 (by decide) ?_
        rw [show (9 : Int32) = nI 9 from rfl, pk_rem (by omega) (by decide) (by decide)]
        refine ax_if_ne (tgt := 88) G d_De_spell_75 (by decide) (fun c_75 => ?_) (fun c_75 => ?_)
        · have h9 : i % 9 ≠ 0 := fun q => c_75 (by rw [q]; rfl)
          rw [hW h9]
          exact step
        · have h9 : i % 9 = 0 := (nI_eq (b := 0) (by omega) (by decide)).mp c_75
          refine ax_aload_n G d_De_spell_78 rfl rfl ?_
          refine ax_get (ci := 0) (j := 0) G d_De_spell_79 rfl rfl (by decide) k_De_9 rfl ?_
          refine ax_iload_n G d_De_spell_82 rfl rfl ?_
          refine ax_bipush (v := 9) G d_De_spell_83 (by decide) ?_
          refine ax_idiv G d_De_spell_85 (by decide) ?_
          rw [show (9 : Int32) = nI 9 from rfl, pk_div (by omega) (by decide) (by decide)]
          refine ax_lald G d_De_spell_86 rfl (vp_in_nI (by omega) (by omega)) ?_
          rw [nI_clamp (by omega), (ha _ hi9).1]
          rw [h9, Nat.pow_zero, Nat.div_one] at step
          refine ax_lstore_n G d_De_spell_87 rfl (by decide) ?_
          exact step
  have loop1 : ∀ (j i W : Nat), j + i = 9 → W < 1000000000 → i + dg10 j W = dg10 9 (a k) → ax_V p l e (ax_rm 0) s m args below meth c D cid ad A 4 0 0 (MQ below Qc args s 0 0 A) 27 [(0, .ref 9), (1, .long (lN W)), (3, .int (nI i))] [] (pc_De (nI (k + 1)) (nI (9 * k + i)) pt lm dg) := by
    have out : ∀ (i W : Nat), i = dg10 9 (a k) → ax_V p l e (ax_rm 0) s m args below meth c D cid ad A 4 0 0 (MQ below Qc args s 0 0 A) 61 [(0, .ref 9), (1, .long (lN W)), (3, .int (nI i))] [] (pc_De (nI (k + 1)) (nI (9 * k + i)) pt lm dg) := by
      intro i W hi
      rw [show 9 * k + i = n by omega]
      refine ax_iconst (v := 0) G d_De_spell_61 (by decide) ?_
      refine ax_istore_n G d_De_spell_62 rfl (by decide) ?_
      exact loop2 n 0 _ dg (by omega) (fun h => absurd rfl h) (fun q hq => absurd hq (Nat.not_lt_zero q))
    intro j
    induction j with
    | zero =>
      intro i W hj hW he
      refine ax_iload_n G d_De_spell_27 rfl rfl ?_
      refine ax_bipush (v := 9) G d_De_spell_28 (by decide) ?_
      refine ax_icmp_ge (tgt := 61) G d_De_spell_30 (by decide) (fun c_30 => ?_) (fun c_30 => ?_)
      · exact out i W (by have : dg10 0 W = 0 := rfl; omega)
      · exact absurd (nI_le (a := 9) (by omega) (by omega)) c_30
    | succ j ih =>
      intro i W hj hW he
      rw [dg10_s] at he
      have hz : (lg_cmp (lN W) 0 ≤ 0) ↔ W = 0 := by
        rw [lg_cmp_le, show (0 : Int64) = lN 0 from rfl, pk_lLE (by omega) (by decide)]
        omega
      refine ax_iload_n G d_De_spell_27 rfl rfl ?_
      refine ax_bipush (v := 9) G d_De_spell_28 (by decide) ?_
      refine ax_icmp_ge (tgt := 61) G d_De_spell_30 (by decide) (fun c_30 => ?_) (fun c_30 => ?_)
      · exact absurd c_30 (nI_ge (b := 9) (by omega) (by decide))
      · refine ax_lload_n G d_De_spell_33 rfl rfl ?_
        refine ax_lconst (v := 0) G d_De_spell_34 (by decide) ?_
        refine ax_lcmp G d_De_spell_35 ?_
        refine ax_if_le (tgt := 61) G d_De_spell_36 (by decide) (fun c_36 => ?_) (fun c_36 => ?_)
        · rw [if_pos (hz.mp c_36)] at he
          exact out i W (by omega)
        · rw [if_neg (fun q => c_36 (hz.mpr q))] at he
          refine ax_aload_n G d_De_spell_39 rfl rfl ?_
          refine ax_dup G d_De_spell_40 rfl ?_
          refine ax_get (ci := 0) (j := 3) G d_De_spell_41 rfl rfl (by decide) k_De_21 rfl ?_
          refine ax_iconst (v := 1) G d_De_spell_44 (by decide) ?_
          refine ax_iadd G d_De_spell_45 ?_
          refine ax_put (ci := 0) (j := 3) G d_De_spell_46 rfl rfl (by decide) k_De_21 rfl rfl rfl (Nat.le_of_ble_eq_true rfl) ?_
          refine ax_lload_n G d_De_spell_49 rfl rfl ?_
          refine ax_ldc2 G d_De_spell_50 k_De_48 ?_
          refine ax_ldiv G d_De_spell_53 (by decide) ?_
          rw [nI_1, show (10 : Int64) = lN 10 from rfl, pk_lDiv (by omega) (by decide) (by decide)]
          refine ax_lstore_n G d_De_spell_54 rfl (by decide) ?_
          refine ax_iincZ (z := 1) G d_De_spell_55 rfl (by decide) (by decide) ?_
          refine ax_goto (tgt := 27) G d_De_spell_58 (by decide) ?_
          rw [nI_1]
          exact ih (i + 1) (W / 10) (by omega) (by omega) (by omega)
  refine ax_aload_n G d_De_spell_0 rfl rfl ?_
  refine ax_bipush (v := 9) G d_De_spell_1 (by decide) ?_
  refine ax_aload_n G d_De_spell_3 rfl rfl ?_
  refine ax_get (ci := 0) (j := 1) G d_De_spell_4 rfl rfl (by decide) k_De_13 rfl ?_
  refine ax_iconst (v := 1) G d_De_spell_7 (by decide) ?_
  refine ax_isub G d_De_spell_8 ?_
  refine ax_imul G d_De_spell_9 ?_
  rw [nI_pred, show (9 : Int32) = nI 9 from rfl, pk_mul]
  refine ax_put (ci := 0) (j := 3) G d_De_spell_10 rfl rfl (by decide) k_De_21 rfl rfl rfl (Nat.le_of_ble_eq_true rfl) ?_
  refine ax_aload_n G d_De_spell_13 rfl rfl ?_
  refine ax_get (ci := 0) (j := 0) G d_De_spell_14 rfl rfl (by decide) k_De_9 rfl ?_
  refine ax_aload_n G d_De_spell_17 rfl rfl ?_
  refine ax_get (ci := 0) (j := 1) G d_De_spell_18 rfl rfl (by decide) k_De_13 rfl ?_
  refine ax_iconst (v := 1) G d_De_spell_21 (by decide) ?_
  refine ax_isub G d_De_spell_22 ?_
  rw [nI_pred]
  refine ax_lald G d_De_spell_23 rfl (vp_in_nI (by omega) (by omega)) ?_
  rw [nI_clamp (by omega), (ha k (by omega)).1]
  refine ax_lstore_n G d_De_spell_24 rfl (by decide) ?_
  refine ax_iconst (v := 0) G d_De_spell_25 (by decide) ?_
  refine ax_istore_n G d_De_spell_26 rfl (by decide) ?_
  exact loop1 9 0 (a k) rfl hkt (by omega)

