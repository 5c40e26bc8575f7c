/-! FormatDeskModel: decimal -/
set_option maxRecDepth 20000 in
set_option maxHeartbeats 1000000 in
theorem ct_Mo_decimal (l : Launch) (s0 : Nat) (x : Int32) (dd : Nat → Int32) (er : Int32) (le : Int32) (ma : Int32) (ou : Int32) (ta : Int32) (di : Int32) (wr : Int32) (at0 : Int32) (wi : Int32) (pr : Int32) (lf : Bool) (pl : Bool) (bl : Bool) (ha : Bool) (ze : Bool) (wt : Bool) (pt : Bool) (fr : Int32) (si : Int32) (zs : Bool) (ct : Int32) (po : Int32) (hs : s0 < 2 ^ 53) (h1 : -1074 ≤ x.toInt) (h2 : x.toInt ≤ 971) : ax_CT l y_Mo_decimal c_Mo_decimal 11 none 0 [.ref 20, .long (uw s0), .int x] (pc_Mo er le ma ou ta di wr at0 wi pr lf pl bl ha ze wt pt fr si zs ct po ++ pcD dd) (fun r h => r = none ∧ ∃ dd', h = pc_Mo er le ma ou ta di wr at0 wi pr lf pl bl ha ze wt pt fr si zs (nI (nN s0 x.toInt)) (if x < 0 then nI (nN s0 x.toInt) + x else nI (nN s0 x.toInt)) ++ pcD dd' ∧ de_is dd' (nN s0 x.toInt) (dgs (tgt s0 x.toInt) (nN s0 x.toInt))) := by
  refine ax_ofV (by decide) (Nat.le_of_ble_eq_true rfl) ?_
  intro p e s m args below meth c D cid ad A Qc G hr E
  have core : ∀ (b T n : Nat) (dd : Nat → Int32), (b = 2 ∨ b = 5) → T ≤ 1074 → s0 * b ^ T = tgt s0 x.toInt → (∀ t n, t ≤ T → isZ (s0 * b ^ t) n → n ≤ 800) → isZ s0 n → lo_is dd n s0 → ax_V p l e (ax_rm 0) s m args below meth c D cid ad A 11 0 0 (MQ below Qc args s 0 0 A) 64 [(0, .ref 20), (1, .long (uw s0)), (3, .int x), (4, .int (nI n)), (5, .int (nI b)), (6, .int (nI T))] [] (pc_Mo er le ma ou ta di wr at0 wi pr lf pl bl ha ze wt pt fr si zs ct po ++ pcD dd) := by
    intro b T n dd hb hT htg hle hz hd
    have hb0 : 0 < b := by omega
    have hb5 : b ≤ 5 := by omega
    have rev : ∀ (V n : Nat), V = tgt s0 x.toInt → n ≤ 800 → isZ V n → ∀ (q k : Nat) (d2 : Nat → Int32), k + q = n / 2 → (∀ i, i < k → d2 i = nI (V / 10 ^ (n - 1 - i) % 10)) → (∀ i, n - k ≤ i → i < n → d2 i = nI (V / 10 ^ (n - 1 - i) % 10)) → (∀ i, k ≤ i → i < n - k → d2 i = nI (V / 10 ^ i % 10)) → ax_V p l e (ax_rm 0) s m args below meth c D cid ad A 11 0 0 (MQ below Qc args s 0 0 A) 153 [(0, .ref 20), (1, .long (uw s0)), (3, .int x), (4, .int (nI n)), (5, .int (nI b)), (6, .int (nI T)), (7, .int (nI k))] [] (pc_Mo er le ma ou ta di wr at0 wi pr lf pl bl ha ze wt pt fr si zs ct po ++ pcD d2) := by
      intro V n hVt hn8 hzV q
      induction q with
      | zero =>
        intro k d2 hk i1 i2 i3
        have hn : n = nN s0 x.toInt := nN_Z hs h1 h2 (by rw [← hVt]; exact hzV)
        have hres : de_is d2 n (dgs V n) := by
          intro i hi
          refine ⟨?_, d10 _ _⟩
          show d2 i = nI (V / 10 ^ (n - 1 - i) % 10)
          by_cases q1 : i < k
          · exact i1 i q1
          by_cases q2 : n - k ≤ i
          · exact i2 i q2 hi
          · have e9 : n - 1 - i = i := by omega
            rw [e9]
            exact i3 i (by omega) (by omega)
        rw [← hVt, ← hn] at E
        refine ax_iload G d_Mo_decimal_153 rfl ?_
        refine ax_iload G d_Mo_decimal_155 rfl ?_
        refine ax_iconst (v := 2) G d_Mo_decimal_157 (by decide) ?_
        rw [show (2 : Int32) = nI 2 from rfl]
        refine ax_idiv G d_Mo_decimal_158 (by decide) ?_
        rw [pk_div (by omega) (by decide) (by decide)]
        refine ax_icmp_ge (tgt := 210) G d_Mo_decimal_159 (by decide) (fun c_159 => ?_) (fun c_159 => ?_)
        · refine ax_aload_n G d_Mo_decimal_210 rfl rfl ?_
          refine ax_iload G d_Mo_decimal_211 rfl ?_
          refine ax_put (ci := 6) (j := 28) G d_Mo_decimal_213 rfl rfl (by decide) k_Mo_191 rfl rfl rfl (Nat.le_of_ble_eq_true rfl) ?_
          refine ax_aload_n G d_Mo_decimal_216 rfl rfl ?_
          refine ax_iload_n G d_Mo_decimal_217 rfl rfl ?_
          refine ax_if_ge (tgt := 228) G d_Mo_decimal_218 (by decide) (fun c_218 => ?_) (fun c_218 => ?_)
          · rw [if_neg (Int32.not_lt.mpr c_218)] at E
            refine ax_iload G d_Mo_decimal_228 rfl ?_
            refine ax_put (ci := 6) (j := 29) G d_Mo_decimal_230 rfl rfl (by decide) k_Mo_194 rfl rfl rfl (Nat.le_of_ble_eq_true rfl) ?_
            exact ax_vret G hr E d_Mo_decimal_233 rfl ⟨rfl, d2, rfl, hres⟩
          · rw [if_pos (Int32.not_le.mp c_218)] at E
            refine ax_iload G d_Mo_decimal_221 rfl ?_
            refine ax_iload_n G d_Mo_decimal_223 rfl rfl ?_
            refine ax_iadd G d_Mo_decimal_224 ?_
            refine ax_goto (tgt := 230) G d_Mo_decimal_225 (by decide) ?_
            refine ax_put (ci := 6) (j := 29) G d_Mo_decimal_230 rfl rfl (by decide) k_Mo_194 rfl rfl rfl (Nat.le_of_ble_eq_true rfl) ?_
            exact ax_vret G hr E d_Mo_decimal_233 rfl ⟨rfl, d2, rfl, hres⟩
        · exact absurd (nI_le (by omega) (by omega)) c_159
      | succ q ih =>
        intro k d2 hk i1 i2 i3
        have hkn : k < n - 1 - k := by omega
        refine ax_iload G d_Mo_decimal_153 rfl ?_
        refine ax_iload G d_Mo_decimal_155 rfl ?_
        refine ax_iconst (v := 2) G d_Mo_decimal_157 (by decide) ?_
        rw [show (2 : Int32) = nI 2 from rfl]
        refine ax_idiv G d_Mo_decimal_158 (by decide) ?_
        rw [pk_div (by omega) (by decide) (by decide)]
        refine ax_icmp_ge (tgt := 210) G d_Mo_decimal_159 (by decide) (fun c_159 => ?_) (fun c_159 => ?_)
        · exact absurd c_159 (nI_ge (by omega) (by omega))
        · refine ax_aload_n G d_Mo_decimal_162 rfl rfl ?_
          refine ax_get (ci := 6) (j := 26) G d_Mo_decimal_163 rfl rfl (by decide) k_Mo_33 rfl ?_
          refine ax_iload G d_Mo_decimal_166 rfl ?_
          refine ax_iald G d_Mo_decimal_168 rfl (vp_in_nI (by omega) (by decide)) ?_
          rw [nI_clamp (by omega), i3 k (by omega) (by omega)]
          refine ax_istore G d_Mo_decimal_169 (by decide) ?_
          refine ax_aload_n G d_Mo_decimal_171 rfl rfl ?_
          refine ax_get (ci := 6) (j := 26) G d_Mo_decimal_172 rfl rfl (by decide) k_Mo_33 rfl ?_
          refine ax_iload G d_Mo_decimal_175 rfl ?_
          refine ax_aload_n G d_Mo_decimal_177 rfl rfl ?_
          refine ax_get (ci := 6) (j := 26) G d_Mo_decimal_178 rfl rfl (by decide) k_Mo_33 rfl ?_
          refine ax_iload G d_Mo_decimal_181 rfl ?_
          refine ax_iconst (v := 1) G d_Mo_decimal_183 (by decide) ?_
          refine ax_isub G d_Mo_decimal_184 ?_
          rw [show nI n - 1 = nI n - nI 1 from rfl, pk_sub (by omega)]
          refine ax_iload G d_Mo_decimal_185 rfl ?_
          refine ax_isub G d_Mo_decimal_187 ?_
          rw [pk_sub (by omega)]
          refine ax_iald G d_Mo_decimal_188 rfl (vp_in_nI (by omega) (by decide)) ?_
          rw [nI_clamp (by omega), i3 (n - 1 - k) (by omega) (by omega)]
          refine ax_iast G d_Mo_decimal_189 rfl (vp_in_nI (by omega) (by decide)) ?_
          rw [nI_clamp (by omega)]
          refine ax_aload_n G d_Mo_decimal_190 rfl rfl ?_
          refine ax_get (ci := 6) (j := 26) G d_Mo_decimal_191 rfl rfl (by decide) k_Mo_33 rfl ?_
          refine ax_iload G d_Mo_decimal_194 rfl ?_
          refine ax_iconst (v := 1) G d_Mo_decimal_196 (by decide) ?_
          refine ax_isub G d_Mo_decimal_197 ?_
          rw [show nI n - 1 = nI n - nI 1 from rfl, pk_sub (by omega)]
          refine ax_iload G d_Mo_decimal_198 rfl ?_
          refine ax_isub G d_Mo_decimal_200 ?_
          rw [pk_sub (by omega)]
          refine ax_iload G d_Mo_decimal_201 rfl ?_
          refine ax_iast G d_Mo_decimal_203 rfl (vp_in_nI (by omega) (by decide)) ?_
          rw [nI_clamp (by omega)]
          refine ax_iincZ (z := 1) G d_Mo_decimal_204 rfl (by decide) (by decide) ?_
          refine ax_goto (tgt := 153) G d_Mo_decimal_207 (by decide) ?_
          rw [nI_1]
          refine ax_less (lv' := [(0, .ref 20), (1, .long (uw s0)), (3, .int x), (4, .int (nI n)), (5, .int (nI b)), (6, .int (nI T)), (7, .int (nI (k + 1)))]) (ih (k + 1) _ (by omega) (fun i hi => ?_) (fun i hi hi2 => ?_) (fun i hi hi2 => ?_)) ⟨rfl, rfl, rfl, rfl, rfl, rfl, rfl, trivial⟩
          · rw [pk_un (by omega)]
            by_cases hik : i = k
            · subst hik; rw [pk_us]
            · rw [pk_un hik]; exact i1 i (by omega)
          · by_cases hik : i = n - 1 - k
            · subst hik
              rw [pk_us, show n - 1 - (n - 1 - k) = k by omega]
            · rw [pk_un hik, pk_un (by omega)]
              exact i2 i (by omega) hi2
          · rw [pk_un (by omega), pk_un (by omega)]
            exact i3 i (by omega) (by omega)
    have outer : ∀ (q t n : Nat) (d2 : Nat → Int32), t + q = T → isZ (s0 * b ^ t) n → lo_is d2 n (s0 * b ^ t) → ax_V p l e (ax_rm 0) s m args below meth c D cid ad A 11 0 0 (MQ below Qc args s 0 0 A) 67 [(0, .ref 20), (1, .long (uw s0)), (3, .int x), (4, .int (nI n)), (5, .int (nI b)), (6, .int (nI T)), (7, .int (nI t))] [] (pc_Mo er le ma ou ta di wr at0 wi pr lf pl bl ha ze wt pt fr si zs ct po ++ pcD d2) := by
      intro q
      induction q with
      | zero =>
        intro t n d2 ht hz hd
        have et : t = T := by omega
        subst et
        have hn8 := hle t n (Nat.le_refl _) hz
        refine ax_iload G d_Mo_decimal_67 rfl ?_
        refine ax_iload G d_Mo_decimal_69 rfl ?_
        refine ax_icmp_ge (tgt := 150) G d_Mo_decimal_71 (by decide) (fun c_71 => ?_) (fun c_71 => ?_)
        · refine ax_iconst (v := 0) G d_Mo_decimal_150 (by decide) ?_
          refine ax_istore G d_Mo_decimal_151 (by decide) ?_
          exact rev (s0 * b ^ t) n htg hn8 hz (n / 2) 0 d2 (by omega) (fun i hi => absurd hi (Nat.not_lt_zero i)) (fun i hi hi2 => by omega) (fun i hi hi2 => hd i (by omega))
        · exact absurd (nI_le (by omega) (by omega)) c_71
      | succ q ih =>
        intro t n d2 ht hz hd
        have hn8 := hle t n (by omega) hz
        have hV2 : s0 * b ^ (t + 1) = b * (s0 * b ^ t) := by rw [Nat.pow_succ, Nat.mul_comm (b ^ t) b, Nat.mul_left_comm]
        have hcut : s0 * b ^ t % 10 ^ n = s0 * b ^ t := Nat.mod_eq_of_lt hz.1
        have ih2 := fun (n : Nat) (d2 : Nat → Int32) => ih (t + 1) n d2 (by omega)
        rw [hV2] at ih2
        clear ih
        generalize s0 * b ^ t = V at *
        have inner : ∀ (r k : Nat) (d3 : Nat → Int32), k + r = n → (∀ i, i < k → d3 i = nI (b * V / 10 ^ i % 10)) → (∀ i, k ≤ i → i < n → d3 i = nI (V / 10 ^ i % 10)) → ax_V p l e (ax_rm 0) s m args below meth c D cid ad A 11 0 0 (MQ below Qc args s 0 0 A) 80 [(0, .ref 20), (1, .long (uw s0)), (3, .int x), (4, .int (nI n)), (5, .int (nI b)), (6, .int (nI T)), (7, .int (nI t)), (8, .int (nI (b * (V % 10 ^ k) / 10 ^ k))), (9, .int (nI k))] [] (pc_Mo er le ma ou ta di wr at0 wi pr lf pl bl ha ze wt pt fr si zs ct po ++ pcD d3) := by
          intro r
          induction r with
          | zero =>
            intro k d3 hk j1 j2
            have ek : k = n := by omega
            subst ek
            have hc5 := car_lt (V := V) (b := b) (k := k) hb0
            rw [hcut] at hc5 ⊢
            refine ax_iload G d_Mo_decimal_80 rfl ?_
            refine ax_iload G d_Mo_decimal_82 rfl ?_
            refine ax_icmp_ge (tgt := 127) G d_Mo_decimal_84 (by decide) (fun c_84 => ?_) (fun c_84 => ?_)
            · refine ax_iload G d_Mo_decimal_127 rfl ?_
              refine ax_if_le (tgt := 144) G d_Mo_decimal_129 (by decide) (fun c_129 => ?_) (fun c_129 => ?_)
              · have hc0 : b * V / 10 ^ k = 0 := by
                  have : nI (b * V / 10 ^ k) ≤ nI 0 := c_129
                  exact Nat.le_zero.mp ((nI_leI (by omega) (by decide)).mp this)
                refine ax_iincZ (z := 1) G d_Mo_decimal_144 rfl (by decide) (by decide) ?_
                refine ax_goto (tgt := 67) G d_Mo_decimal_147 (by decide) ?_
                rw [nI_1]
                exact ax_less (lv' := [(0, .ref 20), (1, .long (uw s0)), (3, .int x), (4, .int (nI k)), (5, .int (nI b)), (6, .int (nI T)), (7, .int (nI (t + 1)))]) (ih2 k d3 (isZ_no hz hb0 hc0) (fun i hi => j1 i hi)) ⟨rfl, rfl, rfl, rfl, rfl, rfl, rfl, trivial⟩
              · have hc0 : 0 < b * V / 10 ^ k := by
                  rcases Nat.eq_zero_or_pos (b * V / 10 ^ k) with z | z
                  · exact absurd (by rw [z]; exact Int32.le_refl _) c_129
                  · exact z
                have hup := isZ_up hz hb5 hc0
                refine ax_aload_n G d_Mo_decimal_132 rfl rfl ?_
                refine ax_get (ci := 6) (j := 26) G d_Mo_decimal_133 rfl rfl (by decide) k_Mo_33 rfl ?_
                refine ax_iload G d_Mo_decimal_136 rfl ?_
                refine ax_iincZ (z := 1) G d_Mo_decimal_138 rfl (by decide) (by decide) ?_
                rw [nI_1]
                refine ax_iload G d_Mo_decimal_141 rfl ?_
                refine ax_iast G d_Mo_decimal_143 rfl (vp_in_nI (by omega) (by decide)) ?_
                rw [nI_clamp (by omega)]
                refine ax_iincZ (z := 1) G d_Mo_decimal_144 rfl (by decide) (by decide) ?_
                refine ax_goto (tgt := 67) G d_Mo_decimal_147 (by decide) ?_
                rw [nI_1]
                refine ax_less (lv' := [(0, .ref 20), (1, .long (uw s0)), (3, .int x), (4, .int (nI (k + 1))), (5, .int (nI b)), (6, .int (nI T)), (7, .int (nI (t + 1)))]) (ih2 (k + 1) _ hup.1 (fun i hi => ?_)) ⟨rfl, rfl, rfl, rfl, rfl, rfl, rfl, trivial⟩
                by_cases hik : i = k
                · subst hik; rw [pk_us, hup.2]
                · rw [pk_un hik]; exact j1 i (by omega)
            · exact absurd (nI_le (by omega) (by omega)) c_84
          | succ r ihr =>
            intro k d3 hk j1 j2
            have hc5 := car_lt (V := V) (b := b) (k := k) hb0
            have hdg := d10 V k
            obtain ⟨m1, m2⟩ := mst V b k
            have hj2 := j2 k (Nat.le_refl _) (by omega)
            have ihr2 := fun (d : Nat → Int32) => ihr (k + 1) d (by omega)
            rw [← m2] at ihr2
            clear ihr
            generalize b * (V % 10 ^ k) / 10 ^ k = cy at *
            generalize V / 10 ^ k % 10 = dig at *
            have hbd : b * dig ≤ 5 * 9 := Nat.mul_le_mul hb5 (by omega)
            refine ax_iload G d_Mo_decimal_80 rfl ?_
            refine ax_iload G d_Mo_decimal_82 rfl ?_
            refine ax_icmp_ge (tgt := 127) G d_Mo_decimal_84 (by decide) (fun c_84 => ?_) (fun c_84 => ?_)
            · exact absurd c_84 (nI_ge (by omega) (by omega))
            · refine ax_iload G d_Mo_decimal_87 rfl ?_
              refine ax_aload_n G d_Mo_decimal_89 rfl rfl ?_
              refine ax_get (ci := 6) (j := 26) G d_Mo_decimal_90 rfl rfl (by decide) k_Mo_33 rfl ?_
              refine ax_iload G d_Mo_decimal_93 rfl ?_
              refine ax_iald G d_Mo_decimal_95 rfl (vp_in_nI (by omega) (by decide)) ?_
              rw [nI_clamp (by omega), hj2]
              refine ax_imul G d_Mo_decimal_96 ?_
              rw [pk_mul]
              refine ax_iload G d_Mo_decimal_97 rfl ?_
              refine ax_iadd G d_Mo_decimal_99 ?_
              rw [nI_add]
              refine ax_istore G d_Mo_decimal_100 (by decide) ?_
              refine ax_aload_n G d_Mo_decimal_102 rfl rfl ?_
              refine ax_get (ci := 6) (j := 26) G d_Mo_decimal_103 rfl rfl (by decide) k_Mo_33 rfl ?_
              refine ax_iload G d_Mo_decimal_106 rfl ?_
              refine ax_iload G d_Mo_decimal_108 rfl ?_
              refine ax_bipush (v := 10) G d_Mo_decimal_110 (by decide) ?_
              rw [show (10 : Int32) = nI 10 from rfl]
              refine ax_irem G d_Mo_decimal_112 (by decide) ?_
              rw [pk_rem (by omega) (by decide) (by decide)]
              refine ax_iast G d_Mo_decimal_113 rfl (vp_in_nI (by omega) (by decide)) ?_
              rw [nI_clamp (by omega)]
              refine ax_iload G d_Mo_decimal_114 rfl ?_
              refine ax_bipush (v := 10) G d_Mo_decimal_116 (by decide) ?_
              rw [show (10 : Int32) = nI 10 from rfl]
              refine ax_idiv G d_Mo_decimal_118 (by decide) ?_
              rw [pk_div (by omega) (by decide) (by decide)]
              refine ax_istore G d_Mo_decimal_119 (by decide) ?_
              refine ax_iincZ (z := 1) G d_Mo_decimal_121 rfl (by decide) (by decide) ?_
              refine ax_goto (tgt := 80) G d_Mo_decimal_124 (by decide) ?_
              rw [nI_1]
              refine ax_less (lv' := [(0, .ref 20), (1, .long (uw s0)), (3, .int x), (4, .int (nI n)), (5, .int (nI b)), (6, .int (nI T)), (7, .int (nI t)), (8, .int (nI ((b * dig + cy) / 10))), (9, .int (nI (k + 1)))]) (ihr2 _ (fun i hi => ?_) (fun i hi hi2 => ?_)) ⟨rfl, rfl, rfl, rfl, rfl, rfl, rfl, rfl, rfl, trivial⟩
              · by_cases hik : i = k
                · subst hik; rw [pk_us, m1]
                · rw [pk_un hik]; exact j1 i (by omega)
              · rw [pk_un (by omega)]; exact j2 i (by omega) hi2
        refine ax_iload G d_Mo_decimal_67 rfl ?_
        refine ax_iload G d_Mo_decimal_69 rfl ?_
        refine ax_icmp_ge (tgt := 150) G d_Mo_decimal_71 (by decide) (fun c_71 => ?_) (fun c_71 => ?_)
        · exact absurd c_71 (nI_ge (by omega) (by omega))
        · refine ax_iconst (v := 0) G d_Mo_decimal_74 (by decide) ?_
          refine ax_istore G d_Mo_decimal_75 (by decide) ?_
          refine ax_iconst (v := 0) G d_Mo_decimal_77 (by decide) ?_
          refine ax_istore G d_Mo_decimal_78 (by decide) ?_
          have := inner n 0 d2 (by omega) (fun i hi => absurd hi (Nat.not_lt_zero i)) (fun i _ hi2 => hd i hi2)
          rw [show b * (V % 10 ^ 0) / 10 ^ 0 = 0 by rw [Nat.pow_zero, Nat.mod_one, Nat.mul_zero]] at this
          exact this
    refine ax_iconst (v := 0) G d_Mo_decimal_64 (by decide) ?_
    refine ax_istore G d_Mo_decimal_65 (by decide) ?_
    exact outer T 0 n dd (by omega) (by rw [Nat.pow_zero, Nat.mul_one]; exact hz) (by rw [Nat.pow_zero, Nat.mul_one]; exact hd)
  have mid : ∀ (n : Nat) (d2 : Nat → Int32) (W : Int64), isZ s0 n → lo_is d2 n s0 → ax_V p l e (ax_rm 0) s m args below meth c D cid ad A 11 0 0 (MQ below Qc args s 0 0 A) 41 [(0, .ref 20), (1, .long (uw s0)), (3, .int x), (4, .int (nI n)), (5, .long W)] [] (pc_Mo er le ma ou ta di wr at0 wi pr lf pl bl ha ze wt pt fr si zs ct po ++ pcD d2) := by
    intro n d2 W hz hd
    have hB := tgt_lt hs h1 h2
    by_cases hx : x < 0
    · have hxi : x.toInt < 0 := (i32_lt _ _).mp hx
      have e1 : -x = nI (-x.toInt).toNat := by apply i32_eq; rw [i32_neg _ (by omega), nI_toInt (by omega)]; omega
      have et : s0 * 5 ^ (-x.toInt).toNat = tgt s0 x.toInt := by rw [tgt_eq, show x.toInt.toNat = 0 by omega, Nat.pow_zero, Nat.mul_one]
      refine ax_iload_n G d_Mo_decimal_41 rfl rfl ?_
      refine ax_if_ge (tgt := 49) G d_Mo_decimal_42 (by decide) (fun c_42 => ?_) (fun c_42 => ?_)
      · exact absurd hx (Int32.not_lt.mpr c_42)
      · refine ax_iconst (v := 5) G d_Mo_decimal_45 (by decide) ?_
        refine ax_goto (tgt := 50) G d_Mo_decimal_46 (by decide) ?_
        refine ax_istore G d_Mo_decimal_50 (by decide) ?_
        refine ax_iload_n G d_Mo_decimal_52 rfl rfl ?_
        refine ax_if_ge (tgt := 61) G d_Mo_decimal_53 (by decide) (fun c_53 => ?_) (fun c_53 => ?_)
        · exact absurd hx (Int32.not_lt.mpr c_53)
        · refine ax_iload_n G d_Mo_decimal_56 rfl rfl ?_
          refine ax_ineg G d_Mo_decimal_57 ?_
          rw [e1]
          refine ax_goto (tgt := 62) G d_Mo_decimal_58 (by decide) ?_
          refine ax_istore G d_Mo_decimal_62 (by decide) ?_
          exact core 5 (-x.toInt).toNat n d2 (Or.inr rfl) (by omega) et (fun t n ht hz => isZ_le hz (Nat.lt_of_lt_of_le (Nat.lt_of_le_of_lt (mul_le_tgt (by decide) ht) (by rw [et]; exact hB)) bB_le)) hz hd
    · have hxi : 0 ≤ x.toInt := Int.not_lt.mp (fun z => hx ((i32_lt _ _).mpr z))
      have e1 : x = nI x.toInt.toNat := by apply i32_eq; rw [nI_toInt (by omega)]; omega
      have et : s0 * 2 ^ x.toInt.toNat = tgt s0 x.toInt := by rw [tgt_eq, show (-x.toInt).toNat = 0 by omega, Nat.pow_zero, Nat.mul_one]
      have q := core 2 x.toInt.toNat n d2 (Or.inl rfl) (by omega) et (fun t n ht hz => isZ_le hz (Nat.lt_of_lt_of_le (Nat.lt_of_le_of_lt (mul_le_tgt (by decide) ht) (by rw [et]; exact hB)) bB_le)) hz hd
      rw [← e1] at q
      refine ax_iload_n G d_Mo_decimal_41 rfl rfl ?_
      refine ax_if_ge (tgt := 49) G d_Mo_decimal_42 (by decide) (fun c_42 => ?_) (fun c_42 => ?_)
      · refine ax_iconst (v := 2) G d_Mo_decimal_49 (by decide) ?_
        refine ax_istore G d_Mo_decimal_50 (by decide) ?_
        refine ax_iload_n G d_Mo_decimal_52 rfl rfl ?_
        refine ax_if_ge (tgt := 61) G d_Mo_decimal_53 (by decide) (fun c_53 => ?_) (fun c_53 => ?_)
        · refine ax_iload_n G d_Mo_decimal_61 rfl rfl ?_
          refine ax_istore G d_Mo_decimal_62 (by decide) ?_
          exact q
        · exact absurd (Int32.not_lt.mp hx) c_53
      · exact absurd (Int32.not_lt.mp hx) c_42
  have first : ∀ (q n : Nat) (d2 : Nat → Int32), n + q = 20 → s0 / 10 ^ n < 10 ^ q → (∀ k, k < n → s0 / 10 ^ k ≠ 0) → lo_is d2 n s0 → ax_V p l e (ax_rm 0) s m args below meth c D cid ad A 11 0 0 (MQ below Qc args s 0 0 A) 6 [(0, .ref 20), (1, .long (uw s0)), (3, .int x), (4, .int (nI n)), (5, .long (lN (s0 / 10 ^ n)))] [] (pc_Mo er le ma ou ta di wr at0 wi pr lf pl bl ha ze wt pt fr si zs ct po ++ pcD d2) := by
    intro q
    induction q with
    | zero =>
      intro n d2 hn hq hk hd
      have h0 : s0 / 10 ^ n = 0 := Nat.lt_one_iff.mp hq
      have hzz := isZ_end hk h0
      rw [h0]
      refine ax_lload G d_Mo_decimal_6 rfl ?_
      refine ax_lconst (v := 0) G d_Mo_decimal_8 (by decide) ?_
      refine ax_lcmp G d_Mo_decimal_9 ?_
      refine ax_if_le (tgt := 41) G d_Mo_decimal_10 (by decide) (fun c_10 => ?_) (fun c_10 => ?_)
      · exact mid n d2 _ hzz hd
      · exact absurd (by decide) c_10
    | succ q ih =>
      intro n d2 hn hq hk hd
      have hWs : s0 / 10 ^ n ≤ s0 := Nat.div_le_self _ _
      have hz : (lg_cmp (lN (s0 / 10 ^ n)) 0 ≤ 0) ↔ s0 / 10 ^ n = 0 := by
        rw [lg_cmp_le, show (0 : Int64) = lN 0 from rfl, pk_lLE (by omega) (by decide)]
        exact Nat.le_zero
      have hnx : s0 / 10 ^ (n + 1) = s0 / 10 ^ n / 10 := by rw [Nat.pow_succ, Nat.div_div_eq_div_mul]
      have ih2 := fun (d2 : Nat → Int32) => ih (n + 1) d2 (by omega)
      have hq2 : s0 / 10 ^ n / 10 < 10 ^ q := by
        rw [Nat.div_lt_iff_lt_mul (by decide), ← Nat.pow_succ]; exact hq
      rw [hnx] at ih2
      have hdd : lo_is (upd d2 n (nI (s0 / 10 ^ n % 10))) (n + 1) s0 := by
        intro i hi
        by_cases hin : i = n
        · subst hin; rw [pk_us]
        · rw [pk_un hin]; exact hd i (by omega)
      have hkk : s0 / 10 ^ n ≠ 0 → ∀ k, k < n + 1 → s0 / 10 ^ k ≠ 0 := by
        intro h0 k hk2
        by_cases hkn : k = n
        · subst hkn; exact h0
        · exact hk k (by omega)
      have hmid : s0 / 10 ^ n = 0 → isZ s0 n := fun h0 => isZ_end hk h0
      clear ih hq hk hnx
      generalize s0 / 10 ^ n = W at *
      refine ax_lload G d_Mo_decimal_6 rfl ?_
      refine ax_lconst (v := 0) G d_Mo_decimal_8 (by decide) ?_
      refine ax_lcmp G d_Mo_decimal_9 ?_
      refine ax_if_le (tgt := 41) G d_Mo_decimal_10 (by decide) (fun c_10 => ?_) (fun c_10 => ?_)
      · exact mid n d2 _ (hmid (hz.mp c_10)) hd
      · have h0 : W ≠ 0 := fun z => c_10 (hz.mpr z)
        refine ax_aload_n G d_Mo_decimal_13 rfl rfl ?_
        refine ax_get (ci := 6) (j := 26) G d_Mo_decimal_14 rfl rfl (by decide) k_Mo_33 rfl ?_
        refine ax_iload G d_Mo_decimal_17 rfl ?_
        refine ax_iincZ (z := 1) G d_Mo_decimal_19 rfl (by decide) (by decide) ?_
        rw [nI_1]
        refine ax_lload G d_Mo_decimal_22 rfl ?_
        refine ax_ldc2 G d_Mo_decimal_24 k_Mo_189 ?_
        rw [show (10 : Int64) = lN 10 from rfl]
        refine ax_lrem G d_Mo_decimal_27 (by decide) ?_
        rw [pk_lRem (by omega) (by decide) (by decide)]
        refine ax_l2i G d_Mo_decimal_28 ?_
        rw [lN_i]
        refine ax_iast G d_Mo_decimal_29 rfl (vp_in_nI (by omega) (by decide)) ?_
        rw [nI_clamp (by omega)]
        refine ax_lload G d_Mo_decimal_30 rfl ?_
        refine ax_ldc2 G d_Mo_decimal_32 k_Mo_189 ?_
        rw [show (10 : Int64) = lN 10 from rfl]
        refine ax_ldiv G d_Mo_decimal_35 (by decide) ?_
        rw [pk_lDiv (by omega) (by decide) (by decide)]
        refine ax_lstore G d_Mo_decimal_36 (by decide) ?_
        refine ax_goto (tgt := 6) G d_Mo_decimal_38 (by decide) ?_
        exact ih2 _ hq2 (hkk h0) hdd
  refine ax_iconst (v := 0) G d_Mo_decimal_0 (by decide) ?_
  refine ax_istore G d_Mo_decimal_1 (by decide) ?_
  refine ax_lload_n G d_Mo_decimal_3 rfl rfl ?_
  refine ax_lstore G d_Mo_decimal_4 (by decide) ?_
  have q := first 20 0 dd rfl (by rw [Nat.pow_zero, Nat.div_one]; exact Nat.lt_trans hs (by decide)) (fun k hk => absurd hk (Nat.not_lt_zero k)) (fun i hi => absurd hi (Nat.not_lt_zero i))
  rw [Nat.pow_zero, Nat.div_one] at q
  exact q

