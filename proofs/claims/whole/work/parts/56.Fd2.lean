/-! FormatDesk: putOutPiece -/
set_option maxRecDepth 20000 in
set_option maxHeartbeats 1000000 in
theorem ct_Fd_putOutPiece (l : Launch) (os bs : List Nat) (z : Option Nat) (w : Nat) (ac wa tk dd : Int32) (ar : Nat → Int64) (o f : Nat → Int32) (lf pl bl ha ze wt : Bool) (pr : Int32) (pt : Bool) (kd : Int32) (gr : Bool) (pa : Int32) (ho : pi_is o os) (hf : pi_is f bs) (hol : os.length ≤ 4000) (hbl : bs.length ≤ 520) (hw : w ≤ 200) (hz : ∀ k, z = some k → k ≤ bs.length) : ax_CT l y_Fd_putOutPiece c_Fd_putOutPiece 6 (some .boolean) 1 [.ref 0, .ref 7] (pc_Fd ac (nI os.length) wa tk dd ar o ++ pc_Pi (nI bs.length) (prI z) f ++ pc_Di lf pl bl ha ze (nI w) wt pr pt kd gr pa) (fun r h => r = some (.int (zb (decide (os.length + bs.length + (w - bs.length) ≤ 4000)))) ∧ ∃ oc' o', h = pc_Fd ac oc' wa tk dd ar o' ++ pc_Pi (nI bs.length) (prI z) f ++ pc_Di lf pl bl ha ze (nI w) wt pr pt kd gr pa ∧ (os.length + bs.length + (w - bs.length) ≤ 4000 → oc' = nI (os ++ fld lf ze w bs z).length ∧ pi_is o' (os ++ fld lf ze w bs z))) := by
  refine ax_ofV (by decide) (Nat.le_of_ble_eq_true rfl) ?_
  intro p e s m args below meth c D cid ad A Qc G hr E
  have hfl := fld_len lf ze w bs z
  have hz6 : ∀ k, z = some k → k ≤ 600 := fun k hk => by have := hz k hk; omega
  have hpl : fpl lf (fzs lf ze z) z bs.length ≤ bs.length := by
    unfold fpl
    split
    · exact Nat.le_refl _
    split
    · cases z with
      | none => exact Nat.zero_le _
      | some k => exact hz k rfl
    · exact Nat.zero_le _
  generalize hm : w - bs.length = ms at *
  refine ax_iconst (v := 0) G d_Fd_putOutPiece_0 (by decide) ?_
  refine ax_aload_n G d_Fd_putOutPiece_1 rfl rfl ?_
  refine ax_get (ci := 5) (j := 8) G d_Fd_putOutPiece_2 rfl rfl (by decide) k_Fd_43 rfl ?_
  refine ax_getN (ci := 1) (j := 5) G d_Fd_putOutPiece_5 rfl rfl (by decide) k_Fd_158 rfl ?_
  refine ax_aload_n G d_Fd_putOutPiece_8 rfl rfl ?_
  refine ax_getN (ci := 3) (j := 1) G d_Fd_putOutPiece_9 rfl rfl (by decide) k_Fd_161 rfl ?_
  refine ax_isub G d_Fd_putOutPiece_12 ?_
  refine ax_mmax G d_Fd_putOutPiece_13 k_Fd_99 ⟨by decide, by decide⟩ (Nat.le_of_ble_eq_true rfl) ⟨by decide, by decide⟩ ?_
  rw [miss_row hw hbl, hm]
  refine ax_istore_n G d_Fd_putOutPiece_16 rfl (by decide) ?_
  refine ax_aload_n G d_Fd_putOutPiece_17 rfl rfl ?_
  refine ax_get (ci := 5) (j := 4) G d_Fd_putOutPiece_18 rfl rfl (by decide) k_Fd_28 rfl ?_
  refine ax_aload_n G d_Fd_putOutPiece_21 rfl rfl ?_
  refine ax_getN (ci := 3) (j := 1) G d_Fd_putOutPiece_22 rfl rfl (by decide) k_Fd_161 rfl ?_
  refine ax_iadd G d_Fd_putOutPiece_25 ?_
  refine ax_iload_n G d_Fd_putOutPiece_26 rfl rfl ?_
  refine ax_iadd G d_Fd_putOutPiece_27 ?_
  rw [nI_add, nI_add]
  refine ax_sipush (v := 4000) G d_Fd_putOutPiece_28 (by decide) ?_
  refine ax_icmp_le (tgt := 36) G d_Fd_putOutPiece_31 (by decide) (fun c_31 => ?_) (fun c_31 => ?_)
  · have hle : os.length + bs.length + ms ≤ 4000 := (nI_leI (b := 4000) (by omega) (by decide)).mp c_31
    rw [decide_eq_true hle] at E
    generalize hzs : fzs lf ze z = zs at *
    generalize hpp : fpl lf zs z bs.length = place at *
    have hfd : os ++ fld lf ze w bs z = os ++ bs.take place ++ List.replicate ms (if zs then 48 else 32) ++ bs.drop place := by unfold fld; rw [hzs, hpp, hm, List.append_assoc, List.append_assoc]
    have hcc : ((if zs then 48 else 32) : Nat) < 128 := by split <;> decide
    have c3 : ∀ (k i : Nat) (o' : Nat → Int32), i + k = bs.length - place → pi_is o' (os ++ bs.take place ++ List.replicate ms (if zs then 48 else 32) ++ (bs.drop place).take i) → ax_V p l e (ax_rm 1) s m args below meth c D cid ad A 6 0 0 (MQ below Qc args s 0 0 A) 163 [(0, .ref 0), (1, .ref 7), (2, .int (nI ms)), (3, .int (zb zs)), (4, .int (nI place)), (5, .int (nI (place + i)))] [] (pc_Fd ac (nI (os ++ bs.take place ++ List.replicate ms (if zs then 48 else 32) ++ (bs.drop place).take i).length) wa tk dd ar o' ++ pc_Pi (nI bs.length) (prI z) f ++ pc_Di lf pl bl ha ze (nI w) wt pr pt kd gr pa) := by
      intro k
      induction k with
      | zero =>
        intro i o' hk hi
        have ei : i = bs.length - place := by omega
        rw [ei, dr_all, ← hfd] at hi ⊢
        refine ax_iload G d_Fd_putOutPiece_163 rfl ?_
        refine ax_aload_n G d_Fd_putOutPiece_165 rfl rfl ?_
        refine ax_getN (ci := 3) (j := 1) G d_Fd_putOutPiece_166 rfl rfl (by decide) k_Fd_161 rfl ?_
        refine ax_icmp_ge (tgt := 189) G d_Fd_putOutPiece_169 (by decide) (fun c_169 => ?_) (fun c_169 => ?_)
        · refine ax_iconst (v := 1) G d_Fd_putOutPiece_189 (by decide) ?_
          exact ax_zret G hr E rfl d_Fd_putOutPiece_190 rfl ⟨rfl, _, o', rfl, fun _ => ⟨rfl, hi⟩⟩
        · exact absurd (nI_le (by omega) (by omega)) c_169
      | succ k ih =>
        intro i o' hk hi
        have hX : (os ++ bs.take place ++ List.replicate ms (if zs then 48 else 32) ++ (bs.drop place).take i).length < 4000 := by
          rw [List.length_append, List.length_append, List.length_append, List.length_replicate, List.length_take, List.length_take, List.length_drop]; omega
        refine ax_iload G d_Fd_putOutPiece_163 rfl ?_
        refine ax_aload_n G d_Fd_putOutPiece_165 rfl rfl ?_
        refine ax_getN (ci := 3) (j := 1) G d_Fd_putOutPiece_166 rfl rfl (by decide) k_Fd_161 rfl ?_
        refine ax_icmp_ge (tgt := 189) G d_Fd_putOutPiece_169 (by decide) (fun c_169 => ?_) (fun c_169 => ?_)
        · exact absurd c_169 (nI_ge (by omega) (by omega))
        · refine ax_aload_n G d_Fd_putOutPiece_172 rfl rfl ?_
          refine ax_aload_n G d_Fd_putOutPiece_173 rfl rfl ?_
          refine ax_iload G d_Fd_putOutPiece_174 rfl ?_
          refine ax_callV (n := 1) G (ct_Pi_letterAt l bs (prI z) f (place + i) hf hbl (by omega)) d_Fd_putOutPiece_176 rfl ⟨rfl, rfl, trivial⟩ rfl rfl rfl kc_Pi_letterAt ⟨k_Fd_173, ki_Pi_letterAt, ks_Pi_letterAt, kk_Pi⟩ (by decide +kernel) rfl ⟨by decide, by decide⟩ (Nat.le_of_ble_eq_true rfl) ⟨by decide, by decide⟩ (fun r hc_ hq hk_ => ?_)
          obtain ⟨rfl, rfl⟩ := hq
          refine ax_callV (n := 1) G (ct_Fd_putOut l _ (bs.getD (place + i) 0) ac wa tk dd ar o' hi hX (pi_at hf (by omega))) d_Fd_putOutPiece_179 rfl ⟨rfl, rfl, rfl, trivial⟩ rfl rfl rfl kc_Fd_putOut ⟨k_Fd_127, ki_Fd_putOut, ks_Fd_putOut, kk_Fd⟩ (by decide +kernel) rfl ⟨by decide, by decide⟩ (Nat.le_of_ble_eq_true rfl) ⟨by decide, by decide⟩ (fun r hc_ hq hk_ => ?_)
          obtain ⟨rfl, o2, rfl, ho2⟩ := hq
          rw [List.append_assoc _ _ [bs.getD (place + i) 0], ← dr_s (by omega)] at ho2 ⊢
          refine ax_pop G d_Fd_putOutPiece_182 rfl ?_
          refine ax_iincZ (z := 1) G d_Fd_putOutPiece_183 rfl (by decide) (by decide) ?_
          refine ax_goto (tgt := 163) G d_Fd_putOutPiece_186 (by decide) ?_
          rw [nI_1]
          exact ih (i + 1) o2 (by omega) ho2
    have c2 : ∀ (k i : Nat) (o' : Nat → Int32), i + k = ms → pi_is o' (os ++ bs.take place ++ List.replicate i (if zs then 48 else 32)) → ax_V p l e (ax_rm 1) s m args below meth c D cid ad A 6 0 0 (MQ below Qc args s 0 0 A) 131 [(0, .ref 0), (1, .ref 7), (2, .int (nI ms)), (3, .int (zb zs)), (4, .int (nI place)), (5, .int (nI (i)))] [] (pc_Fd ac (nI (os ++ bs.take place ++ List.replicate i (if zs then 48 else 32)).length) wa tk dd ar o' ++ pc_Pi (nI bs.length) (prI z) f ++ pc_Di lf pl bl ha ze (nI w) wt pr pt kd gr pa) := by
      intro k
      induction k with
      | zero =>
        intro i o' hk hi
        have ei : i = ms := by omega
        subst ei
        refine ax_iload G d_Fd_putOutPiece_131 rfl ?_
        refine ax_iload_n G d_Fd_putOutPiece_133 rfl rfl ?_
        refine ax_icmp_ge (tgt := 159) G d_Fd_putOutPiece_134 (by decide) (fun c_134 => ?_) (fun c_134 => ?_)
        · refine ax_iload G d_Fd_putOutPiece_159 rfl ?_
          refine ax_istore G d_Fd_putOutPiece_161 (by decide) ?_
          exact c3 (bs.length - place) 0 o' (by omega) (by rw [List.take_zero, List.append_nil]; exact hi) |> fun q => by rw [List.take_zero, List.append_nil] at q; exact q
        · exact absurd (nI_le (by omega) (by omega)) c_134
      | succ k ih =>
        intro i o' hk hi
        have hX : (os ++ bs.take place ++ List.replicate i (if zs then 48 else 32)).length < 4000 := by
          rw [List.length_append, List.length_append, List.length_replicate, List.length_take]; omega
        have put : ax_V p l e (ax_rm 1) s m args below meth c D cid ad A 6 0 0 (MQ below Qc args s 0 0 A) 149 [(0, .ref 0), (1, .ref 7), (2, .int (nI ms)), (3, .int (zb zs)), (4, .int (nI place)), (5, .int (nI (i)))] [.int (nI (if zs then 48 else 32)), .ref 0] (pc_Fd ac (nI (os ++ bs.take place ++ List.replicate i (if zs then 48 else 32)).length) wa tk dd ar o' ++ pc_Pi (nI bs.length) (prI z) f ++ pc_Di lf pl bl ha ze (nI w) wt pr pt kd gr pa) := by
          refine ax_callV (n := 1) G (ct_Fd_putOut l _ (if zs then 48 else 32) ac wa tk dd ar o' hi hX hcc) d_Fd_putOutPiece_149 rfl ⟨rfl, rfl, rfl, trivial⟩ rfl rfl rfl kc_Fd_putOut ⟨k_Fd_127, ki_Fd_putOut, ks_Fd_putOut, kk_Fd⟩ (by decide +kernel) rfl ⟨by decide, by decide⟩ (Nat.le_of_ble_eq_true rfl) ⟨by decide, by decide⟩ (fun r hc_ hq hk_ => ?_)
          obtain ⟨rfl, o2, rfl, ho2⟩ := hq
          rw [List.append_assoc _ _ [(if zs then 48 else 32)], ← rp_s] at ho2 ⊢
          refine ax_pop G d_Fd_putOutPiece_152 rfl ?_
          refine ax_iincZ (z := 1) G d_Fd_putOutPiece_153 rfl (by decide) (by decide) ?_
          refine ax_goto (tgt := 131) G d_Fd_putOutPiece_156 (by decide) ?_
          rw [nI_1]
          exact ih (i + 1) o2 (by omega) ho2
        refine ax_iload G d_Fd_putOutPiece_131 rfl ?_
        refine ax_iload_n G d_Fd_putOutPiece_133 rfl rfl ?_
        refine ax_icmp_ge (tgt := 159) G d_Fd_putOutPiece_134 (by decide) (fun c_134 => ?_) (fun c_134 => ?_)
        · exact absurd c_134 (nI_ge (by omega) (by omega))
        · cases zs with
          | true =>
            refine ax_aload_n G d_Fd_putOutPiece_137 rfl rfl ?_
            refine ax_iload_n G d_Fd_putOutPiece_138 rfl rfl ?_
            refine ax_if_eq (tgt := 147) G d_Fd_putOutPiece_139 (by decide) (fun c_139 => ?_) (fun c_139 => ?_)
            · exact absurd c_139 (by decide)
            · refine ax_bipush (v := 48) G d_Fd_putOutPiece_142 (by decide) ?_
              refine ax_goto (tgt := 149) G d_Fd_putOutPiece_144 (by decide) ?_
              exact put
          | false =>
            refine ax_aload_n G d_Fd_putOutPiece_137 rfl rfl ?_
            refine ax_iload_n G d_Fd_putOutPiece_138 rfl rfl ?_
            refine ax_if_eq (tgt := 147) G d_Fd_putOutPiece_139 (by decide) (fun c_139 => ?_) (fun c_139 => ?_)
            · refine ax_bipush (v := 32) G d_Fd_putOutPiece_147 (by decide) ?_
              exact put
            · exact absurd rfl c_139
    have c1 : ∀ (k i : Nat) (o' : Nat → Int32), i + k = place → pi_is o' (os ++ bs.take i) → ax_V p l e (ax_rm 1) s m args below meth c D cid ad A 6 0 0 (MQ below Qc args s 0 0 A) 104 [(0, .ref 0), (1, .ref 7), (2, .int (nI ms)), (3, .int (zb zs)), (4, .int (nI place)), (5, .int (nI (i)))] [] (pc_Fd ac (nI (os ++ bs.take i).length) wa tk dd ar o' ++ pc_Pi (nI bs.length) (prI z) f ++ pc_Di lf pl bl ha ze (nI w) wt pr pt kd gr pa) := by
      intro k
      induction k with
      | zero =>
        intro i o' hk hi
        have ei : i = place := by omega
        subst ei
        refine ax_iload G d_Fd_putOutPiece_104 rfl ?_
        refine ax_iload G d_Fd_putOutPiece_106 rfl ?_
        refine ax_icmp_ge (tgt := 128) G d_Fd_putOutPiece_108 (by decide) (fun c_108 => ?_) (fun c_108 => ?_)
        · refine ax_iconst (v := 0) G d_Fd_putOutPiece_128 (by decide) ?_
          refine ax_istore G d_Fd_putOutPiece_129 (by decide) ?_
          have q := c2 ms 0 o' (by omega) (by rw [List.replicate_zero, List.append_nil]; exact hi)
          rw [List.replicate_zero, List.append_nil] at q
          exact q
        · exact absurd (nI_le (by omega) (by omega)) c_108
      | succ k ih =>
        intro i o' hk hi
        have hX : (os ++ bs.take i).length < 4000 := by
          rw [List.length_append, List.length_take]; omega
        refine ax_iload G d_Fd_putOutPiece_104 rfl ?_
        refine ax_iload G d_Fd_putOutPiece_106 rfl ?_
        refine ax_icmp_ge (tgt := 128) G d_Fd_putOutPiece_108 (by decide) (fun c_108 => ?_) (fun c_108 => ?_)
        · exact absurd c_108 (nI_ge (by omega) (by omega))
        · refine ax_aload_n G d_Fd_putOutPiece_111 rfl rfl ?_
          refine ax_aload_n G d_Fd_putOutPiece_112 rfl rfl ?_
          refine ax_iload G d_Fd_putOutPiece_113 rfl ?_
          refine ax_callV (n := 1) G (ct_Pi_letterAt l bs (prI z) f i hf hbl (by omega)) d_Fd_putOutPiece_115 rfl ⟨rfl, rfl, trivial⟩ rfl rfl rfl kc_Pi_letterAt ⟨k_Fd_173, ki_Pi_letterAt, ks_Pi_letterAt, kk_Pi⟩ (by decide +kernel) rfl ⟨by decide, by decide⟩ (Nat.le_of_ble_eq_true rfl) ⟨by decide, by decide⟩ (fun r hc_ hq hk_ => ?_)
          obtain ⟨rfl, rfl⟩ := hq
          refine ax_callV (n := 1) G (ct_Fd_putOut l _ (bs.getD i 0) ac wa tk dd ar o' hi hX (pi_at hf (by omega))) d_Fd_putOutPiece_118 rfl ⟨rfl, rfl, rfl, trivial⟩ rfl rfl rfl kc_Fd_putOut ⟨k_Fd_127, ki_Fd_putOut, ks_Fd_putOut, kk_Fd⟩ (by decide +kernel) rfl ⟨by decide, by decide⟩ (Nat.le_of_ble_eq_true rfl) ⟨by decide, by decide⟩ (fun r hc_ hq hk_ => ?_)
          obtain ⟨rfl, o2, rfl, ho2⟩ := hq
          rw [List.append_assoc _ _ [bs.getD i 0], ← tk_s (by omega)] at ho2 ⊢
          refine ax_pop G d_Fd_putOutPiece_121 rfl ?_
          refine ax_iincZ (z := 1) G d_Fd_putOutPiece_122 rfl (by decide) (by decide) ?_
          refine ax_goto (tgt := 104) G d_Fd_putOutPiece_125 (by decide) ?_
          rw [nI_1]
          exact ih (i + 1) o2 (by omega) ho2
    have c0 : ax_V p l e (ax_rm 1) s m args below meth c D cid ad A 6 0 0 (MQ below Qc args s 0 0 A) 99 [(0, .ref 0), (1, .ref 7), (2, .int (nI ms)), (3, .int (zb zs))] [.int (nI place)] (pc_Fd ac (nI os.length) wa tk dd ar o ++ pc_Pi (nI bs.length) (prI z) f ++ pc_Di lf pl bl ha ze (nI w) wt pr pt kd gr pa) := by
      refine ax_istore G d_Fd_putOutPiece_99 (by decide) ?_
      refine ax_iconst (v := 0) G d_Fd_putOutPiece_101 (by decide) ?_
      refine ax_istore G d_Fd_putOutPiece_102 (by decide) ?_
      have q := c1 place 0 o (by omega) (by rw [List.take_zero, List.append_nil]; exact ho)
      rw [List.take_zero, List.append_nil] at q
      exact q
    have c00 : ax_V p l e (ax_rm 1) s m args below meth c D cid ad A 6 0 0 (MQ below Qc args s 0 0 A) 69 [(0, .ref 0), (1, .ref 7), (2, .int (nI ms))] [.int (zb zs)] (pc_Fd ac (nI os.length) wa tk dd ar o ++ pc_Pi (nI bs.length) (prI z) f ++ pc_Di lf pl bl ha ze (nI w) wt pr pt kd gr pa) := by
      cases lf with
      | true =>
        have e1 : place = bs.length := by rw [← hpp]; rfl
        refine ax_istore_n G d_Fd_putOutPiece_69 rfl (by decide) ?_
        refine ax_aload_n G d_Fd_putOutPiece_70 rfl rfl ?_
        refine ax_get (ci := 5) (j := 8) G d_Fd_putOutPiece_71 rfl rfl (by decide) k_Fd_43 rfl ?_
        refine ax_getN (ci := 1) (j := 0) G d_Fd_putOutPiece_74 rfl rfl (by decide) k_Fd_167 rfl ?_
        refine ax_if_eq (tgt := 87) G d_Fd_putOutPiece_77 (by decide) (fun c_77 => ?_) (fun c_77 => ?_)
        · exact absurd c_77 (by decide)
        · refine ax_aload_n G d_Fd_putOutPiece_80 rfl rfl ?_
          refine ax_getN (ci := 3) (j := 1) G d_Fd_putOutPiece_81 rfl rfl (by decide) k_Fd_161 rfl ?_
          refine ax_goto (tgt := 99) G d_Fd_putOutPiece_84 (by decide) ?_
          rw [e1] at c0
          exact c0
      | false =>
        refine ax_istore_n G d_Fd_putOutPiece_69 rfl (by decide) ?_
        refine ax_aload_n G d_Fd_putOutPiece_70 rfl rfl ?_
        refine ax_get (ci := 5) (j := 8) G d_Fd_putOutPiece_71 rfl rfl (by decide) k_Fd_43 rfl ?_
        refine ax_getN (ci := 1) (j := 0) G d_Fd_putOutPiece_74 rfl rfl (by decide) k_Fd_167 rfl ?_
        refine ax_if_eq (tgt := 87) G d_Fd_putOutPiece_77 (by decide) (fun c_77 => ?_) (fun c_77 => ?_)
        · cases zs with
          | true =>
            have e1 : nI place = prI z := by
              rw [← hpp]
              cases z with
              | none => rw [show fzs false ze none = false by unfold fzs; simp] at hzs; cases hzs
              | some k => rfl
            refine ax_iload_n G d_Fd_putOutPiece_87 rfl rfl ?_
            refine ax_if_eq (tgt := 98) G d_Fd_putOutPiece_88 (by decide) (fun c_88 => ?_) (fun c_88 => ?_)
            · exact absurd c_88 (by decide)
            · refine ax_aload_n G d_Fd_putOutPiece_91 rfl rfl ?_
              refine ax_getN (ci := 3) (j := 2) G d_Fd_putOutPiece_92 rfl rfl (by decide) k_Fd_170 rfl ?_
              refine ax_goto (tgt := 99) G d_Fd_putOutPiece_95 (by decide) ?_
              rw [e1] at c0
              exact c0
          | false =>
            have e1 : place = 0 := by rw [← hpp]; rfl
            refine ax_iload_n G d_Fd_putOutPiece_87 rfl rfl ?_
            refine ax_if_eq (tgt := 98) G d_Fd_putOutPiece_88 (by decide) (fun c_88 => ?_) (fun c_88 => ?_)
            · refine ax_iconst (v := 0) G d_Fd_putOutPiece_98 (by decide) ?_
              rw [e1] at c0
              exact c0
            · exact absurd rfl c_88
        · exact absurd rfl c_77
    have no : fzs lf ze z = false → ax_V p l e (ax_rm 1) s m args below meth c D cid ad A 6 0 0 (MQ below Qc args s 0 0 A) 68 [(0, .ref 0), (1, .ref 7), (2, .int (nI ms))] [] (pc_Fd ac (nI os.length) wa tk dd ar o ++ pc_Pi (nI bs.length) (prI z) f ++ pc_Di lf pl bl ha ze (nI w) wt pr pt kd gr pa) := by
      intro hno
      rw [hzs] at hno
      subst hno
      refine ax_iconst (v := 0) G d_Fd_putOutPiece_68 (by decide) ?_
      exact c00
    cases ze with
    | false =>
      refine ax_aload_n G d_Fd_putOutPiece_36 rfl rfl ?_
      refine ax_get (ci := 5) (j := 8) G d_Fd_putOutPiece_37 rfl rfl (by decide) k_Fd_43 rfl ?_
      refine ax_getN (ci := 1) (j := 4) G d_Fd_putOutPiece_40 rfl rfl (by decide) k_Fd_164 rfl ?_
      refine ax_if_eq (tgt := 68) G d_Fd_putOutPiece_43 (by decide) (fun c_43 => ?_) (fun c_43 => ?_)
      · exact no (by unfold fzs; simp)
      · exact absurd rfl c_43
    | true =>
      refine ax_aload_n G d_Fd_putOutPiece_36 rfl rfl ?_
      refine ax_get (ci := 5) (j := 8) G d_Fd_putOutPiece_37 rfl rfl (by decide) k_Fd_43 rfl ?_
      refine ax_getN (ci := 1) (j := 4) G d_Fd_putOutPiece_40 rfl rfl (by decide) k_Fd_164 rfl ?_
      refine ax_if_eq (tgt := 68) G d_Fd_putOutPiece_43 (by decide) (fun c_43 => ?_) (fun c_43 => ?_)
      · exact absurd c_43 (by decide)
      · cases lf with
        | true =>
          refine ax_aload_n G d_Fd_putOutPiece_46 rfl rfl ?_
          refine ax_get (ci := 5) (j := 8) G d_Fd_putOutPiece_47 rfl rfl (by decide) k_Fd_43 rfl ?_
          refine ax_getN (ci := 1) (j := 0) G d_Fd_putOutPiece_50 rfl rfl (by decide) k_Fd_167 rfl ?_
          refine ax_if_ne (tgt := 68) G d_Fd_putOutPiece_53 (by decide) (fun c_53 => ?_) (fun c_53 => ?_)
          · exact no (by unfold fzs; simp)
          · exact absurd c_53 (by decide)
        | false =>
          refine ax_aload_n G d_Fd_putOutPiece_46 rfl rfl ?_
          refine ax_get (ci := 5) (j := 8) G d_Fd_putOutPiece_47 rfl rfl (by decide) k_Fd_43 rfl ?_
          refine ax_getN (ci := 1) (j := 0) G d_Fd_putOutPiece_50 rfl rfl (by decide) k_Fd_167 rfl ?_
          refine ax_if_ne (tgt := 68) G d_Fd_putOutPiece_53 (by decide) (fun c_53 => ?_) (fun c_53 => ?_)
          · exact absurd rfl c_53
          · refine ax_aload_n G d_Fd_putOutPiece_56 rfl rfl ?_
            refine ax_getN (ci := 3) (j := 2) G d_Fd_putOutPiece_57 rfl rfl (by decide) k_Fd_170 rfl ?_
            refine ax_iconst (v := (-1)) G d_Fd_putOutPiece_60 (by decide) ?_
            refine ax_icmp_eq (tgt := 68) G d_Fd_putOutPiece_61 (by decide) (fun c_61 => ?_) (fun c_61 => ?_)
            · have hzn := (prI_is hz6).mp c_61
              exact no (by rw [hzn]; unfold fzs; simp)
            · have hzn : z ≠ none := fun q => c_61 ((prI_is hz6).mpr q)
              have e2 : zs = true := by
                rw [← hzs]
                cases z with
                | none => exact absurd rfl hzn
                | some k => rfl
              subst e2
              refine ax_iconst (v := 1) G d_Fd_putOutPiece_64 (by decide) ?_
              refine ax_goto (tgt := 69) G d_Fd_putOutPiece_65 (by decide) ?_
              exact c00
  · have hgt : ¬ os.length + bs.length + ms ≤ 4000 := fun q => c_31 ((nI_leI (b := 4000) (by omega) (by decide)).mpr q)
    rw [decide_eq_false hgt] at E
    refine ax_iconst (v := 0) G d_Fd_putOutPiece_34 (by decide) ?_
    exact ax_zret G hr E rfl d_Fd_putOutPiece_35 rfl ⟨rfl, _, o, rfl, fun q => absurd q hgt⟩

