/-! FormatDesk: text, argument, letters, count, run: what comes back, and what is thrown -/
set_option maxRecDepth 20000 in
set_option maxHeartbeats 1000000 in
theorem ct_Fd_text (l : Launch) (w : Int64) (n : Nat) (f : Nat → Int32) (ac oq wa tk dd : Int32) (ar : Nat → Int64) (o : Nat → Int32) (h4 : n + octs w ≤ 400) : ax_CT l y_Fd_text c_Fd_text 4 (some .int) 2 [.ref 0, .long w] (pc_Fd ac oq wa tk dd ar o ++ pc_Fo (nI n) f) (fun r h => r = some (.int (nI (n + octs w))) ∧ ∃ f', h = pc_Fd ac oq wa tk dd ar o ++ pc_Fo (nI (n + octs w)) f' ∧ (∀ i, i < n → f' i = f i) ∧ ∀ i, i < octs w → f' (n + i) = (nI (oc w i)).toInt8.toInt32) := by
  refine ax_ofV (by decide) (Nat.le_of_ble_eq_true rfl) ?_
  intro p e s m args below meth c D cid ad A Qc G hr E
  have ho8 := octs_le w
  refine ax_lload_n G d_Fd_text_0 rfl rfl ?_
  refine ax_callS (n := 1) G (ct_Fo_octetsBeforeZero l w) d_Fd_text_1 rfl trivial rfl kc_Fo_octetsBeforeZero ⟨k_Fd_54, kt_Fo_octetsBeforeZero, kk_Fo⟩ (by decide +kernel) rfl ⟨by decide, by decide⟩ (Nat.le_of_ble_eq_true rfl) ⟨by decide, by decide⟩ (fun r hc_ hq hk_ => ?_)
  obtain ⟨rfl, rfl⟩ := hq
  refine ax_istore_n G d_Fd_text_4 rfl (by decide) ?_
  refine ax_aload_n G d_Fd_text_5 rfl rfl ?_
  refine ax_get (ci := 5) (j := 0) G d_Fd_text_6 rfl rfl (by decide) k_Fd_10 rfl ?_
  refine ax_getN (ci := 2) (j := 1) G d_Fd_text_9 rfl rfl (by decide) k_Fd_58 rfl ?_
  refine ax_iload_n G d_Fd_text_12 rfl rfl ?_
  refine ax_iadd G d_Fd_text_13 ?_
  rw [nI_add]
  refine ax_sipush (v := 400) G d_Fd_text_14 (by decide) ?_
  refine ax_icmp_le (tgt := 28) G d_Fd_text_17 (by decide) (fun c_17 => ?_) (fun c_17 => ?_)
  · refine ax_aload_n G d_Fd_text_28 rfl rfl ?_
    refine ax_get (ci := 5) (j := 0) G d_Fd_text_29 rfl rfl (by decide) k_Fd_10 rfl ?_
    refine ax_lload_n G d_Fd_text_32 rfl rfl ?_
    refine ax_iload_n G d_Fd_text_33 rfl rfl ?_
    refine ax_callV (n := 2) G (ct_Fo_add l w n (octs w) f h4 ho8) d_Fd_text_34 rfl ⟨rfl, rfl, trivial⟩ rfl rfl rfl kc_Fo_add ⟨k_Fd_64, ki_Fo_add, ks_Fo_add, kk_Fo⟩ (by decide +kernel) rfl ⟨by decide, by decide⟩ (Nat.le_of_ble_eq_true rfl) ⟨by decide, by decide⟩ (fun r hc_ hq hk_ => ?_)
    obtain ⟨rfl, f2, rfl, h1, h2⟩ := hq
    refine ax_aload_n G d_Fd_text_37 rfl rfl ?_
    refine ax_get (ci := 5) (j := 0) G d_Fd_text_38 rfl rfl (by decide) k_Fd_10 rfl ?_
    refine ax_getN (ci := 2) (j := 1) G d_Fd_text_41 rfl rfl (by decide) k_Fd_58 rfl ?_
    exact ax_iret G hr E d_Fd_text_44 rfl ⟨rfl, f2, rfl, h1, h2⟩
  · exact absurd ((nI_leI (b := 400) (by omega) (by decide)).mpr h4) c_17
set_option maxRecDepth 20000 in
set_option maxHeartbeats 1000000 in
theorem ct_Fd_textX (l : Launch) (htr : l.stackTraces = false) (w : Int64) (n : Nat) (f : Nat → Int32) (ac oq wa tk dd : Int32) (ar : Nat → Int64) (o : Nat → Int32) (hn : n ≤ 400) (h4 : 400 < n + octs w) : ax_CX l y_Fd_text c_Fd_text 4 (some .int) 8 [.ref 0, .long w] (pc_Fd ac oq wa tk dd ar o ++ pc_Fo (nI n) f) "java/lang/IndexOutOfBoundsException" (fun h => h = pc_Fd ac oq wa tk dd ar o ++ pc_Fo (nI n) f) := by
  refine ax_ofX (by decide) (Nat.le_of_ble_eq_true rfl) ?_
  intro p e s m args below meth c D cid ad A Qc XC G Y htab E
  have ho8 := octs_le w
  refine ax_lload_n G d_Fd_text_0 rfl rfl ?_
  refine ax_callS (n := 1) G (ct_Fo_octetsBeforeZero l w) d_Fd_text_1 rfl trivial rfl kc_Fo_octetsBeforeZero ⟨k_Fd_54, kt_Fo_octetsBeforeZero, kk_Fo⟩ (by decide +kernel) rfl ⟨by decide, by decide⟩ (Nat.le_of_ble_eq_true rfl) ⟨by decide, by decide⟩ (fun r hc_ hq hk_ => ?_)
  obtain ⟨rfl, rfl⟩ := hq
  refine ax_istore_n G d_Fd_text_4 rfl (by decide) ?_
  refine ax_aload_n G d_Fd_text_5 rfl rfl ?_
  refine ax_get (ci := 5) (j := 0) G d_Fd_text_6 rfl rfl (by decide) k_Fd_10 rfl ?_
  refine ax_getN (ci := 2) (j := 1) G d_Fd_text_9 rfl rfl (by decide) k_Fd_58 rfl ?_
  refine ax_iload_n G d_Fd_text_12 rfl rfl ?_
  refine ax_iadd G d_Fd_text_13 ?_
  rw [nI_add]
  refine ax_sipush (v := 400) G d_Fd_text_14 (by decide) ?_
  refine ax_icmp_le (tgt := 28) G d_Fd_text_17 (by decide) (fun c_17 => ?_) (fun c_17 => ?_)
  · have := (nI_leI (b := 400) (by omega) (by decide)).mp c_17
    omega
  · exact ax_throw G Y htr htab E d_Fd_text_20 d_Fd_text_23 d_Fd_text_24 d_Fd_text_27 (by decide +kernel) wf_n ⟨k_Fd_61, wx_IO⟩ wt_IO wg_IO ⟨by decide, by decide, by decide, by decide⟩ rfl rfl ⟨by decide, by decide⟩
set_option maxRecDepth 20000 in
set_option maxHeartbeats 1000000 in
theorem ct_Fd_argument (l : Launch) (v : Int64) (na : Nat) (oc wa tk dd : Int32) (ar : Nat → Int64) (o : Nat → Int32) (hn : na < 60) : ax_CT l y_Fd_argument c_Fd_argument 3 (some .int) 2 [.ref 0, .long v] (pc_Fd (nI na) oc wa tk dd ar o) (fun r h => r = some (.int (nI (na + 1))) ∧ h = pc_Fd (nI (na + 1)) oc wa tk dd (vp_updL ar na v) o) := by
  refine ax_ofV (by decide) (Nat.le_of_ble_eq_true rfl) ?_
  intro p e s m args below meth c D cid ad A Qc G hr E
  refine ax_aload_n G d_Fd_argument_0 rfl rfl ?_
  refine ax_get (ci := 5) (j := 2) G d_Fd_argument_1 rfl rfl (by decide) k_Fd_20 rfl ?_
  refine ax_bipush (v := 60) G d_Fd_argument_4 (by decide) ?_
  refine ax_icmp_lt (tgt := 17) G d_Fd_argument_6 (by decide) (fun c_6 => ?_) (fun c_6 => ?_)
  · refine ax_aload_n G d_Fd_argument_17 rfl rfl ?_
    refine ax_get (ci := 5) (j := 1) G d_Fd_argument_18 rfl rfl (by decide) k_Fd_16 rfl ?_
    refine ax_aload_n G d_Fd_argument_21 rfl rfl ?_
    refine ax_get (ci := 5) (j := 2) G d_Fd_argument_22 rfl rfl (by decide) k_Fd_20 rfl ?_
    refine ax_lload_n G d_Fd_argument_25 rfl rfl ?_
    refine ax_last G d_Fd_argument_26 rfl (vp_in_nI hn (by decide)) ?_
    rw [nI_clamp (by omega)]
    refine ax_aload_n G d_Fd_argument_27 rfl rfl ?_
    refine ax_dup G d_Fd_argument_28 rfl ?_
    refine ax_get (ci := 5) (j := 2) G d_Fd_argument_29 rfl rfl (by decide) k_Fd_20 rfl ?_
    refine ax_iconst (v := 1) G d_Fd_argument_32 (by decide) ?_
    refine ax_iadd G d_Fd_argument_33 ?_
    rw [nI_1]
    refine ax_put (ci := 5) (j := 2) G d_Fd_argument_34 rfl rfl (by decide) k_Fd_20 rfl rfl rfl (Nat.le_of_ble_eq_true rfl) ?_
    refine ax_aload_n G d_Fd_argument_37 rfl rfl ?_
    refine ax_get (ci := 5) (j := 2) G d_Fd_argument_38 rfl rfl (by decide) k_Fd_20 rfl ?_
    exact ax_iret G hr E d_Fd_argument_41 rfl ⟨rfl, rfl⟩
  · exact absurd (nI_lt (b := 60) hn (by decide)) c_6
set_option maxRecDepth 20000 in
set_option maxHeartbeats 1000000 in
theorem ct_Fd_argumentX (l : Launch) (htr : l.stackTraces = false) (v : Int64) (oc wa tk dd : Int32) (ar : Nat → Int64) (o : Nat → Int32) : ax_CX l y_Fd_argument c_Fd_argument 3 (some .int) 8 [.ref 0, .long v] (pc_Fd (nI 60) oc wa tk dd ar o) "java/lang/IndexOutOfBoundsException" (fun h => h = pc_Fd (nI 60) oc wa tk dd ar o) := by
  refine ax_ofX (by decide) (Nat.le_of_ble_eq_true rfl) ?_
  intro p e s m args below meth c D cid ad A Qc XC G Y htab E
  refine ax_aload_n G d_Fd_argument_0 rfl rfl ?_
  refine ax_get (ci := 5) (j := 2) G d_Fd_argument_1 rfl rfl (by decide) k_Fd_20 rfl ?_
  refine ax_bipush (v := 60) G d_Fd_argument_4 (by decide) ?_
  refine ax_icmp_lt (tgt := 17) G d_Fd_argument_6 (by decide) (fun c_6 => ?_) (fun c_6 => ?_)
  · exact absurd c_6 (by decide)
  · exact ax_throw G Y htr htab E d_Fd_argument_9 d_Fd_argument_12 d_Fd_argument_13 d_Fd_argument_16 (by decide +kernel) wf_n ⟨k_Fd_61, wx_IO⟩ wt_IO wg_IO ⟨by decide, by decide, by decide, by decide⟩ rfl rfl ⟨by decide, by decide⟩
theorem i5 {x : Int32} (h : 0 ≤ x ∧ x ≤ 4) : x = 0 ∨ x = 1 ∨ x = 2 ∨ x = 3 ∨ x = 4 := by
  have h1 := (i32_le _ _).mp h.1
  have h2 := (i32_le _ _).mp h.2
  rw [show (0 : Int32).toInt = 0 from rfl] at h1
  rw [show (4 : Int32).toInt = 4 from rfl] at h2
  rcases (show x.toInt = 0 ∨ x.toInt = 1 ∨ x.toInt = 2 ∨ x.toInt = 3 ∨ x.toInt = 4 by omega) with q | q | q | q | q
  · exact Or.inl (i32_eq q)
  · exact Or.inr (Or.inl (i32_eq q))
  · exact Or.inr (Or.inr (Or.inl (i32_eq q)))
  · exact Or.inr (Or.inr (Or.inr (Or.inl (i32_eq q))))
  · exact Or.inr (Or.inr (Or.inr (Or.inr (i32_eq q))))
set_option maxRecDepth 20000 in
set_option maxHeartbeats 1000000 in
theorem ct_Fd_count (l : Launch) (x n : Int32) (f : Nat → Int32) (ac oc wa tk dd : Int32) (ar : Nat → Int64) (o : Nat → Int32) (hx : 0 ≤ x ∧ x ≤ 4) : ax_CT l y_Fd_count c_Fd_count 2 (some .int) 2 [.ref 0, .int x] (pc_Fd ac oc wa tk dd ar o ++ pc_Fo n f) (fun r h => r = some (.int (if x = 0 then n else if x = 1 then ac else if x = 2 then tk else if x = 3 then dd else oc)) ∧ h = pc_Fd ac oc wa tk dd ar o ++ pc_Fo n f) := by
  refine ax_ofV (by decide) (Nat.le_of_ble_eq_true rfl) ?_
  intro p e s m args below meth c D cid ad A Qc G hr E
  refine ax_iload_n G d_Fd_count_0 rfl rfl ?_
  rcases i5 hx with rfl | rfl | rfl | rfl | rfl
  · refine ax_tabIn (off := 35) (tgt := 36) G d_Fd_count_1 (by decide) (by decide) (by decide) (by decide) ?_
    refine ax_aload_n G d_Fd_count_36 rfl rfl ?_
    refine ax_get (ci := 5) (j := 0) G d_Fd_count_37 rfl rfl (by decide) k_Fd_10 rfl ?_
    refine ax_getN (ci := 2) (j := 1) G d_Fd_count_40 rfl rfl (by decide) k_Fd_58 rfl ?_
    exact ax_iret G hr E d_Fd_count_43 rfl ⟨rfl, rfl⟩
  · refine ax_tabIn (off := 43) (tgt := 44) G d_Fd_count_1 (by decide) (by decide) (by decide) (by decide) ?_
    refine ax_aload_n G d_Fd_count_44 rfl rfl ?_
    refine ax_get (ci := 5) (j := 2) G d_Fd_count_45 rfl rfl (by decide) k_Fd_20 rfl ?_
    exact ax_iret G hr E d_Fd_count_48 rfl ⟨rfl, rfl⟩
  · refine ax_tabIn (off := 48) (tgt := 49) G d_Fd_count_1 (by decide) (by decide) (by decide) (by decide) ?_
    refine ax_aload_n G d_Fd_count_49 rfl rfl ?_
    refine ax_get (ci := 5) (j := 6) G d_Fd_count_50 rfl rfl (by decide) k_Fd_34 rfl ?_
    exact ax_iret G hr E d_Fd_count_53 rfl ⟨rfl, rfl⟩
  · refine ax_tabIn (off := 53) (tgt := 54) G d_Fd_count_1 (by decide) (by decide) (by decide) (by decide) ?_
    refine ax_aload_n G d_Fd_count_54 rfl rfl ?_
    refine ax_get (ci := 5) (j := 7) G d_Fd_count_55 rfl rfl (by decide) k_Fd_37 rfl ?_
    exact ax_iret G hr E d_Fd_count_58 rfl ⟨rfl, rfl⟩
  · refine ax_tabIn (off := 58) (tgt := 59) G d_Fd_count_1 (by decide) (by decide) (by decide) (by decide) ?_
    refine ax_aload_n G d_Fd_count_59 rfl rfl ?_
    refine ax_get (ci := 5) (j := 4) G d_Fd_count_60 rfl rfl (by decide) k_Fd_28 rfl ?_
    exact ax_iret G hr E d_Fd_count_63 rfl ⟨rfl, rfl⟩
set_option maxRecDepth 20000 in
set_option maxHeartbeats 1000000 in
theorem ct_Fd_countX (l : Launch) (htr : l.stackTraces = false) (x n : Int32) (f : Nat → Int32) (ac oc wa tk dd : Int32) (ar : Nat → Int64) (o : Nat → Int32) (hx : ¬ (0 ≤ x ∧ x ≤ 4)) : ax_CX l y_Fd_count c_Fd_count 2 (some .int) 8 [.ref 0, .int x] (pc_Fd ac oc wa tk dd ar o ++ pc_Fo n f) "java/lang/IllegalArgumentException" (fun h => h = pc_Fd ac oc wa tk dd ar o ++ pc_Fo n f) := by
  refine ax_ofX (by decide) (Nat.le_of_ble_eq_true rfl) ?_
  intro p e s m args below meth c D cid ad A Qc XC G Y htab E
  refine ax_iload_n G d_Fd_count_0 rfl rfl ?_
  refine ax_tabOut (tgt := 64) G d_Fd_count_1 ?_ (by decide) ?_
  · rcases Int.lt_or_le x.toInt 0 with q | q
    · exact Or.inl q
    · right
      rcases Int.lt_or_le 4 x.toInt with q2 | q2
      · exact q2
      · exact absurd ⟨(i32_le _ _).mpr (by rw [show (0 : Int32).toInt = 0 from rfl]; exact q), (i32_le _ _).mpr (by rw [show (4 : Int32).toInt = 4 from rfl]; exact q2)⟩ hx
  exact ax_throw G Y htr htab E d_Fd_count_64 d_Fd_count_67 d_Fd_count_68 d_Fd_count_71 (by decide +kernel) wf_n ⟨k_Fd_75, wx_IA⟩ wt_IA wg_IA ⟨by decide, by decide, by decide, by decide⟩ rfl rfl ⟨by decide, by decide⟩
set_option maxRecDepth 20000 in
set_option maxHeartbeats 1000000 in
theorem ct_Fd_letters (l : Launch) (k : Nat) (os : List Nat) (ac wa tk dd : Int32) (ar : Nat → Int64) (o : Nat → Int32) (ho : pi_is o os) (hol : os.length ≤ 4000) (hk : k < (os.length + 7) / 8) : ax_CT l y_Fd_letters c_Fd_letters 5 (some .long) 2 [.ref 0, .int (nI k)] (pc_Fd ac (nI os.length) wa tk dd ar o) (fun r h => r = some (.long (pk8 (ltn os k) 8)) ∧ h = pc_Fd ac (nI os.length) wa tk dd ar o) := by
  refine ax_ofV (by decide) (Nat.le_of_ble_eq_true rfl) ?_
  intro p e s m args below meth c D cid ad A Qc G hr E
  have h8 : (8 : Int32) * nI k = nI (8 * k) := by rw [show (8 : Int32) = nI 8 from rfl, pk_mul]
  have loop : ∀ (q j : Nat), j + q = 8 → ax_V p l e (ax_rm 2) s m args below meth c D cid ad A 5 0 0 (MQ below Qc args s 0 0 A) 34 [(0, .ref 0), (1, .int (nI k)), (2, .long (pk8 (ltn os k) j)), (4, .int (nI (8 * k + j)))] [] (pc_Fd ac (nI os.length) wa tk dd ar o) := by
    intro q
    induction q with
    | zero =>
      intro j hj
      have e8 : j = 8 := by omega
      subst e8
      refine ax_iload G d_Fd_letters_34 rfl ?_
      refine ax_bipush (v := 8) G d_Fd_letters_36 (by decide) ?_
      refine ax_iload_n G d_Fd_letters_38 rfl rfl ?_
      refine ax_imul G d_Fd_letters_39 ?_
      rw [h8]
      refine ax_bipush (v := 8) G d_Fd_letters_40 (by decide) ?_
      refine ax_iadd G d_Fd_letters_42 ?_
      rw [show nI (8 * k) + 8 = nI (8 * k + 8) from nI_add _ 8]
      refine ax_icmp_ge (tgt := 79) G d_Fd_letters_43 (by decide) (fun c_43 => ?_) (fun c_43 => ?_)
      · refine ax_lload_n G d_Fd_letters_79 rfl rfl ?_
        exact ax_lret G hr E d_Fd_letters_80 rfl ⟨rfl, rfl⟩
      · exact absurd (nI_le (Nat.le_refl _) (by omega)) c_43
    | succ q ih =>
      intro j hj
      have st2 : ∀ y : Nat, y = ltn os k j → ax_V p l e (ax_rm 2) s m args below meth c D cid ad A 5 0 0 (MQ below Qc args s 0 0 A) 70 [(0, .ref 0), (1, .int (nI k)), (2, .long (pk8 (ltn os k) j)), (4, .int (nI (8 * k + j)))] [.int (nI y), .long (pk8 (ltn os k) j <<< ((8 : Int32).toInt64 &&& 63))] (pc_Fd ac (nI os.length) wa tk dd ar o) := by
        intro y hy
        subst hy
        refine ax_i2l G d_Fd_letters_70 ?_
        refine ax_lor G d_Fd_letters_71 ?_
        rw [← pk8_s]
        refine ax_lstore_n G d_Fd_letters_72 rfl (by decide) ?_
        refine ax_iincZ (z := 1) G d_Fd_letters_73 rfl (by decide) (by decide) ?_
        refine ax_goto (tgt := 34) G d_Fd_letters_76 (by decide) ?_
        rw [nI_1]
        exact ih (j + 1) (by omega)
      refine ax_iload G d_Fd_letters_34 rfl ?_
      refine ax_bipush (v := 8) G d_Fd_letters_36 (by decide) ?_
      refine ax_iload_n G d_Fd_letters_38 rfl rfl ?_
      refine ax_imul G d_Fd_letters_39 ?_
      rw [h8]
      refine ax_bipush (v := 8) G d_Fd_letters_40 (by decide) ?_
      refine ax_iadd G d_Fd_letters_42 ?_
      rw [show nI (8 * k) + 8 = nI (8 * k + 8) from nI_add _ 8]
      refine ax_icmp_ge (tgt := 79) G d_Fd_letters_43 (by decide) (fun c_43 => ?_) (fun c_43 => ?_)
      · exact absurd c_43 (nI_ge (by omega) (by omega))
      · refine ax_lload_n G d_Fd_letters_46 rfl rfl ?_
        refine ax_bipush (v := 8) G d_Fd_letters_47 (by decide) ?_
        refine ax_lshl G d_Fd_letters_49 ?_
        refine ax_iload G d_Fd_letters_50 rfl ?_
        refine ax_aload_n G d_Fd_letters_52 rfl rfl ?_
        refine ax_get (ci := 5) (j := 4) G d_Fd_letters_53 rfl rfl (by decide) k_Fd_28 rfl ?_
        refine ax_icmp_ge (tgt := 69) G d_Fd_letters_56 (by decide) (fun c_56 => ?_) (fun c_56 => ?_)
        · have hge : ¬ 8 * k + j < os.length := fun z => nI_ge z (by omega) c_56
          refine ax_iconst (v := 0) G d_Fd_letters_69 (by decide) ?_
          exact st2 0 (by unfold ltn; rw [if_neg hge])
        · have hlt : 8 * k + j < os.length := by
            rcases Nat.lt_or_ge (8 * k + j) os.length with z | z
            · exact z
            · exact absurd (nI_le z (by omega)) c_56
          refine ax_aload_n G d_Fd_letters_59 rfl rfl ?_
          refine ax_get (ci := 5) (j := 3) G d_Fd_letters_60 rfl rfl (by decide) k_Fd_24 rfl ?_
          refine ax_iload G d_Fd_letters_63 rfl ?_
          refine ax_bald G d_Fd_letters_65 rfl (vp_in_nI (by omega) (by decide)) ?_
          rw [nI_clamp (by omega), (ho _ hlt).1]
          refine ax_goto (tgt := 70) G d_Fd_letters_66 (by decide) ?_
          exact st2 _ (by unfold ltn; rw [if_pos hlt])
  refine ax_iload_n G d_Fd_letters_0 rfl rfl ?_
  refine ax_if_lt (tgt := 18) G d_Fd_letters_1 (by decide) (fun c_1 => ?_) (fun c_1 => ?_)
  · exact absurd c_1 (nI_pos (by omega))
  · refine ax_iload_n G d_Fd_letters_4 rfl rfl ?_
    refine ax_aload_n G d_Fd_letters_5 rfl rfl ?_
    refine ax_get (ci := 5) (j := 4) G d_Fd_letters_6 rfl rfl (by decide) k_Fd_28 rfl ?_
    refine ax_bipush (v := 7) G d_Fd_letters_9 (by decide) ?_
    refine ax_iadd G d_Fd_letters_11 ?_
    rw [show nI os.length + 7 = nI (os.length + 7) from nI_add _ 7]
    refine ax_bipush (v := 8) G d_Fd_letters_12 (by decide) ?_
    rw [show (8 : Int32) = nI 8 from rfl]
    refine ax_idiv G d_Fd_letters_14 (by decide) ?_
    rw [pk_div (by omega) (by decide) (by decide)]
    refine ax_icmp_lt (tgt := 26) G d_Fd_letters_15 (by decide) (fun c_15 => ?_) (fun c_15 => ?_)
    · refine ax_lconst (v := 0) G d_Fd_letters_26 (by decide) ?_
      refine ax_lstore_n G d_Fd_letters_27 rfl (by decide) ?_
      refine ax_bipush (v := 8) G d_Fd_letters_28 (by decide) ?_
      refine ax_iload_n G d_Fd_letters_30 rfl rfl ?_
      refine ax_imul G d_Fd_letters_31 ?_
      rw [h8]
      refine ax_istore G d_Fd_letters_32 (by decide) ?_
      exact loop 8 0 rfl
    · exact absurd (nI_lt hk (by omega)) c_15
set_option maxRecDepth 20000 in
set_option maxHeartbeats 1000000 in
theorem ct_Fd_lettersX (l : Launch) (htr : l.stackTraces = false) (x : Int32) (n : Nat) (ac wa tk dd : Int32) (ar : Nat → Int64) (o : Nat → Int32) (hn : n ≤ 4000) (hx : x < 0 ∨ nI ((n + 7) / 8) ≤ x) : ax_CX l y_Fd_letters c_Fd_letters 5 (some .long) 8 [.ref 0, .int x] (pc_Fd ac (nI n) wa tk dd ar o) "java/lang/IndexOutOfBoundsException" (fun h => h = pc_Fd ac (nI n) wa tk dd ar o) := by
  refine ax_ofX (by decide) (Nat.le_of_ble_eq_true rfl) ?_
  intro p e s m args below meth c D cid ad A Qc XC G Y htab E
  have thr : ax_V p l e (ax_rmN 8 1 6) s m args below meth c D cid ad A 5 0 0 (vx_MQ below Qc XC args s 1 6 A) 18 [(0, .ref 0), (1, .int x)] [] (pc_Fd ac (nI n) wa tk dd ar o) := ax_throw G Y htr htab E d_Fd_letters_18 d_Fd_letters_21 d_Fd_letters_22 d_Fd_letters_25 (by decide +kernel) wf_n ⟨k_Fd_61, wx_IO⟩ wt_IO wg_IO ⟨by decide, by decide, by decide, by decide⟩ rfl rfl ⟨by decide, by decide⟩
  refine ax_iload_n G d_Fd_letters_0 rfl rfl ?_
  refine ax_if_lt (tgt := 18) G d_Fd_letters_1 (by decide) (fun c_1 => ?_) (fun c_1 => ?_)
  · exact thr
  · refine ax_iload_n G d_Fd_letters_4 rfl rfl ?_
    refine ax_aload_n G d_Fd_letters_5 rfl rfl ?_
    refine ax_get (ci := 5) (j := 4) G d_Fd_letters_6 rfl rfl (by decide) k_Fd_28 rfl ?_
    refine ax_bipush (v := 7) G d_Fd_letters_9 (by decide) ?_
    refine ax_iadd G d_Fd_letters_11 ?_
    rw [show nI n + 7 = nI (n + 7) from nI_add _ 7]
    refine ax_bipush (v := 8) G d_Fd_letters_12 (by decide) ?_
    rw [show (8 : Int32) = nI 8 from rfl]
    refine ax_idiv G d_Fd_letters_14 (by decide) ?_
    rw [pk_div (by omega) (by decide) (by decide)]
    refine ax_icmp_lt (tgt := 26) G d_Fd_letters_15 (by decide) (fun c_15 => ?_) (fun c_15 => ?_)
    · rcases hx with z | z
      · exact absurd z (Int32.not_lt.mpr (Int32.not_lt.mp c_1))
      · exact absurd c_15 (Int32.not_lt.mpr z)
    · exact thr
set_option maxRecDepth 20000 in
set_option maxHeartbeats 1000000 in
theorem ct_Fd_run (l : Launch) (n na : Nat) (f : Nat → Int32) (c0 : Nat → Nat) (oc wa tk dd : Int32) (ar : Nat → Int64) (o : Nat → Int32) (lf pl bl ha ze : Bool) (w : Int32) (wt : Bool) (pr : Int32) (pt : Bool) (kd : Int32) (gr : Bool) (pa sz zp : Int32) (pf : Nat → Int32) (lc dc pt0 : Int32) (lm : Nat → Int64) (dg : Nat → Int32) (os : List Nat) (t d : Nat) (hf : fo_is f n c0) (hn : n ≤ 400) (hna : na ≤ 60) (hwr : wrA c0 n = -1) (hp : pua (lt c0 n) n ar na (n + 1) 0 [] 0 0 = some (os, t, d)) : ax_CT l y_Fd_run c_Fd_run 1 (some .int) 9 [.ref 0] (pc_Fd (nI na) oc wa tk dd ar o ++ pc_Fo (nI n) f ++ pc_Di lf pl bl ha ze w wt pr pt kd gr pa ++ (pc_Wr ++ pc_Pi sz zp pf ++ pc_De lc dc pt0 lm dg)) (fun r h => r = some (.int (nI os.length)) ∧ ∃ o' a1 a2 a3 a4 a5 a6 a7 a8 a9 a10 a11 a12 sz' zp' pf' lc' dc' pt' lm' dg', h = pc_Fd (nI na) (nI os.length) (-1) (nI t) (nI d) ar o' ++ pc_Fo (nI n) f ++ pc_Di a1 a2 a3 a4 a5 a6 a7 a8 a9 a10 a11 a12 ++ (pc_Wr ++ pc_Pi sz' zp' pf' ++ pc_De lc' dc' pt' lm' dg') ∧ pi_is o' os) := by
  refine ax_ofV (by decide) (Nat.le_of_ble_eq_true rfl) ?_
  intro p e s m args below meth c D cid ad A Qc G hr E
  refine ax_aload_n G d_Fd_run_0 rfl rfl ?_
  refine ax_callV (n := 0) G (ct_Fd_forgetLatestRun l (nI na) oc wa tk dd ar o) d_Fd_run_1 rfl ⟨rfl, rfl, rfl, trivial⟩ rfl rfl rfl kc_Fd_forgetLatestRun ⟨k_Fd_68, ki_Fd_forgetLatestRun, ks_Fd_forgetLatestRun, kk_Fd⟩ (by decide +kernel) rfl ⟨by decide, by decide⟩ (Nat.le_of_ble_eq_true rfl) ⟨by decide, by decide⟩ (fun r hc_ hq hk_ => ?_)
  obtain ⟨rfl, rfl⟩ := hq
  refine ax_aload_n G d_Fd_run_4 rfl rfl ?_
  refine ax_aload_n G d_Fd_run_5 rfl rfl ?_
  refine ax_callV (n := 0) G (ct_Fd_placeOfWrong l n f c0 (nI na) 0 (-1) 0 0 ar o lf pl bl ha ze w wt pr pt kd gr pa hf hn) d_Fd_run_6 rfl ⟨rfl, rfl, rfl, rfl, rfl, rfl, trivial⟩ rfl rfl rfl kc_Fd_placeOfWrong ⟨k_Fd_71, ki_Fd_placeOfWrong, ks_Fd_placeOfWrong, kk_Fd⟩ (by decide +kernel) rfl ⟨by decide, by decide⟩ (Nat.le_of_ble_eq_true rfl) ⟨by decide, by decide⟩ (fun r hc_ hq hk_ => ?_)
  obtain ⟨rfl, b1, b2, b3, b4, b5, b6, b7, b8, b9, b10, b11, b12, rfl⟩ := hq
  rw [hwr]
  refine ax_put (ci := 5) (j := 5) G d_Fd_run_9 rfl rfl (by decide) k_Fd_31 rfl rfl rfl (Nat.le_of_ble_eq_true rfl) ?_
  refine ax_aload_n G d_Fd_run_12 rfl rfl ?_
  refine ax_get (ci := 5) (j := 5) G d_Fd_run_13 rfl rfl (by decide) k_Fd_31 rfl ?_
  refine ax_iconst (v := (-1)) G d_Fd_run_16 (by decide) ?_
  refine ax_icmp_eq (tgt := 28) G d_Fd_run_17 (by decide) (fun c_17 => ?_) (fun c_17 => ?_)
  · refine ax_aload_n G d_Fd_run_28 rfl rfl ?_
    refine ax_callV (n := 0) G (ct_Fd_putOutAll l n na f c0 (-1) ar o b1 b2 b3 b4 b5 b6 b7 b8 b9 b10 b11 b12 sz zp pf lc dc pt0 lm dg hf hn hna hwr) d_Fd_run_29 rfl ⟨rfl, rfl, rfl, rfl, rfl, rfl, rfl, rfl, rfl, rfl, rfl, rfl, trivial⟩ rfl rfl rfl kc_Fd_putOutAll ⟨k_Fd_78, ki_Fd_putOutAll, ks_Fd_putOutAll, kk_Fd⟩ (by decide +kernel) rfl ⟨by decide, by decide⟩ (Nat.le_of_ble_eq_true rfl) ⟨by decide, by decide⟩ (fun r hc_ hq hk_ => ?_)
    obtain ⟨rfl, oc2, tk2, dd2, o2, e1, e2, e3, e4, e5, e6, e7, e8, e9, e10, e11, e12, s2, z2, p2, l2, d2, q2, m2, g2, rfl, hres⟩ := hq
    obtain ⟨rfl, ho2, rfl, rfl⟩ := hres os t d hp
    rw [hp]
    refine ax_if_ne (tgt := 47) G d_Fd_run_32 (by decide) (fun c_32 => ?_) (fun c_32 => ?_)
    · refine ax_aload_n G d_Fd_run_47 rfl rfl ?_
      refine ax_get (ci := 5) (j := 4) G d_Fd_run_48 rfl rfl (by decide) k_Fd_28 rfl ?_
      exact ax_iret G hr E d_Fd_run_51 rfl ⟨rfl, o2, e1, e2, e3, e4, e5, e6, e7, e8, e9, e10, e11, e12, s2, z2, p2, l2, d2, q2, m2, g2, rfl, ho2⟩
    · exact absurd (show (1 : Int32) = 0 from c_32) (by decide)
  · exact absurd rfl c_17
set_option maxRecDepth 20000 in
set_option maxHeartbeats 1000000 in
theorem ct_Fd_runW (l : Launch) (htr : l.stackTraces = false) (n na : Nat) (f : Nat → Int32) (c0 : Nat → Nat) (oc wa tk dd : Int32) (ar : Nat → Int64) (o : Nat → Int32) (lf pl bl ha ze : Bool) (w : Int32) (wt : Bool) (pr : Int32) (pt : Bool) (kd : Int32) (gr : Bool) (pa : Int32) (hf : fo_is f n c0) (hn : n ≤ 400) (hwr : ¬ wrA c0 n = -1) : ax_CX l y_Fd_run c_Fd_run 1 (some .int) 9 [.ref 0] (pc_Fd (nI na) oc wa tk dd ar o ++ pc_Fo (nI n) f ++ pc_Di lf pl bl ha ze w wt pr pt kd gr pa) "java/lang/IllegalArgumentException" (fun h => ∃ a1 a2 a3 a4 a5 a6 a7 a8 a9 a10 a11 a12, h = pc_Fd (nI na) 0 (wrA c0 n) 0 0 ar o ++ pc_Fo (nI n) f ++ pc_Di a1 a2 a3 a4 a5 a6 a7 a8 a9 a10 a11 a12) := by
  refine ax_ofX (by decide) (Nat.le_of_ble_eq_true rfl) ?_
  intro p e s m args below meth c D cid ad A Qc XC G Y htab E
  refine ax_aload_n G d_Fd_run_0 rfl rfl ?_
  refine ax_callV (n := 0) G (ct_Fd_forgetLatestRun l (nI na) oc wa tk dd ar o) d_Fd_run_1 rfl ⟨rfl, rfl, rfl, trivial⟩ rfl rfl rfl kc_Fd_forgetLatestRun ⟨k_Fd_68, ki_Fd_forgetLatestRun, ks_Fd_forgetLatestRun, kk_Fd⟩ (by decide +kernel) rfl ⟨by decide, by decide⟩ (Nat.le_of_ble_eq_true rfl) ⟨by decide, by decide⟩ (fun r hc_ hq hk_ => ?_)
  obtain ⟨rfl, rfl⟩ := hq
  refine ax_aload_n G d_Fd_run_4 rfl rfl ?_
  refine ax_aload_n G d_Fd_run_5 rfl rfl ?_
  refine ax_callV (n := 0) G (ct_Fd_placeOfWrong l n f c0 (nI na) 0 (-1) 0 0 ar o lf pl bl ha ze w wt pr pt kd gr pa hf hn) d_Fd_run_6 rfl ⟨rfl, rfl, rfl, rfl, rfl, rfl, trivial⟩ rfl rfl rfl kc_Fd_placeOfWrong ⟨k_Fd_71, ki_Fd_placeOfWrong, ks_Fd_placeOfWrong, kk_Fd⟩ (by decide +kernel) rfl ⟨by decide, by decide⟩ (Nat.le_of_ble_eq_true rfl) ⟨by decide, by decide⟩ (fun r hc_ hq hk_ => ?_)
  obtain ⟨rfl, b1, b2, b3, b4, b5, b6, b7, b8, b9, b10, b11, b12, rfl⟩ := hq
  refine ax_put (ci := 5) (j := 5) G d_Fd_run_9 rfl rfl (by decide) k_Fd_31 rfl rfl rfl (Nat.le_of_ble_eq_true rfl) ?_
  refine ax_aload_n G d_Fd_run_12 rfl rfl ?_
  refine ax_get (ci := 5) (j := 5) G d_Fd_run_13 rfl rfl (by decide) k_Fd_31 rfl ?_
  refine ax_iconst (v := (-1)) G d_Fd_run_16 (by decide) ?_
  refine ax_icmp_eq (tgt := 28) G d_Fd_run_17 (by decide) (fun c_17 => ?_) (fun c_17 => ?_)
  · exact absurd c_17 hwr
  · exact ax_throw G Y htr htab E d_Fd_run_20 d_Fd_run_23 d_Fd_run_24 d_Fd_run_27 (by decide +kernel) wf_n ⟨k_Fd_75, wx_IA⟩ wt_IA wg_IA ⟨by decide, by decide, by decide, by decide⟩ rfl ⟨_, _, _, _, _, _, _, _, _, _, _, _, rfl⟩ ⟨by decide, by decide⟩
set_option maxRecDepth 20000 in
set_option maxHeartbeats 1000000 in
theorem ct_Fd_runN (l : Launch) (htr : l.stackTraces = false) (n na : Nat) (f : Nat → Int32) (c0 : Nat → Nat) (oc wa tk dd : Int32) (ar : Nat → Int64) (o : Nat → Int32) (lf pl bl ha ze : Bool) (w : Int32) (wt : Bool) (pr : Int32) (pt : Bool) (kd : Int32) (gr : Bool) (pa sz zp : Int32) (pf : Nat → Int32) (lc dc pt0 : Int32) (lm : Nat → Int64) (dg : Nat → Int32) (hf : fo_is f n c0) (hn : n ≤ 400) (hna : na ≤ 60) (hwr : wrA c0 n = -1) (hp : pua (lt c0 n) n ar na (n + 1) 0 [] 0 0 = none) : ax_CX l y_Fd_run c_Fd_run 1 (some .int) 9 [.ref 0] (pc_Fd (nI na) oc wa tk dd ar o ++ pc_Fo (nI n) f ++ pc_Di lf pl bl ha ze w wt pr pt kd gr pa ++ (pc_Wr ++ pc_Pi sz zp pf ++ pc_De lc dc pt0 lm dg)) "java/lang/UnsupportedOperationException" (fun h => ∃ o' a1 a2 a3 a4 a5 a6 a7 a8 a9 a10 a11 a12 sz' zp' pf' lc' dc' pt' lm' dg', h = pc_Fd (nI na) 0 (-1) 0 0 ar o' ++ pc_Fo (nI n) f ++ pc_Di a1 a2 a3 a4 a5 a6 a7 a8 a9 a10 a11 a12 ++ (pc_Wr ++ pc_Pi sz' zp' pf' ++ pc_De lc' dc' pt' lm' dg')) := by
  refine ax_ofX (by decide) (Nat.le_of_ble_eq_true rfl) ?_
  intro p e s m args below meth c D cid ad A Qc XC G Y htab E
  refine ax_aload_n G d_Fd_run_0 rfl rfl ?_
  refine ax_callV (n := 0) G (ct_Fd_forgetLatestRun l (nI na) oc wa tk dd ar o) d_Fd_run_1 rfl ⟨rfl, rfl, rfl, trivial⟩ rfl rfl rfl kc_Fd_forgetLatestRun ⟨k_Fd_68, ki_Fd_forgetLatestRun, ks_Fd_forgetLatestRun, kk_Fd⟩ (by decide +kernel) rfl ⟨by decide, by decide⟩ (Nat.le_of_ble_eq_true rfl) ⟨by decide, by decide⟩ (fun r hc_ hq hk_ => ?_)
  obtain ⟨rfl, rfl⟩ := hq
  refine ax_aload_n G d_Fd_run_4 rfl rfl ?_
  refine ax_aload_n G d_Fd_run_5 rfl rfl ?_
  refine ax_callV (n := 0) G (ct_Fd_placeOfWrong l n f c0 (nI na) 0 (-1) 0 0 ar o lf pl bl ha ze w wt pr pt kd gr pa hf hn) d_Fd_run_6 rfl ⟨rfl, rfl, rfl, rfl, rfl, rfl, trivial⟩ rfl rfl rfl kc_Fd_placeOfWrong ⟨k_Fd_71, ki_Fd_placeOfWrong, ks_Fd_placeOfWrong, kk_Fd⟩ (by decide +kernel) rfl ⟨by decide, by decide⟩ (Nat.le_of_ble_eq_true rfl) ⟨by decide, by decide⟩ (fun r hc_ hq hk_ => ?_)
  obtain ⟨rfl, b1, b2, b3, b4, b5, b6, b7, b8, b9, b10, b11, b12, rfl⟩ := hq
  rw [hwr]
  refine ax_put (ci := 5) (j := 5) G d_Fd_run_9 rfl rfl (by decide) k_Fd_31 rfl rfl rfl (Nat.le_of_ble_eq_true rfl) ?_
  refine ax_aload_n G d_Fd_run_12 rfl rfl ?_
  refine ax_get (ci := 5) (j := 5) G d_Fd_run_13 rfl rfl (by decide) k_Fd_31 rfl ?_
  refine ax_iconst (v := (-1)) G d_Fd_run_16 (by decide) ?_
  refine ax_icmp_eq (tgt := 28) G d_Fd_run_17 (by decide) (fun c_17 => ?_) (fun c_17 => ?_)
  · refine ax_aload_n G d_Fd_run_28 rfl rfl ?_
    refine ax_callV (n := 0) G (ct_Fd_putOutAll l n na f c0 (-1) ar o b1 b2 b3 b4 b5 b6 b7 b8 b9 b10 b11 b12 sz zp pf lc dc pt0 lm dg hf hn hna hwr) d_Fd_run_29 rfl ⟨rfl, rfl, rfl, rfl, rfl, rfl, rfl, rfl, rfl, rfl, rfl, rfl, trivial⟩ rfl rfl rfl kc_Fd_putOutAll ⟨k_Fd_78, ki_Fd_putOutAll, ks_Fd_putOutAll, kk_Fd⟩ (by decide +kernel) rfl ⟨by decide, by decide⟩ (Nat.le_of_ble_eq_true rfl) ⟨by decide, by decide⟩ (fun r hc_ hq hk_ => ?_)
    obtain ⟨rfl, oc2, tk2, dd2, o2, e1, e2, e3, e4, e5, e6, e7, e8, e9, e10, e11, e12, s2, z2, p2, l2, d2, q2, m2, g2, rfl, -⟩ := hq
    rw [hp]
    refine ax_if_ne (tgt := 47) G d_Fd_run_32 (by decide) (fun c_32 => ?_) (fun c_32 => ?_)
    · exact absurd rfl c_32
    · refine ax_aload_n G d_Fd_run_35 rfl rfl ?_
      refine ax_callV (n := 0) G (ct_Fd_forgetLatestRun l (nI na) oc2 (-1) tk2 dd2 ar o2) d_Fd_run_36 rfl ⟨rfl, rfl, rfl, trivial⟩ rfl rfl rfl kc_Fd_forgetLatestRun ⟨k_Fd_68, ki_Fd_forgetLatestRun, ks_Fd_forgetLatestRun, kk_Fd⟩ (by decide +kernel) rfl ⟨by decide, by decide⟩ (Nat.le_of_ble_eq_true rfl) ⟨by decide, by decide⟩ (fun r hc_ hq hk_ => ?_)
      obtain ⟨rfl, rfl⟩ := hq
      exact ax_throw G Y htr htab E d_Fd_run_39 d_Fd_run_42 d_Fd_run_43 d_Fd_run_46 (by decide +kernel) wf_n ⟨k_Fd_82, wx_UO⟩ wt_UO wg_UO ⟨by decide, by decide, by decide, by decide⟩ rfl ⟨_, _, _, _, _, _, _, _, _, _, _, _, _, _, _, _, _, _, _, _, _, rfl⟩ ⟨by decide, by decide⟩
  · exact absurd rfl c_17

