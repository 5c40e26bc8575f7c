/-! FormatDesk$Format -/
/-- the format: object 1, its row 2 -/
abbrev pc_Fo (n : Int32) (f : Nat → Int32) : ax_H := [(1, .inr (2, [.ref 2, .int n])), (2, .inl (1, 400, .inl f))]
/-- the row holds the octets c -/
def fo_is (f : Nat → Int32) (n : Nat) (c : Nat → Nat) : Prop := ∀ i, i < n → f i = (nI (c i)).toInt8.toInt32 ∧ c i < 256
set_option maxRecDepth 20000 in
set_option maxHeartbeats 1000000 in
theorem ct_Fo_octet (l : Launch) (w : Int64) (i : Nat) (hi : i < 8) : ax_CT l y_Fo_octet c_Fo_octet 3 (some .int) 0 [.long w, .int (nI i)] [] (fun r h => r = some (.int (nI (oc w i))) ∧ h = []) := by
  refine ax_ofV (by decide) (Nat.le_of_ble_eq_true rfl) ?_
  intro p e s m args below meth c D cid ad A Qc G hr E
  refine ax_lload_n G d_Fo_octet_0 rfl rfl ?_
  refine ax_bipush (v := 56) G d_Fo_octet_1 (by decide) ?_
  refine ax_bipush (v := 8) G d_Fo_octet_3 (by decide) ?_
  refine ax_iload_n G d_Fo_octet_5 rfl rfl ?_
  refine ax_imul G d_Fo_octet_6 ?_
  refine ax_isub G d_Fo_octet_7 ?_
  refine ax_lushr G d_Fo_octet_8 ?_
  refine ax_l2i G d_Fo_octet_9 ?_
  refine ax_sipush (v := 255) G d_Fo_octet_10 (by decide) ?_
  refine ax_iand G d_Fo_octet_13 ?_
  rw [oc_i w i hi]
  exact ax_iret G hr E d_Fo_octet_14 rfl ⟨rfl, rfl⟩
set_option maxRecDepth 20000 in
set_option maxHeartbeats 1000000 in
theorem ct_Fo_octetsBeforeZero (l : Launch) (w : Int64) : ax_CT l y_Fo_octetsBeforeZero c_Fo_octetsBeforeZero 3 (some .int) 1 [.long w] [] (fun r h => r = some (.int (nI (octs w))) ∧ h = []) := by
  refine ax_ofV (by decide) (Nat.le_of_ble_eq_true rfl) ?_
  intro p e s m args below meth c D cid ad A Qc G hr E
  have loop : ∀ (k i : Nat), k + i = 8 → ocs w i k = octs w → ax_V p l e (ax_rm 1) s m args below meth c D cid ad A 3 0 0 (MQ below Qc args s 0 0 A) 2 [(0, .long w), (2, .int (nI i))] [] [] := by
    intro k
    induction k with
    | zero =>
      intro i hi he
      refine ax_iload_n G d_Fo_octetsBeforeZero_2 rfl rfl ?_
      refine ax_bipush (v := 8) G d_Fo_octetsBeforeZero_3 (by decide) ?_
      refine ax_icmp_ge (tgt := 24) G d_Fo_octetsBeforeZero_5 (by decide) (fun c_5 => ?_) (fun c_5 => ?_)
      · refine ax_bipush (v := 8) G d_Fo_octetsBeforeZero_24 (by decide) ?_
        refine ax_iret G hr E d_Fo_octetsBeforeZero_26 rfl ⟨?_, rfl⟩
        rw [← he, show i = 8 by omega]
        rfl
      · exact absurd (by rw [show i = 8 by omega]; decide) c_5
    | succ k ih =>
      intro i hi he
      refine ax_iload_n G d_Fo_octetsBeforeZero_2 rfl rfl ?_
      refine ax_bipush (v := 8) G d_Fo_octetsBeforeZero_3 (by decide) ?_
      refine ax_icmp_ge (tgt := 24) G d_Fo_octetsBeforeZero_5 (by decide) (fun c_5 => ?_) (fun c_5 => ?_)
      · exact absurd c_5 (nI_ge (by omega) (by decide) : ¬ nI 8 ≤ nI i)
      · refine ax_lload_n G d_Fo_octetsBeforeZero_8 rfl rfl ?_
        refine ax_iload_n G d_Fo_octetsBeforeZero_9 rfl rfl ?_
        refine ax_callS (n := 2) G (ct_Fo_octet l w i (by omega)) d_Fo_octetsBeforeZero_10 rfl trivial rfl kc_Fo_octet ⟨k_Fo_19, kt_Fo_octet, kk_Fo⟩ (by decide +kernel) rfl ⟨by decide, by decide⟩ (Nat.le_of_ble_eq_true rfl) ⟨by decide, by decide⟩ (fun r hc_ hq hk_ => ?_)
        obtain ⟨rfl, rfl⟩ := hq
        have hz : nI (oc w i) = 0 ↔ oc w i = 0 := by
          have := nI_eq (a := oc w i) (b := 0) (by have := oc_lt w i; omega) (by decide)
          rw [nI_0] at this; exact this
        unfold ocs at he
        refine ax_if_ne (tgt := 18) G d_Fo_octetsBeforeZero_13 (by decide) (fun c_13 => ?_) (fun c_13 => ?_)
        · rw [if_neg (fun q => c_13 (hz.mpr q))] at he
          refine ax_iincZ (z := 1) G d_Fo_octetsBeforeZero_18 rfl (by decide) (by decide) ?_
          refine ax_goto (tgt := 2) G d_Fo_octetsBeforeZero_21 (by decide) ?_
          rw [nI_1]
          exact ih (i + 1) (by omega) he
        · rw [if_pos (hz.mp c_13)] at he
          refine ax_iload_n G d_Fo_octetsBeforeZero_16 rfl rfl ?_
          exact ax_iret G hr E d_Fo_octetsBeforeZero_17 rfl ⟨by rw [he], rfl⟩
  refine ax_iconst (v := 0) G d_Fo_octetsBeforeZero_0 (by decide) ?_
  refine ax_istore_n G d_Fo_octetsBeforeZero_1 rfl (by decide) ?_
  exact loop 8 0 rfl rfl
set_option maxRecDepth 20000 in
set_option maxHeartbeats 1000000 in
theorem ct_Fo_isForeign (l : Launch) (n : Nat) (hn : n < 2 ^ 31) : ax_CT l y_Fo_isForeign c_Fo_isForeign 1 (some .boolean) 0 [.int (nI n)] [] (fun r h => r = some (.int (if n < 32 ∨ 126 < n then 1 else 0)) ∧ h = []) := by
  refine ax_ofV (by decide) (Nat.le_of_ble_eq_true rfl) ?_
  intro p e s m args below meth c D cid ad A Qc G hr E
  have e1 : (nI n < 32) ↔ n < 32 := nI_ltI hn (b := 32) (by decide)
  have e2 : (nI n ≤ 126) ↔ n ≤ 126 := nI_leI hn (b := 126) (by decide)
  refine ax_iload_n G d_Fo_isForeign_0 rfl rfl ?_
  refine ax_bipush (v := 32) G d_Fo_isForeign_1 (by decide) ?_
  refine ax_icmp_lt (tgt := 12) G d_Fo_isForeign_3 (by decide) (fun c_3 => ?_) (fun c_3 => ?_)
  · refine ax_iconst (v := 1) G d_Fo_isForeign_12 (by decide) ?_
    refine ax_goto (tgt := 17) G d_Fo_isForeign_13 (by decide) ?_
    exact ax_zret G hr E rfl d_Fo_isForeign_17 rfl ⟨by rw [if_pos (Or.inl (e1.mp c_3))], rfl⟩
  · refine ax_iload_n G d_Fo_isForeign_6 rfl rfl ?_
    refine ax_bipush (v := 126) G d_Fo_isForeign_7 (by decide) ?_
    refine ax_icmp_le (tgt := 16) G d_Fo_isForeign_9 (by decide) (fun c_9 => ?_) (fun c_9 => ?_)
    · refine ax_iconst (v := 0) G d_Fo_isForeign_16 (by decide) ?_
      exact ax_zret G hr E rfl d_Fo_isForeign_17 rfl ⟨by rw [if_neg (by have := e2.mp c_9; have : ¬ n < 32 := fun q => c_3 (e1.mpr q); omega)], rfl⟩
    · refine ax_iconst (v := 1) G d_Fo_isForeign_12 (by decide) ?_
      refine ax_goto (tgt := 17) G d_Fo_isForeign_13 (by decide) ?_
      exact ax_zret G hr E rfl d_Fo_isForeign_17 rfl ⟨by rw [if_pos (Or.inr (by have : ¬ n ≤ 126 := fun q => c_9 (e2.mpr q); omega))], rfl⟩
set_option maxRecDepth 20000 in
set_option maxHeartbeats 1000000 in
theorem ct_Fo_letterAt (l : Launch) (n i : Nat) (f : Nat → Int32) (c : Nat → Nat) (hf : fo_is f n c) (hn : n ≤ 400) (hi : i < 2 ^ 31) : ax_CT l y_Fo_letterAt c_Fo_letterAt 2 (some .int) 0 [.ref 1, .int (nI i)] (pc_Fo (nI n) f) (fun r h => r = some (.int (nI (if i < n then c i else 0))) ∧ h = pc_Fo (nI n) f) := by
  refine ax_ofV (by decide) (Nat.le_of_ble_eq_true rfl) ?_
  intro p e s m args below meth c' D cid ad A Qc G hr E
  refine ax_iload_n G d_Fo_letterAt_0 rfl rfl ?_
  refine ax_if_lt (tgt := 25) G d_Fo_letterAt_1 (by decide) (fun c_1 => ?_) (fun c_1 => ?_)
  · exact absurd c_1 (nI_pos hi)
  · refine ax_iload_n G d_Fo_letterAt_4 rfl rfl ?_
    refine ax_aload_n G d_Fo_letterAt_5 rfl rfl ?_
    refine ax_get (ci := 2) (j := 1) G d_Fo_letterAt_6 rfl rfl (by decide) k_Fo_15 rfl ?_
    refine ax_icmp_ge (tgt := 25) G d_Fo_letterAt_9 (by decide) (fun c_9 => ?_) (fun c_9 => ?_)
    · refine ax_iconst (v := 0) G d_Fo_letterAt_25 (by decide) ?_
      exact ax_iret G hr E d_Fo_letterAt_26 rfl ⟨by rw [if_neg (by have := (nI_leI (by omega) hi).mp c_9; omega)]; rfl, rfl⟩
    · have hlt : i < n := by
        rcases Nat.lt_or_ge i n with q | q
        · exact q
        · exact absurd (nI_le q hi) c_9
      refine ax_aload_n G d_Fo_letterAt_12 rfl rfl ?_
      refine ax_get (ci := 2) (j := 0) G d_Fo_letterAt_13 rfl rfl (by decide) k_Fo_9 rfl ?_
      refine ax_iload_n G d_Fo_letterAt_16 rfl rfl ?_
      refine ax_bald G d_Fo_letterAt_17 rfl (vp_in_nI (by omega) (by omega)) ?_
      refine ax_sipush (v := 255) G d_Fo_letterAt_18 (by decide) ?_
      rw [nI_clamp hi, (hf i hlt).1]
      refine ax_iand G d_Fo_letterAt_21 ?_
      rw [by_and (hf i hlt).2]
      refine ax_goto (tgt := 26) G d_Fo_letterAt_22 (by decide) ?_
      exact ax_iret G hr E d_Fo_letterAt_26 rfl ⟨by rw [if_pos hlt], rfl⟩
/-- the first foreign letter from i on, -1 if there is none -/
def frg (c : Nat → Nat) (i : Nat) : Nat → Int32
  | 0 => -1
  | k + 1 => if c i < 32 ∨ 126 < c i then nI i else frg c (i + 1) k
theorem frg_s (c : Nat → Nat) (i k : Nat) : frg c i (k + 1) = if c i < 32 ∨ 126 < c i then nI i else frg c (i + 1) k := rfl
set_option maxRecDepth 20000 in
set_option maxHeartbeats 1000000 in
theorem ct_Fo_placeOfForeignLetter (l : Launch) (n : Nat) (f : Nat → Int32) (c : Nat → Nat) (hf : fo_is f n c) (hn : n ≤ 400) : ax_CT l y_Fo_placeOfForeignLetter c_Fo_placeOfForeignLetter 2 (some .int) 1 [.ref 1] (pc_Fo (nI n) f) (fun r h => r = some (.int (frg c 0 n)) ∧ h = pc_Fo (nI n) f) := by
  refine ax_ofV (by decide) (Nat.le_of_ble_eq_true rfl) ?_
  intro p e s m args below meth c' D cid ad A Qc G hr E
  have loop : ∀ (k i : Nat), k + i = n → frg c i k = frg c 0 n → ax_V p l e (ax_rm 1) s m args below meth c' D cid ad A 2 0 0 (MQ below Qc args s 0 0 A) 2 [(0, .ref 1), (1, .int (nI i))] [] (pc_Fo (nI n) f) := by
    intro k
    induction k with
    | zero =>
      intro i hi he
      refine ax_iload_n G d_Fo_placeOfForeignLetter_2 rfl rfl ?_
      refine ax_aload_n G d_Fo_placeOfForeignLetter_3 rfl rfl ?_
      refine ax_get (ci := 2) (j := 1) G d_Fo_placeOfForeignLetter_4 rfl rfl (by decide) k_Fo_15 rfl ?_
      refine ax_icmp_ge (tgt := 29) G d_Fo_placeOfForeignLetter_7 (by decide) (fun c_7 => ?_) (fun c_7 => ?_)
      · refine ax_iconst (v := (-1)) G d_Fo_placeOfForeignLetter_29 (by decide) ?_
        exact ax_iret G hr E d_Fo_placeOfForeignLetter_30 rfl ⟨by rw [← he]; rfl, rfl⟩
      · exact absurd (nI_le (by omega) (by omega)) c_7
    | succ k ih =>
      intro i hi he
      refine ax_iload_n G d_Fo_placeOfForeignLetter_2 rfl rfl ?_
      refine ax_aload_n G d_Fo_placeOfForeignLetter_3 rfl rfl ?_
      refine ax_get (ci := 2) (j := 1) G d_Fo_placeOfForeignLetter_4 rfl rfl (by decide) k_Fo_15 rfl ?_
      refine ax_icmp_ge (tgt := 29) G d_Fo_placeOfForeignLetter_7 (by decide) (fun c_7 => ?_) (fun c_7 => ?_)
      · exact absurd c_7 (nI_ge (by omega) (by omega))
      · refine ax_aload_n G d_Fo_placeOfForeignLetter_10 rfl rfl ?_
        refine ax_iload_n G d_Fo_placeOfForeignLetter_11 rfl rfl ?_
        refine ax_callV (n := 1) G (ct_Fo_letterAt l n i f c hf hn (by omega)) d_Fo_placeOfForeignLetter_12 rfl ⟨rfl, rfl, trivial⟩ rfl rfl rfl kc_Fo_letterAt ⟨k_Fo_23, ki_Fo_letterAt, ks_Fo_letterAt, kk_Fo⟩ (by decide +kernel) rfl ⟨by decide, by decide⟩ (Nat.le_of_ble_eq_true rfl) ⟨by decide, by decide⟩ (fun r hc_ hq hk_ => ?_)
        obtain ⟨rfl, rfl⟩ := hq
        rw [if_pos (show i < n by omega)]
        refine ax_callS (n := 1) G (ct_Fo_isForeign l (c i) (by have := (hf i (by omega)).2; omega)) d_Fo_placeOfForeignLetter_15 rfl trivial rfl kc_Fo_isForeign ⟨k_Fo_27, kt_Fo_isForeign, kk_Fo⟩ (by decide +kernel) rfl ⟨by decide, by decide⟩ (Nat.le_of_ble_eq_true rfl) ⟨by decide, by decide⟩ (fun r hc_ hq hk_ => ?_)
        obtain ⟨rfl, rfl⟩ := hq
        rw [frg_s] at he
        by_cases hc : c i < 32 ∨ 126 < c i
        · rw [if_pos hc] at he ⊢
          refine ax_if_eq (tgt := 23) G d_Fo_placeOfForeignLetter_18 (by decide) (fun c_18 => ?_) (fun c_18 => ?_)
          · exact absurd c_18 (by decide)
          · refine ax_iload_n G d_Fo_placeOfForeignLetter_21 rfl rfl ?_
            exact ax_iret G hr E d_Fo_placeOfForeignLetter_22 rfl ⟨by rw [he], rfl⟩
        · rw [if_neg hc] at he ⊢
          refine ax_if_eq (tgt := 23) G d_Fo_placeOfForeignLetter_18 (by decide) (fun c_18 => ?_) (fun c_18 => ?_)
          · refine ax_iincZ (z := 1) G d_Fo_placeOfForeignLetter_23 rfl (by decide) (by decide) ?_
            refine ax_goto (tgt := 2) G d_Fo_placeOfForeignLetter_26 (by decide) ?_
            rw [nI_1]
            exact ih (i + 1) (by omega) he
          · exact absurd rfl c_18
  refine ax_iconst (v := 0) G d_Fo_placeOfForeignLetter_0 (by decide) ?_
  refine ax_istore_n G d_Fo_placeOfForeignLetter_1 rfl (by decide) ?_
  exact loop n 0 rfl rfl
set_option maxRecDepth 20000 in
set_option maxHeartbeats 1000000 in
theorem ct_Fo_add (l : Launch) (w : Int64) (n k : Nat) (f : Nat → Int32) (hn : n + k ≤ 400) (hk8 : k ≤ 8) : ax_CT l y_Fo_add c_Fo_add 5 none 1 [.ref 1, .long w, .int (nI k)] (pc_Fo (nI n) f) (fun r h => r = none ∧ ∃ f', h = pc_Fo (nI (n + k)) f' ∧ (∀ i, i < n → f' i = f i) ∧ ∀ i, i < k → f' (n + i) = (nI (oc w i)).toInt8.toInt32) := by
  refine ax_ofV (by decide) (Nat.le_of_ble_eq_true rfl) ?_
  intro p e s m args below meth c D cid ad A Qc G hr E
  have loop : ∀ (j i : Nat) (f' : Nat → Int32), j + i = k → (∀ a, a < n → f' a = f a) → (∀ a, a < i → f' (n + a) = (nI (oc w a)).toInt8.toInt32) → ax_V p l e (ax_rm 1) s m args below meth c D cid ad A 5 0 0 (MQ below Qc args s 0 0 A) 3 [(0, .ref 1), (1, .long w), (3, .int (nI k)), (4, .int (nI i))] [] (pc_Fo (nI (n + i)) f') := by
    intro j
    induction j with
    | zero =>
      intro i f' hi h1 h2
      have e : i = k := by omega
      subst e
      refine ax_iload G d_Fo_add_3 rfl ?_
      refine ax_iload_n G d_Fo_add_5 rfl rfl ?_
      refine ax_icmp_ge (tgt := 53) G d_Fo_add_6 (by decide) (fun c_6 => ?_) (fun c_6 => ?_)
      · exact ax_vret G hr E d_Fo_add_53 rfl ⟨rfl, f', rfl, h1, h2⟩
      · exact absurd (nI_le (Nat.le_refl _) (by omega)) c_6
    | succ j ih =>
      intro i f' hi h1 h2
      refine ax_iload G d_Fo_add_3 rfl ?_
      refine ax_iload_n G d_Fo_add_5 rfl rfl ?_
      refine ax_icmp_ge (tgt := 53) G d_Fo_add_6 (by decide) (fun c_6 => ?_) (fun c_6 => ?_)
      · exact absurd c_6 (nI_ge (by omega) (by omega))
      · refine ax_aload_n G d_Fo_add_9 rfl rfl ?_
        refine ax_get (ci := 2) (j := 1) G d_Fo_add_10 rfl rfl (by decide) k_Fo_15 rfl ?_
        refine ax_aload_n G d_Fo_add_13 rfl rfl ?_
        refine ax_get (ci := 2) (j := 0) G d_Fo_add_14 rfl rfl (by decide) k_Fo_9 rfl ?_
        refine ax_alen (v := (nI 400)) G d_Fo_add_17 rfl (by decide) rfl ?_
        refine ax_icmp_ge (tgt := 53) G d_Fo_add_18 (by decide) (fun c_18 => ?_) (fun c_18 => ?_)
        · exact absurd c_18 (nI_ge (by omega) (by decide))
        · refine ax_aload_n G d_Fo_add_21 rfl rfl ?_
          refine ax_get (ci := 2) (j := 0) G d_Fo_add_22 rfl rfl (by decide) k_Fo_9 rfl ?_
          refine ax_aload_n G d_Fo_add_25 rfl rfl ?_
          refine ax_get (ci := 2) (j := 1) G d_Fo_add_26 rfl rfl (by decide) k_Fo_15 rfl ?_
          refine ax_lload_n G d_Fo_add_29 rfl rfl ?_
          refine ax_iload G d_Fo_add_30 rfl ?_
          refine ax_callS (n := 2) G (ct_Fo_octet l w i (by omega)) d_Fo_add_32 rfl trivial rfl kc_Fo_octet ⟨k_Fo_19, kt_Fo_octet, kk_Fo⟩ (by decide +kernel) rfl ⟨by decide, by decide⟩ (Nat.le_of_ble_eq_true rfl) ⟨by decide, by decide⟩ (fun r hc_ hq hk_ => ?_)
          obtain ⟨rfl, rfl⟩ := hq
          refine ax_i2b G d_Fo_add_35 ?_
          refine ax_bast G d_Fo_add_36 rfl (vp_in_nI (by omega) (by omega)) ?_
          refine ax_aload_n G d_Fo_add_37 rfl rfl ?_
          refine ax_dup G d_Fo_add_38 rfl ?_
          refine ax_get (ci := 2) (j := 1) G d_Fo_add_39 rfl rfl (by decide) k_Fo_15 rfl ?_
          refine ax_iconst (v := 1) G d_Fo_add_42 (by decide) ?_
          refine ax_iadd G d_Fo_add_43 ?_
          refine ax_put (ci := 2) (j := 1) G d_Fo_add_44 rfl rfl (by decide) k_Fo_15 rfl rfl rfl (Nat.le_of_ble_eq_true rfl) ?_
          refine ax_iincZ (z := 1) G d_Fo_add_47 rfl (by decide) (by decide) ?_
          refine ax_goto (tgt := 3) G d_Fo_add_50 (by decide) ?_
          rw [nI_1, nI_1, nI_clamp (by omega)]
          refine ih (i + 1) _ (by omega) (fun a ha => ?_) (fun a ha => ?_)
          · rw [pk_un (by omega)]; exact h1 a ha
          · by_cases hai : a = i
            · subst hai
              rw [pk_us, pk_vb]
            · rw [pk_un (by omega)]
              exact h2 a (by omega)
  refine ax_iconst (v := 0) G d_Fo_add_0 (by decide) ?_
  refine ax_istore G d_Fo_add_1 (by decide) ?_
  exact loop k 0 f (by omega) (fun _ _ => rfl) (fun a ha => absurd ha (Nat.not_lt_zero a))

