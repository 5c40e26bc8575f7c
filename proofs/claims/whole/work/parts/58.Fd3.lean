/-! FormatDesk: placeOfWrong, putOutAll -/
set_option maxRecDepth 20000 in
set_option maxHeartbeats 1000000 in
theorem ct_Fd_placeOfWrong (l : Launch) (n : Nat) (f : Nat → Int32) (c0 : Nat → Nat) (ac oc wa tk dd : Int32) (ar : Nat → Int64) (o : Nat → Int32) (lf pl bl ha ze : Bool) (w : Int32) (wt : Bool) (pr : Int32) (pt : Bool) (kd : Int32) (gr : Bool) (pa : Int32) (hf : fo_is f n c0) (hn : n ≤ 400) : ax_CT l y_Fd_placeOfWrong c_Fd_placeOfWrong 3 (some .int) 6 [.ref 0] (pc_Fd ac oc wa tk dd ar o ++ pc_Fo (nI n) f ++ pc_Di lf pl bl ha ze w wt pr pt kd gr pa) (fun r h => r = some (.int (wrA c0 n)) ∧ ∃ a1 a2 a3 a4 a5 a6 a7 a8 a9 a10 a11 a12, h = pc_Fd ac oc wa tk dd ar o ++ pc_Fo (nI n) f ++ pc_Di a1 a2 a3 a4 a5 a6 a7 a8 a9 a10 a11 a12) := by
  refine ax_ofV (by decide) (Nat.le_of_ble_eq_true rfl) ?_
  intro p e s m args below meth c D cid ad A Qc G hr E
  refine ax_aload_n G d_Fd_placeOfWrong_0 rfl rfl ?_
  refine ax_get (ci := 5) (j := 0) G d_Fd_placeOfWrong_1 rfl rfl (by decide) k_Fd_10 rfl ?_
  refine ax_callV (n := 0) G (ct_Fo_placeOfForeignLetter l n f c0 hf hn) d_Fd_placeOfWrong_4 rfl ⟨rfl, rfl, trivial⟩ rfl rfl rfl kc_Fo_placeOfForeignLetter ⟨k_Fd_85, ki_Fo_placeOfForeignLetter, ks_Fo_placeOfForeignLetter, kk_Fo⟩ (by decide +kernel) rfl ⟨by decide, by decide⟩ (Nat.le_of_ble_eq_true rfl) ⟨by decide, by decide⟩ (fun r hc_ hq hk_ => ?_)
  obtain ⟨rfl, rfl⟩ := hq
  refine ax_istore_n G d_Fd_placeOfWrong_7 rfl (by decide) ?_
  refine ax_iload_n G d_Fd_placeOfWrong_8 rfl rfl ?_
  refine ax_iconst (v := (-1)) G d_Fd_placeOfWrong_9 (by decide) ?_
  refine ax_icmp_eq (tgt := 15) G d_Fd_placeOfWrong_10 (by decide) (fun c_10 => ?_) (fun c_10 => ?_)
  · unfold wrA at E
    rw [if_pos c_10] at E
    generalize hWW : wrg (lt c0 n) n (n + 1) 0 = WW at E
    have loop : ∀ (k i : Nat) (lf pl bl ha ze : Bool) (w : Int32) (wt : Bool) (pr : Int32) (pt : Bool) (kd : Int32) (gr : Bool) (pa : Int32), n < k + i → i ≤ 408 → WW = wrg (lt c0 n) n k i → ax_V p l e (ax_rm 6) s m args below meth c D cid ad A 3 0 0 (MQ below Qc args s 0 0 A) 17 [(0, .ref 0), (1, .int (frg c0 0 n)), (2, .int (nI i))] [] (pc_Fd ac oc wa tk dd ar o ++ pc_Fo (nI n) f ++ pc_Di lf pl bl ha ze w wt pr pt kd gr pa) := by
      intro k
      induction k with
      | zero =>
        intro i lf pl bl ha ze w wt pr pt kd gr pa hk hi hw
        refine ax_iload_n G d_Fd_placeOfWrong_17 rfl rfl ?_
        refine ax_aload_n G d_Fd_placeOfWrong_18 rfl rfl ?_
        refine ax_get (ci := 5) (j := 0) G d_Fd_placeOfWrong_19 rfl rfl (by decide) k_Fd_10 rfl ?_
        refine ax_getN (ci := 2) (j := 1) G d_Fd_placeOfWrong_22 rfl rfl (by decide) k_Fd_58 rfl ?_
        refine ax_icmp_ge (tgt := 82) G d_Fd_placeOfWrong_25 (by decide) (fun c_25 => ?_) (fun c_25 => ?_)
        · refine ax_iconst (v := (-1)) G d_Fd_placeOfWrong_82 (by decide) ?_
          exact ax_iret G hr E d_Fd_placeOfWrong_83 rfl ⟨by rw [hw]; rfl, _, _, _, _, _, _, _, _, _, _, _, _, rfl⟩
        · exact absurd (nI_le (by omega) (by omega)) c_25
      | succ k ih =>
        intro i lf pl bl ha ze w wt pr pt kd gr pa hk hi hw
        rw [wrg_s] at hw
        refine ax_iload_n G d_Fd_placeOfWrong_17 rfl rfl ?_
        refine ax_aload_n G d_Fd_placeOfWrong_18 rfl rfl ?_
        refine ax_get (ci := 5) (j := 0) G d_Fd_placeOfWrong_19 rfl rfl (by decide) k_Fd_10 rfl ?_
        refine ax_getN (ci := 2) (j := 1) G d_Fd_placeOfWrong_22 rfl rfl (by decide) k_Fd_58 rfl ?_
        refine ax_icmp_ge (tgt := 82) G d_Fd_placeOfWrong_25 (by decide) (fun c_25 => ?_) (fun c_25 => ?_)
        · have hge : n ≤ i := (nI_leI (by omega) (by omega)).mp c_25
          rw [if_pos hge] at hw
          refine ax_iconst (v := (-1)) G d_Fd_placeOfWrong_82 (by decide) ?_
          exact ax_iret G hr E d_Fd_placeOfWrong_83 rfl ⟨by rw [hw], _, _, _, _, _, _, _, _, _, _, _, _, rfl⟩
        · have hlt : ¬ n ≤ i := fun z => c_25 (nI_le z (by omega))
          rw [if_neg hlt] at hw
          have hb := rd_b (lt c0 n) (n := n) (i := i) hn (by omega)
          have hl := lt_lt hf i
          refine ax_aload_n G d_Fd_placeOfWrong_28 rfl rfl ?_
          refine ax_get (ci := 5) (j := 0) G d_Fd_placeOfWrong_29 rfl rfl (by decide) k_Fd_10 rfl ?_
          refine ax_iload_n G d_Fd_placeOfWrong_32 rfl rfl ?_
          refine ax_callV (n := 1) G (ct_Fo_letterAt l n i f c0 hf hn (by omega)) d_Fd_placeOfWrong_33 rfl ⟨rfl, rfl, trivial⟩ rfl rfl rfl kc_Fo_letterAt ⟨k_Fd_88, ki_Fo_letterAt, ks_Fo_letterAt, kk_Fo⟩ (by decide +kernel) rfl ⟨by decide, by decide⟩ (Nat.le_of_ble_eq_true rfl) ⟨by decide, by decide⟩ (fun r hc_ hq hk_ => ?_)
          obtain ⟨rfl, rfl⟩ := hq
          rw [show (if i < n then c0 i else 0) = lt c0 n i from rfl]
          refine ax_bipush (v := 37) G d_Fd_placeOfWrong_36 (by decide) ?_
          refine ax_icmp_ne (tgt := 76) G d_Fd_placeOfWrong_38 (by decide) (fun c_38 => ?_) (fun c_38 => ?_)
          · have h37 : ¬ lt c0 n i = 37 := fun z => c_38 (by rw [z]; rfl)
            rw [if_neg h37] at hw
            refine ax_iincZ (z := 1) G d_Fd_placeOfWrong_76 rfl (by decide) (by decide) ?_
            refine ax_goto (tgt := 17) G d_Fd_placeOfWrong_79 (by decide) ?_
            rw [nI_1]
            exact ih (i + 1) _ _ _ _ _ _ _ _ _ _ _ _ (by omega) (by omega) hw
          · have h37 : lt c0 n i = 37 := (nI_eq (b := 37) (by omega) (by decide)).mp c_38
            rw [if_pos h37] at hw
            refine ax_aload_n G d_Fd_placeOfWrong_41 rfl rfl ?_
            refine ax_get (ci := 5) (j := 8) G d_Fd_placeOfWrong_42 rfl rfl (by decide) k_Fd_43 rfl ?_
            refine ax_aload_n G d_Fd_placeOfWrong_45 rfl rfl ?_
            refine ax_get (ci := 5) (j := 0) G d_Fd_placeOfWrong_46 rfl rfl (by decide) k_Fd_10 rfl ?_
            refine ax_iload_n G d_Fd_placeOfWrong_49 rfl rfl ?_
            refine ax_callV (n := 2) G (ct_Di_read l n i f c0 lf pl bl ha ze w wt pr pt kd gr pa hf hn (by omega)) d_Fd_placeOfWrong_50 rfl ⟨rfl, rfl, rfl, trivial⟩ rfl rfl rfl kc_Di_read ⟨k_Fd_92, ki_Di_read, ks_Di_read, kk_Di⟩ (by decide +kernel) rfl ⟨by decide, by decide⟩ (Nat.le_of_ble_eq_true rfl) ⟨by decide, by decide⟩ (fun r hc_ hq hk_ => ?_)
            obtain ⟨rfl, a1, a2, a3, a4, a5, a6, a7, a8, a9, a10, a11, rfl, -⟩ := hq
            refine ax_if_ne (tgt := 64) G d_Fd_placeOfWrong_53 (by decide) (fun c_53 => ?_) (fun c_53 => ?_)
            · have hok : rdOk (lt c0 n) n i = true := by
                cases hq : rdOk (lt c0 n) n i with
                | true => rfl
                | false => exact absurd (by rw [hq]; rfl) c_53
              rw [if_pos hok] at hw
              refine ax_iload_n G d_Fd_placeOfWrong_64 rfl rfl ?_
              refine ax_aload_n G d_Fd_placeOfWrong_65 rfl rfl ?_
              refine ax_get (ci := 5) (j := 8) G d_Fd_placeOfWrong_66 rfl rfl (by decide) k_Fd_43 rfl ?_
              refine ax_getN (ci := 1) (j := 11) G d_Fd_placeOfWrong_69 rfl rfl (by decide) k_Fd_96 rfl ?_
              refine ax_mmax G d_Fd_placeOfWrong_72 k_Fd_99 ⟨by decide, by decide⟩ (Nat.le_of_ble_eq_true rfl) ⟨by decide, by decide⟩ ?_
              rw [mx_row (by omega) (by omega)]
              refine ax_istore_n G d_Fd_placeOfWrong_75 rfl (by decide) ?_
              refine ax_iincZ (z := 1) G d_Fd_placeOfWrong_76 rfl (by decide) (by decide) ?_
              refine ax_goto (tgt := 17) G d_Fd_placeOfWrong_79 (by decide) ?_
              rw [nI_1]
              exact ih (rdAt (lt c0 n) n i + 1) _ _ _ _ _ _ _ _ _ _ _ _ (by omega) (by omega) hw
            · have hok : ¬ rdOk (lt c0 n) n i = true := fun z => by rw [z] at c_53; exact absurd c_53 (by decide)
              rw [if_neg hok] at hw
              refine ax_aload_n G d_Fd_placeOfWrong_56 rfl rfl ?_
              refine ax_get (ci := 5) (j := 8) G d_Fd_placeOfWrong_57 rfl rfl (by decide) k_Fd_43 rfl ?_
              refine ax_getN (ci := 1) (j := 11) G d_Fd_placeOfWrong_60 rfl rfl (by decide) k_Fd_96 rfl ?_
              exact ax_iret G hr E d_Fd_placeOfWrong_63 rfl ⟨by rw [hw], _, _, _, _, _, _, _, _, _, _, _, _, rfl⟩
    refine ax_iconst (v := 0) G d_Fd_placeOfWrong_15 (by decide) ?_
    refine ax_istore_n G d_Fd_placeOfWrong_16 rfl (by decide) ?_
    exact loop (n + 1) 0 _ _ _ _ _ _ _ _ _ _ _ _ (by omega) (by omega) hWW.symm
  · unfold wrA at E
    rw [if_neg c_10] at E
    refine ax_iload_n G d_Fd_placeOfWrong_13 rfl rfl ?_
    exact ax_iret G hr E d_Fd_placeOfWrong_14 rfl ⟨rfl, _, _, _, _, _, _, _, _, _, _, _, _, rfl⟩
set_option maxRecDepth 20000 in
set_option maxHeartbeats 1000000 in
theorem ct_Fd_putOutAll (l : Launch) (n na : Nat) (f : Nat → Int32) (c0 : Nat → Nat) (wa : Int32) (ar : Nat → Int64) (o : Nat → Int32) (lf pl bl ha ze : Bool) (w : Int32) (wt : Bool) (pr : Int32) (pt : Bool) (kd : Int32) (gr : Bool) (pa sz zp : Int32) (pf : Nat → Int32) (lc dc pt0 : Int32) (lm : Nat → Int64) (dg : Nat → Int32) (hf : fo_is f n c0) (hn : n ≤ 400) (hna : na ≤ 60) (hwr : wrA c0 n = -1) : ax_CT l y_Fd_putOutAll c_Fd_putOutAll 3 (some .boolean) 8 [.ref 0] (pc_Fd (nI na) (nI 0) wa (nI 0) (nI 0) ar o ++ pc_Fo (nI n) f ++ pc_Di lf pl bl ha ze w wt pr pt kd gr pa ++ (pc_Wr ++ pc_Pi sz zp pf ++ pc_De lc dc pt0 lm dg)) (fun r h => r = some (.int (zb (pua (lt c0 n) n ar na (n + 1) 0 [] 0 0).isSome)) ∧ ∃ oc' tk' dd' o' a1 a2 a3 a4 a5 a6 a7 a8 a9 a10 a11 a12 sz' zp' pf' lc' dc' pt' lm' dg', h = pc_Fd (nI na) oc' wa tk' dd' ar o' ++ pc_Fo (nI n) f ++ pc_Di a1 a2 a3 a4 a5 a6 a7 a8 a9 a10 a11 a12 ++ (pc_Wr ++ pc_Pi sz' zp' pf' ++ pc_De lc' dc' pt' lm' dg') ∧ ∀ os t d, pua (lt c0 n) n ar na (n + 1) 0 [] 0 0 = some (os, t, d) → oc' = nI os.length ∧ pi_is o' os ∧ tk' = nI t ∧ dd' = nI d) := by
  refine ax_ofV (by decide) (Nat.le_of_ble_eq_true rfl) ?_
  intro p e s m args below meth c D cid ad A Qc G hr E
  have hfr : frg c0 0 n = -1 := by
    unfold wrA at hwr
    split at hwr
    · assumption
    · exact hwr
  have hw0 : wrg (lt c0 n) n (n + 1) 0 = -1 := by
    unfold wrA at hwr
    rw [if_pos hfr] at hwr
    exact hwr
  have hcs := frg_none c0 n 0 (by omega) hfr
  clear hwr hfr
  generalize hPP : pua (lt c0 n) n ar na (n + 1) 0 [] 0 0 = PP at E
  have loop : ∀ (k i : Nat) (os : List Nat) (t d : Nat) (o : Nat → Int32) (lf pl bl ha ze : Bool) (w : Int32) (wt : Bool) (pr : Int32) (pt : Bool) (kd : Int32) (gr : Bool) (pa sz zp : Int32) (pf : Nat → Int32) (lc dc pt0 : Int32) (lm : Nat → Int64) (dg : Nat → Int32), n < k + i → i ≤ 408 → t ≤ na → os.length ≤ 4000 → pi_is o os → wrg (lt c0 n) n k i = -1 → PP = pua (lt c0 n) n ar na k i os t d → ax_V p l e (ax_rm 8) s m args below meth c D cid ad A 3 0 0 (MQ below Qc args s 0 0 A) 2 [(0, .ref 0), (1, .int (nI i))] [] (pc_Fd (nI na) (nI os.length) wa (nI t) (nI d) ar o ++ pc_Fo (nI n) f ++ pc_Di lf pl bl ha ze w wt pr pt kd gr pa ++ (pc_Wr ++ pc_Pi sz zp pf ++ pc_De lc dc pt0 lm dg)) := by
    intro k
    induction k with
    | zero =>
      intro i os t d o lf pl bl ha ze w wt pr pt kd gr pa sz zp pf lc dc pt0 lm dg hk hi ht hol ho hw hP
      have hP2 : PP = some (os, t, d) := hP
      refine ax_iload_n G d_Fd_putOutAll_2 rfl rfl ?_
      refine ax_aload_n G d_Fd_putOutAll_3 rfl rfl ?_
      refine ax_get (ci := 5) (j := 0) G d_Fd_putOutAll_4 rfl rfl (by decide) k_Fd_10 rfl ?_
      refine ax_getN (ci := 2) (j := 1) G d_Fd_putOutAll_7 rfl rfl (by decide) k_Fd_58 rfl ?_
      refine ax_icmp_ge (tgt := 136) G d_Fd_putOutAll_10 (by decide) (fun c_10 => ?_) (fun c_10 => ?_)
      · refine ax_iconst (v := 1) G d_Fd_putOutAll_136 (by decide) ?_
        refine ax_zret G hr E rfl d_Fd_putOutAll_137 rfl ⟨by rw [hP2]; rfl, _, _, _, _, _, _, _, _, _, _, _, _, _, _, _, _, _, _, _, _, _, _, _, _, rfl, ?_⟩
        intro os2 t2 d2 hq
        rw [hP2] at hq
        cases hq
        exact ⟨rfl, ho, rfl, rfl⟩
      · exact absurd (nI_le (by omega) (by omega)) c_10
    | succ k ih =>
      intro i os t d o lf pl bl ha ze w wt pr pt kd gr pa sz zp pf lc dc pt0 lm dg hk hi ht hol ho hw hP
      rw [wrg_s] at hw
      rw [pua_s] at hP
      refine ax_iload_n G d_Fd_putOutAll_2 rfl rfl ?_
      refine ax_aload_n G d_Fd_putOutAll_3 rfl rfl ?_
      refine ax_get (ci := 5) (j := 0) G d_Fd_putOutAll_4 rfl rfl (by decide) k_Fd_10 rfl ?_
      refine ax_getN (ci := 2) (j := 1) G d_Fd_putOutAll_7 rfl rfl (by decide) k_Fd_58 rfl ?_
      refine ax_icmp_ge (tgt := 136) G d_Fd_putOutAll_10 (by decide) (fun c_10 => ?_) (fun c_10 => ?_)
      · have hge : n ≤ i := (nI_leI (by omega) (by omega)).mp c_10
        rw [if_pos hge] at hP
        refine ax_iconst (v := 1) G d_Fd_putOutAll_136 (by decide) ?_
        refine ax_zret G hr E rfl d_Fd_putOutAll_137 rfl ⟨by rw [hP]; rfl, _, _, _, _, _, _, _, _, _, _, _, _, _, _, _, _, _, _, _, _, _, _, _, _, rfl, ?_⟩
        intro os2 t2 d2 hq
        rw [hP] at hq
        cases hq
        exact ⟨rfl, ho, rfl, rfl⟩
      · have hlt : ¬ n ≤ i := fun z => c_10 (nI_le z (by omega))
        rw [if_neg hlt] at hP hw
        have hb := rd_b (lt c0 n) (n := n) (i := i) hn (by omega)
        have hl := lt_lt hf i
        refine ax_aload_n G d_Fd_putOutAll_13 rfl rfl ?_
        refine ax_get (ci := 5) (j := 0) G d_Fd_putOutAll_14 rfl rfl (by decide) k_Fd_10 rfl ?_
        refine ax_iload_n G d_Fd_putOutAll_17 rfl rfl ?_
        refine ax_callV (n := 1) G (ct_Fo_letterAt l n i f c0 hf hn (by omega)) d_Fd_putOutAll_18 rfl ⟨rfl, rfl, trivial⟩ rfl rfl rfl kc_Fo_letterAt ⟨k_Fd_88, ki_Fo_letterAt, ks_Fo_letterAt, kk_Fo⟩ (by decide +kernel) rfl ⟨by decide, by decide⟩ (Nat.le_of_ble_eq_true rfl) ⟨by decide, by decide⟩ (fun r hc_ hq hk_ => ?_)
        obtain ⟨rfl, rfl⟩ := hq
        rw [show (if i < n then c0 i else 0) = lt c0 n i from rfl]
        refine ax_bipush (v := 37) G d_Fd_putOutAll_21 (by decide) ?_
        refine ax_icmp_ne (tgt := 111) G d_Fd_putOutAll_23 (by decide) (fun c_23 => ?_) (fun c_23 => ?_)
        · have h37 : ¬ lt c0 n i = 37 := fun z => c_23 (by rw [z]; rfl)
          rw [if_neg h37] at hw hP
          have hc := hcs i (by omega) (by omega)
          have hle : lt c0 n i = c0 i := if_pos (by omega)
          refine ax_aload_n G d_Fd_putOutAll_111 rfl rfl ?_
          refine ax_aload_n G d_Fd_putOutAll_112 rfl rfl ?_
          refine ax_get (ci := 5) (j := 0) G d_Fd_putOutAll_113 rfl rfl (by decide) k_Fd_10 rfl ?_
          refine ax_iload_n G d_Fd_putOutAll_116 rfl rfl ?_
          refine ax_callV (n := 1) G (ct_Fo_letterAt l n i f c0 hf hn (by omega)) d_Fd_putOutAll_117 rfl ⟨rfl, rfl, trivial⟩ rfl rfl rfl kc_Fo_letterAt ⟨k_Fd_88, ki_Fo_letterAt, ks_Fo_letterAt, kk_Fo⟩ (by decide +kernel) rfl ⟨by decide, by decide⟩ (Nat.le_of_ble_eq_true rfl) ⟨by decide, by decide⟩ (fun r hc_ hq hk_ => ?_)
          obtain ⟨rfl, rfl⟩ := hq
          rw [show (if i < n then c0 i else 0) = lt c0 n i from rfl]
          by_cases hr4 : os.length < 4000
          · rw [if_pos hr4] at hP
            refine ax_callV (n := 1) G (ct_Fd_putOut l os (lt c0 n i) (nI na) wa (nI t) (nI d) ar o ho hr4 (by omega)) d_Fd_putOutAll_120 rfl ⟨rfl, rfl, rfl, trivial⟩ rfl rfl rfl kc_Fd_putOut ⟨k_Fd_127, ki_Fd_putOut, ks_Fd_putOut, kk_Fd⟩ (by decide +kernel) rfl ⟨by decide, by decide⟩ (Nat.le_of_ble_eq_true rfl) ⟨by decide, by decide⟩ (fun r hc_ hq hk_ => ?_)
            obtain ⟨rfl, o2, rfl, ho2⟩ := hq
            refine ax_istore_n G d_Fd_putOutAll_123 rfl (by decide) ?_
            refine ax_iload_n G d_Fd_putOutAll_124 rfl rfl ?_
            refine ax_if_ne (tgt := 130) G d_Fd_putOutAll_125 (by decide) (fun c_125 => ?_) (fun c_125 => ?_)
            · refine ax_iincZ (z := 1) G d_Fd_putOutAll_130 rfl (by decide) (by decide) ?_
              refine ax_goto (tgt := 2) G d_Fd_putOutAll_133 (by decide) ?_
              rw [nI_1]
              exact ax_less (lv' := [(0, .ref 0), (1, .int (nI (i + 1)))]) (ih (i + 1) (os ++ [lt c0 n i]) t d o2 _ _ _ _ _ _ _ _ _ _ _ _ _ _ _ _ _ _ _ _ (by omega) (by omega) ht (by rw [List.length_append]; show _ + 1 ≤ _; omega) ho2 hw hP) ⟨rfl, rfl, trivial⟩
            · exact absurd c_125 (by decide)
          · rw [if_neg hr4] at hP
            have e4 : os.length = 4000 := by omega
            rw [e4]
            refine ax_callV (n := 1) G (ct_Fd_putOutF l (nI (lt c0 n i)) (nI na) wa (nI t) (nI d) ar o) d_Fd_putOutAll_120 rfl ⟨rfl, rfl, rfl, trivial⟩ rfl rfl rfl kc_Fd_putOut ⟨k_Fd_127, ki_Fd_putOut, ks_Fd_putOut, kk_Fd⟩ (by decide +kernel) rfl ⟨by decide, by decide⟩ (Nat.le_of_ble_eq_true rfl) ⟨by decide, by decide⟩ (fun r hc_ hq hk_ => ?_)
            obtain ⟨rfl, rfl⟩ := hq
            refine ax_istore_n G d_Fd_putOutAll_123 rfl (by decide) ?_
            refine ax_iload_n G d_Fd_putOutAll_124 rfl rfl ?_
            refine ax_if_ne (tgt := 130) G d_Fd_putOutAll_125 (by decide) (fun c_125 => ?_) (fun c_125 => ?_)
            · exact absurd rfl c_125
            · refine ax_iconst (v := 0) G d_Fd_putOutAll_128 (by decide) ?_
              exact ax_zret G hr E rfl d_Fd_putOutAll_129 rfl ⟨by rw [hP]; rfl, _, _, _, _, _, _, _, _, _, _, _, _, _, _, _, _, _, _, _, _, _, _, _, _, rfl, fun os2 t2 d2 hq => by rw [hP] at hq; cases hq⟩
        · have h37 : lt c0 n i = 37 := (nI_eq (b := 37) (by omega) (by decide)).mp c_23
          rw [if_pos h37] at hw hP
          by_cases hok : rdOk (lt c0 n) n i = true
          · rw [if_pos hok] at hw
            have hq2 := dvQ_le (ar := ar) (na := na) (t := t) hok
            have hw2 := dvW_le (ar := ar) (na := na) (t := t) hok
            have hkk : isS (dvK (lt c0 n) n i) := isK_S _ (lt_lt hf _) (rdOk_all hok).2.2.1
            have hk256 : dvK (lt c0 n) n i < 256 := by unfold isS at hkk; omega
            have hpl := pcs_len (rdF (lt c0 n) n i).2.1 (rdF (lt c0 n) n i).2.2.1 (rdF (lt c0 n) n i).2.2.2.1 (dvQ (lt c0 n) n i ar na t) (dvK (lt c0 n) n i) (dvV (lt c0 n) n i ar na t) hq2
            have hpz := pcs_z (rdF (lt c0 n) n i).2.1 (rdF (lt c0 n) n i).2.2.1 (rdF (lt c0 n) n i).2.2.2.1 (dvQ (lt c0 n) n i ar na t) (dvK (lt c0 n) n i) (dvV (lt c0 n) n i ar na t)
            have hgl : (dvG (lt c0 n) n i ar na t).length = (dvP (lt c0 n) n i ar na t).1.length := pcG_len _ _
            have hfl : (dvF (lt c0 n) n i ar na t).length = (dvG (lt c0 n) n i ar na t).length + ((dvW (lt c0 n) n i ar na t).2 - (dvG (lt c0 n) n i ar na t).length) := fld_len _ _ _ _ _
            have ht3 := dvT3_le (L := lt c0 n) (n := n) (i := i) ht
            have ht2 := dvT2_le (L := lt c0 n) (n := n) (i := i) ht
            refine ax_aload_n G d_Fd_putOutAll_26 rfl rfl ?_
            refine ax_get (ci := 5) (j := 8) G d_Fd_putOutAll_27 rfl rfl (by decide) k_Fd_43 rfl ?_
            refine ax_aload_n G d_Fd_putOutAll_30 rfl rfl ?_
            refine ax_get (ci := 5) (j := 0) G d_Fd_putOutAll_31 rfl rfl (by decide) k_Fd_10 rfl ?_
            refine ax_iload_n G d_Fd_putOutAll_34 rfl rfl ?_
            refine ax_callV (n := 2) G (ct_Di_read l n i f c0 lf pl bl ha ze w wt pr pt kd gr pa hf hn (by omega)) d_Fd_putOutAll_35 rfl ⟨rfl, rfl, rfl, trivial⟩ rfl rfl rfl kc_Di_read ⟨k_Fd_92, ki_Di_read, ks_Di_read, kk_Di⟩ (by decide +kernel) rfl ⟨by decide, by decide⟩ (Nat.le_of_ble_eq_true rfl) ⟨by decide, by decide⟩ (fun r hc_ hq hk_ => ?_)
            obtain ⟨rfl, a1, a2, a3, a4, a5, a6, a7, a8, a9, a10, a11, rfl, hrd⟩ := hq
            obtain ⟨r1, rfl, rfl, r8, rfl, rfl, rfl⟩ := hrd hok
            cases r1
            rw [rd_Q] at r8
            subst r8
            refine ax_pop G d_Fd_putOutAll_38 rfl ?_
            refine ax_iload_n G d_Fd_putOutAll_39 rfl rfl ?_
            refine ax_aload_n G d_Fd_putOutAll_40 rfl rfl ?_
            refine ax_get (ci := 5) (j := 8) G d_Fd_putOutAll_41 rfl rfl (by decide) k_Fd_43 rfl ?_
            refine ax_getN (ci := 1) (j := 11) G d_Fd_putOutAll_44 rfl rfl (by decide) k_Fd_96 rfl ?_
            refine ax_mmax G d_Fd_putOutAll_47 k_Fd_99 ⟨by decide, by decide⟩ (Nat.le_of_ble_eq_true rfl) ⟨by decide, by decide⟩ ?_
            rw [mx_row (by omega) (by omega)]
            refine ax_istore_n G d_Fd_putOutAll_50 rfl (by decide) ?_
            refine ax_aload_n G d_Fd_putOutAll_51 rfl rfl ?_
            refine ax_callV (n := 0) G (ct_Fd_takeStars l na t (nI os.length) wa (nI d) ar o _ _ _ _ _ (rdW (lt c0 n) n i).2.2.2 (rdW (lt c0 n) n i).2.2.1 (rdQ (lt c0 n) n i) (rdP (lt c0 n) n i).2.2.1 _ _ _ hna ht) d_Fd_putOutAll_52 rfl ⟨rfl, rfl, rfl, rfl, trivial⟩ rfl rfl rfl kc_Fd_takeStars ⟨k_Fd_105, ki_Fd_takeStars, ks_Fd_takeStars, kk_Fd⟩ (by decide +kernel) rfl ⟨by decide, by decide⟩ (Nat.le_of_ble_eq_true rfl) ⟨by decide, by decide⟩ (fun r hc_ hq hk_ => ?_)
            obtain ⟨rfl, rfl⟩ := hq
            have wr : ax_V p l e (ax_rm 8) s m args below meth c D cid ad A 3 0 0 (MQ below Qc args s 0 0 A) 79 [(0, .ref 0), (1, .int (nI (rdAt (lt c0 n) n i)))] [.long (dvV (lt c0 n) n i ar na t), .ref 6] (pc_Fd (nI na) (nI os.length) wa (nI (dvT3 (lt c0 n) n i na t)) (nI d) ar o ++ pc_Fo (nI n) f ++ pc_Di (dvW (lt c0 n) n i ar na t).1 (rdF (lt c0 n) n i).2.1 (rdF (lt c0 n) n i).2.2.1 (rdF (lt c0 n) n i).2.2.2.1 (rdF (lt c0 n) n i).2.2.2.2.1 (nI (dvW (lt c0 n) n i ar na t).2) (rdW (lt c0 n) n i).2.2.1 (prI (dvQ (lt c0 n) n i ar na t)) (rdP (lt c0 n) n i).2.2.1 (nI (dvK (lt c0 n) n i)) (grt (lt c0 n (rdAt (lt c0 n) n i))) (nI (rdAt (lt c0 n) n i)) ++ (pc_Wr ++ pc_Pi sz zp pf ++ pc_De lc dc pt0 lm dg)) := by
              refine ax_aload_n G d_Fd_putOutAll_79 rfl rfl ?_
              refine ax_get (ci := 5) (j := 8) G d_Fd_putOutAll_80 rfl rfl (by decide) k_Fd_43 rfl ?_
              refine ax_callV (n := 2) G (ct_Wr_write l (dvV (lt c0 n) n i ar na t) (dvK (lt c0 n) n i) (dvQ (lt c0 n) n i ar na t) sz zp pf lc dc pt0 lm dg _ _ _ _ _ _ _ _ _ _ hq2 hkk) d_Fd_putOutAll_83 rfl ⟨rfl, rfl, rfl, rfl, rfl, rfl, rfl, trivial⟩ rfl rfl rfl kc_Wr_write ⟨k_Fd_115, ki_Wr_write, ks_Wr_write, kk_Wr⟩ (by decide +kernel) rfl ⟨by decide, by decide⟩ (Nat.le_of_ble_eq_true rfl) ⟨by decide, by decide⟩ (fun r hc_ hq hk_ => ?_)
              obtain ⟨rfl, f2, lc2, dc2, pt2, lm2, dg2, rfl, hf2⟩ := hq
              rw [show pcs (rdF (lt c0 n) n i).2.1 (rdF (lt c0 n) n i).2.2.1 (rdF (lt c0 n) n i).2.2.2.1 (dvQ (lt c0 n) n i ar na t) (dvK (lt c0 n) n i) (dvV (lt c0 n) n i ar na t) = dvP (lt c0 n) n i ar na t from rfl] at hf2 hpl hpz ⊢
              rw [show pcG (grt (lt c0 n (rdAt (lt c0 n) n i))) (dvP (lt c0 n) n i ar na t).1 = dvG (lt c0 n) n i ar na t from rfl] at hf2 ⊢
              refine ax_aload_n G d_Fd_putOutAll_86 rfl rfl ?_
              refine ax_aload_n G d_Fd_putOutAll_87 rfl rfl ?_
              refine ax_get (ci := 5) (j := 9) G d_Fd_putOutAll_88 rfl rfl (by decide) k_Fd_50 rfl ?_
              refine ax_getN (ci := 4) (j := 0) G d_Fd_putOutAll_91 rfl rfl (by decide) k_Fd_119 rfl ?_
              refine ax_callV (n := 1) G (ct_Fd_putOutPiece l os (dvG (lt c0 n) n i ar na t) (dvP (lt c0 n) n i ar na t).2 (dvW (lt c0 n) n i ar na t).2 (nI na) wa (nI (dvT3 (lt c0 n) n i na t)) (nI d) ar o f2 _ _ _ _ _ _ _ _ _ _ _ ho hf2 hol (by omega) hw2 (by rw [hgl]; exact hpz)) d_Fd_putOutAll_94 rfl ⟨rfl, rfl, rfl, rfl, rfl, rfl, trivial⟩ rfl rfl rfl kc_Fd_putOutPiece ⟨k_Fd_123, ki_Fd_putOutPiece, ks_Fd_putOutPiece, kk_Fd⟩ (by decide +kernel) rfl ⟨by decide, by decide⟩ (Nat.le_of_ble_eq_true rfl) ⟨by decide, by decide⟩ (fun r hc_ hq hk_ => ?_)
              obtain ⟨rfl, oc2, o2, rfl, hop⟩ := hq
              rw [show fld (dvW (lt c0 n) n i ar na t).1 (rdF (lt c0 n) n i).2.2.2.2.1 (dvW (lt c0 n) n i ar na t).2 (dvG (lt c0 n) n i ar na t) (dvP (lt c0 n) n i ar na t).2 = dvF (lt c0 n) n i ar na t from rfl] at hop
              rw [Nat.add_assoc, ← hfl] at hop
              rw [Nat.add_assoc os.length, ← hfl]
              by_cases hfit : os.length + (dvF (lt c0 n) n i ar na t).length ≤ 4000
              · rw [if_pos hfit] at hP
                obtain ⟨rfl, ho2⟩ := hop hfit
                rw [decide_eq_true hfit]
                refine ax_istore_n G d_Fd_putOutAll_97 rfl (by decide) ?_
                refine ax_aload_n G d_Fd_putOutAll_98 rfl rfl ?_
                refine ax_dup G d_Fd_putOutAll_99 rfl ?_
                refine ax_get (ci := 5) (j := 7) G d_Fd_putOutAll_100 rfl rfl (by decide) k_Fd_37 rfl ?_
                refine ax_iconst (v := 1) G d_Fd_putOutAll_103 (by decide) ?_
                refine ax_iadd G d_Fd_putOutAll_104 ?_
                refine ax_put (ci := 5) (j := 7) G d_Fd_putOutAll_105 rfl rfl (by decide) k_Fd_37 rfl rfl rfl (Nat.le_of_ble_eq_true rfl) ?_
                refine ax_goto (tgt := 124) G d_Fd_putOutAll_108 (by decide) ?_
                rw [nI_1]
                refine ax_iload_n G d_Fd_putOutAll_124 rfl rfl ?_
                refine ax_if_ne (tgt := 130) G d_Fd_putOutAll_125 (by decide) (fun c_125 => ?_) (fun c_125 => ?_)
                · refine ax_iincZ (z := 1) G d_Fd_putOutAll_130 rfl (by decide) (by decide) ?_
                  refine ax_goto (tgt := 2) G d_Fd_putOutAll_133 (by decide) ?_
                  rw [nI_1]
                  exact ax_less (lv' := [(0, .ref 0), (1, .int (nI (rdAt (lt c0 n) n i + 1)))]) (ih (rdAt (lt c0 n) n i + 1) (os ++ dvF (lt c0 n) n i ar na t) (dvT3 (lt c0 n) n i na t) (d + 1) o2 _ _ _ _ _ _ _ _ _ _ _ _ _ _ _ _ _ _ _ _ (by omega) (by omega) ht3 (by rw [List.length_append]; exact hfit) ho2 hw hP) ⟨rfl, rfl, trivial⟩
                · exact absurd c_125 (by decide)
              · rw [if_neg hfit] at hP
                rw [decide_eq_false hfit]
                refine ax_istore_n G d_Fd_putOutAll_97 rfl (by decide) ?_
                refine ax_aload_n G d_Fd_putOutAll_98 rfl rfl ?_
                refine ax_dup G d_Fd_putOutAll_99 rfl ?_
                refine ax_get (ci := 5) (j := 7) G d_Fd_putOutAll_100 rfl rfl (by decide) k_Fd_37 rfl ?_
                refine ax_iconst (v := 1) G d_Fd_putOutAll_103 (by decide) ?_
                refine ax_iadd G d_Fd_putOutAll_104 ?_
                refine ax_put (ci := 5) (j := 7) G d_Fd_putOutAll_105 rfl rfl (by decide) k_Fd_37 rfl rfl rfl (Nat.le_of_ble_eq_true rfl) ?_
                refine ax_goto (tgt := 124) G d_Fd_putOutAll_108 (by decide) ?_
                refine ax_iload_n G d_Fd_putOutAll_124 rfl rfl ?_
                refine ax_if_ne (tgt := 130) G d_Fd_putOutAll_125 (by decide) (fun c_125 => ?_) (fun c_125 => ?_)
                · exact absurd rfl c_125
                · refine ax_iconst (v := 0) G d_Fd_putOutAll_128 (by decide) ?_
                  exact ax_zret G hr E rfl d_Fd_putOutAll_129 rfl ⟨by rw [hP]; rfl, _, _, _, _, _, _, _, _, _, _, _, _, _, _, _, _, _, _, _, _, _, _, _, _, rfl, fun os2 t2 d2 hq => by rw [hP] at hq; cases hq⟩
            refine ax_aload_n G d_Fd_putOutAll_55 rfl rfl ?_
            refine ax_get (ci := 5) (j := 9) G d_Fd_putOutAll_56 rfl rfl (by decide) k_Fd_50 rfl ?_
            refine ax_aload_n G d_Fd_putOutAll_59 rfl rfl ?_
            refine ax_get (ci := 5) (j := 8) G d_Fd_putOutAll_60 rfl rfl (by decide) k_Fd_43 rfl ?_
            refine ax_getN (ci := 1) (j := 9) G d_Fd_putOutAll_63 rfl rfl (by decide) k_Fd_108 rfl ?_
            refine ax_bipush (v := 37) G d_Fd_putOutAll_66 (by decide) ?_
            refine ax_icmp_ne (tgt := 75) G d_Fd_putOutAll_68 (by decide) (fun c_68 => ?_) (fun c_68 => ?_)
            · have hk37 : ¬ dvK (lt c0 n) n i = 37 := fun z => c_68 (by show nI (dvK (lt c0 n) n i) = 37; rw [z]; rfl)
              refine ax_aload_n G d_Fd_putOutAll_75 rfl rfl ?_
              refine ax_callV (n := 0) G (ct_Fd_take l na (dvT2 (lt c0 n) n i na t) (nI os.length) wa (nI d) ar o hna ht2) d_Fd_putOutAll_76 rfl ⟨rfl, rfl, rfl, trivial⟩ rfl rfl rfl kc_Fd_take ⟨k_Fd_111, ki_Fd_take, ks_Fd_take, kk_Fd⟩ (by decide +kernel) rfl ⟨by decide, by decide⟩ (Nat.le_of_ble_eq_true rfl) ⟨by decide, by decide⟩ (fun r hc_ hq hk_ => ?_)
              obtain ⟨rfl, rfl⟩ := hq
              rw [show tkv ar na (dvT2 (lt c0 n) n i na t) = dvV (lt c0 n) n i ar na t by unfold dvV; rw [if_neg hk37], show tkn na (dvT2 (lt c0 n) n i na t) = dvT3 (lt c0 n) n i na t by unfold dvT3; rw [if_neg hk37]]
              exact wr
            · have hk37 : dvK (lt c0 n) n i = 37 := (nI_eq (b := 37) (by omega) (by decide)).mp c_68
              refine ax_lconst (v := 0) G d_Fd_putOutAll_71 (by decide) ?_
              refine ax_goto (tgt := 79) G d_Fd_putOutAll_72 (by decide) ?_
              rw [show dvV (lt c0 n) n i ar na t = 0 by unfold dvV; rw [if_pos hk37], show dvT3 (lt c0 n) n i na t = dvT2 (lt c0 n) n i na t by unfold dvT3; rw [if_pos hk37]] at wr
              exact wr
          · rw [if_neg hok] at hw
            exact absurd hw (nI_m1 (by omega))
  refine ax_iconst (v := 0) G d_Fd_putOutAll_0 (by decide) ?_
  refine ax_istore_n G d_Fd_putOutAll_1 rfl (by decide) ?_
  exact loop (n + 1) 0 [] 0 0 o _ _ _ _ _ _ _ _ _ _ _ _ _ _ _ _ _ _ _ _ (by omega) (by omega) (by omega) (by decide) (pi_nil o) hw0 hPP.symm

