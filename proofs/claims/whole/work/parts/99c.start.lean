/-! the start: what the Statement gives -/
def tmS (i : Nat) : Term := match i with
  | 0 => .string "FormatDesk$Directive" 87
  | 1 => .string "FormatDesk$Piece" 45
  | 2 => .string "FormatDesk$Writer" 78
  | 3 => .string "FormatDesk$Writer" 106
  | 4 => .string "FormatDesk$Writer" 108
  | 5 => .string "FormatDeskModel" 101
  | 6 => .string "FormatDeskModel" 218
  | _ => .string "FormatDeskModel" 222
abbrev gvF : List Cond := flatC (Jvm.Cond.and given_1 narrow_1)
set_option maxRecDepth 20000 in
theorem gv_ex : ∀ i, i < 8 → Cond.exactly (tmS i) "java/lang/String" ∈ gvF := by decide +kernel
set_option maxRecDepth 20000 in
theorem gv_co : ∀ i, i < 8 → Cond.eq (.field (tmS i) "java/lang/String" "coder" "B") (.int 0) ∈ gvF := by decide +kernel
set_option maxRecDepth 20000 in
theorem gv_ar : ∀ i, i < 8 → Cond.arrayOf (.field (tmS i) "java/lang/String" "value" "[B") .byte ∈ gvF := by decide +kernel
set_option maxRecDepth 20000 in
theorem gv_le : ∀ i, i < 8 → Cond.eq (.length (.field (tmS i) "java/lang/String" "value" "[B")) (.int (Int32.ofNat (ax_len.getD i 0))) ∈ gvF := by decide +kernel
set_option maxRecDepth 20000 in
theorem gv_el : ∀ i, i < 8 → ∀ j, j < ax_len.getD i 0 → Cond.eq (.elem (.field (tmS i) "java/lang/String" "value" "[B") (.int (Int32.ofNat j))) (.int ((ax_byt.getD i []).getD j 0)) ∈ gvF := by decide +kernel
set_option maxRecDepth 20000 in
theorem gv_ne : ∀ i, i < 8 → ∀ j, j < 8 → i ≠ j → Cond.not (Cond.eq (tmS i) (tmS j)) ∈ gvF ∨ Cond.not (Cond.eq (tmS j) (tmS i)) ∈ gvF := by decide +kernel
set_option maxRecDepth 20000 in
theorem gv_5 : ∀ j, j < 13 → Cond.eq (.elem (.static "FormatDesk$Decimal" "FIVES" "[J") (.int (Int32.ofNat j))) (.long (ax_five j)) ∈ gvF := by decide +kernel
theorem ax_nestN {s : State} {args : Array Value} (hts : ∀ w ∈ lw_tbl, w.before args s = true) : ∀ w ∈ ax_nest, va_Nw w s := by
  intro w hw
  obtain ⟨h1, h2⟩ := List.mem_filter.mp hw
  have h3 := hts w h1
  cases w with
  | fieldLinkNest a i b n d k => exact va_Nw.of rfl h3
  | methodLinkNest a i x k => exact va_Nw.of rfl h3
  | _ => simp [ax_isN] at h2
theorem ax_othN {s : State} {args : Array Value} (hts : ∀ w ∈ lw_tbl, w.before args s = true) : ∀ w ∈ ax_oth, va_Nw w s := by
  have h0 : ∀ w ∈ ax_oth, w ∈ lw_tbl := by decide +kernel
  exact fun w hw => va_Nw.of (ax_oth_t (ax_oth_cd w hw)) (hts w (h0 w hw))
theorem ax_arr {s : State} {args : Array Value} {ty : FieldType} (h : (Cond.arrayClass ty).before args s = true) : ∃ cA : ClassId, ArrOfT s cA ty ∧ s.vm.findClass ("[" ++ ty.toString) = some cA := by
  obtain ⟨cA, kA, comp, h1, h2, h3⟩ := Cond.arrayClass_spec h
  exact ⟨cA, fun n z => ⟨fun k h => (by cases h), kA, h2, comp, h3⟩, h1⟩
theorem ax_Ks {s : State} {args : Array Value} (hts : ∀ w ∈ lw_tbl, w.before args s = true) : ∃ (D : va_G) (cid : Nat → ClassId), va_K D ax_cl (ax_tys cid) s := by
  have tb : ∀ w ∈ ax_big, w.before args s = true := fun w hw => hts w (ax_big_tbl w hw)
  obtain ⟨c0, i0, h0⟩ := u_known (C := R_De) (T := T_De) (N := 5) (n := 5) tb i_De (tb _ wi_De)
  obtain ⟨c1, i1, h1⟩ := u_known (C := R_Di) (T := T_Di) (N := 12) (n := 12) tb i_Di (tb _ wi_Di)
  obtain ⟨c2, i2, h2⟩ := u_known (C := R_Fo) (T := T_Fo) (N := 2) (n := 2) tb i_Fo (tb _ wi_Fo)
  obtain ⟨c3, i3, h3⟩ := u_known (C := R_Pi) (T := T_Pi) (N := 3) (n := 3) tb i_Pi (tb _ wi_Pi)
  obtain ⟨c4, i4, h4⟩ := u_known (C := R_Wr) (T := T_Wr) (N := 2) (n := 2) tb i_Wr (tb _ wi_Wr)
  obtain ⟨c5, i5, h5⟩ := u_known (C := R_Fd) (T := T_Fd) (N := 10) (n := 10) tb i_Fd (tb _ wi_Fd)
  obtain ⟨c6, i6, h6⟩ := u_known (C := R_Mo) (T := T_Mo) (N := 30) (n := 30) tb i_Mo (tb _ wi_Mo)
  obtain ⟨a0, x0, y0⟩ := ax_arr (tb _ wa_int)
  obtain ⟨a1, x1, y1⟩ := ax_arr (tb _ wa_byte)
  obtain ⟨a2, x2, y2⟩ := ax_arr (tb _ wa_long)
  refine ⟨(fun k => match k with | 0 => c0 | 1 => c1 | 2 => c2 | 3 => c3 | 4 => c4 | 5 => c5 | _ => c6, fun k => match k with | 0 => i0 | 1 => i1 | 2 => i2 | 3 => i3 | 4 => i4 | 5 => i5 | _ => i6), fun k => match k with | 0 => a0 | 1 => a1 | _ => a2, ?_, ?_⟩
  · intro k q hq
    match k, hq with
    | 0, hq => cases hq; exact h0
    | 1, hq => cases hq; exact h1
    | 2, hq => cases hq; exact h2
    | 3, hq => cases hq; exact h3
    | 4, hq => cases hq; exact h4
    | 5, hq => cases hq; exact h5
    | 6, hq => cases hq; exact h6
    | k + 7, hq => simp at hq
  · intro k q hq
    match k, hq with
    | 0, hq => cases hq; exact ⟨x0, y0⟩
    | 1, hq => cases hq; exact ⟨x1, y1⟩
    | 2, hq => cases hq; exact ⟨x2, y2⟩
    | k + 3, hq => simp [ax_tys] at hq
theorem ax_Ys {s : State} {args : Array Value} {A : Nat → Prop} (hts : ∀ w ∈ lw_tbl, w.before args s = true) (hgv : (Jvm.Cond.and given_1 narrow_1).before args s = true) (hA : ∀ a : Nat, a < s.heap.size → ¬ A a) : ax_Y A s s.heap := by
  have gv := flat_of_before _ hgv
  refine ⟨vx_Zqof (hts _ (by decide +kernel)) (hts _ (by decide +kernel)) (gv _ (by decide +kernel)) hA, vx_Zqof (hts _ (by decide +kernel)) (hts _ (by decide +kernel)) (gv _ (by decide +kernel)) hA, ax_othN hts, va_Nc.of (gv _ (by decide +kernel))⟩
theorem vk_Rx {own tx : String} {k a : Nat} {A : Array Value} {U : State} (h1 : (Cond.stringRef own k tx).before A U = true) (h2 : (Term.string own k).eval A U none [] U = some (.ref a)) : vk_R own k tx a U := ⟨h1, h2⟩
theorem ax_Xs {s : State} {args : Array Value} {A : Nat → Prop} (hts : ∀ w ∈ lw_tbl, w.before args s = true) (hgv : (Jvm.Cond.and given_1 narrow_1).before args s = true) (hA : ∀ a : Nat, a < s.heap.size → ¬ A a) : ∃ ad : Nat → Nat, ax_X ad A s s.heap := by
  have gv := flat_of_before _ hgv
  obtain ⟨adK, adV, hS, hE⟩ := vk_Sof (N := 8) (tm := tmS) (len := ax_len) (byt := ax_byt) (A := A) (args := args) (s := s) (by decide) (fun i hi => gv _ (gv_ex i hi)) (fun i hi => gv _ (gv_co i hi)) (fun i hi => gv _ (gv_ar i hi)) (fun i hi => gv _ (gv_le i hi)) (fun i hi j hj => gv _ (gv_el i hi j hj)) (fun i j hi hj hij => (gv_ne i hi j hj hij).imp (gv _) (gv _)) hA
  obtain ⟨t5, h5, hT5⟩ := va_Tof (tm := .static "FormatDesk$Decimal" "FIVES" "[J") (ty := .long) (N := 13) (f := fun j => .long (ax_five j)) (A := A) (args := args) (s := s) (by decide) (gv _ (by decide +kernel)) (va_eqt (gv _ (by decide +kernel))) (fun j hj => va_eqtl (gv _ (gv_5 j hj))) hA
  have hQ := va_Zqof (C := "jdk/internal/util/Preconditions") (n := "SIOOBE_FORMATTER") (d := "Ljava/util/function/BiFunction;") (A := A) (args := args) (s := s) (hts _ (by decide +kernel)) (hts _ (by decide +kernel)) (gv _ (by decide +kernel)) hA
  obtain ⟨t6, hQ6⟩ : ∃ t6 : Nat, va_Z "jdk/internal/util/Preconditions" "SIOOBE_FORMATTER" "Ljava/util/function/BiFunction;" .null A s s.heap ∨ va_Z "jdk/internal/util/Preconditions" "SIOOBE_FORMATTER" "Ljava/util/function/BiFunction;" (.ref t6) A s s.heap := by
    rcases hQ with h | ⟨t, h⟩
    · exact ⟨0, Or.inl h⟩
    · exact ⟨t, Or.inr h⟩
  refine ⟨fun k => if 120 ≤ k then (if k = 120 then t5 else t6) else if 110 ≤ k then adV (k - 110) else adK (k - 100), ?_⟩
  have e1 : ∀ i, i < 10 → (fun k => if 120 ≤ k then (if k = 120 then t5 else t6) else if 110 ≤ k then adV (k - 110) else adK (k - 100)) (100 + i) = adK i := by
    intro i hi
    show (if 120 ≤ 100 + i then _ else if 110 ≤ 100 + i then _ else adK (100 + i - 100)) = adK i
    rw [if_neg (by omega), if_neg (by omega), Nat.add_sub_cancel_left]
  have e2 : ∀ i, i < 10 → (fun k => if 120 ≤ k then (if k = 120 then t5 else t6) else if 110 ≤ k then adV (k - 110) else adK (k - 100)) (110 + i) = adV i := by
    intro i hi
    show (if 120 ≤ 110 + i then _ else if 110 ≤ 110 + i then adV (110 + i - 110) else _) = adV i
    rw [if_neg (by omega), if_pos (by omega), Nat.add_sub_cancel_left]
  have e3 : (fun k => if 120 ≤ k then (if k = 120 then t5 else t6) else if 110 ≤ k then adV (k - 110) else adK (k - 100)) 120 = t5 := rfl
  have e4 : (fun k => if 120 ≤ k then (if k = 120 then t5 else t6) else if 110 ≤ k then adV (k - 110) else adK (k - 100)) 121 = t6 := rfl
  generalize (fun k => if 120 ≤ k then (if k = 120 then t5 else t6) else if 110 ≤ k then adV (k - 110) else adK (k - 100)) = ad at e1 e2 e3 e4 ⊢
  refine ⟨⟨fun i hi => ?_, fun i j hi hj hij => ?_⟩, ?_, va_Zof (hts _ (by decide +kernel)) (hts _ (by decide +kernel)) (va_eqt (gv _ (by decide +kernel))) hA, ?_, ?_, ?_⟩
  · have := hS.1 i hi
    rw [show (fun i => ad (100 + i)) i = adK i from e1 i (by omega), show (fun i => ad (110 + i)) i = adV i from e2 i (by omega)]
    exact this
  · refine hS.2 i j hi hj ?_
    rw [← e1 i (by omega), ← e1 j (by omega)]
    exact hij
  · have f3 : (Term.string "FormatDeskModel" 220).eval args s none [] s = some (.ref (adK 3)) := va_eqR (gv _ (by decide +kernel)) (hE 3 (by decide))
    have f4 : (Term.string "FormatDeskModel" 224).eval args s none [] s = some (.ref (adK 4)) := va_eqR (gv _ (by decide +kernel)) (hE 4 (by decide))
    unfold ax_refs
    refine List.forall_mem_cons.mpr ⟨?_, List.forall_mem_cons.mpr ⟨?_, List.forall_mem_cons.mpr ⟨?_, List.forall_mem_cons.mpr ⟨?_, List.forall_mem_cons.mpr ⟨?_, List.forall_mem_cons.mpr ⟨?_, List.forall_mem_cons.mpr ⟨?_, List.forall_mem_cons.mpr ⟨?_, List.forall_mem_cons.mpr ⟨?_, List.forall_mem_cons.mpr ⟨?_, fun _ h => absurd h List.not_mem_nil⟩⟩⟩⟩⟩⟩⟩⟩⟩⟩
    · show vk_R _ _ _ (ad (100 + 0)) s
      rw [e1 0 (by decide)]; exact vk_Rx (hts _ (by decide +kernel)) (hE 0 (by decide))
    · show vk_R _ _ _ (ad (100 + 1)) s
      rw [e1 1 (by decide)]; exact vk_Rx (hts _ (by decide +kernel)) (hE 1 (by decide))
    · show vk_R _ _ _ (ad (100 + 2)) s
      rw [e1 2 (by decide)]; exact vk_Rx (hts _ (by decide +kernel)) (hE 2 (by decide))
    · show vk_R _ _ _ (ad (100 + 3)) s
      rw [e1 3 (by decide)]; exact vk_Rx (hts _ (by decide +kernel)) (hE 3 (by decide))
    · show vk_R _ _ _ (ad (100 + 4)) s
      rw [e1 4 (by decide)]; exact vk_Rx (hts _ (by decide +kernel)) (hE 4 (by decide))
    · show vk_R _ _ _ (ad (100 + 5)) s
      rw [e1 5 (by decide)]; exact vk_Rx (hts _ (by decide +kernel)) (hE 5 (by decide))
    · show vk_R _ _ _ (ad (100 + 6)) s
      rw [e1 6 (by decide)]; exact vk_Rx (hts _ (by decide +kernel)) (hE 6 (by decide))
    · show vk_R _ _ _ (ad (100 + 3)) s
      rw [e1 3 (by decide)]; exact vk_Rx (hts _ (by decide +kernel)) f3
    · show vk_R _ _ _ (ad (100 + 7)) s
      rw [e1 7 (by decide)]; exact vk_Rx (hts _ (by decide +kernel)) (hE 7 (by decide))
    · show vk_R _ _ _ (ad (100 + 4)) s
      rw [e1 4 (by decide)]; exact vk_Rx (hts _ (by decide +kernel)) f4
  · rw [e3]; exact va_Zof (hts _ (by decide +kernel)) (hts _ (by decide +kernel)) h5 hA
  · rw [e3]; exact hT5
  · rw [e4]; exact hQ6
