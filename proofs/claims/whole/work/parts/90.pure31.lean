/-! pure rows: floating-point numbers, whole numbers, both sides -/
theorem dg10_le : ∀ k x, dg10 k x ≤ k
  | 0, _ => Nat.le_refl _
  | k + 1, x => by rw [dg10_s]; have := dg10_le k (x / 10); split <;> omega
theorem nN_800 (s0 : Nat) (e : Int) : nN s0 e ≤ 800 := by
  unfold nN
  split
  · exact Nat.zero_le _
  · exact dg10_le 800 _
theorem po_is {s0 : Nat} {x : Int32} (hs : s0 < 2 ^ 53) (h1 : -1074 ≤ x.toInt) (h2 : x.toInt ≤ 971) (h0 : s0 = 0 → x.toInt = -1074) : (0 < nN s0 x.toInt ∧ ptN s0 x.toInt = (if x < 0 then nI (nN s0 x.toInt) + x else nI (nN s0 x.toInt)) ∧ -330 ≤ (ptN s0 x.toInt).toInt ∧ (ptN s0 x.toInt).toInt ≤ 310) ∨ (nN s0 x.toInt = 0 ∧ ptN s0 x.toInt = 1 ∧ (if x < 0 then nI (nN s0 x.toInt) + x else nI (nN s0 x.toInt)).toInt = -1074) := by
  rcases Nat.eq_zero_or_pos s0 with z | z
  · right
    have e1 : nN s0 x.toInt = 0 := by unfold nN; rw [if_pos z]
    have hx := h0 z
    have hlt : x < 0 := (i32_lt _ _).mpr (by rw [hx]; decide)
    refine ⟨e1, by unfold ptN; rw [if_pos z], ?_⟩
    rw [e1, if_pos hlt, i32_add _ _ (by decide) (by omega), hx]
    rfl
  · left
    have g1 := nN_is z hs h1 h2
    have g2 := nN_up z hs h1 h2
    have g3 := nN_dn z hs h1 h2
    have g4 := nN_800 s0 x.toInt
    have e2 : (ptN s0 x.toInt).toInt = (nN s0 x.toInt : Int) + min x.toInt 0 := by
      unfold ptN; rw [if_neg (Nat.ne_of_gt z), ofInt_toInt (by omega) (by omega)]
    refine ⟨g1.1, i32_eq ?_, by omega, by omega⟩
    rw [e2]
    have e3 : (nI (nN s0 x.toInt)).toInt = (nN s0 x.toInt : Int) := nI_toInt (by omega)
    split
    · rename_i hlt
      have := (i32_lt _ _).mp hlt
      rw [show (0 : Int32).toInt = 0 from rfl] at this
      rw [i32_add _ _ (by omega) (by omega), e3]; omega
    · rename_i hlt
      have : ¬ x.toInt < 0 := fun q => hlt ((i32_lt _ _).mpr q)
      rw [e3]; omega
theorem cD_rz {d : Nat → Nat} {ct : Nat} {po : Int32} {p : Nat} (i : Nat) : cD d ct po ((p : Int) + 1) i = dAt (rz d ct po (p + 1)).1 (rz d ct po (p + 1)).2.1 (i : Int) := by
  by_cases h : ct = 0
  · subst h
    rw [cD_00]; unfold rz; rw [if_pos rfl]; exact (dAt_0 d i).symm
  · unfold cD rz
    rw [if_neg h]; rfl
theorem sci_rz {d : Nat → Nat} {ct : Nat} {po : Int32} {p : Nat} {ha gr : Bool} (hd : ∀ i, i < ct → d i < 10) (hb : -1200 ≤ po.toInt ∧ po.toInt ≤ 310) : sciM (cD d ct po ((p : Int) + 1)) p ha gr (xpo d ct po p).toInt = pcG gr (sciS (rz d ct po (p + 1)).1 (rz d ct po (p + 1)).2.1 (rz d ct po (p + 1)).2.2.toInt p ha) := by
  have hR := rz_b (d := d) (ct := ct) (k := p + 1) hb
  have hx := xpo_rz (d := d) (ct := ct) (po := po) (k := p + 1) (Nat.succ_pos p)
  rw [Nat.add_sub_cancel] at hx
  have h1 : (1 : Int32).toInt = 1 := rfl
  rw [hx, i32_sub _ _ (by omega) (by rw [h1]; omega), h1, ← sci_eq (rz_lt hd po (p + 1)) _ p ha gr (nab (by omega))]
  rw [show cD d ct po ((p : Int) + 1) = fun i : Nat => dAt (rz d ct po (p + 1)).1 (rz d ct po (p + 1)).2.1 (i : Int) from funext cD_rz]
theorem fix_0 (d : Nat → Nat) {po : Int32} (p : Nat) (ha : Bool) (hp : po.toInt ≤ 1) : fixS d 0 po p ha = [48] ++ (pnt p ha ++ List.replicate p 48) := by
  unfold fixS
  by_cases hz : ((0 : Nat) : Int) ≤ po.toInt + p
  · have e2 : rnd d 0 po (po.toInt + p) = (d, 0, po) := by unfold rnd; rw [if_pos hz]
    rw [e2]; exact ptd_0 d _ p ha hp
  · have e2 : rnd d 0 po (po.toInt + p) = (d, 0, 1) := by unfold rnd; rw [if_neg hz, if_pos (by omega)]
    rw [e2]; exact ptd_0 d _ p ha (Int.le_refl _)
theorem cls_rz {d : Nat → Nat} {n : Nat} {pt po : Int32} {k : Nat} (hP : (0 < n ∧ pt = po) ∨ (n = 0 ∧ pt = 1)) : rnd d n pt (k : Int) = rz d n po k := by
  unfold rz
  rcases hP with ⟨h1, h2⟩ | ⟨h1, h2⟩
  · rw [if_neg (by omega), h2]
  · rw [if_pos h1, h1, h2]; unfold rnd; rw [if_pos (by omega)]
theorem decG_f {d : Nat → Nat} {n : Nat} {pt po : Int32} {k : Nat} {ha gr : Bool} (hd : ∀ i, i < n → d i < 10) (hP : (0 < n ∧ pt = po) ∨ (n = 0 ∧ pt = 1)) (h0 : n = 0 → po.toInt ≤ 1) : pcG gr (decS d n pt k ha 102) = fixS d n po k ha := by
  have e : decS d n pt k ha 102 = fixS d n pt k ha := by unfold decS fixS; rw [if_pos rfl]
  rw [e, pcG_lo (by unfold fixS; exact ptd_lo (rnd_lt hd pt _) _ _ _)]
  rcases hP with ⟨h1, h2⟩ | ⟨h1, h2⟩
  · rw [h2]
  · have := h0 h1
    subst h1
    rw [h2, fix_0 d k ha (by decide), fix_0 d k ha this]
theorem decG_e {d : Nat → Nat} {n : Nat} {pt po : Int32} {k : Nat} {ha gr : Bool} (hd : ∀ i, i < n → d i < 10) (hb : -1200 ≤ po.toInt ∧ po.toInt ≤ 310) (hP : (0 < n ∧ pt = po) ∨ (n = 0 ∧ pt = 1)) : pcG gr (decS d n pt k ha 101) = sciM (cD d n po ((k : Int) + 1)) k ha gr (xpo d n po k).toInt := by
  have e : decS d n pt k ha 101 = sciS (rnd d n pt ((k + 1 : Nat) : Int)).1 (rnd d n pt ((k + 1 : Nat) : Int)).2.1 (rnd d n pt ((k + 1 : Nat) : Int)).2.2.toInt k ha := by unfold decS; rw [if_neg (by decide), if_pos rfl]; rfl
  rw [e, cls_rz hP, sci_rz hd hb]
theorem decG_g {d : Nat → Nat} {n : Nat} {pt po : Int32} {k : Nat} {ha : Bool} (hP : (0 < n ∧ pt = po) ∨ (n = 0 ∧ pt = 1)) : decS d n pt k ha 103 = gS (rz d n po k).1 (rz d n po k).2.1 (rz d n po k).2.2.toInt k ha := by
  have e : decS d n pt k ha 103 = gS (rnd d n pt (k : Int)).1 (rnd d n pt (k : Int)).2.1 (rnd d n pt (k : Int)).2.2.toInt k ha := by unfold decS; rw [if_neg (by decide), if_neg (by decide)]
  rw [e, cls_rz hP]
theorem fzs_n (lf ze : Bool) (q : Option Nat) (n : Nat) : (ze && !lf && q.isNone) = fzs lf ze (if q = none then some n else none) ∧ ((ze && !lf && q.isNone) = true → (if q = none then some n else none) = some n) := by
  cases q with
  | none => cases lf <;> cases ze <;> exact ⟨rfl, fun h => by first | rfl | cases h⟩
  | some k => cases lf <;> cases ze <;> exact ⟨rfl, fun h => by cases h⟩
theorem fzs_s (lf ze : Bool) (n : Nat) : (ze && !lf) = fzs lf ze (some n) := by cases lf <;> cases ze <;> rfl
theorem fzs_0 (lf ze : Bool) : false = fzs lf ze none := by cases lf <;> cases ze <;> rfl
theorem pcG_f (bs : List Nat) : pcG false bs = bs := rfl
theorem wh_pcs (pl bl ha : Bool) (q : Option Nat) (v : Int64) (L : Nat) (hL : L = 100 ∨ L = 105 ∨ L = 117 ∨ L = 111 ∨ L = 120 ∨ L = 88) : ((if L = 100 ∨ L = 105 then sgn (decide (v < 0)) pl bl else []) ++ (if ha = true ∧ (L = 120 ∨ L = 88) ∧ ul v ≠ 0 then [48, L] else [])) ++ wT (if (L = 100 ∨ L = 105) ∧ v < 0 then ul (-v) else ul v) (if L = 111 then 8 else if L = 120 ∨ L = 88 then 16 else 10) (ndg (if (L = 100 ∨ L = 105) ∧ v < 0 then ul (-v) else ul v) (if L = 111 then 8 else if L = 120 ∨ L = 88 then 16 else 10) q ha) (decide (L = 88)) = pcG (grt L) (pcs pl bl ha q (sml L) v).1 ∧ (pcs pl bl ha q (sml L) v).2 = if q = none then some ((if L = 100 ∨ L = 105 then sgn (decide (v < 0)) pl bl else []) ++ (if ha = true ∧ (L = 120 ∨ L = 88) ∧ ul v ≠ 0 then [48, L] else [])).length else none := by
  have eS : ∀ L : Nat, (L = 100 ∨ L = 105) → (if (L = 100 ∨ L = 105) ∧ v < 0 then ul (-v) else ul v) = ul (if v < 0 then -v else v) := by
    intro L hL
    by_cases h : v < 0
    · rw [if_pos ⟨hL, h⟩, if_pos h]
    · rw [if_neg (fun z => h z.2), if_neg h]
  have eN : ∀ L : Nat, ¬ (L = 100 ∨ L = 105) → (if (L = 100 ∨ L = 105) ∧ v < 0 then ul (-v) else ul v) = ul v := fun L hL => if_neg (fun z => hL z.1)
  have n1 : ∀ L : Nat, ¬ (L = 120 ∨ L = 88) → (if ha = true ∧ (L = 120 ∨ L = 88) ∧ ul v ≠ 0 then [48, L] else ([] : List Nat)) = [] := fun L hL => if_neg (fun z => hL z.2.1)
  have pN : ∀ b, ¬ b = 16 → pre0x b ha (ul v) = [] := fun b hb => by unfold pre0x; rw [if_neg (fun z => hb z.1)]
  rcases hL with rfl | rfl | rfl | rfl | rfl | rfl
  · rw [eS 100 (by decide), n1 100 (by decide), if_pos (show (100 : Nat) = 100 ∨ (100 : Nat) = 105 from Or.inl rfl), List.append_nil]
    exact ⟨by rw [show decide ((100 : Nat) = 88) = false from rfl, ← pcG_wT]; rfl, rfl⟩
  · rw [eS 105 (by decide), n1 105 (by decide), if_pos (show (105 : Nat) = 100 ∨ (105 : Nat) = 105 from Or.inr rfl), List.append_nil]
    exact ⟨by rw [show decide ((105 : Nat) = 88) = false from rfl, ← pcG_wT]; rfl, rfl⟩
  · rw [eN 117 (by decide), n1 117 (by decide), if_neg (show ¬ ((117 : Nat) = 100 ∨ (117 : Nat) = 105) by decide), List.append_nil]
    have e : pcs pl bl ha q (sml 117) v = (pre0x 10 ha (ul v) ++ wl (ul v) 10 (ndg (ul v) 10 q ha), if q = none then some (pre0x 10 ha (ul v)).length else none) := rfl
    rw [e, pN 10 (by decide)]
    exact ⟨by rw [show decide ((117 : Nat) = 88) = false from rfl, ← pcG_wT]; rfl, rfl⟩
  · rw [eN 111 (by decide), n1 111 (by decide), if_neg (show ¬ ((111 : Nat) = 100 ∨ (111 : Nat) = 105) by decide), List.append_nil]
    have e : pcs pl bl ha q (sml 111) v = (pre0x 8 ha (ul v) ++ wl (ul v) 8 (ndg (ul v) 8 q ha), if q = none then some (pre0x 8 ha (ul v)).length else none) := rfl
    rw [e, pN 8 (by decide)]
    exact ⟨by rw [show decide ((111 : Nat) = 88) = false from rfl, ← pcG_wT]; rfl, rfl⟩
  · rw [eN 120 (by decide), if_neg (show ¬ ((120 : Nat) = 100 ∨ (120 : Nat) = 105) by decide), List.nil_append]
    have e : pcs pl bl ha q (sml 120) v = (pre0x 16 ha (ul v) ++ wl (ul v) 16 (ndg (ul v) 16 q ha), if q = none then some (pre0x 16 ha (ul v)).length else none) := rfl
    have e2 : (if ha = true ∧ ((120 : Nat) = 120 ∨ (120 : Nat) = 88) ∧ ul v ≠ 0 then [48, 120] else ([] : List Nat)) = pre0x 16 ha (ul v) := by
      unfold pre0x
      by_cases h : ha = true ∧ ul v ≠ 0
      · rw [if_pos ⟨h.1, Or.inl rfl, h.2⟩, if_pos ⟨rfl, h.1, h.2⟩]
      · rw [if_neg (fun z => h ⟨z.1, z.2.2⟩), if_neg (fun z => h ⟨z.2.1, z.2.2⟩)]
    rw [e, e2]
    exact ⟨by rw [show decide ((120 : Nat) = 88) = false from rfl, ← pcG_wT]; rfl, rfl⟩
  · rw [eN 88 (by decide), if_neg (show ¬ ((88 : Nat) = 100 ∨ (88 : Nat) = 105) by decide), List.nil_append]
    have e : pcs pl bl ha q (sml 88) v = (pre0x 16 ha (ul v) ++ wl (ul v) 16 (ndg (ul v) 16 q ha), if q = none then some (pre0x 16 ha (ul v)).length else none) := rfl
    have e2 : (if ha = true ∧ ((88 : Nat) = 120 ∨ (88 : Nat) = 88) ∧ ul v ≠ 0 then [48, 88] else ([] : List Nat)) = pcG true (pre0x 16 ha (ul v)) := by
      unfold pre0x
      by_cases h : ha = true ∧ ul v ≠ 0
      · rw [if_pos ⟨h.1, Or.inr rfl, h.2⟩, if_pos ⟨rfl, h.1, h.2⟩]; rfl
      · rw [if_neg (fun z => h ⟨z.1, z.2.2⟩), if_neg (fun z => h ⟨z.2.1, z.2.2⟩)]; rfl
    rw [e, e2, pcG_len]
    refine ⟨?_, rfl⟩
    show _ = pcG true (pre0x 16 ha (ul v) ++ wl (ul v) 16 (ndg (ul v) 16 q ha))
    rw [pcG_app, pcG_wT]
    rfl
theorem ul_c (v : Int64) : v.toInt32.toBitVec.toNat % 128 = ul v % 128 := by
  rw [l2i_nat]
  unfold ul
  omega
theorem isK_or {L : Nat} (h : isK L = true) : L = 100 ∨ L = 105 ∨ L = 117 ∨ L = 111 ∨ L = 120 ∨ L = 88 ∨ L = 99 ∨ L = 101 ∨ L = 69 ∨ L = 102 ∨ L = 70 ∨ L = 103 ∨ L = 71 ∨ L = 97 ∨ L = 65 ∨ L = 37 := by
  unfold isK at h
  rw [List.contains_iff_mem] at h
  simpa using h
