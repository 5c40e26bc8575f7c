/-! pure rows: g, both sides -/
theorem gd_l {A B : List Nat} {i : Nat} (h : i < A.length) : (A ++ B).getD i 0 = A.getD i 0 := by
  rw [List.getD_eq_getElem?_getD, List.getElem?_append_left h, ← List.getD_eq_getElem?_getD]
theorem gd_r (A B : List Nat) (i : Nat) : (A ++ B).getD (A.length + i) 0 = B.getD i 0 := by
  rw [List.getD_eq_getElem?_getD, List.getElem?_append_right (Nat.le_add_right _ _), Nat.add_sub_cancel_left, ← List.getD_eq_getElem?_getD]
theorem gd_m {A : List Nat} {i : Nat} (h : i < A.length) : A.getD i 0 ∈ A := by
  rw [List.getD_eq_getElem?_getD, List.getElem?_eq_getElem h]; exact List.getElem_mem h
theorem rg_at (f : Nat → Nat) {b j : Nat} (h : j < b) : ((List.range b).map f).getD j 0 = f j := by
  rw [List.getD_eq_getElem?_getD, List.getElem?_map, List.getElem?_range h]; rfl
theorem mi_pre {f : Nat → Int32} {A B : List Nat} (h : mi_is f (A ++ B)) : mi_is f A := fun i hi => by
  have := h i (by rw [List.length_append]; omega)
  rw [gd_l hi] at this; exact this
theorem mi_suf {f : Nat → Int32} {A B : List Nat} (h : mi_is f (A ++ B)) : ∀ i, i < B.length → f (A.length + i) = nI (B.getD i 0) ∧ B.getD i 0 < 256 := fun i hi => by
  have := h (A.length + i) (by rw [List.length_append]; omega)
  rw [gd_r] at this; exact this
theorem nN_dn {s0 : Nat} {e : Int} (h : 0 < s0) (hs : s0 < 2 ^ 53) (h1 : -1074 ≤ e) (h2 : e ≤ 971) : -324 ≤ (nN s0 e : Int) + min e 0 := by
  obtain ⟨g1, -, g2⟩ := nN_is h hs h1 h2
  generalize nN s0 e = n at g1 g2
  by_cases he : e ≤ 0
  · have a1 : 5 ^ (-e).toNat ≤ tgt s0 e := by
      rw [tgt_eq, show e.toNat = 0 by omega, Nat.pow_zero, Nat.mul_one]
      exact Nat.le_mul_of_pos_left _ h
    generalize hk : (-e).toNat = k at a1
    have hk2 : k ≤ 1074 := by omega
    have a2 : 10 ^ k < 10 ^ (n + 324) := by
      have b1 : (2 : Nat) ^ k ≤ 2 ^ 1074 := Nat.pow_le_pow_right (by decide) hk2
      have b2 : (2 : Nat) ^ 1074 ≤ 10 ^ 324 := by decide +kernel
      have b3 : (10 : Nat) ^ k = 5 ^ k * 2 ^ k := by rw [← Nat.mul_pow]
      rw [b3, Nat.pow_add]
      exact Nat.lt_of_le_of_lt (Nat.mul_le_mul_left _ (Nat.le_trans b1 b2)) (Nat.mul_lt_mul_of_pos_right (Nat.lt_of_le_of_lt a1 g2) (Nat.pow_pos (by decide)))
    have a3 := pow_lt_of a2
    omega
  · omega
theorem po1 {po : Int32} (h : -2000 ≤ po.toInt ∧ po.toInt ≤ 1000) : (po + 1).toInt = po.toInt + 1 := by
  have h1 : (1 : Int32).toInt = 1 := rfl
  rw [i32_add _ _ (by omega) (by rw [h1]; omega), h1]
theorem gfix {d : Nat → Nat} {ct : Nat} {po : Int32} {k : Nat} (hk : 0 < k) (hb : -2000 ≤ po.toInt ∧ po.toInt ≤ 1000) : rnd d ct po (po.toInt + ((k : Int) - (rnd d ct po (k : Int)).2.2.toInt)) = rnd d ct po (k : Int) := by
  have e1 := po1 hb
  by_cases h1 : (ct : Int) ≤ (k : Int)
  · have e : rnd d ct po (k : Int) = (d, ct, po) := by unfold rnd; rw [if_pos h1]
    rw [e]
    show rnd d ct po (po.toInt + ((k : Int) - po.toInt)) = _
    rw [show po.toInt + ((k : Int) - po.toInt) = (k : Int) by omega]; exact e
  · by_cases hu : ups d ct k = true
    · have e0 : rnd d ct po (k : Int) = ((inc d k).1, (inc d k).2.1, if (inc d k).2.2 then po + 1 else po) := by unfold rnd; rw [if_neg h1, if_neg (show ¬ (k : Int) < 0 by omega), if_pos (show ups d ct ((k : Int)).toNat = true from hu)]; rfl
      by_cases h9 : ln9 d k = 0
      · have e2 : inc d k = (upN d 0 1, 1, true) := by unfold inc; rw [if_pos h9]
        have e : rnd d ct po (k : Int) = (upN d 0 1, 1, po + 1) := by rw [e0, e2]; rfl
        rw [e]
        show rnd d ct po (po.toInt + ((k : Int) - (po + 1).toInt)) = _
        obtain ⟨j, rfl⟩ : ∃ j, k = j + 1 := ⟨k - 1, by omega⟩
        rw [ln9_s] at h9
        have h8 : ¬ d j < 9 := fun q => by rw [if_pos q] at h9; omega
        rw [if_neg h8] at h9
        have hu2 : ups d ct j = true := by
          unfold ups; rw [if_neg (fun q => by omega)]; exact decide_eq_true (by omega)
        rw [e1, show po.toInt + (((j + 1 : Nat) : Int) - (po.toInt + 1)) = ((j : Nat) : Int) by omega]
        have e3 : inc d j = (upN d 0 1, 1, true) := by unfold inc; rw [if_pos h9]
        unfold rnd
        rw [if_neg (show ¬ (ct : Int) ≤ (j : Int) by omega), if_neg (show ¬ (j : Int) < 0 by omega), if_pos (show ups d ct ((j : Int)).toNat = true from hu2)]
        show ((inc d j).1, (inc d j).2.1, if (inc d j).2.2 then po + 1 else po) = _
        rw [e3]; rfl
      · have e2 : (inc d k).2.2 = false := by unfold inc; rw [if_neg h9]
        rw [e2] at e0
        have e4 : (rnd d ct po (k : Int)).2.2 = po := by rw [e0]; rfl
        rw [e4, show po.toInt + ((k : Int) - po.toInt) = (k : Int) by omega]
    · have e : rnd d ct po (k : Int) = (d, k, po) := by unfold rnd; rw [if_neg h1, if_neg (show ¬ (k : Int) < 0 by omega), if_neg (show ¬ ups d ct ((k : Int)).toNat = true from hu), if_neg (show ¬ (k : Int) = 0 by omega)]; rfl
      have e4 : (rnd d ct po (k : Int)).2.2 = po := by rw [e]
      rw [e4, show po.toInt + ((k : Int) - po.toInt) = (k : Int) by omega]
theorem rnd_N {d : Nat → Nat} {ct : Nat} {po : Int32} {k : Nat} (hk : 0 < k) : (rnd d ct po (k : Int)).2.1 ≤ k := by
  unfold rnd
  split
  · show ct ≤ k; omega
  split
  · exact Nat.zero_le _
  split
  · show (inc d k).2.1 ≤ k
    have := ln9_le d k
    unfold inc
    split
    · exact hk
    · exact this
  split
  · exact Nat.zero_le _
  · exact Nat.le_refl _
theorem lnz_at (d : Nat → Nat) : ∀ k, 0 < lnz d k → d (lnz d k - 1) ≠ 0
  | 0, h => absurd h (Nat.lt_irrefl 0)
  | k + 1, h => by
    rw [lnz_s] at h ⊢
    split
    · rename_i h0; rw [if_pos h0] at h; exact lnz_at d k h
    · rename_i h0; exact h0
theorem lnz_nf {d : Nat → Nat} {n : Nat} {z : Int} {b : Nat} (hb : nf d n z ≤ b) : lnz (fun i : Nat => dAt d n (z + (i : Int))) b = min b (nf d n z) := by
  have hL := lnz_le d n
  have zer : ∀ k, nf d n z ≤ k → dAt d n (z + (k : Int)) = 0 := by
    intro k hk
    have h0 := (lnz_iff d (lnz d n) n).mp (Nat.le_refl _)
    unfold dAt
    split
    · rename_i hi
      refine h0 _ ?_ (by omega)
      unfold nf at hk
      split at hk
      · omega
      · omega
    · rfl
  rw [Nat.min_eq_right hb]
  apply Nat.le_antisymm
  · rw [lnz_iff]; exact fun k h1 _ => zer k h1
  · rcases Nat.lt_or_ge (lnz (fun i : Nat => dAt d n (z + (i : Int))) b) (nf d n z) with q | q
    · exfalso
      have h1 := (lnz_iff (fun i : Nat => dAt d n (z + (i : Int))) _ b).mp (Nat.le_refl _) (nf d n z - 1) (by omega) (by omega)
      have h2 : ¬ (lnz d n = 0 ∨ (lnz d n : Int) ≤ z) := fun w => by
        have : nf d n z = 0 := by unfold nf; rw [if_pos w]
        omega
      have h3 : nf d n z = ((lnz d n : Int) - z).toNat := by unfold nf; rw [if_neg h2]
      have h4 : z + ((nf d n z - 1 : Nat) : Int) = ((lnz d n - 1 : Nat) : Int) := by omega
      have h5 : dAt d n (z + ((nf d n z - 1 : Nat) : Int)) = 0 := h1
      rw [h4, dAt_n, if_pos (by omega)] at h5
      exact lnz_at d n (by omega) h5
    · exact q
theorem nf_b {d : Nat → Nat} {n : Nat} {z : Int} {k : Nat} (h : n ≤ k) : nf d n z ≤ ((k : Int) - z).toNat := by
  have := lnz_le d n
  unfold nf
  split <;> omega
/-- digits rounded to k, the point of nothing being 1 -/
def rz (d : Nat → Nat) (ct : Nat) (po : Int32) (k : Nat) : (Nat → Nat) × Nat × Int32 := if ct = 0 then (d, 0, 1) else rnd d ct po (k : Int)
theorem rz_N {d : Nat → Nat} {ct : Nat} {po : Int32} {k : Nat} (hk : 0 < k) : (rz d ct po k).2.1 ≤ k := by
  unfold rz
  split
  · exact Nat.zero_le _
  · exact rnd_N hk
theorem rz_lt {d : Nat → Nat} {ct : Nat} (hd : ∀ i, i < ct → d i < 10) (po : Int32) (k : Nat) (i : Int) : dAt (rz d ct po k).1 (rz d ct po k).2.1 i < 10 := by
  unfold rz
  split
  · show dAt d 0 i < 10; rw [dAt_0]; decide
  · exact rnd_lt hd po _ i
theorem xpo_rz {d : Nat → Nat} {ct : Nat} {po : Int32} {k : Nat} (hk : 0 < k) : xpo d ct po (k - 1) = (rz d ct po k).2.2 - 1 := by
  unfold rz
  by_cases h : ct = 0
  · rw [if_pos h]; unfold xpo; rw [if_pos h]; show (0 : Int32) = (1 : Int32) - 1; decide
  · rw [if_neg h, xpo_eq (by omega), show ((k - 1 : Nat) : Int) + 1 = (k : Int) by omega]
theorem rz_b {d : Nat → Nat} {ct : Nat} {po : Int32} {k : Nat} (hb : -1200 ≤ po.toInt ∧ po.toInt ≤ 310) : -1200 ≤ (rz d ct po k).2.2.toInt ∧ (rz d ct po k).2.2.toInt ≤ 311 := by
  unfold rz
  split
  · show -1200 ≤ (1 : Int32).toInt ∧ (1 : Int32).toInt ≤ 311
    rw [show (1 : Int32).toInt = 1 from rfl]; omega
  · exact rnd_ptb d ct po _ (-1200) hb.1 hb.2 (by decide) (by decide)
theorem fix_rz {d : Nat → Nat} {ct : Nat} {po : Int32} {k b : Nat} {ha : Bool} (hk : 0 < k) (hb : -2000 ≤ po.toInt ∧ po.toInt ≤ 1000) (h0 : ct = 0 → po.toInt ≤ 1) (hB : (b : Int) = (k : Int) - (rz d ct po k).2.2.toInt) : fixS d ct po b ha = ptd (rz d ct po k).1 (rz d ct po k).2.1 (rz d ct po k).2.2.toInt b ha := by
  unfold fixS
  by_cases h : ct = 0
  · have e : rz d ct po k = (d, 0, 1) := by unfold rz; rw [if_pos h]
    have hp := h0 h
    rw [e]
    show _ = ptd d 0 ((1 : Int32).toInt) b ha
    rw [show (1 : Int32).toInt = 1 from rfl, ptd_0 d 1 b ha (Int.le_refl _)]
    subst h
    by_cases hz : ((0 : Nat) : Int) ≤ po.toInt + b
    · have e2 : rnd d 0 po (po.toInt + b) = (d, 0, po) := by unfold rnd; rw [if_pos hz]
      rw [e2]; exact ptd_0 d _ b ha hp
    · have e2 : rnd d 0 po (po.toInt + b) = (d, 0, 1) := by unfold rnd; rw [if_neg hz, if_pos (by omega)]
      rw [e2]; exact ptd_0 d _ b ha (Int.le_refl _)
  · have e : rz d ct po k = rnd d ct po (k : Int) := by unfold rz; rw [if_neg h]
    rw [e] at hB ⊢
    have := gfix (d := d) (ct := ct) (po := po) hk hb
    rw [← hB] at this
    rw [this]
theorem pcG_sci {d : Nat → Nat} {n : Nat} (hd : ∀ i, dAt d n i < 10) (pt : Int) (p : Nat) (ha gr : Bool) (hb : (pt - 1).natAbs < 10000) : pcG gr (sciS d n pt p ha) = ptd d n 1 p ha ++ ([if gr then 69 else 101] ++ expo (pt - 1) true) := by
  unfold sciS
  rw [pcG_app, pcG_lo (ptd_lo hd 1 p ha), show (101 :: expo (pt - 1) true) = [101] ++ expo (pt - 1) true from rfl, pcG_app, pcG_lo (expo_lo (pt - 1) true hb), show pcG gr [101] = [if gr then 69 else 101] by cases gr <;> rfl]
theorem ptd_ds {d : Nat → Nat} {n : Nat} (hd : ∀ i, dAt d n i < 10) (pt : Int) : ∀ x ∈ dgI d n pt, 48 ≤ x ∧ x ≤ 57 := by
  intro x hx
  unfold dgI at hx
  rw [List.mem_map] at hx
  obtain ⟨i, -, h1⟩ := hx
  have := hd ((i : Int) + min 0 (pt - 1)); omega
theorem ptd_57 {d : Nat → Nat} {n : Nat} (hd : ∀ i, dAt d n i < 10) (pt : Int) (b : Nat) (ha : Bool) : ∀ x ∈ ptd d n pt b ha, x ≤ 57 := by
  intro x hx
  unfold ptd dgB at hx
  rw [List.mem_append, List.mem_append, List.mem_map] at hx
  rcases hx with h1 | h1 | ⟨i, -, h1⟩
  · exact (ptd_ds hd pt x h1).2
  · unfold pnt at h1
    split at h1
    · rw [List.mem_singleton] at h1; omega
    · exact absurd h1 List.not_mem_nil
  · have := hd (pt + (i : Int)); omega
theorem pnt_f0 : pnt 0 false = [] := rfl
theorem pnt_f1 (b : Nat) : pnt (b + 1) false = [46] := by unfold pnt; rw [if_pos (Or.inl (Nat.succ_pos b))]
