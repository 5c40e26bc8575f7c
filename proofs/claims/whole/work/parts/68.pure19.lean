/-! pure rows: cutting digits -/
theorem lnz_iff (d : Nat → Nat) (m : Nat) : ∀ c, (lnz d c ≤ m) ↔ ∀ k, m ≤ k → k < c → d k = 0
  | 0 => ⟨fun _ k _ h => absurd h (Nat.not_lt_zero k), fun _ => Nat.zero_le _⟩
  | c + 1 => by
    rw [lnz_s]
    split
    · rename_i h0
      rw [lnz_iff d m c]
      refine ⟨fun h k h1 h2 => ?_, fun h k h1 h2 => h k h1 (by omega)⟩
      by_cases hk : k = c
      · subst hk; exact h0
      · exact h k h1 (by omega)
    · rename_i h0
      refine ⟨fun h k h1 h2 => by omega, fun h => ?_⟩
      rcases Nat.lt_or_ge c m with q | q
      · exact q
      · exact absurd (h c q (by omega)) h0
def cutM (d : Nat → Nat) (ct : Nat) (z : Int) : Bool := decide (0 ≤ z ∧ z < (ct : Int) ∧ ups d ct z.toNat = true ∧ ln9 d z.toNat = 0)
def cD (d : Nat → Nat) (ct : Nat) (P : Int32) (z : Int) (i : Nat) : Nat := dAt (rnd d ct P z).1 (rnd d ct P z).2.1 (i : Int)
theorem dAt_n (d : Nat → Nat) (n i : Nat) : dAt d n (i : Int) = if i < n then d i else 0 := by
  unfold dAt
  by_cases h : i < n
  · rw [if_pos (by omega), if_pos h]; rfl
  · rw [if_neg (by omega), if_neg h]
theorem cD_ge {d : Nat → Nat} {ct : Nat} {P : Int32} {n : Nat} (h : ct ≤ n) (i : Nat) : cD d ct P (n : Int) i = dAt d ct i := by
  unfold cD rnd
  rw [if_pos (by omega)]
theorem cD_no {d : Nat → Nat} {ct : Nat} {P : Int32} {n : Nat} (h : n < ct) (hu : ¬ ups d ct n = true) (i : Nat) (hi : i < n) : cD d ct P (n : Int) i = d i := by
  unfold cD rnd
  rw [if_neg (by omega), if_neg (by omega), show ((n : Int)).toNat = n by omega, if_neg hu]
  rw [if_neg (by omega)]
  show dAt d n i = _
  rw [dAt_n, if_pos hi]
theorem cD_up {d : Nat → Nat} {ct : Nat} {P : Int32} {n : Nat} (h : n < ct) (hu : ups d ct n = true) (i : Nat) : cD d ct P (n : Int) i = dAt (inc d n).1 (inc d n).2.1 i := by
  unfold cD rnd
  rw [if_neg (by omega), if_neg (by omega), show ((n : Int)).toNat = n by omega, if_pos hu]
theorem cD_up0 {d : Nat → Nat} {ct : Nat} {P : Int32} {n : Nat} (h : n < ct) (hu : ups d ct n = true) (h9 : ln9 d n = 0) (i : Nat) : cD d ct P (n : Int) i = if i = 0 then 1 else 0 := by
  rw [cD_up h hu]
  unfold inc
  rw [if_pos h9]
  show dAt (upN d 0 1) 1 i = _
  rw [dAt_n]
  unfold upN
  by_cases q : i = 0
  · rw [if_pos (by omega), if_pos q, if_pos q]
  · rw [if_neg (by omega), if_neg q]
theorem cD_up1 {d : Nat → Nat} {ct : Nat} {P : Int32} {n : Nat} (h : n < ct) (hu : ups d ct n = true) (h9 : ¬ ln9 d n = 0) (i : Nat) : cD d ct P (n : Int) i = if i < ln9 d n then (if i = ln9 d n - 1 then d (ln9 d n - 1) + 1 else d i) else 0 := by
  rw [cD_up h hu]
  unfold inc
  rw [if_neg h9]
  show dAt (upN d (ln9 d n - 1) (d (ln9 d n - 1) + 1)) (ln9 d n) i = _
  rw [dAt_n]
  rfl
theorem cutM_no {d : Nat → Nat} {ct n : Nat} (h : ¬ (n < ct ∧ ups d ct n = true ∧ ln9 d n = 0)) : cutM d ct (n : Int) = false := by
  unfold cutM
  refine decide_eq_false (fun q => h ?_)
  rw [show ((n : Int)).toNat = n by omega] at q
  exact ⟨by omega, q.2.2⟩
theorem cutM_yes {d : Nat → Nat} {ct n : Nat} (h : n < ct) (hu : ups d ct n = true) (h9 : ln9 d n = 0) : cutM d ct (n : Int) = true := by
  unfold cutM
  refine decide_eq_true ?_
  rw [show ((n : Int)).toNat = n by omega]
  exact ⟨by omega, by omega, hu, h9⟩
