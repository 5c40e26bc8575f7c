/-! pure rows: the exponent, both sides -/
theorem xpo_eq {d : Nat → Nat} {ct : Nat} {po : Int32} {p : Nat} (hct : 0 < ct) : xpo d ct po p = (rnd d ct po ((p : Int) + 1)).2.2 - 1 := by
  unfold xpo
  rw [if_neg (by omega)]
  congr 1
  unfold rnd
  by_cases h1 : (ct : Int) ≤ (p : Int) + 1
  · rw [if_pos h1, show cutM d ct ((p : Int) + 1) = false by unfold cutM; exact decide_eq_false (fun q => by omega)]
    rfl
  · rw [if_neg h1, if_neg (show ¬ (p : Int) + 1 < 0 by omega)]
    by_cases hu : ups d ct ((p : Int) + 1).toNat = true
    · rw [if_pos hu]
      show _ = if (inc d ((p : Int) + 1).toNat).2.2 then po + 1 else po
      unfold inc
      by_cases h9 : ln9 d ((p : Int) + 1).toNat = 0
      · rw [if_pos h9, show cutM d ct ((p : Int) + 1) = true by unfold cutM; exact decide_eq_true ⟨by omega, by omega, hu, h9⟩]
      · rw [if_neg h9, show cutM d ct ((p : Int) + 1) = false by unfold cutM; exact decide_eq_false (fun q => h9 q.2.2.2)]
    · rw [if_neg hu, if_neg (show ¬ (p : Int) + 1 = 0 by omega), show cutM d ct ((p : Int) + 1) = false by unfold cutM; exact decide_eq_false (fun q => hu q.2.2.1)]
      rfl
