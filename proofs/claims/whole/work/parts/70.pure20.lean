/-! pure rows: fixed -/
theorem dAt_0 (d : Nat → Nat) (i : Int) : dAt d 0 i = 0 := by unfold dAt; rw [if_neg (by omega)]
theorem dAt_neg (d : Nat → Nat) (n : Nat) {i : Int} (h : i < 0) : dAt d n i = 0 := by unfold dAt; rw [if_neg (by omega)]
theorem mp_c (p : Nat) {g : Nat → Nat} (h : ∀ i, g i = 48) : (List.range p).map g = List.replicate p 48 := by
  rw [show g = fun _ => 48 from funext h, List.map_const', List.length_range]
theorem ptd_0 (d : Nat → Nat) (B : Int) (p : Nat) (ha : Bool) (hB : B ≤ 1) : ptd d 0 B p ha = [48] ++ (pnt p ha ++ List.replicate p 48) := by
  unfold ptd dgI dgB
  rw [show (max B 1).toNat = 1 by omega, mp_c p (fun i => by rw [dAt_0]), mp_c 1 (fun i => by rw [dAt_0])]
  rfl
def fixS (d : Nat → Nat) (ct : Nat) (po : Int32) (p : Nat) (ha : Bool) : List Nat := ptd (rnd d ct po (po.toInt + p)).1 (rnd d ct po (po.toInt + p)).2.1 (rnd d ct po (po.toInt + p)).2.2.toInt p ha
theorem dgI_pos (d : Nat → Nat) (n : Nat) {B : Int} (h : 0 < B) : dgI d n B = (List.range B.toNat).map (fun i : Nat => 48 + dAt d n (i : Int)) := by
  unfold dgI
  rw [show max B 1 = B by omega, show min 0 (B - 1) = 0 by omega]
  refine List.map_congr_left (fun i _ => ?_)
  rw [Int.add_zero]
theorem dgI_neg (d : Nat → Nat) (n : Nat) {B : Int} (h : B ≤ 0) : dgI d n B = [48] := by
  unfold dgI
  rw [show (max B 1).toNat = 1 by omega]
  show [48 + dAt d n (((0 : Nat) : Int) + min 0 (B - 1))] = [48]
  rw [dAt_neg d n (by omega)]
/-- what the model's fixed puts, and the class's -/
theorem fix_lo (d : Nat → Nat) (ct : Nat) (po : Int32) (p : Nat) (ha : Bool) (h : po.toInt + p < 0) : ptd d 0 (-(p : Int)) p ha = fixS d ct po p ha := by
  have e : rnd d ct po (po.toInt + p) = (d, 0, 1) := by unfold rnd; rw [if_neg (by omega), if_pos h]
  unfold fixS
  rw [e]
  show _ = ptd d 0 ((1 : Int32).toInt) p ha
  rw [show (1 : Int32).toInt = 1 from rfl, ptd_0 _ _ _ _ (by omega), ptd_0 _ _ _ _ (Int.le_refl _)]
theorem fix_hi (d : Nat → Nat) (ct : Nat) (po : Int32) (p : Nat) (ha : Bool) (h : 0 ≤ po.toInt + p) (hb : -2000 ≤ po.toInt ∧ po.toInt ≤ 1000) : ptd (rnd d ct po (po.toInt + p)).1 (rnd d ct po (po.toInt + p)).2.1 (if cutM d ct (po.toInt + p) then po.toInt + 1 else po.toInt) p ha = fixS d ct po p ha := by
  have h1 : (1 : Int32).toInt = 1 := rfl
  have e1 : (po + 1).toInt = po.toInt + 1 := by rw [i32_add _ _ (by omega) (by rw [h1]; omega), h1]
  unfold fixS
  by_cases hc : (ct : Int) ≤ po.toInt + p
  · have em : cutM d ct (po.toInt + p) = false := by unfold cutM; exact decide_eq_false (fun q => by omega)
    rw [em]
    have e : rnd d ct po (po.toInt + p) = (d, ct, po) := by unfold rnd; rw [if_pos hc]
    rw [e]
    rfl
  · by_cases hu : ups d ct (po.toInt + p).toNat = true
    · have e : rnd d ct po (po.toInt + p) = ((inc d (po.toInt + p).toNat).1, (inc d (po.toInt + p).toNat).2.1, if (inc d (po.toInt + p).toNat).2.2 then po + 1 else po) := by unfold rnd; rw [if_neg hc, if_neg (by omega), if_pos hu]
      rw [e]
      show ptd (inc d (po.toInt + p).toNat).1 (inc d (po.toInt + p).toNat).2.1 _ p ha = ptd _ _ (if (inc d (po.toInt + p).toNat).2.2 then po + 1 else po).toInt p ha
      congr 1
      unfold inc
      by_cases h9 : ln9 d (po.toInt + p).toNat = 0
      · rw [if_pos h9, show cutM d ct (po.toInt + p) = true by unfold cutM; exact decide_eq_true ⟨h, by omega, hu, h9⟩]
        show po.toInt + 1 = (po + 1).toInt
        rw [e1]
      · rw [if_neg h9, show cutM d ct (po.toInt + p) = false by unfold cutM; exact decide_eq_false (fun q => h9 q.2.2.2)]
        rfl
    · have em : cutM d ct (po.toInt + p) = false := by unfold cutM; exact decide_eq_false (fun q => hu q.2.2.1)
      rw [em]
      by_cases hz : po.toInt + (p : Int) = 0
      · have e : rnd d ct po (po.toInt + p) = (d, 0, 1) := by unfold rnd; rw [if_neg hc, if_neg (by omega), if_neg hu, if_pos hz]
        rw [e]
        show ptd d 0 po.toInt p ha = ptd d 0 ((1 : Int32).toInt) p ha
        rw [h1, ptd_0 _ _ _ _ (by omega), ptd_0 _ _ _ _ (Int.le_refl _)]
      · have e : rnd d ct po (po.toInt + p) = (d, (po.toInt + p).toNat, po) := by unfold rnd; rw [if_neg hc, if_neg (by omega), if_neg hu, if_neg hz]
        rw [e]
        rfl
theorem inc_lt {d : Nat → Nat} {ct k : Nat} (hd : ∀ i, i < ct → d i < 10) (hk : k < ct) (i : Int) : dAt (inc d k).1 (inc d k).2.1 i < 10 := by
  unfold dAt
  split
  · rename_i h
    have h9 := ln9_le d k
    revert h
    unfold inc
    split
    · intro h
      have : i.toNat = 0 := by have : i < ((1 : Nat) : Int) := h.2; omega
      show upN d 0 1 i.toNat < 10
      rw [this]; exact (by decide : 1 < 10)
    · rename_i h0
      intro h
      have hl : i < ((ln9 d k : Nat) : Int) := h.2
      have ha := ln9_at d k (by omega)
      show upN d (ln9 d k - 1) (d (ln9 d k - 1) + 1) i.toNat < 10
      unfold upN
      split
      · omega
      · exact hd _ (by omega)
  · decide
theorem rnd_lt {d : Nat → Nat} {ct : Nat} (hd : ∀ i, i < ct → d i < 10) (po : Int32) (z : Int) (i : Int) : dAt (rnd d ct po z).1 (rnd d ct po z).2.1 i < 10 := by
  unfold rnd
  have base : ∀ n, n ≤ ct → dAt d n i < 10 := by
    intro n hn
    unfold dAt
    split
    · exact hd _ (by omega)
    · decide
  split
  · exact base ct (Nat.le_refl _)
  split
  · exact base 0 (Nat.zero_le _)
  split
  · exact inc_lt hd (by omega) i
  split
  · exact base 0 (Nat.zero_le _)
  · exact base _ (by show z.toNat ≤ ct; omega)
