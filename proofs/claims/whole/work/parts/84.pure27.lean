/-! pure rows: e, both sides -/
theorem ptd_1 (d : Nat → Nat) (n p : Nat) (ha : Bool) : ptd d n 1 p ha = [48 + dAt d n ((0 : Nat) : Int)] ++ pnt p ha ++ (List.range p).map (fun i : Nat => 48 + dAt d n ((i + 1 : Nat) : Int)) := by
  unfold ptd dgB
  rw [dgI_pos d n (by decide), List.append_assoc]
  have e : (List.range p).map (fun i : Nat => 48 + dAt d n (1 + (i : Int))) = (List.range p).map (fun i : Nat => 48 + dAt d n ((i + 1 : Nat) : Int)) := by
    refine List.map_congr_left (fun i _ => ?_)
    rw [show (1 : Int) + (i : Int) = ((i + 1 : Nat) : Int) by omega]
  rw [e]
  rfl
theorem sci_eq {d : Nat → Nat} {n : Nat} (hd : ∀ i, dAt d n i < 10) (pt : Int) (p : Nat) (ha gr : Bool) (hb : (pt - 1).natAbs < 10000) : sciM (fun i => dAt d n (i : Int)) p ha gr (pt - 1) = pcG gr (sciS d n pt p ha) := by
  unfold sciS
  rw [pcG_app, pcG_lo (ptd_lo hd 1 p ha), show (101 :: expo (pt - 1) true) = [101] ++ expo (pt - 1) true from rfl, pcG_app, pcG_lo (expo_lo (pt - 1) true hb), ptd_1]
  unfold sciM
  rw [show pcG gr [101] = [if gr then 69 else 101] by cases gr <;> rfl]
  simp only [List.append_assoc]
