/-! pure rows: the model's field -/
def padS (lf zs : Bool) (w : Nat) (F B : List Nat) : List Nat := (if !lf && !zs then List.replicate (w - (F.length + B.length)) 32 else []) ++ (F ++ ((if !lf && zs then List.replicate (w - (F.length + B.length)) 48 else []) ++ (B ++ (if lf then List.replicate (w - (F.length + B.length)) 32 else []))))
theorem mi_at {f : Nat → Int32} {bs : List Nat} (h : mi_is f bs) {i : Nat} (hi : i < bs.length) : f i = nI (bs.getD i 0) := (h i hi).1
theorem mi_lt {f : Nat → Int32} {bs : List Nat} (h : mi_is f bs) {i : Nat} (hi : i < bs.length) : bs.getD i 0 < 256 := (h i hi).2
theorem rp_at {g c i : Nat} (h : i < g) : (List.replicate g c).getD i 0 = c := by
  rw [List.getD_eq_getElem?_getD, List.getElem?_replicate, if_pos h]; rfl
/-- the field of the class and the model's -/
theorem pad_fld (lf ze zs : Bool) (w : Nat) (F B : List Nat) (z : Option Nat) (h1 : zs = fzs lf ze z) (h2 : zs = true → z = some F.length) : padS lf zs w F B = fld lf ze w (F ++ B) z := by
  have e1 : (F ++ B).take F.length = F := by rw [List.take_append_of_le_length (Nat.le_refl _), List.take_length]
  have e2 : (F ++ B).drop F.length = B := by rw [List.drop_append_of_le_length (Nat.le_refl _), List.drop_length]; rfl
  unfold padS fld
  rw [← h1, List.length_append]
  generalize w - (F.length + B.length) = g
  cases lf with
  | true =>
    have hz : zs = false := by rw [h1]; unfold fzs; simp
    subst hz
    rw [show fpl true false z (F.length + B.length) = F.length + B.length from rfl]
    rw [List.take_of_length_le (by rw [List.length_append]; exact Nat.le_refl _), List.drop_of_length_le (by rw [List.length_append]; exact Nat.le_refl _)]
    simp
  | false =>
    cases zs with
    | true =>
      rw [h2 rfl, show fpl false true (some F.length) (F.length + B.length) = F.length from rfl, e1, e2]
      simp
    | false =>
      rw [show fpl false false z (F.length + B.length) = 0 from rfl, List.take_zero, List.drop_zero]
      simp
