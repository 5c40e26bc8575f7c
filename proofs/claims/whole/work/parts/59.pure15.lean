/-! the model's cells -/
abbrev pc_Mo (er le ma ou ta di wr at0 wi pr : Int32) (lf pl bl ha ze wt pt : Bool) (fr si : Int32) (zs : Bool) (ct po : Int32) : ax_H := [(20, .inr (6, [.int er, .int le, .int ma, .int ou, .int ta, .int di, .int wr, .ref 21, .ref 22, .ref 23, .int at0, .int wi, .int pr, .int (zb lf), .int (zb pl), .int (zb bl), .int (zb ha), .int (zb ze), .int (zb wt), .int (zb pt), .ref 24, .ref 25, .int fr, .int si, .int (zb zs), .ref 26, .ref 27, .ref 28, .int ct, .int po]))]
abbrev pcF (f : Nat → Int32) : ax_H := [(21, .inl (0, 400, .inl f))]
abbrev pcU (f : Nat → Int32) : ax_H := [(22, .inl (0, 4000, .inl f))]
abbrev pcA (f : Nat → Int64) : ax_H := [(23, .inl (2, 60, .inr (.inl f)))]
abbrev pcT (f : Nat → Int32) : ax_H := [(24, .inl (0, 4, .inl f))]
abbrev pcB (f : Nat → Int32) : ax_H := [(25, .inl (0, 2600, .inl f))]
abbrev pcR (f : Nat → Int32) : ax_H := [(26, .inl (0, 80, .inl f))]
abbrev pcD (f : Nat → Int32) : ax_H := [(27, .inl (0, 1200, .inl f))]
abbrev pcO (f : Nat → Int32) : ax_H := [(28, .inl (0, 1200, .inl f))]
/-- the format's letters, as the model keeps them -/
def mf_is (f : Nat → Int32) (n : Nat) (c : Nat → Nat) : Prop := ∀ i, i < n → f i = nI (c i) ∧ c i < 256
def lI (c : Nat → Nat) (n i : Nat) : Int32 := if i < n then nI (c i) else -1
theorem mlt_lt {f : Nat → Int32} {n : Nat} {c : Nat → Nat} (hf : mf_is f n c) (i : Nat) : lt c n i < 256 := by
  unfold lt
  split
  · rename_i h; exact (hf i h).2
  · decide
theorem lI_eq {c : Nat → Nat} {n i k : Nat} (hl : lt c n i < 256) (h1 : 0 < k) (h2 : k < 256) : (lI c n i = nI k) ↔ lt c n i = k := by
  unfold lI lt at *
  by_cases h : i < n
  · rw [if_pos h] at hl ⊢; rw [if_pos h]; exact nI_eq (by omega) (by omega)
  · rw [if_neg h, if_neg h]
    exact ⟨fun q => absurd q.symm (nI_m1 (by omega)), fun q => by omega⟩
theorem lI_in {c : Nat → Nat} {n i a b : Nat} (hl : lt c n i < 256) (h1 : 0 < a) (h2 : b < 256) (ha : a < 256) : decide (nI a ≤ lI c n i ∧ lI c n i ≤ nI b) = decide (a ≤ lt c n i ∧ lt c n i ≤ b) := by
  unfold lI lt at *
  by_cases h : i < n
  · rw [if_pos h] at hl ⊢
    rw [if_pos h]
    exact decide_eq_decide.mpr (and_congr (nI_leI (by omega) (by omega)) (nI_leI (by omega) (by omega)))
  · rw [if_neg h, if_neg h, decide_eq_false, decide_eq_false]
    · omega
    · intro q
      have := (i32_le _ _).mp q.1
      rw [nI_toInt (by omega), show (-1 : Int32).toInt = -1 by decide +kernel] at this
      omega
def mi_is (f : Nat → Int32) (bs : List Nat) : Prop := ∀ i, i < bs.length → f i = nI (bs.getD i 0) ∧ bs.getD i 0 < 256
theorem mi_nil (f : Nat → Int32) : mi_is f [] := fun i h => absurd h (Nat.not_lt_zero i)
theorem mi_put {f : Nat → Int32} {bs : List Nat} {c : Nat} (h : mi_is f bs) (hc : c < 256) : mi_is (upd f bs.length (nI c)) (bs ++ [c]) := by
  intro i hi
  rw [List.length_append] at hi
  by_cases q : i < bs.length
  · rw [gd_app q, pk_un (by omega)]; exact h i q
  · have e : i = bs.length := by have : ([c] : List Nat).length = 1 := rfl; omega
    subst e
    have := gd_app2 (bs := bs) (cs := [c]) (i := 0)
    rw [Nat.add_zero] at this
    rw [this, pk_us]
    exact ⟨rfl, hc⟩
