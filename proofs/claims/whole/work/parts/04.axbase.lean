/-! THE ABSTRACT LAYER, 1: cells by number; pictures of the heap as lists (number, cell); 'ad' says where a number lies -/
abbrev ax_E : Type := (Nat × vp_A) ⊕ (Nat × List Value)
abbrev ax_H : Type := List (Nat × ax_E)
def ax_v (ad : Nat → Nat) (v : Value) : Value := match v with
  | .ref i => .ref (ad i)
  | .int x => .int x
  | .long x => .long x
  | .float x => .float x
  | .double x => .double x
  | .null => .null
  | .retAddr x => .retAddr x
theorem ax_vc (ad : Nat → Nat) (v : Value) : (ax_v ad v).category = v.category := by cases v <;> rfl
def ax_e (cid : Nat → ClassId) (ad : Nat → Nat) (e : ax_E) : va_E := match e with
  | .inl a => .inl (cid a.1, a.2)
  | .inr o => .inr (o.1, o.2.map (ax_v ad))
def ax_w (cid : Nat → ClassId) (ad : Nat → Nat) (h : ax_H) : va_W := h.map (fun q => (ad q.1, ax_e cid ad q.2))
def ax_l (ad : Nat → Nat) (lv : List (Nat × Value)) : List (Nat × Value) := lv.map (fun q => (q.1, ax_v ad q.2))
def ax_tys (cid : Nat → ClassId) : List (ClassId × FieldType) := [(cid 0, .int), (cid 1, .byte), (cid 2, .long)]
theorem ax_tyAt (cid : Nat → ClassId) {t : Nat} (ht : t < 3) : ∃ ty, (ax_tys cid)[t]? = some (cid t, ty) := by
  rcases (show t = 0 ∨ t = 1 ∨ t = 2 by omega) with rfl | rfl | rfl
  · exact ⟨_, rfl⟩
  · exact ⟨_, rfl⟩
  · exact ⟨_, rfl⟩
/-- the place and the cell of a number -/
def ax_f (k : Nat) : ax_H → Option (Nat × ax_E)
  | [] => none
  | q :: h => cond (Nat.beq q.1 k) (some (0, q.2)) ((ax_f k h).map (fun r => (r.1 + 1, r.2)))
theorem ax_f_spec {k i : Nat} {e : ax_E} : ∀ {h : ax_H}, ax_f k h = some (i, e) → h[i]? = some (k, e)
  | [], hh => by simp [ax_f] at hh
  | q :: h, hh => by
    unfold ax_f at hh
    cases hb : Nat.beq q.1 k with
    | true =>
      rw [hb] at hh
      simp only [cond_true, Option.some.injEq, Prod.mk.injEq] at hh
      obtain ⟨rfl, rfl⟩ := hh
      have : q.1 = k := Nat.eq_of_beq_eq_true hb
      subst this
      rfl
    | false =>
      rw [hb] at hh
      simp only [cond_false] at hh
      cases hf : ax_f k h with
      | none => rw [hf] at hh; simp at hh
      | some r =>
        rw [hf] at hh
        simp only [Option.map_some, Option.some.injEq, Prod.mk.injEq] at hh
        obtain ⟨rfl, rfl⟩ := hh
        rw [List.getElem?_cons_succ]
        exact ax_f_spec hf
/-- a local -/
def ax_q (i : Nat) : List (Nat × Value) → Option Value
  | [] => none
  | q :: r => cond (Nat.beq q.1 i) (some q.2) (ax_q i r)
theorem ax_q_mem {i : Nat} {v : Value} : ∀ {lv : List (Nat × Value)}, ax_q i lv = some v → (i, v) ∈ lv
  | [], hh => by simp [ax_q] at hh
  | q :: r, hh => by
    unfold ax_q at hh
    cases hb : Nat.beq q.1 i with
    | true =>
      rw [hb] at hh
      simp only [cond_true, Option.some.injEq] at hh
      have : q.1 = i := Nat.eq_of_beq_eq_true hb
      subst this
      subst hh
      exact List.mem_cons_self
    | false =>
      rw [hb] at hh
      simp only [cond_false] at hh
      exact List.mem_cons_of_mem _ (ax_q_mem hh)
theorem ax_lget {ls : Array Slot} {nL i : Nat} {ad : Nat → Nat} {lv : List (Nat × Value)} {v : Value} (hl : lv_has ls nL (ax_l ad lv)) (hv : ax_q i lv = some v) : ls[i]? = some (.val (ax_v ad v)) :=
  hl.2.2 (i, ax_v ad v) (List.mem_map.mpr ⟨(i, v), ax_q_mem hv, rfl⟩)
theorem ax_lix {i : Nat} {ad : Nat → Nat} {lv : List (Nat × Value)} {v : Value} (hv : ax_q i lv = some v) : ∃ j : Nat, (ax_l ad lv)[j]? = some (i, ax_v ad v) :=
  List.getElem?_of_mem (List.mem_map.mpr ⟨(i, v), ax_q_mem hv, rfl⟩)
def ax_ins (i : Nat) (v : Value) : List (Nat × Value) → List (Nat × Value)
  | [] => [(i, v)]
  | q :: r => cond (Nat.ble i q.1) ((i, v) :: q :: r) (q :: ax_ins i v r)
theorem ax_ins_mem {i : Nat} {v : Value} {x : Nat × Value} : ∀ {l : List (Nat × Value)}, x ∈ ax_ins i v l → x = (i, v) ∨ x ∈ l
  | [], hx => by
    left
    simpa [ax_ins] using hx
  | q :: r, hx => by
    unfold ax_ins at hx
    cases hb : Nat.ble i q.1 with
    | true =>
      rw [hb] at hx
      simp only [cond_true] at hx
      rcases List.mem_cons.mp hx with h | h
      · exact Or.inl h
      · exact Or.inr h
    | false =>
      rw [hb] at hx
      simp only [cond_false] at hx
      rcases List.mem_cons.mp hx with h | h
      · exact Or.inr (by rw [h]; exact List.mem_cons_self)
      · rcases ax_ins_mem h with h | h
        · exact Or.inl h
        · exact Or.inr (List.mem_cons_of_mem _ h)
def ax_s1 (i : Nat) (v : Value) (lv : List (Nat × Value)) : List (Nat × Value) := ax_ins i v (lv.filter (fun q => !(q.1 == i) && !(q.1 + 1 == i && q.2.category == 2)))
def ax_s2 (i : Nat) (v : Value) (lv : List (Nat × Value)) : List (Nat × Value) := ax_ins i v (lv.filter (fun q => !(q.1 == i) && (!(q.1 == i + 1) && !(q.1 + 1 == i && q.2.category == 2))))
theorem ax_lput1 {ls : Array Slot} {nL i : Nat} {ad : Nat → Nat} {lv : List (Nat × Value)} {v : Value} (hl : lv_has ls nL ((i, ax_v ad v) :: (ax_l ad lv).filter (fun q => !(q.1 == i) && !(q.1 + 1 == i && q.2.category == 2)))) : lv_has ls nL (ax_l ad (ax_s1 i v lv)) := by
  refine ⟨hl.1, hl.2.1, fun q hq => hl.2.2 q ?_⟩
  obtain ⟨q0, h0, rfl⟩ := List.mem_map.mp hq
  rcases ax_ins_mem h0 with h | h
  · rw [h]; exact List.mem_cons_self
  · obtain ⟨h1, h2⟩ := List.mem_filter.mp h
    refine List.mem_cons_of_mem _ (List.mem_filter.mpr ⟨List.mem_map.mpr ⟨q0, h1, rfl⟩, ?_⟩)
    simp only [ax_vc]
    exact h2
theorem ax_lput2 {ls : Array Slot} {nL i : Nat} {ad : Nat → Nat} {lv : List (Nat × Value)} {v : Value} (hl : lv_has ls nL ((i, ax_v ad v) :: (ax_l ad lv).filter (fun q => !(q.1 == i) && (!(q.1 == i + 1) && !(q.1 + 1 == i && q.2.category == 2))))) : lv_has ls nL (ax_l ad (ax_s2 i v lv)) := by
  refine ⟨hl.1, hl.2.1, fun q hq => hl.2.2 q ?_⟩
  obtain ⟨q0, h0, rfl⟩ := List.mem_map.mp hq
  rcases ax_ins_mem h0 with h | h
  · rw [h]; exact List.mem_cons_self
  · obtain ⟨h1, h2⟩ := List.mem_filter.mp h
    refine List.mem_cons_of_mem _ (List.mem_filter.mpr ⟨List.mem_map.mpr ⟨q0, h1, rfl⟩, ?_⟩)
    simp only [ax_vc]
    exact h2
theorem ax_wget {cid : Nat → ClassId} {ad : Nat → Nat} {h : ax_H} {i k : Nat} {e : ax_E} (hh : h[i]? = some (k, e)) : (ax_w cid ad h)[i]? = some (ad k, ax_e cid ad e) := by
  unfold ax_w
  rw [List.getElem?_map, hh]
  rfl
theorem ax_wset_eq (cid : Nat → ClassId) (ad : Nat → Nat) (h : ax_H) (i a : Nat) (e : ax_E) : ax_w cid ad (h.set i (a, e)) = (ax_w cid ad h).set i (ad a, ax_e cid ad e) := by
  unfold ax_w
  rw [List.map_set]
theorem ax_wsetP {D : va_G} {cl : List vw_C} {cid : Nat → ClassId} {ad : Nat → Nat} {h : ax_H} {i a : Nat} {e : ax_E} {H : Heap} (hP : va_P D cl ((ax_w cid ad h).set i (ad a, ax_e cid ad e)) H) : va_P D cl (ax_w cid ad (h.set i (a, e))) H := by
  rw [ax_wset_eq]; exact hP
theorem ax_wsetD {A : Nat → Prop} {cid : Nat → ClassId} {ad : Nat → Nat} {h : ax_H} {i a : Nat} {e : ax_E} (hD : va_D A ((ax_w cid ad h).set i (ad a, ax_e cid ad e))) : va_D A (ax_w cid ad (h.set i (a, e))) := by
  rw [ax_wset_eq]; exact hD
theorem ax_wsetFP {D : va_G} {cl : List vw_C} {cid : Nat → ClassId} {ad : Nat → Nat} {h : ax_H} {i a ci j : Nat} {fs : List Value} {v : Value} {H : Heap} (hP : va_P D cl ((ax_w cid ad h).set i (ad a, .inr (ci, (fs.map (ax_v ad)).set j (ax_v ad v)))) H) : va_P D cl (ax_w cid ad (h.set i (a, .inr (ci, fs.set j v)))) H := by
  rw [ax_wset_eq]
  show va_P D cl ((ax_w cid ad h).set i (ad a, .inr (ci, (fs.set j v).map (ax_v ad)))) H
  rw [List.map_set]; exact hP
theorem ax_wsetFD {A : Nat → Prop} {cid : Nat → ClassId} {ad : Nat → Nat} {h : ax_H} {i a ci j : Nat} {fs : List Value} {v : Value} (hD : va_D A ((ax_w cid ad h).set i (ad a, .inr (ci, (fs.map (ax_v ad)).set j (ax_v ad v))))) : va_D A (ax_w cid ad (h.set i (a, .inr (ci, fs.set j v)))) := by
  rw [ax_wset_eq]
  show va_D A ((ax_w cid ad h).set i (ad a, .inr (ci, (fs.set j v).map (ax_v ad))))
  rw [List.map_set]; exact hD
theorem ax_fsget {ad : Nat → Nat} {fs : List Value} {j : Nat} {v : Value} (hv : fs[j]? = some v) : (fs.map (ax_v ad))[j]? = some (ax_v ad v) := by
  rw [List.getElem?_map, hv]
  rfl
