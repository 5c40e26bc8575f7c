/-! THE ABSTRACT LAYER, 3: the parts of a picture, calls, answers -/
def ax_m (h hc : ax_H) : ax_H := h.map (fun q => (q.1, ((ax_f q.1 hc).map Prod.snd).getD q.2))
def ax_sub : ax_H → ax_H → Prop
  | [], _ => True
  | q :: r, h => (ax_f q.1 h).map Prod.snd = some q.2 ∧ ax_sub r h
theorem ax_sub_at : ∀ {hc h : ax_H}, ax_sub hc h → ∀ q ∈ hc, ∃ i : Nat, h[i]? = some q
  | [], _, _, q, hq => absurd hq List.not_mem_nil
  | x :: r, h, hs, q, hq => by
    rcases List.mem_cons.mp hq with e | e
    · subst e
      cases hf : ax_f q.1 h with
      | none => have := hs.1; rw [hf] at this; simp at this
      | some w =>
        obtain ⟨i, e0⟩ := w
        have h1 := hs.1
        rw [hf] at h1
        simp only [Option.map_some, Option.some.injEq] at h1
        exact ⟨i, by rw [ax_f_spec hf, h1]⟩
    · exact ax_sub_at hs.2 q e
theorem ax_wat {cid : Nat → ClassId} {ad : Nat → Nat} {h : ax_H} {i : Nat} {x : Nat × va_E} (hx : (ax_w cid ad h)[i]? = some x) : ∃ q : Nat × ax_E, h[i]? = some q ∧ x = (ad q.1, ax_e cid ad q.2) := by
  unfold ax_w at hx
  rw [List.getElem?_map] at hx
  cases hq : h[i]? with
  | none => rw [hq] at hx; simp at hx
  | some q => rw [hq] at hx; exact ⟨q, rfl, (Option.some.inj hx).symm⟩
theorem ax_subP {D : va_G} {cid : Nat → ClassId} {ad : Nat → Nat} {h hc : ax_H} {H : Heap} (hP : va_P D ax_cl (ax_w cid ad h) H) (hs : ax_sub hc h) : va_P D ax_cl (ax_w cid ad hc) H := by
  intro k x hx
  obtain ⟨q, hq, rfl⟩ := ax_wat hx
  obtain ⟨i, hi⟩ := ax_sub_at hs q (List.mem_of_getElem? hq)
  exact hP i _ (ax_wget (k := q.1) (e := q.2) hi)
theorem ax_subD {A : Nat → Prop} {cid : Nat → ClassId} {ad : Nat → Nat} {h hc : ax_H} (hD : va_D A (ax_w cid ad h)) (hs : ax_sub hc h) (hn : va_nd (hc.map Prod.fst) = true) : va_D A (ax_w cid ad hc) := by
  refine ⟨fun i j x y hx hy hxy => ?_, fun k x hx => ?_⟩
  · obtain ⟨q, hq, rfl⟩ := ax_wat hx
    obtain ⟨r, hr, rfl⟩ := ax_wat hy
    obtain ⟨i', hi⟩ := ax_sub_at hs q (List.mem_of_getElem? hq)
    obtain ⟨j', hj⟩ := ax_sub_at hs r (List.mem_of_getElem? hr)
    have e := hD.1 i' j' _ _ (ax_wget (k := q.1) (e := q.2) hi) (ax_wget (k := r.1) (e := r.2) hj) hxy
    subst e
    have e2 : q = r := Option.some.inj (hi.symm.trans hj)
    subst e2
    exact va_nd_inj _ hn i j q.1 (by rw [List.getElem?_map, hq]; rfl) (by rw [List.getElem?_map, hr]; rfl)
  · obtain ⟨q, hq, rfl⟩ := ax_wat hx
    obtain ⟨i, hi⟩ := ax_sub_at hs q (List.mem_of_getElem? hq)
    exact hD.2 i _ (ax_wget (k := q.1) (e := q.2) hi)
theorem ax_f_none {k : Nat} : ∀ {h : ax_H}, ax_f k h = none → k ∉ h.map Prod.fst
  | [], _ => by simp
  | q :: h, hh => by
    unfold ax_f at hh
    cases hb : Nat.beq q.1 k with
    | true => rw [hb] at hh; simp at hh
    | false =>
      rw [hb] at hh
      simp only [cond_false, Option.map_eq_none_iff] at hh
      have h1 := ax_f_none hh
      intro hm
      rcases List.mem_cons.mp hm with e | e
      · have : Nat.beq q.1 k = true := by rw [← e]; exact Nat.beq_refl _
        rw [hb] at this
        cases this
      · exact h1 e
theorem ax_subA {A : Nat → Prop} {cid : Nat → ClassId} {ad : Nat → Nat} {h hc : ax_H} {H0 H : Heap} {locs : List Loc} (hD : va_D A (ax_w cid ad h)) (hS : va_S A H0 H locs) (hA : ∀ q, H0.size ≤ q → A q) (hs : ax_sub hc h) : ∀ q, va_A (ax_w cid ad hc) H.size q → A q := by
  intro q hq
  rcases hq with ⟨k, e, h1⟩ | h1
  · obtain ⟨r, hr, e1⟩ := ax_wat h1
    obtain ⟨i, hi⟩ := ax_sub_at hs r (List.mem_of_getElem? hr)
    have := hD.2 i _ (ax_wget (k := r.1) (e := r.2) hi)
    have e2 : q = ad r.1 := congrArg Prod.fst e1
    rw [e2]
    exact this
  · exact hA q (Nat.le_trans hS.1 h1)
theorem ax_mat {h hc : ax_H} {i : Nat} {q : Nat × ax_E} (hq : (ax_m h hc)[i]? = some q) : ∃ e : ax_E, h[i]? = some (q.1, e) ∧ ((∃ j : Nat, hc[j]? = some q) ∨ (q.1 ∉ hc.map Prod.fst ∧ q.2 = e)) := by
  unfold ax_m at hq
  rw [List.getElem?_map] at hq
  cases hx : h[i]? with
  | none => rw [hx] at hq; simp at hq
  | some x =>
    rw [hx] at hq
    have e1 : (x.1, ((ax_f x.1 hc).map Prod.snd).getD x.2) = q := Option.some.inj hq
    cases hf : ax_f x.1 hc with
    | none =>
      rw [hf] at e1
      have e2 : q = (x.1, x.2) := e1.symm
      subst e2
      exact ⟨x.2, rfl, Or.inr ⟨ax_f_none hf, rfl⟩⟩
    | some w =>
      obtain ⟨j, e0⟩ := w
      rw [hf] at e1
      have e2 : q = (x.1, e0) := e1.symm
      subst e2
      exact ⟨x.2, rfl, Or.inl ⟨j, ax_f_spec hf⟩⟩
theorem ax_join {A : Nat → Prop} {D : va_G} {cid : Nat → ClassId} {ad : Nat → Nat} {h hc hc' : ax_H} {H H1 : Heap} (hP : va_P D ax_cl (ax_w cid ad h) H) (hD : va_D A (ax_w cid ad h)) (hs : ax_sub hc h) (hkeys : hc'.map Prod.fst = hc.map Prod.fst)
    (hk : ∀ q : Nat, q < H.size → ¬ va_A (ax_w cid ad hc) H.size q → H1[q]? = H[q]?) (hP1 : va_P D ax_cl (ax_w cid ad hc') H1) : va_P D ax_cl (ax_w cid ad (ax_m h hc')) H1 ∧ va_D A (ax_w cid ad (ax_m h hc')) := by
  refine ⟨fun k x hx => ?_, fun i j x y hx hy hxy => ?_, fun k x hx => ?_⟩
  · obtain ⟨q, hq, rfl⟩ := ax_wat hx
    obtain ⟨e, he, hor⟩ := ax_mat hq
    rcases hor with ⟨j, hj⟩ | ⟨hne, hee⟩
    · exact hP1 j _ (ax_wget (k := q.1) (e := q.2) hj)
    · have hat := hP k _ (ax_wget (cid := cid) (ad := ad) he)
      rw [hee]
      refine va_at.kept hat (hk _ hat.lt ?_)
      rintro (⟨k2, e2, h2⟩ | h2)
      · obtain ⟨r, hr, er⟩ := ax_wat h2
        obtain ⟨i', hi'⟩ := ax_sub_at hs r (List.mem_of_getElem? hr)
        have ead : ad q.1 = ad r.1 := congrArg Prod.fst er
        have e3 := hD.1 k i' _ _ (ax_wget (cid := cid) (ad := ad) he) (ax_wget (k := r.1) (e := r.2) hi') ead
        subst e3
        have e4 : (q.1, e) = r := Option.some.inj (he.symm.trans hi')
        apply hne
        rw [hkeys]
        exact List.mem_map.mpr ⟨r, List.mem_of_getElem? hr, by rw [← e4]⟩
      · exact absurd hat.lt (Nat.not_lt.mpr h2)
  · obtain ⟨q, hq, rfl⟩ := ax_wat hx
    obtain ⟨r, hr, rfl⟩ := ax_wat hy
    obtain ⟨e1, he1, -⟩ := ax_mat hq
    obtain ⟨e2, he2, -⟩ := ax_mat hr
    exact hD.1 i j _ _ (ax_wget (cid := cid) (ad := ad) he1) (ax_wget (cid := cid) (ad := ad) he2) hxy
  · obtain ⟨q, hq, rfl⟩ := ax_wat hx
    obtain ⟨e1, he1, -⟩ := ax_mat hq
    have hz := hD.2 k _ (ax_wget (cid := cid) (ad := ad) he1)
    exact hz
section AXC
variable {p : Program} {l : Launch} {e : Env} {R : Room} {s : State} {m : MethodId} {args : Array Value} {below : List Frame} {meth : Method} {c : Code} {cells slots : Nat} {Q : State → Prop}
variable {D : va_G} {cid : Nat → ClassId} {ad : Nat → Nat} {A : Nat → Prop} {nL : Nat} {Ts : List Cond} {own : String} {cc : ByteArray}
variable {pc : Nat} {lv : List (Nat × Value)} {st : List Value} {h : ax_H}
theorem ax_pre (G : ax_G p s m args meth c Ts own cc nL D cid ad A) {hc : ax_H} {H : Heap} {locs : List Loc} (hP : va_P D ax_cl (ax_w cid ad h) H) (hD : va_D A (ax_w cid ad h)) (hS : va_S A s.heap H locs) (hs : ax_sub hc h) (hn : va_nd (hc.map Prod.fst) = true) {U : State} (hU : U.heap = H) (hW : s.WarmedH U.vm) : ax_Pre D cid ad hc H.size U := by
  obtain ⟨-, -, -, -, -, hK, hA, -, hN, -, hX⟩ := G
  refine ⟨by rw [hU], by rw [hU]; exact ax_subP hP hs, va_K.moved hW.alike hK, (ax_subD hD hs hn).weaken (fun _ _ _ _ => trivial), ax_nest_warm hW hN, ?_⟩
  rw [hU]
  exact (hX.kept hS.2.1).moved hW |>.narrow (ax_subA hD hS hA hs)
theorem ax_blind {as : List Value} {hc : ax_H} {sz : Nat} : FrameBlind (va_Pc as (ax_Pre D cid ad hc sz)) := by
  intro a U g mk q
  obtain ⟨q0, q1, qP, qK, qD, qN, qX⟩ := q
  exact ⟨q0, q1, qP, va_K.moved (u := U) (U := U.calling g mk a) (Vm.Alike.refl U.vm) qK, qD, ax_nest_same (u := U) (U := U.calling g mk a) rfl qN, qX.same (u := U) (U := U.calling g mk a) rfl⟩
theorem ax_goes (G : ax_G p s m args meth c Ts own cc nL D cid ad A) {hc : ax_H} {H : Heap} {locs : List Loc} {ls : Array Slot} {st0 : List Value} {a : Array Value} {Qa : Option Value → ax_H → Prop}
    (hP : va_P D ax_cl (ax_w cid ad h) H) (hD : va_D A (ax_w cid ad h)) (hS : va_S A s.heap H locs) (hl : lv_has ls nL (ax_l ad lv)) (hs : ax_sub hc h)
    (hr : va_Run p l e R s m args below meth c H locs cells slots 0 0 (F0 m pc ls st0) (st.map (ax_v ad)) (ax_Post D cid ad hc H.size Qa a) (va_A (ax_w cid ad hc) H.size))
    (kk : ∀ (r : Option Value) (hc' : ax_H), Qa r hc' → hc'.map Prod.fst = hc.map Prod.fst → ax_V p l e R s m args below meth c D cid ad A nL cells slots Q (pc + 3) lv (r.toList ++ st) (ax_m h hc')) : W p l e R s m args below meth c H locs cells slots Q (F0 m pc ls st0) := by
  have hFc := ax_subA hD hS G.2.2.2.2.2.2.1 hs
  intro T hT X
  obtain ⟨v, st₀, t, T', L, h0, X', hL, e1, e2, ⟨⟨r, hc', hv, hq, hkeys, hP1, hD1⟩, hz, hk⟩, stp⟩ := hr T hT X
  cases hv
  rw [h0] at hz hk
  obtain ⟨hP2, hD2⟩ := ax_join hP hD hs hkeys hk hP1
  have hS2 : va_S A s.heap T'.heap (locs ++ L) := ⟨Nat.le_trans hS.1 (by rw [e1]; exact hz), fun q h1 h2 => by rw [e1, hk q (Nat.lt_of_lt_of_le h1 hS.1) (fun z => h2 (hFc q z))]; exact hS.2.1 q h1 h2, fun q hq => by
      rcases List.mem_append.mp hq with h | h
      · exact hS.2.2 q h
      · exact hFc _ (hL q h)⟩
  obtain ⟨t2, a1, b1⟩ := kk r hc' hq hkeys T'.heap (locs ++ L) ls (by rw [e1]; exact hP2) hD2 hS2 hl T' rfl X'
  refine ⟨t2, stp t2 ?_, b1⟩
  have e3 : (r.toList ++ st).map (ax_v ad) = (r.map (ax_v ad)).toList ++ st.map (ax_v ad) := by cases r <;> rfl
  rw [e3] at a1
  exact a1
theorem ax_goodIn (G : ax_G p s m args meth c Ts own cc nL D cid ad A) {y : MethodName} {bytes : ByteArray} {maxL : Nat} {ret : Option FieldType} (hcode : Cond.code y bytes maxL ret ∈ ax_big) : GoodIn Ts (Cond.code y bytes maxL ret :: ax_big) := by
  intro w hw
  have h1 : w ∈ ax_big := by
    rcases List.mem_cons.mp hw with e | e
    · rw [e]; exact hcode
    · exact e
  exact ⟨G.2.2.2.2.2.2.2.2.2.1 w h1, good_of_word (ax_good w h1)⟩
set_option maxHeartbeats 1000000 in
/-- a call of a method of an object -/
theorem ax_callV (G : ax_G p s m args meth c Ts own cc nL D cid ad A) {C : String} {y : MethodName} {bytes : ByteArray} {maxL : Nat} {ret : Option FieldType} {kr n i b q0 ci : Nat} {as' : List Value} {hc : ax_H} {Qa : Option Value → ax_H → Prop} {fs : List Value} {T : u_T} {N : Nat} {st0 : List Value}
    (ct : ax_CT l y bytes maxL ret kr (.ref b :: as') hc Qa) (d : decode cc pc = .ok (.invokevirtual i, 3)) (hst : st0 = as'.reverse ++ .ref b :: st) (hs : ax_sub hc h) (hn : va_nd (hc.map Prod.fst) = true)
    (hb : ax_f b h = some (q0, .inr (ci, fs))) (hcl : ax_cl[ci]? = some (C, T, N)) (hcode : Cond.code y bytes maxL ret ∈ ax_big) (hw : Cond.methodLink own i y ∈ ax_big ∧ Cond.instanceMethod y ∈ ax_big ∧ Cond.selects C y y ∈ ax_big ∧ Cond.initialized C ∈ ax_big)
    (hd : y.cls = C ∧ y.cls ≠ "java/lang/invoke/MethodHandle" ∧ y.cls ≠ "java/lang/invoke/VarHandle" ∧ (parseMethodDescriptor y.desc).map (fun d => d.parameters.length) = some n) (hlen : as'.length = n)
    (hR : kr + 1 ≤ R.frames ∧ 8 + (maxL + 11) + 40 * kr ≤ R.locals) (hwt : (st.map fun v => v.category).sum ≤ 8) (hf : cells ≤ R.cells ∧ slots ≤ R.slots)
    (kk : ∀ (r : Option Value) (hc' : ax_H), Qa r hc' → hc'.map Prod.fst = hc.map Prod.fst → ax_V p l e R s m args below meth c D cid ad A nL cells slots Q (pc + 3) lv (r.toList ++ st) (ax_m h hc')) : ax_V p l e R s m args below meth c D cid ad A nL cells slots Q pc lv st0 h := by
  intro H locs ls hP hD hS hl
  subst hst
  have hG := ax_goodIn G hcode
  obtain ⟨w1, w2, w3, w4⟩ := hw
  obtain ⟨hyc, hd1⟩ := hd
  subst hyc
  refine ax_goes (cid := cid) (ad := ad) (hc := hc) (Qa := Qa) (a := (.ref (ad b) :: as'.map (ax_v ad)).toArray) G hP hD hS hl hs ?_ kk
  refine va_runV (n := n) (As := as'.map (ax_v ad)) (b := ad b) (C := y.cls) (Ts := Ts) (own := own) (index := i) ⟨G.1, G.2.1, G.2.2.1, G.2.2.2.1, G.2.2.2.2.1⟩ (ct D cid ad H.size) ⟨callB_of n G.2.2.2.2.1 hG rfl rfl rfl (ax_say G w4) (ax_say G w1) hd1 hR, ax_say G w2, ax_say G w3⟩ ⟨ax_blind, va_recv G.2.2.2.2.2.1 hP hcl (ax_wget (ax_f_spec hb)), fun U hU hW => ⟨rfl, ax_pre G hP hD hS hs hn hU hW⟩⟩ rfl (by rw [List.length_map]; exact hlen) hl.1 (by simp [F0, List.map_reverse, ax_v]) (lv_room (by rw [List.map_map, show ((fun v : Value => v.category) ∘ ax_v ad) = fun v => v.category from funext (ax_vc ad)]; exact hwt)) d hf
set_option maxHeartbeats 1000000 in
/-- a call of a static method -/
theorem ax_callS (G : ax_G p s m args meth c Ts own cc nL D cid ad A) {y : MethodName} {bytes : ByteArray} {maxL : Nat} {ret : Option FieldType} {kr n i : Nat} {as : List Value} {hc : ax_H} {Qa : Option Value → ax_H → Prop} {st0 : List Value}
    (ct : ax_CT l y bytes maxL ret kr as hc Qa) (d : decode cc pc = .ok (.invokestatic i, 3)) (hst : st0 = as.reverse ++ st) (hs : ax_sub hc h) (hn : va_nd (hc.map Prod.fst) = true)
    (hcode : Cond.code y bytes maxL ret ∈ ax_big) (hw : Cond.methodLink own i y ∈ ax_big ∧ Cond.static y ∈ ax_big ∧ Cond.initialized y.cls ∈ ax_big)
    (hd : y.cls ≠ "java/lang/invoke/MethodHandle" ∧ y.cls ≠ "java/lang/invoke/VarHandle" ∧ (parseMethodDescriptor y.desc).map (fun d => d.parameters.length) = some n) (hlen : as.length = n)
    (hR : kr + 1 ≤ R.frames ∧ 8 + (maxL + 11) + 40 * kr ≤ R.locals) (hwt : (st.map fun v => v.category).sum ≤ 8) (hf : cells ≤ R.cells ∧ slots ≤ R.slots)
    (kk : ∀ (r : Option Value) (hc' : ax_H), Qa r hc' → hc'.map Prod.fst = hc.map Prod.fst → ax_V p l e R s m args below meth c D cid ad A nL cells slots Q (pc + 3) lv (r.toList ++ st) (ax_m h hc')) : ax_V p l e R s m args below meth c D cid ad A nL cells slots Q pc lv st0 h := by
  intro H locs ls hP hD hS hl
  subst hst
  have hG := ax_goodIn G hcode
  obtain ⟨w1, w2, w3⟩ := hw
  refine ax_goes (cid := cid) (ad := ad) (hc := hc) (Qa := Qa) (a := (as.map (ax_v ad)).toArray) G hP hD hS hl hs ?_ kk
  refine va_runS (n := n) (As := as.map (ax_v ad)) (Ts := Ts) (own := own) (index := i) ⟨G.1, G.2.1, G.2.2.1, G.2.2.2.1, G.2.2.2.2.1⟩ (ct D cid ad H.size) ⟨callB_of n G.2.2.2.2.1 hG rfl rfl rfl (ax_say G w3) (ax_say G w1) hd hR, ax_say G w2⟩ ⟨ax_blind, fun U hU hW => ⟨rfl, ax_pre G hP hD hS hs hn hU hW⟩⟩ rfl (by rw [List.length_map]; exact hlen) hl.1 (by simp [F0, List.map_reverse]) (lv_room (by rw [List.map_map, show ((fun v : Value => v.category) ∘ ax_v ad) = fun v => v.category from funext (ax_vc ad)]; exact hwt)) d hf
variable {Qc : Array Value → State → Outcome → State → Prop} {Qa : Option Value → ax_H → Prop} {h0 : ax_H}
theorem ax_iret (G : ax_G p s m args meth c Ts own cc nL D cid ad A) (hr : meth.sig.returnType = some .int) (E : ∀ (r : Option Value) (h' : ax_H) (t : State) (H : Heap) (locs : List Loc), Qa r h' → h'.map Prod.fst = h0.map Prod.fst → va_P D ax_cl (ax_w cid ad h') H → va_D A (ax_w cid ad h') → va_S A s.heap H locs → t.heap = H → Qc args s (.returned (r.map (ax_v ad))) t)
    {v : Int32} (d : decode cc pc = .ok (.ireturn, 1)) (hk : h.map Prod.fst = h0.map Prod.fst) (hq : Qa (some (.int v)) h) : ax_V p l e R s m args below meth c D cid ad A nL cells slots (MQ below Qc args s cells slots A) pc lv [.int v] h :=
  fun H locs ls hP hD hS hl => W.iret G.1 G.2.1 hr (fun t ht _ => E (some (.int v)) h t H locs hq hk hP hD hS ht) hS.2.2 d G.2.2.2.2.2.2.2.1
theorem ax_zret (G : ax_G p s m args meth c Ts own cc nL D cid ad A) {ty : FieldType} (hr : meth.sig.returnType = some ty) (E : ∀ (r : Option Value) (h' : ax_H) (t : State) (H : Heap) (locs : List Loc), Qa r h' → h'.map Prod.fst = h0.map Prod.fst → va_P D ax_cl (ax_w cid ad h') H → va_D A (ax_w cid ad h') → va_S A s.heap H locs → t.heap = H → Qc args s (.returned (r.map (ax_v ad))) t)
    {v : Int32} (hnw : narrow ty (.int v) = .int v) (d : decode cc pc = .ok (.ireturn, 1)) (hk : h.map Prod.fst = h0.map Prod.fst) (hq : Qa (some (.int v)) h) : ax_V p l e R s m args below meth c D cid ad A nL cells slots (MQ below Qc args s cells slots A) pc lv [.int v] h :=
  fun H locs ls hP hD hS hl => W.zret G.1 G.2.1 hr hnw (fun t ht _ => E (some (.int v)) h t H locs hq hk hP hD hS ht) hS.2.2 d G.2.2.2.2.2.2.2.1
theorem ax_lret (G : ax_G p s m args meth c Ts own cc nL D cid ad A) (hr : meth.sig.returnType = some .long) (E : ∀ (r : Option Value) (h' : ax_H) (t : State) (H : Heap) (locs : List Loc), Qa r h' → h'.map Prod.fst = h0.map Prod.fst → va_P D ax_cl (ax_w cid ad h') H → va_D A (ax_w cid ad h') → va_S A s.heap H locs → t.heap = H → Qc args s (.returned (r.map (ax_v ad))) t)
    {v : Int64} (d : decode cc pc = .ok (.lreturn, 1)) (hk : h.map Prod.fst = h0.map Prod.fst) (hq : Qa (some (.long v)) h) : ax_V p l e R s m args below meth c D cid ad A nL cells slots (MQ below Qc args s cells slots A) pc lv [.long v] h :=
  fun H locs ls hP hD hS hl => W.lret G.1 G.2.1 hr (fun t ht _ => E (some (.long v)) h t H locs hq hk hP hD hS ht) hS.2.2 d G.2.2.2.2.2.2.2.1
theorem ax_vret (G : ax_G p s m args meth c Ts own cc nL D cid ad A) (hr : meth.sig.returnType = none) (E : ∀ (r : Option Value) (h' : ax_H) (t : State) (H : Heap) (locs : List Loc), Qa r h' → h'.map Prod.fst = h0.map Prod.fst → va_P D ax_cl (ax_w cid ad h') H → va_D A (ax_w cid ad h') → va_S A s.heap H locs → t.heap = H → Qc args s (.returned (r.map (ax_v ad))) t)
    (d : decode cc pc = .ok (.return_, 1)) (hk : h.map Prod.fst = h0.map Prod.fst) (hq : Qa none h) : ax_V p l e R s m args below meth c D cid ad A nL cells slots (MQ below Qc args s cells slots A) pc lv [] h :=
  fun H locs ls hP hD hS hl => W.vret G.1 G.2.1 hr (fun t ht _ => E none h t H locs hq hk hP hD hS ht) hS.2.2 d G.2.2.2.2.2.2.2.1
theorem ax_eqV {lv' : List (Nat × Value)} {st' : List Value} {h' : ax_H} (k : ax_V p l e R s m args below meth c D cid ad A nL cells slots Q pc lv' st' h') (e1 : lv = lv') (e2 : st = st') (e3 : h = h') : ax_V p l e R s m args below meth c D cid ad A nL cells slots Q pc lv st h := by
  subst e1; subst e2; subst e3; exact k
end AXC
