/-! THE ABSTRACT LAYER, 4: what is made: constructors -/
def ax_mem (i : Nat) : List Nat → Bool
  | [] => false
  | k :: r => cond (Nat.beq i k) true (ax_mem i r)
theorem ax_mem_iff {i : Nat} : ∀ {ks : List Nat}, ax_mem i ks = false → i ∉ ks
  | [], _ => List.not_mem_nil
  | k :: r, h => by
    unfold ax_mem at h
    cases hb : Nat.beq i k with
    | true => rw [hb] at h; cases h
    | false =>
      rw [hb] at h
      intro hm
      rcases List.mem_cons.mp hm with e | e
      · rw [e, Nat.beq_refl] at hb; cases hb
      · exact ax_mem_iff h e
def ax_ag (ks : List Nat) (ad ad' : Nat → Nat) : Prop := ∀ i, i ∉ ks → ad' i = ad i
def ax_vn (ks : List Nat) (v : Value) : Bool := match v with
  | .ref i => !(ax_mem i ks)
  | _ => true
def ax_sn (ks : List Nat) : List Value → Bool
  | [] => true
  | v :: r => cond (ax_vn ks v) (ax_sn ks r) false
def ax_ln (ks : List Nat) : List (Nat × Value) → Bool
  | [] => true
  | v :: r => cond (ax_vn ks v.2) (ax_ln ks r) false
def ax_en (ks : List Nat) (e : ax_E) : Bool := match e with
  | .inl _ => true
  | .inr o => ax_sn ks o.2
def ax_hn (ks : List Nat) : ax_H → Bool
  | [] => true
  | q :: r => cond (ax_mem q.1 ks) false (cond (ax_en ks q.2) (ax_hn ks r) false)
theorem ax_v_ag {ks : List Nat} {ad ad' : Nat → Nat} (hg : ax_ag ks ad ad') {v : Value} (hv : ax_vn ks v = true) : ax_v ad' v = ax_v ad v := by
  cases v with
  | ref i =>
    have : ax_mem i ks = false := by
      cases hm : ax_mem i ks with
      | false => rfl
      | true => unfold ax_vn at hv; simp only at hv; rw [hm] at hv; cases hv
    show Value.ref (ad' i) = Value.ref (ad i)
    rw [hg i (ax_mem_iff this)]
  | _ => rfl
theorem ax_s_ag {ks : List Nat} {ad ad' : Nat → Nat} (hg : ax_ag ks ad ad') : ∀ {st : List Value}, ax_sn ks st = true → st.map (ax_v ad') = st.map (ax_v ad)
  | [], _ => rfl
  | v :: r, h => by
    unfold ax_sn at h
    cases hv : ax_vn ks v with
    | false => rw [hv] at h; cases h
    | true =>
      rw [hv] at h
      rw [List.map_cons, List.map_cons, ax_v_ag hg hv, ax_s_ag hg h]
theorem ax_l_ag {ks : List Nat} {ad ad' : Nat → Nat} (hg : ax_ag ks ad ad') : ∀ {lv : List (Nat × Value)}, ax_ln ks lv = true → ax_l ad' lv = ax_l ad lv
  | [], _ => rfl
  | v :: r, h => by
    unfold ax_ln at h
    cases hv : ax_vn ks v.2 with
    | false => rw [hv] at h; cases h
    | true =>
      rw [hv] at h
      show (v.1, ax_v ad' v.2) :: ax_l ad' r = (v.1, ax_v ad v.2) :: ax_l ad r
      rw [ax_v_ag hg hv, ax_l_ag hg h]
theorem ax_e_ag {ks : List Nat} {ad ad' : Nat → Nat} {cid : Nat → ClassId} (hg : ax_ag ks ad ad') {x : ax_E} (hx : ax_en ks x = true) : ax_e cid ad' x = ax_e cid ad x := by
  cases x with
  | inl a => rfl
  | inr o =>
    show (Sum.inr (o.1, o.2.map (ax_v ad')) : va_E) = Sum.inr (o.1, o.2.map (ax_v ad))
    rw [ax_s_ag hg hx]
theorem ax_hn_at {ks : List Nat} : ∀ {h : ax_H}, ax_hn ks h = true → ∀ q ∈ h, q.1 ∉ ks ∧ ax_en ks q.2 = true
  | [], _, q, hq => absurd hq List.not_mem_nil
  | x :: r, h, q, hq => by
    unfold ax_hn at h
    cases hm : ax_mem x.1 ks with
    | true => rw [hm] at h; cases h
    | false =>
      cases he : ax_en ks x.2 with
      | false => rw [hm, he] at h; cases h
      | true =>
        rw [hm, he] at h
        rcases List.mem_cons.mp hq with e | e
        · subst e; exact ⟨ax_mem_iff hm, he⟩
        · exact ax_hn_at h q e
theorem ax_w_ag {ks : List Nat} {ad ad' : Nat → Nat} {cid : Nat → ClassId} (hg : ax_ag ks ad ad') {h : ax_H} (hh : ax_hn ks h = true) : ax_w cid ad' h = ax_w cid ad h := by
  unfold ax_w
  refine List.map_congr_left (fun q hq => ?_)
  obtain ⟨h1, h2⟩ := ax_hn_at hh q hq
  rw [hg _ h1, ax_e_ag hg h2]
theorem ax_X_ag {ks : List Nat} {ad ad' : Nat → Nat} (hg : ax_ag ks ad ad') (hk : ∀ i, 100 ≤ i → i ∉ ks) {A : Nat → Prop} {U : State} {H : Heap} (h : ax_X ad A U H) : ax_X ad' A U H := by
  have e : ∀ i, ad' (100 + i) = ad (100 + i) := fun i => hg _ (hk _ (by omega))
  have e2 : ∀ i, ad' (110 + i) = ad (110 + i) := fun i => hg _ (hk _ (by omega))
  unfold ax_X at *
  rw [show (fun i => ad' (100 + i)) = fun i => ad (100 + i) from funext e, show (fun i => ad' (110 + i)) = fun i => ad (110 + i) from funext e2, show ad' 120 = ad 120 from e 20, show ad' 121 = ad 121 from e 21]
  exact ⟨h.1, fun q hq => by rw [e]; exact h.2.1 q hq, h.2.2⟩
theorem ax_G_ag {p : Program} {s : State} {m : MethodId} {args : Array Value} {meth : Method} {c : Code} {Ts : List Cond} {own : String} {cc : ByteArray} {nL : Nat} {D : va_G} {cid : Nat → ClassId} {ad ad' : Nat → Nat} {A : Nat → Prop} {ks : List Nat} (hg : ax_ag ks ad ad') (hk : ∀ i, 100 ≤ i → i ∉ ks) (G : ax_G p s m args meth c Ts own cc nL D cid ad A) : ax_G p s m args meth c Ts own cc nL D cid ad' A := by
  obtain ⟨g1, g2, g3, g4, g5, g6, g7, g8, g9, g10, g11⟩ := G
  exact ⟨g1, g2, g3, g4, g5, g6, g7, g8, g9, g10, ax_X_ag hg hk g11⟩
theorem ax_k1 {k : Nat} (hk : k < 100) : ∀ i, 100 ≤ i → i ∉ [k] := fun i hi hm => by rw [List.mem_singleton] at hm; omega
def ax_up (ad : Nat → Nat) (k q : Nat) : Nat → Nat := fun i => cond (Nat.beq i k) q (ad i)
theorem ax_up_s (ad : Nat → Nat) (k q : Nat) : ax_up ad k q k = q := by unfold ax_up; rw [Nat.beq_refl]; rfl
theorem ax_up_ag (ad : Nat → Nat) (k q : Nat) : ax_ag [k] ad (ax_up ad k q) := by
  intro i hi
  unfold ax_up
  cases hb : Nat.beq i k with
  | false => rfl
  | true => exact absurd (List.mem_singleton.mpr (Nat.eq_of_beq_eq_true hb)) hi
/-- no reference -/
def ax_nr : List Value → Bool
  | [] => true
  | v :: r => match v with
    | .ref _ => false
    | _ => ax_nr r
theorem ax_nr_map {ad : Nat → Nat} : ∀ {fs : List Value}, ax_nr fs = true → fs.map (ax_v ad) = fs
  | [], _ => rfl
  | v :: r, h => by
    cases v with
    | ref i => cases h
    | _ => rw [List.map_cons, ax_nr_map (fs := r) h]; rfl
section AXN
variable {p : Program} {l : Launch} {e : Env} {R : Room} {s : State} {m : MethodId} {args : Array Value} {below : List Frame} {meth : Method} {c : Code} {cells slots : Nat} {Q : State → Prop}
variable {D : va_G} {cid : Nat → ClassId} {ad : Nat → Nat} {A : Nat → Prop} {nL : Nat} {Ts : List Cond} {own : String} {cc : ByteArray}
variable {pc : Nat} {lv : List (Nat × Value)} {st : List Value} {h : ax_H}
theorem ax_new (G : ax_G p s m args meth c Ts own cc nL D cid ad A) {i k ci : Nat} {C : String} {T : u_T} {N : Nat} {fs : List Value} (d : decode cc pc = .ok (.new i, 3)) (hw : Cond.classLink own i C ∈ ax_big ∧ Cond.instantiable C N ∈ ax_big ∧ Cond.initialized C ∈ ax_big) (hc : ax_cl[ci]? = some (C, T, N)) (hfs : ∀ j, j < N → defaultValue (ax_ty ci j) = vp_V fs j) (hnr : ax_nr fs = true) (hk : k < 100) (hfr : ax_hn [k] h = true ∧ ax_ln [k] lv = true ∧ ax_sn [k] st = true) (hR : cells + 1 ≤ R.cells ∧ slots + N ≤ R.slots)
    (kk : ∀ ad', ax_ag [k] ad ad' → ax_G p s m args meth c Ts own cc nL D cid ad' A → ax_V p l e R s m args below meth c D cid ad' A nL (cells + 1) (slots + N) Q (pc + 3) lv (.ref k :: st) (h ++ [(k, .inr (ci, fs))])) : ax_V p l e R s m args below meth c D cid ad A nL cells slots Q pc lv st h := by
  intro H locs ls hP hD hS hl
  refine va_new G.1 G.2.1 G.2.2.2.2.1 (ax_lays G hc) (ax_ty ci) (ax_tyok hc) G.2.2.2.1 (ax_say G hw.1) (ax_say G hw.2.1) (ax_say G hw.2.2) G.2.2.2.2.2.1 hP hD hS G.2.2.2.2.2.2.1 hc (fs := fs) hfs hR.1 hR.2 d (fun q H1 hP1 hD1 hS1 => ?_)
  have hg := ax_up_ag ad k q
  have ew : ax_w cid (ax_up ad k q) (h ++ [(k, .inr (ci, fs))]) = ax_w cid ad h ++ [(q, .inr (ci, fs))] := by
    have : ax_w cid (ax_up ad k q) (h ++ [(k, .inr (ci, fs))]) = ax_w cid (ax_up ad k q) h ++ [(ax_up ad k q k, .inr (ci, fs.map (ax_v (ax_up ad k q))))] := by unfold ax_w; rw [List.map_append]; rfl
    rw [this, ax_w_ag hg hfr.1, ax_up_s, ax_nr_map hnr]
  have q1 := kk _ hg (ax_G_ag hg (ax_k1 hk) G) H1 locs ls (by rw [ew]; exact hP1) (by rw [ew]; exact hD1) hS1 (by rw [ax_l_ag hg hfr.2.1]; exact hl)
  have es : (Value.ref k :: st).map (ax_v (ax_up ad k q)) = .ref q :: st.map (ax_v ad) := by
    rw [List.map_cons, ax_s_ag hg hfr.2.2]
    show Value.ref (ax_up ad k q k) :: _ = _
    rw [ax_up_s]
  rw [es] at q1
  exact q1
theorem ax_newa (G : ax_G p s m args meth c Ts own cc nL D cid ad A) {atype : ArrayType} {ty : FieldType} {t k N' : Nat} {n : Int32} {a0 : vp_A} (d : decode cc pc = .ok (.newarray atype, 2)) (hty : newarray.typeOf atype = ty) (ht : (ax_tys cid)[t]? = some (cid t, ty)) (hw : Cond.arrayClass ty ∈ ax_big) (ha : ∀ cA : ClassId, vp_cell cA a0 = arrV cA N' (fun _ => defaultValue ty)) (hn : ¬ n < 0) (hN : n.toNatClampNeg = N') (hb : N' * componentBytes ty ≤ 536870912) (hk : k < 100) (hfr : ax_hn [k] h = true ∧ ax_ln [k] lv = true ∧ ax_sn [k] st = true) (hR : cells + 1 ≤ R.cells ∧ slots + N' ≤ R.slots)
    (kk : ∀ ad', ax_ag [k] ad ad' → ax_G p s m args meth c Ts own cc nL D cid ad' A → ax_V p l e R s m args below meth c D cid ad' A nL (cells + 1) (slots + N') Q (pc + 2) lv (.ref k :: st) (h ++ [(k, .inl (t, a0))])) : ax_V p l e R s m args below meth c D cid ad A nL cells slots Q pc lv (.int n :: st) h := by
  intro H locs ls hP hD hS hl
  subst hty
  refine va_newa G.1 G.2.1 (ax_say G hw) rfl G.2.2.2.2.2.1 hP hD hS G.2.2.2.2.2.2.1 (a0 := a0) ha hn hN hb hR.1 hR.2 d (fun q cA H1 hK1 hP1 hD1 hS1 => ?_)
  have eA : cA = cid t := by
    have h1 := (hK1.2 3 (cA, newarray.typeOf atype) rfl).2
    have h2 := (G.2.2.2.2.2.1.2 t _ ht).2
    have h3 : s.vm.findClass ("[" ++ (newarray.typeOf atype).toString) = some cA := by cases atype <;> exact h1
    have h4 : s.vm.findClass ("[" ++ (newarray.typeOf atype).toString) = some (cid t) := by cases atype <;> exact h2
    exact Option.some.inj (h3.symm.trans h4)
  subst eA
  have hg := ax_up_ag ad k q
  have ew : ax_w cid (ax_up ad k q) (h ++ [(k, .inl (t, a0))]) = ax_w cid ad h ++ [(q, .inl (cid t, a0))] := by
    have : ax_w cid (ax_up ad k q) (h ++ [(k, .inl (t, a0))]) = ax_w cid (ax_up ad k q) h ++ [(ax_up ad k q k, .inl (cid t, a0))] := by unfold ax_w; rw [List.map_append]; rfl
    rw [this, ax_w_ag hg hfr.1, ax_up_s]
  have q1 := kk _ hg (ax_G_ag hg (ax_k1 hk) G) H1 locs ls (by rw [ew]; exact hP1) (by rw [ew]; exact hD1) hS1 (by rw [ax_l_ag hg hfr.2.1]; exact hl)
  have es : (Value.ref k :: st).map (ax_v (ax_up ad k q)) = .ref q :: st.map (ax_v ad) := by
    rw [List.map_cons, ax_s_ag hg hfr.2.2]
    show Value.ref (ax_up ad k q k) :: _ = _
    rw [ax_up_s]
  rw [es] at q1
  exact q1
theorem ax_putF (G : ax_G p s m args meth c Ts own cc nL D cid ad A) (hin : meth.name = "<init>") {a q0 ci j i : Nat} {fs : List Value} {v : Value} {C : String} {T : u_T} {N : Nat} (d : decode cc pc = .ok (.putfield i, 3)) (ha : ax_f a h = some (q0, .inr (ci, fs))) (hc : ax_cl[ci]? = some (C, T, N)) (hj : j < N) (hw : Cond.fieldLink own i (T j).1 (T j).2.1 (T j).2.2.1 ∈ ax_big) (hfin : (T j).2.2.2 = true) (hdecl : (T j).1 = own) (hn : narrow (ax_ty ci j) v = v) (hfit : fits (ax_ty ci j) v = true) (hl0 : j < fs.length) (k : ax_V p l e R s m args below meth c D cid ad A nL cells slots Q (pc + 3) lv st (h.set q0 (a, .inr (ci, fs.set j v)))) : ax_V p l e R s m args below meth c D cid ad A nL cells slots Q pc lv (v :: .ref a :: st) h := fun H locs ls hP hD hS hl => va_putF G.1 G.2.1 G.2.2.2.2.1 (ax_lays G hc) (ax_ty ci) (ax_tyok hc) (ax_names hc) G.2.2.2.1 G.2.2.2.2.2.1 hP hD hS q0 (ax_wget (ax_f_spec ha)) hc j hj (ax_say G hw) (fun _ h9 => h9) hfin hin hdecl (ax_tyok hc j hj) (ax_narrow hn) (ax_fits hfit) (by simpa using hl0) d (fun H1 locs1 hP1 hD1 hS1 => k H1 locs1 ls (ax_wsetFP hP1) (ax_wsetFD hD1) hS1 hl)
theorem ax_obj (G : ax_G p s m args meth c Ts own cc nL D cid ad A) {i b : Nat} (d : decode cc pc = .ok (.invokespecial i, 3)) (hw : Cond.methodLink own i Lib.objectInit ∈ ax_big ∧ Cond.instanceMethod Lib.objectInit ∈ ax_big ∧ Cond.code Lib.objectInit ⟨#[0xb1]⟩ 1 none ∈ ax_big) (hR : 1 ≤ R.frames ∧ (st.map fun v => v.category).sum + 12 ≤ R.locals) (k : ax_V p l e R s m args below meth c D cid ad A nL cells slots Q (pc + 3) lv st h) : ax_V p l e R s m args below meth c D cid ad A nL cells slots Q pc lv (.ref b :: st) h := fun H locs ls hP hD hS hl =>
  W.objInit G.1 G.2.1 G.2.2.2.1 (ax_say G hw.1) (ax_say G hw.2.1) (ax_say G hw.2.2) rfl (hl.1.trans G.2.2.1.symm) rfl d hR.1 (by
    show 2 * 0 + ((st.map (ax_v ad)).map fun v => v.category).sum + 12 ≤ R.locals
    rw [List.map_map, show ((fun v : Value => v.category) ∘ ax_v ad) = fun v => v.category from funext (ax_vc ad)]
    have := hR.2; omega) (k H locs ls hP hD hS hl)
end AXN
def ax_rmN (k mc ms : Nat) : Room := { frames := k, cells := mc, slots := ms, locals := 40 * k }
def ax_PostN (D : va_G) (cid : Nat → ClassId) (ad : Nat → Nat) (h0 : ax_H) (sz : Nat) (news : List Nat) (Q : Option Value → ax_H → Prop) : Array Value → State → Outcome → State → Prop := fun _ st oc t =>
  (∃ (r : Option Value) (h : ax_H) (ad' : Nat → Nat), oc = .returned (r.map (ax_v ad')) ∧ Q r h ∧ h.map Prod.fst = h0.map Prod.fst ++ news ∧ ax_ag news ad ad' ∧ va_P D ax_cl (ax_w cid ad' h) t.heap ∧ va_D (va_A (ax_w cid ad h0) sz) (ax_w cid ad' h)) ∧ va_F (va_A (ax_w cid ad h0) sz) st t
/-- the contract of a method that makes cells, numbered news -/
def ax_CN (l : Launch) (y : MethodName) (cc : ByteArray) (nL : Nat) (ret : Option FieldType) (k mc ms : Nat) (as : List Value) (h : ax_H) (news : List Nat) (Q : Option Value → ax_H → Prop) : Prop :=
  ∀ (D : va_G) (cid : Nat → ClassId) (ad : Nat → Nat) (sz : Nat), Met l y (Cond.code y cc nL ret :: ax_big) (ax_rmN k mc ms) (va_Pc (as.map (ax_v ad)) (ax_Pre D cid ad h sz)) (ax_PostN D cid ad h sz news Q) mc ms (va_A (ax_w cid ad h) sz)
theorem ax_ag_refl (ks : List Nat) (ad : Nat → Nat) : ax_ag ks ad ad := fun _ _ => rfl
theorem ax_ag_tr {ks js : List Nat} {a b c : Nat → Nat} (h1 : ax_ag ks a b) (h2 : ax_ag js b c) : ax_ag (ks ++ js) a c := fun i hi => by
  rw [h2 i (fun z => hi (List.mem_append_right _ z)), h1 i (fun z => hi (List.mem_append_left _ z))]
set_option maxHeartbeats 1000000 in
theorem ax_ofN {l : Launch} {y : MethodName} {cc : ByteArray} {nL : Nat} {ret : Option FieldType} {k mc ms : Nat} {as : List Value} {h : ax_H} {news : List Nat} {Q : Option Value → ax_H → Prop} (hy : plainName y.cls = true) (hn : (lg_sl as).length ≤ nL) (hi : y.name = "<init>")
    (body : ∀ (p : Program) (e : Env) (s : State) (m : MethodId) (args : Array Value) (below : List Frame) (meth : Method) (c : Code) (D : va_G) (cid : Nat → ClassId) (ad : Nat → Nat) (A : Nat → Prop) (Qc : Array Value → State → Outcome → State → Prop),
      ax_G p s m args meth c (Cond.code y cc nL ret :: ax_big) y.cls cc nL D cid ad A → meth.sig.returnType = ret → meth.name = "<init>" →
      (∀ (r : Option Value) (h' : ax_H) (ad' : Nat → Nat) (t : State) (H : Heap) (locs : List Loc), Q r h' → h'.map Prod.fst = h.map Prod.fst ++ news → ax_ag news ad ad' → va_P D ax_cl (ax_w cid ad' h') H → va_D A (ax_w cid ad' h') → va_S A s.heap H locs → t.heap = H → Qc args s (.returned (r.map (ax_v ad'))) t) →
      ax_V p l e (ax_rmN k mc ms) s m args below meth c D cid ad A nL 0 0 (MQ below Qc args s mc ms A) 0 (lv_args 0 as) [] h) : ax_CN l y cc nL ret k mc ms as h news Q := by
  intro D cid ad sz
  refine Met.ofW (cc := cc) (maxL := nL) (ret := ret) hy rfl ?_
  intro p e s m args below meth c s₁ B hml hv
  obtain ⟨rfl, hsz, hP, hK, hD0, hN, hX⟩ := hv
  subst hsz
  have hD := hD0.self (sz := s.heap.size)
  rw [lg_entry_eq]
  have hl := lv_entry (as.map (ax_v ad)) (n := nL) (by rw [ax_slen]; exact hn)
  rw [ax_args] at hl
  exact body p e s m _ below meth c D cid ad _ _ ⟨B.exec, B.bytes, hml, findClass_of_methodNamed B.named, atoms_spec (ws := Cond.code y cc nL ret :: ax_big) B.pre, hK, fun q hq => Or.inr hq, B.notSynchronized, hN, fun w hw => List.mem_cons_of_mem _ hw, hX⟩ B.returns ((name_of_methodNamed B.named B.method).1.trans hi)
    (fun r h' ad' t H locs hq hk hg hP hD hS ht => ⟨⟨r, h', ad', rfl, hq, hk, hg, by rw [ht]; exact hP, hD⟩, hS.F ht⟩) s.heap [] _ hP hD va_S.rf hl
/-- what a call made lies beside the rest -/
theorem ax_joinN {A : Nat → Prop} {D : va_G} {cid : Nat → ClassId} {ad ad' : Nat → Nat} {h hc hc' : ax_H} {news : List Nat} {H H1 : Heap} (hP : va_P D ax_cl (ax_w cid ad h) H) (hD : va_D A (ax_w cid ad h)) (hs : ax_sub hc h) (hkeys : hc'.map Prod.fst = hc.map Prod.fst ++ news) (hg : ax_ag news ad ad') (hfr : ax_hn news h = true)
    (hA : ∀ q, va_A (ax_w cid ad hc) H.size q → A q) (hk : ∀ q : Nat, q < H.size → ¬ va_A (ax_w cid ad hc) H.size q → H1[q]? = H[q]?) (hP1 : va_P D ax_cl (ax_w cid ad' hc') H1) (hD1 : va_D (va_A (ax_w cid ad hc) H.size) (ax_w cid ad' hc')) : va_P D ax_cl (ax_w cid ad' (ax_m h hc' ++ hc'.drop hc.length)) H1 ∧ va_D A (ax_w cid ad' (ax_m h hc' ++ hc'.drop hc.length)) := by
  have hml : (ax_m h hc').length = h.length := by unfold ax_m; rw [List.length_map]
  -- the elements
  have split : ∀ (k : Nat) (x : Nat × va_E), (ax_w cid ad' (ax_m h hc' ++ hc'.drop hc.length))[k]? = some x → (k < h.length ∧ ∃ q e, (ax_m h hc')[k]? = some q ∧ x = (ad' q.1, ax_e cid ad' q.2) ∧ h[k]? = some (q.1, e) ∧ ((∃ j : Nat, hc'[j]? = some q) ∨ (q.1 ∉ hc'.map Prod.fst ∧ q.2 = e))) ∨ (h.length ≤ k ∧ ∃ q, hc'[hc.length + (k - h.length)]? = some q ∧ x = (ad' q.1, ax_e cid ad' q.2)) := by
    intro k x hx
    obtain ⟨q, hq, rfl⟩ := ax_wat hx
    by_cases hkl : k < h.length
    · rw [List.getElem?_append_left (by rw [hml]; exact hkl)] at hq
      obtain ⟨e, he, hor⟩ := ax_mat hq
      exact Or.inl ⟨hkl, q, e, hq, rfl, he, hor⟩
    · rw [List.getElem?_append_right (by rw [hml]; omega), hml, List.getElem?_drop] at hq
      exact Or.inr ⟨by omega, q, hq, rfl⟩
  have same : ∀ (k : Nat) (a : Nat) (e : ax_E), h[k]? = some (a, e) → ad' a = ad a ∧ ax_e cid ad' e = ax_e cid ad e := by
    intro k a e he
    obtain ⟨h1, h2⟩ := ax_hn_at hfr _ (List.mem_of_getElem? he)
    exact ⟨hg _ h1, ax_e_ag hg h2⟩
  have inHc : ∀ (k a : Nat) (e : ax_E), h[k]? = some (a, e) → a ∉ hc.map Prod.fst → ¬ va_A (ax_w cid ad hc) H.size (ad a) := by
    intro k a e he hne
    have hat := hP k _ (ax_wget (cid := cid) (ad := ad) he)
    rintro (⟨k2, e2, h2⟩ | h2)
    · obtain ⟨r, hr, er⟩ := ax_wat h2
      obtain ⟨i', hi'⟩ := ax_sub_at hs r (List.mem_of_getElem? hr)
      have ead : ad a = ad r.1 := congrArg Prod.fst er
      have e3 := hD.1 k i' _ _ (ax_wget (cid := cid) (ad := ad) he) (ax_wget (k := r.1) (e := r.2) hi') ead
      subst e3
      have e4 : (a, e) = r := Option.some.inj (he.symm.trans hi')
      apply hne
      exact List.mem_map.mpr ⟨r, List.mem_of_getElem? hr, by rw [← e4]⟩
    · exact absurd hat.lt (Nat.not_lt.mpr h2)
  have fresh : ∀ (k : Nat) (a : Nat) (e : ax_E) (j : Nat) (q : Nat × ax_E), h[k]? = some (a, e) → hc'[hc.length + j]? = some q → ad' a = ad' q.1 → False := by
    intro k a e j q he hq heq
    obtain ⟨s1, s2⟩ := same k a e he
    by_cases hin : a ∈ hc.map Prod.fst
    · obtain ⟨i1, hi1⟩ := List.getElem?_of_mem hin
      have hlt : i1 < hc.length := by have := (List.getElem?_eq_some_iff.mp hi1).1; rw [List.length_map] at this; exact this
      have hk1 : (hc'.map Prod.fst)[i1]? = some a := by rw [hkeys, List.getElem?_append_left (by rw [List.length_map]; exact hlt)]; exact hi1
      rw [List.getElem?_map] at hk1
      cases hz : hc'[i1]? with
      | none => rw [hz] at hk1; cases hk1
      | some w =>
        rw [hz] at hk1
        have ew : w.1 = a := Option.some.inj hk1
        have := hD1.1 i1 (hc.length + j) _ _ (ax_wget (cid := cid) (ad := ad') (k := w.1) (e := w.2) hz) (ax_wget (cid := cid) (ad := ad') (k := q.1) (e := q.2) hq) (by show ad' w.1 = ad' q.1; rw [ew]; exact heq)
        omega
    · have h1 := inHc k a e he hin
      have h2 := hD1.2 _ _ (ax_wget (cid := cid) (ad := ad') (k := q.1) (e := q.2) hq)
      apply h1
      rw [← s1, heq]
      exact h2
  refine ⟨fun k x hx => ?_, fun i j x y hx hy hxy => ?_, fun k x hx => ?_⟩
  · rcases split k x hx with ⟨-, q, e, hq, rfl, he, hor⟩ | ⟨-, q, hq, rfl⟩
    · rcases hor with ⟨j, hj⟩ | ⟨hne, hee⟩
      · exact hP1 j _ (ax_wget (k := q.1) (e := q.2) hj)
      · have hat := hP k _ (ax_wget (cid := cid) (ad := ad) he)
        obtain ⟨s1, s2⟩ := same k _ _ he
        rw [hee, s1, s2]
        refine va_at.kept hat (hk _ hat.lt ?_)
        exact inHc k _ _ he (fun z => hne (by rw [hkeys]; exact List.mem_append_left _ z))
    · exact hP1 _ _ (ax_wget (k := q.1) (e := q.2) hq)
  · rcases split i x hx with ⟨hi, q, e, hq, rfl, he, -⟩ | ⟨hi, q, hq, rfl⟩
    · rcases split j y hy with ⟨hj, q2, e2, hq2, rfl, he2, -⟩ | ⟨hj, q2, hq2, rfl⟩
      · have hxy2 : ad' q.1 = ad' q2.1 := hxy
        rw [(same i _ _ he).1, (same j _ _ he2).1] at hxy2
        exact hD.1 i j _ _ (ax_wget (cid := cid) (ad := ad) he) (ax_wget (cid := cid) (ad := ad) he2) hxy2
      · exact (fresh i _ _ _ q2 he hq2 hxy).elim
    · rcases split j y hy with ⟨hj, q2, e2, hq2, rfl, he2, -⟩ | ⟨hj, q2, hq2, rfl⟩
      · exact (fresh j _ _ _ q he2 hq hxy.symm).elim
      · have := hD1.1 _ _ _ _ (ax_wget (cid := cid) (ad := ad') (k := q.1) (e := q.2) hq) (ax_wget (cid := cid) (ad := ad') (k := q2.1) (e := q2.2) hq2) hxy
        omega
  · rcases split k x hx with ⟨-, q, e, hq, rfl, he, -⟩ | ⟨-, q, hq, rfl⟩
    · have := hD.2 k _ (ax_wget (cid := cid) (ad := ad) he)
      show A (ad' q.1)
      rw [(same k _ _ he).1]; exact this
    · exact hA _ (hD1.2 _ _ (ax_wget (cid := cid) (ad := ad') (k := q.1) (e := q.2) hq))
section AXNC
variable {p : Program} {l : Launch} {e : Env} {R : Room} {s : State} {m : MethodId} {args : Array Value} {below : List Frame} {meth : Method} {c : Code} {cells slots : Nat} {Q : State → Prop}
variable {D : va_G} {cid : Nat → ClassId} {ad : Nat → Nat} {A : Nat → Prop} {nL : Nat} {Ts : List Cond} {own : String} {cc : ByteArray}
variable {pc : Nat} {lv : List (Nat × Value)} {st : List Value} {h : ax_H}
theorem ax_goesN (G : ax_G p s m args meth c Ts own cc nL D cid ad A) {hc : ax_H} {H : Heap} {locs : List Loc} {ls : Array Slot} {st0 : List Value} {a : Array Value} {news : List Nat} {mc ms : Nat} {Qa : Option Value → ax_H → Prop}
    (hP : va_P D ax_cl (ax_w cid ad h) H) (hD : va_D A (ax_w cid ad h)) (hS : va_S A s.heap H locs) (hl : lv_has ls nL (ax_l ad lv)) (hs : ax_sub hc h) (hfr : ax_hn news h = true ∧ ax_ln news lv = true ∧ ax_sn news st = true) (hnews : ∀ i, 100 ≤ i → i ∉ news) (hQn : ∀ r hc', Qa r hc' → r = none)
    (hr : va_Run p l e R s m args below meth c H locs cells slots mc ms (F0 m pc ls st0) (st.map (ax_v ad)) (ax_PostN D cid ad hc H.size news Qa a) (va_A (ax_w cid ad hc) H.size))
    (kk : ∀ (hc' : ax_H) (ad' : Nat → Nat), ax_ag news ad ad' → ax_G p s m args meth c Ts own cc nL D cid ad' A → Qa none hc' → ax_V p l e R s m args below meth c D cid ad' A nL (cells + mc) (slots + ms) Q (pc + 3) lv st (ax_m h hc' ++ hc'.drop hc.length)) : W p l e R s m args below meth c H locs cells slots Q (F0 m pc ls st0) := by
  have hFc := ax_subA hD hS G.2.2.2.2.2.2.1 hs
  intro T hT X
  obtain ⟨v, st₀, t, T', L, h0, X', hL, e1, e2, ⟨⟨r, hc', ad', hv, hq, hkeys, hg, hP1, hD1⟩, hz, hk⟩, stp⟩ := hr T hT X
  have hr0 := hQn _ _ hq
  subst hr0
  cases hv
  rw [h0] at hz hk
  obtain ⟨hP2, hD2⟩ := ax_joinN hP hD hs hkeys hg hfr.1 hFc hk hP1 hD1
  have hS2 : va_S A s.heap T'.heap (locs ++ L) := ⟨Nat.le_trans hS.1 (by rw [e1]; exact hz), fun q h1 h2 => by rw [e1, hk q (Nat.lt_of_lt_of_le h1 hS.1) (fun z => h2 (hFc q z))]; exact hS.2.1 q h1 h2, fun q hq => by
      rcases List.mem_append.mp hq with h | h
      · exact hS.2.2 q h
      · exact hFc _ (hL q h)⟩
  obtain ⟨t2, a1, b1⟩ := kk hc' ad' hg (ax_G_ag hg hnews G) hq T'.heap (locs ++ L) ls (by rw [e1]; exact hP2) hD2 hS2 (by rw [ax_l_ag hg hfr.2.1]; exact hl) T' rfl X'
  refine ⟨t2, stp t2 ?_, b1⟩
  rw [ax_s_ag hg hfr.2.2] at a1
  exact a1
set_option maxHeartbeats 1000000 in
/-- a constructor's call -/
theorem ax_callI (G : ax_G p s m args meth c Ts own cc nL D cid ad A) {y : MethodName} {bytes : ByteArray} {maxL kr mc ms i b : Nat} {hc : ax_H} {news : List Nat} {Qa : Option Value → ax_H → Prop}
    (ct : ax_CN l y bytes maxL none kr mc ms [.ref b] hc news Qa) (d : decode cc pc = .ok (.invokespecial i, 3)) (hs : ax_sub hc h) (hn : va_nd (hc.map Prod.fst) = true) (hfr : ax_hn news h = true ∧ ax_ln news lv = true ∧ ax_sn news st = true) (hnews : ∀ i, 100 ≤ i → i ∉ news) (hQn : ∀ r hc', Qa r hc' → r = none)
    (hcode : Cond.code y bytes maxL none ∈ ax_big) (hw : Cond.methodLink own i y ∈ ax_big ∧ Cond.instanceMethod y ∈ ax_big ∧ Cond.initialized y.cls ∈ ax_big) (hy1 : y.name = "<init>")
    (hd : y.cls ≠ "java/lang/invoke/MethodHandle" ∧ y.cls ≠ "java/lang/invoke/VarHandle" ∧ (parseMethodDescriptor y.desc).map (fun d => d.parameters.length) = some 0)
    (hR : kr + 1 ≤ R.frames ∧ 8 + (maxL + 11) + 40 * kr ≤ R.locals) (hwt : (st.map fun v => v.category).sum ≤ 8) (hf : cells + mc ≤ R.cells ∧ slots + ms ≤ R.slots)
    (kk : ∀ (hc' : ax_H) (ad' : Nat → Nat), ax_ag news ad ad' → ax_G p s m args meth c Ts own cc nL D cid ad' A → Qa none hc' → ax_V p l e R s m args below meth c D cid ad' A nL (cells + mc) (slots + ms) Q (pc + 3) lv st (ax_m h hc' ++ hc'.drop hc.length)) : ax_V p l e R s m args below meth c D cid ad A nL cells slots Q pc lv (.ref b :: st) h := by
  intro H locs ls hP hD hS hl
  have hG := ax_goodIn G hcode
  refine ax_goesN (cid := cid) (ad := ad) (hc := hc) (Qa := Qa) (news := news) (mc := mc) (ms := ms) (a := #[.ref (ad b)]) G hP hD hS hl hs hfr hnews hQn ?_ kk
  exact va_runI (n := 0) (As := []) (b := ad b) (Ts := Ts) (own := own) (index := i) ⟨G.1, G.2.1, G.2.2.1, G.2.2.2.1, G.2.2.2.2.1⟩ (ct D cid ad H.size) (cwI 0 G.2.2.2.2.1 hG rfl rfl rfl (ax_say G hw.2.2) (ax_say G hw.1) (ax_say G hw.2.1) hy1 hd hR) ⟨ax_blind, fun U hU hW => ⟨rfl, ax_pre G hP hD hS hs hn hU hW⟩⟩ rfl rfl hl.1 rfl (lv_room (by rw [List.map_map, show ((fun v : Value => v.category) ∘ ax_v ad) = fun v => v.category from funext (ax_vc ad)]; exact hwt)) d hf
set_option maxHeartbeats 1000000 in
/-- a nest mate's constructor's call -/
theorem ax_callIN (G : ax_G p s m args meth c Ts own cc nL D cid ad A) {y : MethodName} {bytes : ByteArray} {maxL kr mc ms i b : Nat} {hc : ax_H} {news : List Nat} {Qa : Option Value → ax_H → Prop} {host : String}
    (ct : ax_CN l y bytes maxL none kr mc ms [.ref b] hc news Qa) (d : decode cc pc = .ok (.invokespecial i, 3)) (hs : ax_sub hc h) (hn : va_nd (hc.map Prod.fst) = true) (hfr : ax_hn news h = true ∧ ax_ln news lv = true ∧ ax_sn news st = true) (hnews : ∀ i, 100 ≤ i → i ∉ news) (hQn : ∀ r hc', Qa r hc' → r = none)
    (hcode : Cond.code y bytes maxL none ∈ ax_big) (hw : Cond.methodLinkNest own i y host ∈ ax_nest ∧ Cond.instanceMethod y ∈ ax_big ∧ Cond.initialized y.cls ∈ ax_big) (hy1 : y.name = "<init>")
    (hd : y.cls ≠ "java/lang/invoke/MethodHandle" ∧ y.cls ≠ "java/lang/invoke/VarHandle" ∧ (parseMethodDescriptor y.desc).map (fun d => d.parameters.length) = some 0)
    (hR : kr + 1 ≤ R.frames ∧ 8 + (maxL + 11) + 40 * kr ≤ R.locals) (hwt : (st.map fun v => v.category).sum ≤ 8) (hf : cells + mc ≤ R.cells ∧ slots + ms ≤ R.slots)
    (kk : ∀ (hc' : ax_H) (ad' : Nat → Nat), ax_ag news ad ad' → ax_G p s m args meth c Ts own cc nL D cid ad' A → Qa none hc' → ax_V p l e R s m args below meth c D cid ad' A nL (cells + mc) (slots + ms) Q (pc + 3) lv st (ax_m h hc' ++ hc'.drop hc.length)) : ax_V p l e R s m args below meth c D cid ad A nL cells slots Q pc lv (.ref b :: st) h := by
  intro H locs ls hP hD hS hl
  have hG := ax_goodIn G hcode
  refine ax_goesN (cid := cid) (ad := ad) (hc := hc) (Qa := Qa) (news := news) (mc := mc) (ms := ms) (a := #[.ref (ad b)]) G hP hD hS hl hs hfr hnews hQn ?_ kk
  exact va_runIN (n := 0) (As := []) (b := ad b) (Ts := Ts) (own := own) (host := host) (index := i) ⟨G.1, G.2.1, G.2.2.1, G.2.2.2.1, G.2.2.2.2.1⟩ (ct D cid ad H.size) ⟨va_cnB 0 G.2.2.2.2.1 hG rfl rfl rfl (G.2.2.2.2.2.2.2.2.1 _ hw.1) (ax_say G hw.2.2) hd hR, hy1, ax_say G hw.2.1⟩ ⟨ax_blind, fun U hU hW => ⟨rfl, ax_pre G hP hD hS hs hn hU hW⟩⟩ rfl rfl hl.1 rfl (lv_room (by rw [List.map_map, show ((fun v : Value => v.category) ∘ ax_v ad) = fun v => v.category from funext (ax_vc ad)]; exact hwt)) d hf
variable {Qc : Array Value → State → Outcome → State → Prop} {Qa : Option Value → ax_H → Prop} {h0 : ax_H} {news : List Nat} {mc ms : Nat} {ad0 : Nat → Nat}
theorem ax_vretN (G : ax_G p s m args meth c Ts own cc nL D cid ad A) (hr : meth.sig.returnType = none) (E : ∀ (r : Option Value) (h' : ax_H) (ad' : Nat → Nat) (t : State) (H : Heap) (locs : List Loc), Qa r h' → h'.map Prod.fst = h0.map Prod.fst ++ news → ax_ag news ad0 ad' → va_P D ax_cl (ax_w cid ad' h') H → va_D A (ax_w cid ad' h') → va_S A s.heap H locs → t.heap = H → Qc args s (.returned (r.map (ax_v ad'))) t)
    (hg : ax_ag news ad0 ad) (d : decode cc pc = .ok (.return_, 1)) (hk : h.map Prod.fst = h0.map Prod.fst ++ news) (hq : Qa none h) (hc : cells ≤ mc ∧ slots ≤ ms) : ax_V p l e R s m args below meth c D cid ad A nL cells slots (MQ below Qc args s mc ms A) pc lv [] h :=
  fun H locs ls hP hD hS hl => W.widen hc.1 hc.2 (W.vret G.1 G.2.1 hr (fun t ht _ => E none h ad t H locs hq hk hg hP hD hS ht) hS.2.2 d G.2.2.2.2.2.2.2.1)
end AXNC
