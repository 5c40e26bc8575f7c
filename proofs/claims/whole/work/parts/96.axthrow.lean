/-! THE ABSTRACT LAYER, 5: exceptions -/
def ax_oth : List Cond := [.castable "java/lang/IndexOutOfBoundsException" "java/lang/IndexOutOfBoundsException", .castable "java/lang/IllegalArgumentException" "java/lang/IllegalArgumentException", .castable "java/lang/UnsupportedOperationException" "java/lang/UnsupportedOperationException", .declares ⟨"java/lang/RuntimeException", "<init>", "()V"⟩, .declares ⟨"java/lang/Exception", "<init>", "()V"⟩, .declares ⟨"java/lang/Throwable", "<init>", "()V"⟩]
def ax_cd (w : Cond) : Bool := match w with
  | .castable _ _ => true
  | .declares _ => true
  | _ => false
theorem ax_oth_cd : ∀ w ∈ ax_oth, ax_cd w = true := by decide +kernel
theorem ax_oth_t {w : Cond} (h : ax_cd w = true) : w.onTables = true := by
  cases w with
  | castable a b => rfl
  | declares x => rfl
  | _ => simp [ax_cd] at h
theorem ax_oth_w {s U : State} (hW : s.WarmedH U.vm) {w : Cond} (h : ax_cd w = true) (h1 : va_Nw w s) : va_Nw w U := by
  cases w with
  | castable a b => exact va_Nw.warmC hW h1
  | declares x => exact va_Nw.warmD hW h1
  | _ => simp [ax_cd] at h
def ax_Y (A : Nat → Prop) (U : State) (H : Heap) : Prop :=
  vx_Zq Bundle.tN "UNASSIGNED_STACK" Bundle.steD A U H ∧ vx_Zq Bundle.tN "SUPPRESSED_SENTINEL" Bundle.listD A U H ∧ (∀ w ∈ ax_oth, va_Nw w U) ∧ va_Nc "java/lang/UnsupportedOperationException" "java/lang/IllegalArgumentException" U
theorem ax_Y.kept {A : Nat → Prop} {U : State} {H H1 : Heap} (h : ax_Y A U H) (hq : ∀ a : Nat, a < H.size → ¬ A a → H1[a]? = H[a]?) : ax_Y A U H1 := ⟨h.1.kept hq, h.2.1.kept hq, h.2.2⟩
theorem ax_Y.moved {A : Nat → Prop} {s U : State} {H : Heap} (h : ax_Y A s H) (hW : s.WarmedH U.vm) : ax_Y A U H := ⟨vx_Zq.moved hW.alike h.1, vx_Zq.moved hW.alike h.2.1, fun w hw => ax_oth_w hW (ax_oth_cd w hw) (h.2.2.1 w hw), va_Nc.moved hW.alike h.2.2.2⟩
theorem ax_Y.narrow {A B : Nat → Prop} {U : State} {H : Heap} (h : ax_Y A U H) (hAB : ∀ q, B q → A q) : ax_Y B U H := ⟨h.1.narrow hAB, h.2.1.narrow hAB, h.2.2⟩
theorem ax_Y.same {A : Nat → Prop} {u U : State} {H : Heap} (hv : u.vm = U.vm) (h : ax_Y A u H) : ax_Y A U H := by
  have ha : u.vm.Alike U.vm := by rw [← hv]; exact Vm.Alike.refl u.vm
  exact ⟨vx_Zq.moved ha h.1, vx_Zq.moved ha h.2.1, fun w hw => va_Nw.same (ax_oth_t (ax_oth_cd w hw)) hv (h.2.2.1 w hw), va_Nc.moved ha h.2.2.2⟩
def ax_PreX (D : va_G) (cid : Nat → ClassId) (ad : Nat → Nat) (h : ax_H) (sz : Nat) (U : State) : Prop := ax_Pre D cid ad h sz U ∧ ax_Y (va_A (ax_w cid ad h) sz) U U.heap
def ax_PX (D : va_G) (cid : Nat → ClassId) (ad : Nat → Nat) (h0 : ax_H) (sz : Nat) (Ex : String) (Q : ax_H → Prop) : String → State → State → Prop := fun E st t =>
  E = Ex ∧ (∃ h : ax_H, Q h ∧ h.map Prod.fst = h0.map Prod.fst ∧ va_P D ax_cl (ax_w cid ad h) t.heap ∧ va_D (va_A (ax_w cid ad h0) sz) (ax_w cid ad h)) ∧ va_F (va_A (ax_w cid ad h0) sz) st t
/-- the contract of a method that throws Ex, from the cells h -/
def ax_CX (l : Launch) (y : MethodName) (cc : ByteArray) (nL : Nat) (ret : Option FieldType) (k : Nat) (as : List Value) (h : ax_H) (Ex : String) (Q : ax_H → Prop) : Prop :=
  ∀ (D : va_G) (cid : Nat → ClassId) (ad : Nat → Nat) (sz : Nat), vx_Met l y (Cond.code y cc nL ret :: ax_big) (ax_rmN k 1 6) (va_Pc (as.map (ax_v ad)) (ax_PreX D cid ad h sz)) (fun _ _ _ _ => False) (ax_PX D cid ad h sz Ex Q) 1 6 (va_A (ax_w cid ad h) sz)
set_option maxHeartbeats 1000000 in
theorem ax_ofX {l : Launch} {y : MethodName} {cc : ByteArray} {nL : Nat} {ret : Option FieldType} {k : Nat} {as : List Value} {h : ax_H} {Ex : String} {Qx : ax_H → Prop} (hy : plainName y.cls = true) (hn : (lg_sl as).length ≤ nL)
    (body : ∀ (p : Program) (e : Env) (s : State) (m : MethodId) (args : Array Value) (below : List Frame) (meth : Method) (c : Code) (D : va_G) (cid : Nat → ClassId) (ad : Nat → Nat) (A : Nat → Prop) (Qc : Array Value → State → Outcome → State → Prop) (XC : String → State → State → Prop),
      ax_G p s m args meth c (Cond.code y cc nL ret :: ax_big) y.cls cc nL D cid ad A → ax_Y A s s.heap → (∀ x ∈ c.exceptionTable.toList, False) →
      (∀ (h' : ax_H) (t : State) (H : Heap) (locs : List Loc), Qx h' → h'.map Prod.fst = h.map Prod.fst → va_P D ax_cl (ax_w cid ad h') H → va_D A (ax_w cid ad h') → va_S A s.heap H locs → H.size ≤ t.heap.size → (∀ q : Nat, q < H.size → t.heap[q]? = H[q]?) → XC Ex s t) →
      ax_V p l e (ax_rmN k 1 6) s m args below meth c D cid ad A nL 0 0 (vx_MQ below Qc XC args s 1 6 A) 0 (lv_args 0 as) [] h) : ax_CX l y cc nL ret k as h Ex Qx := by
  intro D cid ad sz
  refine vx_ofW (cc := cc) (maxL := nL) (ret := ret) hy rfl ?_
  intro p e s m args below meth c s₁ B hml htab hv
  obtain ⟨rfl, ⟨hsz, hP, hK, hD0, hN, hX⟩, hY⟩ := hv
  subst hsz
  have hD := hD0.self (sz := s.heap.size)
  rw [lg_entry_eq]
  have hl := lv_entry (as.map (ax_v ad)) (n := nL) (by rw [ax_slen]; exact hn)
  rw [ax_args] at hl
  refine body p e s m _ below meth c D cid ad _ _ _ ⟨B.exec, B.bytes, hml, findClass_of_methodNamed B.named, atoms_spec (ws := Cond.code y cc nL ret :: ax_big) B.pre, hK, fun q hq => Or.inr hq, B.notSynchronized, hN, fun w hw => List.mem_cons_of_mem _ hw, hX⟩ hY htab ?_ s.heap [] _ hP hD va_S.rf hl
  intro h' t H locs hq hk hP hD hS hz hkept
  refine ⟨rfl, ⟨h', hq, hk, fun k x hx => va_at.kept (hP k x hx) (hkept _ (hP k x hx).lt), hD⟩, Nat.le_trans hS.1 hz, fun q h1 h2 => ?_⟩
  rw [hkept q (Nat.lt_of_lt_of_le h1 hS.1)]
  exact hS.2.1 q h1 h2
section AXT
variable {p : Program} {l : Launch} {e : Env} {R : Room} {s : State} {m : MethodId} {args : Array Value} {below : List Frame} {meth : Method} {c : Code} {cells slots : Nat} {Q : State → Prop}
variable {D : va_G} {cid : Nat → ClassId} {ad : Nat → Nat} {A : Nat → Prop} {nL : Nat} {Ts : List Cond} {own : String} {cc : ByteArray}
variable {pc : Nat} {lv : List (Nat × Value)} {st : List Value} {h h0 : ax_H}
variable {Qc : Array Value → State → Outcome → State → Prop} {XC : String → State → State → Prop} {Qx : ax_H → Prop} {mc ms : Nat}
/-- throw new X() -/
theorem ax_throw (G : ax_G p s m args meth c Ts own cc nL D cid ad A) (Y : ax_Y A s s.heap) (htr : l.stackTraces = false) (htab : ∀ x ∈ c.exceptionTable.toList, False) {X : String} {names : List String} {ik ic : Nat}
    (E : ∀ (h' : ax_H) (t : State) (H : Heap) (locs : List Loc), Qx h' → h'.map Prod.fst = h0.map Prod.fst → va_P D ax_cl (ax_w cid ad h') H → va_D A (ax_w cid ad h') → va_S A s.heap H locs → H.size ≤ t.heap.size → (∀ q : Nat, q < H.size → t.heap[q]? = H[q]?) → XC X s t)
    (d0 : decode cc pc = .ok (.new ik, 3)) (d3 : decode cc (pc + 3) = .ok (.dup, 1)) (d4 : decode cc (pc + 4) = .ok (.invokespecial ic, 3)) (d7 : decode cc (pc + 7) = .ok (.athrow, 1))
    (hcls : Bundle.fit X = true) (hnames : ∀ n ∈ names, Bundle.fit n = true)
    (hw : Cond.classLink own ik X ∈ ax_big ∧ Cond.initialized X ∈ ax_big) (hat : ∀ w ∈ vx_at0 own ic X names, w ∈ ax_big ∨ w ∈ ax_oth) (hgood : ∀ w ∈ Cond.classLink own ik X :: Cond.initialized X :: vx_at0 own ic X names, vx_ot w = true)
    (hR : names.length + 3 < R.frames ∧ (st.map fun v => v.category).sum + (13 * (names.length + 1) + 42) ≤ R.locals ∧ cells + 1 ≤ R.cells ∧ slots + 6 ≤ R.slots) (hk : h.map Prod.fst = h0.map Prod.fst) (hq : Qx h) (hcs : cells + 1 ≤ mc ∧ slots + 6 ≤ ms) : ax_V p l e R s m args below meth c D cid ad A nL cells slots (vx_MQ below Qc XC args s mc ms A) pc lv st h := by
  intro H locs ls hP hD hS hl
  refine vx_throw0 (names := names) (A := A) G.1 G.2.1 htr G.2.2.2.1 hcls hnames (ax_say G hw.1) (ax_say G hw.2) (fun w hw' => ?_) hgood Y.1 Y.2.1 hS (hl.1.trans G.2.2.1.symm) d0 d3 d4 d7 (fun x hx => (htab x hx).elim) hR.1 ?_ hR.2.2.1 hR.2.2.2 G.2.2.2.2.2.2.2.1 (fun t _ hz hkept => E h t H locs hq hk hP hD hS hz hkept) hS.2.2 hcs.1 hcs.2
  · rcases hat w hw' with z | z
    · exact ax_say G z
    · exact va_Nw.use (ax_oth_t (ax_oth_cd w z)) (Y.2.2.1 w z)
  · rw [List.map_map, show ((fun v : Value => v.category) ∘ ax_v ad) = fun v => v.category from funext (ax_vc ad)]; exact hR.2.1
theorem ax_preX (G : ax_G p s m args meth c Ts own cc nL D cid ad A) (Y : ax_Y A s s.heap) {hc : ax_H} {H : Heap} {locs : List Loc} (hP : va_P D ax_cl (ax_w cid ad h) H) (hD : va_D A (ax_w cid ad h)) (hS : va_S A s.heap H locs) (hs : ax_sub hc h) (hn : va_nd (hc.map Prod.fst) = true) {U : State} (hU : U.heap = H) (hW : s.WarmedH U.vm) : ax_PreX D cid ad hc H.size U := by
  refine ⟨ax_pre G hP hD hS hs hn hU hW, ?_⟩
  rw [hU]
  exact ((Y.kept hS.2.1).moved hW).narrow (ax_subA hD hS G.2.2.2.2.2.2.1 hs)
theorem ax_blindX {as : List Value} {hc : ax_H} {sz : Nat} : FrameBlind (va_Pc as (ax_PreX D cid ad hc sz)) := by
  intro a U g mk q
  obtain ⟨q0, ⟨q1, qP, qK, qD, qN, qX⟩, qY⟩ := q
  exact ⟨q0, ⟨q1, qP, va_K.moved (u := U) (U := U.calling g mk a) (Vm.Alike.refl U.vm) qK, qD, ax_nest_same (u := U) (U := U.calling g mk a) rfl qN, qX.same (u := U) (U := U.calling g mk a) rfl⟩, qY.same (u := U) (U := U.calling g mk a) rfl⟩
set_option maxHeartbeats 1000000 in
/-- a call that throws, caught by the row x of this method's table -/
theorem ax_callX (G : ax_G p s m args meth c Ts own cc nL D cid ad A) (Y : ax_Y A s s.heap) {C : String} {y : MethodName} {bytes : ByteArray} {maxL : Nat} {ret : Option FieldType} {kr n i b q0 ci : Nat} {as' : List Value} {hc : ax_H} {Ex : String} {fs : List Value} {T : u_T} {N : Nat} {st0 : List Value}
    (ct : ax_CX l y bytes maxL ret kr (.ref b :: as') hc Ex Qx) (hEx : Cond.castable Ex Ex ∈ ax_oth) (d : decode cc pc = .ok (.invokevirtual i, 3)) (hst : st0 = as'.reverse ++ .ref b :: st) (hs : ax_sub hc h) (hn : va_nd (hc.map Prod.fst) = true)
    (hb : ax_f b h = some (q0, .inr (ci, fs))) (hcl : ax_cl[ci]? = some (C, T, N)) (hcode : Cond.code y bytes maxL ret ∈ ax_big) (hw : Cond.methodLink own i y ∈ ax_big ∧ Cond.instanceMethod y ∈ ax_big ∧ Cond.selects C y y ∈ ax_big ∧ Cond.initialized C ∈ ax_big)
    (hd : y.cls = C ∧ y.cls ≠ "java/lang/invoke/MethodHandle" ∧ y.cls ≠ "java/lang/invoke/VarHandle" ∧ (parseMethodDescriptor y.desc).map (fun d => d.parameters.length) = some n) (hlen : as'.length = n)
    (hR : kr + 1 ≤ R.frames ∧ 8 + (maxL + 11) + 40 * kr ≤ R.locals) (hwt : (st.map fun v => v.category).sum ≤ 8) (hf : cells + 1 ≤ R.cells ∧ slots + 6 ≤ R.slots)
    (pre : List ExceptionTableEntry) (x : ExceptionTableEntry) (suf : List ExceptionTableEntry) (hsplit : c.exceptionTable.toList = pre ++ x :: suf)
    (hpass : ∀ z ∈ pre, z.catchType ≠ 0 ∧ ∃ nm : String, Cond.classLink own z.catchType nm ∈ ax_big ∧ va_Nc Ex nm s) (hx : covers x pc = true) (h0x : x.catchType ≠ 0) (hlink : Cond.classLink own x.catchType Ex ∈ ax_big)
    (hfr : ax_hn [99] h = true ∧ ax_ln [99] lv = true) (hfx : ∀ hc', Qx hc' → ax_hn [99] (ax_m h hc') = true)
    (kk : ∀ (hc' : ax_H) (ad' : Nat → Nat), ax_ag [99] ad ad' → ax_G p s m args meth c Ts own cc nL D cid ad' A → Qx hc' → hc'.map Prod.fst = hc.map Prod.fst → ax_V p l e R s m args below meth c D cid ad' A nL (cells + 1) (slots + 6) Q x.handlerPc lv [.ref 99] (ax_m h hc')) : ax_V p l e R s m args below meth c D cid ad A nL cells slots Q pc lv st0 h := by
  intro H locs ls hP hD hS hl
  subst hst
  have hG := ax_goodIn G hcode
  obtain ⟨w1, w2, w3, w4⟩ := hw
  obtain ⟨hyc, hd1⟩ := hd
  subst hyc
  have hFc := ax_subA hD hS G.2.2.2.2.2.2.1 hs
  have hr := vx_runV (e := e) (p := p) (below := below) (meth := meth) (locs := locs) (cells := cells) (slots := slots) (n := n) (As := as'.map (ax_v ad)) (rest := st.map (ax_v ad)) (g := F0 m pc ls ((as'.reverse ++ .ref b :: st).map (ax_v ad))) (b := ad b) (C := y.cls) (Ts := Ts) (own := own) (index := i) (R := R) ⟨G.1, G.2.1, G.2.2.1, G.2.2.2.1, G.2.2.2.2.1⟩ (ct D cid ad H.size) ⟨callB_of n G.2.2.2.2.1 hG rfl rfl rfl (ax_say G w4) (ax_say G w1) hd1 hR, ax_say G w2, ax_say G w3⟩ ⟨ax_blindX, va_recv G.2.2.2.2.2.1 hP hcl (ax_wget (ax_f_spec hb)), fun U hU hW => ⟨rfl, ax_preX G Y hP hD hS hs hn hU hW⟩⟩ rfl (by rw [List.length_map]; exact hlen) hl.1 (by simp [F0, List.map_reverse, ax_v]) (lv_room (by rw [List.map_map, show ((fun v : Value => v.category) ∘ ax_v ad) = fun v => v.category from funext (ax_vc ad)]; exact hwt)) d hf
  intro T1 hT1 X1
  rcases hr T1 hT1 X1 with ⟨v, st₀, t, T', L, h0', X', hL, e1, e2, hfalse, stp⟩ | ⟨q, st₀, t, T', L, E1, ce, h0', X', hL, e1, e2, ⟨hE1, ⟨hc', hq, hkeys, hP1, hD1⟩, hz, hk⟩, hce, hcv, hcle, stp⟩
  · exact hfalse.elim
  · subst hE1
    rw [h0'] at hz hk
    obtain ⟨hP2, hD2⟩ := ax_join hP hD hs hkeys hk hP1
    have hS2 : va_S A s.heap T'.heap (locs ++ L) := ⟨Nat.le_trans hS.1 (by rw [e1]; exact hz), fun q h1 h2 => by rw [e1, hk q (Nat.lt_of_lt_of_le h1 hS.1) (fun z => h2 (hFc q z))]; exact hS.2.1 q h1 h2, fun q hq => by
        rcases List.mem_append.mp hq with h | h
        · exact hS.2.2 q h
        · exact hFc _ (hL q h)⟩
    have hg := ax_up_ag ad 99 q
    have k1 := kk hc' _ hg (ax_G_ag hg (ax_k1 (by decide)) G) hq hkeys T'.heap (locs ++ L) ls (by rw [ax_w_ag hg (hfx hc' hq), e1]; exact hP2) (by rw [ax_w_ag hg (hfx hc' hq)]; exact hD2) hS2 (by rw [ax_l_ag hg hfr.2]; exact hl)
    have es : ([Value.ref 99] : List Value).map (ax_v (ax_up ad 99 q)) = [.ref q] := by
      show [Value.ref (ax_up ad 99 q 99)] = _
      rw [ax_up_s]
    rw [es] at k1
    have kc := vx_catch (rest := st.map (ax_v ad)) (name := E1) (own := own) (ls := ls) (pc := pc) G.2.2.2.1 pre x suf hsplit (fun z hz2 => by
      obtain ⟨a1, nm, a2, a3⟩ := hpass z hz2
      exact Or.inr ⟨a1, nm, ax_say G a2, a3⟩) hx h0x (ax_say G hlink) (va_Nw.use rfl (Y.2.2.1 _ hEx)) (by rw [e1]; exact hce) hcv hcle k1
    obtain ⟨t2, a1, b1⟩ := kc T' rfl X'
    exact ⟨t2, stp.trans a1, b1⟩
end AXT
/-- the contract of a method with a table of its own, which may make a cell of 6 -/
def ax_CH (l : Launch) (y : MethodName) (cc : ByteArray) (nL : Nat) (ret : Option FieldType) (hh : List (Nat × Nat × Nat × Nat)) (k : Nat) (as : List Value) (h : ax_H) (Q : Option Value → ax_H → Prop) : Prop :=
  ∀ (D : va_G) (cid : Nat → ClassId) (ad : Nat → Nat) (sz : Nat), vx_Met l y (Cond.codeWith y cc nL ret hh :: ax_big) (ax_rmN k 1 6) (va_Pc (as.map (ax_v ad)) (ax_PreX D cid ad h sz)) (ax_Post D cid ad h sz Q) (fun _ _ _ => False) 1 6 (va_A (ax_w cid ad h) sz)
set_option maxHeartbeats 1000000 in
theorem ax_ofH {l : Launch} {y : MethodName} {cc : ByteArray} {nL : Nat} {ret : Option FieldType} {hh : List (Nat × Nat × Nat × Nat)} {k : Nat} {as : List Value} {h : ax_H} {Q : Option Value → ax_H → Prop} (hy : plainName y.cls = true) (hn : (lg_sl as).length ≤ nL)
    (body : ∀ (p : Program) (e : Env) (s : State) (m : MethodId) (args : Array Value) (below : List Frame) (meth : Method) (c : Code) (D : va_G) (cid : Nat → ClassId) (ad : Nat → Nat) (A : Nat → Prop) (Qc : Array Value → State → Outcome → State → Prop),
      ax_G p s m args meth c (Cond.codeWith y cc nL ret hh :: ax_big) y.cls cc nL D cid ad A → ax_Y A s s.heap → c.exceptionTable.toList = tableOf hh → meth.sig.returnType = ret →
      (∀ (r : Option Value) (h' : ax_H) (t : State) (H : Heap) (locs : List Loc), Q r h' → h'.map Prod.fst = h.map Prod.fst → va_P D ax_cl (ax_w cid ad h') H → va_D A (ax_w cid ad h') → va_S A s.heap H locs → t.heap = H → Qc args s (.returned (r.map (ax_v ad))) t) →
      ax_V p l e (ax_rmN k 1 6) s m args below meth c D cid ad A nL 0 0 (vx_MQ below Qc (fun _ _ _ => False) args s 1 6 A) 0 (lv_args 0 as) [] h) : ax_CH l y cc nL ret hh k as h Q := by
  intro D cid ad sz
  refine vx_ofWH (cc := cc) (maxL := nL) (ret := ret) (hh := hh) hy rfl ?_
  intro p e s m args below meth c s₁ B hml hv
  obtain ⟨rfl, ⟨hsz, hP, hK, hD0, hN, hX⟩, hY⟩ := hv
  subst hsz
  have hD := hD0.self (sz := s.heap.size)
  have hT := vx_table (x := y) B (atoms_spec (ws := Cond.codeWith y cc nL ret hh :: ax_big) B.pre _ List.mem_cons_self)
  rw [lg_entry_eq]
  have hl := lv_entry (as.map (ax_v ad)) (n := nL) (by rw [ax_slen]; exact hn)
  rw [ax_args] at hl
  exact body p e s m _ below meth c D cid ad _ _ ⟨B.exec, B.bytes, hml, findClass_of_methodNamed B.named, atoms_spec (ws := Cond.codeWith y cc nL ret hh :: ax_big) B.pre, hK, fun q hq => Or.inr hq, B.notSynchronized, hN, fun w hw => List.mem_cons_of_mem _ hw, hX⟩ hY hT B.returns
    (fun r h' t H locs hq hk hP hD hS ht => ⟨⟨r, h', rfl, hq, hk, by rw [ht]; exact hP, hD⟩, hS.F ht⟩) s.heap [] _ hP hD va_S.rf hl
section AXH
variable {p : Program} {l : Launch} {e : Env} {R : Room} {s : State} {m : MethodId} {args : Array Value} {below : List Frame} {meth : Method} {c : Code} {cells slots : Nat} {Q : State → Prop}
variable {D : va_G} {cid : Nat → ClassId} {ad ad0 : Nat → Nat} {A : Nat → Prop} {nL : Nat} {Ts : List Cond} {own : String} {cc : ByteArray}
variable {pc : Nat} {lv : List (Nat × Value)} {st : List Value} {h h0 : ax_H}
variable {Qc : Array Value → State → Outcome → State → Prop} {XC : String → State → State → Prop} {Qa : Option Value → ax_H → Prop} {mc ms : Nat}
theorem ax_iretH (G : ax_G p s m args meth c Ts own cc nL D cid ad A) (hr : meth.sig.returnType = some .int) (E : ∀ (r : Option Value) (h' : ax_H) (t : State) (H : Heap) (locs : List Loc), Qa r h' → h'.map Prod.fst = h0.map Prod.fst → va_P D ax_cl (ax_w cid ad0 h') H → va_D A (ax_w cid ad0 h') → va_S A s.heap H locs → t.heap = H → Qc args s (.returned (r.map (ax_v ad0))) t)
    (hg : ax_ag [99] ad0 ad) (hfr : ax_hn [99] h = true) {v : Int32} (d : decode cc pc = .ok (.ireturn, 1)) (hk : h.map Prod.fst = h0.map Prod.fst) (hq : Qa (some (.int v)) h) (hcs : cells ≤ mc ∧ slots ≤ ms) : ax_V p l e R s m args below meth c D cid ad A nL cells slots (vx_MQ below Qc XC args s mc ms A) pc lv [.int v] h := by
  intro H locs ls hP hD hS hl
  rw [ax_w_ag hg hfr] at hP hD
  exact vx_ret (W.widen hcs.1 hcs.2 (W.iret G.1 G.2.1 hr (fun t ht _ => E (some (.int v)) h t H locs hq hk hP hD hS ht) hS.2.2 d G.2.2.2.2.2.2.2.1))
set_option maxHeartbeats 1000000 in
/-- a call of such a static method -/
theorem ax_callH (G : ax_G p s m args meth c Ts own cc nL D cid ad A) (Y : ax_Y A s s.heap) {y : MethodName} {bytes : ByteArray} {maxL : Nat} {ret : Option FieldType} {hh : List (Nat × Nat × Nat × Nat)} {kr n i : Nat} {as : List Value} {hc : ax_H} {st0 : List Value}
    (ct : ax_CH l y bytes maxL ret hh kr as hc Qa) (d : decode cc pc = .ok (.invokestatic i, 3)) (hst : st0 = as.reverse ++ st) (hs : ax_sub hc h) (hn : va_nd (hc.map Prod.fst) = true)
    (hcode : Cond.codeWith y bytes maxL ret hh ∈ ax_big) (hw : Cond.methodLink own i y ∈ ax_big ∧ Cond.static y ∈ ax_big ∧ Cond.initialized y.cls ∈ ax_big)
    (hd : y.cls ≠ "java/lang/invoke/MethodHandle" ∧ y.cls ≠ "java/lang/invoke/VarHandle" ∧ (parseMethodDescriptor y.desc).map (fun d => d.parameters.length) = some n) (hlen : as.length = n)
    (hR : kr + 1 ≤ R.frames ∧ 8 + (maxL + 11) + 40 * kr ≤ R.locals) (hwt : (st.map fun v => v.category).sum ≤ 8) (hf : cells + 1 ≤ R.cells ∧ slots + 6 ≤ R.slots)
    (kk : ∀ (r : Option Value) (hc' : ax_H), Qa r hc' → hc'.map Prod.fst = hc.map Prod.fst → ax_V p l e R s m args below meth c D cid ad A nL (cells + 1) (slots + 6) Q (pc + 3) lv (r.toList ++ st) (ax_m h hc')) : ax_V p l e R s m args below meth c D cid ad A nL cells slots Q pc lv st0 h := by
  intro H locs ls hP hD hS hl
  subst hst
  obtain ⟨w1, w2, w3⟩ := hw
  have hG : GoodIn Ts (Cond.codeWith y bytes maxL ret hh :: ax_big) := by
    intro w hw
    have h1 : w ∈ ax_big := by
      rcases List.mem_cons.mp hw with e | e
      · rw [e]; exact hcode
      · exact e
    exact ⟨G.2.2.2.2.2.2.2.2.2.1 w h1, good_of_word (ax_good w h1)⟩
  have hFc := ax_subA hD hS G.2.2.2.2.2.2.1 hs
  have cw : vx_CSW R s args own i y bytes maxL ret hh (Cond.codeWith y bytes maxL ret hh :: ax_big) (ax_rmN kr 1 6) 1 6 n := by
    refine ⟨⟨rfl, rfl, hR.1, hR.2, pay_in G.2.2.2.2.1 hG, List.mem_cons_self⟩, ax_say G hcode, ax_say G w3, ⟨hd.1, hd.2.1⟩, fun sig h9 => ?_, ax_say G w1, ax_say G w2⟩
    have h2 := hd.2.2
    rw [h9] at h2
    exact (Option.some.inj h2).symm
  have hr := vx_runSX (e := e) (p := p) (below := below) (meth := meth) (locs := locs) (cells := cells) (slots := slots) (n := n) (As := as.map (ax_v ad)) (rest := st.map (ax_v ad)) (g := F0 m pc ls ((as.reverse ++ st).map (ax_v ad))) (Ts := Ts) (own := own) (index := i) (R := R) ⟨G.1, G.2.1, G.2.2.1, G.2.2.2.1, G.2.2.2.2.1⟩ (ct D cid ad H.size) cw ⟨ax_blindX, fun U hU hW => ⟨rfl, ax_preX G Y hP hD hS hs hn hU hW⟩⟩ rfl (by rw [List.length_map]; exact hlen) hl.1 (by simp [F0, List.map_reverse]) (lv_room (by rw [List.map_map, show ((fun v : Value => v.category) ∘ ax_v ad) = fun v => v.category from funext (ax_vc ad)]; exact hwt)) d hf
  intro T1 hT1 X1
  rcases hr T1 hT1 X1 with ⟨v, st₀, t, T', L, h0', X', hL, e1, e2, ⟨⟨r, hc', hv, hq, hkeys, hP1, hD1⟩, hz, hk⟩, stp⟩ | ⟨q, st₀, t, T', L, E1, ce, h0', X', hL, e1, e2, hfalse, hce, hcv, hcle, stp⟩
  · cases hv
    rw [h0'] at hz hk
    obtain ⟨hP2, hD2⟩ := ax_join hP hD hs hkeys hk hP1
    have hS2 : va_S A s.heap T'.heap (locs ++ L) := ⟨Nat.le_trans hS.1 (by rw [e1]; exact hz), fun q h1 h2 => by rw [e1, hk q (Nat.lt_of_lt_of_le h1 hS.1) (fun z => h2 (hFc q z))]; exact hS.2.1 q h1 h2, fun q hq => by
        rcases List.mem_append.mp hq with h | h
        · exact hS.2.2 q h
        · exact hFc _ (hL q h)⟩
    obtain ⟨t2, a1, b1⟩ := kk r hc' hq hkeys T'.heap (locs ++ L) ls (by rw [e1]; exact hP2) hD2 hS2 hl T' rfl X'
    refine ⟨t2, stp t2 ?_, b1⟩
    have e3 : (r.toList ++ st).map (ax_v ad) = (r.map (ax_v ad)).toList ++ st.map (ax_v ad) := by cases r <;> rfl
    rw [e3] at a1
    exact a1
  · exact hfalse.elim
end AXH
