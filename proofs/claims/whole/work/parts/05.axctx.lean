/-! what lies still: the String constants (100 + i the String, 110 + i its bytes), the table of fives (120) -/
def ax_len : List Nat := [16, 16, 2, 3, 3, 16, 3, 3]
def ax_txt (s : String) : List Int32 := s.toList.map (fun c => Int32.ofNat c.toNat)
def ax_byt : List (List Int32) := ["diuoxXceEfFgGaA%", "0123456789abcdef", "0x", "inf", "nan", "diouxXceEfFgGaA%", "INF", "NAN"].map ax_txt
def ax_refs : List (String × Nat × String × Nat) := [("FormatDesk$Directive", 87, "diuoxXceEfFgGaA%", 0), ("FormatDesk$Piece", 45, "0123456789abcdef", 1), ("FormatDesk$Writer", 78, "0x", 2), ("FormatDesk$Writer", 106, "inf", 3), ("FormatDesk$Writer", 108, "nan", 4), ("FormatDeskModel", 101, "diouxXceEfFgGaA%", 5), ("FormatDeskModel", 218, "INF", 6), ("FormatDeskModel", 220, "inf", 3), ("FormatDeskModel", 222, "NAN", 7), ("FormatDeskModel", 224, "nan", 4)]
def ax_five (j : Nat) : Int64 := Int64.ofNat (5 ^ j)
def ax_X (ad : Nat → Nat) (A : Nat → Prop) (U : State) (H : Heap) : Prop :=
  vk_S 8 ax_len ax_byt (fun i => ad (100 + i)) (fun i => ad (110 + i)) A U H ∧ (∀ q ∈ ax_refs, vk_R q.1 q.2.1 q.2.2.1 (ad (100 + q.2.2.2)) U) ∧ va_Z "java/lang/String" "COMPACT_STRINGS" "Z" (.int 1) A U H ∧ va_Z "FormatDesk$Decimal" "FIVES" "[J" (.ref (ad 120)) A U H ∧ va_T .long (ad 120) 13 (fun j => .long (ax_five j)) A U H ∧ (va_Z "jdk/internal/util/Preconditions" "SIOOBE_FORMATTER" "Ljava/util/function/BiFunction;" .null A U H ∨ va_Z "jdk/internal/util/Preconditions" "SIOOBE_FORMATTER" "Ljava/util/function/BiFunction;" (.ref (ad 121)) A U H)
theorem ax_X.kept {ad : Nat → Nat} {A : Nat → Prop} {U : State} {H H1 : Heap} (h : ax_X ad A U H) (hq : ∀ a : Nat, a < H.size → ¬ A a → H1[a]? = H[a]?) : ax_X ad A U H1 :=
  ⟨h.1.kept hq, h.2.1, h.2.2.1.kept hq, h.2.2.2.1.kept hq, h.2.2.2.2.1.kept hq, h.2.2.2.2.2.imp (fun z => z.kept hq) (fun z => z.kept hq)⟩
theorem ax_X.moved {ad : Nat → Nat} {A : Nat → Prop} {s U : State} {H : Heap} (h : ax_X ad A s H) (hW : s.WarmedH U.vm) : ax_X ad A U H :=
  ⟨vk_S.moved hW.alike h.1, fun q hq => (h.2.1 q hq).warm hW, va_Z.moved hW.alike h.2.2.1, va_Z.moved hW.alike h.2.2.2.1, va_T.moved hW.alike h.2.2.2.2.1, h.2.2.2.2.2.imp (fun z => va_Z.moved hW.alike z) (fun z => va_Z.moved hW.alike z)⟩
theorem ax_X.narrow {ad : Nat → Nat} {A B : Nat → Prop} {U : State} {H : Heap} (h : ax_X ad A U H) (hAB : ∀ q, B q → A q) : ax_X ad B U H :=
  ⟨h.1.narrow hAB, h.2.1, h.2.2.1.narrow hAB, h.2.2.2.1.narrow hAB, h.2.2.2.2.1.narrow hAB, h.2.2.2.2.2.imp (fun z => z.narrow hAB) (fun z => z.narrow hAB)⟩
theorem ax_X.same {ad : Nat → Nat} {A : Nat → Prop} {u U : State} {H : Heap} (hv : u.vm = U.vm) (h : ax_X ad A u H) : ax_X ad A U H := by
  have ha : u.vm.Alike U.vm := by rw [← hv]; exact Vm.Alike.refl u.vm
  exact ⟨vk_S.moved ha h.1, fun q hq => (h.2.1 q hq).same hv.symm, va_Z.moved ha h.2.2.1, va_Z.moved ha h.2.2.2.1, va_T.moved ha h.2.2.2.2.1, h.2.2.2.2.2.imp (fun z => va_Z.moved ha z) (fun z => va_Z.moved ha z)⟩
/-! THE ABSTRACT LAYER, 2: a method's ground, the judgement ax_V, contracts ax_CT -/
theorem ax_narrow {ad : Nat → Nat} {ty : FieldType} {v : Value} (h : narrow ty v = v) : narrow ty (ax_v ad v) = ax_v ad v := by
  cases v with
  | ref i => cases ty <;> rfl
  | _ => exact h
theorem ax_fits {ad : Nat → Nat} {ty : FieldType} {v : Value} (h : fits ty v = true) : fits ty (ax_v ad v) = true := by
  cases v with
  | ref i => cases ty <;> first | exact h | rfl
  | _ => exact h
/-- a method's ground: the machine, its code, the tables' words, the classes, what lies still -/
def ax_G (p : Program) (s : State) (m : MethodId) (args : Array Value) (meth : Method) (c : Code) (Ts : List Cond) (own : String) (cc : ByteArray) (nL : Nat) (D : va_G) (cid : Nat → ClassId) (ad : Nat → Nat) (A : Nat → Prop) : Prop :=
  p.tables.exec = Jvm.exec ∧ c.code = cc ∧ c.maxLocals = nL ∧ s.vm.findClass own = some m.cls ∧ (∀ w ∈ Ts, w.before args s = true) ∧ va_K D ax_cl (ax_tys cid) s ∧ (∀ q : Nat, s.heap.size ≤ q → A q) ∧ meth.locks = false ∧ (∀ w ∈ ax_nest, va_Nw w s) ∧ (∀ w ∈ ax_big, w ∈ Ts) ∧ ax_X ad A s s.heap
theorem ax_say {p : Program} {s : State} {m : MethodId} {args : Array Value} {meth : Method} {c : Code} {Ts : List Cond} {own : String} {cc : ByteArray} {nL : Nat} {D : va_G} {cid : Nat → ClassId} {ad : Nat → Nat} {A : Nat → Prop} (G : ax_G p s m args meth c Ts own cc nL D cid ad A) {w : Cond} (hw : w ∈ ax_big) : w.before args s = true := G.2.2.2.2.1 w (G.2.2.2.2.2.2.2.2.2.1 w hw)
theorem ax_lays {p : Program} {s : State} {m : MethodId} {args : Array Value} {meth : Method} {c : Code} {Ts : List Cond} {own : String} {cc : ByteArray} {nL : Nat} {D : va_G} {cid : Nat → ClassId} {ad : Nat → Nat} {A : Nat → Prop} (G : ax_G p s m args meth c Ts own cc nL D cid ad A) {ci : Nat} {C : String} {T : u_T} {N : Nat} (hc : ax_cl[ci]? = some (C, T, N)) : ∀ w ∈ u_ws C T N, w ∈ Ts := fun w hw => G.2.2.2.2.2.2.2.2.2.1 w (ax_laysB hc w hw)
def ax_V (p : Program) (l : Launch) (e : Env) (R : Room) (s : State) (m : MethodId) (args : Array Value) (below : List Frame) (meth : Method) (c : Code) (D : va_G) (cid : Nat → ClassId) (ad : Nat → Nat) (A : Nat → Prop) (nL : Nat) (cells slots : Nat) (Q : State → Prop) (pc : Nat) (lv : List (Nat × Value)) (st : List Value) (h : ax_H) : Prop :=
  ∀ (H : Heap) (locs : List Loc) (ls : Array Slot), va_P D ax_cl (ax_w cid ad h) H → va_D A (ax_w cid ad h) → va_S A s.heap H locs → lv_has ls nL (ax_l ad lv) →
    W p l e R s m args below meth c H locs cells slots Q (F0 m pc ls (st.map (ax_v ad)))
def ax_Pre (D : va_G) (cid : Nat → ClassId) (ad : Nat → Nat) (h : ax_H) (sz : Nat) (U : State) : Prop :=
  U.heap.size = sz ∧ va_P D ax_cl (ax_w cid ad h) U.heap ∧ va_K D ax_cl (ax_tys cid) U ∧ va_D (fun _ => True) (ax_w cid ad h) ∧ (∀ w ∈ ax_nest, va_Nw w U) ∧ ax_X ad (va_A (ax_w cid ad h) sz) U U.heap
def ax_Post (D : va_G) (cid : Nat → ClassId) (ad : Nat → Nat) (h0 : ax_H) (sz : Nat) (Q : Option Value → ax_H → Prop) : Array Value → State → Outcome → State → Prop := fun _ st oc t =>
  (∃ (r : Option Value) (h : ax_H), oc = .returned (r.map (ax_v ad)) ∧ Q r h ∧ h.map Prod.fst = h0.map Prod.fst ∧ va_P D ax_cl (ax_w cid ad h) t.heap ∧ va_D (va_A (ax_w cid ad h0) sz) (ax_w cid ad h)) ∧ va_F (va_A (ax_w cid ad h0) sz) st t
def ax_rm (k : Nat) : Room := { frames := k, cells := 0, slots := 0, locals := 40 * k }
/-- the contract of a method that makes nothing: called with 'as' where the cells are h, it comes back with an answer and cells of which Q holds -/
def ax_CT (l : Launch) (y : MethodName) (cc : ByteArray) (nL : Nat) (ret : Option FieldType) (k : Nat) (as : List Value) (h : ax_H) (Q : Option Value → ax_H → Prop) : Prop :=
  ∀ (D : va_G) (cid : Nat → ClassId) (ad : Nat → Nat) (sz : Nat), Met l y (Cond.code y cc nL ret :: ax_big) (ax_rm k) (va_Pc (as.map (ax_v ad)) (ax_Pre D cid ad h sz)) (ax_Post D cid ad h sz Q) 0 0 (va_A (ax_w cid ad h) sz)
theorem ax_args (ad : Nat → Nat) : ∀ (as : List Value) (i : Nat), lv_args i (as.map (ax_v ad)) = ax_l ad (lv_args i as)
  | [], _ => rfl
  | v :: as, i => by
    show (i, ax_v ad v) :: lv_args (if (ax_v ad v).category = 2 then i + 2 else i + 1) (as.map (ax_v ad)) = (i, ax_v ad v) :: ax_l ad (lv_args (if v.category = 2 then i + 2 else i + 1) as)
    rw [ax_vc, ax_args ad as]
theorem ax_slen (ad : Nat → Nat) : ∀ (as : List Value), (lg_sl (as.map (ax_v ad))).length = (lg_sl as).length
  | [] => rfl
  | v :: as => by
    have e1 : lg_sl ((v :: as).map (ax_v ad)) = (if (ax_v ad v).category = 2 then [.val (ax_v ad v), .second] else [.val (ax_v ad v)]) ++ lg_sl (as.map (ax_v ad)) := rfl
    have e2 : lg_sl (v :: as) = (if v.category = 2 then [.val v, .second] else [.val v]) ++ lg_sl as := rfl
    rw [e1, e2, ax_vc, List.length_append, List.length_append, ax_slen ad as]
    by_cases hc : v.category = 2
    · rw [if_pos hc, if_pos hc]; rfl
    · rw [if_neg hc, if_neg hc]; rfl
set_option maxHeartbeats 1000000 in
/-- a contract out of the walk of the body -/
theorem ax_ofV {l : Launch} {y : MethodName} {cc : ByteArray} {nL : Nat} {ret : Option FieldType} {k : Nat} {as : List Value} {h : ax_H} {Q : Option Value → ax_H → Prop} (hy : plainName y.cls = true) (hn : (lg_sl as).length ≤ nL)
    (body : ∀ (p : Program) (e : Env) (s : State) (m : MethodId) (args : Array Value) (below : List Frame) (meth : Method) (c : Code) (D : va_G) (cid : Nat → ClassId) (ad : Nat → Nat) (A : Nat → Prop) (Qc : Array Value → State → Outcome → State → Prop),
      ax_G p s m args meth c (Cond.code y cc nL ret :: ax_big) y.cls cc nL D cid ad A → meth.sig.returnType = ret →
      (∀ (r : Option Value) (h' : ax_H) (t : State) (H : Heap) (locs : List Loc), Q r h' → h'.map Prod.fst = h.map Prod.fst → va_P D ax_cl (ax_w cid ad h') H → va_D A (ax_w cid ad h') → va_S A s.heap H locs → t.heap = H → Qc args s (.returned (r.map (ax_v ad))) t) →
      ax_V p l e (ax_rm k) s m args below meth c D cid ad A nL 0 0 (MQ below Qc args s 0 0 A) 0 (lv_args 0 as) [] h) : ax_CT l y cc nL ret k as h Q := by
  intro D cid ad sz
  refine Met.ofW (cc := cc) (maxL := nL) (ret := ret) hy rfl ?_
  intro p e s m args below meth c s₁ B hml hv
  obtain ⟨rfl, hsz, hP, hK, hD0, hN, hX⟩ := hv
  subst hsz
  have hD := hD0.self (sz := s.heap.size)
  rw [lg_entry_eq]
  have hl := lv_entry (as.map (ax_v ad)) (n := nL) (by rw [ax_slen]; exact hn)
  rw [ax_args] at hl
  exact body p e s m _ below meth c D cid ad _ _ ⟨B.exec, B.bytes, hml, findClass_of_methodNamed B.named, atoms_spec (ws := Cond.code y cc nL ret :: ax_big) B.pre, hK, fun q hq => Or.inr hq, B.notSynchronized, hN, fun w hw => List.mem_cons_of_mem _ hw, hX⟩ B.returns
    (fun r h' t H locs hq hk hP hD hS ht => ⟨⟨r, h', rfl, hq, hk, by rw [ht]; exact hP, hD⟩, hS.F ht⟩) s.heap [] _ hP hD va_S.rf hl
