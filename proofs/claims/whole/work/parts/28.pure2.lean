/-! pure rows: letters, digits of a word, booleans -/
def zb (b : Bool) : Int32 := if b then 1 else 0
theorem zb_nar (b : Bool) : narrow .boolean (.int (zb b)) = .int (zb b) := by cases b <;> rfl
theorem zb_fit (b : Bool) : fits .boolean (.int (zb b)) = true := by cases b <;> decide
theorem zb_ne (b : Bool) : (zb b = 0) ↔ b = false := by cases b <;> decide
def ul (w : Int64) : Nat := w.toBitVec.toNat
def uw (n : Nat) : Int64 := Int64.ofNat n
theorem ul_lt (w : Int64) : ul w < 2 ^ 64 := w.toBitVec.isLt
theorem ul_uw {n : Nat} (h : n < 2 ^ 64) : ul (uw n) = n := by
  show (Int64.ofNat n).toBitVec.toNat = n
  rw [Int64.toBitVec_ofNat', BitVec.toNat_ofNat]
  exact Nat.mod_eq_of_lt h
theorem ul_inj {a b : Int64} (h : ul a = ul b) : a = b := Int64.toBitVec_inj.mp (BitVec.eq_of_toNat_eq h)
theorem uw_ul (w : Int64) : uw (ul w) = w := ul_inj (ul_uw (ul_lt w))
theorem ul_0 {w : Int64} : w = 0 ↔ ul w = 0 := ⟨fun h => by rw [h]; rfl, fun h => ul_inj h⟩
theorem uw_ush (n k : Nat) (hn : n < 2 ^ 64) (z : UInt64) (hz : z.toNat % 64 = k) : ((uw n).toUInt64 >>> z).toInt64 = uw (n / 2 ^ k) := by
  apply ul_inj
  have h1 := ush_nat (uw n) z
  rw [hz, show (uw n).toBitVec.toNat = n from ul_uw hn] at h1
  rw [ul_uw (Nat.lt_of_le_of_lt (Nat.div_le_self _ _) hn)]
  exact h1
theorem uw_lN (n : Nat) : uw n = lN n := rfl
/-- a hexadecimal digit's letter -/
def hx (k : Nat) : Nat := if k < 10 then 48 + k else 87 + k
theorem hx_lt {k : Nat} (h : k < 16) : hx k < 128 := by unfold hx; split <;> omega
theorem hx_byt : ∀ k, k < 16 → (ax_byt.getD 1 []).getD k 0 = nI (hx k) := by decide +kernel
/-- how many digits -/
def dgf (b : Nat) : Nat → Nat → Nat
  | 0, _ => 0
  | k + 1, U => if U = 0 then 0 else 1 + dgf b k (U / b)
theorem dgf_s (b k U : Nat) : dgf b (k + 1) U = if U = 0 then 0 else 1 + dgf b k (U / b) := rfl
/-- the lowest n digits' letters -/
def wl (U b n : Nat) : List Nat := (List.range n).map (fun j => hx (U / b ^ (n - 1 - j) % b))
theorem wl_len (U b n : Nat) : (wl U b n).length = n := by unfold wl; rw [List.length_map, List.length_range]
theorem wl_at (U b n j : Nat) (h : j < n) : (wl U b n).getD j 0 = hx (U / b ^ (n - 1 - j) % b) := by
  unfold wl
  rw [List.getD_eq_getElem?_getD, List.getElem?_map, List.getElem?_range h]
  rfl
def sgn (neg plus blank : Bool) : List Nat := if neg then [45] else if plus then [43] else if blank then [32] else []
def up (c : Nat) : Nat := if 97 ≤ c ∧ c ≤ 122 then c - 32 else c
/-- the words' letters -/
def st_wd (t : Nat) : List Nat := (["diuoxXceEfFgGaA%", "0123456789abcdef", "0x", "inf", "nan", "diouxXceEfFgGaA%", "INF", "NAN"].getD t "").toList.map Char.toNat
theorem st_wd_at : ∀ t, t < 8 → (st_wd t).length = ax_len.getD t 0 ∧ ∀ k, k < 16 → (ax_byt.getD t []).getD k 0 = nI ((st_wd t).getD k 0) ∧ (st_wd t).getD k 0 < 128 := by decide +kernel
/-- a row holds letters -/
def pi_is (f : Nat → Int32) (bs : List Nat) : Prop := ∀ i, i < bs.length → f i = nI (bs.getD i 0) ∧ bs.getD i 0 < 128
theorem pi_nil (f : Nat → Int32) : pi_is f [] := fun i h => absurd h (Nat.not_lt_zero i)
theorem gd_app {bs cs : List Nat} {i : Nat} (h : i < bs.length) : (bs ++ cs).getD i 0 = bs.getD i 0 := by
  rw [List.getD_eq_getElem?_getD, List.getD_eq_getElem?_getD, List.getElem?_append_left h]
theorem gd_app2 {bs cs : List Nat} {i : Nat} : (bs ++ cs).getD (bs.length + i) 0 = cs.getD i 0 := by
  rw [List.getD_eq_getElem?_getD, List.getD_eq_getElem?_getD, List.getElem?_append_right (by omega), Nat.add_sub_cancel_left]
theorem pi_app {f : Nat → Int32} {bs cs : List Nat} (h1 : pi_is f bs) (h2 : ∀ i, i < cs.length → f (bs.length + i) = nI (cs.getD i 0) ∧ cs.getD i 0 < 128) : pi_is f (bs ++ cs) := by
  intro i hi
  rw [List.length_append] at hi
  by_cases h : i < bs.length
  · rw [gd_app h]; exact h1 i h
  · obtain ⟨j, rfl⟩ : ∃ j, i = bs.length + j := ⟨i - bs.length, by omega⟩
    rw [gd_app2]; exact h2 j (by omega)
theorem pi_pre {f : Nat → Int32} {bs cs : List Nat} (h : pi_is f (bs ++ cs)) : pi_is f bs := by
  intro i hi
  have := h i (by rw [List.length_append]; omega)
  rw [gd_app hi] at this; exact this
theorem pi_put {f : Nat → Int32} {bs : List Nat} {c : Nat} (h : pi_is f bs) (hc : c < 128) : pi_is (upd f bs.length (vp_nar .byte (nI c).toInt8.toInt32)) (bs ++ [c]) := by
  refine pi_app (fun i hi => ?_) (fun i hi => ?_)
  · rw [pk_un (by omega)]; exact h i hi
  · have e : i = 0 := by simpa using hi
    subst e
    rw [Nat.add_zero, pk_us, pk_vb, by_nI hc]
    exact ⟨rfl, hc⟩
abbrev pc_Pi (sz zp : Int32) (f : Nat → Int32) : ax_H := [(7, .inr (3, [.ref 8, .int sz, .int zp])), (8, .inl (1, 520, .inl f))]
/-- the piece holds these letters -/
def pi_P (bs : List Nat) (zp : Int32) (h : ax_H) : Prop := ∃ f, h = pc_Pi (nI bs.length) zp f ∧ pi_is f bs
abbrev pc_Di (lf pl bl ha ze : Bool) (w : Int32) (wt : Bool) (pr : Int32) (pt : Bool) (k : Int32) (gr : Bool) (pl2 : Int32) : ax_H := [(5, .inr (1, [.int (zb lf), .int (zb pl), .int (zb bl), .int (zb ha), .int (zb ze), .int w, .int (zb wt), .int pr, .int (zb pt), .int k, .int (zb gr), .int pl2]))]
def ax_lsb : List (Nat × Value) → List (Nat × Value) → Prop
  | [], _ => True
  | q :: r, lv => ax_q q.1 lv = some q.2 ∧ ax_lsb r lv
theorem ax_lsb_mem : ∀ {lv' lv : List (Nat × Value)}, ax_lsb lv' lv → ∀ q ∈ lv', q ∈ lv
  | [], _, _, _, hq => absurd hq List.not_mem_nil
  | _ :: _, _, hs, q, hq => by
    rcases List.mem_cons.mp hq with e | e
    · subst e; exact ax_q_mem hs.1
    · exact ax_lsb_mem hs.2 q e
theorem ax_less {p : Program} {l : Launch} {e : Env} {R : Room} {s : State} {m : MethodId} {args : Array Value} {below : List Frame} {meth : Method} {c : Code} {cells slots : Nat} {Q : State → Prop} {D : va_G} {cid : Nat → ClassId} {ad : Nat → Nat} {A : Nat → Prop} {nL : Nat} {pc : Nat} {lv lv' : List (Nat × Value)} {st : List Value} {h : ax_H}
    (k : ax_V p l e R s m args below meth c D cid ad A nL cells slots Q pc lv' st h) (hs : ax_lsb lv' lv) : ax_V p l e R s m args below meth c D cid ad A nL cells slots Q pc lv st h :=
  fun H locs ls hP hD hS hl => k H locs ls hP hD hS ⟨hl.1, hl.2.1, fun q hq => by
    obtain ⟨q0, h0, rfl⟩ := List.mem_map.mp hq
    exact hl.2.2 _ (List.mem_map.mpr ⟨q0, ax_lsb_mem hs q0 h0, rfl⟩)⟩
