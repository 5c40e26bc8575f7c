/-! pure rows: how a directive is read -/
section AXL
variable {p : Program} {l : Launch} {e : Env} {R : Room} {s : State} {m : MethodId} {args : Array Value} {below : List Frame} {meth : Method} {c : Code} {cells slots : Nat} {Q : State → Prop}
variable {D : va_G} {cid : Nat → ClassId} {ad : Nat → Nat} {A : Nat → Prop} {nL : Nat} {Ts : List Cond} {own : String} {cc : ByteArray}
variable {pc : Nat} {lv : List (Nat × Value)} {st : List Value} {h : ax_H}
theorem ax_lookup (G : ax_G p s m args meth c Ts own cc nL D cid ad A) {dflt : Int} {ps : Array (Int × Int)} {len : Nat} {x : Int32} {off : Int} {tgt : Nat} (d : decode cc pc = .ok (.lookupswitch dflt ps, len)) (hp : (ps.toList.zip (ps.toList.drop 1)).all (fun (a, next) => a.1 < next.1) = true) (ho : Op.lookupswitch.offset ps.toList dflt x.toInt = off) (ht : (pc : Int) + off = (tgt : Int)) (k : ax_V p l e R s m args below meth c D cid ad A nL cells slots Q tgt lv st h) : ax_V p l e R s m args below meth c D cid ad A nL cells slots Q pc lv (.int x :: st) h :=
  fun H locs ls hP hD hS hl => lv_lookup G.1 G.2.1 d hp ho ht (k H locs ls hP hD hS hl)
theorem ax_tabIn (G : ax_G p s m args meth c Ts own cc nL D cid ad A) {dflt lo hi : Int} {offs : Array Int} {len : Nat} {x : Int32} {off : Int} {tgt : Nat} (d : decode cc pc = .ok (.tableswitch dflt lo hi offs, len)) (h1 : ¬ x.toInt < lo) (h2 : ¬ hi < x.toInt) (ho : offs[(x.toInt - lo).toNat]? = some off) (ht : (pc : Int) + off = (tgt : Int)) (k : ax_V p l e R s m args below meth c D cid ad A nL cells slots Q tgt lv st h) : ax_V p l e R s m args below meth c D cid ad A nL cells slots Q pc lv (.int x :: st) h :=
  fun H locs ls hP hD hS hl => lv_tableIn G.1 G.2.1 d h1 h2 ho ht (k H locs ls hP hD hS hl)
theorem ax_tabOut (G : ax_G p s m args meth c Ts own cc nL D cid ad A) {dflt lo hi : Int} {offs : Array Int} {len : Nat} {x : Int32} {tgt : Nat} (d : decode cc pc = .ok (.tableswitch dflt lo hi offs, len)) (h1 : x.toInt < lo ∨ hi < x.toInt) (ht : (pc : Int) + dflt = (tgt : Int)) (k : ax_V p l e R s m args below meth c D cid ad A nL cells slots Q tgt lv st h) : ax_V p l e R s m args below meth c D cid ad A nL cells slots Q pc lv (.int x :: st) h :=
  fun H locs ls hP hD hS hl => lv_tableOut G.1 G.2.1 d h1 ht (k H locs ls hP hD hS hl)
end AXL
/-- the letter at a place, 0 where the format has ended -/
def lt (c : Nat → Nat) (n i : Nat) : Nat := if i < n then c i else 0
theorem lt_lt {f : Nat → Int32} {n : Nat} {c : Nat → Nat} (hf : fo_is f n c) (i : Nat) : lt c n i < 256 := by
  unfold lt
  split
  · rename_i h; exact (hf i h).2
  · decide
def flg (L : Nat → Nat) : Nat → Nat → Bool → Bool → Bool → Bool → Bool → Bool × Bool × Bool × Bool × Bool × Nat
  | 0, i, l, p, b, h, z => (l, p, b, h, z, i)
  | k + 1, i, l, p, b, h, z => if L i = 45 then flg L k (i + 1) true p b h z else if L i = 43 then flg L k (i + 1) l true b h z else if L i = 32 then flg L k (i + 1) l p true h z else if L i = 35 then flg L k (i + 1) l p b true z else if L i = 48 then flg L k (i + 1) l p b h true else (l, p, b, h, z, i)
theorem flg_s (L : Nat → Nat) (k i : Nat) (l p b h z : Bool) : flg L (k + 1) i l p b h z = if L i = 45 then flg L k (i + 1) true p b h z else if L i = 43 then flg L k (i + 1) l true b h z else if L i = 32 then flg L k (i + 1) l p true h z else if L i = 35 then flg L k (i + 1) l p b true z else if L i = 48 then flg L k (i + 1) l p b h true else (l, p, b, h, z, i) := rfl
theorem flg_le (L : Nat → Nat) : ∀ (k i : Nat) (l p b h z : Bool), i ≤ (flg L k i l p b h z).2.2.2.2.2 ∧ (flg L k i l p b h z).2.2.2.2.2 ≤ i + k
  | 0, i, l, p, b, h, z => ⟨Nat.le_refl _, Nat.le_refl _⟩
  | k + 1, i, l, p, b, h, z => by
    rw [flg_s]
    split
    · have := flg_le L k (i + 1) true p b h z; omega
    split
    · have := flg_le L k (i + 1) l true b h z; omega
    split
    · have := flg_le L k (i + 1) l p true h z; omega
    split
    · have := flg_le L k (i + 1) l p b true z; omega
    split
    · have := flg_le L k (i + 1) l p b h true; omega
    · exact ⟨Nat.le_refl _, by show i ≤ _; omega⟩
/-- up to k digits from i on -/
def dgt (L : Nat → Nat) : Nat → Nat → Nat → Nat × Nat
  | 0, i, v => (v, i)
  | k + 1, i, v => if 48 ≤ L i ∧ L i ≤ 57 then dgt L k (i + 1) (10 * v + (L i - 48)) else (v, i)
theorem dgt_s (L : Nat → Nat) (k i v : Nat) : dgt L (k + 1) i v = if 48 ≤ L i ∧ L i ≤ 57 then dgt L k (i + 1) (10 * v + (L i - 48)) else (v, i) := rfl
theorem dgt_le (L : Nat → Nat) : ∀ (k i v : Nat), i ≤ (dgt L k i v).2 ∧ (dgt L k i v).2 ≤ i + k ∧ (dgt L k i v).1 < (v + 1) * 10 ^ k
  | 0, i, v => ⟨Nat.le_refl _, Nat.le_refl _, by show v < _; omega⟩
  | k + 1, i, v => by
    rw [dgt_s]
    split
    · have := dgt_le L k (i + 1) (10 * v + (L i - 48))
      refine ⟨by omega, by omega, Nat.lt_of_lt_of_le this.2.2 ?_⟩
      rw [Nat.pow_succ, Nat.mul_comm (10 ^ k) 10, ← Nat.mul_assoc]
      exact Nat.mul_le_mul_right _ (by omega)
    · refine ⟨Nat.le_refl _, by show i ≤ _; omega, ?_⟩
      show v < _
      have : 0 < 10 ^ (k + 1) := Nat.pow_pos (by decide)
      exact Nat.lt_of_lt_of_le (Nat.lt_succ_self v) (Nat.le_mul_of_pos_right _ this)
def isK (x : Nat) : Bool := [100, 105, 117, 111, 120, 88, 99, 101, 69, 102, 70, 103, 71, 97, 65, 37].contains x
theorem ix_K : ∀ n, n < 256 → ((ixf (ax_byt.getD 0 []) (nI n).toInt8.toInt32 0 16 < 0) ↔ isK n = false) := by decide +kernel
def pw (L : Nat → Nat) (i : Nat) : Bool × Nat × Bool × Nat := if L i = 42 then (true, i + 1, true, 0) else if 200 < (dgt L 3 i 0).1 then (false, i, false, (dgt L 3 i 0).1) else (true, (dgt L 3 i 0).2, false, (dgt L 3 i 0).1)
theorem pw_le (L : Nat → Nat) (i : Nat) : i ≤ (pw L i).2.1 ∧ (pw L i).2.1 ≤ i + 3 := by
  unfold pw
  have := dgt_le L 3 i 0
  split
  · exact ⟨by show i ≤ i + 1; omega, by show i + 1 ≤ i + 3; omega⟩
  split
  · exact ⟨Nat.le_refl _, by show i ≤ i + 3; omega⟩
  · exact ⟨this.1, this.2.1⟩
def pp (L : Nat → Nat) (i : Nat) : Bool × Nat × Bool × Int32 := if L i = 46 then (if L (i + 1) = 42 then (true, i + 2, true, -1) else if 200 < (dgt L 3 (i + 1) 0).1 then (false, i + 1, false, nI (dgt L 3 (i + 1) 0).1) else (true, (dgt L 3 (i + 1) 0).2, false, nI (dgt L 3 (i + 1) 0).1)) else (true, i, false, -1)
theorem pp_le (L : Nat → Nat) (i : Nat) : i ≤ (pp L i).2.1 ∧ (pp L i).2.1 ≤ i + 4 := by
  unfold pp
  have := dgt_le L 3 (i + 1) 0
  split
  · split
    · exact ⟨by show i ≤ i + 2; omega, by show i + 2 ≤ i + 4; omega⟩
    split
    · exact ⟨by show i ≤ i + 1; omega, by show i + 1 ≤ i + 4; omega⟩
    · exact ⟨by show i ≤ (dgt L 3 (i + 1) 0).2; omega, by show (dgt L 3 (i + 1) 0).2 ≤ i + 4; omega⟩
  · exact ⟨Nat.le_refl _, by show i ≤ i + 4; omega⟩
def sml (x : Nat) : Nat := if 65 ≤ x ∧ x ≤ 90 then x + 32 else x
def grt (x : Nat) : Bool := decide (65 ≤ x ∧ x ≤ 90)
def rdF (L : Nat → Nat) (n i : Nat) : Bool × Bool × Bool × Bool × Bool × Nat := flg L (n - (i + 1)) (i + 1) false false false false false
def rdW (L : Nat → Nat) (n i : Nat) : Bool × Nat × Bool × Nat := pw L (rdF L n i).2.2.2.2.2
def rdP (L : Nat → Nat) (n i : Nat) : Bool × Nat × Bool × Int32 := pp L (rdW L n i).2.1
def rdOk (L : Nat → Nat) (n i : Nat) : Bool := (rdW L n i).1 && (rdP L n i).1 && isK (L (rdP L n i).2.1)
def rdAt (L : Nat → Nat) (n i : Nat) : Nat := if (rdW L n i).1 then (rdP L n i).2.1 else (rdW L n i).2.1
