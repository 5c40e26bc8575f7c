/-! more rows of the abstract layer -/
section AXM
variable {p : Program} {l : Launch} {e : Env} {R : Room} {s : State} {m : MethodId} {args : Array Value} {below : List Frame} {meth : Method} {c : Code} {cells slots : Nat} {Q : State → Prop}
variable {D : va_G} {cid : Nat → ClassId} {ad : Nat → Nat} {A : Nat → Prop} {nL : Nat} {Ts : List Cond} {own : String} {cc : ByteArray}
variable {pc : Nat} {lv : List (Nat × Value)} {st : List Value} {h : ax_H}
theorem ax_iincZ (G : ax_G p s m args meth c Ts own cc nL D cid ad A) {i : Nat} {n : Int} {x z : Int32} (d : decode cc pc = .ok (.iinc i n, 3)) (hv : ax_q i lv = some (.int x)) (hz : Int32.ofInt n = z) (hn : i < nL) (k : ax_V p l e R s m args below meth c D cid ad A nL cells slots Q (pc + 3) (ax_s1 i (.int (x + z)) lv) st h) : ax_V p l e R s m args below meth c D cid ad A nL cells slots Q pc lv st h :=
  ax_iinc G d hv (by rw [hz]) hn k
end AXM
/-- the decimal number: object 9, limbs 10, digits 11 -/
abbrev pc_De (lc dc pt : Int32) (lm : Nat → Int64) (dg : Nat → Int32) : ax_H := [(9, .inr (0, [.ref 10, .int lc, .ref 11, .int dc, .int pt])), (10, .inl (2, 86, .inr (.inl lm))), (11, .inl (1, 774, .inl dg))]
