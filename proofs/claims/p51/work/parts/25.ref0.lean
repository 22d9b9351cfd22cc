/-! the reference's object: scalars by their field's number, rows by theirs -/
def fb_f12 (r : Nat → Nat) (η : fb_AR) : List Value := [.ref (r 0), .ref (r 1), .int (η 2), .ref (r 3), .int (η 4), .int (η 5), .int (η 6), .int (η 7), .int (η 8), .int (η 9), .int (η 10), .ref (r 11), .ref (r 12), .int (η 13), .ref (r 14), .ref (r 15), .ref (r 16), .ref (r 17), .int (η 18), .int (η 19), .ref (r 20), .int (η 21), .ref (r 22), .ref (r 23), .ref (r 24), .ref (r 25), .int (η 26), .int (η 27), .int (η 28), .int (η 29), .int (η 30), .int (η 31), .ref (r 32), .ref (r 33), .int (η 34), .int (η 35), .int (η 36), .int (η 37), .ref (r 38), .ref (r 39), .ref (r 40), .int (η 41), .int (η 42), .int (η 43), .int (η 44), .ref (r 45), .ref (r 46), .ref (r 47), .ref (r 48), .int (η 49), .int (η 50)]
def fb_o12 (a : Nat) (r : Nat → Nat) (η : fb_AR) : va_W := [(a, .inr (12, fb_f12 r η))]
theorem fb_h12 {a : Nat} {r : Nat → Nat} {η : fb_AR} {bs : List va_W} : (fb_o12 a r η :: bs).flatten[0]? = some (a, .inr (12, fb_f12 r η)) := rfl
theorem fb_r12_2 {a : Nat} {r : Nat → Nat} {η : fb_AR} {bs : List va_W} {v : Int32} : (fb_o12 a r η :: bs).flatten.set 0 (a, .inr (12, (fb_f12 r η).set 2 (.int v))) = (fb_o12 a r (upd η 2 v) :: bs).flatten := rfl
theorem fb_r12_10 {a : Nat} {r : Nat → Nat} {η : fb_AR} {bs : List va_W} {v : Int32} : (fb_o12 a r η :: bs).flatten.set 0 (a, .inr (12, (fb_f12 r η).set 10 (.int v))) = (fb_o12 a r (upd η 10 v) :: bs).flatten := rfl
theorem fb_r12_19 {a : Nat} {r : Nat → Nat} {η : fb_AR} {bs : List va_W} {v : Int32} : (fb_o12 a r η :: bs).flatten.set 0 (a, .inr (12, (fb_f12 r η).set 19 (.int v))) = (fb_o12 a r (upd η 19 v) :: bs).flatten := rfl
def fb_qh (D : va_G) (a N : Nat) (h : Nat → Option Nat) : va_W := [(a, .inl (D.1 22, N, .inr (.inr (.inr (.inr h)))))]
section HIR
variable {p : Program} {l : Launch} {e : Env} {R : Room} {s : State} {m : MethodId} {args : Array Value} {below : List Frame} {meth : Method} {c : Code} {H : Heap} {locs : List Loc} {cells slots : Nat} {Q : State → Prop}
  {cc : ByteArray} {own : String} {nL : Nat} {ret : Option FieldType} {D : va_G} {cI cJ : ClassId} {A : Nat → Prop} {ws : va_W} {pc : Nat} {ls : Array Slot} {lv : List (Nat × Value)} {rest : List Value} {a n k v : Nat} {f : Nat → Option Nat} {i : Int32}
end HIR

