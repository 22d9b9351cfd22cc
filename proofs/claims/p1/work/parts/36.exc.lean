/-! what the class throws, and where the law catches it -/
def fb_XC (E : String) (A : Nat → Prop) : String → State → State → Prop := vx_X (fun _ : Unit => True) (fun E' _ _ => E' = E) A
/-- a contract of a call that throws -/
def fb_QX : Array Value → State → Outcome → State → Prop := va_Qi (S := Unit) (fun _ _ => False) (fun _ _ => True) (fun _ => False)
section EXA
variable {l : Launch} {y : MethodName} {rm : Room} {cc : ByteArray} {maxL mc ms sz : Nat} {ret : Option FieldType} {D : va_G} {tys : List (ClassId × FieldType)} {av : List Value} {wc : va_W}
theorem fb_entT {Qc : Array Value → State → Outcome → State → Prop} {E : String} (hy : plainName y.cls = true) (hn : (lg_sl av).length ≤ maxL)
    (body : ∀ p e s m args below meth c A ls, fb_Bx p s m args meth c cc y.cls maxL ret D tys A → fb_In D A s.heap wc s.heap [] → lv_has ls maxL (lv_args 0 av) → (∀ x ∈ c.exceptionTable.toList, False) → W p l e rm s m args below meth c s.heap [] 0 0 (vx_MQ below Qc (fb_XC E A) args s mc ms A) (F0 m 0 ls [])) : vx_Met l y (Cond.code y cc maxL ret :: fb_all) rm (fb_PP D tys av wc sz) Qc (fb_XC E (va_A wc sz)) mc ms (va_A wc sz) := by
  refine vx_ofW (cc := cc) (maxL := maxL) (ret := ret) hy rfl ?_
  intro p e s m args below meth c s₁ B hml hex hv
  obtain ⟨rfl, hsz, hP, hK, hD0, hF⟩ := hv
  subst hsz
  have hts : ∀ w ∈ fb_all, w.before av.toArray s = true := fun w h => atoms_spec (ws := Cond.code y cc maxL ret :: fb_all) B.pre w (List.mem_cons_of_mem _ h)
  have hown : s.vm.findClass y.cls = some m.cls := findClass_of_methodNamed (x := y) B.named
  have hl := lv_entry av (n := maxL) hn
  rw [lg_entry_eq]
  exact body p e s m av.toArray below meth c (va_A wc s.heap.size) _ ⟨B.exec, B.bytes, B.returns, hml, hown, hts, B.notSynchronized, fun q h => Or.inr h, hK, hF⟩ ⟨hP, hD0.self, va_S.rf⟩ hl hex
end EXA
section EXB
variable {p : Program} {l : Launch} {e : Env} {R : Room} {s : State} {m : MethodId} {args : Array Value} {below : List Frame} {meth : Method} {c : Code} {H : Heap} {locs : List Loc} {cells slots mc ms : Nat} {Q : State → Prop}
  {cc : ByteArray} {own : String} {nL : Nat} {ret : Option FieldType} {D : va_G} {tys : List (ClassId × FieldType)} {A : Nat → Prop} {ws wc : va_W} {pc : Nat} {ls : Array Slot} {lv : List (Nat × Value)} {rest : List Value}
theorem fb_nxD (X : fb_Bx p s m args meth c cc own nL ret D tys A) {q : MethodName} (h : q ∈ fb_dN) : (Cond.declares q).before args s = true := va_Nw.use rfl (X.2.2.2.2.2.2.2.2.1.2.2.2.2.2.1 q h)
theorem fb_nxC (X : fb_Bx p s m args meth c cc own nL ret D tys A) {q : String} (h : q ∈ fb_cN) : (Cond.castable q q).before args s = true := va_Nw.use rfl (X.2.2.2.2.2.2.2.2.1.2.2.2.2.2.2.1 q h)

set_option maxHeartbeats 4000000 in
set_option maxRecDepth 100000 in
theorem fb_hatA (X : fb_Bx p s m args meth c cc own nL ret D tys A) : ∀ w ∈ vx_atS "FerriteBoard" 106 "java/lang/IllegalArgumentException" ["java/lang/RuntimeException", "java/lang/Exception"], w.before args s = true :=
    vx_c (X.2.2.2.2.2.1 _ (fb_mc fb_s1 15 rfl rfl)) <|
    vx_c (X.2.2.2.2.2.1 _ (fb_mc fb_s6 223 rfl rfl)) <|
    vx_c (X.2.2.2.2.2.1 _ (fb_mc fb_s6 232 rfl rfl)) <|
    vx_c (X.2.2.2.2.2.1 _ (fb_mc fb_s6 236 rfl rfl)) <|
    vx_c (X.2.2.2.2.2.1 _ (fb_mc fb_s6 239 rfl rfl)) <|
    vx_c (X.2.2.2.2.2.1 _ (fb_mc fb_s7 1 rfl rfl)) <|
    vx_c (X.2.2.2.2.2.1 _ (fb_mc fb_s6 224 rfl rfl)) <|
    vx_c (X.2.2.2.2.2.1 _ (fb_mc fb_s6 225 rfl rfl)) <|
    vx_c (X.2.2.2.2.2.1 _ (fb_mc fb_s1 34 rfl rfl)) <|
    vx_c (X.2.2.2.2.2.1 _ (fb_mc fb_s1 35 rfl rfl)) <|
    vx_c (X.2.2.2.2.2.1 _ (fb_mc fb_s6 226 rfl rfl)) <|
    vx_c (X.2.2.2.2.2.1 _ (fb_mc fb_s6 231 rfl rfl)) <|
    vx_c (X.2.2.2.2.2.1 _ (fb_mc fb_s6 237 rfl rfl)) <|
    vx_c (X.2.2.2.2.2.1 _ (fb_mc fb_s7 17 rfl rfl)) <|
    vx_c (X.2.2.2.2.2.1 _ (fb_mc fb_s6 213 rfl rfl)) <|
    vx_c (X.2.2.2.2.2.1 _ (fb_mc fb_s7 18 rfl rfl)) <|
    vx_c (X.2.2.2.2.2.1 _ (fb_mc fb_s6 215 rfl rfl)) <|
    vx_c (X.2.2.2.2.2.1 _ (fb_mc fb_s7 19 rfl rfl)) <|
    vx_c (X.2.2.2.2.2.1 _ (fb_mc fb_s6 217 rfl rfl)) <|
    vx_c (X.2.2.2.2.2.1 _ (fb_mc fb_s6 227 rfl rfl)) <|
    vx_c (X.2.2.2.2.2.1 _ (fb_mc fb_s6 229 rfl rfl)) <|
    vx_c (X.2.2.2.2.2.1 _ (fb_mc fb_s6 219 rfl rfl)) <|
    vx_c (X.2.2.2.2.2.1 _ (fb_mc fb_s7 13 rfl rfl)) <|
    vx_c (X.2.2.2.2.2.1 _ (fb_mc fb_s7 14 rfl rfl)) <|
    vx_c (X.2.2.2.2.2.1 _ (fb_mc fb_s7 16 rfl rfl)) <|
    vx_c (X.2.2.2.2.2.1 _ (fb_mc fb_s6 219 rfl rfl)) <|
    vx_c (X.2.2.2.2.2.1 _ (fb_mc fb_s7 51 rfl rfl)) <|
    vx_c (X.2.2.2.2.2.1 _ (fb_mc fb_s7 52 rfl rfl)) <|
    vx_c (X.2.2.2.2.2.1 _ (fb_mc fb_s7 53 rfl rfl)) <|
    vx_c (X.2.2.2.2.2.1 _ (fb_mc fb_s7 7 rfl rfl)) <|
    vx_c (fb_nxD X (List.mem_of_getElem? (i := 0) rfl)) <|
    vx_c (X.2.2.2.2.2.1 _ (fb_mc fb_s7 7 rfl rfl)) <|
    vx_c (X.2.2.2.2.2.1 _ (fb_mc fb_s7 8 rfl rfl)) <|
    vx_c (X.2.2.2.2.2.1 _ (fb_mc fb_s7 9 rfl rfl)) <|
    vx_c (X.2.2.2.2.2.1 _ (fb_mc fb_s7 10 rfl rfl)) <|
    vx_c (fb_nxD X (List.mem_of_getElem? (i := 1) rfl)) <|
    vx_c (X.2.2.2.2.2.1 _ (fb_mc fb_s7 10 rfl rfl)) <|
    vx_c (X.2.2.2.2.2.1 _ (fb_mc fb_s7 11 rfl rfl)) <|
    vx_c (X.2.2.2.2.2.1 _ (fb_mc fb_s7 12 rfl rfl)) <|
    vx_c (X.2.2.2.2.2.1 _ (fb_mc fb_s7 13 rfl rfl)) <|
    vx_c (fb_nxD X (List.mem_of_getElem? (i := 2) rfl)) <|
    vx_c (X.2.2.2.2.2.1 _ (fb_mc fb_s7 50 rfl rfl)) <|
    vx_c (X.2.2.2.2.2.1 _ (fb_mc fb_s7 41 rfl rfl)) <|
    vx_c (fb_nxC X (List.mem_of_getElem? (i := 1) rfl)) <|
    vx_c (X.2.2.2.2.2.1 _ (fb_mc fb_s7 43 rfl rfl)) <|
    vx_c (X.2.2.2.2.2.1 _ (fb_mc fb_s6 234 rfl rfl)) <|
    vx_c (X.2.2.2.2.2.1 _ (fb_mc fb_s7 44 rfl rfl)) <|
    vx_c (X.2.2.2.2.2.1 _ (fb_mc fb_s7 45 rfl rfl)) <|
    vx_c (X.2.2.2.2.2.1 _ (fb_mc fb_s7 46 rfl rfl)) <|
    vx_c (X.2.2.2.2.2.1 _ (fb_mc fb_s7 47 rfl rfl)) <|
    vx_c (X.2.2.2.2.2.1 _ (fb_mc fb_s6 222 rfl rfl)) <|
    vx_c (X.2.2.2.2.2.1 _ (fb_mc fb_s6 221 rfl rfl)) <|
    vx_c (X.2.2.2.2.2.1 _ (fb_mc fb_s7 48 rfl rfl)) <|
    vx_n

set_option maxHeartbeats 4000000 in
set_option maxRecDepth 100000 in
theorem fb_throwA (X : fb_Bx p s m args meth c cc "FerriteBoard" nL ret D tys A) (I : fb_In D A s.heap ws H locs) (hl : lv_has ls nL lv) (hex : ∀ x ∈ c.exceptionTable.toList, False) (hst : l.stackTraces = false) {is : Nat} {text : String} {Qc : Array Value → State → Outcome → State → Prop} (htx : (is, text) ∈ fb_tM)
    (d0 : decode cc pc = .ok (.new 102, 3)) (d3 : decode cc (pc + 3) = .ok (.dup, 1)) (d4 : decode cc (pc + 4) = .ok (.ldc is, 2) ∧ decode cc (pc + 6) = .ok (.invokespecial 106, 3) ∧ decode cc (pc + 9) = .ok (.athrow, 1) ∨ decode cc (pc + 4) = .ok (.ldc_w is, 3) ∧ decode cc (pc + 7) = .ok (.invokespecial 106, 3) ∧ decode cc (pc + 10) = .ok (.athrow, 1))
    (hRf : 5 < R.frames) (hRl : (rest.map fun v => v.category).sum + 82 ≤ R.locals) (hRc : cells + 1 ≤ R.cells) (hRs : slots + 6 ≤ R.slots) (hc : cells + 1 ≤ mc) (hs : slots + 6 ≤ ms) :
    W p l e R s m args below meth c H locs cells slots (vx_MQ below Qc (fb_XC "java/lang/IllegalArgumentException" A) args s mc ms A) (F0 m pc ls rest) := by
  obtain ⟨hx, hb, hr, hml, hown, hts, hlk, hA, hK, hF⟩ := id X
  obtain ⟨t, -, -, z3, z4⟩ := hF
  obtain ⟨sa, hsa⟩ := hK.2.2.2.2.2.2.2.2 (is, text) htx
  have hsz : ls.size = c.maxLocals := by rw [hml]; exact hl.1
  have hx9 : ∀ t : State, s.vm.Alike t.vm → H.size ≤ t.heap.size → (∀ q : Nat, q < H.size → t.heap[q]? = H[q]?) → fb_XC "java/lang/IllegalArgumentException" A "java/lang/IllegalArgumentException" s t := fun t _ h1 h2 => ⟨(), trivial, rfl, Nat.le_trans I.2.2.1 h1, fun q g1 g2 => (h2 q (Nat.lt_of_lt_of_le g1 I.2.2.1)).trans (I.2.2.2.1 q g1 g2)⟩
  rcases d4 with ⟨d4, d6, d9⟩ | ⟨d4, d6, d9⟩
  · exact vx_throwS (names := ["java/lang/RuntimeException", "java/lang/Exception"]) hx hb hst hown (by decide +kernel) (by decide +kernel) (hts _ (fb_mc fb_s7 40 rfl rfl)) (hts _ (fb_mc fb_s1 19 rfl rfl)) hsa (fb_hatA X) (by decide +kernel) z3 z4 I.2.2 hsz d0 d3 d4 d6 d9 (fun x h => (hex x h).elim) hRf (by simpa using hRl) hRc hRs hlk hx9 I.2.2.2.2 hc hs
  · exact vx_throwSW (names := ["java/lang/RuntimeException", "java/lang/Exception"]) hx hb hst hown (by decide +kernel) (by decide +kernel) (hts _ (fb_mc fb_s7 40 rfl rfl)) (hts _ (fb_mc fb_s1 19 rfl rfl)) hsa (fb_hatA X) (by decide +kernel) z3 z4 I.2.2 hsz d0 d3 d4 d6 d9 (fun x h => (hex x h).elim) hRf (by simpa using hRl) hRc hRs hlk hx9 I.2.2.2.2 hc hs

set_option maxHeartbeats 4000000 in
set_option maxRecDepth 100000 in
theorem fb_hatB (X : fb_Bx p s m args meth c cc own nL ret D tys A) : ∀ w ∈ vx_atS "FerriteBoard" 164 "java/lang/IndexOutOfBoundsException" ["java/lang/RuntimeException", "java/lang/Exception"], w.before args s = true :=
    vx_c (X.2.2.2.2.2.1 _ (fb_mc fb_s1 15 rfl rfl)) <|
    vx_c (X.2.2.2.2.2.1 _ (fb_mc fb_s6 223 rfl rfl)) <|
    vx_c (X.2.2.2.2.2.1 _ (fb_mc fb_s6 232 rfl rfl)) <|
    vx_c (X.2.2.2.2.2.1 _ (fb_mc fb_s6 236 rfl rfl)) <|
    vx_c (X.2.2.2.2.2.1 _ (fb_mc fb_s6 239 rfl rfl)) <|
    vx_c (X.2.2.2.2.2.1 _ (fb_mc fb_s7 1 rfl rfl)) <|
    vx_c (X.2.2.2.2.2.1 _ (fb_mc fb_s6 224 rfl rfl)) <|
    vx_c (X.2.2.2.2.2.1 _ (fb_mc fb_s6 225 rfl rfl)) <|
    vx_c (X.2.2.2.2.2.1 _ (fb_mc fb_s1 34 rfl rfl)) <|
    vx_c (X.2.2.2.2.2.1 _ (fb_mc fb_s1 35 rfl rfl)) <|
    vx_c (X.2.2.2.2.2.1 _ (fb_mc fb_s6 226 rfl rfl)) <|
    vx_c (X.2.2.2.2.2.1 _ (fb_mc fb_s6 231 rfl rfl)) <|
    vx_c (X.2.2.2.2.2.1 _ (fb_mc fb_s6 237 rfl rfl)) <|
    vx_c (X.2.2.2.2.2.1 _ (fb_mc fb_s7 17 rfl rfl)) <|
    vx_c (X.2.2.2.2.2.1 _ (fb_mc fb_s6 213 rfl rfl)) <|
    vx_c (X.2.2.2.2.2.1 _ (fb_mc fb_s7 18 rfl rfl)) <|
    vx_c (X.2.2.2.2.2.1 _ (fb_mc fb_s6 215 rfl rfl)) <|
    vx_c (X.2.2.2.2.2.1 _ (fb_mc fb_s7 19 rfl rfl)) <|
    vx_c (X.2.2.2.2.2.1 _ (fb_mc fb_s6 217 rfl rfl)) <|
    vx_c (X.2.2.2.2.2.1 _ (fb_mc fb_s6 227 rfl rfl)) <|
    vx_c (X.2.2.2.2.2.1 _ (fb_mc fb_s6 229 rfl rfl)) <|
    vx_c (X.2.2.2.2.2.1 _ (fb_mc fb_s6 219 rfl rfl)) <|
    vx_c (X.2.2.2.2.2.1 _ (fb_mc fb_s7 13 rfl rfl)) <|
    vx_c (X.2.2.2.2.2.1 _ (fb_mc fb_s7 14 rfl rfl)) <|
    vx_c (X.2.2.2.2.2.1 _ (fb_mc fb_s7 16 rfl rfl)) <|
    vx_c (X.2.2.2.2.2.1 _ (fb_mc fb_s6 219 rfl rfl)) <|
    vx_c (X.2.2.2.2.2.1 _ (fb_mc fb_s7 75 rfl rfl)) <|
    vx_c (X.2.2.2.2.2.1 _ (fb_mc fb_s7 76 rfl rfl)) <|
    vx_c (X.2.2.2.2.2.1 _ (fb_mc fb_s7 77 rfl rfl)) <|
    vx_c (X.2.2.2.2.2.1 _ (fb_mc fb_s7 7 rfl rfl)) <|
    vx_c (fb_nxD X (List.mem_of_getElem? (i := 0) rfl)) <|
    vx_c (X.2.2.2.2.2.1 _ (fb_mc fb_s7 7 rfl rfl)) <|
    vx_c (X.2.2.2.2.2.1 _ (fb_mc fb_s7 8 rfl rfl)) <|
    vx_c (X.2.2.2.2.2.1 _ (fb_mc fb_s7 9 rfl rfl)) <|
    vx_c (X.2.2.2.2.2.1 _ (fb_mc fb_s7 10 rfl rfl)) <|
    vx_c (fb_nxD X (List.mem_of_getElem? (i := 1) rfl)) <|
    vx_c (X.2.2.2.2.2.1 _ (fb_mc fb_s7 10 rfl rfl)) <|
    vx_c (X.2.2.2.2.2.1 _ (fb_mc fb_s7 11 rfl rfl)) <|
    vx_c (X.2.2.2.2.2.1 _ (fb_mc fb_s7 12 rfl rfl)) <|
    vx_c (X.2.2.2.2.2.1 _ (fb_mc fb_s7 13 rfl rfl)) <|
    vx_c (fb_nxD X (List.mem_of_getElem? (i := 2) rfl)) <|
    vx_c (X.2.2.2.2.2.1 _ (fb_mc fb_s7 74 rfl rfl)) <|
    vx_c (X.2.2.2.2.2.1 _ (fb_mc fb_s7 65 rfl rfl)) <|
    vx_c (fb_nxC X (List.mem_of_getElem? (i := 2) rfl)) <|
    vx_c (X.2.2.2.2.2.1 _ (fb_mc fb_s7 67 rfl rfl)) <|
    vx_c (X.2.2.2.2.2.1 _ (fb_mc fb_s6 235 rfl rfl)) <|
    vx_c (X.2.2.2.2.2.1 _ (fb_mc fb_s7 68 rfl rfl)) <|
    vx_c (X.2.2.2.2.2.1 _ (fb_mc fb_s7 69 rfl rfl)) <|
    vx_c (X.2.2.2.2.2.1 _ (fb_mc fb_s7 70 rfl rfl)) <|
    vx_c (X.2.2.2.2.2.1 _ (fb_mc fb_s7 71 rfl rfl)) <|
    vx_c (X.2.2.2.2.2.1 _ (fb_mc fb_s6 222 rfl rfl)) <|
    vx_c (X.2.2.2.2.2.1 _ (fb_mc fb_s6 221 rfl rfl)) <|
    vx_c (X.2.2.2.2.2.1 _ (fb_mc fb_s7 72 rfl rfl)) <|
    vx_n

set_option maxHeartbeats 4000000 in
set_option maxRecDepth 100000 in
theorem fb_throwB (X : fb_Bx p s m args meth c cc "FerriteBoard" nL ret D tys A) (I : fb_In D A s.heap ws H locs) (hl : lv_has ls nL lv) (hex : ∀ x ∈ c.exceptionTable.toList, False) (hst : l.stackTraces = false) {is : Nat} {text : String} {Qc : Array Value → State → Outcome → State → Prop} (htx : (is, text) ∈ fb_tM)
    (d0 : decode cc pc = .ok (.new 160, 3)) (d3 : decode cc (pc + 3) = .ok (.dup, 1)) (d4 : decode cc (pc + 4) = .ok (.ldc is, 2) ∧ decode cc (pc + 6) = .ok (.invokespecial 164, 3) ∧ decode cc (pc + 9) = .ok (.athrow, 1) ∨ decode cc (pc + 4) = .ok (.ldc_w is, 3) ∧ decode cc (pc + 7) = .ok (.invokespecial 164, 3) ∧ decode cc (pc + 10) = .ok (.athrow, 1))
    (hRf : 5 < R.frames) (hRl : (rest.map fun v => v.category).sum + 82 ≤ R.locals) (hRc : cells + 1 ≤ R.cells) (hRs : slots + 6 ≤ R.slots) (hc : cells + 1 ≤ mc) (hs : slots + 6 ≤ ms) :
    W p l e R s m args below meth c H locs cells slots (vx_MQ below Qc (fb_XC "java/lang/IndexOutOfBoundsException" A) args s mc ms A) (F0 m pc ls rest) := by
  obtain ⟨hx, hb, hr, hml, hown, hts, hlk, hA, hK, hF⟩ := id X
  obtain ⟨t, -, -, z3, z4⟩ := hF
  obtain ⟨sa, hsa⟩ := hK.2.2.2.2.2.2.2.2 (is, text) htx
  have hsz : ls.size = c.maxLocals := by rw [hml]; exact hl.1
  have hx9 : ∀ t : State, s.vm.Alike t.vm → H.size ≤ t.heap.size → (∀ q : Nat, q < H.size → t.heap[q]? = H[q]?) → fb_XC "java/lang/IndexOutOfBoundsException" A "java/lang/IndexOutOfBoundsException" s t := fun t _ h1 h2 => ⟨(), trivial, rfl, Nat.le_trans I.2.2.1 h1, fun q g1 g2 => (h2 q (Nat.lt_of_lt_of_le g1 I.2.2.1)).trans (I.2.2.2.1 q g1 g2)⟩
  rcases d4 with ⟨d4, d6, d9⟩ | ⟨d4, d6, d9⟩
  · exact vx_throwS (names := ["java/lang/RuntimeException", "java/lang/Exception"]) hx hb hst hown (by decide +kernel) (by decide +kernel) (hts _ (fb_mc fb_s7 64 rfl rfl)) (hts _ (fb_mc fb_s1 27 rfl rfl)) hsa (fb_hatB X) (by decide +kernel) z3 z4 I.2.2 hsz d0 d3 d4 d6 d9 (fun x h => (hex x h).elim) hRf (by simpa using hRl) hRc hRs hlk hx9 I.2.2.2.2 hc hs
  · exact vx_throwSW (names := ["java/lang/RuntimeException", "java/lang/Exception"]) hx hb hst hown (by decide +kernel) (by decide +kernel) (hts _ (fb_mc fb_s7 64 rfl rfl)) (hts _ (fb_mc fb_s1 27 rfl rfl)) hsa (fb_hatB X) (by decide +kernel) z3 z4 I.2.2 hsz d0 d3 d4 d6 d9 (fun x h => (hex x h).elim) hRf (by simpa using hRl) hRc hRs hlk hx9 I.2.2.2.2 hc hs

end EXB
section EXC
variable {p : Program} {l : Launch} {e : Env} {R0 : Room} {s : State} {m : MethodId} {args : Array Value} {below : List Frame} {meth : Method} {c : Code} {H : Heap} {locs : List Loc} {cells slots mc ms : Nat} {Q : State → Prop}
  {cc : ByteArray} {own : String} {nL : Nat} {ret : Option FieldType} {D : va_G} {tys : List (ClassId × FieldType)} {A : Nat → Prop} {wc : va_W} {bs cs rs : List va_W} {pc : Nat} {ls : Array Slot} {lv : List (Nat × Value)} {rest : List Value}
variable {y : MethodName} {bytes : ByteArray} {maxL index n : Nat} {ret' : Option FieldType} {rm : Room} {As : List Value} {b : Nat} {C E : String} {fs : List Value} {ci : Nat} {qc : vw_C}
/-- a call that throws: what stands beside the callee's cells stays -/
theorem fb_gX {st0 : List Value} (X : fb_Bx p s m args meth c cc own nL ret D tys A) (hl : lv_has ls nL lv) (I : fb_In D A s.heap bs.flatten H locs) (is : List Nat) (k : Nat) (hk : bs.length = k) (h : is.Perm (List.range k)) (hb0 : is.map (fun i => bs[i]?) = (cs ++ rs).map some) (hc : cs.flatten = wc)
    (hG : GoodIn fb_all (wsV own index C y (Cond.code y bytes maxL ret' :: fb_all))) (hM : vx_Met l y (Cond.code y bytes maxL ret' :: fb_all) rm (fb_PP D tys (.ref b :: As) wc H.size) fb_QX (fb_XC E (va_A wc H.size)) mc ms (va_A wc H.size)) (hrc : rm.cells = mc) (hrs : rm.slots = ms) (hyC : y.cls = C) (hd : fb_hd y n) (hR : rm.frames + 1 ≤ R0.frames ∧ 8 + (maxL + 11) + rm.locals ≤ R0.locals)
    (hq : vwCl[ci]? = some qc) (hqC : qc.1 = C) (he : (wc ++ rs.flatten)[0]? = some (b, .inr (ci, fs))) (hn : As.length = n) (hst : st0 = As.reverse ++ .ref b :: rest) (hrest : (rest.map fun v => v.category).sum ≤ 8) (hcl : cells + mc ≤ R0.cells ∧ slots + ms ≤ R0.slots) (hdg : decode cc pc = .ok (.invokevirtual index, 3))
    (kx : ∀ (ce : Cell) (q9 : Addr) (H1 : Heap) (locs1 : List Loc), fb_In D A s.heap rs.flatten H1 locs1 → H1[q9]? = some ce → ce.vm = .none → s.vm.findClass E = some ce.cls → vx_W p l e R0 s m args below meth c H1 locs1 (cells + mc) (slots + ms) Q (F0 m pc ls rest) q9) :
    W p l e R0 s m args below meth c H locs cells slots Q (F0 m pc ls st0) := by
  have J := fb_cut I k hk is h hb0 hc
  have X0 := X
  obtain ⟨hx, hb, hr, hml, hown, hts, hlk, hA, hK, hF⟩ := X
  subst hst
  subst hqC
  have hr : vx_Run p l e R0 s m args below meth c H locs cells slots mc ms (F0 m pc ls (As.reverse ++ .ref b :: rest)) rest (fb_QX (Value.ref b :: As).toArray) (fb_XC E (va_A wc H.size)) (va_A wc H.size) := vx_runV (As := As) (rest := rest) (g := F0 m pc ls (As.reverse ++ .ref b :: rest)) ⟨hx, hb, hml, hown, hts⟩ hM (cwV n hts hG rfl hrc hrs ⟨hyC, hd⟩ hR) ⟨fb_PP.blind, va_recv hK.1 J.1 hq he, fb_preB X0 J⟩ rfl hn hl.1 rfl (lv_room hrest) hdg hcl
  refine vx_calli hr J.2.2 (fun q _ h => h.elim) (fb_freeB J hA) (fun q _ h => fb_freeB J hA q h) ?_ (fun _ _ _ _ _ _ _ h => h.elim)
  intro E' ce q9 u t H1 locs1 ht hvm hp hBt hsz hkk hS1 hce hcv hcl9
  subst hBt
  refine kx ce q9 H1 locs1 ?_ hce hcv hcl9
  exact fb_frame (w1 := []) J hA hkk (fun k q hq => by cases hq) ⟨fun i j p q hi => (by cases hi), fun k q hq => (by cases hq)⟩ hS1
end EXC
