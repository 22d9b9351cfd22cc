/-! our own kit: one bundle for a method's context, one for its world; a row a call -/
abbrev fb_AR : Type := Nat → Int32
def fb_bI (b : Bool) : Int32 := if b then 1 else 0
def fb_nM : List (String × Nat × MethodName × String) := [
  ("FerriteBoard", 11, ⟨"FerriteBoard$Text", "<init>", "()V"⟩, "FerriteBoard"),
  ("FerriteBoard", 18, ⟨"FerriteBoard$Names", "<init>", "()V"⟩, "FerriteBoard"),
  ("FerriteBoard$Syntax", 17, ⟨"FerriteBoard$Line", "<init>", "()V"⟩, "FerriteBoard"),
  ("FerriteBoard", 52, ⟨"FerriteBoard$Machine", "<init>", "()V"⟩, "FerriteBoard"),
  ("FerriteBoard$Machine", 26, ⟨"FerriteBoard$Ports", "<init>", "()V"⟩, "FerriteBoard"),
  ("FerriteBoard", 62, ⟨"FerriteBoard$History", "<init>", "()V"⟩, "FerriteBoard"),
  ("FerriteBoard$History", 11, ⟨"FerriteBoard$Machine", "<init>", "()V"⟩, "FerriteBoard"),
  ("FerriteBoard", 69, ⟨"FerriteBoard$Stops", "<init>", "()V"⟩, "FerriteBoard"),
  ("FerriteBoard", 76, ⟨"FerriteBoard$Reach", "<init>", "()V"⟩, "FerriteBoard"),
  ("FerriteBoard$Machine", 96, ⟨"FerriteBoard", "at", "([II)I"⟩, "FerriteBoard"),
  ("FerriteBoard$Text", 33, ⟨"FerriteBoard", "at", "([II)I"⟩, "FerriteBoard"),
  ("FerriteBoard$Text", 29, ⟨"FerriteBoard", "put", "([III)V"⟩, "FerriteBoard"),
  ("FerriteBoard$Text", 51, ⟨"FerriteBoard", "put", "([JIJ)V"⟩, "FerriteBoard"),
  ("FerriteBoard$Text", 98, ⟨"FerriteBoard", "entryOf", "(Ljava/lang/String;IJ)I"⟩, "FerriteBoard"),
  ("FerriteBoard$Values", 68, ⟨"FerriteBoard", "at", "([JI)J"⟩, "FerriteBoard"),
  ("FerriteBoard$Values", 81, ⟨"FerriteBoard", "at", "([II)I"⟩, "FerriteBoard"),
  ("FerriteBoard$Syntax", 100, ⟨"FerriteBoard", "at", "([JI)J"⟩, "FerriteBoard"),
  ("FerriteBoard$Text", 37, ⟨"FerriteBoard", "at", "([JI)J"⟩, "FerriteBoard"),
  ("FerriteBoard$Passes", 70, ⟨"FerriteBoard", "at", "([II)I"⟩, "FerriteBoard"),
  ("FerriteBoard$Passes", 147, ⟨"FerriteBoard", "at", "([JI)J"⟩, "FerriteBoard"),
  ("FerriteBoard$Names", 26, ⟨"FerriteBoard", "put", "([JIJ)V"⟩, "FerriteBoard"),
  ("FerriteBoard$Names", 30, ⟨"FerriteBoard", "put", "([III)V"⟩, "FerriteBoard"),
  ("FerriteBoard$Passes", 188, ⟨"FerriteBoard", "put", "([III)V"⟩, "FerriteBoard"),
  ("FerriteBoard$Passes", 213, ⟨"FerriteBoard", "entryOf", "(Ljava/lang/String;IJ)I"⟩, "FerriteBoard"),
  ("FerriteBoard$Passes", 205, ⟨"FerriteBoard", "hasMode", "(II)Z"⟩, "FerriteBoard"),
  ("FerriteBoard$Passes", 208, ⟨"FerriteBoard", "lengthOf", "(I)I"⟩, "FerriteBoard"),
  ("FerriteBoard$Passes", 266, ⟨"FerriteBoard", "placeOf", "(II)I"⟩, "FerriteBoard"),
  ("FerriteBoard$Machine", 145, ⟨"FerriteBoard", "put", "([III)V"⟩, "FerriteBoard"),
  ("FerriteBoard$Machine", 92, ⟨"FerriteBoard", "placeOf", "(II)I"⟩, "FerriteBoard"),
  ("FerriteBoard$Machine", 103, ⟨"FerriteBoard", "lengthOf", "(I)I"⟩, "FerriteBoard"),
  ("FerriteBoard$Machine", 106, ⟨"FerriteBoard", "signed", "(I)I"⟩, "FerriteBoard"),
  ("FerriteBoard$Machine", 240, ⟨"FerriteBoard", "isPort", "(I)Z"⟩, "FerriteBoard"),
  ("FerriteBoard$Ports", 61, ⟨"FerriteBoard", "put", "([III)V"⟩, "FerriteBoard"),
  ("FerriteBoard$Stops", 37, ⟨"FerriteBoard", "at", "([II)I"⟩, "FerriteBoard"),
  ("FerriteBoard$Stops", 45, ⟨"FerriteBoard", "put", "([III)V"⟩, "FerriteBoard"),
  ("FerriteBoard$Reach", 47, ⟨"FerriteBoard", "at", "([II)I"⟩, "FerriteBoard"),
  ("FerriteBoard$Reach", 55, ⟨"FerriteBoard", "put", "([III)V"⟩, "FerriteBoard"),
  ("FerriteBoard$Reach", 62, ⟨"FerriteBoard", "lengthOf", "(I)I"⟩, "FerriteBoard"),
  ("FerriteBoard$Names", 42, ⟨"FerriteBoard", "at", "([II)I"⟩, "FerriteBoard"),
  ("FerriteBoard$Ports", 69, ⟨"FerriteBoard", "at", "([II)I"⟩, "FerriteBoard")]
/-- the rows of rows of ints that the reference makes -/
def fb_AOI (U : State) : Prop := (Cond.arrayOver (.array .int)).before #[] U = true
theorem fb_AOI.moved {u U : State} (hvm : u.vm.Alike U.vm) (h : fb_AOI u) : fb_AOI U := by
  obtain ⟨comp, c, k, h1, h2, h3, h4, h5⟩ := arrayOverA_spec h
  obtain ⟨k', hk', he⟩ := hvm.2.2 _ _ h3
  have hi : (U.vm.classes.findIdx? fun (x : Class) => match x.kind with | .array component _ => component == comp | _ => false) = some c := by
    refine Eq.trans (va_idx_bare U.vm comp).symm ?_
    first | rw [hvm.bare_eq] | rw [← hvm.bare_eq]
    exact (va_idx_bare u.vm comp).trans h2
  have hkind : k'.kind = .array comp (.array .int) := by rw [he]; exact h4
  have f1 : U.vm.findClass (FieldType.array .int).toString = some comp := by rw [hvm.findClass]; exact h1
  have f2 : U.vm.findClass ("[" ++ (FieldType.array .int).toString) = some c := by rw [hvm.findClass]; exact h5
  unfold fb_AOI Cond.before Cond.holds
  simp only [Cond.value]
  rw [f1, Option.bind_some]
  refine (congrArg (fun o : Option Nat => (o.bind (fun c => (U.vm.classes[c]?).map fun (k : Class) => match k.kind with | .array _ ty => decide (ty = FieldType.array .int) && decide (U.vm.findClass ("[" ++ (FieldType.array .int).toString) = some c) | _ => false) == some true)) hi).trans ?_
  simp [hk', hkind, f2]
def fb_dN : List MethodName := [⟨"java/lang/RuntimeException", "<init>", "(Ljava/lang/String;)V"⟩, ⟨"java/lang/Exception", "<init>", "(Ljava/lang/String;)V"⟩, ⟨"java/lang/Throwable", "<init>", "(Ljava/lang/String;)V"⟩]
def fb_cN : List String := ["java/lang/IllegalStateException", "java/lang/IllegalArgumentException", "java/lang/IndexOutOfBoundsException"]
def fb_tM : List (Nat × String) := [(104, "no such length"), (162, "no such name"), (176, "no address"), (207, "no byte"), (227, "no memory"), (233, "no such register"), (235, "it cannot be that"), (253, "not 1 to 5000 cycles"), (271, "not 1 to 200 steps"), (280, "not 0 to 1000 skips"), (296, "it ends ahead of its beginning"), (343, "no such bank"), (345, "no such place"), (359, "no such output"), (364, "no such call")]
/-- the words of throws that are no good words -/
def fb_NX (U : State) : Prop := (∀ q ∈ fb_dN, va_Nw (.declares q) U) ∧ (∀ q ∈ fb_cN, va_Nw (.castable q q) U) ∧ va_Nc "java/lang/IllegalArgumentException" "java/lang/IndexOutOfBoundsException" U ∧ ∀ q ∈ fb_tM, ∃ sa : Nat, vk_R "FerriteBoard" q.1 q.2 sa U
theorem fb_NX.same {u U : State} (h : u.vm = U.vm) (z : fb_NX u) : fb_NX U := ⟨fun q hq => va_Nw.same rfl h (z.1 q hq), fun q hq => va_Nw.same rfl h (z.2.1 q hq), va_Nc.moved (h ▸ Vm.Alike.refl u.vm) z.2.2.1, fun q hq => (z.2.2.2 q hq).elim fun sa hz => ⟨sa, vk_R.same h.symm hz⟩⟩
theorem fb_NX.warm {s U : State} (hW : s.WarmedH U.vm) (z : fb_NX s) : fb_NX U := ⟨fun q hq => va_Nw.warmD hW (z.1 q hq), fun q hq => va_Nw.warmC hW (z.2.1 q hq), va_Nc.moved hW.alike z.2.2.1, fun q hq => (z.2.2.2 q hq).elim fun sa hz => ⟨sa, vk_R.warm hW hz⟩⟩
def fb_Nst (U : State) : Prop := (∀ q ∈ fb_nM, va_Nw (.methodLinkNest q.1 q.2.1 q.2.2.1 q.2.2.2) U) ∧ va_Nw (.fieldLinkNest "FerriteBoard$Machine" 210 "FerriteBoard" "BRANCH_FLAGS" "[I" "FerriteBoard") U ∧ va_AO "FerriteBoard$Line" U ∧ fb_AOI U ∧ fb_NX U
theorem fb_Nst.same {u U : State} (h : u.vm = U.vm) (z : fb_Nst u) : fb_Nst U := ⟨fun q hq => va_Nw.same rfl h (z.1 q hq), va_Nw.same rfl h z.2.1, va_AO.moved (h ▸ Vm.Alike.refl u.vm) z.2.2.1, fb_AOI.moved (h ▸ Vm.Alike.refl u.vm) z.2.2.2.1, fb_NX.same h z.2.2.2.2⟩
theorem fb_Nst.warm {s U : State} (hW : s.WarmedH U.vm) (z : fb_Nst s) : fb_Nst U := ⟨fun q hq => va_Nw.warmM hW (z.1 q hq), va_Nw.warmF hW z.2.1, va_AO.moved hW.alike z.2.2.1, fb_AOI.moved hW.alike z.2.2.2.1, fb_NX.warm hW z.2.2.2.2⟩
theorem fb_Nst.use {s : State} (z : fb_Nst s) {a : String} {i : Nat} {y : MethodName} {h : String} (hm : (a, i, y, h) ∈ fb_nM) : va_Nw (.methodLinkNest a i y h) s := z.1 _ hm
def fb_KK (D : va_G) (tys : List (ClassId × FieldType)) (U : State) : Prop := va_K D vwCl tys U ∧ fb_Nst U
def fb_bf (j : Nat) : Int32 := if j = 0 then 2 else if j = 1 then 1 else if j = 2 then 16 else 8
/-- the static row of the branches' flags -/
def fb_Fz (A : Nat → Prop) (U : State) (H : Heap) : Prop := ∃ t : Nat, va_Z "FerriteBoard" "BRANCH_FLAGS" "[I" (.ref t) A U H ∧ va_T .int t 4 (fun j => .int (fb_bf j)) A U H ∧ vx_Zq Bundle.tN "UNASSIGNED_STACK" Bundle.steD A U H ∧ vx_Zq Bundle.tN "SUPPRESSED_SENTINEL" Bundle.listD A U H
theorem fb_Fz.go {A B : Nat → Prop} {s U : State} {H0 H : Heap} {locs : List Loc} (z : fb_Fz A s H0) (hS : va_S A H0 H locs) (hB : ∀ q, B q → A q) (hvm : s.vm.Alike U.vm) : fb_Fz B U H := by
  obtain ⟨t, z1, z2, z3, z4⟩ := z
  exact ⟨t, va_Z.narrow (va_Z.kept (va_Z.moved hvm z1) hS.2.1) hB, va_T.narrow (va_T.kept (va_T.moved hvm z2) hS.2.1) hB, vx_Zq.narrow (vx_Zq.kept (vx_Zq.moved hvm z3) hS.2.1) hB, vx_Zq.narrow (vx_Zq.kept (vx_Zq.moved hvm z4) hS.2.1) hB⟩
/-- a world at a heap -/
def fb_In (D : va_G) (A : Nat → Prop) (H0 : Heap) (ws : va_W) (H : Heap) (locs : List Loc) : Prop := va_P D vwCl ws H ∧ va_D A ws ∧ va_S A H0 H locs
/-- what a method's body stands on -/
def fb_Bx (p : Program) (s : State) (m : MethodId) (args : Array Value) (meth : Method) (c : Code) (cc : ByteArray) (own : String) (nL : Nat) (ret : Option FieldType) (D : va_G) (tys : List (ClassId × FieldType)) (A : Nat → Prop) : Prop :=
  p.tables.exec = Jvm.exec ∧ c.code = cc ∧ meth.sig.returnType = ret ∧ c.maxLocals = nL ∧ s.vm.findClass own = some m.cls ∧ (∀ w ∈ fb_all, w.before args s = true) ∧ meth.locks = false ∧ (∀ q, s.heap.size ≤ q → A q) ∧ fb_KK D tys s ∧ fb_Fz A s s.heap
/-- a contract's start -/
def fb_PP (D : va_G) (tys : List (ClassId × FieldType)) (av : List Value) (wc : va_W) (sz : Nat) : Array Value → State → Prop := va_Pc av (fun U => U.heap.size = sz ∧ va_P D vwCl wc U.heap ∧ fb_KK D tys U ∧ va_D (fun _ => True) wc ∧ fb_Fz (va_A wc sz) U U.heap)
theorem fb_PP.blind {D : va_G} {tys : List (ClassId × FieldType)} {av : List Value} {wc : va_W} {sz : Nat} : FrameBlind (fb_PP D tys av wc sz) := fun a U g mk q => by
  obtain ⟨q0, q1, qP, qK, qD, t, z1, z2, z3, z4⟩ := q
  exact ⟨q0, q1, qP, ⟨va_K.moved (u := U) (U := U.calling g mk a) (Vm.Alike.refl U.vm) qK.1, fb_Nst.same (u := U) (U := U.calling g mk a) rfl qK.2⟩, qD, t, va_Z.moved (u := U) (U := U.calling g mk a) (Vm.Alike.refl U.vm) z1, va_T.moved (u := U) (U := U.calling g mk a) (Vm.Alike.refl U.vm) z2, vx_Zq.moved (u := U) (U := U.calling g mk a) (Vm.Alike.refl U.vm) z3, vx_Zq.moved (u := U) (U := U.calling g mk a) (Vm.Alike.refl U.vm) z4⟩
theorem fb_mapP {D : va_G} {cl : List vw_C} {ws ws' : va_W} {H : Heap} (h : va_P D cl ws H) (is : List Nat) (hs : is.map (fun i => ws[i]?) = ws'.map some) : va_P D cl ws' H := by
  intro k q hk
  have h1 : (ws'.map some)[k]? = some (some q) := by rw [List.getElem?_map, hk]; rfl
  rw [← hs, List.getElem?_map] at h1
  cases h2 : is[k]? with
  | none => rw [h2] at h1; cases h1
  | some i =>
    rw [h2] at h1
    exact h i q (Option.some.inj h1)
theorem fb_In.pick {D : va_G} {A : Nat → Prop} {H0 : Heap} {ws ws' : va_W} {H : Heap} {locs : List Loc} (h : fb_In D A H0 ws H locs) (is : List Nat) (hn : va_nd is = true) (hs : is.map (fun i => ws[i]?) = ws'.map some) : fb_In D A H0 ws' H locs := ⟨fb_mapP h.1 is hs, h.2.1.sub is hn hs, h.2.2⟩
/-- the ends -/
def fb_QI {S : Type} (D : va_G) (A : Nat → Prop) (post : Int32 → S → Prop) (wf : S → va_W) : Array Value → State → Outcome → State → Prop := va_Qi post (fun u t => va_P D vwCl (wf u) t.heap ∧ va_D A (wf u)) A
def fb_QV {S : Type} (D : va_G) (A : Nat → Prop) (post : S → Prop) (wf : S → va_W) : Array Value → State → Outcome → State → Prop := va_Qv post (fun u t => va_P D vwCl (wf u) t.heap ∧ va_D A (wf u)) A
section FBE
variable {l : Launch} {y : MethodName} {rm : Room} {cc : ByteArray} {maxL mc ms sz : Nat} {ret : Option FieldType} {D : va_G} {tys : List (ClassId × FieldType)} {av : List Value} {wc : va_W}
theorem fb_ent {Qf : (Nat → Prop) → Array Value → State → Outcome → State → Prop} (hy : plainName y.cls = true) (hn : (lg_sl av).length ≤ maxL)
    (body : ∀ p e s m args below meth c A ls, fb_Bx p s m args meth c cc y.cls maxL ret D tys A → fb_In D A s.heap wc s.heap [] → lv_has ls maxL (lv_args 0 av) → (meth.name = y.name) → W p l e rm s m args below meth c s.heap [] 0 0 (MQ below (Qf A) args s mc ms A) (F0 m 0 ls [])) : Met l y (Cond.code y cc maxL ret :: fb_all) rm (fb_PP D tys av wc sz) (Qf (va_A wc sz)) mc ms (va_A wc sz) := by
  refine Met.ofW (cc := cc) (maxL := maxL) (ret := ret) hy rfl ?_
  intro p e s m args below meth c s₁ B hml hv
  obtain ⟨rfl, hsz, hP, hK, hD0, hF⟩ := hv
  subst hsz
  have hts : ∀ w ∈ fb_all, w.before av.toArray s = true := fun w h => atoms_spec (ws := Cond.code y cc maxL ret :: fb_all) B.pre w (List.mem_cons_of_mem _ h)
  have hown : s.vm.findClass y.cls = some m.cls := findClass_of_methodNamed (x := y) B.named
  have hl := lv_entry av (n := maxL) hn
  rw [lg_entry_eq]
  refine body p e s m av.toArray below meth c (va_A wc s.heap.size) _ ⟨B.exec, B.bytes, B.returns, hml, hown, hts, B.notSynchronized, fun q h => Or.inr h, hK, hF⟩ ⟨hP, hD0.self, va_S.rf⟩ hl ?_
  exact (name_of_methodNamed B.named B.method).1
/-- one that only reads: the heap stays -/
theorem fb_entR {Qc : Array Value → State → Outcome → State → Prop} (hy : plainName y.cls = true) (hn : (lg_sl av).length ≤ maxL)
    (body : ∀ p e s m args below meth c A ls, fb_Bx p s m args meth c cc y.cls maxL ret D tys A → fb_In D A s.heap wc s.heap [] → lv_has ls maxL (lv_args 0 av) → (meth.name = y.name) → W p l e rm s m args below meth c s.heap [] 0 0 (MQ below Qc args s mc ms (fun _ => False)) (F0 m 0 ls [])) : Met l y (Cond.code y cc maxL ret :: fb_all) rm (fb_PP D tys av wc sz) Qc mc ms (fun _ => False) := by
  refine Met.ofW (cc := cc) (maxL := maxL) (ret := ret) hy rfl ?_
  intro p e s m args below meth c s₁ B hml hv
  obtain ⟨rfl, hsz, hP, hK, hD0, hF⟩ := hv
  subst hsz
  have hts : ∀ w ∈ fb_all, w.before av.toArray s = true := fun w h => atoms_spec (ws := Cond.code y cc maxL ret :: fb_all) B.pre w (List.mem_cons_of_mem _ h)
  have hown : s.vm.findClass y.cls = some m.cls := findClass_of_methodNamed (x := y) B.named
  have hl := lv_entry av (n := maxL) hn
  rw [lg_entry_eq]
  refine body p e s m av.toArray below meth c (va_A wc s.heap.size) _ ⟨B.exec, B.bytes, B.returns, hml, hown, hts, B.notSynchronized, fun q h => Or.inr h, hK, hF⟩ ⟨hP, hD0.self, va_S.rf⟩ hl ?_
  exact (name_of_methodNamed B.named B.method).1
end FBE
section FBC
variable {p : Program} {l : Launch} {e : Env} {R : Room} {s : State} {m : MethodId} {args : Array Value} {below : List Frame} {meth : Method} {c : Code} {H : Heap} {locs : List Loc} {cells slots : Nat} {Q : State → Prop}
  {cc : ByteArray} {own : String} {nL : Nat} {ret : Option FieldType} {D : va_G} {tys : List (ClassId × FieldType)} {A : Nat → Prop} {H0 : Heap} {ws wc wr : va_W} {pc : Nat} {ls : Array Slot} {lv : List (Nat × Value)} {rest : List Value}
/-- a callee's start out of the world here -/
theorem fb_pre (X : fb_Bx p s m args meth c cc own nL ret D tys A) (I : fb_In D A s.heap ws H locs) (isC : List Nat) (hnC : va_nd isC = true) (hC : isC.map (fun i => ws[i]?) = wc.map some) {av : List Value} :
    ∀ U : State, U.heap = H → s.WarmedH U.vm → fb_PP D tys av wc H.size av.toArray U := by
  obtain ⟨hx, hb, hr, hml, hown, hts, hlk, hA, hK, hF⟩ := X
  intro U hU hW
  subst hU
  exact ⟨rfl, rfl, fb_mapP I.1 isC hC, ⟨va_K.moved hW.alike hK.1, hK.2.warm hW⟩, (I.2.1.sub isC hnC hC).weaken (fun _ _ _ _ => trivial), hF.go I.2.2 (va_free I.2.1 I.2.2 hA isC hC) hW.alike⟩
theorem fb_csi {post : Int32 → Prop} {a : Array Value} {st0 : List Value} (hr : va_Run p l e R s m args below meth c H locs cells slots 0 0 (F0 m pc ls st0) rest (vp_Si post a) (fun _ => False))
    (kk : ∀ r : Int32, post r → W p l e R s m args below meth c H locs cells slots Q (F0 m (pc + 3) ls (.int r :: rest))) : W p l e R s m args below meth c H locs cells slots Q (F0 m pc ls st0) := by
  intro T hT X
  obtain ⟨v, st₀, t, T', L, h0, X', hL, e1, -, ⟨r, hv, hp, hh⟩, st⟩ := hr T hT X
  cases hv
  obtain ⟨t2, a1, b1⟩ := kk r hp T' (by rw [e1, hh, h0]) (Stand.forget X' (fun q h => (hL q h).elim))
  exact ⟨t2, st t2 a1, b1⟩
/-- behind a call: the callee's cells are new ones at the same places, the rest stays -/
theorem fb_back {w1 wn : va_W} {H1 : Heap} {locs1 : List Loc} (I : fb_In D A H0 ws H locs) (hA : ∀ q, H0.size ≤ q → A q) (isC isR isB : List Nat) (hC : isC.map (fun i => ws[i]?) = wc.map some) (hR : isR.map (fun i => ws[i]?) = wr.map some) (hnR : va_nd isR = true) (hdis : ∀ i ∈ isR, i ∉ isC) (hnB : va_nd isB = true) (hB : isB.map (fun i => (wr ++ w1)[i]?) = wn.map some)
    (hk : ∀ q : Nat, q < H.size → ¬ va_A wc H.size q → H1[q]? = H[q]?) (hP1 : va_P D vwCl w1 H1) (hD1 : va_D (va_A wc H.size) w1) (hS1 : va_S A H0 H1 locs1) : fb_In D A H0 wn H1 locs1 := by
  obtain ⟨h1, h2⟩ := va_join I.1 I.2.1 isC isR hC hR hnR hdis hk (va_free I.2.1 I.2.2 hA isC hC) hP1 hD1
  exact fb_In.pick ⟨h1, h2, hS1⟩ isB hnB hB
variable {y : MethodName} {bytes : ByteArray} {maxL index n : Nat} {ret' : Option FieldType} {rm : Room} {As : List Value} {b : Nat} {C : String} {fs : List Value} {ci q0 : Nat} {qc : vw_C} {host : String}
abbrev fb_hd (y : MethodName) (n : Nat) : Prop := y.cls ≠ "java/lang/invoke/MethodHandle" ∧ y.cls ≠ "java/lang/invoke/VarHandle" ∧ (parseMethodDescriptor y.desc).map (fun d => d.parameters.length) = some n
theorem fb_runV {Qc : Array Value → State → Outcome → State → Prop} {free : Addr → Prop} {st0 : List Value} (X : fb_Bx p s m args meth c cc own nL ret D tys A) (I : fb_In D A s.heap ws H locs) (hl : lv_has ls nL lv)
    (hM : Met l y (Cond.code y bytes maxL ret' :: fb_all) rm (fb_PP D tys (.ref b :: As) wc H.size) Qc 0 0 free) (hG : GoodIn fb_all (wsV own index C y (Cond.code y bytes maxL ret' :: fb_all))) (hrc : rm.cells = 0) (hrs : rm.slots = 0) (hyC : y.cls = C) (hd : fb_hd y n) (hR : rm.frames + 1 ≤ R.frames ∧ 8 + (maxL + 11) + rm.locals ≤ R.locals)
    (isC : List Nat) (hnC : va_nd isC = true) (hC : isC.map (fun i => ws[i]?) = wc.map some) (hq : vwCl[ci]? = some qc) (hqC : qc.1 = C) (he : ws[q0]? = some (b, .inr (ci, fs))) (hn : As.length = n) (hst : st0 = As.reverse ++ .ref b :: rest) (hrest : (rest.map fun v => v.category).sum ≤ 8) (hcl : cells ≤ R.cells ∧ slots ≤ R.slots) (hdg : decode cc pc = .ok (.invokevirtual index, 3)) :
    va_Run p l e R s m args below meth c H locs cells slots 0 0 (F0 m pc ls st0) rest (Qc (Value.ref b :: As).toArray) free := by
  have X0 := X
  obtain ⟨hx, hb, hr, hml, hown, hts, hlk, hA, hK, hF⟩ := X
  subst hst
  subst hqC
  exact va_runV (As := As) (rest := rest) ⟨hx, hb, hml, hown, hts⟩ hM (cwV n hts hG rfl hrc hrs ⟨hyC, hd⟩ hR) ⟨fb_PP.blind, va_recv hK.1 I.1 hq he, fb_pre X0 I isC hnC hC⟩ rfl hn hl.1 rfl (lv_room hrest) hdg hcl
theorem fb_runSN {Qc : Array Value → State → Outcome → State → Prop} {free : Addr → Prop} {st0 : List Value} (X : fb_Bx p s m args meth c cc own nL ret D tys A) (I : fb_In D A s.heap ws H locs) (hl : lv_has ls nL lv)
    (hM : Met l y (Cond.code y bytes maxL ret' :: fb_all) rm (fb_PP D tys As wc H.size) Qc 0 0 free) (hcode : Cond.code y bytes maxL ret' ∈ fb_all) (hrc : rm.cells = 0) (hrs : rm.slots = 0) (hnest : (own, index, y, host) ∈ fb_nM) (hini : Cond.initialized y.cls ∈ fb_all) (hstat : Cond.static y ∈ fb_all) (hd : fb_hd y n) (hR : rm.frames + 1 ≤ R.frames ∧ 8 + (maxL + 11) + rm.locals ≤ R.locals)
    (isC : List Nat) (hnC : va_nd isC = true) (hC : isC.map (fun i => ws[i]?) = wc.map some) (hn : As.length = n) (hst : st0 = As.reverse ++ rest) (hrest : (rest.map fun v => v.category).sum ≤ 8) (hcl : cells ≤ R.cells ∧ slots ≤ R.slots) (hdg : decode cc pc = .ok (.invokestatic index, 3)) :
    va_Run p l e R s m args below meth c H locs cells slots 0 0 (F0 m pc ls st0) rest (Qc As.toArray) free := by
  have X0 := X
  obtain ⟨hx, hb, hr, hml, hown, hts, hlk, hA, hK, hF⟩ := X
  subst hst
  exact va_runSN (As := As) (rest := rest) ⟨hx, hb, hml, hown, hts⟩ hM ⟨va_cnB n hts (fb_goodC hcode) rfl hrc hrs (hK.2.use hnest) (hts _ hini) hd hR, hts _ hstat, trivial⟩ ⟨fb_PP.blind, fb_pre X0 I isC hnC hC⟩ rfl hn hl.1 rfl (lv_room hrest) hdg hcl
theorem fb_runS {Qc : Array Value → State → Outcome → State → Prop} {free : Addr → Prop} {st0 : List Value} (X : fb_Bx p s m args meth c cc own nL ret D tys A) (I : fb_In D A s.heap ws H locs) (hl : lv_has ls nL lv)
    (hM : Met l y (Cond.code y bytes maxL ret' :: fb_all) rm (fb_PP D tys As wc H.size) Qc 0 0 free) (hG : GoodIn fb_all (va_wsS own index y (Cond.code y bytes maxL ret' :: fb_all))) (hrc : rm.cells = 0) (hrs : rm.slots = 0) (hd : fb_hd y n) (hR : rm.frames + 1 ≤ R.frames ∧ 8 + (maxL + 11) + rm.locals ≤ R.locals)
    (isC : List Nat) (hnC : va_nd isC = true) (hC : isC.map (fun i => ws[i]?) = wc.map some) (hn : As.length = n) (hst : st0 = As.reverse ++ rest) (hrest : (rest.map fun v => v.category).sum ≤ 8) (hcl : cells ≤ R.cells ∧ slots ≤ R.slots) (hdg : decode cc pc = .ok (.invokestatic index, 3)) :
    va_Run p l e R s m args below meth c H locs cells slots 0 0 (F0 m pc ls st0) rest (Qc As.toArray) free := by
  have X0 := X
  obtain ⟨hx, hb, hr, hml, hown, hts, hlk, hA, hK, hF⟩ := X
  subst hst
  exact va_runS (As := As) (rest := rest) ⟨hx, hb, hml, hown, hts⟩ hM (va_cwS n hts hG rfl hrc hrs hd hR) ⟨fb_PP.blind, fb_pre X0 I isC hnC hC⟩ rfl hn hl.1 rfl (lv_room hrest) hdg hcl
theorem fb_goV {S : Type} {post : S → Prop} {wf wn : S → va_W} {a : Array Value} {st0 : List Value} (X : fb_Bx p s m args meth c cc own nL ret D tys A) (I : fb_In D A s.heap ws H locs)
    (hr : va_Run p l e R s m args below meth c H locs cells slots 0 0 (F0 m pc ls st0) rest (fb_QV D (va_A wc H.size) post wf a) (va_A wc H.size)) (isC isR isB : List Nat) (hC : isC.map (fun i => ws[i]?) = wc.map some) (hR : isR.map (fun i => ws[i]?) = (isR.filterMap (fun i => ws[i]?)).map some) (hnR : va_nd isR = true) (hdis : ∀ i ∈ isR, i ∉ isC) (hnB : va_nd isB = true) (hB : ∀ u : S, isB.map (fun i => (isR.filterMap (fun i => ws[i]?) ++ wf u)[i]?) = (wn u).map some)
    (kk : ∀ (u : S) (H1 : Heap) (locs1 : List Loc), post u → fb_In D A s.heap (wn u) H1 locs1 → W p l e R s m args below meth c H1 locs1 cells slots Q (F0 m (pc + 3) ls rest)) : W p l e R s m args below meth c H locs cells slots Q (F0 m pc ls st0) := by
  obtain ⟨hx, hb, hr', hml, hown, hts, hlk, hA, hK, hF⟩ := X
  refine va_callv hr I.2.2 (fun q _ h => va_free I.2.1 I.2.2 hA isC hC q h) (va_free I.2.1 I.2.2 hA isC hC) ?_
  intro u t H1 locs1 ht hvm hp hBt hsz hkk hS1
  subst ht
  exact kk u _ locs1 hp (fb_back I hA isC isR isB hC hR hnR hdis hnB (hB u) hkk hBt.1 hBt.2 hS1)
/-- fields and rows of the world -/
theorem fb_get (X : fb_Bx p s m args meth c cc own nL ret D tys A) (I : fb_In D A s.heap ws H locs) {a index ci N k : Nat} {ref C : String} {T : u_T} {fs : List Value} {v : Value} (hin : ∀ w ∈ u_ws C T N, w ∈ fb_all) (q0 : Nat) (he : ws[q0]? = some (a, .inr (ci, fs))) (hc : vwCl[ci]? = some (C, T, N)) (hk : k < N) (hlink : Cond.fieldLink own index ref (T k).2.1 (T k).2.2.1 ∈ fb_all) (href : (T k).1 = ref) (hv : fs[k]? = some v) (hdg : decode cc pc = .ok (.getfield index, 3))
    (kk : W p l e R s m args below meth c H locs cells slots Q (F0 m (pc + 3) ls (v :: rest))) : W p l e R s m args below meth c H locs cells slots Q (F0 m pc ls (.ref a :: rest)) := by
  obtain ⟨hx, hb, hr, hml, hown, hts, hlk, hA, hK, hF⟩ := X
  subst href
  exact va_get hx hb hts hin hown hK.1 I.1 q0 he hc k hk (hts _ hlink) (fun _ h9 => h9) hv hdg kk
theorem fb_put (X : fb_Bx p s m args meth c cc own nL ret D tys A) (I : fb_In D A s.heap ws H locs) {a index ci N k : Nat} {ref C : String} {T : u_T} {fs : List Value} {v : Value} {wn : va_W} {ty : FieldType} (hin : ∀ w ∈ u_ws C T N, w ∈ fb_all) (ty0 : Nat → FieldType) (hty : ∀ k, k < N → parseFieldDescriptor (T k).2.2.1 = some (ty0 k)) (hnm : ∀ a, a < N → ∀ b, b < N → a ≠ b → (T a).2.1 ≠ (T b).2.1) (q0 : Nat) (he : ws[q0]? = some (a, .inr (ci, fs))) (hc : vwCl[ci]? = some (C, T, N)) (hk : k < N) (hlink : Cond.fieldLink own index ref (T k).2.1 (T k).2.2.1 ∈ fb_all) (href : (T k).1 = ref) (hfin : (T k).2.2.2 = false) (ht0 : ty0 k = ty) (hn : narrow ty v = v) (hfit : fits ty v = true) (hlen : k < fs.length) (hwn : ws.set q0 (a, .inr (ci, fs.set k v)) = wn) (hdg : decode cc pc = .ok (.putfield index, 3))
    (kk : ∀ (H1 : Heap) (locs1 : List Loc), fb_In D A s.heap wn H1 locs1 → W p l e R s m args below meth c H1 locs1 cells slots Q (F0 m (pc + 3) ls rest)) : W p l e R s m args below meth c H locs cells slots Q (F0 m pc ls (v :: .ref a :: rest)) := by
  obtain ⟨hx, hb, hr, hml, hown, hts, hlk, hA, hK, hF⟩ := X
  subst href
  subst ht0
  refine va_put hx hb hts hin ty0 hty hnm hown hK.1 I.1 I.2.1 I.2.2 q0 he hc k hk (hts _ hlink) (fun _ h9 => h9) hfin (hty k hk) hn hfit hlen hdg ?_
  intro H1 locs1 h1 h2 h3
  rw [hwn] at h1 h2
  exact kk H1 locs1 ⟨h1, h2, h3⟩
theorem fb_alen (X : fb_Bx p s m args meth c cc own nL ret D tys A) (I : fb_In D A s.heap ws H locs) {a : Nat} {cA : ClassId} {x : vp_A} {ty : FieldType} {v : Int32} (q0 t0 : Nat) (ha : ws[q0]? = some (a, .inl (cA, x))) (ht : tys[t0]? = some (cA, ty)) (hv : nI x.1 = v) (hdg : decode cc pc = .ok (.arraylength, 1))
    (kk : W p l e R s m args below meth c H locs cells slots Q (F0 m (pc + 1) ls (.int v :: rest))) : W p l e R s m args below meth c H locs cells slots Q (F0 m pc ls (.ref a :: rest)) := by
  obtain ⟨hx, hb, hr, hml, hown, hts, hlk, hA, hK, hF⟩ := X
  exact va_alen hx hb hK.1 I.1 q0 t0 ha ht hv hdg kk
theorem fb_iald (X : fb_Bx p s m args meth c cc own nL ret D tys A) (I : fb_In D A s.heap ws H locs) {a : Nat} {cA : ClassId} {N : Nat} {f : Nat → Int32} (q0 t0 : Nat) (ha : ws[q0]? = some (a, .inl (cA, N, .inl f))) (ht : tys[t0]? = some (cA, .int)) {i : Int32} (hin : vp_in i N) (hdg : decode cc pc = .ok (.iaload, 1))
    (kk : W p l e R s m args below meth c H locs cells slots Q (F0 m (pc + 1) ls (.int (f i.toNatClampNeg) :: rest))) : W p l e R s m args below meth c H locs cells slots Q (F0 m pc ls (.int i :: .ref a :: rest)) := by
  obtain ⟨hx, hb, hr, hml, hown, hts, hlk, hA, hK, hF⟩ := X
  exact va_iald hx hb hK.1 I.1 q0 t0 ha ht hin hdg kk
theorem fb_iast (X : fb_Bx p s m args meth c cc own nL ret D tys A) (I : fb_In D A s.heap ws H locs) {a : Nat} {cA : ClassId} {N : Nat} {f : Nat → Int32} {wn : va_W} (q0 t0 : Nat) (ha : ws[q0]? = some (a, .inl (cA, N, .inl f))) (ht : tys[t0]? = some (cA, .int)) {i x : Int32} (hin : vp_in i N) (hwn : ws.set q0 (a, .inl (cA, N, .inl (upd f i.toNatClampNeg x))) = wn) (hdg : decode cc pc = .ok (.iastore, 1))
    (kk : ∀ (H1 : Heap) (locs1 : List Loc), fb_In D A s.heap wn H1 locs1 → W p l e R s m args below meth c H1 locs1 cells slots Q (F0 m (pc + 1) ls rest)) : W p l e R s m args below meth c H locs cells slots Q (F0 m pc ls (.int x :: .int i :: .ref a :: rest)) := by
  obtain ⟨hx, hb, hr, hml, hown, hts, hlk, hA, hK, hF⟩ := X
  refine va_iast hx hb hK.1 I.1 I.2.1 I.2.2 q0 t0 ha ht hin hdg ?_
  intro H1 locs1 h1 h2 h3
  rw [hwn] at h1 h2
  exact kk H1 locs1 ⟨h1, h2, h3⟩
/-- the ends of a method -/
theorem fb_retI {S : Type} {post : Int32 → S → Prop} {wf : S → va_W} {u : S} {v : Int32} {ty : FieldType} (X : fb_Bx p s m args meth c cc own nL (some ty) D tys A) (I : fb_In D A s.heap (wf u) H locs) (hp : post v u) (hn : narrow ty (.int v) = .int v) (hdg : decode cc pc = .ok (.ireturn, 1)) : W p l e R s m args below meth c H locs cells slots (MQ below (fb_QI D A post wf) args s cells slots A) (F0 m pc ls [.int v]) := by
  obtain ⟨hx, hb, hr, hml, hown, hts, hlk, hA, hK, hF⟩ := X
  exact W.zret hx hb hr hn (fun t ht hW => ⟨⟨v, u, rfl, hp, by rw [ht]; exact I.1, I.2.1⟩, I.2.2.F ht⟩) I.2.2.2.2 hdg
theorem fb_retV {S : Type} {post : S → Prop} {wf : S → va_W} {u : S} (X : fb_Bx p s m args meth c cc own nL none D tys A) (I : fb_In D A s.heap (wf u) H locs) (hp : post u) (hdg : decode cc pc = .ok (.return_, 1)) : W p l e R s m args below meth c H locs cells slots (MQ below (fb_QV D A post wf) args s cells slots A) (F0 m pc ls []) := by
  obtain ⟨hx, hb, hr, hml, hown, hts, hlk, hA, hK, hF⟩ := X
  exact W.vret hx hb hr (fun t ht hW => ⟨⟨u, rfl, hp, by rw [ht]; exact I.1, I.2.1⟩, I.2.2.F ht⟩) I.2.2.2.2 hdg
theorem fb_retRI {v z : Int32} {ty : FieldType} (X : fb_Bx p s m args meth c cc own nL (some ty) D tys A) (E : z = v) (hn : narrow ty (.int v) = .int v) (hdg : decode cc pc = .ok (.ireturn, 1)) : W p l e R s m args below meth c s.heap [] cells slots (MQ below (vp_Si (fun r => r = z)) args s cells slots (fun _ => False)) (F0 m pc ls [.int v]) := by
  obtain ⟨hx, hb, hr, hml, hown, hts, hlk, hA, hK, hF⟩ := X
  exact W.zret hx hb hr hn (fun t ht hW => ⟨v, rfl, E.symm, ht⟩) (fun q h => by cases h) hdg
/-- calls that leave the heap as it is -/
theorem fb_roI {v : Int32} {a : Array Value} {st0 : List Value} (X : fb_Bx p s m args meth c cc own nL ret D tys A) (I : fb_In D A s.heap ws H locs) (hr : va_Run p l e R s m args below meth c H locs cells slots 0 0 (F0 m pc ls st0) rest (vp_Si (fun r => r = v) a) (fun _ => False))
    (kk : W p l e R s m args below meth c H locs cells slots Q (F0 m (pc + 3) ls (.int v :: rest))) : W p l e R s m args below meth c H locs cells slots Q (F0 m pc ls st0) := fb_csi hr (fun r h => by subst h; exact kk)
end FBC
theorem fb_ir {i : Int32} {N : Nat} (h : N < 2 ^ 31) (c1 : ¬ i < 0) (c2 : ¬ nI N ≤ i) : vp_in i N := by
  obtain ⟨j, hj, rfl⟩ := nI_of c1
  exact vp_in_nI (Nat.lt_of_not_le fun q => c2 (nI_le q hj)) h
/-- a loop's measure: up to a bound, down to 0 -/
def fb_mu (i B : Int32) : Nat := (B.toInt - i.toInt).toNat
theorem fb_toI1 {i B : Int32} (c : i.toInt < B.toInt) : (i + 1).toInt = i.toInt + 1 := by
  have a := Int32.toInt_lt B
  have b := Int32.le_toInt i
  rw [Int32.toInt_add, show (1 : Int32).toInt = 1 from rfl]
  exact Jvm.Kit.bmod32 (by omega) (by omega)
theorem fb_mu_lt {i B : Int32} {n : Nat} (c : i < B) (hm : fb_mu i B < n + 1) : fb_mu (i + 1) B < n := by
  rw [Int32.lt_iff_toInt_lt] at c
  unfold fb_mu at hm ⊢
  rw [fb_toI1 c]; omega
theorem fb_mu_ge {i B : Int32} {n : Nat} (c : ¬ B ≤ i) (hm : fb_mu i B < n + 1) : fb_mu (i + 1) B < n := by
  rw [Int32.le_iff_toInt_le] at c
  exact fb_mu_lt (Int32.lt_iff_toInt_lt.mpr (by omega)) hm
section FBD
variable {p : Program} {l : Launch} {e : Env} {R : Room} {s : State} {m : MethodId} {args : Array Value} {below : List Frame} {meth : Method} {c : Code} {H : Heap} {locs : List Loc} {cells slots : Nat} {Q : State → Prop}
  {cc : ByteArray} {own : String} {nL : Nat} {ret : Option FieldType} {D : va_G} {tys : List (ClassId × FieldType)} {A : Nat → Prop} {ws wc : va_W} {pc : Nat} {ls : Array Slot} {lv : List (Nat × Value)} {rest : List Value}
theorem fb_cellc {cA : ClassId} {n : Nat} {f g : Nat → Int32} (h : ∀ j, j < n → f j = g j) : vp_cell cA (n, .inl f) = vp_cell cA (n, .inl g) := by
  rw [vp_cell_i, vp_cell_i]
  unfold arrV
  have e : (fun j : Fin n => Value.int (f j.val)) = (fun j : Fin n => Value.int (g j.val)) := funext fun j => by rw [h j.val j.isLt]
  rw [e]
/-- a row's content may be said in any words that agree on its places -/
theorem fb_In.row {H0 : Heap} (I : fb_In D A H0 ws H locs) (k : Nat) {a : Nat} {cA : ClassId} {n : Nat} {f g : Nat → Int32} {wn : va_W} (ha : ws[k]? = some (a, .inl (cA, n, .inl f))) (h : ∀ j, j < n → f j = g j) (hwn : ws.set k (a, .inl (cA, n, .inl g)) = wn) : fb_In D A H0 wn H locs := by
  subst hwn
  refine ⟨?_, I.2.1.set ha, I.2.2⟩
  intro i q hq
  rw [List.getElem?_set] at hq
  by_cases hki : k = i
  · rw [if_pos hki] at hq
    by_cases hl : k < ws.length
    · rw [if_pos hl] at hq
      cases hq
      have h1 := I.1 k _ ha
      show H[a]? = some (vp_cell cA (n, .inl g))
      rw [← fb_cellc h]
      exact h1
    · rw [if_neg hl] at hq; cases hq
  · rw [if_neg hki] at hq
    exact I.1 i q hq
end FBD

