/-! rows for what makes cells -/
section FBN
variable {p : Program} {l : Launch} {e : Env} {R : Room} {s : State} {m : MethodId} {args : Array Value} {below : List Frame} {meth : Method} {c : Code} {H : Heap} {locs : List Loc} {cells slots mc ms : Nat} {Q : State → Prop}
  {cc : ByteArray} {own : String} {nL : Nat} {ret : Option FieldType} {D : va_G} {cI cJ : ClassId} {tys : List (ClassId × FieldType)} {A : Nat → Prop} {ws wc : va_W} {pc : Nat} {ls : Array Slot} {lv : List (Nat × Value)} {rest : List Value}
theorem fb_newI (X : fb_Bx p s m args meth c cc own nL ret D (fb_ty D cI cJ) A) (I : fb_In D A s.heap ws H locs) {n : Int32} {N : Nat} (harr : Cond.arrayClass .int ∈ fb_all) (hn : ¬ n < 0 ∧ n.toNatClampNeg = N) (hby : N * componentBytes .int ≤ 536870912) (hc : cells + 1 ≤ R.cells) (hs : slots + N ≤ R.slots) (hdg : decode cc pc = .ok (.newarray .int, 2))
    (kk : ∀ (q : Nat) (H1 : Heap), fb_In D A s.heap (ws ++ [(q, .inl (cI, N, .inl (fun _ => 0)))]) H1 locs → W p l e R s m args below meth c H1 locs (cells + 1) (slots + N) Q (F0 m (pc + 2) ls (.ref q :: rest))) : W p l e R s m args below meth c H locs cells slots Q (F0 m pc ls (.int n :: rest)) := by
  obtain ⟨hx, hb, hr, hml, hown, hts, hlk, hA, hK, hF⟩ := X
  refine va_newa (atype := .int) hx hb (hts _ harr) rfl hK.1 I.1 I.2.1 I.2.2 hA (a0 := (N, .inl (fun _ => 0))) (fun cA => rfl) hn.1 hn.2 hby hc hs hdg ?_
  intro q cA H1 k1 k2 k3 k4
  have e1 : s.vm.findClass ("[" ++ (FieldType.int).toString) = some cA := (k1.2 6 (cA, .int) rfl).2
  have e2 : s.vm.findClass ("[" ++ (FieldType.int).toString) = some cI := (hK.1.2 0 (cI, .int) rfl).2
  have e3 : cA = cI := Option.some.inj (e1.symm.trans e2)
  rw [e3] at k2 k3
  exact kk q H1 ⟨k2, k3, k4⟩
theorem fb_newZ (X : fb_Bx p s m args meth c cc own nL ret D (fb_ty D cI cJ) A) (I : fb_In D A s.heap ws H locs) {n : Int32} {N : Nat} (harr : Cond.arrayClass .boolean ∈ fb_all) (hn : ¬ n < 0 ∧ n.toNatClampNeg = N) (hby : N * componentBytes .boolean ≤ 536870912) (hc : cells + 1 ≤ R.cells) (hs : slots + N ≤ R.slots) (hdg : decode cc pc = .ok (.newarray .boolean, 2))
    (kk : ∀ (q : Nat) (H1 : Heap), fb_In D A s.heap (ws ++ [(q, .inl ((D.1 20), N, .inl (fun _ => 0)))]) H1 locs → W p l e R s m args below meth c H1 locs (cells + 1) (slots + N) Q (F0 m (pc + 2) ls (.ref q :: rest))) : W p l e R s m args below meth c H locs cells slots Q (F0 m pc ls (.int n :: rest)) := by
  obtain ⟨hx, hb, hr, hml, hown, hts, hlk, hA, hK, hF⟩ := X
  refine va_newa (atype := .boolean) hx hb (hts _ harr) rfl hK.1 I.1 I.2.1 I.2.2 hA (a0 := (N, .inl (fun _ => 0))) (fun cA => rfl) hn.1 hn.2 hby hc hs hdg ?_
  intro q cA H1 k1 k2 k3 k4
  have e1 : s.vm.findClass ("[" ++ (FieldType.boolean).toString) = some cA := (k1.2 6 (cA, .boolean) rfl).2
  have e2 : s.vm.findClass ("[" ++ (FieldType.boolean).toString) = some (D.1 20) := (hK.1.2 2 ((D.1 20), .boolean) rfl).2
  have e3 : cA = (D.1 20) := Option.some.inj (e1.symm.trans e2)
  rw [e3] at k2 k3
  exact kk q H1 ⟨k2, k3, k4⟩
theorem fb_newB (X : fb_Bx p s m args meth c cc own nL ret D (fb_ty D cI cJ) A) (I : fb_In D A s.heap ws H locs) {n : Int32} {N : Nat} (harr : Cond.arrayClass .byte ∈ fb_all) (hn : ¬ n < 0 ∧ n.toNatClampNeg = N) (hby : N * componentBytes .byte ≤ 536870912) (hc : cells + 1 ≤ R.cells) (hs : slots + N ≤ R.slots) (hdg : decode cc pc = .ok (.newarray .byte, 2))
    (kk : ∀ (q : Nat) (H1 : Heap), fb_In D A s.heap (ws ++ [(q, .inl ((D.1 21), N, .inl (fun _ => 0)))]) H1 locs → W p l e R s m args below meth c H1 locs (cells + 1) (slots + N) Q (F0 m (pc + 2) ls (.ref q :: rest))) : W p l e R s m args below meth c H locs cells slots Q (F0 m pc ls (.int n :: rest)) := by
  obtain ⟨hx, hb, hr, hml, hown, hts, hlk, hA, hK, hF⟩ := X
  refine va_newa (atype := .byte) hx hb (hts _ harr) rfl hK.1 I.1 I.2.1 I.2.2 hA (a0 := (N, .inl (fun _ => 0))) (fun cA => rfl) hn.1 hn.2 hby hc hs hdg ?_
  intro q cA H1 k1 k2 k3 k4
  have e1 : s.vm.findClass ("[" ++ (FieldType.byte).toString) = some cA := (k1.2 6 (cA, .byte) rfl).2
  have e2 : s.vm.findClass ("[" ++ (FieldType.byte).toString) = some (D.1 21) := (hK.1.2 3 ((D.1 21), .byte) rfl).2
  have e3 : cA = (D.1 21) := Option.some.inj (e1.symm.trans e2)
  rw [e3] at k2 k3
  exact kk q H1 ⟨k2, k3, k4⟩
theorem fb_newQ (X : fb_Bx p s m args meth c cc own nL ret D (fb_ty D cI cJ) A) (I : fb_In D A s.heap ws H locs) {index : Nat} {n : Int32} {N : Nat} (hcl : Cond.classLink own index RX1 ∈ fb_all) (hn : ¬ n < 0 ∧ n.toNatClampNeg = N) (hby : N * 4 ≤ 536870912) (hc : cells + 1 ≤ R.cells) (hs : slots + N ≤ R.slots) (hdg : decode cc pc = .ok (.anewarray index, 3))
    (kk : ∀ (q : Nat) (H1 : Heap), fb_In D A s.heap (ws ++ [(q, .inl (D.1 23, N, .inr (.inr (.inr (.inr (fun _ => none))))))]) H1 locs → W p l e R s m args below meth c H1 locs (cells + 1) (slots + N) Q (F0 m (pc + 3) ls (.ref q :: rest))) : W p l e R s m args below meth c H locs cells slots Q (F0 m pc ls (.int n :: rest)) := by
  obtain ⟨hx, hb, hr, hml, hown, hts, hlk, hA, hK, hF⟩ := X
  refine va_newq (N' := N) hx hb hown (hts _ hcl) hK.2.2.2.1 hK.1 I.1 I.2.1 I.2.2 hA hn.1 hn.2 hby hc hs hdg ?_
  intro q cA H1 k1 k2 k3 k4
  obtain ⟨-, -, -, -, -, e1⟩ := (k1.2 6 (cA, .object RX1) rfl).2
  obtain ⟨-, -, -, -, -, e2⟩ := (hK.1.2 5 (D.1 23, .object "FerriteBoard$Line") rfl).2
  have e3 : cA = D.1 23 := Option.some.inj (e1.symm.trans e2)
  rw [e3] at k2 k3
  exact kk q H1 ⟨k2, k3, k4⟩
theorem fb_newH (X : fb_Bx p s m args meth c cc own nL ret D (fb_ty D cI cJ) A) (I : fb_In D A s.heap ws H locs) {index : Nat} {n : Int32} {N : Nat} (hcl : Cond.classLink own index (FieldType.array .int).toString ∈ fb_all) (hn : ¬ n < 0 ∧ n.toNatClampNeg = N) (hby : N * 4 ≤ 536870912) (hc : cells + 1 ≤ R.cells) (hs : slots + N ≤ R.slots) (hdg : decode cc pc = .ok (.anewarray index, 3))
    (kk : ∀ (q : Nat) (H1 : Heap), fb_In D A s.heap (ws ++ [(q, .inl (D.1 22, N, .inr (.inr (.inr (.inr (fun _ => none))))))]) H1 locs → W p l e R s m args below meth c H1 locs (cells + 1) (slots + N) Q (F0 m (pc + 3) ls (.ref q :: rest))) : W p l e R s m args below meth c H locs cells slots Q (F0 m pc ls (.int n :: rest)) := by
  obtain ⟨hx, hb, hr, hml, hown, hts, hlk, hA, hK, hF⟩ := X
  obtain ⟨hn0, hN⟩ := hn
  subst hN
  refine W.anewA (t := .int) hx hb hown (hts _ hcl) (show (Cond.arrayOver (.array .int)).before args s = true from hK.2.2.2.2.1) rfl hdg rfl hn0 hby hc hs fun cA kA comp f1 f2 f3 f4 => ?_
  have e2 : s.vm.findClass ("[" ++ (FieldType.array .int).toString) = some (D.1 22) := (hK.1.2 4 (D.1 22, .array .int) rfl).2
  have e3 : cA = D.1 22 := Option.some.inj (f1.symm.trans e2)
  generalize hH1 : H.push ({ cls := cA, slots := Array.replicate n.toNatClampNeg .null, vm := .none } : Cell) = H1
  have z1 : H1.size = H.size + 1 := by rw [← hH1, Array.size_push]
  have e1 : H1[H.size]? = some (arrV cA n.toNatClampNeg (fun _ => .null)) := by rw [← hH1, Array.getElem?_push_size, ← arrV_new]
  have o1 : ∀ q : Nat, q < H.size → H1[q]? = H[q]? := fun q hq => by rw [← hH1, Array.getElem?_push, if_neg (Nat.ne_of_lt hq)]
  have hk : ∀ (k : Nat) (x : Nat × va_E), ws[k]? = some x → H1[x.1]? = H[x.1]? := fun k x hx => o1 x.1 ((I.1 k x hx).lt)
  refine kk H.size H1 ⟨(I.1.kept hk).app (fun k x hx => ?_), I.2.1.push I.1 rfl (hA _ I.2.2.1), Nat.le_trans I.2.2.1 (by omega), fun x h1 h2 => (o1 x (Nat.lt_of_lt_of_le h1 I.2.2.1)).trans (I.2.2.2.1 x h1 h2), I.2.2.2.2⟩
  have hz : k < 1 := (List.getElem?_eq_some_iff.mp hx).1
  rw [show k = 0 by omega] at hx
  cases hx
  show H1[H.size]? = some (vp_cell _ _)
  rw [vp_cell_q, ← e3]
  exact e1
theorem fb_newJ (X : fb_Bx p s m args meth c cc own nL ret D (fb_ty D cI cJ) A) (I : fb_In D A s.heap ws H locs) {n : Int32} {N : Nat} (harr : Cond.arrayClass .long ∈ fb_all) (hn : ¬ n < 0 ∧ n.toNatClampNeg = N) (hby : N * componentBytes .long ≤ 536870912) (hc : cells + 1 ≤ R.cells) (hs : slots + N ≤ R.slots) (hdg : decode cc pc = .ok (.newarray .long, 2))
    (kk : ∀ (q : Nat) (H1 : Heap), fb_In D A s.heap (ws ++ [(q, .inl (cJ, N, .inr (.inl (fun _ => 0))))]) H1 locs → W p l e R s m args below meth c H1 locs (cells + 1) (slots + N) Q (F0 m (pc + 2) ls (.ref q :: rest))) : W p l e R s m args below meth c H locs cells slots Q (F0 m pc ls (.int n :: rest)) := by
  obtain ⟨hx, hb, hr, hml, hown, hts, hlk, hA, hK, hF⟩ := X
  refine va_newa (atype := .long) hx hb (hts _ harr) rfl hK.1 I.1 I.2.1 I.2.2 hA (a0 := (N, .inr (.inl (fun _ => 0)))) (fun cA => rfl) hn.1 hn.2 hby hc hs hdg ?_
  intro q cA H1 k1 k2 k3 k4
  have e1 : s.vm.findClass ("[" ++ (FieldType.long).toString) = some cA := (k1.2 6 (cA, .long) rfl).2
  have e2 : s.vm.findClass ("[" ++ (FieldType.long).toString) = some cJ := (hK.1.2 1 (cJ, .long) rfl).2
  have e3 : cA = cJ := Option.some.inj (e1.symm.trans e2)
  rw [e3] at k2 k3
  exact kk q H1 ⟨k2, k3, k4⟩
theorem fb_newO (X : fb_Bx p s m args meth c cc own nL ret D tys A) (I : fb_In D A s.heap ws H locs) {C : String} {T : u_T} {N ci index : Nat} {fs : List Value} (hin : ∀ w ∈ u_ws C T N, w ∈ fb_all) (ty : Nat → FieldType) (hty : ∀ k, k < N → parseFieldDescriptor (T k).2.2.1 = some (ty k)) (hcl : Cond.classLink own index C ∈ fb_all) (hinst : Cond.instantiable C N ∈ fb_all) (hini : Cond.initialized C ∈ fb_all) (hc : vwCl[ci]? = some (C, T, N)) (hfs : ∀ j, j < N → defaultValue (ty j) = vp_V fs j) (hcells : cells + 1 ≤ R.cells) (hslots : slots + N ≤ R.slots) (hdg : decode cc pc = .ok (.new index, 3))
    (kk : ∀ (q : Nat) (H1 : Heap), fb_In D A s.heap (ws ++ [(q, .inr (ci, fs))]) H1 locs → W p l e R s m args below meth c H1 locs (cells + 1) (slots + N) Q (F0 m (pc + 3) ls (.ref q :: rest))) : W p l e R s m args below meth c H locs cells slots Q (F0 m pc ls rest) := by
  obtain ⟨hx, hb, hr, hml, hown, hts, hlk, hA, hK, hF⟩ := X
  exact va_new hx hb hts hin ty hty hown (hts _ hcl) (hts _ hinst) (hts _ hini) hK.1 I.1 I.2.1 I.2.2 hA hc hfs hcells hslots hdg (fun q H1 k2 k3 k4 => kk q H1 ⟨k2, k3, k4⟩)
theorem fb_putF (X : fb_Bx p s m args meth c cc own nL ret D tys A) (I : fb_In D A s.heap ws H locs) (hin2 : meth.name = "<init>") {a index ci N k : Nat} {ref C : String} {T : u_T} {fs : List Value} {v : Value} {wn : va_W} {ty : FieldType} (hin : ∀ w ∈ u_ws C T N, w ∈ fb_all) (ty0 : Nat → FieldType) (hty : ∀ k, k < N → parseFieldDescriptor (T k).2.2.1 = some (ty0 k)) (hnm : ∀ a, a < N → ∀ b, b < N → a ≠ b → (T a).2.1 ≠ (T b).2.1) (q0 : Nat) (he : ws[q0]? = some (a, .inr (ci, fs))) (hc : vwCl[ci]? = some (C, T, N)) (hk : k < N) (hlink : Cond.fieldLink own index ref (T k).2.1 (T k).2.2.1 ∈ fb_all) (href : (T k).1 = ref) (hfin : (T k).2.2.2 = true) (hdecl : (T k).1 = own) (ht0 : ty0 k = ty) (hn : narrow ty v = v) (hfit : fits ty v = true) (hlen : k < fs.length) (hwn : ws.set q0 (a, .inr (ci, fs.set k v)) = wn) (hdg : decode cc pc = .ok (.putfield index, 3))
    (kk : ∀ (H1 : Heap) (locs1 : List Loc), fb_In D A s.heap wn H1 locs1 → W p l e R s m args below meth c H1 locs1 cells slots Q (F0 m (pc + 3) ls rest)) : W p l e R s m args below meth c H locs cells slots Q (F0 m pc ls (v :: .ref a :: rest)) := by
  obtain ⟨hx, hb, hr, hml, hown, hts, hlk, hA, hK, hF⟩ := X
  subst href
  subst ht0
  refine va_putF hx hb hts hin ty0 hty hnm hown hK.1 I.1 I.2.1 I.2.2 q0 he hc k hk (hts _ hlink) (fun _ h9 => h9) hfin hin2 hdecl (hty k hk) hn hfit hlen hdg ?_
  intro H1 locs1 h1 h2 h3
  rw [hwn] at h1 h2
  exact kk H1 locs1 ⟨h1, h2, h3⟩
theorem fb_obj (X : fb_Bx p s m args meth c cc own nL ret D tys A) (hl : lv_has ls nL lv) {index a : Nat} (hlink : Cond.methodLink own index objectInit ∈ fb_all) (hinst : Cond.instanceMethod objectInit ∈ fb_all) (hcode : Cond.code objectInit ⟨#[0xb1]⟩ 1 none ∈ fb_all) (hdg : decode cc pc = .ok (.invokespecial index, 3)) (hfr : 1 ≤ R.frames) (hlo : 2 * (F0 m pc ls rest).monitorRoom + (rest.map fun v => v.category).sum + 12 ≤ R.locals)
    (kk : W p l e R s m args below meth c H locs cells slots Q (F0 m (pc + 3) ls rest)) : W p l e R s m args below meth c H locs cells slots Q (F0 m pc ls (.ref a :: rest)) := by
  obtain ⟨hx, hb, hr, hml, hown, hts, hlk, hA, hK, hF⟩ := X
  exact W.objInit hx hb hown (hts _ hlink) (hts _ hinst) (hts _ hcode) rfl (by rw [hml]; exact hl.1) rfl hdg hfr hlo kk
variable {y : MethodName} {bytes : ByteArray} {maxL index n : Nat} {rm : Room} {As : List Value} {b : Nat} {host : String}
theorem fb_runIN {Qc : Array Value → State → Outcome → State → Prop} {free : Addr → Prop} {st0 : List Value} (X : fb_Bx p s m args meth c cc own nL ret D tys A) (I : fb_In D A s.heap ws H locs) (hl : lv_has ls nL lv)
    (hM : Met l y (Cond.code y bytes maxL none :: fb_all) rm (fb_PP D tys (.ref b :: As) wc H.size) Qc mc ms free) (hcode : Cond.code y bytes maxL none ∈ fb_all) (hrc : rm.cells = mc) (hrs : rm.slots = ms) (hnest : (own, index, y, host) ∈ fb_nM) (hini : Cond.initialized y.cls ∈ fb_all) (hy : y.name = "<init>") (him : Cond.instanceMethod y ∈ fb_all) (hd : fb_hd y n) (hR : rm.frames + 1 ≤ R.frames ∧ 8 + (maxL + 11) + rm.locals ≤ R.locals)
    (isC : List Nat) (hnC : va_nd isC = true) (hC : isC.map (fun i => ws[i]?) = wc.map some) (hn : As.length = n) (hst : st0 = As.reverse ++ .ref b :: rest) (hrest : (rest.map fun v => v.category).sum ≤ 8) (hcl : cells + mc ≤ R.cells ∧ slots + ms ≤ R.slots) (hdg : decode cc pc = .ok (.invokespecial index, 3)) :
    va_Run p l e R s m args below meth c H locs cells slots mc ms (F0 m pc ls st0) rest (Qc (Value.ref b :: As).toArray) free := by
  have X0 := X
  obtain ⟨hx, hb, hr, hml, hown, hts, hlk, hA, hK, hF⟩ := X
  subst hst
  exact va_runIN (As := As) (rest := rest) ⟨hx, hb, hml, hown, hts⟩ hM ⟨va_cnB n hts (fb_goodC hcode) rfl hrc hrs (hK.2.use hnest) (hts _ hini) hd hR, hy, hts _ him⟩ ⟨fb_PP.blind, fb_pre X0 I isC hnC hC⟩ rfl hn hl.1 rfl (lv_room hrest) hdg hcl
theorem fb_runI {Qc : Array Value → State → Outcome → State → Prop} {free : Addr → Prop} {st0 : List Value} (X : fb_Bx p s m args meth c cc own nL ret D tys A) (I : fb_In D A s.heap ws H locs) (hl : lv_has ls nL lv)
    (hM : Met l y (Cond.code y bytes maxL none :: fb_all) rm (fb_PP D tys (.ref b :: As) wc H.size) Qc mc ms free) (hcode : Cond.code y bytes maxL none ∈ fb_all) (hrc : rm.cells = mc) (hrs : rm.slots = ms) (hlink : Cond.methodLink own index y ∈ fb_all) (hini : Cond.initialized y.cls ∈ fb_all) (hy : y.name = "<init>") (him : Cond.instanceMethod y ∈ fb_all) (hd : fb_hd y n) (hR : rm.frames + 1 ≤ R.frames ∧ 8 + (maxL + 11) + rm.locals ≤ R.locals)
    (isC : List Nat) (hnC : va_nd isC = true) (hC : isC.map (fun i => ws[i]?) = wc.map some) (hn : As.length = n) (hst : st0 = As.reverse ++ .ref b :: rest) (hrest : (rest.map fun v => v.category).sum ≤ 8) (hcl : cells + mc ≤ R.cells ∧ slots + ms ≤ R.slots) (hdg : decode cc pc = .ok (.invokespecial index, 3)) :
    va_Run p l e R s m args below meth c H locs cells slots mc ms (F0 m pc ls st0) rest (Qc (Value.ref b :: As).toArray) free := by
  have X0 := X
  obtain ⟨hx, hb, hr, hml, hown, hts, hlk, hA, hK, hF⟩ := X
  subst hst
  exact va_runI (As := As) (rest := rest) ⟨hx, hb, hml, hown, hts⟩ hM (cwI n hts (fb_goodC hcode) rfl hrc hrs (hts _ hini) (hts _ hlink) (hts _ him) hy hd hR) ⟨fb_PP.blind, fb_pre X0 I isC hnC hC⟩ rfl hn hl.1 rfl (lv_room hrest) hdg hcl
/-- behind a constructor: what is left of its cells comes behind the rest -/
theorem fb_goN {S : Type} {post : S → Prop} {wf wn : S → va_W} {a : Array Value} {st0 : List Value} (X : fb_Bx p s m args meth c cc own nL ret D tys A) (I : fb_In D A s.heap ws H locs)
    (hr : va_Run p l e R s m args below meth c H locs cells slots mc ms (F0 m pc ls st0) rest (fb_QV D (va_A wc H.size) post wf a) (va_A wc H.size)) (isC isR isB : List Nat) (hC : isC.map (fun i => ws[i]?) = wc.map some) (hR : isR.map (fun i => ws[i]?) = (isR.filterMap (fun i => ws[i]?)).map some) (hnR : va_nd isR = true) (hdis : ∀ i ∈ isR, i ∉ isC) (hnB : va_nd isB = true) (hB : ∀ u : S, isB.map (fun i => (isR.filterMap (fun i => ws[i]?) ++ wf u)[i]?) = (wn u).map some)
    (kk : ∀ (u : S) (H1 : Heap) (locs1 : List Loc), post u → fb_In D A s.heap (wn u) H1 locs1 → W p l e R s m args below meth c H1 locs1 (cells + mc) (slots + ms) Q (F0 m (pc + 3) ls rest)) : W p l e R s m args below meth c H locs cells slots Q (F0 m pc ls st0) := by
  obtain ⟨hx, hb, hr', hml, hown, hts, hlk, hA, hK, hF⟩ := X
  refine va_callv hr I.2.2 (fun q _ h => va_free I.2.1 I.2.2 hA isC hC q h) (va_free I.2.1 I.2.2 hA isC hC) ?_
  intro u t H1 locs1 ht hvm hp hBt hsz hkk hS1
  subst ht
  exact kk u _ locs1 hp (fb_back I hA isC isR isB hC hR hnR hdis hnB (hB u) hkk hBt.1 hBt.2 hS1)
end FBN

