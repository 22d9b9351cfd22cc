/-! worlds as lists of blocks: what a call touches comes to the front, the rest isn't looked at -/
section BLK
variable {D : va_G} {A : Nat → Prop} {H0 H : Heap} {locs : List Loc}
theorem fb_permW {ws ws' : va_W} (h : ws.Perm ws') (I : fb_In D A H0 ws H locs) : fb_In D A H0 ws' H locs := by
  refine ⟨?_, ?_, I.2.2⟩
  · intro k q hk
    obtain ⟨i, hi⟩ := List.getElem?_of_mem (h.mem_iff.mpr (List.mem_of_getElem? hk))
    exact I.1 i q hi
  · have hp : ws.Pairwise (fun p q => p.1 ≠ q.1) := by
      rw [List.pairwise_iff_getElem]
      intro i j hi hj hij e
      have := I.2.1.1 i j ws[i] ws[j] (List.getElem?_eq_some_iff.mpr ⟨hi, rfl⟩) (List.getElem?_eq_some_iff.mpr ⟨hj, rfl⟩) e
      omega
    have hp' := h.pairwise hp (fun a => Ne.symm a)
    rw [List.pairwise_iff_getElem] at hp'
    refine ⟨?_, ?_⟩
    · intro i j p q hi hj e
      obtain ⟨hi1, hi2⟩ := List.getElem?_eq_some_iff.mp hi
      obtain ⟨hj1, hj2⟩ := List.getElem?_eq_some_iff.mp hj
      rcases Nat.lt_trichotomy i j with c | c | c
      · exact absurd (by rw [hi2, hj2]; exact e) (hp' i j hi1 hj1 c)
      · exact c
      · exact absurd (by rw [hi2, hj2]; exact e.symm) (hp' j i hj1 hi1 c)
    · intro k q hk
      obtain ⟨i, hi⟩ := List.getElem?_of_mem (h.mem_iff.mpr (List.mem_of_getElem? hk))
      exact I.2.1.2 i q hi
theorem fb_rangeM {α : Type} (bs : List α) : (List.range bs.length).map (fun i => bs[i]?) = bs.map some := by
  apply List.ext_getElem?
  intro i
  rw [List.getElem?_map, List.getElem?_map]
  by_cases h : i < bs.length
  · rw [List.getElem?_range h]
    show some (bs[i]?) = Option.map some (bs[i]?)
    rw [List.getElem?_eq_getElem h]; rfl
  · rw [List.getElem?_eq_none (by rw [List.length_range]; omega), List.getElem?_eq_none (by omega)]; rfl
theorem fb_someM {α : Type} : ∀ (l : List α), (l.map some).filterMap id = l := by
  intro l
  induction l with
  | nil => rfl
  | cons a l ih =>
    show a :: ((l.map some).filterMap id) = a :: l
    rw [ih]
theorem fb_bperm {bs bs' : List va_W} (n : Nat) (hn : bs.length = n) (is : List Nat) (h : is.Perm (List.range n)) (hb : is.map (fun i => bs[i]?) = bs'.map some) : bs.flatten.Perm bs'.flatten := by
  subst hn
  have h1 := h.map (fun i => bs[i]?)
  rw [hb, fb_rangeM] at h1
  have h2 := h1.filterMap id
  rw [fb_someM, fb_someM] at h2
  exact h2.symm.flatten
theorem fb_left {w1 w2 : va_W} (I : fb_In D A H0 (w1 ++ w2) H locs) : fb_In D A H0 w1 H locs := by
  have g : ∀ (k : Nat) (q : Nat × va_E), w1[k]? = some q → (w1 ++ w2)[k]? = some q := fun k q hk => by
    rw [List.getElem?_append_left (List.getElem?_eq_some_iff.mp hk).1]; exact hk
  exact ⟨fun k q hk => I.1 k q (g k q hk), ⟨fun i j p q hi hj e => I.2.1.1 i j p q (g i p hi) (g j q hj) e, fun k q hk => I.2.1.2 k q (g k q hk)⟩, I.2.2⟩
theorem fb_rG {w1 w2 : va_W} {k : Nat} {q : Nat × va_E} (hk : w2[k]? = some q) : (w1 ++ w2)[w1.length + k]? = some q := by
  rw [List.getElem?_append_right (by omega), show w1.length + k - w1.length = k from by omega]; exact hk
theorem fb_right {w1 w2 : va_W} (I : fb_In D A H0 (w1 ++ w2) H locs) : fb_In D A H0 w2 H locs := ⟨fun k q hk => I.1 _ q (fb_rG hk), ⟨fun i j p q hi hj e => by have := I.2.1.1 _ _ p q (fb_rG hi) (fb_rG hj) e; omega, fun k q hk => I.2.1.2 _ q (fb_rG hk)⟩, I.2.2⟩
theorem fb_apart {w1 w2 : va_W} (I : fb_In D A H0 (w1 ++ w2) H locs) {i j : Nat} {p q : Nat × va_E} (hi : w1[i]? = some p) (hj : w2[j]? = some q) : p.1 ≠ q.1 := fun e => by
  have h1 := (List.getElem?_eq_some_iff.mp hi).1
  have := I.2.1.1 i (w1.length + j) p q (by rw [List.getElem?_append_left h1]; exact hi) (fb_rG hj) e
  omega
theorem fb_freeB {wc R : va_W} (I : fb_In D A H0 (wc ++ R) H locs) (hA : ∀ q, H0.size ≤ q → A q) : ∀ q, va_A wc H.size q → A q := by
  intro q h
  rcases h with ⟨k, e, h⟩ | h
  · exact (fb_left I).2.1.2 k (q, e) h
  · exact hA q (Nat.le_trans I.2.2.1 h)
theorem fb_frame {wc w1 R : va_W} {H1 : Heap} {locs1 : List Loc} (I : fb_In D A H0 (wc ++ R) H locs) (hA : ∀ q, H0.size ≤ q → A q) (hk : ∀ q : Nat, q < H.size → ¬ va_A wc H.size q → H1[q]? = H[q]?) (hP1 : va_P D vwCl w1 H1) (hD1 : va_D (va_A wc H.size) w1) (hS1 : va_S A H0 H1 locs1) : fb_In D A H0 (w1 ++ R) H1 locs1 := by
  have out : ∀ (k : Nat) (q : Nat × va_E), R[k]? = some q → q.1 < H.size ∧ ¬ va_A wc H.size q.1 := by
    intro k q hq
    have hl := ((fb_right I).1 k q hq).lt
    refine ⟨hl, fun h => ?_⟩
    rcases h with ⟨k2, e, h⟩ | h
    · exact fb_apart I h hq rfl
    · omega
  refine ⟨va_P.app hP1 (fun k q hq => ((fb_right I).1 k q hq).kept (hk q.1 (out k q hq).1 (out k q hq).2)), va_D.app (hD1.weaken (fun k q _ h => fb_freeB I hA q.1 h)) (fb_right I).2.1 (fun i j x y hx hy hxy => ?_), hS1⟩
  exact (out j y hy).2 (hxy ▸ hD1.2 i x hx)
end BLK
section BLC
variable {p : Program} {l : Launch} {e : Env} {R0 : Room} {s : State} {m : MethodId} {args : Array Value} {below : List Frame} {meth : Method} {c : Code} {H : Heap} {locs : List Loc} {cells slots : Nat} {Q : State → Prop}
  {cc : ByteArray} {own : String} {nL : Nat} {ret : Option FieldType} {D : va_G} {tys : List (ClassId × FieldType)} {A : Nat → Prop} {wc R : va_W} {pc : Nat} {ls : Array Slot} {lv : List (Nat × Value)} {rest : List Value}
theorem fb_preB (X : fb_Bx p s m args meth c cc own nL ret D tys A) (I : fb_In D A s.heap (wc ++ R) H locs) {av : List Value} :
    ∀ U : State, U.heap = H → s.WarmedH U.vm → fb_PP D tys av wc H.size av.toArray U := by
  obtain ⟨hx, hb, hr, hml, hown, hts, hlk, hA, hK, hF⟩ := X
  intro U hU hW
  subst hU
  exact ⟨rfl, rfl, (fb_left I).1, ⟨va_K.moved hW.alike hK.1, hK.2.warm hW⟩, (fb_left I).2.1.weaken (fun _ _ _ _ => trivial), hF.go I.2.2 (fb_freeB I hA) hW.alike⟩
variable {y : MethodName} {bytes : ByteArray} {maxL index n mc ms : Nat} {ret' : Option FieldType} {rm : Room} {As : List Value} {b : Nat} {C : String} {fs : List Value} {ci : Nat} {qc : vw_C} {host : String}
theorem fb_rV {Qc : Array Value → State → Outcome → State → Prop} {free : Addr → Prop} {st0 : List Value} (X : fb_Bx p s m args meth c cc own nL ret D tys A) (hl : lv_has ls nL lv) (hG : GoodIn fb_all (wsV own index C y (Cond.code y bytes maxL ret' :: fb_all)))
    (hM : Met l y (Cond.code y bytes maxL ret' :: fb_all) rm (fb_PP D tys (.ref b :: As) wc H.size) Qc mc ms free) (hrc : rm.cells = mc) (hrs : rm.slots = ms) (hyC : y.cls = C) (hd : fb_hd y n) (hR : rm.frames + 1 ≤ R0.frames ∧ 8 + (maxL + 11) + rm.locals ≤ R0.locals)
    (hq : vwCl[ci]? = some qc) (hqC : qc.1 = C) (he : (wc ++ R)[0]? = some (b, .inr (ci, fs))) (hn : As.length = n) (hst : st0 = As.reverse ++ .ref b :: rest) (hrest : (rest.map fun v => v.category).sum ≤ 8) (hcl : cells + mc ≤ R0.cells ∧ slots + ms ≤ R0.slots) (hdg : decode cc pc = .ok (.invokevirtual index, 3)) (I : fb_In D A s.heap (wc ++ R) H locs) :
    va_Run p l e R0 s m args below meth c H locs cells slots mc ms (F0 m pc ls st0) rest (Qc (Value.ref b :: As).toArray) free := by
  have X0 := X
  obtain ⟨hx, hb, hr, hml, hown, hts, hlk, hA, hK, hF⟩ := X
  subst hst
  subst hqC
  exact va_runV (As := As) (rest := rest) ⟨hx, hb, hml, hown, hts⟩ hM (cwV n hts hG rfl hrc hrs ⟨hyC, hd⟩ hR) ⟨fb_PP.blind, va_recv hK.1 I.1 hq he, fb_preB X0 I⟩ rfl hn hl.1 rfl (lv_room hrest) hdg hcl
theorem fb_rS {Qc : Array Value → State → Outcome → State → Prop} {free : Addr → Prop} {st0 : List Value} (X : fb_Bx p s m args meth c cc own nL ret D tys A) (hl : lv_has ls nL lv) (hG : GoodIn fb_all (va_wsS own index y (Cond.code y bytes maxL ret' :: fb_all)))
    (hM : Met l y (Cond.code y bytes maxL ret' :: fb_all) rm (fb_PP D tys As wc H.size) Qc mc ms free) (hrc : rm.cells = mc) (hrs : rm.slots = ms) (hd : fb_hd y n) (hR : rm.frames + 1 ≤ R0.frames ∧ 8 + (maxL + 11) + rm.locals ≤ R0.locals)
    (hn : As.length = n) (hst : st0 = As.reverse ++ rest) (hrest : (rest.map fun v => v.category).sum ≤ 8) (hcl : cells + mc ≤ R0.cells ∧ slots + ms ≤ R0.slots) (hdg : decode cc pc = .ok (.invokestatic index, 3)) (I : fb_In D A s.heap (wc ++ R) H locs) :
    va_Run p l e R0 s m args below meth c H locs cells slots mc ms (F0 m pc ls st0) rest (Qc As.toArray) free := by
  have X0 := X
  obtain ⟨hx, hb, hr, hml, hown, hts, hlk, hA, hK, hF⟩ := X
  subst hst
  exact va_runS (As := As) (rest := rest) ⟨hx, hb, hml, hown, hts⟩ hM (va_cwS n hts hG rfl hrc hrs hd hR) ⟨fb_PP.blind, fb_preB X0 I⟩ rfl hn hl.1 rfl (lv_room hrest) hdg hcl
/-- the front of a world -/
theorem fb_cut {H0 : Heap} {bs cs rs : List va_W} (I : fb_In D A H0 bs.flatten H locs) (n : Nat) (hn : bs.length = n) (is : List Nat) (h : is.Perm (List.range n)) (hb : is.map (fun i => bs[i]?) = (cs ++ rs).map some) (hc : cs.flatten = wc) : fb_In D A H0 (wc ++ rs.flatten) H locs := by
  have := fb_permW (fb_bperm n hn is h hb) I
  rw [List.flatten_append, hc] at this
  exact this
theorem fb_uncut {H0 : Heap} {bs cs rs : List va_W} (I : fb_In D A H0 (wc ++ rs.flatten) H locs) (n : Nat) (hn : bs.length = n) (is : List Nat) (h : is.Perm (List.range n)) (hb : is.map (fun i => bs[i]?) = (cs ++ rs).map some) (hc : cs.flatten = wc) : fb_In D A H0 bs.flatten H locs := by
  rw [← hc, ← List.flatten_append] at I
  exact fb_permW (fb_bperm n hn is h hb).symm I
/-! going on behind a call, worlds by blocks; what the callee made counts -/
variable {bs cs rs : List va_W} {a : Array Value} {st0 : List Value}
theorem fb_gV {S : Type} {post : S → Prop} {wf : S → va_W} (wn ds : S → List va_W) (X : fb_Bx p s m args meth c cc own nL ret D tys A) (I : fb_In D A s.heap bs.flatten H locs) (is : List Nat) (n : Nat) (hn : bs.length = n) (h : is.Perm (List.range n)) (hb : is.map (fun i => bs[i]?) = (cs ++ rs).map some) (hc : cs.flatten = wc)
    (js : List Nat) (n2 : Nat) (hn2 : ∀ u, (wn u).length = n2) (h2 : js.Perm (List.range n2)) (hb2 : ∀ u, js.map (fun i => (wn u)[i]?) = (ds u ++ rs).map some) (hc2 : ∀ u, (ds u).flatten = wf u)
    (hr : fb_In D A s.heap (wc ++ rs.flatten) H locs → va_Run p l e R0 s m args below meth c H locs cells slots mc ms (F0 m pc ls st0) rest (fb_QV D (va_A wc H.size) post wf a) (va_A wc H.size))
    (kk : ∀ (u : S) (H1 : Heap) (locs1 : List Loc), post u → fb_In D A s.heap (wn u).flatten H1 locs1 → W p l e R0 s m args below meth c H1 locs1 (cells + mc) (slots + ms) Q (F0 m (pc + 3) ls rest)) : W p l e R0 s m args below meth c H locs cells slots Q (F0 m pc ls st0) := by
  have J := fb_cut I n hn is h hb hc
  obtain ⟨hx, hb', hr', hml, hown, hts, hlk, hA, hK, hF⟩ := X
  refine va_callv (hr J) J.2.2 (fun q _ h => fb_freeB J hA q h) (fb_freeB J hA) ?_
  intro u t H1 locs1 ht hvm hp hBt hsz hkk hS1
  subst ht
  exact kk u _ locs1 hp (fb_uncut (fb_frame J hA hkk hBt.1 hBt.2 hS1) n2 (hn2 u) js h2 (hb2 u) (hc2 u))
theorem fb_gO {v : Int32} (X : fb_Bx p s m args meth c cc own nL ret D tys A) (I : fb_In D A s.heap bs.flatten H locs) (is : List Nat) (n : Nat) (hn : bs.length = n) (h : is.Perm (List.range n)) (hb : is.map (fun i => bs[i]?) = (cs ++ rs).map some) (hc : cs.flatten = wc)
    (hr : fb_In D A s.heap (wc ++ rs.flatten) H locs → va_Run p l e R0 s m args below meth c H locs cells slots 0 0 (F0 m pc ls st0) rest (vp_Si (fun r => r = v) a) (fun _ => False))
    (kk : W p l e R0 s m args below meth c H locs cells slots Q (F0 m (pc + 3) ls (.int v :: rest))) : W p l e R0 s m args below meth c H locs cells slots Q (F0 m pc ls st0) := fb_csi (hr (fb_cut I n hn is h hb hc)) (fun r h => by subst h; exact kk)
/-! tops -/
theorem fb_tI {x v : Int32} (h : x = v) (kk : W p l e R0 s m args below meth c H locs cells slots Q (F0 m pc ls (.int v :: rest))) : W p l e R0 s m args below meth c H locs cells slots Q (F0 m pc ls (.int x :: rest)) := by rw [h]; exact kk
/-! new rows of ints and truths behind the blocks -/
theorem fb_snoc {H0 : Heap} {w : va_W} (I : fb_In D A H0 (bs.flatten ++ w) H locs) : fb_In D A H0 (bs ++ [w]).flatten H locs := by
  rw [List.flatten_append, show ([w] : List va_W).flatten = w from by simp]
  exact I
theorem fb_dropB {H0 : Heap} {bs bs' gs : List va_W} (I : fb_In D A H0 bs.flatten H locs) (n : Nat) (hn : bs.length = n) (is : List Nat) (h : is.Perm (List.range n)) (hb : is.map (fun i => bs[i]?) = (bs' ++ gs).map some) : fb_In D A H0 bs'.flatten H locs := by
  have J := fb_permW (fb_bperm n hn is h hb) I
  rw [List.flatten_append] at J
  exact fb_left J
end BLC
section BLN
variable {p : Program} {l : Launch} {e : Env} {R0 : Room} {s : State} {m : MethodId} {args : Array Value} {below : List Frame} {meth : Method} {c : Code} {H : Heap} {locs : List Loc} {cells slots : Nat} {Q : State → Prop}
  {cc : ByteArray} {own : String} {nL : Nat} {ret : Option FieldType} {D : va_G} {cI cJ : ClassId} {A : Nat → Prop} {pc : Nat} {ls : Array Slot} {rest : List Value} {bs : List va_W}
theorem fb_nI (X : fb_Bx p s m args meth c cc own nL ret D (fb_ty D cI cJ) A) (I : fb_In D A s.heap bs.flatten H locs) {n : Int32} {N : Nat} (harr : Cond.arrayClass .int ∈ fb_all) (hn : ¬ n < 0 ∧ n.toNatClampNeg = N) (hby : N * componentBytes .int ≤ 536870912) (hc : cells + 1 ≤ R0.cells) (hs : slots + N ≤ R0.slots) (hdg : decode cc pc = .ok (.newarray .int, 2))
    (kk : ∀ (q : Nat) (H1 : Heap), fb_In D A s.heap (bs ++ [fb_aw cI q N (fun _ => 0)]).flatten H1 locs → W p l e R0 s m args below meth c H1 locs (cells + 1) (slots + N) Q (F0 m (pc + 2) ls (.ref q :: rest))) : W p l e R0 s m args below meth c H locs cells slots Q (F0 m pc ls (.int n :: rest)) :=
  fb_newI X I harr hn hby hc hs hdg fun q H1 J => kk q H1 (fb_snoc (w := fb_aw cI q N (fun _ => 0)) J)
theorem fb_nZ (X : fb_Bx p s m args meth c cc own nL ret D (fb_ty D cI cJ) A) (I : fb_In D A s.heap bs.flatten H locs) {n : Int32} {N : Nat} (harr : Cond.arrayClass .boolean ∈ fb_all) (hn : ¬ n < 0 ∧ n.toNatClampNeg = N) (hby : N * componentBytes .boolean ≤ 536870912) (hc : cells + 1 ≤ R0.cells) (hs : slots + N ≤ R0.slots) (hdg : decode cc pc = .ok (.newarray .boolean, 2))
    (kk : ∀ (q : Nat) (H1 : Heap), fb_In D A s.heap (bs ++ [fb_aw (D.1 20) q N (fun _ => 0)]).flatten H1 locs → W p l e R0 s m args below meth c H1 locs (cells + 1) (slots + N) Q (F0 m (pc + 2) ls (.ref q :: rest))) : W p l e R0 s m args below meth c H locs cells slots Q (F0 m pc ls (.int n :: rest)) :=
  fb_newZ X I harr hn hby hc hs hdg fun q H1 J => kk q H1 (fb_snoc (w := fb_aw (D.1 20) q N (fun _ => 0)) J)
end BLN
section BLA
variable {p : Program} {l : Launch} {e : Env} {R : Room} {s : State} {m : MethodId} {args : Array Value} {below : List Frame} {meth : Method} {c : Code} {H : Heap} {locs : List Loc} {cells slots : Nat} {Q : State → Prop}
  {cc : ByteArray} {own : String} {nL : Nat} {ret : Option FieldType} {D : va_G} {tys : List (ClassId × FieldType)} {A : Nat → Prop} {ws : va_W} {pc : Nat} {ls : Array Slot} {rest : List Value} {a : Nat} {cA : ClassId} {N n : Nat} {f : Nat → Int32} {wn : va_W} {i x v : Int32}
theorem fb_inC (hn : i.toNatClampNeg = n) (h0 : ¬ i < 0) (hlt : n < N) : vp_in i N := by
  subst hn
  intro h
  rcases h with h | h
  · exact h0 h
  · exact absurd hlt (Nat.not_lt.mpr h)
/-! reads and writes of rows at a known place -/
theorem fb_iaC (X : fb_Bx p s m args meth c cc own nL ret D tys A) (I : fb_In D A s.heap ws H locs) (q0 t0 : Nat) (ha : ws[q0]? = some (a, .inl (cA, N, .inl f))) (ht : tys[t0]? = some (cA, .int)) (hn : i.toNatClampNeg = n) (h0 : ¬ i < 0) (hlt : n < N) (hv : f n = v) (hdg : decode cc pc = .ok (.iaload, 1))
    (kk : W p l e R s m args below meth c H locs cells slots Q (F0 m (pc + 1) ls (.int v :: rest))) : W p l e R s m args below meth c H locs cells slots Q (F0 m pc ls (.int i :: .ref a :: rest)) := by
  refine fb_iald X I q0 t0 ha ht (fb_inC hn h0 hlt) hdg ?_
  rw [hn, hv]; exact kk
theorem fb_zaC (X : fb_Bx p s m args meth c cc own nL ret D tys A) (I : fb_In D A s.heap ws H locs) (q0 t0 : Nat) (ha : ws[q0]? = some (a, .inl (cA, N, .inl f))) (ht : tys[t0]? = some (cA, .boolean)) (hn : i.toNatClampNeg = n) (h0 : ¬ i < 0) (hlt : n < N) (hv : f n = v) (hdg : decode cc pc = .ok (.baload, 1))
    (kk : W p l e R s m args below meth c H locs cells slots Q (F0 m (pc + 1) ls (.int v :: rest))) : W p l e R s m args below meth c H locs cells slots Q (F0 m pc ls (.int i :: .ref a :: rest)) := by
  obtain ⟨hx, hb, hr, hml, hown, hts, hlk, hA, hK, hF⟩ := X
  refine va_zald hx hb hK.1 I.1 q0 t0 ha ht (fb_inC hn h0 hlt) hdg ?_
  rw [hn, hv]; exact kk
theorem fb_isC (X : fb_Bx p s m args meth c cc own nL ret D tys A) (I : fb_In D A s.heap ws H locs) (q0 t0 : Nat) (ha : ws[q0]? = some (a, .inl (cA, N, .inl f))) (ht : tys[t0]? = some (cA, .int)) (hn : i.toNatClampNeg = n) (h0 : ¬ i < 0) (hlt : n < N) (hwn : ws.set q0 (a, .inl (cA, N, .inl (upd f n x))) = wn) (hdg : decode cc pc = .ok (.iastore, 1))
    (kk : ∀ (H1 : Heap) (locs1 : List Loc), fb_In D A s.heap wn H1 locs1 → W p l e R s m args below meth c H1 locs1 cells slots Q (F0 m (pc + 1) ls rest)) : W p l e R s m args below meth c H locs cells slots Q (F0 m pc ls (.int x :: .int i :: .ref a :: rest)) := by
  subst hn
  exact fb_iast X I q0 t0 ha ht (fb_inC rfl h0 hlt) hwn hdg kk
theorem fb_zsC (X : fb_Bx p s m args meth c cc own nL ret D tys A) (I : fb_In D A s.heap ws H locs) (q0 t0 : Nat) (ha : ws[q0]? = some (a, .inl (cA, N, .inl f))) (ht : tys[t0]? = some (cA, .boolean)) (hn : i.toNatClampNeg = n) (h0 : ¬ i < 0) (hlt : n < N) (hx9 : vp_nar .boolean x = v) (hwn : ws.set q0 (a, .inl (cA, N, .inl (upd f n v))) = wn) (hdg : decode cc pc = .ok (.bastore, 1))
    (kk : ∀ (H1 : Heap) (locs1 : List Loc), fb_In D A s.heap wn H1 locs1 → W p l e R s m args below meth c H1 locs1 cells slots Q (F0 m (pc + 1) ls rest)) : W p l e R s m args below meth c H locs cells slots Q (F0 m pc ls (.int x :: .int i :: .ref a :: rest)) := by
  obtain ⟨hx, hb, hr, hml, hown, hts, hlk, hA, hK, hF⟩ := X
  subst hn
  subst hx9
  refine va_zast hx hb hK.1 I.1 I.2.1 I.2.2 q0 t0 ha ht (fb_inC rfl h0 hlt) hdg ?_
  intro H1 locs1 h1 h2 h3
  rw [hwn] at h1 h2
  exact kk H1 locs1 ⟨h1, h2, h3⟩
end BLA

