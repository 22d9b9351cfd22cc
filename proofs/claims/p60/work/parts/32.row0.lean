/-! worlds as lists of blocks: what a call touches comes to the front, the rest isn't looked at -/
section BLK
variable {D : va_G} {A : Nat → Prop} {H0 H : Heap} {locs : List Loc}
theorem fb_permW {ws ws' : va_W} (h : ws.Perm ws') (I : fb_In D A H0 ws H locs) : fb_In D A H0 ws' H locs := by
  refine ⟨?_, ?_, I.2.2⟩
  · intro k q hk
    obtain ⟨i, hi⟩ := List.getElem?_of_mem (h.mem_iff.mpr (List.mem_of_getElem? hk))
    exact I.1 i q hi
  · have hp : ws.Pairwise (fun p q => p.1 ≠ q.1) := by
      rw [List.pairwise_iff_getElem]
      intro i j hi hj hij e
      have := I.2.1.1 i j ws[i] ws[j] (List.getElem?_eq_some_iff.mpr ⟨hi, rfl⟩) (List.getElem?_eq_some_iff.mpr ⟨hj, rfl⟩) e
      omega
    have hp' := h.pairwise hp (fun a => Ne.symm a)
    rw [List.pairwise_iff_getElem] at hp'
    refine ⟨?_, ?_⟩
    · intro i j p q hi hj e
      obtain ⟨hi1, hi2⟩ := List.getElem?_eq_some_iff.mp hi
      obtain ⟨hj1, hj2⟩ := List.getElem?_eq_some_iff.mp hj
      rcases Nat.lt_trichotomy i j with c | c | c
      · exact absurd (by rw [hi2, hj2]; exact e) (hp' i j hi1 hj1 c)
      · exact c
      · exact absurd (by rw [hi2, hj2]; exact e.symm) (hp' j i hj1 hi1 c)
    · intro k q hk
      obtain ⟨i, hi⟩ := List.getElem?_of_mem (h.mem_iff.mpr (List.mem_of_getElem? hk))
      exact I.2.1.2 i q hi
theorem fb_rangeM {α : Type} (bs : List α) : (List.range bs.length).map (fun i => bs[i]?) = bs.map some := by
  apply List.ext_getElem?
  intro i
  rw [List.getElem?_map, List.getElem?_map]
  by_cases h : i < bs.length
  · rw [List.getElem?_range h]
    show some (bs[i]?) = Option.map some (bs[i]?)
    rw [List.getElem?_eq_getElem h]; rfl
  · rw [List.getElem?_eq_none (by rw [List.length_range]; omega), List.getElem?_eq_none (by omega)]; rfl
theorem fb_someM {α : Type} : ∀ (l : List α), (l.map some).filterMap id = l := by
  intro l
  induction l with
  | nil => rfl
  | cons a l ih =>
    show a :: ((l.map some).filterMap id) = a :: l
    rw [ih]
theorem fb_bperm {bs bs' : List va_W} (n : Nat) (hn : bs.length = n) (is : List Nat) (h : is.Perm (List.range n)) (hb : is.map (fun i => bs[i]?) = bs'.map some) : bs.flatten.Perm bs'.flatten := by
  subst hn
  have h1 := h.map (fun i => bs[i]?)
  rw [hb, fb_rangeM] at h1
  have h2 := h1.filterMap id
  rw [fb_someM, fb_someM] at h2
  exact h2.symm.flatten
theorem fb_left {w1 w2 : va_W} (I : fb_In D A H0 (w1 ++ w2) H locs) : fb_In D A H0 w1 H locs := by
  have g : ∀ (k : Nat) (q : Nat × va_E), w1[k]? = some q → (w1 ++ w2)[k]? = some q := fun k q hk => by
    rw [List.getElem?_append_left (List.getElem?_eq_some_iff.mp hk).1]; exact hk
  exact ⟨fun k q hk => I.1 k q (g k q hk), ⟨fun i j p q hi hj e => I.2.1.1 i j p q (g i p hi) (g j q hj) e, fun k q hk => I.2.1.2 k q (g k q hk)⟩, I.2.2⟩
theorem fb_rG {w1 w2 : va_W} {k : Nat} {q : Nat × va_E} (hk : w2[k]? = some q) : (w1 ++ w2)[w1.length + k]? = some q := by
  rw [List.getElem?_append_right (by omega), show w1.length + k - w1.length = k from by omega]; exact hk
theorem fb_right {w1 w2 : va_W} (I : fb_In D A H0 (w1 ++ w2) H locs) : fb_In D A H0 w2 H locs := ⟨fun k q hk => I.1 _ q (fb_rG hk), ⟨fun i j p q hi hj e => by have := I.2.1.1 _ _ p q (fb_rG hi) (fb_rG hj) e; omega, fun k q hk => I.2.1.2 _ q (fb_rG hk)⟩, I.2.2⟩
theorem fb_apart {w1 w2 : va_W} (I : fb_In D A H0 (w1 ++ w2) H locs) {i j : Nat} {p q : Nat × va_E} (hi : w1[i]? = some p) (hj : w2[j]? = some q) : p.1 ≠ q.1 := fun e => by
  have h1 := (List.getElem?_eq_some_iff.mp hi).1
  have := I.2.1.1 i (w1.length + j) p q (by rw [List.getElem?_append_left h1]; exact hi) (fb_rG hj) e
  omega
theorem fb_freeB {wc R : va_W} (I : fb_In D A H0 (wc ++ R) H locs) (hA : ∀ q, H0.size ≤ q → A q) : ∀ q, va_A wc H.size q → A q := by
  intro q h
  rcases h with ⟨k, e, h⟩ | h
  · exact (fb_left I).2.1.2 k (q, e) h
  · exact hA q (Nat.le_trans I.2.2.1 h)
theorem fb_frame {wc w1 R : va_W} {H1 : Heap} {locs1 : List Loc} (I : fb_In D A H0 (wc ++ R) H locs) (hA : ∀ q, H0.size ≤ q → A q) (hk : ∀ q : Nat, q < H.size → ¬ va_A wc H.size q → H1[q]? = H[q]?) (hP1 : va_P D vwCl w1 H1) (hD1 : va_D (va_A wc H.size) w1) (hS1 : va_S A H0 H1 locs1) : fb_In D A H0 (w1 ++ R) H1 locs1 := by
  have out : ∀ (k : Nat) (q : Nat × va_E), R[k]? = some q → q.1 < H.size ∧ ¬ va_A wc H.size q.1 := by
    intro k q hq
    have hl := ((fb_right I).1 k q hq).lt
    refine ⟨hl, fun h => ?_⟩
    rcases h with ⟨k2, e, h⟩ | h
    · exact fb_apart I h hq rfl
    · omega
  refine ⟨va_P.app hP1 (fun k q hq => ((fb_right I).1 k q hq).kept (hk q.1 (out k q hq).1 (out k q hq).2)), va_D.app (hD1.weaken (fun k q _ h => fb_freeB I hA q.1 h)) (fb_right I).2.1 (fun i j x y hx hy hxy => ?_), hS1⟩
  exact (out j y hy).2 (hxy ▸ hD1.2 i x hx)
end BLK
section BLC
variable {p : Program} {l : Launch} {e : Env} {R0 : Room} {s : State} {m : MethodId} {args : Array Value} {below : List Frame} {meth : Method} {c : Code} {H : Heap} {locs : List Loc} {cells slots : Nat} {Q : State → Prop}
  {cc : ByteArray} {own : String} {nL : Nat} {ret : Option FieldType} {D : va_G} {tys : List (ClassId × FieldType)} {A : Nat → Prop} {wc R : va_W} {pc : Nat} {ls : Array Slot} {lv : List (Nat × Value)} {rest : List Value}
theorem fb_preB (X : fb_Bx p s m args meth c cc own nL ret D tys A) (I : fb_In D A s.heap (wc ++ R) H locs) {av : List Value} :
    ∀ U : State, U.heap = H → s.WarmedH U.vm → fb_PP D tys av wc H.size av.toArray U := by
  obtain ⟨hx, hb, hr, hml, hown, hts, hlk, hA, hK, hF⟩ := X
  intro U hU hW
  subst hU
  exact ⟨rfl, rfl, (fb_left I).1, ⟨va_K.moved hW.alike hK.1, hK.2.warm hW⟩, (fb_left I).2.1.weaken (fun _ _ _ _ => trivial), hF.go I.2.2 (fb_freeB I hA) hW.alike⟩
variable {y : MethodName} {bytes : ByteArray} {maxL index n : Nat} {ret' : Option FieldType} {rm : Room} {As : List Value} {b : Nat} {C : String} {fs : List Value} {ci : Nat} {qc : vw_C}
theorem fb_runVB {Qc : Array Value → State → Outcome → State → Prop} {free : Addr → Prop} {st0 : List Value} (X : fb_Bx p s m args meth c cc own nL ret D tys A) (hl : lv_has ls nL lv) (hG : GoodIn fb_all (wsV own index C y (Cond.code y bytes maxL ret' :: fb_all)))
    (hM : Met l y (Cond.code y bytes maxL ret' :: fb_all) rm (fb_PP D tys (.ref b :: As) wc H.size) Qc 0 0 free) (hrc : rm.cells = 0) (hrs : rm.slots = 0) (hyC : y.cls = C) (hd : fb_hd y n) (hR : rm.frames + 1 ≤ R0.frames ∧ 8 + (maxL + 11) + rm.locals ≤ R0.locals)
    (hq : vwCl[ci]? = some qc) (hqC : qc.1 = C) (he : (wc ++ R)[0]? = some (b, .inr (ci, fs))) (hn : As.length = n) (hst : st0 = As.reverse ++ .ref b :: rest) (hrest : (rest.map fun v => v.category).sum ≤ 8) (hcl : cells ≤ R0.cells ∧ slots ≤ R0.slots) (hdg : decode cc pc = .ok (.invokevirtual index, 3)) (I : fb_In D A s.heap (wc ++ R) H locs) :
    va_Run p l e R0 s m args below meth c H locs cells slots 0 0 (F0 m pc ls st0) rest (Qc (Value.ref b :: As).toArray) free := by
  have X0 := X
  obtain ⟨hx, hb, hr, hml, hown, hts, hlk, hA, hK, hF⟩ := X
  subst hst
  subst hqC
  exact va_runV (As := As) (rest := rest) ⟨hx, hb, hml, hown, hts⟩ hM (cwV n hts hG rfl hrc hrs ⟨hyC, hd⟩ hR) ⟨fb_PP.blind, va_recv hK.1 I.1 hq he, fb_preB X0 I⟩ rfl hn hl.1 rfl (lv_room hrest) hdg hcl
theorem fb_runSB {Qc : Array Value → State → Outcome → State → Prop} {free : Addr → Prop} {st0 : List Value} (X : fb_Bx p s m args meth c cc own nL ret D tys A) (hl : lv_has ls nL lv) (hG : GoodIn fb_all (va_wsS own index y (Cond.code y bytes maxL ret' :: fb_all)))
    (hM : Met l y (Cond.code y bytes maxL ret' :: fb_all) rm (fb_PP D tys As wc H.size) Qc 0 0 free) (hrc : rm.cells = 0) (hrs : rm.slots = 0) (hd : fb_hd y n) (hR : rm.frames + 1 ≤ R0.frames ∧ 8 + (maxL + 11) + rm.locals ≤ R0.locals)
    (hn : As.length = n) (hst : st0 = As.reverse ++ rest) (hrest : (rest.map fun v => v.category).sum ≤ 8) (hcl : cells ≤ R0.cells ∧ slots ≤ R0.slots) (hdg : decode cc pc = .ok (.invokestatic index, 3)) (I : fb_In D A s.heap (wc ++ R) H locs) :
    va_Run p l e R0 s m args below meth c H locs cells slots 0 0 (F0 m pc ls st0) rest (Qc As.toArray) free := by
  have X0 := X
  obtain ⟨hx, hb, hr, hml, hown, hts, hlk, hA, hK, hF⟩ := X
  subst hst
  exact va_runS (As := As) (rest := rest) ⟨hx, hb, hml, hown, hts⟩ hM (va_cwS n hts hG rfl hrc hrs hd hR) ⟨fb_PP.blind, fb_preB X0 I⟩ rfl hn hl.1 rfl (lv_room hrest) hdg hcl
/-- the front of a world -/
theorem fb_cut {H0 : Heap} {bs cs rs : List va_W} (I : fb_In D A H0 bs.flatten H locs) (n : Nat) (hn : bs.length = n) (is : List Nat) (h : is.Perm (List.range n)) (hb : is.map (fun i => bs[i]?) = (cs ++ rs).map some) (hc : cs.flatten = wc) : fb_In D A H0 (wc ++ rs.flatten) H locs := by
  have := fb_permW (fb_bperm n hn is h hb) I
  rw [List.flatten_append, hc] at this
  exact this
theorem fb_uncut {H0 : Heap} {bs cs rs : List va_W} (I : fb_In D A H0 (wc ++ rs.flatten) H locs) (n : Nat) (hn : bs.length = n) (is : List Nat) (h : is.Perm (List.range n)) (hb : is.map (fun i => bs[i]?) = (cs ++ rs).map some) (hc : cs.flatten = wc) : fb_In D A H0 bs.flatten H locs := by
  rw [← hc, ← List.flatten_append] at I
  exact fb_permW (fb_bperm n hn is h hb).symm I
theorem fb_goIB {S : Type} {post : Int32 → S → Prop} {wf : S → va_W} {a : Array Value} {st0 : List Value} {bs cs rs : List va_W} (wn ds : S → List va_W) (X : fb_Bx p s m args meth c cc own nL ret D tys A) (I : fb_In D A s.heap bs.flatten H locs) (is : List Nat) (n : Nat) (hn : bs.length = n) (h : is.Perm (List.range n)) (hb : is.map (fun i => bs[i]?) = (cs ++ rs).map some) (hc : cs.flatten = wc)
    (hn2 : ∀ u, (wn u).length = n) (hb2 : ∀ u, is.map (fun i => (wn u)[i]?) = (ds u ++ rs).map some) (hc2 : ∀ u, (ds u).flatten = wf u)
    (hr : fb_In D A s.heap (wc ++ rs.flatten) H locs → va_Run p l e R0 s m args below meth c H locs cells slots 0 0 (F0 m pc ls st0) rest (fb_QI D (va_A wc H.size) post wf a) (va_A wc H.size))
    (kk : ∀ (r : Int32) (u : S) (H1 : Heap) (locs1 : List Loc), post r u → fb_In D A s.heap (wn u).flatten H1 locs1 → W p l e R0 s m args below meth c H1 locs1 cells slots Q (F0 m (pc + 3) ls (.int r :: rest))) : W p l e R0 s m args below meth c H locs cells slots Q (F0 m pc ls st0) := by
  have J := fb_cut I n hn is h hb hc
  obtain ⟨hx, hb', hr', hml, hown, hts, hlk, hA, hK, hF⟩ := X
  refine va_calli (hr J) J.2.2 (fun q _ h => fb_freeB J hA q h) (fb_freeB J hA) ?_
  intro r u t H1 locs1 ht hvm hp hBt hsz hkk hS1
  subst ht
  exact kk r u _ locs1 hp (fb_uncut (fb_frame J hA hkk hBt.1 hBt.2 hS1) n (hn2 u) is h (hb2 u) (hc2 u))
theorem fb_goLB {S : Type} {post : Int64 → S → Prop} {wf : S → va_W} {a : Array Value} {st0 : List Value} {bs cs rs : List va_W} (wn ds : S → List va_W) (X : fb_Bx p s m args meth c cc own nL ret D tys A) (I : fb_In D A s.heap bs.flatten H locs) (is : List Nat) (n : Nat) (hn : bs.length = n) (h : is.Perm (List.range n)) (hb : is.map (fun i => bs[i]?) = (cs ++ rs).map some) (hc : cs.flatten = wc)
    (hn2 : ∀ u, (wn u).length = n) (hb2 : ∀ u, is.map (fun i => (wn u)[i]?) = (ds u ++ rs).map some) (hc2 : ∀ u, (ds u).flatten = wf u)
    (hr : fb_In D A s.heap (wc ++ rs.flatten) H locs → va_Run p l e R0 s m args below meth c H locs cells slots 0 0 (F0 m pc ls st0) rest (fb_QL D (va_A wc H.size) post wf a) (va_A wc H.size))
    (kk : ∀ (r : Int64) (u : S) (H1 : Heap) (locs1 : List Loc), post r u → fb_In D A s.heap (wn u).flatten H1 locs1 → W p l e R0 s m args below meth c H1 locs1 cells slots Q (F0 m (pc + 3) ls (.long r :: rest))) : W p l e R0 s m args below meth c H locs cells slots Q (F0 m pc ls st0) := by
  have J := fb_cut I n hn is h hb hc
  obtain ⟨hx, hb', hr', hml, hown, hts, hlk, hA, hK, hF⟩ := X
  refine va_calll (hr J) J.2.2 (fun q _ h => fb_freeB J hA q h) (fb_freeB J hA) ?_
  intro r u t H1 locs1 ht hvm hp hBt hsz hkk hS1
  subst ht
  exact kk r u _ locs1 hp (fb_uncut (fb_frame J hA hkk hBt.1 hBt.2 hS1) n (hn2 u) is h (hb2 u) (hc2 u))
theorem fb_goVB {S : Type} {post : S → Prop} {wf : S → va_W} {a : Array Value} {st0 : List Value} {bs cs rs : List va_W} (wn ds : S → List va_W) (X : fb_Bx p s m args meth c cc own nL ret D tys A) (I : fb_In D A s.heap bs.flatten H locs) (is : List Nat) (n : Nat) (hn : bs.length = n) (h : is.Perm (List.range n)) (hb : is.map (fun i => bs[i]?) = (cs ++ rs).map some) (hc : cs.flatten = wc)
    (hn2 : ∀ u, (wn u).length = n) (hb2 : ∀ u, is.map (fun i => (wn u)[i]?) = (ds u ++ rs).map some) (hc2 : ∀ u, (ds u).flatten = wf u)
    (hr : fb_In D A s.heap (wc ++ rs.flatten) H locs → va_Run p l e R0 s m args below meth c H locs cells slots 0 0 (F0 m pc ls st0) rest (fb_QV D (va_A wc H.size) post wf a) (va_A wc H.size))
    (kk : ∀ (u : S) (H1 : Heap) (locs1 : List Loc), post u → fb_In D A s.heap (wn u).flatten H1 locs1 → W p l e R0 s m args below meth c H1 locs1 cells slots Q (F0 m (pc + 3) ls rest)) : W p l e R0 s m args below meth c H locs cells slots Q (F0 m pc ls st0) := by
  have J := fb_cut I n hn is h hb hc
  obtain ⟨hx, hb', hr', hml, hown, hts, hlk, hA, hK, hF⟩ := X
  refine va_callv (hr J) J.2.2 (fun q _ h => fb_freeB J hA q h) (fb_freeB J hA) ?_
  intro u t H1 locs1 ht hvm hp hBt hsz hkk hS1
  subst ht
  exact kk u _ locs1 hp (fb_uncut (fb_frame J hA hkk hBt.1 hBt.2 hS1) n (hn2 u) is h (hb2 u) (hc2 u))
end BLC
/-! the two boards as the law has them -/
abbrev fb_US : Type := fb_AR × fb_MS × fb_AR × fb_AR × fb_AR × fb_AR × fb_AR × fb_AR × fb_AR
/-- a board: its machine σ, its HISTORY h, its stops e7; what nobody asks for is u -/
def fb_bx (cI : ClassId) (zb : Nat) (t : Nat → Nat) (σ : fb_MS) (h : fb_HS) (e7 : fb_AR) (u : fb_US) : List va_W := [fb_o11 zb (t 0) (t 1) (t 2) (t 3) (t 4) (t 10) (t 20) (t 7) (t 8) (t 9), fb_o3 (t 1) (t 50) (t 51) (t 52) (fun _ => 0), fb_aw cI (t 52) 120 (fun _ => 0), fb_o4 (t 4) (t 60) (t 61) (t 62) (t 63) (t 64) (t 65) (t 66) (t 67) (t 69) fb_p0, fb_aw cI (t 66) 11008 (fun _ => 0), fb_mw cI (fun k => t (10 + k)) σ u.1, fb_mw cI (fun k => t (20 + k)) u.2.1 u.2.2.1, fb_o0 (t 7) (h.2.1 0) (h.2.2.2.1 0) h.1, fb_mw cI h.2.1 h.2.2.1 u.2.2.2.1, fb_mw cI h.2.2.2.1 h.2.2.2.2 u.2.2.2.2.1, fb_o7 (t 8) (t 70) (t 71) (t 73) (t 74) (t 75) e7, fb_o6 (t 9) (t 80) (t 81) (t 82) u.2.2.2.2.2.1, fb_aw cI (t 80) 4096 u.2.2.2.2.2.2.1, fb_aw cI (t 81) 4096 u.2.2.2.2.2.2.2.1, fb_aw cI (t 82) 4096 u.2.2.2.2.2.2.2.2]
theorem fb_bw_bx (cI : ClassId) (zb : Nat) (t : Nat → Nat) (σ : fb_MS) (w : fb_AR) : fb_bw cI zb t σ w = (fb_bx cI zb t σ (fb_h0, (fun k => t (30 + k)), fb_m0, (fun k => t (40 + k)), fb_m0) (fun _ => 0) (w, fb_m0, (fun _ => 0), (fun _ => 0), (fun _ => 0), (fun _ => 0), (fun _ => 0), (fun _ => 0), (fun _ => 0))).flatten := rfl
/-- the law's world -/
def fb_LW (D : va_G) (A : Nat → Prop) (H0 : Heap) (cI : ClassId) (zm : Nat) (tm : Nat → Nat) (zo : Nat) (to : Nat → Nat) (s1 : fb_MS) (h : fb_HS) (e7 : fb_AR) (t : fb_MS) (H : Heap) (locs : List Loc) : Prop := ∃ (u : fb_US) (g : fb_HS) (f7 : fb_AR) (v : fb_US), fb_In D A H0 (fb_bx cI zm tm s1 h e7 u ++ fb_bx cI zo to t g f7 v).flatten H locs
