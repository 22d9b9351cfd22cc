section NFR
variable {p : Program} {l : Launch} {e : Env} {R0 : Room} {s : State} {m : MethodId} {args : Array Value} {below : List Frame} {meth : Method} {c : Code} {H : Heap} {locs : List Loc} {cells slots mc ms : Nat} {Q : State → Prop}
  {cc : ByteArray} {own : String} {nL : Nat} {ret' : Option FieldType} {D : va_G} {tys : List (ClassId × FieldType)} {A : Nat → Prop} {wc R : va_W} {pc : Nat} {ls : Array Slot} {lv : List (Nat × Value)} {rest : List Value}
theorem fb_goNF {S : Type} {post : S → Prop} {wf : S → va_W} {a : Array Value} {st0 : List Value} (X : fb_Bx p s m args meth c cc own nL ret' D tys A) (I : fb_In D A s.heap (wc ++ R) H locs)
    (hr : va_Run p l e R0 s m args below meth c H locs cells slots mc ms (F0 m pc ls st0) rest (fb_QV D (va_A wc H.size) post wf a) (va_A wc H.size))
    (kk : ∀ (u : S) (H1 : Heap) (locs1 : List Loc), post u → fb_In D A s.heap (wf u ++ R) H1 locs1 → W p l e R0 s m args below meth c H1 locs1 (cells + mc) (slots + ms) Q (F0 m (pc + 3) ls rest)) : W p l e R0 s m args below meth c H locs cells slots Q (F0 m pc ls st0) := by
  obtain ⟨hx, hb, hr', hml, hown, hts, hlk, hA, hK, hF⟩ := X
  refine va_callv hr I.2.2 (fun q _ h => fb_freeB I hA q h) (fb_freeB I hA) ?_
  intro u t H1 locs1 ht hvm hp hBt hsz hkk hS1
  subst ht
  exact kk u _ locs1 hp (fb_frame I hA hkk hBt.1 hBt.2 hS1)
variable {y : MethodName} {bytes : ByteArray} {maxL index n : Nat} {rm : Room} {As : List Value} {b : Nat}
theorem fb_runIF {Qc : Array Value → State → Outcome → State → Prop} {free : Addr → Prop} {st0 : List Value} (X : fb_Bx p s m args meth c cc own nL ret' D tys A) (I : fb_In D A s.heap (wc ++ R) H locs) (hl : lv_has ls nL lv)
    (hM : Met l y (Cond.code y bytes maxL none :: fb_all) rm (fb_PP D tys (.ref b :: As) wc H.size) Qc mc ms free) (hcode : Cond.code y bytes maxL none ∈ fb_all) (hrc : rm.cells = mc) (hrs : rm.slots = ms) (hlink : Cond.methodLink own index y ∈ fb_all) (hini : Cond.initialized y.cls ∈ fb_all) (hy : y.name = "<init>") (him : Cond.instanceMethod y ∈ fb_all) (hd : fb_hd y n) (hR : rm.frames + 1 ≤ R0.frames ∧ 8 + (maxL + 11) + rm.locals ≤ R0.locals)
    (hn : As.length = n) (hst : st0 = As.reverse ++ .ref b :: rest) (hrest : (rest.map fun v => v.category).sum ≤ 8) (hcl : cells + mc ≤ R0.cells ∧ slots + ms ≤ R0.slots) (hdg : decode cc pc = .ok (.invokespecial index, 3)) :
    va_Run p l e R0 s m args below meth c H locs cells slots mc ms (F0 m pc ls st0) rest (Qc (Value.ref b :: As).toArray) free := by
  have X0 := X
  obtain ⟨hx, hb, hr, hml, hown, hts, hlk, hA, hK, hF⟩ := X
  subst hst
  exact va_runI (As := As) (rest := rest) ⟨hx, hb, hml, hown, hts⟩ hM (cwI n hts (fb_goodC hcode) rfl hrc hrs (hts _ hini) (hts _ hlink) (hts _ him) hy hd hR) ⟨fb_PP.blind, fb_preB X0 I⟩ rfl hn hl.1 rfl (lv_room hrest) hdg hcl
end NFR
theorem fb_bwB (cI cJ cL : ClassId) (zb : Nat) (t tl : Nat → Nat) (σ : fb_MS) (w : fb_AR) : fb_bw cI cJ cL zb t tl σ w = ([fb_o11 zb (t 0) (t 1) (t 2) (t 3) (t 4) (t 10) (t 20) (t 7) (t 8) (t 9), fb_o3 (t 1) (t 50) (t 51) (t 52) (fun _ => 0), fb_aw cI (t 52) 120 (fun _ => 0), fb_o4 (t 4) (t 0) (t 2) (t 1) (t 3) (t 64) (t 65) (t 66) (t 67) (t 69) fb_p0, fb_aw cI (t 66) 11008 (fun _ => 0), fb_mw cI (fun k => t (10 + k)) σ w, fb_mw cI (fun k => t (20 + k)) fb_m0 (fun _ => 0), fb_o0 (t 7) (t 30) (t 40) fb_h0, fb_mw cI (fun k => t (30 + k)) fb_m0 (fun _ => 0), fb_mw cI (fun k => t (40 + k)) fb_m0 (fun _ => 0), fb_o7 (t 8) (t 70) (t 71) (t 73) (t 74) (t 75) (fun _ => 0), fb_o6 (t 9) (t 80) (t 81) (t 82) (fun _ => 0), fb_aw cI (t 80) 4096 (fun _ => 0), fb_aw cI (t 81) 4096 (fun _ => 0), fb_aw cI (t 82) 4096 (fun _ => 0), fb_o9 (t 0) (t 100) (t 101) (t 102) (t 103) (fun _ => 0), fb_aw cI (t 100) 2000 (fun _ => 0), fb_aw cI (t 101) 2001 (fun _ => 0), fb_aw cI (t 102) 2001 (fun _ => 0), fb_jw cJ (t 103) 2001 (fun _ => 0), fb_jw cJ (t 50) 120 (fun _ => 0), fb_aw cI (t 51) 120 (fun _ => 0), fb_o10 (t 2) (t 0) (t 1) (fun _ => 0), fb_o8 (t 3) (t 0) (t 2) (t 90) (t 91) (fun _ => 0), fb_qw cL (t 90) 120 tl, fb_o1 (tl 0) (fun _ => 0), fb_aw cI (t 64) 11008 (fun _ => 0), fb_aw cI (t 65) 11008 (fun _ => 0), fb_aw cI (t 67) 2048 (fun _ => 0), fb_aw cI (t 69) 4 (fun _ => 0), fb_aw cI (t 70) 6 (fun _ => 0), fb_aw cI (t 71) 6 (fun _ => 0), fb_aw cI (t 73) 4 (fun _ => 0), fb_aw cI (t 74) 4 (fun _ => 0), fb_aw cI (t 75) 4 (fun _ => 0)] : List va_W).flatten := by
  unfold fb_bw
  simp only [List.flatten_cons, List.flatten_nil, List.append_nil]

