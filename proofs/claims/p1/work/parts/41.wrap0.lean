/-! rows of the law's wrappers, and their answers on a fresh board -/
section EWA
variable {l : Launch} {y : MethodName} {rm : Room} {cc : ByteArray} {maxL mc ms sz : Nat} {ret : Option FieldType} {D : va_G} {tys : List (ClassId × FieldType)} {av : List Value} {wc : va_W} {hh : List (Nat × Nat × Nat × Nat)}
theorem fb_entW {Qf : (Nat → Prop) → Array Value → State → Outcome → State → Prop} (hy : plainName y.cls = true) (hn : (lg_sl av).length ≤ maxL)
    (body : ∀ p e s m args below meth c A ls, fb_Bx p s m args meth c cc y.cls maxL ret D tys A → fb_In D A s.heap wc s.heap [] → lv_has ls maxL (lv_args 0 av) → (c.exceptionTable.toList = tableOf hh) → W p l e rm s m args below meth c s.heap [] 0 0 (MQ below (Qf A) args s mc ms A) (F0 m 0 ls [])) : Met l y (Cond.codeWith y cc maxL ret hh :: fb_all) rm (fb_PP D tys av wc sz) (Qf (va_A wc sz)) mc ms (va_A wc sz) := by
  refine va_MetW (cc := cc) (maxL := maxL) (ret := ret) (hh := hh) hy rfl ?_
  intro p e s m args below meth c s₁ B hml hv
  obtain ⟨rfl, hsz, hP, hK, hD0, hF⟩ := hv
  subst hsz
  have hts : ∀ w ∈ fb_all, w.before av.toArray s = true := fun w h => atoms_spec (ws := Cond.codeWith y cc maxL ret hh :: fb_all) B.pre w (List.mem_cons_of_mem _ h)
  have htb := vx_table (x := y) B (atoms_spec (ws := Cond.codeWith y cc maxL ret hh :: fb_all) B.pre _ List.mem_cons_self)
  have hown : s.vm.findClass y.cls = some m.cls := findClass_of_methodNamed (x := y) B.named
  have hl := lv_entry av (n := maxL) hn
  rw [lg_entry_eq]
  exact body p e s m av.toArray below meth c (va_A wc s.heap.size) _ ⟨B.exec, B.bytes, B.returns, hml, hown, hts, B.notSynchronized, fun q h => Or.inr h, hK, hF⟩ ⟨hP, hD0.self, va_S.rf⟩ hl htb
end EWA
section EWB
variable {p : Program} {l : Launch} {e : Env} {R0 : Room} {s : State} {m : MethodId} {args : Array Value} {below : List Frame} {meth : Method} {c : Code} {H : Heap} {locs : List Loc} {cells slots mc ms : Nat} {Q : State → Prop}
  {cc : ByteArray} {own : String} {nL : Nat} {ret : Option FieldType} {D : va_G} {tys : List (ClassId × FieldType)} {A : Nat → Prop} {wc : va_W} {bs cs rs : List va_W} {pc : Nat} {ls : Array Slot} {rest : List Value} {a : Array Value} {st0 : List Value}
theorem fb_nxN (X : fb_Bx p s m args meth c cc own nL ret D tys A) : va_Nc "java/lang/IllegalArgumentException" "java/lang/IndexOutOfBoundsException" s := X.2.2.2.2.2.2.2.2.1.2.2.2.2.2.2.2.1
/-- a call whose cells aren't looked at behind it -/
theorem fb_gIx {S : Type} {post : Int32 → S → Prop} {wf : S → va_W} (X : fb_Bx p s m args meth c cc own nL ret D tys A) (I : fb_In D A s.heap bs.flatten H locs) (is : List Nat) (n : Nat) (hn : bs.length = n) (h : is.Perm (List.range n)) (hb : is.map (fun i => bs[i]?) = (cs ++ rs).map some) (hc : cs.flatten = wc)
    (hr : fb_In D A s.heap (wc ++ rs.flatten) H locs → va_Run p l e R0 s m args below meth c H locs cells slots mc ms (F0 m pc ls st0) rest (fb_QI D (va_A wc H.size) post wf a) (va_A wc H.size))
    (kk : ∀ (r : Int32) (u : S) (H1 : Heap) (locs1 : List Loc), post r u → fb_In D A s.heap rs.flatten H1 locs1 → W p l e R0 s m args below meth c H1 locs1 (cells + mc) (slots + ms) Q (F0 m (pc + 3) ls (.int r :: rest))) : W p l e R0 s m args below meth c H locs cells slots Q (F0 m pc ls st0) := by
  have J := fb_cut I n hn is h hb hc
  obtain ⟨hx, hb', hr', hml, hown, hts, hlk, hA, hK, hF⟩ := X
  refine va_calli (hr J) J.2.2 (fun q _ h => fb_freeB J hA q h) (fb_freeB J hA) ?_
  intro r u t H1 locs1 ht hvm hp hBt hsz hkk hS1
  subst ht
  exact kk r u _ locs1 hp (fb_frame (w1 := []) J hA hkk (fun k q hq => by cases hq) ⟨fun i j p q hi => (by cases hi), fun k q hq => (by cases hq)⟩ hS1)
theorem fb_gLx {S : Type} {post : Int64 → S → Prop} {wf : S → va_W} (X : fb_Bx p s m args meth c cc own nL ret D tys A) (I : fb_In D A s.heap bs.flatten H locs) (is : List Nat) (n : Nat) (hn : bs.length = n) (h : is.Perm (List.range n)) (hb : is.map (fun i => bs[i]?) = (cs ++ rs).map some) (hc : cs.flatten = wc)
    (hr : fb_In D A s.heap (wc ++ rs.flatten) H locs → va_Run p l e R0 s m args below meth c H locs cells slots mc ms (F0 m pc ls st0) rest (fb_QL D (va_A wc H.size) post wf a) (va_A wc H.size))
    (kk : ∀ (r : Int64) (u : S) (H1 : Heap) (locs1 : List Loc), post r u → fb_In D A s.heap rs.flatten H1 locs1 → W p l e R0 s m args below meth c H1 locs1 (cells + mc) (slots + ms) Q (F0 m (pc + 3) ls (.long r :: rest))) : W p l e R0 s m args below meth c H locs cells slots Q (F0 m pc ls st0) := by
  have J := fb_cut I n hn is h hb hc
  obtain ⟨hx, hb', hr', hml, hown, hts, hlk, hA, hK, hF⟩ := X
  refine va_calll (hr J) J.2.2 (fun q _ h => fb_freeB J hA q h) (fb_freeB J hA) ?_
  intro r u t H1 locs1 ht hvm hp hBt hsz hkk hS1
  subst ht
  exact kk r u _ locs1 hp (fb_frame (w1 := []) J hA hkk (fun k q hq => by cases hq) ⟨fun i j p q hi => (by cases hi), fun k q hq => (by cases hq)⟩ hS1)
end EWB
theorem na_in {z : Nat} (h : z < 4096) : f_X11_isNoAddress (nI z) = 0 := by
  unfold f_X11_isNoAddress
  rw [if_neg (nI_pos (by omega)), if_pos (show nI z ≤ (4095 : Int32) from nI_le (a := z) (b := 4095) (by omega) (by omega))]
theorem nb_in {z : Nat} (h : z ≤ 255) : f_X11_isNoByte (nI z) = 0 := by
  unfold f_X11_isNoByte
  rw [if_neg (nI_pos (by omega)), if_pos (show nI z ≤ (255 : Int32) from nI_le (a := z) (b := 255) (by omega) (by omega))]
theorem ns_in {z : Nat} (h : 1 ≤ z ∧ z ≤ 5000) : f_X11_isNoSpan (nI z) = 0 := by
  unfold f_X11_isNoSpan
  rw [if_neg (show ¬ nI z < (1 : Int32) from nI_nlt (a := z) (b := 1) (by omega) (by omega)), if_pos (show nI z ≤ (5000 : Int32) from nI_le (a := z) (b := 5000) (by omega) (by omega))]
theorem np_in {z : Nat} (h : z < 1792 ∨ (2048 ≤ z ∧ z < 4096)) : f_X11_isPort (nI z) = 0 := by
  unfold f_X11_isPort
  rcases h with h | h
  · rw [if_pos (show nI z < (1792 : Int32) from nI_lt (b := 1792) h (by decide))]
  · rw [if_neg (show ¬ nI z < (1792 : Int32) from nI_nlt (a := z) (b := 1792) (by omega) (by omega)), if_pos (show (2048 : Int32) ≤ nI z from nI_le (a := 2048) (b := z) (by omega) (by omega))]
theorem np_yes {z : Nat} (h : 1792 ≤ z ∧ z < 2048) : f_X11_isPort (nI z) = 1 := by
  unfold f_X11_isPort
  rw [if_neg (show ¬ nI z < (1792 : Int32) from nI_nlt (a := z) (b := 1792) (by omega) (by omega)), if_neg (show ¬ (2048 : Int32) ≤ nI z from nI_ge (a := z) (b := 2048) (by omega) (by omega))]
theorem a_near (x : Int32) : f_X11_nameNear (fun _ => 0) (fun _ => 0) x = -1 := by
  unfold f_X11_nameNear f_X3_nearest
  rw [f_X3_nearest_7]
  rw [if_pos (by decide)]
theorem a_line (x : Int32) : f_X11_lineOf fb_s0 fb_p0 (fun _ => 0) x = -1 := by
  unfold f_X11_lineOf
  rw [at_zero, if_pos (by decide)]
theorem a_key (x : Int32) : (f_X11_key fb_s0 fb_h0 x).1 = 1 := by
  show (0 : Int32) + 1 = 1
  decide
theorem a_poke (x v : Int32) : (f_X11_poke fb_s0 fb_h0 x v).1 = 0 := at_zero _ _
theorem a_reg0 (v : Int32) : (f_X11_setRegister fb_s0 fb_h0 0 v).1 = 0 := rfl
theorem a_reg1 (v : Int32) : (f_X11_setRegister fb_s0 fb_h0 1 v).1 = 0 := rfl
theorem a_reg2 (v : Int32) : (f_X11_setRegister fb_s0 fb_h0 2 v).1 = 255 := rfl
theorem a_reg3 (v : Int32) : (f_X11_setRegister fb_s0 fb_h0 3 v).1 = 4 := rfl
theorem a_reg4 (v : Int32) : (f_X11_setRegister fb_s0 fb_h0 4 v).1 = 0 := np_0.pc
theorem a_back {z : Nat} (h : z ≤ 200) : (f_X11_back fb_h0 fb_m0 fb_m0 fb_s0 (fun _ => 0) (nI z)).1 = 0 := by
  show (f_X0_rewind fb_h0 fb_m0 fb_m0 fb_s0 (nI z)).1 = 0
  unfold f_X0_rewind
  rw [if_pos (show fb_h0 5 ≤ nI z from nI_le (a := 0) (b := z) (by omega) (by omega))]
  rfl
theorem a_setWatch (x y : Int32) (b c : Bool) : (f_X11_setWatch (fun _ => 0) (fun _ => 0) (fun _ => 0) (fun _ => 0) x y (fb_bI b) (fb_bI c)).1 = 1 := by
  cases b <;> cases c <;> rfl
theorem a_code (x : Int32) : f_X11_codeAt fb_s0 x = 0 := by
  unfold f_X11_codeAt
  rw [np_shown np_0, np_len, if_neg (by decide)]
theorem a_len (x : Int32) : f_X11_lengthAt fb_s0 x = 1 := by
  unfold f_X11_lengthAt
  rw [np_shown np_0, np_len]
theorem a_opr (x : Int32) : f_X11_operandAt fb_s0 x = -1 := by
  unfold f_X11_operandAt f_X2_operand
  rw [np_shown np_0, np_len, if_neg (by decide)]
theorem a_byt (x : Int32) : f_X11_byteAt fb_s0 x = 0 := np_shown np_0 x
theorem a_tim (x : Int32) : f_X11_timesAt fb_s0 x = 0 := at_zero _ _
theorem a_byn (x y : Int32) : f_X11_byteIn fb_s0 x y = 0 := at_zero _ _
