/-! whole_start, and the claim -/
section NFR
variable {p : Program} {l : Launch} {e : Env} {R0 : Room} {s : State} {m : MethodId} {args : Array Value} {below : List Frame} {meth : Method} {c : Code} {H : Heap} {locs : List Loc} {cells slots mc ms : Nat} {Q : State → Prop}
  {cc : ByteArray} {own : String} {nL : Nat} {ret' : Option FieldType} {D : va_G} {tys : List (ClassId × FieldType)} {A : Nat → Prop} {wc R : va_W} {pc : Nat} {ls : Array Slot} {lv : List (Nat × Value)} {rest : List Value}
theorem fb_goNF {S : Type} {post : S → Prop} {wf : S → va_W} {a : Array Value} {st0 : List Value} (X : fb_Bx p s m args meth c cc own nL ret' D tys A) (I : fb_In D A s.heap (wc ++ R) H locs)
    (hr : va_Run p l e R0 s m args below meth c H locs cells slots mc ms (F0 m pc ls st0) rest (fb_QV D (va_A wc H.size) post wf a) (va_A wc H.size))
    (kk : ∀ (u : S) (H1 : Heap) (locs1 : List Loc), post u → fb_In D A s.heap (wf u ++ R) H1 locs1 → W p l e R0 s m args below meth c H1 locs1 (cells + mc) (slots + ms) Q (F0 m (pc + 3) ls rest)) : W p l e R0 s m args below meth c H locs cells slots Q (F0 m pc ls st0) := by
  obtain ⟨hx, hb, hr', hml, hown, hts, hlk, hA, hK, hF⟩ := X
  refine va_callv hr I.2.2 (fun q _ h => fb_freeB I hA q h) (fb_freeB I hA) ?_
  intro u t H1 locs1 ht hvm hp hBt hsz hkk hS1
  subst ht
  exact kk u _ locs1 hp (fb_frame I hA hkk hBt.1 hBt.2 hS1)
variable {y : MethodName} {bytes : ByteArray} {maxL index n : Nat} {rm : Room} {As : List Value} {b : Nat}
theorem fb_runIF {Qc : Array Value → State → Outcome → State → Prop} {free : Addr → Prop} {st0 : List Value} (X : fb_Bx p s m args meth c cc own nL ret' D tys A) (I : fb_In D A s.heap (wc ++ R) H locs) (hl : lv_has ls nL lv)
    (hM : Met l y (Cond.code y bytes maxL none :: fb_all) rm (fb_PP D tys (.ref b :: As) wc H.size) Qc mc ms free) (hcode : Cond.code y bytes maxL none ∈ fb_all) (hrc : rm.cells = mc) (hrs : rm.slots = ms) (hlink : Cond.methodLink own index y ∈ fb_all) (hini : Cond.initialized y.cls ∈ fb_all) (hy : y.name = "<init>") (him : Cond.instanceMethod y ∈ fb_all) (hd : fb_hd y n) (hR : rm.frames + 1 ≤ R0.frames ∧ 8 + (maxL + 11) + rm.locals ≤ R0.locals)
    (hn : As.length = n) (hst : st0 = As.reverse ++ .ref b :: rest) (hrest : (rest.map fun v => v.category).sum ≤ 8) (hcl : cells + mc ≤ R0.cells ∧ slots + ms ≤ R0.slots) (hdg : decode cc pc = .ok (.invokespecial index, 3)) :
    va_Run p l e R0 s m args below meth c H locs cells slots mc ms (F0 m pc ls st0) rest (Qc (Value.ref b :: As).toArray) free := by
  have X0 := X
  obtain ⟨hx, hb, hr, hml, hown, hts, hlk, hA, hK, hF⟩ := X
  subst hst
  exact va_runI (As := As) (rest := rest) ⟨hx, hb, hml, hown, hts⟩ hM (cwI n hts (fb_goodC hcode) rfl hrc hrs (hts _ hini) (hts _ hlink) (hts _ him) hy hd hR) ⟨fb_PP.blind, fb_preB X0 I⟩ rfl hn hl.1 rfl (lv_room hrest) hdg hcl
end NFR
set_option maxHeartbeats 8000000 in
set_option maxRecDepth 100000 in
/-- from the entry, for every script, the law comes to its end with true -/
theorem whole_start {p : Program} {e : Env} {s : State} {m : MethodId} {below : List Frame} {meth : Method} {c : Code} (l : Launch) (hflags : l.flags = flags0) {b L : Nat} {xs : Nat → Int32} (hL : L ≤ 260) (C0 : lw_At p s m meth c b L xs) : W p l e room_1 s m #[Value.ref b] below meth c s.heap [] 0 0 (lw_Z below #[Value.ref b] s) (entryFrame m ([Value.ref b] : List Value).toArray 18) := by
  obtain ⟨hx, hb, hr, hml, hown, htb, hX, hbl, hlocks, hgv⟩ := id C0
  have hts : ∀ w ∈ fb_all, w.before #[Value.ref b] s = true := fun w h => htb w (fb_allIn w h)
  obtain ⟨D, hKc⟩ := fb_KnOf hts
  obtain ⟨cI, cJ, hty⟩ := fb_tyOf hts
  have X : fb_Bx p s m #[Value.ref b] meth c cL_law RL 18 (some .boolean) D (fb_ty cI cJ) (fun q : Nat => s.heap.size ≤ q) := ⟨hx, hb, hr, hml, hown, hts, hlocks, fun q h => h, ⟨⟨hKc, hty⟩, fb_NstOf htb⟩, fb_FzOf htb hgv⟩
  have hbA : ¬ (fun q : Nat => s.heap.size ≤ q) b := Nat.not_le.mpr hbl
  have I : fb_In D (fun q : Nat => s.heap.size ≤ q) s.heap ([] : va_W) s.heap [] := ⟨fun k q h => by simp at h, ⟨fun i j p q h => by simp at h, fun k q h => by simp at h⟩, va_S.rf⟩
  have hl := lv_entry ([.ref b]) (n := 18) (Nat.le_of_ble_eq_true rfl)
  rw [lg_entry_eq]
  generalize (lg_sl ([.ref b]) ++ List.replicate (18 - (lg_sl ([.ref b])).length) Slot.unset).toArray = ls at hl ⊢
  have hl : lv_has ls 18 [(0, .ref b)] := hl
  refine fb_newO X I (ci := 11) (fs := [.null, .null, .null, .null, .null, .null, .null, .null, .null, .null]) fu_X11 tyX11 tyX11_ok fw_65 fw_66 fw_44 rfl (by decide +kernel) (Nat.le_of_ble_eq_true rfl) (Nat.le_of_ble_eq_true rfl) dL_law_0 (fun zm H I => ?_)
  have I : fb_In D (fun q : Nat => s.heap.size ≤ q) s.heap (([(zm, .inr (11, [.null, .null, .null, .null, .null, .null, .null, .null, .null, .null]))] : va_W) ++ ([] : va_W)) H _ := I
  refine lv_dup hx hb dL_law_3 rfl ?_
  refine fb_goNF X I (fb_runIF (As := []) (rest := [.ref zm]) X I hl (c_X11_init l D cI cJ zm _) fw_69 rfl rfl fw_67 fw_44 rfl fw_68 (by decide +kernel : fb_hd yX11_init 0) ⟨Nat.le_of_ble_eq_true rfl, Nat.le_of_ble_eq_true rfl⟩ rfl rfl (Nat.le_of_ble_eq_true rfl) ⟨Nat.le_of_ble_eq_true rfl, Nat.le_of_ble_eq_true rfl⟩ dL_law_4) ?_
  intro u1 H locs _ I
  refine lv_astore_n (lv' := [(1, .ref zm), (0, .ref b)]) hx hb dL_law_7 rfl hl (by decide) rfl (fun ls hl => ?_)
  refine fb_newO X I (ci := 11) (fs := [.null, .null, .null, .null, .null, .null, .null, .null, .null, .null]) fu_X11 tyX11 tyX11_ok fw_65 fw_66 fw_44 rfl (by decide +kernel) (Nat.le_of_ble_eq_true rfl) (Nat.le_of_ble_eq_true rfl) dL_law_8 (fun zo H I => ?_)
  have I := fb_permW List.perm_append_comm I
  refine lv_dup hx hb dL_law_11 rfl ?_
  refine fb_goNF X I (fb_runIF (As := []) (rest := [.ref zo]) X I hl (c_X11_init l D cI cJ zo _) fw_69 rfl rfl fw_67 fw_44 rfl fw_68 (by decide +kernel : fb_hd yX11_init 0) ⟨Nat.le_of_ble_eq_true rfl, Nat.le_of_ble_eq_true rfl⟩ rfl rfl (Nat.le_of_ble_eq_true rfl) ⟨Nat.le_of_ble_eq_true rfl, Nat.le_of_ble_eq_true rfl⟩ dL_law_12) ?_
  intro u2 H locs _ I
  have I := fb_permW List.perm_append_comm I
  rw [List.append_nil, fb_bw_bx, fb_bw_bx, ← List.flatten_append] at I
  refine W.widen (k := 366) (n := 235966) (Nat.le_of_ble_eq_true rfl) (Nat.le_of_ble_eq_true rfl) ?_
  refine lv_astore_n (lv' := [(2, .ref zo), (1, .ref zm), (0, .ref b)]) hx hb dL_law_15 rfl hl (by decide) rfl (fun ls hl => ?_)
  have I : fb_LW D (fun q : Nat => s.heap.size ≤ q) s.heap cI zm u1.1 zo u2.1 (f_X2_restart fb_m0) (fb_h0, (fun k => u1.1 (30 + k)), fb_m0, (fun k => u1.1 (40 + k)), fb_m0) (fun _ => 0) (f_X2_restart fb_m0) H locs := ⟨_, _, _, _, I⟩
  have C : fb_CX p s m #[Value.ref b] meth c D cI cJ (fun q : Nat => s.heap.size ≤ q) b L xs := ⟨X, htb, hX, hbl, hbA, by omega⟩
  have hL : L < 2 ^ 31 := by omega
  have hcl : 366 ≤ room_1.cells ∧ 235966 ≤ room_1.slots := ⟨Nat.le_of_ble_eq_true rfl, Nat.le_of_ble_eq_true rfl⟩
  obtain ⟨_, _, _, _, I0⟩ := id I
  refine lv_sipush (v := (512 : Int32)) hx hb dL_law_16 (by decide) ?_
  refine lv_aload_n hx hb dL_law_19 rfl (lv_at hl 2 rfl) ?_
  refine lv_iconst (v := (0 : Int32)) hx hb dL_law_20 (by decide) ?_
  refine lr_cell X I0 hX hbl hbA hL hl (Nat.le_of_ble_eq_true rfl) hcl (by decide) dL_law_21 (fun r21 => ?_)
  refine lv_sipush (v := (900 : Int32)) hx hb dL_law_24 (by decide) ?_
  refine lr_below X I0 hl (Nat.le_of_ble_eq_true rfl) hcl (by decide) dL_law_27 ?_
  refine lv_iadd hx hb dL_law_30 ?_
  obtain ⟨B, hB, eB⟩ := lw_belE r21 (d := 900) 900 (by decide) (by decide) rfl
  rw [eB, show (512 : Int32) = nI 512 from rfl, nI_add]
  refine lv_istore_n (lv' := [(3, .int (nI (512 + B))), (2, .ref zo), (1, .ref zm), (0, .ref b)]) hx hb dL_law_31 rfl hl (by decide) rfl (fun ls hl => ?_)
  refine lv_iconst (v := (0 : Int32)) hx hb dL_law_32 (by decide) ?_
  refine lv_istore (lv' := [(4, .int (0 : Int32)), (3, .int (nI (512 + B))), (2, .ref zo), (1, .ref zm), (0, .ref b)]) hx hb dL_law_33 hl (by decide) rfl (fun ls hl => ?_)
  refine lw_A C hB ?_ 90 0 rfl _ _ _ _ H locs _ (li_start _ _ _ _) I hl
  intro s1 h e7 t H locs ls L1 I hl
  refine lv_iconst (v := (0 : Int32)) hx hb dL_law_165 (by decide) ?_
  refine lv_istore (lv' := [(4, .int (0 : Int32)), (3, .int (nI (512 + B))), (2, .ref zo), (1, .ref zm), (0, .ref b)]) hx hb dL_law_166 hl (by decide) rfl (fun ls hl => ?_)
  refine lw_B C hB ?_ 5 0 rfl _ _ _ _ H locs _ L1 I hl
  intro s1 h e7 t H locs ls L1 I hl
  refine lv_iconst (v := (0 : Int32)) hx hb dL_law_250 (by decide) ?_
  refine lv_istore (lv' := [(4, .int (0 : Int32)), (2, .ref zo), (1, .ref zm), (0, .ref b)]) hx hb dL_law_251 hl (by decide) rfl (fun ls hl => ?_)
  refine lw_C C ?_ 12 0 rfl _ _ _ _ H locs _ L1 I hl
  intro s1 h e7 t H locs ls I
  obtain ⟨_, _, _, _, I0⟩ := id I
  refine lv_iconst (v := (1 : Int32)) hx hb dL_law_643 (by decide) ?_
  refine va_forget (fun q hq => I0.2.2.2.2 q hq) ?_
  refine W.widen (k := 600086) (n := 7301442) (Nat.le_of_ble_eq_true rfl) (Nat.le_of_ble_eq_true rfl) ?_
  exact lw_ret hx hb hr hlocks dL_law_644
set_option maxHeartbeats 4000000 in
theorem lw_walk (l : Launch) (hflags : l.flags = flags0) (b : Addr) (xs : List Int32) : MetFree l x (headSpec (Jvm.Cond.code x code maxLocals ret :: tables_1) room_1) (lw_P b xs) (fun _ _ _ _ _ => True) lw_Q := by
  refine MetFree.of_bodyS (code := code) (maxLocals := maxLocals) (ret := ret) (by decide) ?_ ?_
  · intro args s m h hn
    obtain ⟨meth, c, h1, h2, h3, h4, h5, h6, -, -⟩ := Cond.code_spec hn (atoms_spec (ws := Jvm.Cond.code x code maxLocals ret :: tables_1) h _ List.mem_cons_self)
    exact ⟨meth, c, h1, h2, h3, h4, h5, h6⟩
  · intro p e s m args below meth c s₁ B hml0 hP _
    obtain ⟨rfl, hx, hbd, hgv⟩ := hP
    obtain ⟨scr, harrAt, hlist, hof, hsmall⟩ := hx
    obtain ⟨hcb, hkn, -, -⟩ := State.arrayAt?_spec harrAt
    have hown : s.vm.findClass R_law = some m.cls := findClass_of_methodNamed B.named
    have hts0 : ∀ c ∈ (Jvm.Cond.code x code maxLocals ret :: tables_1), c.before #[Value.ref b] s = true := atoms_spec (ws := Jvm.Cond.code x code maxLocals ret :: tables_1) B.pre
    have hts : ∀ w ∈ lw_tbl, w.before #[Value.ref b] s = true := k2_hts_sels lw_privs (fun w hw => hts0 w (List.mem_cons_of_mem _ hw)) lw_privs_ok
    have hml : c.maxLocals = 18 := B.maxLocals_eq (hts0 _ List.mem_cons_self)
    have X₀ : Stand p l e room_1 s m #[Value.ref b] below meth c s₁ [] 0 0 := Stand.of_body B
    have hh0 : s₁.heap = s.heap := by rw [B.state]; rfl
    have hsz : scr.slots.size = xs.length := by rw [← Array.length_toList, hlist, List.length_map]
    have hval : ∀ j : Nat, j < xs.length → scr.slots[j]? = some (.int (xs.getD j 0)) := fun j hj => by
      rw [← Array.getElem?_toList, hlist]
      simp [hj]
    have hbl : b < s.heap.size := (Array.getElem?_eq_some_iff.mp hcb).1
    have hX : va_X b xs.length (fun j => xs.getD j 0) s s.heap := ⟨scr, hcb, hof, hkn, hsz, hval⟩
    have K : W p l e room_1 s m #[Value.ref b] below meth c s₁.heap [] 0 0 (lw_Z below #[Value.ref b] s) (entryFrame m ([Value.ref b] : List Value).toArray 18) := by
      rw [hh0]
      exact whole_start l hflags hbd ⟨B.exec, B.bytes, B.returns, hml, hown, hts, hX, hbl, B.notSynchronized, hgv⟩
    obtain ⟨t, a1, o, b1, b2, b3⟩ := K s₁ rfl X₀
    exact ⟨t, o, a1, b1, b2, b3⟩
theorem lw_pre_spec {args : Array Value} {s : State} (h : (Jvm.Cond.and given_1 narrow_1).before args s = true) (hr : rest_1_c.before args s = true) : ∃ (b : Addr) (xs : List Int32), lw_P b xs args s := by
  have hs := flat_of_before _ h
  have hq := flat_of_before _ hr
  have hc : (Cond.count 1).before args s = true := hs _ (by decide +kernel)
  have harr : (Cond.arrayOf (.arg 0) .int).before args s = true := hs _ (by decide +kernel)
  have hle : (Cond.le (.length (.arg 0)) (.int 260)).before args s = true := hs _ (by decide +kernel)
  have hlen : (Cond.isInt (.length (.arg 0))).before args s = true := hq _ (by decide +kernel)
  have hall : (Cond.all (.arg 0) (.isInt (.elem (.arg 0) (.index 0)))).before args s = true := hq _ (by decide +kernel)
  obtain ⟨b, xs, hb, hx⟩ := State.ints_of_pre rfl harr hlen hall
  have hsm : xs.length < 2 ^ 31 := hx.choose_spec.2.2.2
  have hev : (Term.length (.arg 0)).eval args s none [] s = some (.int xs.length.toInt32) := hx.length_eval hb
  have hv := Cond.le_ints hev (show (Term.int 260).eval args s none [] s = some (.int 260) from rfl)
  have hd : xs.length.toInt32 ≤ 260 := by
    simpa [Cond.before, Cond.holds, hv] using hle
  have hN : xs.length ≤ 260 := (Int32.ofNat_le_ofNat hsm (by decide)).mp (show Int32.ofNat xs.length ≤ Int32.ofNat 260 from hd)
  exact ⟨b, xs, Cond.one_arg hc (show args[0]? = some (.ref b) from hb), hx, hN, h⟩
theorem lw_comes (l : Launch) (hflags : l.flags = flags0) : Comes l x (Jvm.Cond.code x code maxLocals ret :: tables_1) room_1 (fun tb e args s => Calls_1 tb e args s ∧ rest_1 tb e args s ∧ Pre_1 tb e args s)
    (fun _ _ args s o t => lw_Q args s o t) := by
  intro p e ha hc hk s m args below hf hfit hheap happ hpre
  obtain ⟨b, xs, hP⟩ := lw_pre_spec hpre.2.2 hpre.2.1
  obtain ⟨k, o, h1, h2, h3, hQ⟩ := lw_walk l hflags b xs p e ha hc hk s m args below hf ((Spec.applies_iff_loose hf).mp happ).1 hP trivial
  exact ⟨k, o, h1, h2, h3, hQ⟩
theorem lw_frame {s t : State} {o : Outcome} {args : Array Value} (h : Framed s o t [] 600086 7301442) :
    Framed s o t (fieldLocs frame_1_writes args s ++ arrayLocs frame_1_arrays args s ++ staticLocs frame_1_statics s) 600086 7301442 := h
theorem lw_limb (L : Cond) (hL : ∀ (args : Array Value) (s t : State), L.after args s (.returned (some (.int 1))) t = true) :
    ArmFor flags0 classFile x code maxLocals ret World_1 tables_1 room_1 Calls_1 rest_1 Pre_1
      (fun tb e a s o t => postC L tb e a s o t ∧ Framed s o t (fieldLocs frame_1_writes a s ++ arrayLocs frame_1_arrays a s ++ staticLocs frame_1_statics s) 600086 7301442) := by
  intro l hflags _ _ p e ha hc hk s m args below hf hfit hheap happ hpre
  obtain ⟨k, o, h1, h2, h3, rfl, hF⟩ := lw_comes l hflags p e ha hc hk s m args below hf hfit hheap happ hpre
  exact ⟨k, _, h1, h2, h3, hL args s _, lw_frame hF⟩
theorem i_vc : Claimed_1_1 ∧ Claimed_1_2 := ⟨lw_limb limb_1_1 (fun args s t => by simp [limb_1_1, Cond.after, Cond.holds, Cond.value]), lw_limb limb_1_2 (fun args s t => Cond.after_iff.mpr (by
  first | (rw [show limb_1_2 = Cond.eq .result (.int 1) from rfl, Cond.eq_ints (x := 1) (y := 1) rfl rfl]; simp; done) | (simp [limb_1_2, Cond.value, Term.eval]; done)))⟩

