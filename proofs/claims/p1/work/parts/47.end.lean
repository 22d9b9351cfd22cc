/-! whole_start, and the claim -/
section NFR
variable {p : Program} {l : Launch} {e : Env} {R0 : Room} {s : State} {m : MethodId} {args : Array Value} {below : List Frame} {meth : Method} {c : Code} {H : Heap} {locs : List Loc} {cells slots mc ms : Nat} {Q : State → Prop}
  {cc : ByteArray} {own : String} {nL : Nat} {ret' : Option FieldType} {D : va_G} {tys : List (ClassId × FieldType)} {A : Nat → Prop} {wc R : va_W} {pc : Nat} {ls : Array Slot} {lv : List (Nat × Value)} {rest : List Value}
theorem fb_goNF {S : Type} {post : S → Prop} {wf : S → va_W} {a : Array Value} {st0 : List Value} (X : fb_Bx p s m args meth c cc own nL ret' D tys A) (I : fb_In D A s.heap (wc ++ R) H locs)
    (hr : va_Run p l e R0 s m args below meth c H locs cells slots mc ms (F0 m pc ls st0) rest (fb_QV D (va_A wc H.size) post wf a) (va_A wc H.size))
    (kk : ∀ (u : S) (H1 : Heap) (locs1 : List Loc), post u → fb_In D A s.heap (wf u ++ R) H1 locs1 → W p l e R0 s m args below meth c H1 locs1 (cells + mc) (slots + ms) Q (F0 m (pc + 3) ls rest)) : W p l e R0 s m args below meth c H locs cells slots Q (F0 m pc ls st0) := by
  obtain ⟨hx, hb, hr', hml, hown, hts, hlk, hA, hK, hF⟩ := X
  refine va_callv hr I.2.2 (fun q _ h => fb_freeB I hA q h) (fb_freeB I hA) ?_
  intro u t H1 locs1 ht hvm hp hBt hsz hkk hS1
  subst ht
  exact kk u _ locs1 hp (fb_frame I hA hkk hBt.1 hBt.2 hS1)
variable {y : MethodName} {bytes : ByteArray} {maxL index n : Nat} {rm : Room} {As : List Value} {b : Nat}
theorem fb_runIF {Qc : Array Value → State → Outcome → State → Prop} {free : Addr → Prop} {st0 : List Value} (X : fb_Bx p s m args meth c cc own nL ret' D tys A) (I : fb_In D A s.heap (wc ++ R) H locs) (hl : lv_has ls nL lv)
    (hM : Met l y (Cond.code y bytes maxL none :: fb_all) rm (fb_PP D tys (.ref b :: As) wc H.size) Qc mc ms free) (hcode : Cond.code y bytes maxL none ∈ fb_all) (hrc : rm.cells = mc) (hrs : rm.slots = ms) (hlink : Cond.methodLink own index y ∈ fb_all) (hini : Cond.initialized y.cls ∈ fb_all) (hy : y.name = "<init>") (him : Cond.instanceMethod y ∈ fb_all) (hd : fb_hd y n) (hR : rm.frames + 1 ≤ R0.frames ∧ 8 + (maxL + 11) + rm.locals ≤ R0.locals)
    (hn : As.length = n) (hst : st0 = As.reverse ++ .ref b :: rest) (hrest : (rest.map fun v => v.category).sum ≤ 8) (hcl : cells + mc ≤ R0.cells ∧ slots + ms ≤ R0.slots) (hdg : decode cc pc = .ok (.invokespecial index, 3)) :
    va_Run p l e R0 s m args below meth c H locs cells slots mc ms (F0 m pc ls st0) rest (Qc (Value.ref b :: As).toArray) free := by
  have X0 := X
  obtain ⟨hx, hb, hr, hml, hown, hts, hlk, hA, hK, hF⟩ := X
  subst hst
  exact va_runI (As := As) (rest := rest) ⟨hx, hb, hml, hown, hts⟩ hM (cwI n hts (fb_goodC hcode) rfl hrc hrs (hts _ hini) (hts _ hlink) (hts _ him) hy hd hR) ⟨fb_PP.blind, fb_preB X0 I⟩ rfl hn hl.1 rfl (lv_room hrest) hdg hcl
end NFR
theorem fb_bwB (cI cJ cL : ClassId) (zb : Nat) (t tl : Nat → Nat) (σ : fb_MS) (w : fb_AR) : fb_bw cI cJ cL zb t tl σ w = ([fb_o11 zb (t 0) (t 1) (t 2) (t 3) (t 4) (t 10) (t 20) (t 7) (t 8) (t 9), fb_o3 (t 1) (t 50) (t 51) (t 52) (fun _ => 0), fb_aw cI (t 52) 120 (fun _ => 0), fb_o4 (t 4) (t 0) (t 2) (t 1) (t 3) (t 64) (t 65) (t 66) (t 67) (t 69) fb_p0, fb_aw cI (t 66) 11008 (fun _ => 0), fb_mw cI (fun k => t (10 + k)) σ w, fb_mw cI (fun k => t (20 + k)) fb_m0 (fun _ => 0), fb_o0 (t 7) (t 30) (t 40) fb_h0, fb_mw cI (fun k => t (30 + k)) fb_m0 (fun _ => 0), fb_mw cI (fun k => t (40 + k)) fb_m0 (fun _ => 0), fb_o7 (t 8) (t 70) (t 71) (t 73) (t 74) (t 75) (fun _ => 0), fb_o6 (t 9) (t 80) (t 81) (t 82) (fun _ => 0), fb_aw cI (t 80) 4096 (fun _ => 0), fb_aw cI (t 81) 4096 (fun _ => 0), fb_aw cI (t 82) 4096 (fun _ => 0), fb_o9 (t 0) (t 100) (t 101) (t 102) (t 103) (fun _ => 0), fb_aw cI (t 100) 2000 (fun _ => 0), fb_aw cI (t 101) 2001 (fun _ => 0), fb_aw cI (t 102) 2001 (fun _ => 0), fb_jw cJ (t 103) 2001 (fun _ => 0), fb_jw cJ (t 50) 120 (fun _ => 0), fb_aw cI (t 51) 120 (fun _ => 0), fb_o10 (t 2) (t 0) (t 1) (fun _ => 0), fb_o8 (t 3) (t 0) (t 2) (t 90) (t 91) (fun _ => 0), fb_qw cL (t 90) 120 tl, fb_o1 (tl 0) (fun _ => 0), fb_aw cI (t 64) 11008 (fun _ => 0), fb_aw cI (t 65) 11008 (fun _ => 0), fb_aw cI (t 67) 2048 (fun _ => 0), fb_aw cI (t 69) 4 (fun _ => 0), fb_aw cI (t 70) 6 (fun _ => 0), fb_aw cI (t 71) 6 (fun _ => 0), fb_aw cI (t 73) 4 (fun _ => 0), fb_aw cI (t 74) 4 (fun _ => 0), fb_aw cI (t 75) 4 (fun _ => 0)] : List va_W).flatten := by
  unfold fb_bw
  simp only [List.flatten_cons, List.flatten_nil, List.append_nil]
set_option maxHeartbeats 16000000 in
set_option maxRecDepth 100000 in
/-- from the entry, for every script, the law comes to its end with true -/
theorem whole_start {p : Program} {e : Env} {s : State} {m : MethodId} {below : List Frame} {meth : Method} {c : Code} (l : Launch) (hflags : l.flags = flags0) {b L : Nat} {xs : Nat → Int32} (hL : L ≤ 6) (C0 : lw_At p s m meth c b L xs) : W p l e room_1 s m #[Value.ref b] below meth c s.heap [] 0 0 (lw_Z below #[Value.ref b] s) (entryFrame m ([Value.ref b] : List Value).toArray 9) := by
  obtain ⟨hx, hb, hr, hml, hown, htb, hX, hbl, hlocks, hgv⟩ := id C0
  have hst : l.stackTraces = false := by
    show (!l.flags.contains noTraceFlag) = false
    rw [hflags]; decide
  have hts : ∀ w ∈ fb_all, w.before #[Value.ref b] s = true := fun w h => htb w (fb_allIn w h)
  obtain ⟨D, cI, cJ, hKc⟩ := fb_KOf htb hts
  have X : fb_Bx p s m #[Value.ref b] meth c cL_law RL 9 (some .boolean) D (fb_ty D cI cJ) (fun q : Nat => s.heap.size ≤ q) := ⟨hx, hb, hr, hml, hown, hts, hlocks, fun q h => h, ⟨hKc, fb_NstOf htb hgv⟩, fb_FzOf htb hgv⟩
  have hbA : ¬ (fun q : Nat => s.heap.size ≤ q) b := Nat.not_le.mpr hbl
  have I : fb_In D (fun q : Nat => s.heap.size ≤ q) s.heap ([] : va_W) s.heap [] := ⟨fun k q h => by simp at h, ⟨fun i j p q h => by simp at h, fun k q h => by simp at h⟩, va_S.rf⟩
  have hl := lv_entry ([.ref b]) (n := 9) (Nat.le_of_ble_eq_true rfl)
  rw [lg_entry_eq]
  generalize (lg_sl ([.ref b]) ++ List.replicate (9 - (lg_sl ([.ref b])).length) Slot.unset).toArray = ls at hl ⊢
  have hl : lv_has ls 9 [(0, .ref b)] := hl
  refine fb_newO X I (ci := 11) (fs := [.null, .null, .null, .null, .null, .null, .null, .null, .null, .null]) fu_X11 tyX11 tyX11_ok fw_218 fw_219 fw_191 rfl (by decide +kernel) (Nat.le_of_ble_eq_true rfl) (Nat.le_of_ble_eq_true rfl) dL_law_0 (fun zb H I => ?_)
  have I : fb_In D (fun q : Nat => s.heap.size ≤ q) s.heap (([(zb, .inr (11, [.null, .null, .null, .null, .null, .null, .null, .null, .null, .null]))] : va_W) ++ ([] : va_W)) H _ := I
  refine lv_dup hx hb dL_law_3 rfl ?_
  refine fb_goNF X I (fb_runIF (As := []) (rest := [.ref zb]) X I hl (c_X11_init l D cI cJ zb _) fw_222 rfl rfl fw_220 fw_191 rfl fw_221 (by decide +kernel : fb_hd yX11_init 0) ⟨(Nat.le_of_ble_eq_true rfl), (Nat.le_of_ble_eq_true rfl)⟩ rfl rfl (Nat.le_of_ble_eq_true rfl) ⟨(Nat.le_of_ble_eq_true rfl), (Nat.le_of_ble_eq_true rfl)⟩ dL_law_4) ?_
  intro u1 H locs _ I
  refine lv_astore_n (lv' := [(1, .ref zb), (0, .ref b)]) hx hb dL_law_7 rfl hl (by decide) rfl (fun ls hl => ?_)
  refine fb_newO X I (ci := 12) (fs := [.null, .null, .int 0, .null, .int 0, .int 0, .int 0, .int 0, .int 0, .int 0, .int 0, .null, .null, .int 0, .null, .null, .null, .null, .int 0, .int 0, .null, .int 0, .null, .null, .null, .null, .int 0, .int 0, .int 0, .int 0, .int 0, .int 0, .null, .null, .int 0, .int 0, .int 0, .int 0, .null, .null, .null, .int 0, .int 0, .int 0, .int 0, .null, .null, .null, .null, .int 0, .int 0]) fu_X12 tyX12 tyX12_ok fw_1933 fw_1934 fw_204 rfl (by decide +kernel) (Nat.le_of_ble_eq_true rfl) (Nat.le_of_ble_eq_true rfl) dL_law_8 (fun za H I => ?_)
  have I := fb_permW List.perm_append_comm I
  refine lv_dup hx hb dL_law_11 rfl ?_
  refine fb_goNF X I (fb_runIF (As := []) (rest := [.ref za]) X I hl (c_X12_init l D cI cJ za _) fw_1937 rfl rfl fw_1935 fw_204 rfl fw_1936 (by decide +kernel : fb_hd yX12_init 0) ⟨(Nat.le_of_ble_eq_true rfl), (Nat.le_of_ble_eq_true rfl)⟩ rfl rfl (Nat.le_of_ble_eq_true rfl) ⟨(Nat.le_of_ble_eq_true rfl), (Nat.le_of_ble_eq_true rfl)⟩ dL_law_12) ?_
  intro zr H locs _ I
  refine lv_astore_n (lv' := [(2, .ref za), (1, .ref zb), (0, .ref b)]) hx hb dL_law_15 rfl hl (by decide) rfl (fun ls hl => ?_)
  refine lv_iconst (v := (1 : Int32)) hx hb dL_law_16 (by decide) ?_
  refine fb_newJ (N := 1) X I fw_262 (by decide) (Nat.le_of_ble_eq_true rfl) (Nat.le_of_ble_eq_true rfl) (Nat.le_of_ble_eq_true rfl) dL_law_17 (fun zx H I => ?_)
  refine W.widen (k := 209) (n := 179241) (Nat.le_of_ble_eq_true rfl) (Nat.le_of_ble_eq_true rfl) ?_
  refine lv_astore_n (lv' := [(3, .ref zx), (2, .ref za), (1, .ref zb), (0, .ref b)]) hx hb dL_law_19 rfl hl (by decide) rfl (fun ls hl => ?_)
  refine lv_iconst (v := (0 : Int32)) hx hb dL_law_20 (by decide) ?_
  refine lv_istore (lv' := [(4, .int (0 : Int32)), (3, .ref zx), (2, .ref za), (1, .ref zb), (0, .ref b)]) hx hb dL_law_21 hl (by decide) rfl (fun ls hl => ?_)
  obtain ⟨t, tl, w⟩ := u1
  rw [List.append_nil, fb_bwB, ← List.flatten_append] at I
  have I : fb_In D (fun q : Nat => s.heap.size ≤ q) s.heap ([fb_o11 zb (t 0) (t 1) (t 2) (t 3) (t 4) (t 10) (t 20) (t 7) (t 8) (t 9), fb_o3 (t 1) (t 50) (t 51) (t 52) (fun _ => 0), fb_aw cI (t 52) 120 (fun _ => 0), fb_o4 (t 4) (t 0) (t 2) (t 1) (t 3) (t 64) (t 65) (t 66) (t 67) (t 69) fb_p0, fb_aw cI (t 66) 11008 (fun _ => 0), fb_mw cI (fun k => t (10 + k)) (f_X2_restart fb_m0) w, fb_mw cI (fun k => t (20 + k)) fb_m0 (fun _ => 0), fb_o0 (t 7) (t 30) (t 40) fb_h0, fb_mw cI (fun k => t (30 + k)) fb_m0 (fun _ => 0), fb_mw cI (fun k => t (40 + k)) fb_m0 (fun _ => 0), fb_o7 (t 8) (t 70) (t 71) (t 73) (t 74) (t 75) (fun _ => 0), fb_o6 (t 9) (t 80) (t 81) (t 82) (fun _ => 0), fb_aw cI (t 80) 4096 (fun _ => 0), fb_aw cI (t 81) 4096 (fun _ => 0), fb_aw cI (t 82) 4096 (fun _ => 0), fb_o9 (t 0) (t 100) (t 101) (t 102) (t 103) (fun _ => 0), fb_aw cI (t 100) 2000 (fun _ => 0), fb_aw cI (t 101) 2001 (fun _ => 0), fb_aw cI (t 102) 2001 (fun _ => 0), fb_jw cJ (t 103) 2001 (fun _ => 0), fb_jw cJ (t 50) 120 (fun _ => 0), fb_aw cI (t 51) 120 (fun _ => 0), fb_o10 (t 2) (t 0) (t 1) (fun _ => 0), fb_o8 (t 3) (t 0) (t 2) (t 90) (t 91) (fun _ => 0), fb_qw (D.1 23) (t 90) 120 tl, fb_o1 (tl 0) (fun _ => 0), fb_aw cI (t 64) 11008 (fun _ => 0), fb_aw cI (t 65) 11008 (fun _ => 0), fb_aw cI (t 67) 2048 (fun _ => 0), fb_aw cI (t 69) 4 (fun _ => 0), fb_aw cI (t 70) 6 (fun _ => 0), fb_aw cI (t 71) 6 (fun _ => 0), fb_aw cI (t 73) 4 (fun _ => 0), fb_aw cI (t 74) 4 (fun _ => 0), fb_aw cI (t 75) 4 (fun _ => 0), fb_o12 za zr fr_e0, fb_aw cI (zr 0) 16205 (fr_m (fun _ => 0) 0), fb_qh D (zr 1) 200 (fun _ => none), fb_aw cI (zr 3) 64 (fun _ => 0), fb_aw cI (zr 11) 6 (fun _ => 0), fb_aw cI (zr 12) 6 (fun _ => 0), fb_aw cI (zr 14) 4 (fun _ => 0), fb_aw cI (zr 15) 4 (fun _ => 0), fb_aw (D.1 20) (zr 16) 4 (fun _ => 0), fb_aw (D.1 20) (zr 17) 4 (fun _ => 0), fb_aw (D.1 21) (zr 20) 2000 (fun _ => 0), fb_aw cI (zr 22) 2200 (fun _ => 0), fb_aw cI (zr 23) 2200 (fun _ => 0), fb_aw cI (zr 24) 2200 (fun _ => 0), fb_aw cI (zr 25) 2200 (fun _ => 0), fb_aw cI (zr 32) 200 (fun _ => 0), fb_aw cI (zr 33) 200 (fun _ => 0), fb_aw cI (zr 38) 130 (fun _ => 0), fb_aw (D.1 20) (zr 39) 130 (fun _ => 0), fb_aw cI (zr 40) 8 (fun _ => 0), fb_aw cI (zr 45) 11008 (fun _ => 0), fb_aw cI (zr 46) 11008 (fun _ => 0), fb_aw cI (zr 47) 11008 (fun _ => 0), fb_aw cI (zr 48) 200 (fun _ => 0), fb_jw cJ zx 1 (fun _ => 0)] : List va_W).flatten H locs := by
    have e9 : ∀ (L1 : List va_W) (w1 : va_W), L1.flatten ++ w1 = (L1 ++ [w1]).flatten := fun L1 w1 => by rw [List.flatten_append]; simp
    rw [e9] at I
    exact fb_dropB (gs := []) I 60 rfl [24, 25, 26, 27, 28, 29, 30, 31, 32, 33, 34, 35, 36, 37, 38, 39, 40, 41, 42, 43, 44, 45, 46, 47, 48, 49, 50, 51, 52, 53, 54, 55, 56, 57, 58, 0, 1, 2, 3, 4, 5, 6, 7, 8, 9, 10, 11, 12, 13, 14, 15, 16, 17, 18, 19, 20, 21, 22, 23, 59] (by decide +kernel) rfl
  have I : fb_In D (fun q : Nat => s.heap.size ≤ q) s.heap (fb_ALL D cI cJ zb za zx t tl zr w).flatten H locs := fb_dropB (bs := [fb_o11 zb (t 0) (t 1) (t 2) (t 3) (t 4) (t 10) (t 20) (t 7) (t 8) (t 9), fb_o3 (t 1) (t 50) (t 51) (t 52) (fun _ => 0), fb_aw cI (t 52) 120 (fun _ => 0), fb_o4 (t 4) (t 0) (t 2) (t 1) (t 3) (t 64) (t 65) (t 66) (t 67) (t 69) fb_p0, fb_aw cI (t 66) 11008 (fun _ => 0), fb_mw cI (fun k => t (10 + k)) (f_X2_restart fb_m0) w, fb_mw cI (fun k => t (20 + k)) fb_m0 (fun _ => 0), fb_o0 (t 7) (t 30) (t 40) fb_h0, fb_mw cI (fun k => t (30 + k)) fb_m0 (fun _ => 0), fb_mw cI (fun k => t (40 + k)) fb_m0 (fun _ => 0), fb_o7 (t 8) (t 70) (t 71) (t 73) (t 74) (t 75) (fun _ => 0), fb_o6 (t 9) (t 80) (t 81) (t 82) (fun _ => 0), fb_aw cI (t 80) 4096 (fun _ => 0), fb_aw cI (t 81) 4096 (fun _ => 0), fb_aw cI (t 82) 4096 (fun _ => 0), fb_o9 (t 0) (t 100) (t 101) (t 102) (t 103) (fun _ => 0), fb_aw cI (t 100) 2000 (fun _ => 0), fb_aw cI (t 101) 2001 (fun _ => 0), fb_aw cI (t 102) 2001 (fun _ => 0), fb_jw cJ (t 103) 2001 (fun _ => 0), fb_jw cJ (t 50) 120 (fun _ => 0), fb_aw cI (t 51) 120 (fun _ => 0), fb_o10 (t 2) (t 0) (t 1) (fun _ => 0), fb_o8 (t 3) (t 0) (t 2) (t 90) (t 91) (fun _ => 0), fb_qw (D.1 23) (t 90) 120 tl, fb_o1 (tl 0) (fun _ => 0), fb_aw cI (t 64) 11008 (fun _ => 0), fb_aw cI (t 65) 11008 (fun _ => 0), fb_aw cI (t 67) 2048 (fun _ => 0), fb_aw cI (t 69) 4 (fun _ => 0), fb_aw cI (t 70) 6 (fun _ => 0), fb_aw cI (t 71) 6 (fun _ => 0), fb_aw cI (t 73) 4 (fun _ => 0), fb_aw cI (t 74) 4 (fun _ => 0), fb_aw cI (t 75) 4 (fun _ => 0), fb_o12 za zr fr_e0, fb_aw cI (zr 0) 16205 (fr_m (fun _ => 0) 0), fb_qh D (zr 1) 200 (fun _ => none), fb_aw cI (zr 3) 64 (fun _ => 0), fb_aw cI (zr 11) 6 (fun _ => 0), fb_aw cI (zr 12) 6 (fun _ => 0), fb_aw cI (zr 14) 4 (fun _ => 0), fb_aw cI (zr 15) 4 (fun _ => 0), fb_aw (D.1 20) (zr 16) 4 (fun _ => 0), fb_aw (D.1 20) (zr 17) 4 (fun _ => 0), fb_aw (D.1 21) (zr 20) 2000 (fun _ => 0), fb_aw cI (zr 22) 2200 (fun _ => 0), fb_aw cI (zr 23) 2200 (fun _ => 0), fb_aw cI (zr 24) 2200 (fun _ => 0), fb_aw cI (zr 25) 2200 (fun _ => 0), fb_aw cI (zr 32) 200 (fun _ => 0), fb_aw cI (zr 33) 200 (fun _ => 0), fb_aw cI (zr 38) 130 (fun _ => 0), fb_aw (D.1 20) (zr 39) 130 (fun _ => 0), fb_aw cI (zr 40) 8 (fun _ => 0), fb_aw cI (zr 45) 11008 (fun _ => 0), fb_aw cI (zr 46) 11008 (fun _ => 0), fb_aw cI (zr 47) 11008 (fun _ => 0), fb_aw cI (zr 48) 200 (fun _ => 0), fb_jw cJ zx 1 (fun _ => 0)]) (bs' := fb_ALL D cI cJ zb za zx t tl zr w) (gs := [fb_jw cJ (t 50) 120 (fun _ => 0), fb_aw cI (t 67) 2048 (fun _ => 0), fb_aw cI (t 69) 4 (fun _ => 0)]) I 60 rfl [0, 15, 16, 17, 18, 19, 1, 21, 2, 3, 26, 27, 4, 22, 23, 24, 25, 5, 6, 7, 8, 9, 10, 30, 31, 32, 33, 34, 11, 12, 13, 14, 35, 36, 37, 38, 39, 40, 41, 42, 43, 44, 45, 46, 47, 48, 49, 50, 51, 52, 53, 54, 55, 56, 57, 58, 59, 20, 28, 29] (by decide +kernel) rfl
  refine lv_iload hx hb dL_law_23 (lv_at hl 0 rfl) ?_
  refine lv_aload_n hx hb dL_law_25 rfl (lv_at hl 4 rfl) ?_
  refine va_slen hx hb hX hbl hbA I.2.2 dL_law_26 ?_
  refine lv_bipush (v := (6 : Int32)) hx hb dL_law_27 (by decide) ?_
  refine lv_isub hx hb dL_law_29 ?_
  refine lv_icmp_gt (tgt := 2342) hx hb dL_law_30 (by decide) (fun _ => ?_) (fun c1 => ?_)
  · refine lv_iconst (v := (1 : Int32)) hx hb dL_law_2342 (by decide) ?_
    refine va_forget (fun q hq => I.2.2.2.2 q hq) ?_
    refine W.widen (k := 600002) (n := 7302232) (Nat.le_of_ble_eq_true rfl) (Nat.le_of_ble_eq_true rfl) ?_
    exact lw_ret (s := s) (d0 := s.drawn) (Drawn.sameBut.refl s.drawn lw_cs) hx hb hr hlocks dL_law_2343
  have hL6 : L = 6 := by
    have : L = 0 ∨ L = 1 ∨ L = 2 ∨ L = 3 ∨ L = 4 ∨ L = 5 ∨ L = 6 := by omega
    rcases this with h | h | h | h | h | h | h
    all_goals first | exact h | (subst h; exact absurd (by decide) c1)
  refine lv_aload_n hx hb dL_law_33 rfl (lv_at hl 4 rfl) ?_
  refine lv_iload hx hb dL_law_34 (lv_at hl 0 rfl) ?_
  refine va_sld (i := (0 : Int32)) hx hb hX hbl hbA I.2.2 (fb_inC (n := 0) (by decide) (by decide) (by omega)) dL_law_36 ?_
  refine fb_tI (v := xs 0) rfl ?_
  refine lv_bipush (v := (63 : Int32)) hx hb dL_law_37 (by decide) ?_
  refine lv_iand hx hb dL_law_39 ?_
  obtain ⟨z, hz, ez⟩ := pk_andE (xs 0) (m := 63) 6 (by decide)
  refine fb_tI (v := nI z) ez ?_
  match z, hz with
  | 0, _ => exact lv_tableIn (tgt := 284) hx hb dL_law_40 (by decide) (by decide) (by rfl) (by decide) (lz_0 hst X hX hbl hbA hL6 I hl)
  | 1, _ => exact lv_tableIn (tgt := 388) hx hb dL_law_40 (by decide) (by decide) (by rfl) (by decide) (lz_1 hst X hX hbl hbA hL6 I hl)
  | 2, _ => exact lv_tableIn (tgt := 444) hx hb dL_law_40 (by decide) (by decide) (by rfl) (by decide) (lz_2 hst X hX hbl hbA hL6 I hl)
  | 3, _ => exact lv_tableIn (tgt := 457) hx hb dL_law_40 (by decide) (by decide) (by rfl) (by decide) (lz_3 hst X hX hbl hbA hL6 I hl)
  | 4, _ => exact lv_tableIn (tgt := 470) hx hb dL_law_40 (by decide) (by decide) (by rfl) (by decide) (lz_4 hst X hX hbl hbA hL6 I hl)
  | 5, _ => exact lv_tableIn (tgt := 483) hx hb dL_law_40 (by decide) (by decide) (by rfl) (by decide) (lz_5 hst X hX hbl hbA hL6 I hl)
  | 6, _ => exact lv_tableIn (tgt := 539) hx hb dL_law_40 (by decide) (by decide) (by rfl) (by decide) (lz_6 hst X hX hbl hbA hL6 I hl)
  | 7, _ => exact lv_tableIn (tgt := 595) hx hb dL_law_40 (by decide) (by decide) (by rfl) (by decide) (lz_7 hst X hX hbl hbA hL6 I hl)
  | 8, _ => exact lv_tableIn (tgt := 651) hx hb dL_law_40 (by decide) (by decide) (by rfl) (by decide) (lz_8 hst X hX hbl hbA hL6 I hl)
  | 9, _ => exact lv_tableIn (tgt := 664) hx hb dL_law_40 (by decide) (by decide) (by rfl) (by decide) (lz_9 hst X hX hbl hbA hL6 I hl)
  | 10, _ => exact lv_tableIn (tgt := 720) hx hb dL_law_40 (by decide) (by decide) (by rfl) (by decide) (lz_10 hst X hX hbl hbA hL6 I hl)
  | 11, _ => exact lv_tableIn (tgt := 733) hx hb dL_law_40 (by decide) (by decide) (by rfl) (by decide) (lz_11 hst X hX hbl hbA hL6 I hl)
  | 12, _ => exact lv_tableIn (tgt := 746) hx hb dL_law_40 (by decide) (by decide) (by rfl) (by decide) (lz_12 hst X hX hbl hbA hL6 I hl)
  | 13, _ => exact lv_tableIn (tgt := 814) hx hb dL_law_40 (by decide) (by decide) (by rfl) (by decide) (lz_13 hst X hX hbl hbA hL6 I hl)
  | 14, _ => exact lv_tableIn (tgt := 882) hx hb dL_law_40 (by decide) (by decide) (by rfl) (by decide) (lz_14 hst X hX hbl hbA hL6 I hl)
  | 15, _ => exact lv_tableIn (tgt := 895) hx hb dL_law_40 (by decide) (by decide) (by rfl) (by decide) (lz_15 hst X hX hbl hbA hL6 I hl)
  | 16, _ => exact lv_tableIn (tgt := 951) hx hb dL_law_40 (by decide) (by decide) (by rfl) (by decide) (lz_16 hst X hX hbl hbA hL6 I hl)
  | 17, _ => exact lv_tableIn (tgt := 964) hx hb dL_law_40 (by decide) (by decide) (by rfl) (by decide) (lz_17 hst X hX hbl hbA hL6 I hl)
  | 18, _ => exact lv_tableIn (tgt := 977) hx hb dL_law_40 (by decide) (by decide) (by rfl) (by decide) (lz_18 hst X hX hbl hbA hL6 I hl)
  | 19, _ => exact lv_tableIn (tgt := 1033) hx hb dL_law_40 (by decide) (by decide) (by rfl) (by decide) (lz_19 hst X hX hbl hbA hL6 I hl)
  | 20, _ => exact lv_tableIn (tgt := 1046) hx hb dL_law_40 (by decide) (by decide) (by rfl) (by decide) (lz_20 hst X hX hbl hbA hL6 I hl)
  | 21, _ => exact lv_tableIn (tgt := 1059) hx hb dL_law_40 (by decide) (by decide) (by rfl) (by decide) (lz_21 hst X hX hbl hbA hL6 I hl)
  | 22, _ => exact lv_tableIn (tgt := 1127) hx hb dL_law_40 (by decide) (by decide) (by rfl) (by decide) (lz_22 hst X hX hbl hbA hL6 I hl)
  | 23, _ => exact lv_tableIn (tgt := 1152) hx hb dL_law_40 (by decide) (by decide) (by rfl) (by decide) (lz_23 hst X hX hbl hbA hL6 I hl)
  | 24, _ => exact lv_tableIn (tgt := 1276) hx hb dL_law_40 (by decide) (by decide) (by rfl) (by decide) (lz_24 hst X hX hbl hbA hL6 I hl)
  | 25, _ => exact lv_tableIn (tgt := 1289) hx hb dL_law_40 (by decide) (by decide) (by rfl) (by decide) (lz_25 hst X hX hbl hbA hL6 I hl)
  | 26, _ => exact lv_tableIn (tgt := 1302) hx hb dL_law_40 (by decide) (by decide) (by rfl) (by decide) (lz_26 hst X hX hbl hbA hL6 I hl)
  | 27, _ => exact lv_tableIn (tgt := 1315) hx hb dL_law_40 (by decide) (by decide) (by rfl) (by decide) (lz_27 hst X hX hbl hbA hL6 I hl)
  | 28, _ => exact lv_tableIn (tgt := 1328) hx hb dL_law_40 (by decide) (by decide) (by rfl) (by decide) (lz_28 hst X hX hbl hbA hL6 I hl)
  | 29, _ => exact lv_tableIn (tgt := 1341) hx hb dL_law_40 (by decide) (by decide) (by rfl) (by decide) (lz_29 hst X hX hbl hbA hL6 I hl)
  | 30, _ => exact lv_tableIn (tgt := 1354) hx hb dL_law_40 (by decide) (by decide) (by rfl) (by decide) (lz_30 hst X hX hbl hbA hL6 I hl)
  | 31, _ => exact lv_tableIn (tgt := 1367) hx hb dL_law_40 (by decide) (by decide) (by rfl) (by decide) (lz_31 hst X hX hbl hbA hL6 I hl)
  | 32, _ => exact lv_tableIn (tgt := 1380) hx hb dL_law_40 (by decide) (by decide) (by rfl) (by decide) (lz_32 hst X hX hbl hbA hL6 I hl)
  | 33, _ => exact lv_tableIn (tgt := 1393) hx hb dL_law_40 (by decide) (by decide) (by rfl) (by decide) (lz_33 hst X hX hbl hbA hL6 I hl)
  | 34, _ => exact lv_tableIn (tgt := 1449) hx hb dL_law_40 (by decide) (by decide) (by rfl) (by decide) (lz_34 hst X hX hbl hbA hL6 I hl)
  | 35, _ => exact lv_tableIn (tgt := 1517) hx hb dL_law_40 (by decide) (by decide) (by rfl) (by decide) (lz_35 hst X hX hbl hbA hL6 I hl)
  | 36, _ => exact lv_tableIn (tgt := 1530) hx hb dL_law_40 (by decide) (by decide) (by rfl) (by decide) (lz_36 hst X hX hbl hbA hL6 I hl)
  | 37, _ => exact lv_tableIn (tgt := 1543) hx hb dL_law_40 (by decide) (by decide) (by rfl) (by decide) (lz_37 hst X hX hbl hbA hL6 I hl)
  | 38, _ => exact lv_tableIn (tgt := 1556) hx hb dL_law_40 (by decide) (by decide) (by rfl) (by decide) (lz_38 hst X hX hbl hbA hL6 I hl)
  | 39, _ => exact lv_tableIn (tgt := 1569) hx hb dL_law_40 (by decide) (by decide) (by rfl) (by decide) (lz_39 hst X hX hbl hbA hL6 I hl)
  | 40, _ => exact lv_tableIn (tgt := 1582) hx hb dL_law_40 (by decide) (by decide) (by rfl) (by decide) (lz_40 hst X hX hbl hbA hL6 I hl)
  | 41, _ => exact lv_tableIn (tgt := 1595) hx hb dL_law_40 (by decide) (by decide) (by rfl) (by decide) (lz_41 hst X hX hbl hbA hL6 I hl)
  | 42, _ => exact lv_tableIn (tgt := 1651) hx hb dL_law_40 (by decide) (by decide) (by rfl) (by decide) (lz_42 hst X hX hbl hbA hL6 I hl)
  | 43, _ => exact lv_tableIn (tgt := 1664) hx hb dL_law_40 (by decide) (by decide) (by rfl) (by decide) (lz_43 hst X hX hbl hbA hL6 I hl)
  | 44, _ => exact lv_tableIn (tgt := 1720) hx hb dL_law_40 (by decide) (by decide) (by rfl) (by decide) (lz_44 hst X hX hbl hbA hL6 I hl)
  | 45, _ => exact lv_tableIn (tgt := 1776) hx hb dL_law_40 (by decide) (by decide) (by rfl) (by decide) (lz_45 hst X hX hbl hbA hL6 I hl)
  | 46, _ => exact lv_tableIn (tgt := 1789) hx hb dL_law_40 (by decide) (by decide) (by rfl) (by decide) (lz_46 hst X hX hbl hbA hL6 I hl)
  | 47, _ => exact lv_tableIn (tgt := 1845) hx hb dL_law_40 (by decide) (by decide) (by rfl) (by decide) (lz_47 hst X hX hbl hbA hL6 I hl)
  | 48, _ => exact lv_tableIn (tgt := 1901) hx hb dL_law_40 (by decide) (by decide) (by rfl) (by decide) (lz_48 hst X hX hbl hbA hL6 I hl)
  | 49, _ => exact lv_tableIn (tgt := 1957) hx hb dL_law_40 (by decide) (by decide) (by rfl) (by decide) (lz_49 hst X hX hbl hbA hL6 I hl)
  | 50, _ => exact lv_tableIn (tgt := 2013) hx hb dL_law_40 (by decide) (by decide) (by rfl) (by decide) (lz_50 hst X hX hbl hbA hL6 I hl)
  | 51, _ => exact lv_tableIn (tgt := 2081) hx hb dL_law_40 (by decide) (by decide) (by rfl) (by decide) (lz_51 hst X hX hbl hbA hL6 I hl)
  | 52, _ => exact lv_tableIn (tgt := 2137) hx hb dL_law_40 (by decide) (by decide) (by rfl) (by decide) (lz_52 hst X hX hbl hbA hL6 I hl)
  | 53, _ => exact lv_tableIn (tgt := 2205) hx hb dL_law_40 (by decide) (by decide) (by rfl) (by decide) (lz_53 hst X hX hbl hbA hL6 I hl)
  | 54, _ => exact lv_tableIn (tgt := 2268) hx hb dL_law_40 (by decide) (by decide) (by rfl) (by decide) (lz_54 hst X hX hbl hbA hL6 I hl)
  | 55, _ => exact lv_tableIn (tgt := 2281) hx hb dL_law_40 (by decide) (by decide) (by rfl) (by decide) (lz_55 hst X hX hbl hbA hL6 I hl)
  | 56, _ => exact lv_tableIn (tgt := 2322) hx hb dL_law_40 (by decide) (by decide) (by rfl) (by decide) (lz_56 hst X hX hbl hbA hL6 I hl)
  | z + 57, hz =>
    refine lv_tableOut (tgt := 2336) hx hb dL_law_40 ?_ (by decide) ?_
    · have h7 : z = 0 ∨ z = 1 ∨ z = 2 ∨ z = 3 ∨ z = 4 ∨ z = 5 ∨ z = 6 := by omega
      rcases h7 with h | h | h | h | h | h | h <;> subst h <;> decide
    · exact lw_end X hX hbl hbA hL I (lv_sub hl [0, 4] rfl) (Nat.le_of_ble_eq_true rfl) (Nat.le_of_ble_eq_true rfl)

set_option maxHeartbeats 4000000 in
theorem lw_walk (l : Launch) (hflags : l.flags = flags0) (b : Addr) (xs : List Int32) : MetFree l x (headSpec (Jvm.Cond.code x code maxLocals ret :: tables_1) room_1) (lw_P b xs) (fun _ _ _ _ _ => True) lw_Q := by
  refine MetFree.of_bodyS (code := code) (maxLocals := maxLocals) (ret := ret) (by decide) ?_ ?_
  · intro args s m h hn
    obtain ⟨meth, c, h1, h2, h3, h4, h5, h6, -, -⟩ := Cond.code_spec hn (atoms_spec (ws := Jvm.Cond.code x code maxLocals ret :: tables_1) h _ List.mem_cons_self)
    exact ⟨meth, c, h1, h2, h3, h4, h5, h6⟩
  · intro p e s m args below meth c s₁ B hml0 hP _
    obtain ⟨rfl, hx, hbd, hgv⟩ := hP
    obtain ⟨scr, harrAt, hlist, hof, hsmall⟩ := hx
    obtain ⟨hcb, hkn, -, -⟩ := State.arrayAt?_spec harrAt
    have hown : s.vm.findClass R_law = some m.cls := findClass_of_methodNamed B.named
    have hts0 : ∀ c ∈ (Jvm.Cond.code x code maxLocals ret :: tables_1), c.before #[Value.ref b] s = true := atoms_spec (ws := Jvm.Cond.code x code maxLocals ret :: tables_1) B.pre
    have hts : ∀ w ∈ lw_tbl, w.before #[Value.ref b] s = true := k2_hts_sels lw_privs (fun w hw => hts0 w (List.mem_cons_of_mem _ hw)) lw_privs_ok
    have hml : c.maxLocals = 9 := B.maxLocals_eq (hts0 _ List.mem_cons_self)
    have X₀ : Stand p l e room_1 s m #[Value.ref b] below meth c s₁ [] 0 0 := Stand.of_body B
    have hh0 : s₁.heap = s.heap := by rw [B.state]; rfl
    have hsz : scr.slots.size = xs.length := by rw [← Array.length_toList, hlist, List.length_map]
    have hval : ∀ j : Nat, j < xs.length → scr.slots[j]? = some (.int (xs.getD j 0)) := fun j hj => by
      rw [← Array.getElem?_toList, hlist]
      simp [hj]
    have hbl : b < s.heap.size := (Array.getElem?_eq_some_iff.mp hcb).1
    have hX : va_X b xs.length (fun j => xs.getD j 0) s s.heap := ⟨scr, hcb, hof, hkn, hsz, hval⟩
    have K : W p l e room_1 s m #[Value.ref b] below meth c s₁.heap [] 0 0 (lw_Z below #[Value.ref b] s) (entryFrame m ([Value.ref b] : List Value).toArray 9) := by
      rw [hh0]
      exact whole_start l hflags hbd ⟨B.exec, B.bytes, B.returns, hml, hown, hts, hX, hbl, B.notSynchronized, hgv⟩
    obtain ⟨t, a1, o, b1, b2, b3⟩ := K s₁ rfl X₀
    exact ⟨t, o, a1, b1, b2, b3⟩
theorem lw_pre_spec {args : Array Value} {s : State} (h : (Jvm.Cond.and given_1 narrow_1).before args s = true) (hr : rest_1_c.before args s = true) : ∃ (b : Addr) (xs : List Int32), lw_P b xs args s := by
  have hs := flat_of_before _ h
  have hq := flat_of_before _ hr
  have hc : (Cond.count 1).before args s = true := hs _ (by decide +kernel)
  have harr : (Cond.arrayOf (.arg 0) .int).before args s = true := hs _ (by decide +kernel)
  have hle : (Cond.le (.length (.arg 0)) (.int 6)).before args s = true := hs _ (by decide +kernel)
  have hlen : (Cond.isInt (.length (.arg 0))).before args s = true := hq _ (by decide +kernel)
  have hall : (Cond.all (.arg 0) (.isInt (.elem (.arg 0) (.index 0)))).before args s = true := hq _ (by decide +kernel)
  obtain ⟨b, xs, hb, hx⟩ := State.ints_of_pre rfl harr hlen hall
  have hsm : xs.length < 2 ^ 31 := hx.choose_spec.2.2.2
  have hev : (Term.length (.arg 0)).eval args s none [] s = some (.int xs.length.toInt32) := hx.length_eval hb
  have hv := Cond.le_ints hev (show (Term.int 6).eval args s none [] s = some (.int 6) from rfl)
  have hd : xs.length.toInt32 ≤ 6 := by
    simpa [Cond.before, Cond.holds, hv] using hle
  have hN : xs.length ≤ 6 := (Int32.ofNat_le_ofNat hsm (by decide)).mp (show Int32.ofNat xs.length ≤ Int32.ofNat 6 from hd)
  exact ⟨b, xs, Cond.one_arg hc (show args[0]? = some (.ref b) from hb), hx, hN, h⟩
theorem lw_comes (l : Launch) (hflags : l.flags = flags0) : Comes l x (Jvm.Cond.code x code maxLocals ret :: tables_1) room_1 (fun tb e args s => Calls_1 tb e args s ∧ rest_1 tb e args s ∧ Pre_1 tb e args s)
    (fun _ _ args s o t => lw_Q args s o t) := by
  intro p e ha hc hk s m args below hf hfit hheap happ hpre
  obtain ⟨b, xs, hP⟩ := lw_pre_spec hpre.2.2 hpre.2.1
  obtain ⟨k, o, h1, h2, h3, hQ⟩ := lw_walk l hflags b xs p e ha hc hk s m args below hf ((Spec.applies_iff_loose hf).mp happ).1 hP trivial
  exact ⟨k, o, h1, h2, h3, hQ⟩
theorem lw_frame {s t : State} {o : Outcome} {args : Array Value} (h : State.butDraws s t lw_cs (fun t1 => Framed s o t1 [] 600002 7302232)) :
    State.butDraws s t [Jvm.Choice.named "NaN.bits"] (fun t1 => Framed s o t1 (fieldLocs frame_1_writes args s ++ arrayLocs frame_1_arrays args s ++ staticLocs frame_1_statics s) 600002 7302232) := h
theorem lw_limb (L : Cond) (hL : ∀ (args : Array Value) (s t : State), L.after args s (.returned (some (.int 1))) t = true) :
    ArmFor flags0 classFile x code maxLocals ret World_1 tables_1 room_1 Calls_1 rest_1 Pre_1
      (fun tb e a s o t => postC L tb e a s o t ∧ State.butDraws s t [Jvm.Choice.named "NaN.bits"] (fun t1 => Framed s o t1 (fieldLocs frame_1_writes a s ++ arrayLocs frame_1_arrays a s ++ staticLocs frame_1_statics s) 600002 7302232)) := by
  intro l hflags _ _ p e ha hc hk s m args below hf hfit hheap happ hpre
  obtain ⟨k, o, h1, h2, h3, rfl, hF⟩ := lw_comes l hflags p e ha hc hk s m args below hf hfit hheap happ hpre
  exact ⟨k, _, h1, h2, h3, hL args s _, lw_frame hF⟩
theorem i_vc : Claimed_1_1 ∧ Claimed_1_2 := ⟨lw_limb limb_1_1 (fun args s t => by simp [limb_1_1, Cond.after, Cond.holds, Cond.value]), lw_limb limb_1_2 (fun args s t => Cond.after_iff.mpr (by
  first | (rw [show limb_1_2 = Cond.eq .result (.int 1) from rfl, Cond.eq_ints (x := 1) (y := 1) rfl rfl]; simp; done) | (simp [limb_1_2, Cond.value, Term.eval]; done)))⟩

